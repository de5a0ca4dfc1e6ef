/-! Arrays and habits that are made later. -/
/-- an int array of so many -/
noncomputable def IA (r : Nat) (n : Int) (M : mH) : Prop := hk M r = 1000 ∧ ((hz M r : Nat) : Int) = n ∧ ∀ i : Nat, (i : Int) < n → ∃ x : Int32, hv M r i = .int x
/-- the code of a habit -/
noncomputable def IC (r : Nat) (n : Int) (M : mH) : Prop := 111 ≤ r ∧ r < M.1 ∧ IA r n M ∧ n ≤ 400 ∧ ∀ j : Int, 0 ≤ j → j < n → 0 ≤ gi M r j ∧ (gi M r j % 16 = 1 → gi M r j / 16 ≤ 10)
noncomputable def IsHab (base hb : Nat) (nh nc : Int) (M : mH) : Prop := 111 ≤ hb ∧ hb + 3 < M.1 ∧ hk M hb = 3 ∧ hz M hb = 3 ∧ (hv M hb 0 = .ref (base + (hb + 1)) ∧ hv M hb 1 = .ref (base + (hb + 2)) ∧ hv M hb 2 = .ref (base + (hb + 3))) ∧ IA (hb + 1) nh M ∧ IA (hb + 2) nh M ∧ IC (hb + 3) nc M ∧ (0 ≤ nh ∧ nh ≤ 12) ∧ ∀ j : Int, 0 ≤ j → j < nh → 0 ≤ gi M (hb + 2) j ∧ gi M (hb + 2) j ≤ nc
/-- a cell is as it was -/
noncomputable def sameC (r : Nat) (M M' : mH) : Prop := hk M' r = hk M r ∧ hz M' r = hz M r ∧ ∀ i, hv M' r i = hv M r i
theorem sameC.gi {r : Nat} {M M' : mH} (h : sameC r M M') (j : Int) : gi M' r j = gi M r j := by unfold _root_.Jvm.Pilot.CGlassBoxLaw_law_r5389_4e1fe2.gi; rw [h.2.2]
theorem IA.of {r : Nat} {n : Int} {M M' : mH} (h : IA r n M) (s : sameC r M M') : IA r n M' := ⟨by rw [s.1]; exact h.1, by rw [s.2.1]; exact h.2.1, fun i hi => by rw [s.2.2]; exact h.2.2 i hi⟩
theorem IC.of {r : Nat} {n : Int} {M M' : mH} (h : IC r n M) (hn : M.1 ≤ M'.1) (s : sameC r M M') : IC r n M' := ⟨h.1, by have := h.2.1; omega, h.2.2.1.of s, h.2.2.2.1, fun j a b => by rw [s.gi]; exact h.2.2.2.2 j a b⟩
theorem IsHab.of {base hb : Nat} {nh nc : Int} {M M' : mH} (h : IsHab base hb nh nc M) (hn : M.1 ≤ M'.1) (s : ∀ r, hb ≤ r → r ≤ hb + 3 → sameC r M M') : IsHab base hb nh nc M' := by
  obtain ⟨h1, h2, h3, h4, ⟨h5, h6, h7⟩, h8, h9, h10, h11, h12⟩ := h
  have s0 := s hb (by omega) (by omega)
  refine ⟨h1, by omega, by rw [s0.1]; exact h3, by rw [s0.2.1]; exact h4, ⟨by rw [s0.2.2]; exact h5, by rw [s0.2.2]; exact h6, by rw [s0.2.2]; exact h7⟩, h8.of (s _ (by omega) (by omega)), h9.of (s _ (by omega) (by omega)), h10.of hn (s _ (by omega) (by omega)), h11, fun j a b => ?_⟩
  rw [(s (hb + 2) (by omega) (by omega)).gi]
  exact h12 j a b
theorem Fr.same {L : List (Nat × Nat)} {M M' : mH} (f : Fr L M M') (hc : s_al L (fun c => decide (c < 111)) = true) {r : Nat} (hr : 111 ≤ r) : sameC r M M' :=
  ⟨(f.2.2 r).1, (f.2.2 r).2.1, fun i => (f.2.2 r).2.2 i (s_al_ok hc (by simp; omega))⟩
theorem Wr.same {M M' : mH} {c i : Nat} {v : Value} (u : Wr M c i v M') {r : Nat} (hr : r ≠ c) : sameC r M M' := ⟨u.k r, u.z r, fun j => u.ne (Or.inl hr)⟩
theorem IC.fr {r : Nat} {n : Int} {L : List (Nat × Nat)} {M M' : mH} (h : IC r n M) (f : Fr L M M') (hc : s_al L (fun c => decide (c < 111)) = true) : IC r n M' := h.of (by rw [f.1]; exact Nat.le_refl _) (f.same hc h.1)
theorem IC.wr {r : Nat} {n : Int} {M M' : mH} {c i : Nat} {v : Value} (h : IC r n M) (u : Wr M c i v M') (hc : c < 111) : IC r n M' := h.of (by rw [u.n1]; exact Nat.le_refl _) (u.same (by have := h.1; omega))
theorem IsHab.fr {base hb : Nat} {nh nc : Int} {L : List (Nat × Nat)} {M M' : mH} (h : IsHab base hb nh nc M) (f : Fr L M M') (hc : s_al L (fun c => decide (c < 111)) = true) : IsHab base hb nh nc M' := h.of (by rw [f.1]; exact Nat.le_refl _) (fun r a _ => f.same hc (by have := h.1; omega))
theorem IsHab.wr {base hb : Nat} {nh nc : Int} {M M' : mH} {c i : Nat} {v : Value} (h : IsHab base hb nh nc M) (u : Wr M c i v M') (hc : c < 111) : IsHab base hb nh nc M' := h.of (by rw [u.n1]; exact Nat.le_refl _) (fun r a _ => u.same (by have := h.1; omega))
theorem IsHab.ic {base hb : Nat} {nh nc : Int} {M : mH} (h : IsHab base hb nh nc M) : IC (hb + 3) nc M := h.2.2.2.2.2.2.2.1
theorem nz_ne {a : Int} (h : nz a) : a ≠ 0 := fun e => h (by rw [e]; rfl)
section
variable {base : Nat} {X : Nat → Option mC} {G : Nat → Value} {d : Nat} {t : mT} {pc pc' : Nat} {lv : sL} {st : List mV} {M : mH} {Q : Option Value → mH → Prop}
theorem r_ialdD {r : Nat} {e n : Int} (hd : decode t.2.2.1 pc = .ok (.iaload, 1)) (hn : pc + 1 = pc') (hr : IA r n M) (hlt : r < M.1) (he : 0 ≤ e ∧ e < n ∧ e ≤ 2147483647) (h : ∀ w, w = gi M r e → inR w → sRn base X G d t pc' lv (vI w :: st) M Q) : sRn base X G d t pc lv (vI e :: vR r :: st) M Q := by
  obtain ⟨h1, h2, h3⟩ := hr
  obtain ⟨x, hx⟩ := h3 e.toNat (by omega)
  have hg : gi M r e = x.toInt := by unfold gi; rw [if_pos he.1, hx]; rfl
  refine r_ld (w := vR r) (x := M.2.2 r) (v := vI (gi M r e)) hd hn rfl rfl (m_at_own hlt) ?_ ⟨he.1, ?_, he.2.2⟩ ?_ (h _ rfl (by rw [hg]; exact inR_toInt x))
  · show (hk M r == 1000) = true
    rw [h1]; rfl
  · show e < (hz M r : Int)
    omega
  · show hv M r e.toNat = .int (Int32.ofInt (gi M r e))
    rw [hx, hg, Int32.ofInt_toInt]
theorem r_lenD {r : Nat} {n : Int} (hd : decode t.2.2.1 pc = .ok (.arraylength, 1)) (hn : pc + 1 = pc') (hr : IA r n M) (hlt : r < M.1) (h : sRn base X G d t pc' lv (vI n :: st) M Q) : sRn base X G d t pc lv (vR r :: st) M Q := by
  obtain ⟨h1, h2, -⟩ := hr
  refine r_lenv (w := vR r) (x := M.2.2 r) hd hn rfl (m_at_own hlt) (by show 1000 ≤ hk M r; rw [h1]; exact Nat.le_refl _) ?_
  rw [show ((M.2.2 r).2.1 : Int) = n from h2]
  exact h
theorem r_gfH {i hb k a : Nat} {nh nc : Int} (hd : decode t.2.2.1 pc = .ok (.getfield i, 3)) (hn : pc + 3 = pc') (ho : t.1 ≠ 13) (hf : m_fi t.1 i = some (3, k)) (hk3 : k < 3) (hh : IsHab base hb nh nc M) (hvv : hv M hb k = .ref (base + a)) (h : sRn base X G d t pc' lv (vR a :: st) M Q) : sRn base X G d t pc lv (vR hb :: st) M Q := by
  refine r_gv (v := vR a) hd hn ho hf (by have := hh.2.1; omega) hh.2.2.1 (by rw [hh.2.2.2.1]; exact hk3) hvv h
end
noncomputable def T8 : mT := (0, yX0_joined, cX0_joined, 5, (some .long))
set_option maxRecDepth 10000 in
theorem TE8 : sy_m[8]? = some T8 := rfl
theorem B8_0_1 : s_dk T8.2.2.1 0 [.iload_n 0] 1 = true := by decide +kernel
theorem D8_1 : decode T8.2.2.1 1 = .ok (.tableswitch 89 2 7 #[39, 43, 47, 51, 65, 77], 39) := by decide +kernel
theorem B8_40_43 : s_dk T8.2.2.1 40 [.lload_n 1, .lload_n 3, .ladd] 43 = true := by decide +kernel
theorem D8_43 : decode T8.2.2.1 43 = .ok (.lreturn, 1) := by decide +kernel
theorem B8_44_47 : s_dk T8.2.2.1 44 [.lload_n 1, .lload_n 3, .lsub] 47 = true := by decide +kernel
theorem D8_47 : decode T8.2.2.1 47 = .ok (.lreturn, 1) := by decide +kernel
theorem B8_48_51 : s_dk T8.2.2.1 48 [.lload_n 1, .lload_n 3, .lmul] 51 = true := by decide +kernel
theorem D8_51 : decode T8.2.2.1 51 = .ok (.lreturn, 1) := by decide +kernel
theorem B8_52_54 : s_dk T8.2.2.1 52 [.lload_n 3, .lconst 0] 54 = true := by decide +kernel
theorem D8_54 : decode T8.2.2.1 54 = .ok (.lcmp, 1) := by decide +kernel
theorem D8_55 : decode T8.2.2.1 55 = .ok (.ifCond .ne 7, 3) := by decide +kernel
theorem B8_62_64 : s_dk T8.2.2.1 62 [.lload_n 1, .lload_n 3] 64 = true := by decide +kernel
theorem D8_64 : decode T8.2.2.1 64 = .ok (.ldiv, 1) := by decide +kernel
theorem D8_65 : decode T8.2.2.1 65 = .ok (.lreturn, 1) := by decide +kernel
theorem B8_58_59 : s_dk T8.2.2.1 58 [.lconst 0] 59 = true := by decide +kernel
theorem D8_59 : decode T8.2.2.1 59 = .ok (.goto 6, 3) := by decide +kernel
theorem B8_66_68 : s_dk T8.2.2.1 66 [.lload_n 1, .lload_n 3] 68 = true := by decide +kernel
theorem D8_68 : decode T8.2.2.1 68 = .ok (.lcmp, 1) := by decide +kernel
theorem D8_69 : decode T8.2.2.1 69 = .ok (.ifCond .ge 7, 3) := by decide +kernel
theorem B8_76_77 : s_dk T8.2.2.1 76 [.lconst 0] 77 = true := by decide +kernel
theorem D8_77 : decode T8.2.2.1 77 = .ok (.lreturn, 1) := by decide +kernel
theorem B8_72_73 : s_dk T8.2.2.1 72 [.lconst 1] 73 = true := by decide +kernel
theorem D8_73 : decode T8.2.2.1 73 = .ok (.goto 4, 3) := by decide +kernel
theorem B8_78_80 : s_dk T8.2.2.1 78 [.lload_n 1, .lload_n 3] 80 = true := by decide +kernel
theorem D8_80 : decode T8.2.2.1 80 = .ok (.lcmp, 1) := by decide +kernel
theorem D8_81 : decode T8.2.2.1 81 = .ok (.ifCond .le 7, 3) := by decide +kernel
theorem B8_88_89 : s_dk T8.2.2.1 88 [.lconst 0] 89 = true := by decide +kernel
theorem D8_89 : decode T8.2.2.1 89 = .ok (.lreturn, 1) := by decide +kernel
theorem B8_84_85 : s_dk T8.2.2.1 84 [.lconst 1] 85 = true := by decide +kernel
theorem D8_85 : decode T8.2.2.1 85 = .ok (.goto 4, 3) := by decide +kernel
theorem B8_90_92 : s_dk T8.2.2.1 90 [.lload_n 1, .lload_n 3] 92 = true := by decide +kernel
theorem D8_92 : decode T8.2.2.1 92 = .ok (.lcmp, 1) := by decide +kernel
theorem D8_93 : decode T8.2.2.1 93 = .ok (.ifCond .ne 7, 3) := by decide +kernel
theorem B8_100_101 : s_dk T8.2.2.1 100 [.lconst 0] 101 = true := by decide +kernel
theorem D8_101 : decode T8.2.2.1 101 = .ok (.lreturn, 1) := by decide +kernel
theorem B8_96_97 : s_dk T8.2.2.1 96 [.lconst 1] 97 = true := by decide +kernel
theorem D8_97 : decode T8.2.2.1 97 = .ok (.goto 4, 3) := by decide +kernel
noncomputable def T7 : mT := (0, yX0_isBroken, cX0_isBroken, 9, (some .boolean))
set_option maxRecDepth 10000 in
theorem TE7 : sy_m[7]? = some T7 := rfl
theorem B7_0_1 : s_dk T7.2.2.1 0 [.aload_n 0] 1 = true := by decide +kernel
theorem gf_0_35_58 : s_gf 0 35 58 = some (6, 64) := by decide +kernel
theorem D7_1 : decode T7.2.2.1 1 = .ok (.getfield 35, 3) := by decide +kernel
theorem B7_4_7 : s_dk T7.2.2.1 4 [.iload_n 2, .iconst 1, .isub] 7 = true := by decide +kernel
theorem D7_7 : decode T7.2.2.1 7 = .ok (.laload, 1) := by decide +kernel
theorem B7_8_10 : s_dk T7.2.2.1 8 [.lstore_n 3, .aload_n 0] 10 = true := by decide +kernel
theorem D7_10 : decode T7.2.2.1 10 = .ok (.getfield 35, 3) := by decide +kernel
theorem B7_13_14 : s_dk T7.2.2.1 13 [.iload_n 2] 14 = true := by decide +kernel
theorem D7_14 : decode T7.2.2.1 14 = .ok (.laload, 1) := by decide +kernel
theorem B7_15_19 : s_dk T7.2.2.1 15 [.lstore 5, .iload_n 1, .iconst 5] 19 = true := by decide +kernel
theorem D7_19 : decode T7.2.2.1 19 = .ok (.if_icmp .ne 12, 3) := by decide +kernel
theorem B7_31_35 : s_dk T7.2.2.1 31 [.iload_n 1, .lload_n 3, .lload 5] 35 = true := by decide +kernel
theorem D7_35 : decode T7.2.2.1 35 = .ok (.invokestatic 151, 3) := by decide +kernel
theorem ck_0_static_151 : m_call 0 (.invokestatic 151) = some (1, 8, 3) := by decide +kernel
theorem B7_38_41 : s_dk T7.2.2.1 38 [.lstore 7, .aload_n 0] 41 = true := by decide +kernel
theorem D7_41 : decode T7.2.2.1 41 = .ok (.getfield 35, 3) := by decide +kernel
theorem B7_44_49 : s_dk T7.2.2.1 44 [.iload_n 2, .iconst 1, .isub, .lload 7] 49 = true := by decide +kernel
theorem D7_49 : decode T7.2.2.1 49 = .ok (.lastore, 1) := by decide +kernel
theorem B7_50_52 : s_dk T7.2.2.1 50 [.lload 7] 52 = true := by decide +kernel
theorem cl_0_155 : m_cl 0 155 = some (1000000000) := by decide +kernel
theorem D7_52 : decode T7.2.2.1 52 = .ok (.ldc2_w 155, 3) := by decide +kernel
theorem D7_55 : decode T7.2.2.1 55 = .ok (.lcmp, 1) := by decide +kernel
theorem D7_56 : decode T7.2.2.1 56 = .ok (.ifCond .gt 12, 3) := by decide +kernel
theorem B7_68_69 : s_dk T7.2.2.1 68 [.iconst 1] 69 = true := by decide +kernel
theorem D7_69 : decode T7.2.2.1 69 = .ok (.goto 4, 3) := by decide +kernel
theorem D7_73 : decode T7.2.2.1 73 = .ok (.ireturn, 1) := by decide +kernel
theorem B7_59_61 : s_dk T7.2.2.1 59 [.lload 7] 61 = true := by decide +kernel
theorem cl_0_157 : m_cl 0 157 = some (-1000000000) := by decide +kernel
theorem D7_61 : decode T7.2.2.1 61 = .ok (.ldc2_w 157, 3) := by decide +kernel
theorem D7_64 : decode T7.2.2.1 64 = .ok (.lcmp, 1) := by decide +kernel
theorem D7_65 : decode T7.2.2.1 65 = .ok (.ifCond .ge 7, 3) := by decide +kernel
theorem B7_72_73 : s_dk T7.2.2.1 72 [.iconst 0] 73 = true := by decide +kernel
theorem B7_22_25 : s_dk T7.2.2.1 22 [.lload 5, .lconst 0] 25 = true := by decide +kernel
theorem D7_25 : decode T7.2.2.1 25 = .ok (.lcmp, 1) := by decide +kernel
theorem D7_26 : decode T7.2.2.1 26 = .ok (.ifCond .ne 5, 3) := by decide +kernel
theorem B7_29_30 : s_dk T7.2.2.1 29 [.iconst 1] 30 = true := by decide +kernel
theorem D7_30 : decode T7.2.2.1 30 = .ok (.ireturn, 1) := by decide +kernel
noncomputable def T6 : mT := (0, yX0_isSo, cX0_isSo, 10, (some .boolean))
set_option maxRecDepth 10000 in
theorem TE6 : sy_m[6]? = some T6 := rfl
theorem B6_0_9 : s_dk T6.2.2.1 0 [.iconst 0, .istore 4, .iload_n 2, .istore 5, .iconst 0, .istore 6] 9 = true := by decide +kernel
theorem B6_9_14 : s_dk T6.2.2.1 9 [.iload 6, .sipush 400] 14 = true := by decide +kernel
theorem D6_14 : decode T6.2.2.1 14 = .ok (.if_icmp .ge 222, 3) := by decide +kernel
theorem B6_17_20 : s_dk T6.2.2.1 17 [.iload 5, .iload_n 3] 20 = true := by decide +kernel
theorem D6_20 : decode T6.2.2.1 20 = .ok (.if_icmp .ge 216, 3) := by decide +kernel
theorem B6_236_238 : s_dk T6.2.2.1 236 [.iload 4] 238 = true := by decide +kernel
theorem D6_238 : decode T6.2.2.1 238 = .ok (.ifCond .le 21, 3) := by decide +kernel
theorem B6_259_260 : s_dk T6.2.2.1 259 [.iconst 0] 260 = true := by decide +kernel
theorem D6_260 : decode T6.2.2.1 260 = .ok (.ireturn, 1) := by decide +kernel
theorem B6_23_26 : s_dk T6.2.2.1 23 [.aload_n 1, .iload 5] 26 = true := by decide +kernel
theorem D6_26 : decode T6.2.2.1 26 = .ok (.iaload, 1) := by decide +kernel
theorem B6_27_29 : s_dk T6.2.2.1 27 [.bipush 15] 29 = true := by decide +kernel
theorem D6_29 : decode T6.2.2.1 29 = .ok (.iand, 1) := by decide +kernel
theorem B6_30_35 : s_dk T6.2.2.1 30 [.istore 7, .aload_n 1, .iload 5] 35 = true := by decide +kernel
theorem D6_35 : decode T6.2.2.1 35 = .ok (.iaload, 1) := by decide +kernel
theorem B6_36_37 : s_dk T6.2.2.1 36 [.iconst 4] 37 = true := by decide +kernel
theorem D6_37 : decode T6.2.2.1 37 = .ok (.ishr, 1) := by decide +kernel
theorem B6_38_46 : s_dk T6.2.2.1 38 [.istore 8, .iinc 5 1, .iload 7, .iconst 1] 46 = true := by decide +kernel
theorem D6_46 : decode T6.2.2.1 46 = .ok (.if_icmp .gt 43, 3) := by decide +kernel
theorem B6_89_92 : s_dk T6.2.2.1 89 [.iload 4, .iconst 1] 92 = true := by decide +kernel
theorem D6_92 : decode T6.2.2.1 92 = .ok (.if_icmp .ge 5, 3) := by decide +kernel
theorem B6_95_96 : s_dk T6.2.2.1 95 [.iconst 0] 96 = true := by decide +kernel
theorem D6_96 : decode T6.2.2.1 96 = .ok (.ireturn, 1) := by decide +kernel
theorem B6_49_53 : s_dk T6.2.2.1 49 [.iload 4, .bipush 64] 53 = true := by decide +kernel
theorem D6_53 : decode T6.2.2.1 53 = .ok (.if_icmp .lt 5, 3) := by decide +kernel
theorem B6_58_59 : s_dk T6.2.2.1 58 [.aload_n 0] 59 = true := by decide +kernel
theorem D6_59 : decode T6.2.2.1 59 = .ok (.getfield 35, 3) := by decide +kernel
theorem B6_62_66 : s_dk T6.2.2.1 62 [.iload 4, .iload 7] 66 = true := by decide +kernel
theorem D6_66 : decode T6.2.2.1 66 = .ok (.ifCond .ne 9, 3) := by decide +kernel
theorem B6_75_76 : s_dk T6.2.2.1 75 [.aload_n 0] 76 = true := by decide +kernel
theorem gf_0_28_58 : s_gf 0 28 58 = some (4, 63) := by decide +kernel
theorem D6_76 : decode T6.2.2.1 76 = .ok (.getfield 28, 3) := by decide +kernel
theorem B6_79_81 : s_dk T6.2.2.1 79 [.iload 8] 81 = true := by decide +kernel
theorem D6_81 : decode T6.2.2.1 81 = .ok (.laload, 1) := by decide +kernel
theorem D6_82 : decode T6.2.2.1 82 = .ok (.lastore, 1) := by decide +kernel
theorem B6_83_86 : s_dk T6.2.2.1 83 [.iinc 4 1] 86 = true := by decide +kernel
theorem D6_86 : decode T6.2.2.1 86 = .ok (.goto 144, 3) := by decide +kernel
theorem B6_230_233 : s_dk T6.2.2.1 230 [.iinc 6 1] 233 = true := by decide +kernel
theorem D6_233 : decode T6.2.2.1 233 = .ok (.goto (-224), 3) := by decide +kernel
theorem B6_69_71 : s_dk T6.2.2.1 69 [.iload 8] 71 = true := by decide +kernel
theorem D6_71 : decode T6.2.2.1 71 = .ok (.i2l, 1) := by decide +kernel
theorem D6_72 : decode T6.2.2.1 72 = .ok (.goto 10, 3) := by decide +kernel
theorem B6_241_242 : s_dk T6.2.2.1 241 [.aload_n 0] 242 = true := by decide +kernel
theorem D6_242 : decode T6.2.2.1 242 = .ok (.getfield 35, 3) := by decide +kernel
theorem B6_245_249 : s_dk T6.2.2.1 245 [.iload 4, .iconst 1, .isub] 249 = true := by decide +kernel
theorem D6_249 : decode T6.2.2.1 249 = .ok (.laload, 1) := by decide +kernel
theorem B6_250_251 : s_dk T6.2.2.1 250 [.lconst 0] 251 = true := by decide +kernel
theorem D6_251 : decode T6.2.2.1 251 = .ok (.lcmp, 1) := by decide +kernel
theorem D6_252 : decode T6.2.2.1 252 = .ok (.ifCond .eq 7, 3) := by decide +kernel
theorem B6_255_256 : s_dk T6.2.2.1 255 [.iconst 1] 256 = true := by decide +kernel
theorem D6_256 : decode T6.2.2.1 256 = .ok (.goto 4, 3) := by decide +kernel
theorem B6_97_101 : s_dk T6.2.2.1 97 [.iload 7, .bipush 9] 101 = true := by decide +kernel
theorem D6_101 : decode T6.2.2.1 101 = .ok (.if_icmp .ne 26, 3) := by decide +kernel
theorem B6_127_131 : s_dk T6.2.2.1 127 [.iload 7, .bipush 10] 131 = true := by decide +kernel
theorem D6_131 : decode T6.2.2.1 131 = .ok (.if_icmp .lt 77, 3) := by decide +kernel
theorem B6_208_214 : s_dk T6.2.2.1 208 [.iinc 4 (-1), .iload 4, .iconst 1] 214 = true := by decide +kernel
theorem D6_214 : decode T6.2.2.1 214 = .ok (.if_icmp .lt 14, 3) := by decide +kernel
theorem B6_228_229 : s_dk T6.2.2.1 228 [.iconst 0] 229 = true := by decide +kernel
theorem D6_229 : decode T6.2.2.1 229 = .ok (.ireturn, 1) := by decide +kernel
theorem B6_134_135 : s_dk T6.2.2.1 134 [.aload_n 0] 135 = true := by decide +kernel
theorem D6_135 : decode T6.2.2.1 135 = .ok (.getfield 35, 3) := by decide +kernel
theorem B6_138_142 : s_dk T6.2.2.1 138 [.iload 4, .iconst 1, .isub] 142 = true := by decide +kernel
theorem D6_142 : decode T6.2.2.1 142 = .ok (.laload, 1) := by decide +kernel
theorem B6_143_144 : s_dk T6.2.2.1 143 [.lconst 0] 144 = true := by decide +kernel
theorem D6_144 : decode T6.2.2.1 144 = .ok (.lcmp, 1) := by decide +kernel
theorem D6_145 : decode T6.2.2.1 145 = .ok (.ifCond .eq 7, 3) := by decide +kernel
theorem B6_152_157 : s_dk T6.2.2.1 152 [.iconst 0, .iload 7, .bipush 11] 157 = true := by decide +kernel
theorem D6_157 : decode T6.2.2.1 157 = .ok (.if_icmp .ne 7, 3) := by decide +kernel
theorem B6_164_165 : s_dk T6.2.2.1 164 [.iconst 0] 165 = true := by decide +kernel
theorem D6_165 : decode T6.2.2.1 165 = .ok (.if_icmp .ne 7, 3) := by decide +kernel
theorem B6_168_169 : s_dk T6.2.2.1 168 [.iconst 1] 169 = true := by decide +kernel
theorem D6_169 : decode T6.2.2.1 169 = .ok (.goto 4, 3) := by decide +kernel
theorem B6_173_177 : s_dk T6.2.2.1 173 [.istore 9, .iload 9] 177 = true := by decide +kernel
theorem D6_177 : decode T6.2.2.1 177 = .ok (.ifCond .eq 8, 3) := by decide +kernel
theorem B6_180_182 : s_dk T6.2.2.1 180 [.iload 8] 182 = true := by decide +kernel
theorem D6_182 : decode T6.2.2.1 182 = .ok (.goto 5, 3) := by decide +kernel
theorem B6_187_191 : s_dk T6.2.2.1 187 [.istore 5, .iload 9] 191 = true := by decide +kernel
theorem D6_191 : decode T6.2.2.1 191 = .ok (.ifCond .eq 8, 3) := by decide +kernel
theorem B6_194_196 : s_dk T6.2.2.1 194 [.iload 4] 196 = true := by decide +kernel
theorem D6_196 : decode T6.2.2.1 196 = .ok (.goto 7, 3) := by decide +kernel
theorem B6_203_205 : s_dk T6.2.2.1 203 [.istore 4] 205 = true := by decide +kernel
theorem D6_205 : decode T6.2.2.1 205 = .ok (.goto 25, 3) := by decide +kernel
theorem B6_160_161 : s_dk T6.2.2.1 160 [.iconst 1] 161 = true := by decide +kernel
theorem D6_161 : decode T6.2.2.1 161 = .ok (.goto 4, 3) := by decide +kernel
theorem B6_172_177 : s_dk T6.2.2.1 172 [.iconst 0, .istore 9, .iload 9] 177 = true := by decide +kernel
theorem B6_185_191 : s_dk T6.2.2.1 185 [.iload 5, .istore 5, .iload 9] 191 = true := by decide +kernel
theorem B6_199_205 : s_dk T6.2.2.1 199 [.iload 4, .iconst 1, .isub, .istore 4] 205 = true := by decide +kernel
theorem B6_148_149 : s_dk T6.2.2.1 148 [.iconst 1] 149 = true := by decide +kernel
theorem D6_149 : decode T6.2.2.1 149 = .ok (.goto 4, 3) := by decide +kernel
theorem B6_153_157 : s_dk T6.2.2.1 153 [.iload 7, .bipush 11] 157 = true := by decide +kernel
theorem B6_104_105 : s_dk T6.2.2.1 104 [.aload_n 0] 105 = true := by decide +kernel
theorem D6_105 : decode T6.2.2.1 105 = .ok (.getfield 35, 3) := by decide +kernel
theorem B6_108_114 : s_dk T6.2.2.1 108 [.iload 4, .iconst 1, .isub, .lconst 1, .aload_n 0] 114 = true := by decide +kernel
theorem D6_114 : decode T6.2.2.1 114 = .ok (.getfield 35, 3) := by decide +kernel
theorem B6_117_121 : s_dk T6.2.2.1 117 [.iload 4, .iconst 1, .isub] 121 = true := by decide +kernel
theorem D6_121 : decode T6.2.2.1 121 = .ok (.laload, 1) := by decide +kernel
theorem B6_122_123 : s_dk T6.2.2.1 122 [.lsub] 123 = true := by decide +kernel
theorem D6_123 : decode T6.2.2.1 123 = .ok (.lastore, 1) := by decide +kernel
theorem D6_124 : decode T6.2.2.1 124 = .ok (.goto 106, 3) := by decide +kernel
theorem B6_217_222 : s_dk T6.2.2.1 217 [.aload_n 0, .iload 7, .iload 4] 222 = true := by decide +kernel
theorem D6_222 : decode T6.2.2.1 222 = .ok (.invokevirtual 147, 3) := by decide +kernel
theorem ck_0_virtual_147 : m_call 0 (.invokevirtual 147) = some (0, 7, 2) := by decide +kernel
theorem D6_225 : decode T6.2.2.1 225 = .ok (.ifCond .eq 5, 3) := by decide +kernel
theorem B6_56_57 : s_dk T6.2.2.1 56 [.iconst 0] 57 = true := by decide +kernel
theorem D6_57 : decode T6.2.2.1 57 = .ok (.ireturn, 1) := by decide +kernel
noncomputable def T5 : mT := (0, yX0_possible, cX0_possible, 7, (some .int))
set_option maxRecDepth 10000 in
theorem TE5 : sy_m[5]? = some T5 := rfl
theorem B5_0_1 : s_dk T5.2.2.1 0 [.aload_n 0] 1 = true := by decide +kernel
theorem gf_0_25_58 : s_gf 0 25 58 = some (3, 1) := by decide +kernel
theorem D5_1 : decode T5.2.2.1 1 = .ok (.getfield 25, 3) := by decide +kernel
theorem D5_4 : decode T5.2.2.1 4 = .ok (.invokestatic 64, 3) := by decide +kernel
theorem ck_0_static_64 : m_call 0 (.invokestatic 64) = some (1, 42, 1) := by decide +kernel
theorem B5_7_10 : s_dk T5.2.2.1 7 [.istore 4, .iload_n 2] 10 = true := by decide +kernel
theorem D5_10 : decode T5.2.2.1 10 = .ok (.ifCond .ne 18, 3) := by decide +kernel
theorem B5_28_30 : s_dk T5.2.2.1 28 [.iload_n 2, .iconst 5] 30 = true := by decide +kernel
theorem D5_30 : decode T5.2.2.1 30 = .ok (.if_icmp .ne 8, 3) := by decide +kernel
theorem B5_38_41 : s_dk T5.2.2.1 38 [.iload 4, .iconst 3] 41 = true := by decide +kernel
theorem D5_41 : decode T5.2.2.1 41 = .ok (.if_icmp .lt 5, 3) := by decide +kernel
theorem B5_46_50 : s_dk T5.2.2.1 46 [.aload_n 1, .iload_n 3, .iload 4] 50 = true := by decide +kernel
theorem D5_50 : decode T5.2.2.1 50 = .ok (.invokevirtual 73, 3) := by decide +kernel
theorem ck_0_virtual_73 : m_call 0 (.invokevirtual 73) = some (0, 85, 2) := by decide +kernel
theorem B5_53_56 : s_dk T5.2.2.1 53 [.istore 5, .aload_n 1] 56 = true := by decide +kernel
theorem gf_0_84_20 : s_gf 0 84 20 = some (7, 31) := by decide +kernel
theorem D5_56 : decode T5.2.2.1 56 = .ok (.getfield 84, 3) := by decide +kernel
theorem B5_59_61 : s_dk T5.2.2.1 59 [.iload 5] 61 = true := by decide +kernel
theorem D5_61 : decode T5.2.2.1 61 = .ok (.iaload, 1) := by decide +kernel
theorem B5_62_63 : s_dk T5.2.2.1 62 [.iconst (-1)] 63 = true := by decide +kernel
theorem D5_63 : decode T5.2.2.1 63 = .ok (.if_icmp .eq 7, 3) := by decide +kernel
theorem B5_70_74 : s_dk T5.2.2.1 70 [.iconst 0, .istore 6, .iload_n 2] 74 = true := by decide +kernel
theorem D5_74 : decode T5.2.2.1 74 = .ok (.tableswitch 60 1 3 #[26, 37, 58], 26) := by decide +kernel
theorem B5_100_102 : s_dk T5.2.2.1 100 [.iload 6] 102 = true := by decide +kernel
theorem D5_102 : decode T5.2.2.1 102 = .ok (.ifCond .eq 7, 3) := by decide +kernel
theorem B5_109_110 : s_dk T5.2.2.1 109 [.iconst (-1)] 110 = true := by decide +kernel
theorem D5_110 : decode T5.2.2.1 110 = .ok (.ireturn, 1) := by decide +kernel
theorem B5_111_113 : s_dk T5.2.2.1 111 [.iload 6] 113 = true := by decide +kernel
theorem D5_113 : decode T5.2.2.1 113 = .ok (.ifCond .ne 17, 3) := by decide +kernel
theorem B5_116_117 : s_dk T5.2.2.1 116 [.aload_n 1] 117 = true := by decide +kernel
theorem gf_0_141_20 : s_gf 0 141 20 = some (10, 34) := by decide +kernel
theorem D5_117 : decode T5.2.2.1 117 = .ok (.getfield 141, 3) := by decide +kernel
theorem B5_120_122 : s_dk T5.2.2.1 120 [.iload 5] 122 = true := by decide +kernel
theorem D5_122 : decode T5.2.2.1 122 = .ok (.iaload, 1) := by decide +kernel
theorem D5_123 : decode T5.2.2.1 123 = .ok (.ifCond .le 7, 3) := by decide +kernel
theorem B5_130_131 : s_dk T5.2.2.1 130 [.iconst (-1)] 131 = true := by decide +kernel
theorem D5_131 : decode T5.2.2.1 131 = .ok (.ireturn, 1) := by decide +kernel
theorem B5_126_127 : s_dk T5.2.2.1 126 [.iconst 2] 127 = true := by decide +kernel
theorem D5_127 : decode T5.2.2.1 127 = .ok (.goto 4, 3) := by decide +kernel
theorem B5_132_133 : s_dk T5.2.2.1 132 [.iconst 3] 133 = true := by decide +kernel
theorem D5_133 : decode T5.2.2.1 133 = .ok (.ireturn, 1) := by decide +kernel
theorem B5_134_136 : s_dk T5.2.2.1 134 [.iload 6] 136 = true := by decide +kernel
theorem D5_136 : decode T5.2.2.1 136 = .ok (.ifCond .eq 7, 3) := by decide +kernel
theorem B5_143_146 : s_dk T5.2.2.1 143 [.bipush 10, .aload_n 1] 146 = true := by decide +kernel
theorem gf_0_144_20 : s_gf 0 144 20 = some (8, 32) := by decide +kernel
theorem D5_146 : decode T5.2.2.1 146 = .ok (.getfield 144, 3) := by decide +kernel
theorem B5_149_151 : s_dk T5.2.2.1 149 [.iload 5] 151 = true := by decide +kernel
theorem D5_151 : decode T5.2.2.1 151 = .ok (.iaload, 1) := by decide +kernel
theorem B5_152_153 : s_dk T5.2.2.1 152 [.iadd] 153 = true := by decide +kernel
theorem D5_153 : decode T5.2.2.1 153 = .ok (.ireturn, 1) := by decide +kernel
theorem B5_66_67 : s_dk T5.2.2.1 66 [.iconst 1] 67 = true := by decide +kernel
theorem D5_67 : decode T5.2.2.1 67 = .ok (.goto 4, 3) := by decide +kernel
theorem B5_71_74 : s_dk T5.2.2.1 71 [.istore 6, .iload_n 2] 74 = true := by decide +kernel
theorem B5_105_106 : s_dk T5.2.2.1 105 [.iconst 1] 106 = true := by decide +kernel
theorem D5_106 : decode T5.2.2.1 106 = .ok (.goto 4, 3) := by decide +kernel
theorem B5_139_140 : s_dk T5.2.2.1 139 [.iconst (-1)] 140 = true := by decide +kernel
theorem D5_140 : decode T5.2.2.1 140 = .ok (.goto 13, 3) := by decide +kernel
theorem B5_44_45 : s_dk T5.2.2.1 44 [.iconst (-1)] 45 = true := by decide +kernel
theorem D5_45 : decode T5.2.2.1 45 = .ok (.ireturn, 1) := by decide +kernel
theorem B5_33_34 : s_dk T5.2.2.1 33 [.aload_n 0] 34 = true := by decide +kernel
theorem gf_0_32_58 : s_gf 0 32 58 = some (5, 1) := by decide +kernel
theorem D5_34 : decode T5.2.2.1 34 = .ok (.getfield 32, 3) := by decide +kernel
theorem D5_37 : decode T5.2.2.1 37 = .ok (.ireturn, 1) := by decide +kernel
theorem B5_13_14 : s_dk T5.2.2.1 13 [.aload_n 1] 14 = true := by decide +kernel
theorem gf_0_87_20 : s_gf 0 87 20 = some (4, 28) := by decide +kernel
theorem D5_14 : decode T5.2.2.1 14 = .ok (.getfield 87, 3) := by decide +kernel
theorem B5_17_18 : s_dk T5.2.2.1 17 [.iload_n 3] 18 = true := by decide +kernel
theorem D5_18 : decode T5.2.2.1 18 = .ok (.baload, 1) := by decide +kernel
theorem D5_19 : decode T5.2.2.1 19 = .ok (.ifCond .eq 7, 3) := by decide +kernel
theorem B5_26_27 : s_dk T5.2.2.1 26 [.iconst 0] 27 = true := by decide +kernel
theorem D5_27 : decode T5.2.2.1 27 = .ok (.ireturn, 1) := by decide +kernel
theorem B5_22_23 : s_dk T5.2.2.1 22 [.iconst (-1)] 23 = true := by decide +kernel
theorem D5_23 : decode T5.2.2.1 23 = .ok (.goto 4, 3) := by decide +kernel
noncomputable def T3 : mT := (0, yX0_askMends, cX0_askMends, 5, (some .int))
set_option maxRecDepth 10000 in
theorem TE3 : sy_m[3]? = some T3 := rfl
theorem B3_0_4 : s_dk T3.2.2.1 0 [.iconst 0, .istore_n 3, .aload_n 0, .iconst (-1)] 4 = true := by decide +kernel
theorem pf_0_32_58 : s_pf 0 32 58 = some (5, 1) := by decide +kernel
theorem D3_4 : decode T3.2.2.1 4 = .ok (.putfield 32, 3) := by decide +kernel
theorem B3_7_10 : s_dk T3.2.2.1 7 [.iconst 2, .istore 4] 10 = true := by decide +kernel
theorem B3_10_12 : s_dk T3.2.2.1 10 [.iload 4] 12 = true := by decide +kernel
theorem D3_12 : decode T3.2.2.1 12 = .ok (.ifCond .lt 35, 3) := by decide +kernel
theorem B3_15_18 : s_dk T3.2.2.1 15 [.aload_n 1, .iload_n 2, .aload_n 0] 18 = true := by decide +kernel
theorem D3_18 : decode T3.2.2.1 18 = .ok (.getfield 25, 3) := by decide +kernel
theorem B3_21_23 : s_dk T3.2.2.1 21 [.iload 4] 23 = true := by decide +kernel
theorem D3_23 : decode T3.2.2.1 23 = .ok (.invokevirtual 118, 3) := by decide +kernel
theorem ck_0_virtual_118 : m_call 0 (.invokevirtual 118) = some (0, 87, 3) := by decide +kernel
theorem D3_26 : decode T3.2.2.1 26 = .ok (.ifCond .eq 15, 3) := by decide +kernel
theorem B3_41_44 : s_dk T3.2.2.1 41 [.iinc 4 (-1)] 44 = true := by decide +kernel
theorem D3_44 : decode T3.2.2.1 44 = .ok (.goto (-34), 3) := by decide +kernel
theorem B3_29_38 : s_dk T3.2.2.1 29 [.iinc 3 1, .aload_n 0, .bipush 20, .iload 4, .iadd] 38 = true := by decide +kernel
theorem D3_38 : decode T3.2.2.1 38 = .ok (.putfield 32, 3) := by decide +kernel
theorem B3_47_48 : s_dk T3.2.2.1 47 [.iload_n 3] 48 = true := by decide +kernel
theorem D3_48 : decode T3.2.2.1 48 = .ok (.ireturn, 1) := by decide +kernel
noncomputable def T2 : mT := (0, yX0_askAll, cX0_askAll, 7, none)
set_option maxRecDepth 10000 in
theorem TE2 : sy_m[2]? = some T2 := rfl
theorem B2_0_1 : s_dk T2.2.2.1 0 [.aload_n 0] 1 = true := by decide +kernel
theorem D2_1 : decode T2.2.2.1 1 = .ok (.getfield 25, 3) := by decide +kernel
theorem D2_4 : decode T2.2.2.1 4 = .ok (.invokestatic 64, 3) := by decide +kernel
theorem B2_7_12 : s_dk T2.2.2.1 7 [.istore 4, .iload 4, .iconst 3] 12 = true := by decide +kernel
theorem D2_12 : decode T2.2.2.1 12 = .ok (.if_icmp .ge 13, 3) := by decide +kernel
theorem B2_25_29 : s_dk T2.2.2.1 25 [.iconst (-1), .istore 5, .aload_n 1] 29 = true := by decide +kernel
theorem gf_0_76_20 : s_gf 0 76 20 = some (2, 26) := by decide +kernel
theorem D2_29 : decode T2.2.2.1 29 = .ok (.getfield 76, 3) := by decide +kernel
theorem B2_32_33 : s_dk T2.2.2.1 32 [.iload_n 2] 33 = true := by decide +kernel
theorem D2_33 : decode T2.2.2.1 33 = .ok (.iaload, 1) := by decide +kernel
theorem B2_34_35 : s_dk T2.2.2.1 34 [.iconst 1] 35 = true := by decide +kernel
theorem D2_35 : decode T2.2.2.1 35 = .ok (.invokestatic 79, 3) := by decide +kernel
theorem mc_0_static_79 : m_call 0 (.invokestatic 79) = none := by decide +kernel
theorem sp_0_79 : m_sp 0 79 = some 2 := by decide +kernel
theorem B2_38_41 : s_dk T2.2.2.1 38 [.istore 6, .aload_n 0] 41 = true := by decide +kernel
theorem D2_41 : decode T2.2.2.1 41 = .ok (.getfield 28, 3) := by decide +kernel
theorem B2_44_48 : s_dk T2.2.2.1 44 [.iconst 0, .iload 5, .iconst (-1)] 48 = true := by decide +kernel
theorem D2_48 : decode T2.2.2.1 48 = .ok (.if_icmp .eq 18, 3) := by decide +kernel
theorem B2_66_67 : s_dk T2.2.2.1 66 [.lconst 0] 67 = true := by decide +kernel
theorem D2_67 : decode T2.2.2.1 67 = .ok (.lastore, 1) := by decide +kernel
theorem B2_68_69 : s_dk T2.2.2.1 68 [.aload_n 0] 69 = true := by decide +kernel
theorem D2_69 : decode T2.2.2.1 69 = .ok (.getfield 28, 3) := by decide +kernel
theorem B2_72_74 : s_dk T2.2.2.1 72 [.iconst 1, .aload_n 1] 74 = true := by decide +kernel
theorem D2_74 : decode T2.2.2.1 74 = .ok (.getfield 87, 3) := by decide +kernel
theorem B2_77_78 : s_dk T2.2.2.1 77 [.iload_n 2] 78 = true := by decide +kernel
theorem D2_78 : decode T2.2.2.1 78 = .ok (.baload, 1) := by decide +kernel
theorem D2_79 : decode T2.2.2.1 79 = .ok (.ifCond .eq 7, 3) := by decide +kernel
theorem B2_86_87 : s_dk T2.2.2.1 86 [.lconst 0] 87 = true := by decide +kernel
theorem D2_87 : decode T2.2.2.1 87 = .ok (.lastore, 1) := by decide +kernel
theorem B2_88_89 : s_dk T2.2.2.1 88 [.aload_n 0] 89 = true := by decide +kernel
theorem D2_89 : decode T2.2.2.1 89 = .ok (.getfield 28, 3) := by decide +kernel
theorem B2_92_97 : s_dk T2.2.2.1 92 [.iconst 2, .aload_n 1, .iload_n 2, .iload 4] 97 = true := by decide +kernel
theorem D2_97 : decode T2.2.2.1 97 = .ok (.invokevirtual 91, 3) := by decide +kernel
theorem ck_0_virtual_91 : m_call 0 (.invokevirtual 91) = some (0, 90, 2) := by decide +kernel
theorem D2_100 : decode T2.2.2.1 100 = .ok (.i2l, 1) := by decide +kernel
theorem D2_101 : decode T2.2.2.1 101 = .ok (.lastore, 1) := by decide +kernel
theorem B2_102_103 : s_dk T2.2.2.1 102 [.aload_n 0] 103 = true := by decide +kernel
theorem D2_103 : decode T2.2.2.1 103 = .ok (.getfield 28, 3) := by decide +kernel
theorem B2_106_108 : s_dk T2.2.2.1 106 [.iconst 3, .aload_n 1] 108 = true := by decide +kernel
theorem gf_0_94_20 : s_gf 0 94 20 = some (13, 37) := by decide +kernel
theorem D2_108 : decode T2.2.2.1 108 = .ok (.getfield 94, 3) := by decide +kernel
theorem B2_111_112 : s_dk T2.2.2.1 111 [.iconst 0] 112 = true := by decide +kernel
theorem D2_112 : decode T2.2.2.1 112 = .ok (.iaload, 1) := by decide +kernel
theorem D2_113 : decode T2.2.2.1 113 = .ok (.i2l, 1) := by decide +kernel
theorem D2_114 : decode T2.2.2.1 114 = .ok (.lastore, 1) := by decide +kernel
theorem B2_115_116 : s_dk T2.2.2.1 115 [.aload_n 0] 116 = true := by decide +kernel
theorem D2_116 : decode T2.2.2.1 116 = .ok (.getfield 28, 3) := by decide +kernel
theorem B2_119_122 : s_dk T2.2.2.1 119 [.iconst 4, .iload 4] 122 = true := by decide +kernel
theorem D2_122 : decode T2.2.2.1 122 = .ok (.i2l, 1) := by decide +kernel
theorem D2_123 : decode T2.2.2.1 123 = .ok (.lastore, 1) := by decide +kernel
theorem B2_124_125 : s_dk T2.2.2.1 124 [.aload_n 0] 125 = true := by decide +kernel
theorem D2_125 : decode T2.2.2.1 125 = .ok (.getfield 28, 3) := by decide +kernel
theorem B2_128_132 : s_dk T2.2.2.1 128 [.iconst 5, .iload 5, .iconst (-1)] 132 = true := by decide +kernel
theorem D2_132 : decode T2.2.2.1 132 = .ok (.if_icmp .ne 7, 3) := by decide +kernel
theorem B2_135_136 : s_dk T2.2.2.1 135 [.lconst 0] 136 = true := by decide +kernel
theorem D2_136 : decode T2.2.2.1 136 = .ok (.goto 17, 3) := by decide +kernel
theorem D2_153 : decode T2.2.2.1 153 = .ok (.lastore, 1) := by decide +kernel
theorem B2_154_155 : s_dk T2.2.2.1 154 [.aload_n 0] 155 = true := by decide +kernel
theorem D2_155 : decode T2.2.2.1 155 = .ok (.getfield 28, 3) := by decide +kernel
theorem B2_158_163 : s_dk T2.2.2.1 158 [.bipush 6, .iload 5, .iconst (-1)] 163 = true := by decide +kernel
theorem D2_163 : decode T2.2.2.1 163 = .ok (.if_icmp .ne 7, 3) := by decide +kernel
theorem B2_166_167 : s_dk T2.2.2.1 166 [.lconst 0] 167 = true := by decide +kernel
theorem D2_167 : decode T2.2.2.1 167 = .ok (.goto 14, 3) := by decide +kernel
theorem D2_181 : decode T2.2.2.1 181 = .ok (.lastore, 1) := by decide +kernel
theorem B2_182_183 : s_dk T2.2.2.1 182 [.aload_n 0] 183 = true := by decide +kernel
theorem D2_183 : decode T2.2.2.1 183 = .ok (.getfield 28, 3) := by decide +kernel
theorem B2_186_189 : s_dk T2.2.2.1 186 [.bipush 7, .iload_n 3] 189 = true := by decide +kernel
theorem D2_189 : decode T2.2.2.1 189 = .ok (.i2l, 1) := by decide +kernel
theorem D2_190 : decode T2.2.2.1 190 = .ok (.lastore, 1) := by decide +kernel
theorem B2_191_192 : s_dk T2.2.2.1 191 [.aload_n 0] 192 = true := by decide +kernel
theorem D2_192 : decode T2.2.2.1 192 = .ok (.getfield 28, 3) := by decide +kernel
theorem B2_195_198 : s_dk T2.2.2.1 195 [.bipush 8, .aload_n 1] 198 = true := by decide +kernel
theorem gf_0_108_20 : s_gf 0 108 20 = some (17, 1) := by decide +kernel
theorem D2_198 : decode T2.2.2.1 198 = .ok (.getfield 108, 3) := by decide +kernel
theorem D2_201 : decode T2.2.2.1 201 = .ok (.i2l, 1) := by decide +kernel
theorem D2_202 : decode T2.2.2.1 202 = .ok (.lastore, 1) := by decide +kernel
theorem B2_203_204 : s_dk T2.2.2.1 203 [.aload_n 0] 204 = true := by decide +kernel
theorem D2_204 : decode T2.2.2.1 204 = .ok (.getfield 28, 3) := by decide +kernel
theorem B2_207_212 : s_dk T2.2.2.1 207 [.bipush 9, .aload_n 0, .aload_n 1, .iload_n 2] 212 = true := by decide +kernel
theorem D2_212 : decode T2.2.2.1 212 = .ok (.invokevirtual 111, 3) := by decide +kernel
theorem ck_0_virtual_111 : m_call 0 (.invokevirtual 111) = some (0, 3, 2) := by decide +kernel
theorem D2_215 : decode T2.2.2.1 215 = .ok (.i2l, 1) := by decide +kernel
theorem D2_216 : decode T2.2.2.1 216 = .ok (.lastore, 1) := by decide +kernel
theorem B2_217_218 : s_dk T2.2.2.1 217 [.aload_n 0] 218 = true := by decide +kernel
theorem D2_218 : decode T2.2.2.1 218 = .ok (.getfield 28, 3) := by decide +kernel
theorem B2_221_224 : s_dk T2.2.2.1 221 [.bipush 10, .aload_n 1] 224 = true := by decide +kernel
theorem gf_0_115_20 : s_gf 0 115 20 = some (3, 27) := by decide +kernel
theorem D2_224 : decode T2.2.2.1 224 = .ok (.getfield 115, 3) := by decide +kernel
theorem B2_227_228 : s_dk T2.2.2.1 227 [.iload_n 2] 228 = true := by decide +kernel
theorem D2_228 : decode T2.2.2.1 228 = .ok (.iaload, 1) := by decide +kernel
theorem D2_229 : decode T2.2.2.1 229 = .ok (.i2l, 1) := by decide +kernel
theorem D2_230 : decode T2.2.2.1 230 = .ok (.lastore, 1) := by decide +kernel
theorem D2_231 : decode T2.2.2.1 231 = .ok (.return_, 1) := by decide +kernel
theorem B2_82_83 : s_dk T2.2.2.1 82 [.lconst 1] 83 = true := by decide +kernel
theorem D2_83 : decode T2.2.2.1 83 = .ok (.goto 4, 3) := by decide +kernel
theorem B2_15_19 : s_dk T2.2.2.1 15 [.aload_n 1, .iload_n 2, .iload 4] 19 = true := by decide +kernel
theorem D2_19 : decode T2.2.2.1 19 = .ok (.invokevirtual 73, 3) := by decide +kernel
theorem D2_22 : decode T2.2.2.1 22 = .ok (.goto 4, 3) := by decide +kernel
theorem B2_26_29 : s_dk T2.2.2.1 26 [.istore 5, .aload_n 1] 29 = true := by decide +kernel
theorem B2_51_52 : s_dk T2.2.2.1 51 [.aload_n 1] 52 = true := by decide +kernel
theorem D2_52 : decode T2.2.2.1 52 = .ok (.getfield 84, 3) := by decide +kernel
theorem B2_55_57 : s_dk T2.2.2.1 55 [.iload 5] 57 = true := by decide +kernel
theorem D2_57 : decode T2.2.2.1 57 = .ok (.iaload, 1) := by decide +kernel
theorem B2_58_59 : s_dk T2.2.2.1 58 [.iconst (-1)] 59 = true := by decide +kernel
theorem D2_59 : decode T2.2.2.1 59 = .ok (.if_icmp .eq 7, 3) := by decide +kernel
theorem B2_139_140 : s_dk T2.2.2.1 139 [.aload_n 1] 140 = true := by decide +kernel
theorem gf_0_97_20 : s_gf 0 97 20 = some (9, 33) := by decide +kernel
theorem D2_140 : decode T2.2.2.1 140 = .ok (.getfield 97, 3) := by decide +kernel
theorem B2_143_145 : s_dk T2.2.2.1 143 [.iload 5] 145 = true := by decide +kernel
theorem D2_145 : decode T2.2.2.1 145 = .ok (.iaload, 1) := by decide +kernel
theorem B2_146_151 : s_dk T2.2.2.1 146 [.bipush 100, .imul, .iload 6] 151 = true := by decide +kernel
theorem D2_151 : decode T2.2.2.1 151 = .ok (.idiv, 1) := by decide +kernel
theorem D2_152 : decode T2.2.2.1 152 = .ok (.i2l, 1) := by decide +kernel
theorem B2_170_171 : s_dk T2.2.2.1 170 [.aload_n 1] 171 = true := by decide +kernel
theorem gf_0_100_20 : s_gf 0 100 20 = some (6, 30) := by decide +kernel
theorem D2_171 : decode T2.2.2.1 171 = .ok (.getfield 100, 3) := by decide +kernel
theorem B2_174_176 : s_dk T2.2.2.1 174 [.iload 5] 176 = true := by decide +kernel
theorem D2_176 : decode T2.2.2.1 176 = .ok (.iaload, 1) := by decide +kernel
theorem D2_177 : decode T2.2.2.1 177 = .ok (.invokestatic 103, 3) := by decide +kernel
theorem ck_0_static_103 : m_call 0 (.invokestatic 103) = some (1, 267, 1) := by decide +kernel
theorem D2_180 : decode T2.2.2.1 180 = .ok (.i2l, 1) := by decide +kernel
theorem B2_62_63 : s_dk T2.2.2.1 62 [.lconst 1] 63 = true := by decide +kernel
theorem D2_63 : decode T2.2.2.1 63 = .ok (.goto 4, 3) := by decide +kernel
noncomputable def T4 : mT := (0, yX0_chooseBy, cX0_chooseBy, 8, (some .int))
set_option maxRecDepth 10000 in
theorem TE4 : sy_m[4]? = some T4 := rfl
theorem B4_0_6 : s_dk T4.2.2.1 0 [.iconst 0, .istore 4, .iconst 0, .istore 5] 6 = true := by decide +kernel
theorem B4_6_9 : s_dk T4.2.2.1 6 [.iload 5, .aload_n 2] 9 = true := by decide +kernel
theorem D4_9 : decode T4.2.2.1 9 = .ok (.getfield 122, 3) := by decide +kernel
theorem fi_0_122 : m_fi 0 122 = some (3, 0) := by decide +kernel
theorem D4_12 : decode T4.2.2.1 12 = .ok (.arraylength, 1) := by decide +kernel
theorem D4_13 : decode T4.2.2.1 13 = .ok (.if_icmp .ge 68, 3) := by decide +kernel
theorem B4_81_82 : s_dk T4.2.2.1 81 [.aload_n 0] 82 = true := by decide +kernel
theorem D4_82 : decode T4.2.2.1 82 = .ok (.getfield 28, 3) := by decide +kernel
theorem B4_85_86 : s_dk T4.2.2.1 85 [.iconst 0] 86 = true := by decide +kernel
theorem D4_86 : decode T4.2.2.1 86 = .ok (.laload, 1) := by decide +kernel
theorem B4_87_88 : s_dk T4.2.2.1 87 [.lconst 0] 88 = true := by decide +kernel
theorem D4_88 : decode T4.2.2.1 88 = .ok (.lcmp, 1) := by decide +kernel
theorem D4_89 : decode T4.2.2.1 89 = .ok (.ifCond .eq 5, 3) := by decide +kernel
theorem B4_94_95 : s_dk T4.2.2.1 94 [.aload_n 1] 95 = true := by decide +kernel
theorem D4_95 : decode T4.2.2.1 95 = .ok (.getfield 87, 3) := by decide +kernel
theorem B4_98_99 : s_dk T4.2.2.1 98 [.iload_n 3] 99 = true := by decide +kernel
theorem D4_99 : decode T4.2.2.1 99 = .ok (.baload, 1) := by decide +kernel
theorem D4_100 : decode T4.2.2.1 100 = .ok (.ifCond .ne 5, 3) := by decide +kernel
theorem B4_105_106 : s_dk T4.2.2.1 105 [.aload_n 0] 106 = true := by decide +kernel
theorem D4_106 : decode T4.2.2.1 106 = .ok (.getfield 25, 3) := by decide +kernel
theorem D4_109 : decode T4.2.2.1 109 = .ok (.invokestatic 64, 3) := by decide +kernel
theorem B4_112_113 : s_dk T4.2.2.1 112 [.iconst 3] 113 = true := by decide +kernel
theorem D4_113 : decode T4.2.2.1 113 = .ok (.if_icmp .ne 7, 3) := by decide +kernel
theorem B4_120_121 : s_dk T4.2.2.1 120 [.iconst 3] 121 = true := by decide +kernel
theorem D4_121 : decode T4.2.2.1 121 = .ok (.ireturn, 1) := by decide +kernel
theorem B4_116_117 : s_dk T4.2.2.1 116 [.iconst 4] 117 = true := by decide +kernel
theorem D4_117 : decode T4.2.2.1 117 = .ok (.goto 4, 3) := by decide +kernel
theorem B4_103_104 : s_dk T4.2.2.1 103 [.iconst 0] 104 = true := by decide +kernel
theorem D4_104 : decode T4.2.2.1 104 = .ok (.ireturn, 1) := by decide +kernel
theorem B4_92_93 : s_dk T4.2.2.1 92 [.iconst 1] 93 = true := by decide +kernel
theorem D4_93 : decode T4.2.2.1 93 = .ok (.ireturn, 1) := by decide +kernel
theorem B4_16_17 : s_dk T4.2.2.1 16 [.aload_n 2] 17 = true := by decide +kernel
theorem D4_17 : decode T4.2.2.1 17 = .ok (.getfield 127, 3) := by decide +kernel
theorem fi_0_127 : m_fi 0 127 = some (3, 1) := by decide +kernel
theorem B4_20_22 : s_dk T4.2.2.1 20 [.iload 5] 22 = true := by decide +kernel
theorem D4_22 : decode T4.2.2.1 22 = .ok (.iaload, 1) := by decide +kernel
theorem B4_23_28 : s_dk T4.2.2.1 23 [.istore 6, .aload_n 0, .aload_n 1, .aload_n 2] 28 = true := by decide +kernel
theorem D4_28 : decode T4.2.2.1 28 = .ok (.getfield 122, 3) := by decide +kernel
theorem B4_31_33 : s_dk T4.2.2.1 31 [.iload 5] 33 = true := by decide +kernel
theorem D4_33 : decode T4.2.2.1 33 = .ok (.iaload, 1) := by decide +kernel
theorem B4_34_35 : s_dk T4.2.2.1 34 [.iload_n 3] 35 = true := by decide +kernel
theorem D4_35 : decode T4.2.2.1 35 = .ok (.invokevirtual 130, 3) := by decide +kernel
theorem ck_0_virtual_130 : m_call 0 (.invokevirtual 130) = some (0, 5, 3) := by decide +kernel
theorem B4_38_43 : s_dk T4.2.2.1 38 [.istore 7, .iload 7, .iconst (-1)] 43 = true := by decide +kernel
theorem D4_43 : decode T4.2.2.1 43 = .ok (.if_icmp .eq 28, 3) := by decide +kernel
theorem B4_71_78 : s_dk T4.2.2.1 71 [.iload 6, .istore 4, .iinc 5 1] 78 = true := by decide +kernel
theorem D4_78 : decode T4.2.2.1 78 = .ok (.goto (-72), 3) := by decide +kernel
theorem B4_46_50 : s_dk T4.2.2.1 46 [.iload 4, .iload 6] 50 = true := by decide +kernel
theorem D4_50 : decode T4.2.2.1 50 = .ok (.if_icmp .eq 18, 3) := by decide +kernel
theorem B4_68_70 : s_dk T4.2.2.1 68 [.iload 7] 70 = true := by decide +kernel
theorem D4_70 : decode T4.2.2.1 70 = .ok (.ireturn, 1) := by decide +kernel
theorem B4_53_55 : s_dk T4.2.2.1 53 [.aload_n 0, .aload_n 2] 55 = true := by decide +kernel
theorem D4_55 : decode T4.2.2.1 55 = .ok (.getfield 134, 3) := by decide +kernel
theorem fi_0_134 : m_fi 0 134 = some (3, 2) := by decide +kernel
theorem B4_58_62 : s_dk T4.2.2.1 58 [.iload 4, .iload 6] 62 = true := by decide +kernel
theorem D4_62 : decode T4.2.2.1 62 = .ok (.invokevirtual 137, 3) := by decide +kernel
theorem ck_0_virtual_137 : m_call 0 (.invokevirtual 137) = some (0, 6, 3) := by decide +kernel
theorem D4_65 : decode T4.2.2.1 65 = .ok (.ifCond .eq 6, 3) := by decide +kernel
noncomputable def T1 : mT := (0, yX0_play, cX0_play, 8, (some .int))
set_option maxRecDepth 10000 in
theorem TE1 : sy_m[1]? = some T1 := rfl
theorem B1_0_5 : s_dk T1.2.2.1 0 [.iconst 0, .istore 4, .aload_n 0, .iconst 0] 5 = true := by decide +kernel
theorem pf_0_25_58 : s_pf 0 25 58 = some (3, 1) := by decide +kernel
theorem D1_5 : decode T1.2.2.1 5 = .ok (.putfield 25, 3) := by decide +kernel
theorem B1_8_10 : s_dk T1.2.2.1 8 [.aload_n 0, .iconst 0] 10 = true := by decide +kernel
theorem pf_0_17_58 : s_pf 0 17 58 = some (1, 1) := by decide +kernel
theorem D1_10 : decode T1.2.2.1 10 = .ok (.putfield 17, 3) := by decide +kernel
theorem B1_13_15 : s_dk T1.2.2.1 13 [.aload_n 0, .lconst 1] 15 = true := by decide +kernel
theorem pf_0_21_58 : s_pf 0 21 58 = some (2, 3) := by decide +kernel
theorem D1_15 : decode T1.2.2.1 15 = .ok (.putfield 21, 3) := by decide +kernel
theorem B1_18_21 : s_dk T1.2.2.1 18 [.iconst 0, .istore 5] 21 = true := by decide +kernel
theorem B1_21_25 : s_dk T1.2.2.1 21 [.iload 5, .bipush 12] 25 = true := by decide +kernel
theorem D1_25 : decode T1.2.2.1 25 = .ok (.if_icmp .ge 139, 3) := by decide +kernel
theorem B1_28_32 : s_dk T1.2.2.1 28 [.aload_n 1, .iload_n 3, .iload 5] 32 = true := by decide +kernel
theorem D1_32 : decode T1.2.2.1 32 = .ok (.invokevirtual 38, 3) := by decide +kernel
theorem ck_0_virtual_38 : m_call 0 (.invokevirtual 38) = some (0, 84, 2) := by decide +kernel
theorem B1_35_43 : s_dk T1.2.2.1 35 [.istore 6, .aload_n 0, .aload_n 1, .iload 6, .iload 5] 43 = true := by decide +kernel
theorem D1_43 : decode T1.2.2.1 43 = .ok (.invokevirtual 44, 3) := by decide +kernel
theorem ck_0_virtual_44 : m_call 0 (.invokevirtual 44) = some (0, 2, 3) := by decide +kernel
theorem B1_46_51 : s_dk T1.2.2.1 46 [.aload_n 0, .aload_n 1, .aload_n 2, .iload 6] 51 = true := by decide +kernel
theorem D1_51 : decode T1.2.2.1 51 = .ok (.invokevirtual 48, 3) := by decide +kernel
theorem ck_0_virtual_48 : m_call 0 (.invokevirtual 48) = some (0, 4, 3) := by decide +kernel
theorem B1_54_57 : s_dk T1.2.2.1 54 [.istore 7, .aload_n 0] 57 = true := by decide +kernel
theorem gf_0_13_58 : s_gf 0 13 58 = some (0, 62) := by decide +kernel
theorem D1_57 : decode T1.2.2.1 57 = .ok (.getfield 13, 3) := by decide +kernel
theorem B1_60_64 : s_dk T1.2.2.1 60 [.iload 5, .iload 7] 64 = true := by decide +kernel
theorem D1_64 : decode T1.2.2.1 64 = .ok (.iastore, 1) := by decide +kernel
theorem B1_65_70 : s_dk T1.2.2.1 65 [.aload_n 0, .iload 5, .iconst 1, .iadd] 70 = true := by decide +kernel
theorem D1_70 : decode T1.2.2.1 70 = .ok (.putfield 17, 3) := by decide +kernel
theorem B1_73_75 : s_dk T1.2.2.1 73 [.aload_n 0, .aload_n 0] 75 = true := by decide +kernel
theorem gf_0_21_58 : s_gf 0 21 58 = some (2, 2) := by decide +kernel
theorem D1_75 : decode T1.2.2.1 75 = .ok (.getfield 21, 3) := by decide +kernel
theorem B1_78_79 : s_dk T1.2.2.1 78 [.iconst 5] 79 = true := by decide +kernel
theorem D1_79 : decode T1.2.2.1 79 = .ok (.lshl, 1) := by decide +kernel
theorem B1_80_82 : s_dk T1.2.2.1 80 [.iload 7] 82 = true := by decide +kernel
theorem D1_82 : decode T1.2.2.1 82 = .ok (.i2l, 1) := by decide +kernel
theorem D1_83 : decode T1.2.2.1 83 = .ok (.lor, 1) := by decide +kernel
theorem D1_84 : decode T1.2.2.1 84 = .ok (.putfield 21, 3) := by decide +kernel
theorem B1_87_90 : s_dk T1.2.2.1 87 [.iload 7, .iconst 4] 90 = true := by decide +kernel
theorem D1_90 : decode T1.2.2.1 90 = .ok (.if_icmp .ne 17, 3) := by decide +kernel
theorem B1_107_113 : s_dk T1.2.2.1 107 [.iload 4, .aload_n 1, .iload 6, .aload_n 0] 113 = true := by decide +kernel
theorem D1_113 : decode T1.2.2.1 113 = .ok (.getfield 25, 3) := by decide +kernel
theorem B1_116_118 : s_dk T1.2.2.1 116 [.iload 7] 118 = true := by decide +kernel
theorem D1_118 : decode T1.2.2.1 118 = .ok (.invokevirtual 57, 3) := by decide +kernel
theorem ck_0_virtual_57 : m_call 0 (.invokevirtual 57) = some (0, 93, 3) := by decide +kernel
theorem B1_121_129 : s_dk T1.2.2.1 121 [.iadd, .istore 4, .aload_n 0, .aload_n 1, .iload 6, .aload_n 0] 129 = true := by decide +kernel
theorem D1_129 : decode T1.2.2.1 129 = .ok (.getfield 25, 3) := by decide +kernel
theorem B1_132_134 : s_dk T1.2.2.1 132 [.iload 7] 134 = true := by decide +kernel
theorem D1_134 : decode T1.2.2.1 134 = .ok (.invokevirtual 61, 3) := by decide +kernel
theorem ck_0_virtual_61 : m_call 0 (.invokevirtual 61) = some (0, 89, 3) := by decide +kernel
theorem D1_137 : decode T1.2.2.1 137 = .ok (.putfield 25, 3) := by decide +kernel
theorem B1_140_146 : s_dk T1.2.2.1 140 [.iload 4, .aload_n 1, .iload 6, .aload_n 0] 146 = true := by decide +kernel
theorem D1_146 : decode T1.2.2.1 146 = .ok (.getfield 25, 3) := by decide +kernel
theorem D1_149 : decode T1.2.2.1 149 = .ok (.invokestatic 64, 3) := by decide +kernel
theorem D1_152 : decode T1.2.2.1 152 = .ok (.invokevirtual 70, 3) := by decide +kernel
theorem ck_0_virtual_70 : m_call 0 (.invokevirtual 70) = some (0, 92, 2) := by decide +kernel
theorem B1_155_161 : s_dk T1.2.2.1 155 [.iadd, .istore 4, .iinc 5 1] 161 = true := by decide +kernel
theorem D1_161 : decode T1.2.2.1 161 = .ok (.goto (-140), 3) := by decide +kernel
theorem B1_93_99 : s_dk T1.2.2.1 93 [.iload 4, .aload_n 1, .iload 6, .aload_n 0] 99 = true := by decide +kernel
theorem D1_99 : decode T1.2.2.1 99 = .ok (.getfield 25, 3) := by decide +kernel
theorem D1_102 : decode T1.2.2.1 102 = .ok (.invokevirtual 54, 3) := by decide +kernel
theorem ck_0_virtual_54 : m_call 0 (.invokevirtual 54) = some (0, 94, 2) := by decide +kernel
theorem B1_105_106 : s_dk T1.2.2.1 105 [.iadd] 106 = true := by decide +kernel
theorem D1_106 : decode T1.2.2.1 106 = .ok (.ireturn, 1) := by decide +kernel
theorem B1_164_166 : s_dk T1.2.2.1 164 [.iload 4] 166 = true := by decide +kernel
theorem D1_166 : decode T1.2.2.1 166 = .ok (.ireturn, 1) := by decide +kernel
theorem gf_0_35_62 : s_gf 0 35 62 = some (6, 68) := by decide +kernel
theorem gf_0_28_62 : s_gf 0 28 62 = some (4, 67) := by decide +kernel
theorem gf_0_25_62 : s_gf 0 25 62 = some (3, 1) := by decide +kernel
theorem gf_0_32_62 : s_gf 0 32 62 = some (5, 1) := by decide +kernel
theorem pf_0_32_62 : s_pf 0 32 62 = some (5, 1) := by decide +kernel
theorem pf_0_25_62 : s_pf 0 25 62 = some (3, 1) := by decide +kernel
theorem pf_0_17_62 : s_pf 0 17 62 = some (1, 1) := by decide +kernel
theorem pf_0_21_62 : s_pf 0 21 62 = some (2, 3) := by decide +kernel
theorem gf_0_13_62 : s_gf 0 13 62 = some (0, 66) := by decide +kernel
theorem gf_0_21_62 : s_gf 0 21 62 = some (2, 2) := by decide +kernel
set_option maxRecDepth 4000 in
theorem k8x {base : Nat} {X : Nat → Option mC} {G : Nat → Value} (E : EnvOK base X G) {d : Nat} (hd : 0 ≤ d) {M : mH} (H : HI base M) (operation : Int) (left : Int) (right : Int) (h0 : -2147483648 ≤ operation ∧ operation ≤ 2147483647) : sOk base X G d T8 [vI operation, vL left, vL right] M (pL (fun v M' => M' = M ∧ True)) := by
  refine sOk.of (show sRn base X G d T8 0 [(0, vI operation), (1, vL left), (3, vL right)] [] M _ from ?_)
  refine s_blx (lv' := [(0, vI operation), (1, vL left), (3, vL right)]) (st' := [vI operation]) B8_0_1 rfl ?_
  refine r_tsw (tgt := fun k => if k = 2 then 40 else if k = 3 then 44 else if k = 4 then 48 else if k = 5 then 52 else if k = 6 then 66 else if k = 7 then 78 else 0) (td := 90) D8_1 (by unfold inR; omega) ?_ rfl ?_ ?_
  · intro k h1 h2
    have hk : k = 2 ∨ k = 3 ∨ k = 4 ∨ k = 5 ∨ k = 6 ∨ k = 7 := by omega
    rcases hk with rfl | rfl | rfl | rfl | rfl | rfl <;> exact ⟨_, rfl, rfl⟩
  · intro k h1 h2 c1
    have hk : k = 2 ∨ k = 3 ∨ k = 4 ∨ k = 5 ∨ k = 6 ∨ k = 7 := by omega
    clear h1 h2
    rcases hk with rfl | rfl | rfl | rfl | rfl | rfl
    · show sRn _ _ _ _ _ 40 _ _ _ _
      refine s_blx (lv' := [(0, vI operation), (1, vL left), (3, vL right)]) (st' := [vL (left + right)]) B8_40_43 rfl ?_
      exact r_lretL D8_43 rfl (⟨rfl, trivial⟩)
    · show sRn _ _ _ _ _ 44 _ _ _ _
      refine s_blx (lv' := [(0, vI operation), (1, vL left), (3, vL right)]) (st' := [vL (left - right)]) B8_44_47 rfl ?_
      exact r_lretL D8_47 rfl (⟨rfl, trivial⟩)
    · show sRn _ _ _ _ _ 48 _ _ _ _
      refine s_blx (lv' := [(0, vI operation), (1, vL left), (3, vL right)]) (st' := [vL (left * right)]) B8_48_51 rfl ?_
      exact r_lretL D8_51 rfl (⟨rfl, trivial⟩)
    · show sRn _ _ _ _ _ 52 _ _ _ _
      refine s_blx (lv' := [(0, vI operation), (1, vL left), (3, vL right)]) (st' := [vL 0, vL right]) B8_52_54 rfl ?_
      refine r_lcmpz (pc' := 55) D8_54 rfl ?_
      intro z2 r3 r4 knz
      refine r_ifc (tgt := 62) (pc' := 58) D8_55 rfl rfl (by unfold inR; omega) (fun (c5 : z2 ≠ 0) => ?_) (fun (c5 : ¬ (z2 ≠ 0)) => ?_)
      · refine s_blx (lv' := [(0, vI operation), (1, vL left), (3, vL right)]) (st' := [vL right, vL left]) B8_62_64 rfl ?_
        refine r_ldivz (pc' := 65) D8_64 rfl (knz (by omega)) ?_
        intro z6 _
        exact r_lretL D8_65 rfl (⟨rfl, trivial⟩)
      · refine s_blx (lv' := [(0, vI operation), (1, vL left), (3, vL right)]) (st' := [vL 0]) B8_58_59 rfl ?_
        refine r_goto (tgt := 65) D8_59 rfl ?_
        exact r_lretL D8_65 rfl (⟨rfl, trivial⟩)
    · show sRn _ _ _ _ _ 66 _ _ _ _
      refine s_blx (lv' := [(0, vI operation), (1, vL left), (3, vL right)]) (st' := [vL right, vL left]) B8_66_68 rfl ?_
      refine r_lcmp (pc' := 69) D8_68 rfl ?_
      intro z7 r8 r9
      refine r_ifc (tgt := 76) (pc' := 72) D8_69 rfl rfl (by unfold inR; omega) (fun (c10 : 0 ≤ z7) => ?_) (fun (c10 : ¬ (0 ≤ z7)) => ?_)
      · refine s_blx (lv' := [(0, vI operation), (1, vL left), (3, vL right)]) (st' := [vL 0]) B8_76_77 rfl ?_
        exact r_lretL D8_77 rfl (⟨rfl, trivial⟩)
      · refine s_blx (lv' := [(0, vI operation), (1, vL left), (3, vL right)]) (st' := [vL 1]) B8_72_73 rfl ?_
        refine r_goto (tgt := 77) D8_73 rfl ?_
        exact r_lretL D8_77 rfl (⟨rfl, trivial⟩)
    · show sRn _ _ _ _ _ 78 _ _ _ _
      refine s_blx (lv' := [(0, vI operation), (1, vL left), (3, vL right)]) (st' := [vL right, vL left]) B8_78_80 rfl ?_
      refine r_lcmp (pc' := 81) D8_80 rfl ?_
      intro z11 r12 r13
      refine r_ifc (tgt := 88) (pc' := 84) D8_81 rfl rfl (by unfold inR; omega) (fun (c14 : z11 ≤ 0) => ?_) (fun (c14 : ¬ (z11 ≤ 0)) => ?_)
      · refine s_blx (lv' := [(0, vI operation), (1, vL left), (3, vL right)]) (st' := [vL 0]) B8_88_89 rfl ?_
        exact r_lretL D8_89 rfl (⟨rfl, trivial⟩)
      · refine s_blx (lv' := [(0, vI operation), (1, vL left), (3, vL right)]) (st' := [vL 1]) B8_84_85 rfl ?_
        refine r_goto (tgt := 89) D8_85 rfl ?_
        exact r_lretL D8_89 rfl (⟨rfl, trivial⟩)
  · intro c1
    refine s_blx (lv' := [(0, vI operation), (1, vL left), (3, vL right)]) (st' := [vL right, vL left]) B8_90_92 rfl ?_
    refine r_lcmp (pc' := 93) D8_92 rfl ?_
    intro z15 r16 r17
    refine r_ifc (tgt := 100) (pc' := 96) D8_93 rfl rfl (by unfold inR; omega) (fun (c18 : z15 ≠ 0) => ?_) (fun (c18 : ¬ (z15 ≠ 0)) => ?_)
    · refine s_blx (lv' := [(0, vI operation), (1, vL left), (3, vL right)]) (st' := [vL 0]) B8_100_101 rfl ?_
      exact r_lretL D8_101 rfl (⟨rfl, trivial⟩)
    · refine s_blx (lv' := [(0, vI operation), (1, vL left), (3, vL right)]) (st' := [vL 1]) B8_96_97 rfl ?_
      refine r_goto (tgt := 101) D8_97 rfl ?_
      exact r_lretL D8_101 rfl (⟨rfl, trivial⟩)
set_option maxRecDepth 4000 in
theorem k7_58x {base : Nat} {X : Nat → Option mC} {G : Nat → Value} (E : EnvOK base X G) {d : Nat} (hd : 1 ≤ d) {M : mH} (H : HI base M) (operation : Int) (top : Int) (h0 : -2147483648 ≤ operation ∧ operation ≤ 2147483647) (h1 : 1 ≤ top ∧ top ≤ 63) : sOk base X G d T7 [vR 58, vI operation, vI top] M (pI (fun v M' => HI base M' ∧ Fr [(61, 0)] M M' ∧ (v = 0 ∨ v = 1))) := by
  have f0 : Fr [(61, 0)] M M := Fr.rf
  refine sOk.of (show sRn base X G d T7 0 [(0, vR 58), (1, vI operation), (2, vI top)] [] M _ from ?_)
  refine s_blx (lv' := [(0, vR 58), (1, vI operation), (2, vI top)]) (st' := [vR 58]) B7_0_1 rfl ?_
  refine r_gfix (r := 61) (pc' := 4) D7_1 rfl gf_0_35_58 H.1 ?_
  refine s_blx (lv' := [(0, vR 58), (1, vI operation), (2, vI top)]) (st' := [vI (top - 1), vR 61]) B7_4_7 rfl ?_
  refine r_lald (pc' := 8) D7_7 rfl sc_61 H.1 (by omega) ?_
  intro w1 e2 r3
  clear r3
  refine s_blx (lv' := [(3, vL w1), (0, vR 58), (1, vI operation), (2, vI top)]) (st' := [vR 58]) B7_8_10 rfl ?_
  refine r_gfix (r := 61) (pc' := 13) D7_10 rfl gf_0_35_58 H.1 ?_
  refine s_blx (lv' := [(3, vL w1), (0, vR 58), (1, vI operation), (2, vI top)]) (st' := [vI top, vR 61]) B7_13_14 rfl ?_
  refine r_lald (pc' := 15) D7_14 rfl sc_61 H.1 (by omega) ?_
  intro w4 e5 r6
  clear r6
  refine s_blx (lv' := [(5, vL w4), (3, vL w1), (0, vR 58), (1, vI operation), (2, vI top)]) (st' := [vI 5, vI operation]) B7_15_19 rfl ?_
  refine r_icmp (tgt := 31) (pc' := 22) D7_19 rfl rfl (by unfold inR; omega) (fun (c7 : operation ≠ 5) => ?_) (fun (c7 : ¬ (operation ≠ 5)) => ?_)
  · refine s_blx (lv' := [(5, vL w4), (3, vL w1), (0, vR 58), (1, vI operation), (2, vI top)]) (st' := [vL w4, vL w1, vI operation]) B7_31_35 rfl ?_
    refine r_sLp (args := [vI operation, vL w1, vL w4]) (rest := []) (pc' := 38) D7_35 rfl ck_0_static_151 TE8 rfl (Nat.le_of_ble_eq_true rfl) ⟨Nat.le_of_ble_eq_true rfl, Nat.le_of_ble_eq_true rfl⟩ (by decide) (dp_0 hd rfl) (k8x E (dp_n hd rfl) H operation w1 w4 (by omega)) ?_
    intro v8 q10
    refine s_blx (lv' := [(7, vL v8), (5, vL w4), (3, vL w1), (0, vR 58), (1, vI operation), (2, vI top)]) (st' := [vR 58]) B7_38_41 rfl ?_
    refine r_gfix (r := 61) (pc' := 44) D7_41 rfl gf_0_35_58 H.1 ?_
    refine s_blx (lv' := [(7, vL v8), (5, vL w4), (3, vL w1), (0, vR 58), (1, vI operation), (2, vI top)]) (st' := [vL v8, vI (top - 1), vR 61]) B7_44_49 rfl ?_
    refine r_normL ?_
    intro z11 r12 _; unfold inJ at r12
    refine r_last (pc' := 50) D7_49 rfl sc_61 H (by omega) (by unfold inJ; omega) trivial ?_
    intro M13 u14 H15 p16
    have f17 := f0.wr u14 rfl
    refine s_blx (lv' := [(7, vL v8), (5, vL w4), (3, vL w1), (0, vR 58), (1, vI operation), (2, vI top)]) (st' := [vL v8]) B7_50_52 rfl ?_
    refine r_ldc2 (e := 1000000000) (pc' := 55) D7_52 rfl cl_0_155 (by decide) ?_
    refine r_lcmp (pc' := 56) D7_55 rfl ?_
    intro z18 r19 r20
    refine r_ifc (tgt := 68) (pc' := 59) D7_56 rfl rfl (by unfold inR; omega) (fun (c21 : 0 < z18) => ?_) (fun (c21 : ¬ (0 < z18)) => ?_)
    · refine s_blx (lv' := [(7, vL v8), (5, vL w4), (3, vL w1), (0, vR 58), (1, vI operation), (2, vI top)]) (st' := [vI 1]) B7_68_69 rfl ?_
      refine r_goto (tgt := 73) D7_69 rfl ?_
      exact r_zretI D7_73 rfl (by omega) (⟨H15, f17, by omega⟩)
    · refine s_blx (lv' := [(7, vL v8), (5, vL w4), (3, vL w1), (0, vR 58), (1, vI operation), (2, vI top)]) (st' := [vL v8]) B7_59_61 rfl ?_
      refine r_ldc2 (e := (-1000000000)) (pc' := 64) D7_61 rfl cl_0_157 (by decide) ?_
      refine r_lcmp (pc' := 65) D7_64 rfl ?_
      intro z22 r23 r24
      refine r_ifc (tgt := 72) (pc' := 68) D7_65 rfl rfl (by unfold inR; omega) (fun (c25 : 0 ≤ z22) => ?_) (fun (c25 : ¬ (0 ≤ z22)) => ?_)
      · refine s_blx (lv' := [(7, vL v8), (5, vL w4), (3, vL w1), (0, vR 58), (1, vI operation), (2, vI top)]) (st' := [vI 0]) B7_72_73 rfl ?_
        exact r_zretI D7_73 rfl (by omega) (⟨H15, f17, by omega⟩)
      · refine s_blx (lv' := [(7, vL v8), (5, vL w4), (3, vL w1), (0, vR 58), (1, vI operation), (2, vI top)]) (st' := [vI 1]) B7_68_69 rfl ?_
        refine r_goto (tgt := 73) D7_69 rfl ?_
        exact r_zretI D7_73 rfl (by omega) (⟨H15, f17, by omega⟩)
  · refine s_blx (lv' := [(5, vL w4), (3, vL w1), (0, vR 58), (1, vI operation), (2, vI top)]) (st' := [vL 0, vL w4]) B7_22_25 rfl ?_
    refine r_lcmpz (pc' := 26) D7_25 rfl ?_
    intro z26 r27 r28 knz
    refine r_ifc (tgt := 31) (pc' := 29) D7_26 rfl rfl (by unfold inR; omega) (fun (c29 : z26 ≠ 0) => ?_) (fun (c29 : ¬ (z26 ≠ 0)) => ?_)
    · refine s_blx (lv' := [(5, vL w4), (3, vL w1), (0, vR 58), (1, vI operation), (2, vI top)]) (st' := [vL w4, vL w1, vI operation]) B7_31_35 rfl ?_
      refine r_sLp (args := [vI operation, vL w1, vL w4]) (rest := []) (pc' := 38) D7_35 rfl ck_0_static_151 TE8 rfl (Nat.le_of_ble_eq_true rfl) ⟨Nat.le_of_ble_eq_true rfl, Nat.le_of_ble_eq_true rfl⟩ (by decide) (dp_0 hd rfl) (k8x E (dp_n hd rfl) H operation w1 w4 (by omega)) ?_
      intro v30 q32
      refine s_blx (lv' := [(7, vL v30), (5, vL w4), (3, vL w1), (0, vR 58), (1, vI operation), (2, vI top)]) (st' := [vR 58]) B7_38_41 rfl ?_
      refine r_gfix (r := 61) (pc' := 44) D7_41 rfl gf_0_35_58 H.1 ?_
      refine s_blx (lv' := [(7, vL v30), (5, vL w4), (3, vL w1), (0, vR 58), (1, vI operation), (2, vI top)]) (st' := [vL v30, vI (top - 1), vR 61]) B7_44_49 rfl ?_
      refine r_normL ?_
      intro z33 r34 _; unfold inJ at r34
      refine r_last (pc' := 50) D7_49 rfl sc_61 H (by omega) (by unfold inJ; omega) trivial ?_
      intro M35 u36 H37 p38
      have f39 := f0.wr u36 rfl
      refine s_blx (lv' := [(7, vL v30), (5, vL w4), (3, vL w1), (0, vR 58), (1, vI operation), (2, vI top)]) (st' := [vL v30]) B7_50_52 rfl ?_
      refine r_ldc2 (e := 1000000000) (pc' := 55) D7_52 rfl cl_0_155 (by decide) ?_
      refine r_lcmp (pc' := 56) D7_55 rfl ?_
      intro z40 r41 r42
      refine r_ifc (tgt := 68) (pc' := 59) D7_56 rfl rfl (by unfold inR; omega) (fun (c43 : 0 < z40) => ?_) (fun (c43 : ¬ (0 < z40)) => ?_)
      · refine s_blx (lv' := [(7, vL v30), (5, vL w4), (3, vL w1), (0, vR 58), (1, vI operation), (2, vI top)]) (st' := [vI 1]) B7_68_69 rfl ?_
        refine r_goto (tgt := 73) D7_69 rfl ?_
        exact r_zretI D7_73 rfl (by omega) (⟨H37, f39, by omega⟩)
      · refine s_blx (lv' := [(7, vL v30), (5, vL w4), (3, vL w1), (0, vR 58), (1, vI operation), (2, vI top)]) (st' := [vL v30]) B7_59_61 rfl ?_
        refine r_ldc2 (e := (-1000000000)) (pc' := 64) D7_61 rfl cl_0_157 (by decide) ?_
        refine r_lcmp (pc' := 65) D7_64 rfl ?_
        intro z44 r45 r46
        refine r_ifc (tgt := 72) (pc' := 68) D7_65 rfl rfl (by unfold inR; omega) (fun (c47 : 0 ≤ z44) => ?_) (fun (c47 : ¬ (0 ≤ z44)) => ?_)
        · refine s_blx (lv' := [(7, vL v30), (5, vL w4), (3, vL w1), (0, vR 58), (1, vI operation), (2, vI top)]) (st' := [vI 0]) B7_72_73 rfl ?_
          exact r_zretI D7_73 rfl (by omega) (⟨H37, f39, by omega⟩)
        · refine s_blx (lv' := [(7, vL v30), (5, vL w4), (3, vL w1), (0, vR 58), (1, vI operation), (2, vI top)]) (st' := [vI 1]) B7_68_69 rfl ?_
          refine r_goto (tgt := 73) D7_69 rfl ?_
          exact r_zretI D7_73 rfl (by omega) (⟨H37, f39, by omega⟩)
    · refine s_blx (lv' := [(5, vL w4), (3, vL w1), (0, vR 58), (1, vI operation), (2, vI top)]) (st' := [vI 1]) B7_29_30 rfl ?_
      exact r_zretI D7_30 rfl (by omega) (⟨H, f0, by omega⟩)
set_option maxRecDepth 4000 in
theorem L_k6_58x {base : Nat} {X : Nat → Option mC} {G : Nat → Value} (E : EnvOK base X G) {d : Nat} (hd : 2 ≤ d) {M : mH} (H : HI base M) (code : Nat) (from_ : Int) (to_ : Int) (nc : Int) (h0 : IC code nc M) (h1 : 0 ≤ from_ ∧ from_ ≤ 400) (h2 : 0 ≤ to_ ∧ to_ ≤ nc) (h3 : nc ≤ 400) : ∀ mz : Nat, (∀ (x4 x5 x6 : Int) (N : mH), HI base N → Fr [(61, 0)] M N → (0 ≤ x4 ∧ x4 ≤ 64) → (0 ≤ x5 ∧ x5 ≤ 2147483647) → (0 ≤ x6 ∧ x6 ≤ 400) → (0 ≤ x4) → (x4 ≤ 64) → (0 ≤ x5) → (x5 ≤ 2147483647) → (0 ≤ x6) → (x6 ≤ 400) → (400 - x6) * 1 + 0 < (mz : Int) → sRn base X G d T6 9 [(0, vR 58), (1, vR (code)), (3, vI to_), (4, vI x4), (5, vI x5), (6, vI x6)] [] N (s_Q base (pI (fun v M' => HI base M' ∧ Fr [(61, 0)] M M' ∧ (v = 0 ∨ v = 1))))) := by
  have f0 : Fr [(61, 0)] M M := Fr.rf
  intro mz
  induction mz with
  | zero => exact fun x4 x5 x6 N _ _ z0 z1 z2 z3 z4 z5 z6 z7 z8 z9 => by omega
  | succ mz ih =>
    intro x4 x5 x6 N HN fN i0 i1 i2 i3 i4 i5 i6 i7 i8 hmu
    refine s_blx (lv' := [(0, vR 58), (1, vR (code)), (3, vI to_), (4, vI x4), (5, vI x5), (6, vI x6)]) (st' := [vI 400, vI x6]) B6_9_14 rfl ?_
    refine r_icmp (tgt := 236) (pc' := 17) D6_14 rfl rfl (by unfold inR; omega) (fun (c1 : 400 ≤ x6) => ?_) (fun (c1 : ¬ (400 ≤ x6)) => ?_)
    · refine s_blx (lv' := [(0, vR 58), (1, vR (code)), (3, vI to_), (4, vI x4), (5, vI x5), (6, vI x6)]) (st' := [vI x4]) B6_236_238 rfl ?_
      refine r_ifc (tgt := 259) (pc' := 241) D6_238 rfl rfl (by unfold inR; omega) (fun (c2 : x4 ≤ 0) => ?_) (fun (c2 : ¬ (x4 ≤ 0)) => ?_)
      · refine s_blx (lv' := [(0, vR 58), (1, vR (code)), (3, vI to_), (4, vI x4), (5, vI x5), (6, vI x6)]) (st' := [vI 0]) B6_259_260 rfl ?_
        exact r_zretI D6_260 rfl (by omega) (⟨HN, fN, by omega⟩)
      · refine s_blx (lv' := [(0, vR 58), (1, vR (code)), (3, vI to_), (4, vI x4), (5, vI x5), (6, vI x6)]) (st' := [vR 58]) B6_241_242 rfl ?_
        refine r_gfix (r := 61) (pc' := 245) D6_242 rfl gf_0_35_58 HN.1 ?_
        refine s_blx (lv' := [(0, vR 58), (1, vR (code)), (3, vI to_), (4, vI x4), (5, vI x5), (6, vI x6)]) (st' := [vI (x4 - 1), vR 61]) B6_245_249 rfl ?_
        refine r_lald (pc' := 250) D6_249 rfl sc_61 HN.1 (by omega) ?_
        intro w3 e4 r5
        clear r5
        refine s_blx (lv' := [(0, vR 58), (1, vR (code)), (3, vI to_), (4, vI x4), (5, vI x5), (6, vI x6)]) (st' := [vL 0, vL w3]) B6_250_251 rfl ?_
        refine r_lcmp (pc' := 252) D6_251 rfl ?_
        intro z6 r7 r8
        refine r_ifc (tgt := 259) (pc' := 255) D6_252 rfl rfl (by unfold inR; omega) (fun (c9 : z6 = 0) => ?_) (fun (c9 : ¬ (z6 = 0)) => ?_)
        · refine s_blx (lv' := [(0, vR 58), (1, vR (code)), (3, vI to_), (4, vI x4), (5, vI x5), (6, vI x6)]) (st' := [vI 0]) B6_259_260 rfl ?_
          exact r_zretI D6_260 rfl (by omega) (⟨HN, fN, by omega⟩)
        · refine s_blx (lv' := [(0, vR 58), (1, vR (code)), (3, vI to_), (4, vI x4), (5, vI x5), (6, vI x6)]) (st' := [vI 1]) B6_255_256 rfl ?_
          refine r_goto (tgt := 260) D6_256 rfl ?_
          exact r_zretI D6_260 rfl (by omega) (⟨HN, fN, by omega⟩)
    · refine s_blx (lv' := [(0, vR 58), (1, vR (code)), (3, vI to_), (4, vI x4), (5, vI x5), (6, vI x6)]) (st' := [vI to_, vI x5]) B6_17_20 rfl ?_
      refine r_icmp (tgt := 236) (pc' := 23) D6_20 rfl rfl (by unfold inR; omega) (fun (c10 : to_ ≤ x5) => ?_) (fun (c10 : ¬ (to_ ≤ x5)) => ?_)
      · refine s_blx (lv' := [(0, vR 58), (1, vR (code)), (3, vI to_), (4, vI x4), (5, vI x5), (6, vI x6)]) (st' := [vI x4]) B6_236_238 rfl ?_
        refine r_ifc (tgt := 259) (pc' := 241) D6_238 rfl rfl (by unfold inR; omega) (fun (c11 : x4 ≤ 0) => ?_) (fun (c11 : ¬ (x4 ≤ 0)) => ?_)
        · refine s_blx (lv' := [(0, vR 58), (1, vR (code)), (3, vI to_), (4, vI x4), (5, vI x5), (6, vI x6)]) (st' := [vI 0]) B6_259_260 rfl ?_
          exact r_zretI D6_260 rfl (by omega) (⟨HN, fN, by omega⟩)
        · refine s_blx (lv' := [(0, vR 58), (1, vR (code)), (3, vI to_), (4, vI x4), (5, vI x5), (6, vI x6)]) (st' := [vR 58]) B6_241_242 rfl ?_
          refine r_gfix (r := 61) (pc' := 245) D6_242 rfl gf_0_35_58 HN.1 ?_
          refine s_blx (lv' := [(0, vR 58), (1, vR (code)), (3, vI to_), (4, vI x4), (5, vI x5), (6, vI x6)]) (st' := [vI (x4 - 1), vR 61]) B6_245_249 rfl ?_
          refine r_lald (pc' := 250) D6_249 rfl sc_61 HN.1 (by omega) ?_
          intro w12 e13 r14
          clear r14
          refine s_blx (lv' := [(0, vR 58), (1, vR (code)), (3, vI to_), (4, vI x4), (5, vI x5), (6, vI x6)]) (st' := [vL 0, vL w12]) B6_250_251 rfl ?_
          refine r_lcmp (pc' := 252) D6_251 rfl ?_
          intro z15 r16 r17
          refine r_ifc (tgt := 259) (pc' := 255) D6_252 rfl rfl (by unfold inR; omega) (fun (c18 : z15 = 0) => ?_) (fun (c18 : ¬ (z15 = 0)) => ?_)
          · refine s_blx (lv' := [(0, vR 58), (1, vR (code)), (3, vI to_), (4, vI x4), (5, vI x5), (6, vI x6)]) (st' := [vI 0]) B6_259_260 rfl ?_
            exact r_zretI D6_260 rfl (by omega) (⟨HN, fN, by omega⟩)
          · refine s_blx (lv' := [(0, vR 58), (1, vR (code)), (3, vI to_), (4, vI x4), (5, vI x5), (6, vI x6)]) (st' := [vI 1]) B6_255_256 rfl ?_
            refine r_goto (tgt := 260) D6_256 rfl ?_
            exact r_zretI D6_260 rfl (by omega) (⟨HN, fN, by omega⟩)
      · refine s_blx (lv' := [(0, vR 58), (1, vR (code)), (3, vI to_), (4, vI x4), (5, vI x5), (6, vI x6)]) (st' := [vI x5, vR (code)]) B6_23_26 rfl ?_
        refine r_ialdD (n := nc) (pc' := 27) D6_26 rfl (((h0.fr fN rfl)).2.2.1) ((h0.fr fN rfl)).2.1 (by omega) ?_
        intro w19 e20 r21; unfold inR at r21
        have kc_w19 := ((h0.fr fN rfl)).2.2.2.2 x5 (by omega) (by omega)
        rw [← e20] at kc_w19
        refine s_blx (lv' := [(0, vR 58), (1, vR (code)), (3, vI to_), (4, vI x4), (5, vI x5), (6, vI x6)]) (st' := [vI 15, vI w19]) B6_27_29 rfl ?_
        refine r_and15 (pc' := 30) D6_29 rfl ?_
        refine s_blx (lv' := [(7, vI (w19 % 16)), (0, vR 58), (1, vR (code)), (3, vI to_), (4, vI x4), (5, vI x5), (6, vI x6)]) (st' := [vI x5, vR (code)]) B6_30_35 rfl ?_
        refine r_ialdD (n := nc) (pc' := 36) D6_35 rfl (((h0.fr fN rfl)).2.2.1) ((h0.fr fN rfl)).2.1 (by omega) ?_
        intro w22 e23 r24; unfold inR at r24
        have kc_w22 := ((h0.fr fN rfl)).2.2.2.2 x5 (by omega) (by omega)
        rw [← e23] at kc_w22
        refine s_blx (lv' := [(7, vI (w19 % 16)), (0, vR 58), (1, vR (code)), (3, vI to_), (4, vI x4), (5, vI x5), (6, vI x6)]) (st' := [vI 4, vI w22]) B6_36_37 rfl ?_
        refine r_shr4 (pc' := 38) D6_37 rfl (by unfold inR; omega) ?_
        refine s_blx (lv' := [(5, vI (x5 + 1)), (8, vI (w22 / 16)), (7, vI (w19 % 16)), (0, vR 58), (1, vR (code)), (3, vI to_), (4, vI x4), (6, vI x6)]) (st' := [vI 1, vI (w19 % 16)]) B6_38_46 rfl ?_
        refine r_icmp (tgt := 89) (pc' := 49) D6_46 rfl rfl (by unfold inR; omega) (fun (c25 : 1 < (w19 % 16)) => ?_) (fun (c25 : ¬ (1 < (w19 % 16))) => ?_)
        · refine s_blx (lv' := [(5, vI (x5 + 1)), (8, vI (w22 / 16)), (7, vI (w19 % 16)), (0, vR 58), (1, vR (code)), (3, vI to_), (4, vI x4), (6, vI x6)]) (st' := [vI 1, vI x4]) B6_89_92 rfl ?_
          refine r_icmp (tgt := 97) (pc' := 95) D6_92 rfl rfl (by unfold inR; omega) (fun (c26 : 1 ≤ x4) => ?_) (fun (c26 : ¬ (1 ≤ x4)) => ?_)
          · refine s_blx (lv' := [(5, vI (x5 + 1)), (8, vI (w22 / 16)), (7, vI (w19 % 16)), (0, vR 58), (1, vR (code)), (3, vI to_), (4, vI x4), (6, vI x6)]) (st' := [vI 9, vI (w19 % 16)]) B6_97_101 rfl ?_
            refine r_icmp (tgt := 127) (pc' := 104) D6_101 rfl rfl (by unfold inR; omega) (fun (c27 : (w19 % 16) ≠ 9) => ?_) (fun (c27 : ¬ ((w19 % 16) ≠ 9)) => ?_)
            · refine s_blx (lv' := [(5, vI (x5 + 1)), (8, vI (w22 / 16)), (7, vI (w19 % 16)), (0, vR 58), (1, vR (code)), (3, vI to_), (4, vI x4), (6, vI x6)]) (st' := [vI 10, vI (w19 % 16)]) B6_127_131 rfl ?_
              refine r_icmp (tgt := 208) (pc' := 134) D6_131 rfl rfl (by unfold inR; omega) (fun (c28 : (w19 % 16) < 10) => ?_) (fun (c28 : ¬ ((w19 % 16) < 10)) => ?_)
              · refine s_blx (lv' := [(4, vI (x4 + (-1))), (5, vI (x5 + 1)), (8, vI (w22 / 16)), (7, vI (w19 % 16)), (0, vR 58), (1, vR (code)), (3, vI to_), (6, vI x6)]) (st' := [vI 1, vI (x4 + (-1))]) B6_208_214 rfl ?_
                refine r_icmp (tgt := 228) (pc' := 217) D6_214 rfl rfl (by unfold inR; omega) (fun (c29 : (x4 + (-1)) < 1) => ?_) (fun (c29 : ¬ ((x4 + (-1)) < 1)) => ?_)
                · refine s_blx (lv' := [(4, vI (x4 + (-1))), (5, vI (x5 + 1)), (8, vI (w22 / 16)), (7, vI (w19 % 16)), (0, vR 58), (1, vR (code)), (3, vI to_), (6, vI x6)]) (st' := [vI 0]) B6_228_229 rfl ?_
                  exact r_zretI D6_229 rfl (by omega) (⟨HN, fN, by omega⟩)
                · refine s_blx (lv' := [(4, vI (x4 + (-1))), (5, vI (x5 + 1)), (8, vI (w22 / 16)), (7, vI (w19 % 16)), (0, vR 58), (1, vR (code)), (3, vI to_), (6, vI x6)]) (st' := [vI (x4 + (-1)), vI (w19 % 16), vR 58]) B6_217_222 rfl ?_
                  refine r_vI (c := 58) (args := [vI (w19 % 16), vI (x4 + (-1))]) (rest := []) (pc' := 225) D6_222 rfl ck_0_virtual_147 TE7 rfl (Nat.le_of_ble_eq_true rfl) ⟨Nat.le_of_ble_eq_true rfl, Nat.le_of_ble_eq_true rfl⟩ sc_58 ⟨rfl, by decide⟩ HN.1 (dp_0 hd rfl) (k7_58x E (dp_n hd rfl) HN (w19 % 16) (x4 + (-1)) (by omega) (by omega)) ?_
                  intro v30 M31 q35
                  obtain ⟨H32, f33, q34⟩ := q35
                  have f36 := fN.tr (f33.up rfl)
                  refine r_ifc (tgt := 230) (pc' := 228) D6_225 rfl rfl (by unfold inR; omega) (fun (c37 : v30 = 0) => ?_) (fun (c37 : ¬ (v30 = 0)) => ?_)
                  · refine s_blx (lv' := [(6, vI (x6 + 1)), (4, vI (x4 + (-1))), (5, vI (x5 + 1)), (8, vI (w22 / 16)), (7, vI (w19 % 16)), (0, vR 58), (1, vR (code)), (3, vI to_)]) (st' := []) B6_230_233 rfl ?_
                    refine r_goto (tgt := 9) D6_233 rfl ?_
                    refine r_loc (lv' := [(0, vR 58), (1, vR (code)), (3, vI to_), (4, vI (x4 + (-1))), (5, vI (x5 + 1)), (6, vI (x6 + 1))]) ⟨rfl, rfl, rfl, rfl, rfl, rfl, trivial⟩ rfl rfl ?_
                    exact ih (x4 + (-1)) (x5 + 1) (x6 + 1) M31 H32 f36 (by omega) (by omega) (by omega) (by omega) (by omega) (by omega) (by omega) (by omega) (by omega) (by omega)
                  · refine s_blx (lv' := [(4, vI (x4 + (-1))), (5, vI (x5 + 1)), (8, vI (w22 / 16)), (7, vI (w19 % 16)), (0, vR 58), (1, vR (code)), (3, vI to_), (6, vI x6)]) (st' := [vI 0]) B6_228_229 rfl ?_
                    exact r_zretI D6_229 rfl (by omega) (⟨H32, f36, by omega⟩)
              · refine s_blx (lv' := [(5, vI (x5 + 1)), (8, vI (w22 / 16)), (7, vI (w19 % 16)), (0, vR 58), (1, vR (code)), (3, vI to_), (4, vI x4), (6, vI x6)]) (st' := [vR 58]) B6_134_135 rfl ?_
                refine r_gfix (r := 61) (pc' := 138) D6_135 rfl gf_0_35_58 HN.1 ?_
                refine s_blx (lv' := [(5, vI (x5 + 1)), (8, vI (w22 / 16)), (7, vI (w19 % 16)), (0, vR 58), (1, vR (code)), (3, vI to_), (4, vI x4), (6, vI x6)]) (st' := [vI (x4 - 1), vR 61]) B6_138_142 rfl ?_
                refine r_lald (pc' := 143) D6_142 rfl sc_61 HN.1 (by omega) ?_
                intro w38 e39 r40
                clear r40
                refine s_blx (lv' := [(5, vI (x5 + 1)), (8, vI (w22 / 16)), (7, vI (w19 % 16)), (0, vR 58), (1, vR (code)), (3, vI to_), (4, vI x4), (6, vI x6)]) (st' := [vL 0, vL w38]) B6_143_144 rfl ?_
                refine r_lcmp (pc' := 145) D6_144 rfl ?_
                intro z41 r42 r43
                refine r_ifc (tgt := 152) (pc' := 148) D6_145 rfl rfl (by unfold inR; omega) (fun (c44 : z41 = 0) => ?_) (fun (c44 : ¬ (z41 = 0)) => ?_)
                · refine s_blx (lv' := [(5, vI (x5 + 1)), (8, vI (w22 / 16)), (7, vI (w19 % 16)), (0, vR 58), (1, vR (code)), (3, vI to_), (4, vI x4), (6, vI x6)]) (st' := [vI 11, vI (w19 % 16), vI 0]) B6_152_157 rfl ?_
                  refine r_icmp (tgt := 164) (pc' := 160) D6_157 rfl rfl (by unfold inR; omega) (fun (c45 : (w19 % 16) ≠ 11) => ?_) (fun (c45 : ¬ ((w19 % 16) ≠ 11)) => ?_)
                  · refine s_blx (lv' := [(5, vI (x5 + 1)), (8, vI (w22 / 16)), (7, vI (w19 % 16)), (0, vR 58), (1, vR (code)), (3, vI to_), (4, vI x4), (6, vI x6)]) (st' := [vI 0, vI 0]) B6_164_165 rfl ?_
                    refine r_icmp (tgt := 172) (pc' := 168) D6_165 rfl rfl (by unfold inR; omega) (fun (c46 : 0 ≠ 0) => ?_) (fun (c46 : ¬ (0 ≠ 0)) => ?_)
                    · exfalso; omega
                    · refine s_blx (lv' := [(5, vI (x5 + 1)), (8, vI (w22 / 16)), (7, vI (w19 % 16)), (0, vR 58), (1, vR (code)), (3, vI to_), (4, vI x4), (6, vI x6)]) (st' := [vI 1]) B6_168_169 rfl ?_
                      refine r_goto (tgt := 173) D6_169 rfl ?_
                      refine s_blx (lv' := [(9, vI 1), (5, vI (x5 + 1)), (8, vI (w22 / 16)), (7, vI (w19 % 16)), (0, vR 58), (1, vR (code)), (3, vI to_), (4, vI x4), (6, vI x6)]) (st' := [vI 1]) B6_173_177 rfl ?_
                      refine r_ifc (tgt := 185) (pc' := 180) D6_177 rfl rfl (by unfold inR; omega) (fun (c47 : 1 = 0) => ?_) (fun (c47 : ¬ (1 = 0)) => ?_)
                      · exfalso; omega
                      · refine s_blx (lv' := [(9, vI 1), (5, vI (x5 + 1)), (8, vI (w22 / 16)), (7, vI (w19 % 16)), (0, vR 58), (1, vR (code)), (3, vI to_), (4, vI x4), (6, vI x6)]) (st' := [vI (w22 / 16)]) B6_180_182 rfl ?_
                        refine r_goto (tgt := 187) D6_182 rfl ?_
                        refine s_blx (lv' := [(5, vI (w22 / 16)), (9, vI 1), (8, vI (w22 / 16)), (7, vI (w19 % 16)), (0, vR 58), (1, vR (code)), (3, vI to_), (4, vI x4), (6, vI x6)]) (st' := [vI 1]) B6_187_191 rfl ?_
                        refine r_ifc (tgt := 199) (pc' := 194) D6_191 rfl rfl (by unfold inR; omega) (fun (c48 : 1 = 0) => ?_) (fun (c48 : ¬ (1 = 0)) => ?_)
                        · exfalso; omega
                        · refine s_blx (lv' := [(5, vI (w22 / 16)), (9, vI 1), (8, vI (w22 / 16)), (7, vI (w19 % 16)), (0, vR 58), (1, vR (code)), (3, vI to_), (4, vI x4), (6, vI x6)]) (st' := [vI x4]) B6_194_196 rfl ?_
                          refine r_goto (tgt := 203) D6_196 rfl ?_
                          refine s_blx (lv' := [(4, vI x4), (5, vI (w22 / 16)), (9, vI 1), (8, vI (w22 / 16)), (7, vI (w19 % 16)), (0, vR 58), (1, vR (code)), (3, vI to_), (6, vI x6)]) (st' := []) B6_203_205 rfl ?_
                          refine r_goto (tgt := 230) D6_205 rfl ?_
                          refine s_blx (lv' := [(6, vI (x6 + 1)), (4, vI x4), (5, vI (w22 / 16)), (9, vI 1), (8, vI (w22 / 16)), (7, vI (w19 % 16)), (0, vR 58), (1, vR (code)), (3, vI to_)]) (st' := []) B6_230_233 rfl ?_
                          refine r_goto (tgt := 9) D6_233 rfl ?_
                          refine r_loc (lv' := [(0, vR 58), (1, vR (code)), (3, vI to_), (4, vI x4), (5, vI (w22 / 16)), (6, vI (x6 + 1))]) ⟨rfl, rfl, rfl, rfl, rfl, rfl, trivial⟩ rfl rfl ?_
                          exact ih x4 (w22 / 16) (x6 + 1) N HN fN (by omega) (by omega) (by omega) (by omega) (by omega) (by omega) (by omega) (by omega) (by omega) (by omega)
                  · refine s_blx (lv' := [(5, vI (x5 + 1)), (8, vI (w22 / 16)), (7, vI (w19 % 16)), (0, vR 58), (1, vR (code)), (3, vI to_), (4, vI x4), (6, vI x6)]) (st' := [vI 1, vI 0]) B6_160_161 rfl ?_
                    refine r_goto (tgt := 165) D6_161 rfl ?_
                    refine r_icmp (tgt := 172) (pc' := 168) D6_165 rfl rfl (by unfold inR; omega) (fun (c49 : 0 ≠ 1) => ?_) (fun (c49 : ¬ (0 ≠ 1)) => ?_)
                    · refine s_blx (lv' := [(9, vI 0), (5, vI (x5 + 1)), (8, vI (w22 / 16)), (7, vI (w19 % 16)), (0, vR 58), (1, vR (code)), (3, vI to_), (4, vI x4), (6, vI x6)]) (st' := [vI 0]) B6_172_177 rfl ?_
                      refine r_ifc (tgt := 185) (pc' := 180) D6_177 rfl rfl (by unfold inR; omega) (fun (c50 : 0 = 0) => ?_) (fun (c50 : ¬ (0 = 0)) => ?_)
                      · refine s_blx (lv' := [(5, vI (x5 + 1)), (9, vI 0), (8, vI (w22 / 16)), (7, vI (w19 % 16)), (0, vR 58), (1, vR (code)), (3, vI to_), (4, vI x4), (6, vI x6)]) (st' := [vI 0]) B6_185_191 rfl ?_
                        refine r_ifc (tgt := 199) (pc' := 194) D6_191 rfl rfl (by unfold inR; omega) (fun (c51 : 0 = 0) => ?_) (fun (c51 : ¬ (0 = 0)) => ?_)
                        · refine s_blx (lv' := [(4, vI (x4 - 1)), (5, vI (x5 + 1)), (9, vI 0), (8, vI (w22 / 16)), (7, vI (w19 % 16)), (0, vR 58), (1, vR (code)), (3, vI to_), (6, vI x6)]) (st' := []) B6_199_205 rfl ?_
                          refine r_goto (tgt := 230) D6_205 rfl ?_
                          refine s_blx (lv' := [(6, vI (x6 + 1)), (4, vI (x4 - 1)), (5, vI (x5 + 1)), (9, vI 0), (8, vI (w22 / 16)), (7, vI (w19 % 16)), (0, vR 58), (1, vR (code)), (3, vI to_)]) (st' := []) B6_230_233 rfl ?_
                          refine r_goto (tgt := 9) D6_233 rfl ?_
                          refine r_loc (lv' := [(0, vR 58), (1, vR (code)), (3, vI to_), (4, vI (x4 - 1)), (5, vI (x5 + 1)), (6, vI (x6 + 1))]) ⟨rfl, rfl, rfl, rfl, rfl, rfl, trivial⟩ rfl rfl ?_
                          exact ih (x4 - 1) (x5 + 1) (x6 + 1) N HN fN (by omega) (by omega) (by omega) (by omega) (by omega) (by omega) (by omega) (by omega) (by omega) (by omega)
                        · exfalso; omega
                      · exfalso; omega
                    · exfalso; omega
                · refine s_blx (lv' := [(5, vI (x5 + 1)), (8, vI (w22 / 16)), (7, vI (w19 % 16)), (0, vR 58), (1, vR (code)), (3, vI to_), (4, vI x4), (6, vI x6)]) (st' := [vI 1]) B6_148_149 rfl ?_
                  refine r_goto (tgt := 153) D6_149 rfl ?_
                  refine s_blx (lv' := [(5, vI (x5 + 1)), (8, vI (w22 / 16)), (7, vI (w19 % 16)), (0, vR 58), (1, vR (code)), (3, vI to_), (4, vI x4), (6, vI x6)]) (st' := [vI 11, vI (w19 % 16), vI 1]) B6_153_157 rfl ?_
                  refine r_icmp (tgt := 164) (pc' := 160) D6_157 rfl rfl (by unfold inR; omega) (fun (c52 : (w19 % 16) ≠ 11) => ?_) (fun (c52 : ¬ ((w19 % 16) ≠ 11)) => ?_)
                  · refine s_blx (lv' := [(5, vI (x5 + 1)), (8, vI (w22 / 16)), (7, vI (w19 % 16)), (0, vR 58), (1, vR (code)), (3, vI to_), (4, vI x4), (6, vI x6)]) (st' := [vI 0, vI 1]) B6_164_165 rfl ?_
                    refine r_icmp (tgt := 172) (pc' := 168) D6_165 rfl rfl (by unfold inR; omega) (fun (c53 : 1 ≠ 0) => ?_) (fun (c53 : ¬ (1 ≠ 0)) => ?_)
                    · refine s_blx (lv' := [(9, vI 0), (5, vI (x5 + 1)), (8, vI (w22 / 16)), (7, vI (w19 % 16)), (0, vR 58), (1, vR (code)), (3, vI to_), (4, vI x4), (6, vI x6)]) (st' := [vI 0]) B6_172_177 rfl ?_
                      refine r_ifc (tgt := 185) (pc' := 180) D6_177 rfl rfl (by unfold inR; omega) (fun (c54 : 0 = 0) => ?_) (fun (c54 : ¬ (0 = 0)) => ?_)
                      · refine s_blx (lv' := [(5, vI (x5 + 1)), (9, vI 0), (8, vI (w22 / 16)), (7, vI (w19 % 16)), (0, vR 58), (1, vR (code)), (3, vI to_), (4, vI x4), (6, vI x6)]) (st' := [vI 0]) B6_185_191 rfl ?_
                        refine r_ifc (tgt := 199) (pc' := 194) D6_191 rfl rfl (by unfold inR; omega) (fun (c55 : 0 = 0) => ?_) (fun (c55 : ¬ (0 = 0)) => ?_)
                        · refine s_blx (lv' := [(4, vI (x4 - 1)), (5, vI (x5 + 1)), (9, vI 0), (8, vI (w22 / 16)), (7, vI (w19 % 16)), (0, vR 58), (1, vR (code)), (3, vI to_), (6, vI x6)]) (st' := []) B6_199_205 rfl ?_
                          refine r_goto (tgt := 230) D6_205 rfl ?_
                          refine s_blx (lv' := [(6, vI (x6 + 1)), (4, vI (x4 - 1)), (5, vI (x5 + 1)), (9, vI 0), (8, vI (w22 / 16)), (7, vI (w19 % 16)), (0, vR 58), (1, vR (code)), (3, vI to_)]) (st' := []) B6_230_233 rfl ?_
                          refine r_goto (tgt := 9) D6_233 rfl ?_
                          refine r_loc (lv' := [(0, vR 58), (1, vR (code)), (3, vI to_), (4, vI (x4 - 1)), (5, vI (x5 + 1)), (6, vI (x6 + 1))]) ⟨rfl, rfl, rfl, rfl, rfl, rfl, trivial⟩ rfl rfl ?_
                          exact ih (x4 - 1) (x5 + 1) (x6 + 1) N HN fN (by omega) (by omega) (by omega) (by omega) (by omega) (by omega) (by omega) (by omega) (by omega) (by omega)
                        · exfalso; omega
                      · exfalso; omega
                    · exfalso; omega
                  · refine s_blx (lv' := [(5, vI (x5 + 1)), (8, vI (w22 / 16)), (7, vI (w19 % 16)), (0, vR 58), (1, vR (code)), (3, vI to_), (4, vI x4), (6, vI x6)]) (st' := [vI 1, vI 1]) B6_160_161 rfl ?_
                    refine r_goto (tgt := 165) D6_161 rfl ?_
                    refine r_icmp (tgt := 172) (pc' := 168) D6_165 rfl rfl (by unfold inR; omega) (fun (c56 : 1 ≠ 1) => ?_) (fun (c56 : ¬ (1 ≠ 1)) => ?_)
                    · exfalso; omega
                    · refine s_blx (lv' := [(5, vI (x5 + 1)), (8, vI (w22 / 16)), (7, vI (w19 % 16)), (0, vR 58), (1, vR (code)), (3, vI to_), (4, vI x4), (6, vI x6)]) (st' := [vI 1]) B6_168_169 rfl ?_
                      refine r_goto (tgt := 173) D6_169 rfl ?_
                      refine s_blx (lv' := [(9, vI 1), (5, vI (x5 + 1)), (8, vI (w22 / 16)), (7, vI (w19 % 16)), (0, vR 58), (1, vR (code)), (3, vI to_), (4, vI x4), (6, vI x6)]) (st' := [vI 1]) B6_173_177 rfl ?_
                      refine r_ifc (tgt := 185) (pc' := 180) D6_177 rfl rfl (by unfold inR; omega) (fun (c57 : 1 = 0) => ?_) (fun (c57 : ¬ (1 = 0)) => ?_)
                      · exfalso; omega
                      · refine s_blx (lv' := [(9, vI 1), (5, vI (x5 + 1)), (8, vI (w22 / 16)), (7, vI (w19 % 16)), (0, vR 58), (1, vR (code)), (3, vI to_), (4, vI x4), (6, vI x6)]) (st' := [vI (w22 / 16)]) B6_180_182 rfl ?_
                        refine r_goto (tgt := 187) D6_182 rfl ?_
                        refine s_blx (lv' := [(5, vI (w22 / 16)), (9, vI 1), (8, vI (w22 / 16)), (7, vI (w19 % 16)), (0, vR 58), (1, vR (code)), (3, vI to_), (4, vI x4), (6, vI x6)]) (st' := [vI 1]) B6_187_191 rfl ?_
                        refine r_ifc (tgt := 199) (pc' := 194) D6_191 rfl rfl (by unfold inR; omega) (fun (c58 : 1 = 0) => ?_) (fun (c58 : ¬ (1 = 0)) => ?_)
                        · exfalso; omega
                        · refine s_blx (lv' := [(5, vI (w22 / 16)), (9, vI 1), (8, vI (w22 / 16)), (7, vI (w19 % 16)), (0, vR 58), (1, vR (code)), (3, vI to_), (4, vI x4), (6, vI x6)]) (st' := [vI x4]) B6_194_196 rfl ?_
                          refine r_goto (tgt := 203) D6_196 rfl ?_
                          refine s_blx (lv' := [(4, vI x4), (5, vI (w22 / 16)), (9, vI 1), (8, vI (w22 / 16)), (7, vI (w19 % 16)), (0, vR 58), (1, vR (code)), (3, vI to_), (6, vI x6)]) (st' := []) B6_203_205 rfl ?_
                          refine r_goto (tgt := 230) D6_205 rfl ?_
                          refine s_blx (lv' := [(6, vI (x6 + 1)), (4, vI x4), (5, vI (w22 / 16)), (9, vI 1), (8, vI (w22 / 16)), (7, vI (w19 % 16)), (0, vR 58), (1, vR (code)), (3, vI to_)]) (st' := []) B6_230_233 rfl ?_
                          refine r_goto (tgt := 9) D6_233 rfl ?_
                          refine r_loc (lv' := [(0, vR 58), (1, vR (code)), (3, vI to_), (4, vI x4), (5, vI (w22 / 16)), (6, vI (x6 + 1))]) ⟨rfl, rfl, rfl, rfl, rfl, rfl, trivial⟩ rfl rfl ?_
                          exact ih x4 (w22 / 16) (x6 + 1) N HN fN (by omega) (by omega) (by omega) (by omega) (by omega) (by omega) (by omega) (by omega) (by omega) (by omega)
            · refine s_blx (lv' := [(5, vI (x5 + 1)), (8, vI (w22 / 16)), (7, vI (w19 % 16)), (0, vR 58), (1, vR (code)), (3, vI to_), (4, vI x4), (6, vI x6)]) (st' := [vR 58]) B6_104_105 rfl ?_
              refine r_gfix (r := 61) (pc' := 108) D6_105 rfl gf_0_35_58 HN.1 ?_
              refine s_blx (lv' := [(5, vI (x5 + 1)), (8, vI (w22 / 16)), (7, vI (w19 % 16)), (0, vR 58), (1, vR (code)), (3, vI to_), (4, vI x4), (6, vI x6)]) (st' := [vR 58, vL 1, vI (x4 - 1), vR 61]) B6_108_114 rfl ?_
              refine r_gfix (r := 61) (pc' := 117) D6_114 rfl gf_0_35_58 HN.1 ?_
              refine s_blx (lv' := [(5, vI (x5 + 1)), (8, vI (w22 / 16)), (7, vI (w19 % 16)), (0, vR 58), (1, vR (code)), (3, vI to_), (4, vI x4), (6, vI x6)]) (st' := [vI (x4 - 1), vR 61, vL 1, vI (x4 - 1), vR 61]) B6_117_121 rfl ?_
              refine r_lald (pc' := 122) D6_121 rfl sc_61 HN.1 (by omega) ?_
              intro w59 e60 r61
              clear r61
              refine s_blx (lv' := [(5, vI (x5 + 1)), (8, vI (w22 / 16)), (7, vI (w19 % 16)), (0, vR 58), (1, vR (code)), (3, vI to_), (4, vI x4), (6, vI x6)]) (st' := [vL (1 - w59), vI (x4 - 1), vR 61]) B6_122_123 rfl ?_
              refine r_normL ?_
              intro z62 r63 _; unfold inJ at r63
              refine r_last (pc' := 124) D6_123 rfl sc_61 HN (by omega) (by unfold inJ; omega) trivial ?_
              intro M64 u65 H66 p67
              have f68 := fN.wr u65 rfl
              refine r_goto (tgt := 230) D6_124 rfl ?_
              refine s_blx (lv' := [(6, vI (x6 + 1)), (5, vI (x5 + 1)), (8, vI (w22 / 16)), (7, vI (w19 % 16)), (0, vR 58), (1, vR (code)), (3, vI to_), (4, vI x4)]) (st' := []) B6_230_233 rfl ?_
              refine r_goto (tgt := 9) D6_233 rfl ?_
              refine r_loc (lv' := [(0, vR 58), (1, vR (code)), (3, vI to_), (4, vI x4), (5, vI (x5 + 1)), (6, vI (x6 + 1))]) ⟨rfl, rfl, rfl, rfl, rfl, rfl, trivial⟩ rfl rfl ?_
              exact ih x4 (x5 + 1) (x6 + 1) M64 H66 f68 (by omega) (by omega) (by omega) (by omega) (by omega) (by omega) (by omega) (by omega) (by omega) (by omega)
          · refine s_blx (lv' := [(5, vI (x5 + 1)), (8, vI (w22 / 16)), (7, vI (w19 % 16)), (0, vR 58), (1, vR (code)), (3, vI to_), (4, vI x4), (6, vI x6)]) (st' := [vI 0]) B6_95_96 rfl ?_
            exact r_zretI D6_96 rfl (by omega) (⟨HN, fN, by omega⟩)
        · refine s_blx (lv' := [(5, vI (x5 + 1)), (8, vI (w22 / 16)), (7, vI (w19 % 16)), (0, vR 58), (1, vR (code)), (3, vI to_), (4, vI x4), (6, vI x6)]) (st' := [vI 64, vI x4]) B6_49_53 rfl ?_
          refine r_icmp (tgt := 58) (pc' := 56) D6_53 rfl rfl (by unfold inR; omega) (fun (c69 : x4 < 64) => ?_) (fun (c69 : ¬ (x4 < 64)) => ?_)
          · refine s_blx (lv' := [(5, vI (x5 + 1)), (8, vI (w22 / 16)), (7, vI (w19 % 16)), (0, vR 58), (1, vR (code)), (3, vI to_), (4, vI x4), (6, vI x6)]) (st' := [vR 58]) B6_58_59 rfl ?_
            refine r_gfix (r := 61) (pc' := 62) D6_59 rfl gf_0_35_58 HN.1 ?_
            refine s_blx (lv' := [(5, vI (x5 + 1)), (8, vI (w22 / 16)), (7, vI (w19 % 16)), (0, vR 58), (1, vR (code)), (3, vI to_), (4, vI x4), (6, vI x6)]) (st' := [vI (w19 % 16), vI x4, vR 61]) B6_62_66 rfl ?_
            refine r_ifc (tgt := 75) (pc' := 69) D6_66 rfl rfl (by unfold inR; omega) (fun (c70 : (w19 % 16) ≠ 0) => ?_) (fun (c70 : ¬ ((w19 % 16) ≠ 0)) => ?_)
            · refine s_blx (lv' := [(5, vI (x5 + 1)), (8, vI (w22 / 16)), (7, vI (w19 % 16)), (0, vR 58), (1, vR (code)), (3, vI to_), (4, vI x4), (6, vI x6)]) (st' := [vR 58, vI x4, vR 61]) B6_75_76 rfl ?_
              refine r_gfix (r := 60) (pc' := 79) D6_76 rfl gf_0_28_58 HN.1 ?_
              refine s_blx (lv' := [(5, vI (x5 + 1)), (8, vI (w22 / 16)), (7, vI (w19 % 16)), (0, vR 58), (1, vR (code)), (3, vI to_), (4, vI x4), (6, vI x6)]) (st' := [vI (w22 / 16), vR 60, vI x4, vR 61]) B6_79_81 rfl ?_
              refine r_lald (pc' := 82) D6_81 rfl sc_60 HN.1 (by omega) ?_
              intro w71 e72 r73
              clear r73
              refine r_normL ?_
              intro z74 r75 _; unfold inJ at r75
              refine r_last (pc' := 83) D6_82 rfl sc_61 HN (by omega) (by unfold inJ; omega) trivial ?_
              intro M76 u77 H78 p79
              have f80 := fN.wr u77 rfl
              refine s_blx (lv' := [(4, vI (x4 + 1)), (5, vI (x5 + 1)), (8, vI (w22 / 16)), (7, vI (w19 % 16)), (0, vR 58), (1, vR (code)), (3, vI to_), (6, vI x6)]) (st' := []) B6_83_86 rfl ?_
              refine r_goto (tgt := 230) D6_86 rfl ?_
              refine s_blx (lv' := [(6, vI (x6 + 1)), (4, vI (x4 + 1)), (5, vI (x5 + 1)), (8, vI (w22 / 16)), (7, vI (w19 % 16)), (0, vR 58), (1, vR (code)), (3, vI to_)]) (st' := []) B6_230_233 rfl ?_
              refine r_goto (tgt := 9) D6_233 rfl ?_
              refine r_loc (lv' := [(0, vR 58), (1, vR (code)), (3, vI to_), (4, vI (x4 + 1)), (5, vI (x5 + 1)), (6, vI (x6 + 1))]) ⟨rfl, rfl, rfl, rfl, rfl, rfl, trivial⟩ rfl rfl ?_
              exact ih (x4 + 1) (x5 + 1) (x6 + 1) M76 H78 f80 (by omega) (by omega) (by omega) (by omega) (by omega) (by omega) (by omega) (by omega) (by omega) (by omega)
            · refine s_blx (lv' := [(5, vI (x5 + 1)), (8, vI (w22 / 16)), (7, vI (w19 % 16)), (0, vR 58), (1, vR (code)), (3, vI to_), (4, vI x4), (6, vI x6)]) (st' := [vI (w22 / 16), vI x4, vR 61]) B6_69_71 rfl ?_
              refine r_i2l (pc' := 72) D6_71 rfl (by unfold inR; omega) ?_
              refine r_goto (tgt := 82) D6_72 rfl ?_
              refine r_normL ?_
              intro z81 r82 _; unfold inJ at r82
              refine r_last (pc' := 83) D6_82 rfl sc_61 HN (by omega) (by unfold inJ; omega) trivial ?_
              intro M83 u84 H85 p86
              have f87 := fN.wr u84 rfl
              refine s_blx (lv' := [(4, vI (x4 + 1)), (5, vI (x5 + 1)), (8, vI (w22 / 16)), (7, vI (w19 % 16)), (0, vR 58), (1, vR (code)), (3, vI to_), (6, vI x6)]) (st' := []) B6_83_86 rfl ?_
              refine r_goto (tgt := 230) D6_86 rfl ?_
              refine s_blx (lv' := [(6, vI (x6 + 1)), (4, vI (x4 + 1)), (5, vI (x5 + 1)), (8, vI (w22 / 16)), (7, vI (w19 % 16)), (0, vR 58), (1, vR (code)), (3, vI to_)]) (st' := []) B6_230_233 rfl ?_
              refine r_goto (tgt := 9) D6_233 rfl ?_
              refine r_loc (lv' := [(0, vR 58), (1, vR (code)), (3, vI to_), (4, vI (x4 + 1)), (5, vI (x5 + 1)), (6, vI (x6 + 1))]) ⟨rfl, rfl, rfl, rfl, rfl, rfl, trivial⟩ rfl rfl ?_
              exact ih (x4 + 1) (x5 + 1) (x6 + 1) M83 H85 f87 (by omega) (by omega) (by omega) (by omega) (by omega) (by omega) (by omega) (by omega) (by omega) (by omega)
          · refine s_blx (lv' := [(5, vI (x5 + 1)), (8, vI (w22 / 16)), (7, vI (w19 % 16)), (0, vR 58), (1, vR (code)), (3, vI to_), (4, vI x4), (6, vI x6)]) (st' := [vI 0]) B6_56_57 rfl ?_
            exact r_zretI D6_57 rfl (by omega) (⟨HN, fN, by omega⟩)
set_option maxRecDepth 4000 in
theorem k6_58x {base : Nat} {X : Nat → Option mC} {G : Nat → Value} (E : EnvOK base X G) {d : Nat} (hd : 2 ≤ d) {M : mH} (H : HI base M) (code : Nat) (from_ : Int) (to_ : Int) (nc : Int) (h0 : IC code nc M) (h1 : 0 ≤ from_ ∧ from_ ≤ 400) (h2 : 0 ≤ to_ ∧ to_ ≤ nc) (h3 : nc ≤ 400) : sOk base X G d T6 [vR 58, vR (code), vI from_, vI to_] M (pI (fun v M' => HI base M' ∧ Fr [(61, 0)] M M' ∧ (v = 0 ∨ v = 1))) := by
  have f0 : Fr [(61, 0)] M M := Fr.rf
  refine sOk.of (show sRn base X G d T6 0 [(0, vR 58), (1, vR (code)), (2, vI from_), (3, vI to_)] [] M _ from ?_)
  refine s_blx (lv' := [(6, vI 0), (5, vI from_), (4, vI 0), (0, vR 58), (1, vR (code)), (2, vI from_), (3, vI to_)]) (st' := []) B6_0_9 rfl ?_
  refine r_loc (lv' := [(0, vR 58), (1, vR (code)), (3, vI to_), (4, vI 0), (5, vI from_), (6, vI 0)]) ⟨rfl, rfl, rfl, rfl, rfl, rfl, trivial⟩ rfl rfl ?_
  exact (L_k6_58x E hd H code from_ to_ nc h0 h1 h2 h3 (((400 - 0) * 1 + 0 : Int) + 1).toNat) 0 from_ 0 M H f0 (by omega) (by omega) (by omega) (by omega) (by omega) (by omega) (by omega) (by omega) (by omega) (by omega)
set_option maxRecDepth 4000 in
theorem k5_58_20x {base : Nat} {X : Nat → Option mC} {G : Nat → Value} (E : EnvOK base X G) {d : Nat} (hd : 1 ≤ d) {M : mH} (H : HI base M) (head : Int) (place : Int) (h0 : -2147483648 ≤ head ∧ head ≤ 2147483647) (h1 : 0 ≤ place ∧ place ≤ 144) (h2 : gi M 58 5 = -1 ∨ (20 ≤ gi M 58 5 ∧ gi M 58 5 ≤ 22)) : sOk base X G d T5 [vR 58, vR 20, vI head, vI place] M (pI (fun v M' => M' = M ∧ (-1 ≤ v ∧ v ≤ 22) ∧ (v = 1 ∨ v = 2 → gi M 58 3 ≤ 110))) := by
  refine sOk.of (show sRn base X G d T5 0 [(0, vR 58), (1, vR 20), (2, vI head), (3, vI place)] [] M _ from ?_)
  refine s_blx (lv' := [(0, vR 58), (1, vR 20), (2, vI head), (3, vI place)]) (st' := [vR 58]) B5_0_1 rfl ?_
  refine r_gint (ki := 3) (pc' := 4) D5_1 rfl gf_0_25_58 rfl H.1 ?_
  intro w1 e2 r3
  unfold inR at r3
  refine r_sIp (args := [vI w1]) (rest := []) (pc' := 7) D5_4 rfl ck_0_static_64 TE42 rfl (Nat.le_of_ble_eq_true rfl) ⟨Nat.le_of_ble_eq_true rfl, Nat.le_of_ble_eq_true rfl⟩ (by decide) (dp_0 hd rfl) (k42 E (dp_n hd rfl) H w1 (by omega)) ?_
  intro v4 q11
  obtain ⟨q6, q7, q8, q9, q10⟩ := q11
  refine s_blx (lv' := [(4, vI v4), (0, vR 58), (1, vR 20), (2, vI head), (3, vI place)]) (st' := [vI head]) B5_7_10 rfl ?_
  refine r_ifc (tgt := 28) (pc' := 13) D5_10 rfl rfl (by unfold inR; omega) (fun (c12 : head ≠ 0) => ?_) (fun (c12 : ¬ (head ≠ 0)) => ?_)
  · refine s_blx (lv' := [(4, vI v4), (0, vR 58), (1, vR 20), (2, vI head), (3, vI place)]) (st' := [vI 5, vI head]) B5_28_30 rfl ?_
    refine r_icmp (tgt := 38) (pc' := 33) D5_30 rfl rfl (by unfold inR; omega) (fun (c13 : head ≠ 5) => ?_) (fun (c13 : ¬ (head ≠ 5)) => ?_)
    · refine s_blx (lv' := [(4, vI v4), (0, vR 58), (1, vR 20), (2, vI head), (3, vI place)]) (st' := [vI 3, vI v4]) B5_38_41 rfl ?_
      refine r_icmp (tgt := 46) (pc' := 44) D5_41 rfl rfl (by unfold inR; omega) (fun (c14 : v4 < 3) => ?_) (fun (c14 : ¬ (v4 < 3)) => ?_)
      · refine s_blx (lv' := [(4, vI v4), (0, vR 58), (1, vR 20), (2, vI head), (3, vI place)]) (st' := [vI v4, vI place, vR 20]) B5_46_50 rfl ?_
        refine r_vIp (c := 20) (args := [vI place, vI v4]) (rest := []) (pc' := 53) D5_50 rfl ck_0_virtual_73 TE85 rfl (Nat.le_of_ble_eq_true rfl) ⟨Nat.le_of_ble_eq_true rfl, Nat.le_of_ble_eq_true rfl⟩ sc_20 ⟨rfl, by decide⟩ H.1 (dp_0 hd rfl) (k85_20 E (dp_n hd rfl) H place v4 (by omega) (by omega)) ?_
        intro v15 q18
        have q17 := q18; clear q18
        refine s_blx (lv' := [(5, vI v15), (4, vI v4), (0, vR 58), (1, vR 20), (2, vI head), (3, vI place)]) (st' := [vR 20]) B5_53_56 rfl ?_
        refine r_gfix (r := 28) (pc' := 59) D5_56 rfl gf_0_84_20 H.1 ?_
        refine s_blx (lv' := [(5, vI v15), (4, vI v4), (0, vR 58), (1, vR 20), (2, vI head), (3, vI place)]) (st' := [vI v15, vR 28]) B5_59_61 rfl ?_
        refine r_iald (pc' := 62) D5_61 rfl sc_28 H.1 (by omega) ?_
        intro w19 e20 r21
        have b_w19 := H.2 28 (v15) (-1) 7 rfl
        rw [← e20] at b_w19; clear r21
        refine s_blx (lv' := [(5, vI v15), (4, vI v4), (0, vR 58), (1, vR 20), (2, vI head), (3, vI place)]) (st' := [vI (-1), vI w19]) B5_62_63 rfl ?_
        refine r_icmp (tgt := 70) (pc' := 66) D5_63 rfl rfl (by unfold inR; omega) (fun (c22 : w19 = (-1)) => ?_) (fun (c22 : ¬ (w19 = (-1))) => ?_)
        · refine s_blx (lv' := [(6, vI 0), (5, vI v15), (4, vI v4), (0, vR 58), (1, vR 20), (2, vI head), (3, vI place)]) (st' := [vI head]) B5_70_74 rfl ?_
          refine r_tsw (tgt := fun k => if k = 1 then 100 else if k = 2 then 111 else if k = 3 then 132 else 0) (td := 134) D5_74 (by unfold inR; omega) ?_ rfl ?_ ?_
          · intro k h1 h2
            have hk : k = 1 ∨ k = 2 ∨ k = 3 := by omega
            rcases hk with rfl | rfl | rfl <;> exact ⟨_, rfl, rfl⟩
          · intro k h1 h2 c23
            have hk : k = 1 ∨ k = 2 ∨ k = 3 := by omega
            clear h1 h2
            rcases hk with rfl | rfl | rfl
            · show sRn _ _ _ _ _ 100 _ _ _ _
              refine s_blx (lv' := [(6, vI 0), (5, vI v15), (4, vI v4), (0, vR 58), (1, vR 20), (2, vI head), (3, vI place)]) (st' := [vI 0]) B5_100_102 rfl ?_
              refine r_ifc (tgt := 109) (pc' := 105) D5_102 rfl rfl (by unfold inR; omega) (fun (c24 : 0 = 0) => ?_) (fun (c24 : ¬ (0 = 0)) => ?_)
              · refine s_blx (lv' := [(6, vI 0), (5, vI v15), (4, vI v4), (0, vR 58), (1, vR 20), (2, vI head), (3, vI place)]) (st' := [vI (-1)]) B5_109_110 rfl ?_
                exact r_iretI D5_110 rfl (⟨rfl, by omega, by omega⟩)
              · exfalso; omega
            · show sRn _ _ _ _ _ 111 _ _ _ _
              refine s_blx (lv' := [(6, vI 0), (5, vI v15), (4, vI v4), (0, vR 58), (1, vR 20), (2, vI head), (3, vI place)]) (st' := [vI 0]) B5_111_113 rfl ?_
              refine r_ifc (tgt := 130) (pc' := 116) D5_113 rfl rfl (by unfold inR; omega) (fun (c25 : 0 ≠ 0) => ?_) (fun (c25 : ¬ (0 ≠ 0)) => ?_)
              · exfalso; omega
              · refine s_blx (lv' := [(6, vI 0), (5, vI v15), (4, vI v4), (0, vR 58), (1, vR 20), (2, vI head), (3, vI place)]) (st' := [vR 20]) B5_116_117 rfl ?_
                refine r_gfix (r := 31) (pc' := 120) D5_117 rfl gf_0_141_20 H.1 ?_
                refine s_blx (lv' := [(6, vI 0), (5, vI v15), (4, vI v4), (0, vR 58), (1, vR 20), (2, vI head), (3, vI place)]) (st' := [vI v15, vR 31]) B5_120_122 rfl ?_
                refine r_iald (pc' := 123) D5_122 rfl sc_31 H.1 (by omega) ?_
                intro w26 e27 r28
                unfold inR at r28
                refine r_ifc (tgt := 130) (pc' := 126) D5_123 rfl rfl (by unfold inR; omega) (fun (c29 : w26 ≤ 0) => ?_) (fun (c29 : ¬ (w26 ≤ 0)) => ?_)
                · refine s_blx (lv' := [(6, vI 0), (5, vI v15), (4, vI v4), (0, vR 58), (1, vR 20), (2, vI head), (3, vI place)]) (st' := [vI (-1)]) B5_130_131 rfl ?_
                  exact r_iretI D5_131 rfl (⟨rfl, by omega, by omega⟩)
                · refine s_blx (lv' := [(6, vI 0), (5, vI v15), (4, vI v4), (0, vR 58), (1, vR 20), (2, vI head), (3, vI place)]) (st' := [vI 2]) B5_126_127 rfl ?_
                  refine r_goto (tgt := 131) D5_127 rfl ?_
                  exact r_iretI D5_131 rfl (⟨rfl, by omega, by omega⟩)
            · show sRn _ _ _ _ _ 132 _ _ _ _
              refine s_blx (lv' := [(6, vI 0), (5, vI v15), (4, vI v4), (0, vR 58), (1, vR 20), (2, vI head), (3, vI place)]) (st' := [vI 3]) B5_132_133 rfl ?_
              exact r_iretI D5_133 rfl (⟨rfl, by omega, by omega⟩)
          · intro c23
            refine s_blx (lv' := [(6, vI 0), (5, vI v15), (4, vI v4), (0, vR 58), (1, vR 20), (2, vI head), (3, vI place)]) (st' := [vI 0]) B5_134_136 rfl ?_
            refine r_ifc (tgt := 143) (pc' := 139) D5_136 rfl rfl (by unfold inR; omega) (fun (c30 : 0 = 0) => ?_) (fun (c30 : ¬ (0 = 0)) => ?_)
            · refine s_blx (lv' := [(6, vI 0), (5, vI v15), (4, vI v4), (0, vR 58), (1, vR 20), (2, vI head), (3, vI place)]) (st' := [vR 20, vI 10]) B5_143_146 rfl ?_
              refine r_gfix (r := 29) (pc' := 149) D5_146 rfl gf_0_144_20 H.1 ?_
              refine s_blx (lv' := [(6, vI 0), (5, vI v15), (4, vI v4), (0, vR 58), (1, vR 20), (2, vI head), (3, vI place)]) (st' := [vI v15, vR 29, vI 10]) B5_149_151 rfl ?_
              refine r_iald (pc' := 152) D5_151 rfl sc_29 H.1 (by omega) ?_
              intro w31 e32 r33
              have b_w31 := H.2 29 (v15) 0 7 rfl
              rw [← e32] at b_w31; clear r33
              refine s_blx (lv' := [(6, vI 0), (5, vI v15), (4, vI v4), (0, vR 58), (1, vR 20), (2, vI head), (3, vI place)]) (st' := [vI (10 + w31)]) B5_152_153 rfl ?_
              exact r_iretI D5_153 rfl (⟨rfl, by omega, by omega⟩)
            · exfalso; omega
        · refine s_blx (lv' := [(5, vI v15), (4, vI v4), (0, vR 58), (1, vR 20), (2, vI head), (3, vI place)]) (st' := [vI 1]) B5_66_67 rfl ?_
          refine r_goto (tgt := 71) D5_67 rfl ?_
          refine s_blx (lv' := [(6, vI 1), (5, vI v15), (4, vI v4), (0, vR 58), (1, vR 20), (2, vI head), (3, vI place)]) (st' := [vI head]) B5_71_74 rfl ?_
          refine r_tsw (tgt := fun k => if k = 1 then 100 else if k = 2 then 111 else if k = 3 then 132 else 0) (td := 134) D5_74 (by unfold inR; omega) ?_ rfl ?_ ?_
          · intro k h1 h2
            have hk : k = 1 ∨ k = 2 ∨ k = 3 := by omega
            rcases hk with rfl | rfl | rfl <;> exact ⟨_, rfl, rfl⟩
          · intro k h1 h2 c34
            have hk : k = 1 ∨ k = 2 ∨ k = 3 := by omega
            clear h1 h2
            rcases hk with rfl | rfl | rfl
            · show sRn _ _ _ _ _ 100 _ _ _ _
              refine s_blx (lv' := [(6, vI 1), (5, vI v15), (4, vI v4), (0, vR 58), (1, vR 20), (2, vI head), (3, vI place)]) (st' := [vI 1]) B5_100_102 rfl ?_
              refine r_ifc (tgt := 109) (pc' := 105) D5_102 rfl rfl (by unfold inR; omega) (fun (c35 : 1 = 0) => ?_) (fun (c35 : ¬ (1 = 0)) => ?_)
              · exfalso; omega
              · refine s_blx (lv' := [(6, vI 1), (5, vI v15), (4, vI v4), (0, vR 58), (1, vR 20), (2, vI head), (3, vI place)]) (st' := [vI 1]) B5_105_106 rfl ?_
                refine r_goto (tgt := 110) D5_106 rfl ?_
                exact r_iretI D5_110 rfl (⟨rfl, by omega, by omega⟩)
            · show sRn _ _ _ _ _ 111 _ _ _ _
              refine s_blx (lv' := [(6, vI 1), (5, vI v15), (4, vI v4), (0, vR 58), (1, vR 20), (2, vI head), (3, vI place)]) (st' := [vI 1]) B5_111_113 rfl ?_
              refine r_ifc (tgt := 130) (pc' := 116) D5_113 rfl rfl (by unfold inR; omega) (fun (c36 : 1 ≠ 0) => ?_) (fun (c36 : ¬ (1 ≠ 0)) => ?_)
              · refine s_blx (lv' := [(6, vI 1), (5, vI v15), (4, vI v4), (0, vR 58), (1, vR 20), (2, vI head), (3, vI place)]) (st' := [vI (-1)]) B5_130_131 rfl ?_
                exact r_iretI D5_131 rfl (⟨rfl, by omega, by omega⟩)
              · exfalso; omega
            · show sRn _ _ _ _ _ 132 _ _ _ _
              refine s_blx (lv' := [(6, vI 1), (5, vI v15), (4, vI v4), (0, vR 58), (1, vR 20), (2, vI head), (3, vI place)]) (st' := [vI 3]) B5_132_133 rfl ?_
              exact r_iretI D5_133 rfl (⟨rfl, by omega, by omega⟩)
          · intro c34
            refine s_blx (lv' := [(6, vI 1), (5, vI v15), (4, vI v4), (0, vR 58), (1, vR 20), (2, vI head), (3, vI place)]) (st' := [vI 1]) B5_134_136 rfl ?_
            refine r_ifc (tgt := 143) (pc' := 139) D5_136 rfl rfl (by unfold inR; omega) (fun (c37 : 1 = 0) => ?_) (fun (c37 : ¬ (1 = 0)) => ?_)
            · exfalso; omega
            · refine s_blx (lv' := [(6, vI 1), (5, vI v15), (4, vI v4), (0, vR 58), (1, vR 20), (2, vI head), (3, vI place)]) (st' := [vI (-1)]) B5_139_140 rfl ?_
              refine r_goto (tgt := 153) D5_140 rfl ?_
              exact r_iretI D5_153 rfl (⟨rfl, by omega, by omega⟩)
      · refine s_blx (lv' := [(4, vI v4), (0, vR 58), (1, vR 20), (2, vI head), (3, vI place)]) (st' := [vI (-1)]) B5_44_45 rfl ?_
        exact r_iretI D5_45 rfl (⟨rfl, by omega, by omega⟩)
    · refine s_blx (lv' := [(4, vI v4), (0, vR 58), (1, vR 20), (2, vI head), (3, vI place)]) (st' := [vR 58]) B5_33_34 rfl ?_
      refine r_gint (ki := 5) (pc' := 37) D5_34 rfl gf_0_32_58 rfl H.1 ?_
      intro w38 e39 r40
      unfold inR at r40
      exact r_iretI D5_37 rfl (⟨rfl, by omega, by omega⟩)
  · refine s_blx (lv' := [(4, vI v4), (0, vR 58), (1, vR 20), (2, vI head), (3, vI place)]) (st' := [vR 20]) B5_13_14 rfl ?_
    refine r_gfix (r := 25) (pc' := 17) D5_14 rfl gf_0_87_20 H.1 ?_
    refine s_blx (lv' := [(4, vI v4), (0, vR 58), (1, vR 20), (2, vI head), (3, vI place)]) (st' := [vI place, vR 25]) B5_17_18 rfl ?_
    refine r_bald (pc' := 19) D5_18 rfl sc_25 (by decide) H.1 (by omega) ?_
    intro w41 e42 r43
    have b_w41 := H.2 25 (place) 0 1 rfl
    rw [← e42] at b_w41; clear r43
    refine r_ifc (tgt := 26) (pc' := 22) D5_19 rfl rfl (by unfold inR; omega) (fun (c44 : w41 = 0) => ?_) (fun (c44 : ¬ (w41 = 0)) => ?_)
    · refine s_blx (lv' := [(4, vI v4), (0, vR 58), (1, vR 20), (2, vI head), (3, vI place)]) (st' := [vI 0]) B5_26_27 rfl ?_
      exact r_iretI D5_27 rfl (⟨rfl, by omega, by omega⟩)
    · refine s_blx (lv' := [(4, vI v4), (0, vR 58), (1, vR 20), (2, vI head), (3, vI place)]) (st' := [vI (-1)]) B5_22_23 rfl ?_
      refine r_goto (tgt := 27) D5_23 rfl ?_
      exact r_iretI D5_27 rfl (⟨rfl, by omega, by omega⟩)
set_option maxRecDepth 4000 in
theorem L_k3_58_20x {base : Nat} {X : Nat → Option mC} {G : Nat → Value} (E : EnvOK base X G) {d : Nat} (hd : 3 ≤ d) {M : mH} (H : HI base M) (place : Int) (h0 : 0 ≤ place ∧ place ≤ 144) : ∀ mz : Nat, (∀ (x3 x4 : Int) (N : mH), HI base N → Fr [(58, 6)] M N → (gi N 58 5 = -1 ∨ (20 ≤ gi N 58 5 ∧ gi N 58 5 ≤ 22)) → (0 ≤ x3 ∧ x3 ≤ 2 - x4) → (-1 ≤ x4 ∧ x4 ≤ 2) → (0 ≤ x3) → (x3 ≤ 4) → ((-1) ≤ x4) → (x4 ≤ 2) → (x4 + 1) * 1 + 0 < (mz : Int) → sRn base X G d T3 10 [(0, vR 58), (1, vR 20), (2, vI place), (3, vI x3), (4, vI x4)] [] N (s_Q base (pI (fun v M' => HI base M' ∧ Fr [(58, 6)] M M' ∧ (0 ≤ v ∧ v ≤ 3) ∧ (gi M' 58 5 = -1 ∨ (20 ≤ gi M' 58 5 ∧ gi M' 58 5 ≤ 22)))))) := by
  have f0 : Fr [(58, 6)] M M := Fr.rf
  intro mz
  induction mz with
  | zero => exact fun x3 x4 N _ _ z0 z1 z2 z3 z4 z5 z6 z7 => by omega
  | succ mz ih =>
    intro x3 x4 N HN fN i0 i1 i2 i3 i4 i5 i6 hmu
    refine s_blx (lv' := [(0, vR 58), (1, vR 20), (2, vI place), (3, vI x3), (4, vI x4)]) (st' := [vI x4]) B3_10_12 rfl ?_
    refine r_ifc (tgt := 47) (pc' := 15) D3_12 rfl rfl (by unfold inR; omega) (fun (c7 : x4 < 0) => ?_) (fun (c7 : ¬ (x4 < 0)) => ?_)
    · refine s_blx (lv' := [(0, vR 58), (1, vR 20), (2, vI place), (3, vI x3), (4, vI x4)]) (st' := [vI x3]) B3_47_48 rfl ?_
      exact r_iretI D3_48 rfl (⟨HN, fN, by omega, by omega⟩)
    · refine s_blx (lv' := [(0, vR 58), (1, vR 20), (2, vI place), (3, vI x3), (4, vI x4)]) (st' := [vR 58, vI place, vR 20]) B3_15_18 rfl ?_
      refine r_gint (ki := 3) (pc' := 21) D3_18 rfl gf_0_25_58 rfl HN.1 ?_
      intro w8 e9 r10
      unfold inR at r10
      refine s_blx (lv' := [(0, vR 58), (1, vR 20), (2, vI place), (3, vI x3), (4, vI x4)]) (st' := [vI x4, vI w8, vI place, vR 20]) B3_21_23 rfl ?_
      refine r_vIp (c := 20) (args := [vI place, vI w8, vI x4]) (rest := []) (pc' := 26) D3_23 rfl ck_0_virtual_118 TE87 rfl (Nat.le_of_ble_eq_true rfl) ⟨Nat.le_of_ble_eq_true rfl, Nat.le_of_ble_eq_true rfl⟩ sc_20 ⟨rfl, by decide⟩ HN.1 (dp_0 hd rfl) (k87_20 E (dp_n hd rfl) HN place w8 x4 (by omega) (by omega) (by omega)) ?_
      intro v11 q14
      have q13 := q14; clear q14
      refine r_ifc (tgt := 41) (pc' := 29) D3_26 rfl rfl (by unfold inR; omega) (fun (c15 : v11 = 0) => ?_) (fun (c15 : ¬ (v11 = 0)) => ?_)
      · refine s_blx (lv' := [(4, vI (x4 + (-1))), (0, vR 58), (1, vR 20), (2, vI place), (3, vI x3)]) (st' := []) B3_41_44 rfl ?_
        refine r_goto (tgt := 10) D3_44 rfl ?_
        refine r_loc (lv' := [(0, vR 58), (1, vR 20), (2, vI place), (3, vI x3), (4, vI (x4 + (-1)))]) ⟨rfl, rfl, rfl, rfl, rfl, trivial⟩ rfl rfl ?_
        exact ih x3 (x4 + (-1)) N HN fN (by omega) (by omega) (by omega) (by omega) (by omega) (by omega) (by omega) (by omega)
      · refine s_blx (lv' := [(3, vI (x3 + 1)), (0, vR 58), (1, vR 20), (2, vI place), (4, vI x4)]) (st' := [vI (20 + x4), vR 58]) B3_29_38 rfl ?_
        refine r_pint (ki := 5) (pc' := 41) D3_38 rfl pf_0_32_58 rfl HN (by unfold inR; omega) trivial ?_
        intro M16 u17 H18 p19
        have f20 := fN.wr u17 rfl
        refine s_blx (lv' := [(4, vI (x4 + (-1))), (3, vI (x3 + 1)), (0, vR 58), (1, vR 20), (2, vI place)]) (st' := []) B3_41_44 rfl ?_
        refine r_goto (tgt := 10) D3_44 rfl ?_
        refine r_loc (lv' := [(0, vR 58), (1, vR 20), (2, vI place), (3, vI (x3 + 1)), (4, vI (x4 + (-1)))]) ⟨rfl, rfl, rfl, rfl, rfl, trivial⟩ rfl rfl ?_
        have g21 : gi M16 58 5 = 20 + x4 := p19
        exact ih (x3 + 1) (x4 + (-1)) M16 H18 f20 (by omega) (by omega) (by omega) (by omega) (by omega) (by omega) (by omega) (by omega)
set_option maxRecDepth 4000 in
theorem k3_58_20x {base : Nat} {X : Nat → Option mC} {G : Nat → Value} (E : EnvOK base X G) {d : Nat} (hd : 3 ≤ d) {M : mH} (H : HI base M) (place : Int) (h0 : 0 ≤ place ∧ place ≤ 144) : sOk base X G d T3 [vR 58, vR 20, vI place] M (pI (fun v M' => HI base M' ∧ Fr [(58, 6)] M M' ∧ (0 ≤ v ∧ v ≤ 3) ∧ (gi M' 58 5 = -1 ∨ (20 ≤ gi M' 58 5 ∧ gi M' 58 5 ≤ 22)))) := by
  have f0 : Fr [(58, 6)] M M := Fr.rf
  refine sOk.of (show sRn base X G d T3 0 [(0, vR 58), (1, vR 20), (2, vI place)] [] M _ from ?_)
  refine s_blx (lv' := [(3, vI 0), (0, vR 58), (1, vR 20), (2, vI place)]) (st' := [vI (-1), vR 58]) B3_0_4 rfl ?_
  refine r_pint (ki := 5) (pc' := 7) D3_4 rfl pf_0_32_58 rfl H (by unfold inR; omega) trivial ?_
  intro M1 u2 H3 p4
  have f5 := f0.wr u2 rfl
  refine s_blx (lv' := [(4, vI 2), (3, vI 0), (0, vR 58), (1, vR 20), (2, vI place)]) (st' := []) B3_7_10 rfl ?_
  refine r_loc (lv' := [(0, vR 58), (1, vR 20), (2, vI place), (3, vI 0), (4, vI 2)]) ⟨rfl, rfl, rfl, rfl, rfl, trivial⟩ rfl rfl ?_
  have g6 : gi M1 58 5 = -1 := p4
  exact (L_k3_58_20x E hd H place h0 (((2 + 1) * 1 + 0 : Int) + 1).toNat) 0 2 M1 H3 f5 (by omega) (by omega) (by omega) (by omega) (by omega) (by omega) (by omega) (by omega)
set_option maxRecDepth 4000 in
theorem k2_58_20x {base : Nat} {X : Nat → Option mC} {G : Nat → Value} (E : EnvOK base X G) {d : Nat} (hd : 4 ≤ d) {M : mH} (H : HI base M) (place : Int) (second : Int) (h0 : 0 ≤ place ∧ place ≤ 144) (h1 : 0 ≤ second ∧ second ≤ 12) : sOk base X G d T2 [vR 58, vR 20, vI place, vI second] M (pV (fun M' => HI base M' ∧ Fr [(58, 6), (60, 0)] M M' ∧ (gi M' 58 5 = -1 ∨ (20 ≤ gi M' 58 5 ∧ gi M' 58 5 ≤ 22)) ∧ (gi M' 60 0 ≠ 0 → gi M 58 3 ≤ 110))) := by
  have f0 : Fr [(58, 6), (60, 0)] M M := Fr.rf
  refine sOk.of (show sRn base X G d T2 0 [(0, vR 58), (1, vR 20), (2, vI place), (3, vI second)] [] M _ from ?_)
  refine s_blx (lv' := [(0, vR 58), (1, vR 20), (2, vI place), (3, vI second)]) (st' := [vR 58]) B2_0_1 rfl ?_
  refine r_gint (ki := 3) (pc' := 4) D2_1 rfl gf_0_25_58 rfl H.1 ?_
  intro w1 e2 r3
  unfold inR at r3
  refine r_sIp (args := [vI w1]) (rest := []) (pc' := 7) D2_4 rfl ck_0_static_64 TE42 rfl (Nat.le_of_ble_eq_true rfl) ⟨Nat.le_of_ble_eq_true rfl, Nat.le_of_ble_eq_true rfl⟩ (by decide) (dp_0 hd rfl) (k42 E (dp_n hd rfl) H w1 (by omega)) ?_
  intro v4 q11
  obtain ⟨q6, q7, q8, q9, q10⟩ := q11
  refine s_blx (lv' := [(4, vI v4), (0, vR 58), (1, vR 20), (2, vI place), (3, vI second)]) (st' := [vI 3, vI v4]) B2_7_12 rfl ?_
  refine r_icmp (tgt := 25) (pc' := 15) D2_12 rfl rfl (by unfold inR; omega) (fun (c12 : 3 ≤ v4) => ?_) (fun (c12 : ¬ (3 ≤ v4)) => ?_)
  · refine s_blx (lv' := [(5, vI (-1)), (4, vI v4), (0, vR 58), (1, vR 20), (2, vI place), (3, vI second)]) (st' := [vR 20]) B2_25_29 rfl ?_
    refine r_gfix (r := 23) (pc' := 32) D2_29 rfl gf_0_76_20 H.1 ?_
    refine s_blx (lv' := [(5, vI (-1)), (4, vI v4), (0, vR 58), (1, vR 20), (2, vI place), (3, vI second)]) (st' := [vI place, vR 23]) B2_32_33 rfl ?_
    refine r_iald (pc' := 34) D2_33 rfl sc_23 H.1 (by omega) ?_
    intro w13 e14 r15
    unfold inR at r15
    refine s_blx (lv' := [(5, vI (-1)), (4, vI v4), (0, vR 58), (1, vR 20), (2, vI place), (3, vI second)]) (st' := [vI 1, vI w13]) B2_34_35 rfl ?_
    refine r_max (pc' := 38) D2_35 rfl mc_0_static_79 sp_0_79 (Nat.le_of_ble_eq_true rfl) (by unfold inR; omega) ?_
    intro z16 r17 r18 r19
    refine s_blx (lv' := [(6, vI z16), (5, vI (-1)), (4, vI v4), (0, vR 58), (1, vR 20), (2, vI place), (3, vI second)]) (st' := [vR 58]) B2_38_41 rfl ?_
    refine r_gfix (r := 60) (pc' := 44) D2_41 rfl gf_0_28_58 H.1 ?_
    refine s_blx (lv' := [(6, vI z16), (5, vI (-1)), (4, vI v4), (0, vR 58), (1, vR 20), (2, vI place), (3, vI second)]) (st' := [vI (-1), vI (-1), vI 0, vR 60]) B2_44_48 rfl ?_
    refine r_icmp (tgt := 66) (pc' := 51) D2_48 rfl rfl (by unfold inR; omega) (fun (c20 : (-1) = (-1)) => ?_) (fun (c20 : ¬ ((-1) = (-1))) => ?_)
    · refine s_blx (lv' := [(6, vI z16), (5, vI (-1)), (4, vI v4), (0, vR 58), (1, vR 20), (2, vI place), (3, vI second)]) (st' := [vL 0, vI 0, vR 60]) B2_66_67 rfl ?_
      refine r_last (pc' := 68) D2_67 rfl sc_60 H (by omega) (by unfold inJ; omega) trivial ?_
      intro M21 u22 H23 p24
      have f25 := f0.wr u22 rfl
      refine s_blx (lv' := [(6, vI z16), (5, vI (-1)), (4, vI v4), (0, vR 58), (1, vR 20), (2, vI place), (3, vI second)]) (st' := [vR 58]) B2_68_69 rfl ?_
      refine r_gfix (r := 60) (pc' := 72) D2_69 rfl gf_0_28_58 H23.1 ?_
      refine s_blx (lv' := [(6, vI z16), (5, vI (-1)), (4, vI v4), (0, vR 58), (1, vR 20), (2, vI place), (3, vI second)]) (st' := [vR 20, vI 1, vR 60]) B2_72_74 rfl ?_
      refine r_gfix (r := 25) (pc' := 77) D2_74 rfl gf_0_87_20 H23.1 ?_
      refine s_blx (lv' := [(6, vI z16), (5, vI (-1)), (4, vI v4), (0, vR 58), (1, vR 20), (2, vI place), (3, vI second)]) (st' := [vI place, vR 25, vI 1, vR 60]) B2_77_78 rfl ?_
      refine r_bald (pc' := 79) D2_78 rfl sc_25 (by decide) H23.1 (by omega) ?_
      intro w26 e27 r28
      have b_w26 := H23.2 25 (place) 0 1 rfl
      rw [← e27] at b_w26; clear r28
      refine r_ifc (tgt := 86) (pc' := 82) D2_79 rfl rfl (by unfold inR; omega) (fun (c29 : w26 = 0) => ?_) (fun (c29 : ¬ (w26 = 0)) => ?_)
      · refine s_blx (lv' := [(6, vI z16), (5, vI (-1)), (4, vI v4), (0, vR 58), (1, vR 20), (2, vI place), (3, vI second)]) (st' := [vL 0, vI 1, vR 60]) B2_86_87 rfl ?_
        refine r_last (pc' := 88) D2_87 rfl sc_60 H23 (by omega) (by unfold inJ; omega) trivial ?_
        intro M30 u31 H32 p33
        have f34 := f25.wr u31 rfl
        refine s_blx (lv' := [(6, vI z16), (5, vI (-1)), (4, vI v4), (0, vR 58), (1, vR 20), (2, vI place), (3, vI second)]) (st' := [vR 58]) B2_88_89 rfl ?_
        refine r_gfix (r := 60) (pc' := 92) D2_89 rfl gf_0_28_58 H32.1 ?_
        refine s_blx (lv' := [(6, vI z16), (5, vI (-1)), (4, vI v4), (0, vR 58), (1, vR 20), (2, vI place), (3, vI second)]) (st' := [vI v4, vI place, vR 20, vI 2, vR 60]) B2_92_97 rfl ?_
        refine r_vIp (c := 20) (args := [vI place, vI v4]) (rest := [vI 2, vR 60]) (pc' := 100) D2_97 rfl ck_0_virtual_91 TE90 rfl (Nat.le_of_ble_eq_true rfl) ⟨Nat.le_of_ble_eq_true rfl, Nat.le_of_ble_eq_true rfl⟩ sc_20 ⟨rfl, by decide⟩ H32.1 (dp_0 hd rfl) (k90_20 E (dp_n hd rfl) H32 place v4 (by omega) (by omega)) ?_
        intro v35 q38
        have q37 := q38; clear q38
        refine r_i2l (pc' := 101) D2_100 rfl (by unfold inR; omega) ?_
        refine r_normL ?_
        intro z39 r40 _; unfold inJ at r40
        refine r_last (pc' := 102) D2_101 rfl sc_60 H32 (by omega) (by unfold inJ; omega) trivial ?_
        intro M41 u42 H43 p44
        have f45 := f34.wr u42 rfl
        refine s_blx (lv' := [(6, vI z16), (5, vI (-1)), (4, vI v4), (0, vR 58), (1, vR 20), (2, vI place), (3, vI second)]) (st' := [vR 58]) B2_102_103 rfl ?_
        refine r_gfix (r := 60) (pc' := 106) D2_103 rfl gf_0_28_58 H43.1 ?_
        refine s_blx (lv' := [(6, vI z16), (5, vI (-1)), (4, vI v4), (0, vR 58), (1, vR 20), (2, vI place), (3, vI second)]) (st' := [vR 20, vI 3, vR 60]) B2_106_108 rfl ?_
        refine r_gfix (r := 34) (pc' := 111) D2_108 rfl gf_0_94_20 H43.1 ?_
        refine s_blx (lv' := [(6, vI z16), (5, vI (-1)), (4, vI v4), (0, vR 58), (1, vR 20), (2, vI place), (3, vI second)]) (st' := [vI 0, vR 34, vI 3, vR 60]) B2_111_112 rfl ?_
        refine r_iald (pc' := 113) D2_112 rfl sc_34 H43.1 (by omega) ?_
        intro w46 e47 r48
        have b_w46 := H43.2 34 (0) 0 1000 rfl
        rw [← e47] at b_w46; clear r48
        refine r_i2l (pc' := 114) D2_113 rfl (by unfold inR; omega) ?_
        refine r_normL ?_
        intro z49 r50 _; unfold inJ at r50
        refine r_last (pc' := 115) D2_114 rfl sc_60 H43 (by omega) (by unfold inJ; omega) trivial ?_
        intro M51 u52 H53 p54
        have f55 := f45.wr u52 rfl
        refine s_blx (lv' := [(6, vI z16), (5, vI (-1)), (4, vI v4), (0, vR 58), (1, vR 20), (2, vI place), (3, vI second)]) (st' := [vR 58]) B2_115_116 rfl ?_
        refine r_gfix (r := 60) (pc' := 119) D2_116 rfl gf_0_28_58 H53.1 ?_
        refine s_blx (lv' := [(6, vI z16), (5, vI (-1)), (4, vI v4), (0, vR 58), (1, vR 20), (2, vI place), (3, vI second)]) (st' := [vI v4, vI 4, vR 60]) B2_119_122 rfl ?_
        refine r_i2l (pc' := 123) D2_122 rfl (by unfold inR; omega) ?_
        refine r_normL ?_
        intro z56 r57 _; unfold inJ at r57
        refine r_last (pc' := 124) D2_123 rfl sc_60 H53 (by omega) (by unfold inJ; omega) trivial ?_
        intro M58 u59 H60 p61
        have f62 := f55.wr u59 rfl
        refine s_blx (lv' := [(6, vI z16), (5, vI (-1)), (4, vI v4), (0, vR 58), (1, vR 20), (2, vI place), (3, vI second)]) (st' := [vR 58]) B2_124_125 rfl ?_
        refine r_gfix (r := 60) (pc' := 128) D2_125 rfl gf_0_28_58 H60.1 ?_
        refine s_blx (lv' := [(6, vI z16), (5, vI (-1)), (4, vI v4), (0, vR 58), (1, vR 20), (2, vI place), (3, vI second)]) (st' := [vI (-1), vI (-1), vI 5, vR 60]) B2_128_132 rfl ?_
        refine r_icmp (tgt := 139) (pc' := 135) D2_132 rfl rfl (by unfold inR; omega) (fun (c63 : (-1) ≠ (-1)) => ?_) (fun (c63 : ¬ ((-1) ≠ (-1))) => ?_)
        · exfalso; omega
        · refine s_blx (lv' := [(6, vI z16), (5, vI (-1)), (4, vI v4), (0, vR 58), (1, vR 20), (2, vI place), (3, vI second)]) (st' := [vL 0, vI 5, vR 60]) B2_135_136 rfl ?_
          refine r_goto (tgt := 153) D2_136 rfl ?_
          refine r_last (pc' := 154) D2_153 rfl sc_60 H60 (by omega) (by unfold inJ; omega) trivial ?_
          intro M64 u65 H66 p67
          have f68 := f62.wr u65 rfl
          refine s_blx (lv' := [(6, vI z16), (5, vI (-1)), (4, vI v4), (0, vR 58), (1, vR 20), (2, vI place), (3, vI second)]) (st' := [vR 58]) B2_154_155 rfl ?_
          refine r_gfix (r := 60) (pc' := 158) D2_155 rfl gf_0_28_58 H66.1 ?_
          refine s_blx (lv' := [(6, vI z16), (5, vI (-1)), (4, vI v4), (0, vR 58), (1, vR 20), (2, vI place), (3, vI second)]) (st' := [vI (-1), vI (-1), vI 6, vR 60]) B2_158_163 rfl ?_
          refine r_icmp (tgt := 170) (pc' := 166) D2_163 rfl rfl (by unfold inR; omega) (fun (c69 : (-1) ≠ (-1)) => ?_) (fun (c69 : ¬ ((-1) ≠ (-1))) => ?_)
          · exfalso; omega
          · refine s_blx (lv' := [(6, vI z16), (5, vI (-1)), (4, vI v4), (0, vR 58), (1, vR 20), (2, vI place), (3, vI second)]) (st' := [vL 0, vI 6, vR 60]) B2_166_167 rfl ?_
            refine r_goto (tgt := 181) D2_167 rfl ?_
            refine r_last (pc' := 182) D2_181 rfl sc_60 H66 (by omega) (by unfold inJ; omega) trivial ?_
            intro M70 u71 H72 p73
            have f74 := f68.wr u71 rfl
            refine s_blx (lv' := [(6, vI z16), (5, vI (-1)), (4, vI v4), (0, vR 58), (1, vR 20), (2, vI place), (3, vI second)]) (st' := [vR 58]) B2_182_183 rfl ?_
            refine r_gfix (r := 60) (pc' := 186) D2_183 rfl gf_0_28_58 H72.1 ?_
            refine s_blx (lv' := [(6, vI z16), (5, vI (-1)), (4, vI v4), (0, vR 58), (1, vR 20), (2, vI place), (3, vI second)]) (st' := [vI second, vI 7, vR 60]) B2_186_189 rfl ?_
            refine r_i2l (pc' := 190) D2_189 rfl (by unfold inR; omega) ?_
            refine r_normL ?_
            intro z75 r76 _; unfold inJ at r76
            refine r_last (pc' := 191) D2_190 rfl sc_60 H72 (by omega) (by unfold inJ; omega) trivial ?_
            intro M77 u78 H79 p80
            have f81 := f74.wr u78 rfl
            refine s_blx (lv' := [(6, vI z16), (5, vI (-1)), (4, vI v4), (0, vR 58), (1, vR 20), (2, vI place), (3, vI second)]) (st' := [vR 58]) B2_191_192 rfl ?_
            refine r_gfix (r := 60) (pc' := 195) D2_192 rfl gf_0_28_58 H79.1 ?_
            refine s_blx (lv' := [(6, vI z16), (5, vI (-1)), (4, vI v4), (0, vR 58), (1, vR 20), (2, vI place), (3, vI second)]) (st' := [vR 20, vI 8, vR 60]) B2_195_198 rfl ?_
            refine r_gint (ki := 17) (pc' := 201) D2_198 rfl gf_0_108_20 rfl H79.1 ?_
            intro w82 e83 r84
            have b_w82 := H79.2 20 (17) 0 3 rfl
            rw [← e83] at b_w82; clear r84
            refine r_i2l (pc' := 202) D2_201 rfl (by unfold inR; omega) ?_
            refine r_normL ?_
            intro z85 r86 _; unfold inJ at r86
            refine r_last (pc' := 203) D2_202 rfl sc_60 H79 (by omega) (by unfold inJ; omega) trivial ?_
            intro M87 u88 H89 p90
            have f91 := f81.wr u88 rfl
            refine s_blx (lv' := [(6, vI z16), (5, vI (-1)), (4, vI v4), (0, vR 58), (1, vR 20), (2, vI place), (3, vI second)]) (st' := [vR 58]) B2_203_204 rfl ?_
            refine r_gfix (r := 60) (pc' := 207) D2_204 rfl gf_0_28_58 H89.1 ?_
            refine s_blx (lv' := [(6, vI z16), (5, vI (-1)), (4, vI v4), (0, vR 58), (1, vR 20), (2, vI place), (3, vI second)]) (st' := [vI place, vR 20, vR 58, vI 9, vR 60]) B2_207_212 rfl ?_
            refine r_vI (c := 58) (args := [vR 20, vI place]) (rest := [vI 9, vR 60]) (pc' := 215) D2_212 rfl ck_0_virtual_111 TE3 rfl (Nat.le_of_ble_eq_true rfl) ⟨Nat.le_of_ble_eq_true rfl, Nat.le_of_ble_eq_true rfl⟩ sc_58 ⟨rfl, by decide⟩ H89.1 (dp_0 hd rfl) (k3_58_20x E (dp_n hd rfl) H89 place (by omega)) ?_
            intro v92 M93 q98
            obtain ⟨H94, f95, q96, q97⟩ := q98
            have f99 := f91.tr (f95.up rfl)
            refine r_i2l (pc' := 216) D2_215 rfl (by unfold inR; omega) ?_
            refine r_normL ?_
            intro z100 r101 _; unfold inJ at r101
            refine r_last (pc' := 217) D2_216 rfl sc_60 H94 (by omega) (by unfold inJ; omega) trivial ?_
            intro M102 u103 H104 p105
            have f106 := f99.wr u103 rfl
            refine s_blx (lv' := [(6, vI z16), (5, vI (-1)), (4, vI v4), (0, vR 58), (1, vR 20), (2, vI place), (3, vI second)]) (st' := [vR 58]) B2_217_218 rfl ?_
            refine r_gfix (r := 60) (pc' := 221) D2_218 rfl gf_0_28_58 H104.1 ?_
            refine s_blx (lv' := [(6, vI z16), (5, vI (-1)), (4, vI v4), (0, vR 58), (1, vR 20), (2, vI place), (3, vI second)]) (st' := [vR 20, vI 10, vR 60]) B2_221_224 rfl ?_
            refine r_gfix (r := 24) (pc' := 227) D2_224 rfl gf_0_115_20 H104.1 ?_
            refine s_blx (lv' := [(6, vI z16), (5, vI (-1)), (4, vI v4), (0, vR 58), (1, vR 20), (2, vI place), (3, vI second)]) (st' := [vI place, vR 24, vI 10, vR 60]) B2_227_228 rfl ?_
            refine r_iald (pc' := 229) D2_228 rfl sc_24 H104.1 (by omega) ?_
            intro w107 e108 r109
            unfold inR at r109
            refine r_i2l (pc' := 230) D2_229 rfl (by unfold inR; omega) ?_
            refine r_normL ?_
            intro z110 r111 _; unfold inJ at r111
            refine r_last (pc' := 231) D2_230 rfl sc_60 H104 (by omega) (by unfold inJ; omega) trivial ?_
            intro M112 u113 H114 p115
            have f116 := f106.wr u113 rfl
            have g117 : gi M112 58 5 = gi M93 58 5 := (u113.gi_ne (by decide) (Or.inl (by decide))).trans ((u103.gi_ne (by decide) (Or.inl (by decide))).trans (rfl))
            have g118 : gi M112 60 0 = 0 := (u113.gi_ne (by decide) (Or.inr (by decide))).trans ((u103.gi_ne (by decide) (Or.inr (by decide))).trans ((f95.g rfl).trans ((u88.gi_ne (by decide) (Or.inr (by decide))).trans ((u78.gi_ne (by decide) (Or.inr (by decide))).trans ((u71.gi_ne (by decide) (Or.inr (by decide))).trans ((u65.gi_ne (by decide) (Or.inr (by decide))).trans ((u59.gi_ne (by decide) (Or.inr (by decide))).trans ((u52.gi_ne (by decide) (Or.inr (by decide))).trans ((u42.gi_ne (by decide) (Or.inr (by decide))).trans ((u31.gi_ne (by decide) (Or.inr (by decide))).trans (p24)))))))))))
            exact r_retV D2_231 rfl (⟨H114, f116, by rw [g117]; omega, by rw [g118]; omega⟩)
      · refine s_blx (lv' := [(6, vI z16), (5, vI (-1)), (4, vI v4), (0, vR 58), (1, vR 20), (2, vI place), (3, vI second)]) (st' := [vL 1, vI 1, vR 60]) B2_82_83 rfl ?_
        refine r_goto (tgt := 87) D2_83 rfl ?_
        refine r_last (pc' := 88) D2_87 rfl sc_60 H23 (by omega) (by unfold inJ; omega) trivial ?_
        intro M119 u120 H121 p122
        have f123 := f25.wr u120 rfl
        refine s_blx (lv' := [(6, vI z16), (5, vI (-1)), (4, vI v4), (0, vR 58), (1, vR 20), (2, vI place), (3, vI second)]) (st' := [vR 58]) B2_88_89 rfl ?_
        refine r_gfix (r := 60) (pc' := 92) D2_89 rfl gf_0_28_58 H121.1 ?_
        refine s_blx (lv' := [(6, vI z16), (5, vI (-1)), (4, vI v4), (0, vR 58), (1, vR 20), (2, vI place), (3, vI second)]) (st' := [vI v4, vI place, vR 20, vI 2, vR 60]) B2_92_97 rfl ?_
        refine r_vIp (c := 20) (args := [vI place, vI v4]) (rest := [vI 2, vR 60]) (pc' := 100) D2_97 rfl ck_0_virtual_91 TE90 rfl (Nat.le_of_ble_eq_true rfl) ⟨Nat.le_of_ble_eq_true rfl, Nat.le_of_ble_eq_true rfl⟩ sc_20 ⟨rfl, by decide⟩ H121.1 (dp_0 hd rfl) (k90_20 E (dp_n hd rfl) H121 place v4 (by omega) (by omega)) ?_
        intro v124 q127
        have q126 := q127; clear q127
        refine r_i2l (pc' := 101) D2_100 rfl (by unfold inR; omega) ?_
        refine r_normL ?_
        intro z128 r129 _; unfold inJ at r129
        refine r_last (pc' := 102) D2_101 rfl sc_60 H121 (by omega) (by unfold inJ; omega) trivial ?_
        intro M130 u131 H132 p133
        have f134 := f123.wr u131 rfl
        refine s_blx (lv' := [(6, vI z16), (5, vI (-1)), (4, vI v4), (0, vR 58), (1, vR 20), (2, vI place), (3, vI second)]) (st' := [vR 58]) B2_102_103 rfl ?_
        refine r_gfix (r := 60) (pc' := 106) D2_103 rfl gf_0_28_58 H132.1 ?_
        refine s_blx (lv' := [(6, vI z16), (5, vI (-1)), (4, vI v4), (0, vR 58), (1, vR 20), (2, vI place), (3, vI second)]) (st' := [vR 20, vI 3, vR 60]) B2_106_108 rfl ?_
        refine r_gfix (r := 34) (pc' := 111) D2_108 rfl gf_0_94_20 H132.1 ?_
        refine s_blx (lv' := [(6, vI z16), (5, vI (-1)), (4, vI v4), (0, vR 58), (1, vR 20), (2, vI place), (3, vI second)]) (st' := [vI 0, vR 34, vI 3, vR 60]) B2_111_112 rfl ?_
        refine r_iald (pc' := 113) D2_112 rfl sc_34 H132.1 (by omega) ?_
        intro w135 e136 r137
        have b_w135 := H132.2 34 (0) 0 1000 rfl
        rw [← e136] at b_w135; clear r137
        refine r_i2l (pc' := 114) D2_113 rfl (by unfold inR; omega) ?_
        refine r_normL ?_
        intro z138 r139 _; unfold inJ at r139
        refine r_last (pc' := 115) D2_114 rfl sc_60 H132 (by omega) (by unfold inJ; omega) trivial ?_
        intro M140 u141 H142 p143
        have f144 := f134.wr u141 rfl
        refine s_blx (lv' := [(6, vI z16), (5, vI (-1)), (4, vI v4), (0, vR 58), (1, vR 20), (2, vI place), (3, vI second)]) (st' := [vR 58]) B2_115_116 rfl ?_
        refine r_gfix (r := 60) (pc' := 119) D2_116 rfl gf_0_28_58 H142.1 ?_
        refine s_blx (lv' := [(6, vI z16), (5, vI (-1)), (4, vI v4), (0, vR 58), (1, vR 20), (2, vI place), (3, vI second)]) (st' := [vI v4, vI 4, vR 60]) B2_119_122 rfl ?_
        refine r_i2l (pc' := 123) D2_122 rfl (by unfold inR; omega) ?_
        refine r_normL ?_
        intro z145 r146 _; unfold inJ at r146
        refine r_last (pc' := 124) D2_123 rfl sc_60 H142 (by omega) (by unfold inJ; omega) trivial ?_
        intro M147 u148 H149 p150
        have f151 := f144.wr u148 rfl
        refine s_blx (lv' := [(6, vI z16), (5, vI (-1)), (4, vI v4), (0, vR 58), (1, vR 20), (2, vI place), (3, vI second)]) (st' := [vR 58]) B2_124_125 rfl ?_
        refine r_gfix (r := 60) (pc' := 128) D2_125 rfl gf_0_28_58 H149.1 ?_
        refine s_blx (lv' := [(6, vI z16), (5, vI (-1)), (4, vI v4), (0, vR 58), (1, vR 20), (2, vI place), (3, vI second)]) (st' := [vI (-1), vI (-1), vI 5, vR 60]) B2_128_132 rfl ?_
        refine r_icmp (tgt := 139) (pc' := 135) D2_132 rfl rfl (by unfold inR; omega) (fun (c152 : (-1) ≠ (-1)) => ?_) (fun (c152 : ¬ ((-1) ≠ (-1))) => ?_)
        · exfalso; omega
        · refine s_blx (lv' := [(6, vI z16), (5, vI (-1)), (4, vI v4), (0, vR 58), (1, vR 20), (2, vI place), (3, vI second)]) (st' := [vL 0, vI 5, vR 60]) B2_135_136 rfl ?_
          refine r_goto (tgt := 153) D2_136 rfl ?_
          refine r_last (pc' := 154) D2_153 rfl sc_60 H149 (by omega) (by unfold inJ; omega) trivial ?_
          intro M153 u154 H155 p156
          have f157 := f151.wr u154 rfl
          refine s_blx (lv' := [(6, vI z16), (5, vI (-1)), (4, vI v4), (0, vR 58), (1, vR 20), (2, vI place), (3, vI second)]) (st' := [vR 58]) B2_154_155 rfl ?_
          refine r_gfix (r := 60) (pc' := 158) D2_155 rfl gf_0_28_58 H155.1 ?_
          refine s_blx (lv' := [(6, vI z16), (5, vI (-1)), (4, vI v4), (0, vR 58), (1, vR 20), (2, vI place), (3, vI second)]) (st' := [vI (-1), vI (-1), vI 6, vR 60]) B2_158_163 rfl ?_
          refine r_icmp (tgt := 170) (pc' := 166) D2_163 rfl rfl (by unfold inR; omega) (fun (c158 : (-1) ≠ (-1)) => ?_) (fun (c158 : ¬ ((-1) ≠ (-1))) => ?_)
          · exfalso; omega
          · refine s_blx (lv' := [(6, vI z16), (5, vI (-1)), (4, vI v4), (0, vR 58), (1, vR 20), (2, vI place), (3, vI second)]) (st' := [vL 0, vI 6, vR 60]) B2_166_167 rfl ?_
            refine r_goto (tgt := 181) D2_167 rfl ?_
            refine r_last (pc' := 182) D2_181 rfl sc_60 H155 (by omega) (by unfold inJ; omega) trivial ?_
            intro M159 u160 H161 p162
            have f163 := f157.wr u160 rfl
            refine s_blx (lv' := [(6, vI z16), (5, vI (-1)), (4, vI v4), (0, vR 58), (1, vR 20), (2, vI place), (3, vI second)]) (st' := [vR 58]) B2_182_183 rfl ?_
            refine r_gfix (r := 60) (pc' := 186) D2_183 rfl gf_0_28_58 H161.1 ?_
            refine s_blx (lv' := [(6, vI z16), (5, vI (-1)), (4, vI v4), (0, vR 58), (1, vR 20), (2, vI place), (3, vI second)]) (st' := [vI second, vI 7, vR 60]) B2_186_189 rfl ?_
            refine r_i2l (pc' := 190) D2_189 rfl (by unfold inR; omega) ?_
            refine r_normL ?_
            intro z164 r165 _; unfold inJ at r165
            refine r_last (pc' := 191) D2_190 rfl sc_60 H161 (by omega) (by unfold inJ; omega) trivial ?_
            intro M166 u167 H168 p169
            have f170 := f163.wr u167 rfl
            refine s_blx (lv' := [(6, vI z16), (5, vI (-1)), (4, vI v4), (0, vR 58), (1, vR 20), (2, vI place), (3, vI second)]) (st' := [vR 58]) B2_191_192 rfl ?_
            refine r_gfix (r := 60) (pc' := 195) D2_192 rfl gf_0_28_58 H168.1 ?_
            refine s_blx (lv' := [(6, vI z16), (5, vI (-1)), (4, vI v4), (0, vR 58), (1, vR 20), (2, vI place), (3, vI second)]) (st' := [vR 20, vI 8, vR 60]) B2_195_198 rfl ?_
            refine r_gint (ki := 17) (pc' := 201) D2_198 rfl gf_0_108_20 rfl H168.1 ?_
            intro w171 e172 r173
            have b_w171 := H168.2 20 (17) 0 3 rfl
            rw [← e172] at b_w171; clear r173
            refine r_i2l (pc' := 202) D2_201 rfl (by unfold inR; omega) ?_
            refine r_normL ?_
            intro z174 r175 _; unfold inJ at r175
            refine r_last (pc' := 203) D2_202 rfl sc_60 H168 (by omega) (by unfold inJ; omega) trivial ?_
            intro M176 u177 H178 p179
            have f180 := f170.wr u177 rfl
            refine s_blx (lv' := [(6, vI z16), (5, vI (-1)), (4, vI v4), (0, vR 58), (1, vR 20), (2, vI place), (3, vI second)]) (st' := [vR 58]) B2_203_204 rfl ?_
            refine r_gfix (r := 60) (pc' := 207) D2_204 rfl gf_0_28_58 H178.1 ?_
            refine s_blx (lv' := [(6, vI z16), (5, vI (-1)), (4, vI v4), (0, vR 58), (1, vR 20), (2, vI place), (3, vI second)]) (st' := [vI place, vR 20, vR 58, vI 9, vR 60]) B2_207_212 rfl ?_
            refine r_vI (c := 58) (args := [vR 20, vI place]) (rest := [vI 9, vR 60]) (pc' := 215) D2_212 rfl ck_0_virtual_111 TE3 rfl (Nat.le_of_ble_eq_true rfl) ⟨Nat.le_of_ble_eq_true rfl, Nat.le_of_ble_eq_true rfl⟩ sc_58 ⟨rfl, by decide⟩ H178.1 (dp_0 hd rfl) (k3_58_20x E (dp_n hd rfl) H178 place (by omega)) ?_
            intro v181 M182 q187
            obtain ⟨H183, f184, q185, q186⟩ := q187
            have f188 := f180.tr (f184.up rfl)
            refine r_i2l (pc' := 216) D2_215 rfl (by unfold inR; omega) ?_
            refine r_normL ?_
            intro z189 r190 _; unfold inJ at r190
            refine r_last (pc' := 217) D2_216 rfl sc_60 H183 (by omega) (by unfold inJ; omega) trivial ?_
            intro M191 u192 H193 p194
            have f195 := f188.wr u192 rfl
            refine s_blx (lv' := [(6, vI z16), (5, vI (-1)), (4, vI v4), (0, vR 58), (1, vR 20), (2, vI place), (3, vI second)]) (st' := [vR 58]) B2_217_218 rfl ?_
            refine r_gfix (r := 60) (pc' := 221) D2_218 rfl gf_0_28_58 H193.1 ?_
            refine s_blx (lv' := [(6, vI z16), (5, vI (-1)), (4, vI v4), (0, vR 58), (1, vR 20), (2, vI place), (3, vI second)]) (st' := [vR 20, vI 10, vR 60]) B2_221_224 rfl ?_
            refine r_gfix (r := 24) (pc' := 227) D2_224 rfl gf_0_115_20 H193.1 ?_
            refine s_blx (lv' := [(6, vI z16), (5, vI (-1)), (4, vI v4), (0, vR 58), (1, vR 20), (2, vI place), (3, vI second)]) (st' := [vI place, vR 24, vI 10, vR 60]) B2_227_228 rfl ?_
            refine r_iald (pc' := 229) D2_228 rfl sc_24 H193.1 (by omega) ?_
            intro w196 e197 r198
            unfold inR at r198
            refine r_i2l (pc' := 230) D2_229 rfl (by unfold inR; omega) ?_
            refine r_normL ?_
            intro z199 r200 _; unfold inJ at r200
            refine r_last (pc' := 231) D2_230 rfl sc_60 H193 (by omega) (by unfold inJ; omega) trivial ?_
            intro M201 u202 H203 p204
            have f205 := f195.wr u202 rfl
            have g206 : gi M201 58 5 = gi M182 58 5 := (u202.gi_ne (by decide) (Or.inl (by decide))).trans ((u192.gi_ne (by decide) (Or.inl (by decide))).trans (rfl))
            have g207 : gi M201 60 0 = 0 := (u202.gi_ne (by decide) (Or.inr (by decide))).trans ((u192.gi_ne (by decide) (Or.inr (by decide))).trans ((f184.g rfl).trans ((u177.gi_ne (by decide) (Or.inr (by decide))).trans ((u167.gi_ne (by decide) (Or.inr (by decide))).trans ((u160.gi_ne (by decide) (Or.inr (by decide))).trans ((u154.gi_ne (by decide) (Or.inr (by decide))).trans ((u148.gi_ne (by decide) (Or.inr (by decide))).trans ((u141.gi_ne (by decide) (Or.inr (by decide))).trans ((u131.gi_ne (by decide) (Or.inr (by decide))).trans ((u120.gi_ne (by decide) (Or.inr (by decide))).trans (p24)))))))))))
            exact r_retV D2_231 rfl (⟨H203, f205, by rw [g206]; omega, by rw [g207]; omega⟩)
    · exfalso; omega
  · refine s_blx (lv' := [(4, vI v4), (0, vR 58), (1, vR 20), (2, vI place), (3, vI second)]) (st' := [vI v4, vI place, vR 20]) B2_15_19 rfl ?_
    refine r_vIp (c := 20) (args := [vI place, vI v4]) (rest := []) (pc' := 22) D2_19 rfl ck_0_virtual_73 TE85 rfl (Nat.le_of_ble_eq_true rfl) ⟨Nat.le_of_ble_eq_true rfl, Nat.le_of_ble_eq_true rfl⟩ sc_20 ⟨rfl, by decide⟩ H.1 (dp_0 hd rfl) (k85_20 E (dp_n hd rfl) H place v4 (by omega) (by omega)) ?_
    intro v208 q211
    have q210 := q211; clear q211
    refine r_goto (tgt := 26) D2_22 rfl ?_
    refine s_blx (lv' := [(5, vI v208), (4, vI v4), (0, vR 58), (1, vR 20), (2, vI place), (3, vI second)]) (st' := [vR 20]) B2_26_29 rfl ?_
    refine r_gfix (r := 23) (pc' := 32) D2_29 rfl gf_0_76_20 H.1 ?_
    refine s_blx (lv' := [(5, vI v208), (4, vI v4), (0, vR 58), (1, vR 20), (2, vI place), (3, vI second)]) (st' := [vI place, vR 23]) B2_32_33 rfl ?_
    refine r_iald (pc' := 34) D2_33 rfl sc_23 H.1 (by omega) ?_
    intro w212 e213 r214
    unfold inR at r214
    refine s_blx (lv' := [(5, vI v208), (4, vI v4), (0, vR 58), (1, vR 20), (2, vI place), (3, vI second)]) (st' := [vI 1, vI w212]) B2_34_35 rfl ?_
    refine r_max (pc' := 38) D2_35 rfl mc_0_static_79 sp_0_79 (Nat.le_of_ble_eq_true rfl) (by unfold inR; omega) ?_
    intro z215 r216 r217 r218
    refine s_blx (lv' := [(6, vI z215), (5, vI v208), (4, vI v4), (0, vR 58), (1, vR 20), (2, vI place), (3, vI second)]) (st' := [vR 58]) B2_38_41 rfl ?_
    refine r_gfix (r := 60) (pc' := 44) D2_41 rfl gf_0_28_58 H.1 ?_
    refine s_blx (lv' := [(6, vI z215), (5, vI v208), (4, vI v4), (0, vR 58), (1, vR 20), (2, vI place), (3, vI second)]) (st' := [vI (-1), vI v208, vI 0, vR 60]) B2_44_48 rfl ?_
    refine r_icmp (tgt := 66) (pc' := 51) D2_48 rfl rfl (by unfold inR; omega) (fun (c219 : v208 = (-1)) => ?_) (fun (c219 : ¬ (v208 = (-1))) => ?_)
    · exfalso; omega
    · refine s_blx (lv' := [(6, vI z215), (5, vI v208), (4, vI v4), (0, vR 58), (1, vR 20), (2, vI place), (3, vI second)]) (st' := [vR 20, vI 0, vR 60]) B2_51_52 rfl ?_
      refine r_gfix (r := 28) (pc' := 55) D2_52 rfl gf_0_84_20 H.1 ?_
      refine s_blx (lv' := [(6, vI z215), (5, vI v208), (4, vI v4), (0, vR 58), (1, vR 20), (2, vI place), (3, vI second)]) (st' := [vI v208, vR 28, vI 0, vR 60]) B2_55_57 rfl ?_
      refine r_iald (pc' := 58) D2_57 rfl sc_28 H.1 (by omega) ?_
      intro w220 e221 r222
      have b_w220 := H.2 28 (v208) (-1) 7 rfl
      rw [← e221] at b_w220; clear r222
      refine s_blx (lv' := [(6, vI z215), (5, vI v208), (4, vI v4), (0, vR 58), (1, vR 20), (2, vI place), (3, vI second)]) (st' := [vI (-1), vI w220, vI 0, vR 60]) B2_58_59 rfl ?_
      refine r_icmp (tgt := 66) (pc' := 62) D2_59 rfl rfl (by unfold inR; omega) (fun (c223 : w220 = (-1)) => ?_) (fun (c223 : ¬ (w220 = (-1))) => ?_)
      · refine s_blx (lv' := [(6, vI z215), (5, vI v208), (4, vI v4), (0, vR 58), (1, vR 20), (2, vI place), (3, vI second)]) (st' := [vL 0, vI 0, vR 60]) B2_66_67 rfl ?_
        refine r_last (pc' := 68) D2_67 rfl sc_60 H (by omega) (by unfold inJ; omega) trivial ?_
        intro M224 u225 H226 p227
        have f228 := f0.wr u225 rfl
        refine s_blx (lv' := [(6, vI z215), (5, vI v208), (4, vI v4), (0, vR 58), (1, vR 20), (2, vI place), (3, vI second)]) (st' := [vR 58]) B2_68_69 rfl ?_
        refine r_gfix (r := 60) (pc' := 72) D2_69 rfl gf_0_28_58 H226.1 ?_
        refine s_blx (lv' := [(6, vI z215), (5, vI v208), (4, vI v4), (0, vR 58), (1, vR 20), (2, vI place), (3, vI second)]) (st' := [vR 20, vI 1, vR 60]) B2_72_74 rfl ?_
        refine r_gfix (r := 25) (pc' := 77) D2_74 rfl gf_0_87_20 H226.1 ?_
        refine s_blx (lv' := [(6, vI z215), (5, vI v208), (4, vI v4), (0, vR 58), (1, vR 20), (2, vI place), (3, vI second)]) (st' := [vI place, vR 25, vI 1, vR 60]) B2_77_78 rfl ?_
        refine r_bald (pc' := 79) D2_78 rfl sc_25 (by decide) H226.1 (by omega) ?_
        intro w229 e230 r231
        have b_w229 := H226.2 25 (place) 0 1 rfl
        rw [← e230] at b_w229; clear r231
        refine r_ifc (tgt := 86) (pc' := 82) D2_79 rfl rfl (by unfold inR; omega) (fun (c232 : w229 = 0) => ?_) (fun (c232 : ¬ (w229 = 0)) => ?_)
        · refine s_blx (lv' := [(6, vI z215), (5, vI v208), (4, vI v4), (0, vR 58), (1, vR 20), (2, vI place), (3, vI second)]) (st' := [vL 0, vI 1, vR 60]) B2_86_87 rfl ?_
          refine r_last (pc' := 88) D2_87 rfl sc_60 H226 (by omega) (by unfold inJ; omega) trivial ?_
          intro M233 u234 H235 p236
          have f237 := f228.wr u234 rfl
          refine s_blx (lv' := [(6, vI z215), (5, vI v208), (4, vI v4), (0, vR 58), (1, vR 20), (2, vI place), (3, vI second)]) (st' := [vR 58]) B2_88_89 rfl ?_
          refine r_gfix (r := 60) (pc' := 92) D2_89 rfl gf_0_28_58 H235.1 ?_
          refine s_blx (lv' := [(6, vI z215), (5, vI v208), (4, vI v4), (0, vR 58), (1, vR 20), (2, vI place), (3, vI second)]) (st' := [vI v4, vI place, vR 20, vI 2, vR 60]) B2_92_97 rfl ?_
          refine r_vIp (c := 20) (args := [vI place, vI v4]) (rest := [vI 2, vR 60]) (pc' := 100) D2_97 rfl ck_0_virtual_91 TE90 rfl (Nat.le_of_ble_eq_true rfl) ⟨Nat.le_of_ble_eq_true rfl, Nat.le_of_ble_eq_true rfl⟩ sc_20 ⟨rfl, by decide⟩ H235.1 (dp_0 hd rfl) (k90_20 E (dp_n hd rfl) H235 place v4 (by omega) (by omega)) ?_
          intro v238 q241
          have q240 := q241; clear q241
          refine r_i2l (pc' := 101) D2_100 rfl (by unfold inR; omega) ?_
          refine r_normL ?_
          intro z242 r243 _; unfold inJ at r243
          refine r_last (pc' := 102) D2_101 rfl sc_60 H235 (by omega) (by unfold inJ; omega) trivial ?_
          intro M244 u245 H246 p247
          have f248 := f237.wr u245 rfl
          refine s_blx (lv' := [(6, vI z215), (5, vI v208), (4, vI v4), (0, vR 58), (1, vR 20), (2, vI place), (3, vI second)]) (st' := [vR 58]) B2_102_103 rfl ?_
          refine r_gfix (r := 60) (pc' := 106) D2_103 rfl gf_0_28_58 H246.1 ?_
          refine s_blx (lv' := [(6, vI z215), (5, vI v208), (4, vI v4), (0, vR 58), (1, vR 20), (2, vI place), (3, vI second)]) (st' := [vR 20, vI 3, vR 60]) B2_106_108 rfl ?_
          refine r_gfix (r := 34) (pc' := 111) D2_108 rfl gf_0_94_20 H246.1 ?_
          refine s_blx (lv' := [(6, vI z215), (5, vI v208), (4, vI v4), (0, vR 58), (1, vR 20), (2, vI place), (3, vI second)]) (st' := [vI 0, vR 34, vI 3, vR 60]) B2_111_112 rfl ?_
          refine r_iald (pc' := 113) D2_112 rfl sc_34 H246.1 (by omega) ?_
          intro w249 e250 r251
          have b_w249 := H246.2 34 (0) 0 1000 rfl
          rw [← e250] at b_w249; clear r251
          refine r_i2l (pc' := 114) D2_113 rfl (by unfold inR; omega) ?_
          refine r_normL ?_
          intro z252 r253 _; unfold inJ at r253
          refine r_last (pc' := 115) D2_114 rfl sc_60 H246 (by omega) (by unfold inJ; omega) trivial ?_
          intro M254 u255 H256 p257
          have f258 := f248.wr u255 rfl
          refine s_blx (lv' := [(6, vI z215), (5, vI v208), (4, vI v4), (0, vR 58), (1, vR 20), (2, vI place), (3, vI second)]) (st' := [vR 58]) B2_115_116 rfl ?_
          refine r_gfix (r := 60) (pc' := 119) D2_116 rfl gf_0_28_58 H256.1 ?_
          refine s_blx (lv' := [(6, vI z215), (5, vI v208), (4, vI v4), (0, vR 58), (1, vR 20), (2, vI place), (3, vI second)]) (st' := [vI v4, vI 4, vR 60]) B2_119_122 rfl ?_
          refine r_i2l (pc' := 123) D2_122 rfl (by unfold inR; omega) ?_
          refine r_normL ?_
          intro z259 r260 _; unfold inJ at r260
          refine r_last (pc' := 124) D2_123 rfl sc_60 H256 (by omega) (by unfold inJ; omega) trivial ?_
          intro M261 u262 H263 p264
          have f265 := f258.wr u262 rfl
          refine s_blx (lv' := [(6, vI z215), (5, vI v208), (4, vI v4), (0, vR 58), (1, vR 20), (2, vI place), (3, vI second)]) (st' := [vR 58]) B2_124_125 rfl ?_
          refine r_gfix (r := 60) (pc' := 128) D2_125 rfl gf_0_28_58 H263.1 ?_
          refine s_blx (lv' := [(6, vI z215), (5, vI v208), (4, vI v4), (0, vR 58), (1, vR 20), (2, vI place), (3, vI second)]) (st' := [vI (-1), vI v208, vI 5, vR 60]) B2_128_132 rfl ?_
          refine r_icmp (tgt := 139) (pc' := 135) D2_132 rfl rfl (by unfold inR; omega) (fun (c266 : v208 ≠ (-1)) => ?_) (fun (c266 : ¬ (v208 ≠ (-1))) => ?_)
          · refine s_blx (lv' := [(6, vI z215), (5, vI v208), (4, vI v4), (0, vR 58), (1, vR 20), (2, vI place), (3, vI second)]) (st' := [vR 20, vI 5, vR 60]) B2_139_140 rfl ?_
            refine r_gfix (r := 30) (pc' := 143) D2_140 rfl gf_0_97_20 H263.1 ?_
            refine s_blx (lv' := [(6, vI z215), (5, vI v208), (4, vI v4), (0, vR 58), (1, vR 20), (2, vI place), (3, vI second)]) (st' := [vI v208, vR 30, vI 5, vR 60]) B2_143_145 rfl ?_
            refine r_iald (pc' := 146) D2_145 rfl sc_30 H263.1 (by omega) ?_
            intro w267 e268 r269
            unfold inR at r269
            refine s_blx (lv' := [(6, vI z215), (5, vI v208), (4, vI v4), (0, vR 58), (1, vR 20), (2, vI place), (3, vI second)]) (st' := [vI z215, vI (w267 * 100), vI 5, vR 60]) B2_146_151 rfl ?_
            refine r_idivX (pc' := 152) D2_151 rfl (by unfold inR; omega) ?_
            intro z270 r271; unfold inR at r271
            refine r_i2l (pc' := 153) D2_152 rfl (by unfold inR; omega) ?_
            refine r_normL ?_
            intro z272 r273 _; unfold inJ at r273
            refine r_last (pc' := 154) D2_153 rfl sc_60 H263 (by omega) (by unfold inJ; omega) trivial ?_
            intro M274 u275 H276 p277
            have f278 := f265.wr u275 rfl
            refine s_blx (lv' := [(6, vI z215), (5, vI v208), (4, vI v4), (0, vR 58), (1, vR 20), (2, vI place), (3, vI second)]) (st' := [vR 58]) B2_154_155 rfl ?_
            refine r_gfix (r := 60) (pc' := 158) D2_155 rfl gf_0_28_58 H276.1 ?_
            refine s_blx (lv' := [(6, vI z215), (5, vI v208), (4, vI v4), (0, vR 58), (1, vR 20), (2, vI place), (3, vI second)]) (st' := [vI (-1), vI v208, vI 6, vR 60]) B2_158_163 rfl ?_
            refine r_icmp (tgt := 170) (pc' := 166) D2_163 rfl rfl (by unfold inR; omega) (fun (c279 : v208 ≠ (-1)) => ?_) (fun (c279 : ¬ (v208 ≠ (-1))) => ?_)
            · refine s_blx (lv' := [(6, vI z215), (5, vI v208), (4, vI v4), (0, vR 58), (1, vR 20), (2, vI place), (3, vI second)]) (st' := [vR 20, vI 6, vR 60]) B2_170_171 rfl ?_
              refine r_gfix (r := 27) (pc' := 174) D2_171 rfl gf_0_100_20 H276.1 ?_
              refine s_blx (lv' := [(6, vI z215), (5, vI v208), (4, vI v4), (0, vR 58), (1, vR 20), (2, vI place), (3, vI second)]) (st' := [vI v208, vR 27, vI 6, vR 60]) B2_174_176 rfl ?_
              refine r_iald (pc' := 177) D2_176 rfl sc_27 H276.1 (by omega) ?_
              intro w280 e281 r282
              unfold inR at r282
              refine r_sIp (args := [vI w280]) (rest := [vI 6, vR 60]) (pc' := 180) D2_177 rfl ck_0_static_103 TE267 rfl (Nat.le_of_ble_eq_true rfl) ⟨Nat.le_of_ble_eq_true rfl, Nat.le_of_ble_eq_true rfl⟩ (by decide) (dp_0 hd rfl) (k267 E (dp_n hd rfl) H276 w280 (by omega)) ?_
              intro v283 q286
              have q285 := q286; clear q286
              refine r_i2l (pc' := 181) D2_180 rfl (by unfold inR; omega) ?_
              refine r_normL ?_
              intro z287 r288 _; unfold inJ at r288
              refine r_last (pc' := 182) D2_181 rfl sc_60 H276 (by omega) (by unfold inJ; omega) trivial ?_
              intro M289 u290 H291 p292
              have f293 := f278.wr u290 rfl
              refine s_blx (lv' := [(6, vI z215), (5, vI v208), (4, vI v4), (0, vR 58), (1, vR 20), (2, vI place), (3, vI second)]) (st' := [vR 58]) B2_182_183 rfl ?_
              refine r_gfix (r := 60) (pc' := 186) D2_183 rfl gf_0_28_58 H291.1 ?_
              refine s_blx (lv' := [(6, vI z215), (5, vI v208), (4, vI v4), (0, vR 58), (1, vR 20), (2, vI place), (3, vI second)]) (st' := [vI second, vI 7, vR 60]) B2_186_189 rfl ?_
              refine r_i2l (pc' := 190) D2_189 rfl (by unfold inR; omega) ?_
              refine r_normL ?_
              intro z294 r295 _; unfold inJ at r295
              refine r_last (pc' := 191) D2_190 rfl sc_60 H291 (by omega) (by unfold inJ; omega) trivial ?_
              intro M296 u297 H298 p299
              have f300 := f293.wr u297 rfl
              refine s_blx (lv' := [(6, vI z215), (5, vI v208), (4, vI v4), (0, vR 58), (1, vR 20), (2, vI place), (3, vI second)]) (st' := [vR 58]) B2_191_192 rfl ?_
              refine r_gfix (r := 60) (pc' := 195) D2_192 rfl gf_0_28_58 H298.1 ?_
              refine s_blx (lv' := [(6, vI z215), (5, vI v208), (4, vI v4), (0, vR 58), (1, vR 20), (2, vI place), (3, vI second)]) (st' := [vR 20, vI 8, vR 60]) B2_195_198 rfl ?_
              refine r_gint (ki := 17) (pc' := 201) D2_198 rfl gf_0_108_20 rfl H298.1 ?_
              intro w301 e302 r303
              have b_w301 := H298.2 20 (17) 0 3 rfl
              rw [← e302] at b_w301; clear r303
              refine r_i2l (pc' := 202) D2_201 rfl (by unfold inR; omega) ?_
              refine r_normL ?_
              intro z304 r305 _; unfold inJ at r305
              refine r_last (pc' := 203) D2_202 rfl sc_60 H298 (by omega) (by unfold inJ; omega) trivial ?_
              intro M306 u307 H308 p309
              have f310 := f300.wr u307 rfl
              refine s_blx (lv' := [(6, vI z215), (5, vI v208), (4, vI v4), (0, vR 58), (1, vR 20), (2, vI place), (3, vI second)]) (st' := [vR 58]) B2_203_204 rfl ?_
              refine r_gfix (r := 60) (pc' := 207) D2_204 rfl gf_0_28_58 H308.1 ?_
              refine s_blx (lv' := [(6, vI z215), (5, vI v208), (4, vI v4), (0, vR 58), (1, vR 20), (2, vI place), (3, vI second)]) (st' := [vI place, vR 20, vR 58, vI 9, vR 60]) B2_207_212 rfl ?_
              refine r_vI (c := 58) (args := [vR 20, vI place]) (rest := [vI 9, vR 60]) (pc' := 215) D2_212 rfl ck_0_virtual_111 TE3 rfl (Nat.le_of_ble_eq_true rfl) ⟨Nat.le_of_ble_eq_true rfl, Nat.le_of_ble_eq_true rfl⟩ sc_58 ⟨rfl, by decide⟩ H308.1 (dp_0 hd rfl) (k3_58_20x E (dp_n hd rfl) H308 place (by omega)) ?_
              intro v311 M312 q317
              obtain ⟨H313, f314, q315, q316⟩ := q317
              have f318 := f310.tr (f314.up rfl)
              refine r_i2l (pc' := 216) D2_215 rfl (by unfold inR; omega) ?_
              refine r_normL ?_
              intro z319 r320 _; unfold inJ at r320
              refine r_last (pc' := 217) D2_216 rfl sc_60 H313 (by omega) (by unfold inJ; omega) trivial ?_
              intro M321 u322 H323 p324
              have f325 := f318.wr u322 rfl
              refine s_blx (lv' := [(6, vI z215), (5, vI v208), (4, vI v4), (0, vR 58), (1, vR 20), (2, vI place), (3, vI second)]) (st' := [vR 58]) B2_217_218 rfl ?_
              refine r_gfix (r := 60) (pc' := 221) D2_218 rfl gf_0_28_58 H323.1 ?_
              refine s_blx (lv' := [(6, vI z215), (5, vI v208), (4, vI v4), (0, vR 58), (1, vR 20), (2, vI place), (3, vI second)]) (st' := [vR 20, vI 10, vR 60]) B2_221_224 rfl ?_
              refine r_gfix (r := 24) (pc' := 227) D2_224 rfl gf_0_115_20 H323.1 ?_
              refine s_blx (lv' := [(6, vI z215), (5, vI v208), (4, vI v4), (0, vR 58), (1, vR 20), (2, vI place), (3, vI second)]) (st' := [vI place, vR 24, vI 10, vR 60]) B2_227_228 rfl ?_
              refine r_iald (pc' := 229) D2_228 rfl sc_24 H323.1 (by omega) ?_
              intro w326 e327 r328
              unfold inR at r328
              refine r_i2l (pc' := 230) D2_229 rfl (by unfold inR; omega) ?_
              refine r_normL ?_
              intro z329 r330 _; unfold inJ at r330
              refine r_last (pc' := 231) D2_230 rfl sc_60 H323 (by omega) (by unfold inJ; omega) trivial ?_
              intro M331 u332 H333 p334
              have f335 := f325.wr u332 rfl
              have g336 : gi M331 58 5 = gi M312 58 5 := (u332.gi_ne (by decide) (Or.inl (by decide))).trans ((u322.gi_ne (by decide) (Or.inl (by decide))).trans (rfl))
              have g337 : gi M331 60 0 = 0 := (u332.gi_ne (by decide) (Or.inr (by decide))).trans ((u322.gi_ne (by decide) (Or.inr (by decide))).trans ((f314.g rfl).trans ((u307.gi_ne (by decide) (Or.inr (by decide))).trans ((u297.gi_ne (by decide) (Or.inr (by decide))).trans ((u290.gi_ne (by decide) (Or.inr (by decide))).trans ((u275.gi_ne (by decide) (Or.inr (by decide))).trans ((u262.gi_ne (by decide) (Or.inr (by decide))).trans ((u255.gi_ne (by decide) (Or.inr (by decide))).trans ((u245.gi_ne (by decide) (Or.inr (by decide))).trans ((u234.gi_ne (by decide) (Or.inr (by decide))).trans (p227)))))))))))
              exact r_retV D2_231 rfl (⟨H333, f335, by rw [g336]; omega, by rw [g337]; omega⟩)
            · exfalso; omega
          · exfalso; omega
        · refine s_blx (lv' := [(6, vI z215), (5, vI v208), (4, vI v4), (0, vR 58), (1, vR 20), (2, vI place), (3, vI second)]) (st' := [vL 1, vI 1, vR 60]) B2_82_83 rfl ?_
          refine r_goto (tgt := 87) D2_83 rfl ?_
          refine r_last (pc' := 88) D2_87 rfl sc_60 H226 (by omega) (by unfold inJ; omega) trivial ?_
          intro M338 u339 H340 p341
          have f342 := f228.wr u339 rfl
          refine s_blx (lv' := [(6, vI z215), (5, vI v208), (4, vI v4), (0, vR 58), (1, vR 20), (2, vI place), (3, vI second)]) (st' := [vR 58]) B2_88_89 rfl ?_
          refine r_gfix (r := 60) (pc' := 92) D2_89 rfl gf_0_28_58 H340.1 ?_
          refine s_blx (lv' := [(6, vI z215), (5, vI v208), (4, vI v4), (0, vR 58), (1, vR 20), (2, vI place), (3, vI second)]) (st' := [vI v4, vI place, vR 20, vI 2, vR 60]) B2_92_97 rfl ?_
          refine r_vIp (c := 20) (args := [vI place, vI v4]) (rest := [vI 2, vR 60]) (pc' := 100) D2_97 rfl ck_0_virtual_91 TE90 rfl (Nat.le_of_ble_eq_true rfl) ⟨Nat.le_of_ble_eq_true rfl, Nat.le_of_ble_eq_true rfl⟩ sc_20 ⟨rfl, by decide⟩ H340.1 (dp_0 hd rfl) (k90_20 E (dp_n hd rfl) H340 place v4 (by omega) (by omega)) ?_
          intro v343 q346
          have q345 := q346; clear q346
          refine r_i2l (pc' := 101) D2_100 rfl (by unfold inR; omega) ?_
          refine r_normL ?_
          intro z347 r348 _; unfold inJ at r348
          refine r_last (pc' := 102) D2_101 rfl sc_60 H340 (by omega) (by unfold inJ; omega) trivial ?_
          intro M349 u350 H351 p352
          have f353 := f342.wr u350 rfl
          refine s_blx (lv' := [(6, vI z215), (5, vI v208), (4, vI v4), (0, vR 58), (1, vR 20), (2, vI place), (3, vI second)]) (st' := [vR 58]) B2_102_103 rfl ?_
          refine r_gfix (r := 60) (pc' := 106) D2_103 rfl gf_0_28_58 H351.1 ?_
          refine s_blx (lv' := [(6, vI z215), (5, vI v208), (4, vI v4), (0, vR 58), (1, vR 20), (2, vI place), (3, vI second)]) (st' := [vR 20, vI 3, vR 60]) B2_106_108 rfl ?_
          refine r_gfix (r := 34) (pc' := 111) D2_108 rfl gf_0_94_20 H351.1 ?_
          refine s_blx (lv' := [(6, vI z215), (5, vI v208), (4, vI v4), (0, vR 58), (1, vR 20), (2, vI place), (3, vI second)]) (st' := [vI 0, vR 34, vI 3, vR 60]) B2_111_112 rfl ?_
          refine r_iald (pc' := 113) D2_112 rfl sc_34 H351.1 (by omega) ?_
          intro w354 e355 r356
          have b_w354 := H351.2 34 (0) 0 1000 rfl
          rw [← e355] at b_w354; clear r356
          refine r_i2l (pc' := 114) D2_113 rfl (by unfold inR; omega) ?_
          refine r_normL ?_
          intro z357 r358 _; unfold inJ at r358
          refine r_last (pc' := 115) D2_114 rfl sc_60 H351 (by omega) (by unfold inJ; omega) trivial ?_
          intro M359 u360 H361 p362
          have f363 := f353.wr u360 rfl
          refine s_blx (lv' := [(6, vI z215), (5, vI v208), (4, vI v4), (0, vR 58), (1, vR 20), (2, vI place), (3, vI second)]) (st' := [vR 58]) B2_115_116 rfl ?_
          refine r_gfix (r := 60) (pc' := 119) D2_116 rfl gf_0_28_58 H361.1 ?_
          refine s_blx (lv' := [(6, vI z215), (5, vI v208), (4, vI v4), (0, vR 58), (1, vR 20), (2, vI place), (3, vI second)]) (st' := [vI v4, vI 4, vR 60]) B2_119_122 rfl ?_
          refine r_i2l (pc' := 123) D2_122 rfl (by unfold inR; omega) ?_
          refine r_normL ?_
          intro z364 r365 _; unfold inJ at r365
          refine r_last (pc' := 124) D2_123 rfl sc_60 H361 (by omega) (by unfold inJ; omega) trivial ?_
          intro M366 u367 H368 p369
          have f370 := f363.wr u367 rfl
          refine s_blx (lv' := [(6, vI z215), (5, vI v208), (4, vI v4), (0, vR 58), (1, vR 20), (2, vI place), (3, vI second)]) (st' := [vR 58]) B2_124_125 rfl ?_
          refine r_gfix (r := 60) (pc' := 128) D2_125 rfl gf_0_28_58 H368.1 ?_
          refine s_blx (lv' := [(6, vI z215), (5, vI v208), (4, vI v4), (0, vR 58), (1, vR 20), (2, vI place), (3, vI second)]) (st' := [vI (-1), vI v208, vI 5, vR 60]) B2_128_132 rfl ?_
          refine r_icmp (tgt := 139) (pc' := 135) D2_132 rfl rfl (by unfold inR; omega) (fun (c371 : v208 ≠ (-1)) => ?_) (fun (c371 : ¬ (v208 ≠ (-1))) => ?_)
          · refine s_blx (lv' := [(6, vI z215), (5, vI v208), (4, vI v4), (0, vR 58), (1, vR 20), (2, vI place), (3, vI second)]) (st' := [vR 20, vI 5, vR 60]) B2_139_140 rfl ?_
            refine r_gfix (r := 30) (pc' := 143) D2_140 rfl gf_0_97_20 H368.1 ?_
            refine s_blx (lv' := [(6, vI z215), (5, vI v208), (4, vI v4), (0, vR 58), (1, vR 20), (2, vI place), (3, vI second)]) (st' := [vI v208, vR 30, vI 5, vR 60]) B2_143_145 rfl ?_
            refine r_iald (pc' := 146) D2_145 rfl sc_30 H368.1 (by omega) ?_
            intro w372 e373 r374
            unfold inR at r374
            refine s_blx (lv' := [(6, vI z215), (5, vI v208), (4, vI v4), (0, vR 58), (1, vR 20), (2, vI place), (3, vI second)]) (st' := [vI z215, vI (w372 * 100), vI 5, vR 60]) B2_146_151 rfl ?_
            refine r_idivX (pc' := 152) D2_151 rfl (by unfold inR; omega) ?_
            intro z375 r376; unfold inR at r376
            refine r_i2l (pc' := 153) D2_152 rfl (by unfold inR; omega) ?_
            refine r_normL ?_
            intro z377 r378 _; unfold inJ at r378
            refine r_last (pc' := 154) D2_153 rfl sc_60 H368 (by omega) (by unfold inJ; omega) trivial ?_
            intro M379 u380 H381 p382
            have f383 := f370.wr u380 rfl
            refine s_blx (lv' := [(6, vI z215), (5, vI v208), (4, vI v4), (0, vR 58), (1, vR 20), (2, vI place), (3, vI second)]) (st' := [vR 58]) B2_154_155 rfl ?_
            refine r_gfix (r := 60) (pc' := 158) D2_155 rfl gf_0_28_58 H381.1 ?_
            refine s_blx (lv' := [(6, vI z215), (5, vI v208), (4, vI v4), (0, vR 58), (1, vR 20), (2, vI place), (3, vI second)]) (st' := [vI (-1), vI v208, vI 6, vR 60]) B2_158_163 rfl ?_
            refine r_icmp (tgt := 170) (pc' := 166) D2_163 rfl rfl (by unfold inR; omega) (fun (c384 : v208 ≠ (-1)) => ?_) (fun (c384 : ¬ (v208 ≠ (-1))) => ?_)
            · refine s_blx (lv' := [(6, vI z215), (5, vI v208), (4, vI v4), (0, vR 58), (1, vR 20), (2, vI place), (3, vI second)]) (st' := [vR 20, vI 6, vR 60]) B2_170_171 rfl ?_
              refine r_gfix (r := 27) (pc' := 174) D2_171 rfl gf_0_100_20 H381.1 ?_
              refine s_blx (lv' := [(6, vI z215), (5, vI v208), (4, vI v4), (0, vR 58), (1, vR 20), (2, vI place), (3, vI second)]) (st' := [vI v208, vR 27, vI 6, vR 60]) B2_174_176 rfl ?_
              refine r_iald (pc' := 177) D2_176 rfl sc_27 H381.1 (by omega) ?_
              intro w385 e386 r387
              unfold inR at r387
              refine r_sIp (args := [vI w385]) (rest := [vI 6, vR 60]) (pc' := 180) D2_177 rfl ck_0_static_103 TE267 rfl (Nat.le_of_ble_eq_true rfl) ⟨Nat.le_of_ble_eq_true rfl, Nat.le_of_ble_eq_true rfl⟩ (by decide) (dp_0 hd rfl) (k267 E (dp_n hd rfl) H381 w385 (by omega)) ?_
              intro v388 q391
              have q390 := q391; clear q391
              refine r_i2l (pc' := 181) D2_180 rfl (by unfold inR; omega) ?_
              refine r_normL ?_
              intro z392 r393 _; unfold inJ at r393
              refine r_last (pc' := 182) D2_181 rfl sc_60 H381 (by omega) (by unfold inJ; omega) trivial ?_
              intro M394 u395 H396 p397
              have f398 := f383.wr u395 rfl
              refine s_blx (lv' := [(6, vI z215), (5, vI v208), (4, vI v4), (0, vR 58), (1, vR 20), (2, vI place), (3, vI second)]) (st' := [vR 58]) B2_182_183 rfl ?_
              refine r_gfix (r := 60) (pc' := 186) D2_183 rfl gf_0_28_58 H396.1 ?_
              refine s_blx (lv' := [(6, vI z215), (5, vI v208), (4, vI v4), (0, vR 58), (1, vR 20), (2, vI place), (3, vI second)]) (st' := [vI second, vI 7, vR 60]) B2_186_189 rfl ?_
              refine r_i2l (pc' := 190) D2_189 rfl (by unfold inR; omega) ?_
              refine r_normL ?_
              intro z399 r400 _; unfold inJ at r400
              refine r_last (pc' := 191) D2_190 rfl sc_60 H396 (by omega) (by unfold inJ; omega) trivial ?_
              intro M401 u402 H403 p404
              have f405 := f398.wr u402 rfl
              refine s_blx (lv' := [(6, vI z215), (5, vI v208), (4, vI v4), (0, vR 58), (1, vR 20), (2, vI place), (3, vI second)]) (st' := [vR 58]) B2_191_192 rfl ?_
              refine r_gfix (r := 60) (pc' := 195) D2_192 rfl gf_0_28_58 H403.1 ?_
              refine s_blx (lv' := [(6, vI z215), (5, vI v208), (4, vI v4), (0, vR 58), (1, vR 20), (2, vI place), (3, vI second)]) (st' := [vR 20, vI 8, vR 60]) B2_195_198 rfl ?_
              refine r_gint (ki := 17) (pc' := 201) D2_198 rfl gf_0_108_20 rfl H403.1 ?_
              intro w406 e407 r408
              have b_w406 := H403.2 20 (17) 0 3 rfl
              rw [← e407] at b_w406; clear r408
              refine r_i2l (pc' := 202) D2_201 rfl (by unfold inR; omega) ?_
              refine r_normL ?_
              intro z409 r410 _; unfold inJ at r410
              refine r_last (pc' := 203) D2_202 rfl sc_60 H403 (by omega) (by unfold inJ; omega) trivial ?_
              intro M411 u412 H413 p414
              have f415 := f405.wr u412 rfl
              refine s_blx (lv' := [(6, vI z215), (5, vI v208), (4, vI v4), (0, vR 58), (1, vR 20), (2, vI place), (3, vI second)]) (st' := [vR 58]) B2_203_204 rfl ?_
              refine r_gfix (r := 60) (pc' := 207) D2_204 rfl gf_0_28_58 H413.1 ?_
              refine s_blx (lv' := [(6, vI z215), (5, vI v208), (4, vI v4), (0, vR 58), (1, vR 20), (2, vI place), (3, vI second)]) (st' := [vI place, vR 20, vR 58, vI 9, vR 60]) B2_207_212 rfl ?_
              refine r_vI (c := 58) (args := [vR 20, vI place]) (rest := [vI 9, vR 60]) (pc' := 215) D2_212 rfl ck_0_virtual_111 TE3 rfl (Nat.le_of_ble_eq_true rfl) ⟨Nat.le_of_ble_eq_true rfl, Nat.le_of_ble_eq_true rfl⟩ sc_58 ⟨rfl, by decide⟩ H413.1 (dp_0 hd rfl) (k3_58_20x E (dp_n hd rfl) H413 place (by omega)) ?_
              intro v416 M417 q422
              obtain ⟨H418, f419, q420, q421⟩ := q422
              have f423 := f415.tr (f419.up rfl)
              refine r_i2l (pc' := 216) D2_215 rfl (by unfold inR; omega) ?_
              refine r_normL ?_
              intro z424 r425 _; unfold inJ at r425
              refine r_last (pc' := 217) D2_216 rfl sc_60 H418 (by omega) (by unfold inJ; omega) trivial ?_
              intro M426 u427 H428 p429
              have f430 := f423.wr u427 rfl
              refine s_blx (lv' := [(6, vI z215), (5, vI v208), (4, vI v4), (0, vR 58), (1, vR 20), (2, vI place), (3, vI second)]) (st' := [vR 58]) B2_217_218 rfl ?_
              refine r_gfix (r := 60) (pc' := 221) D2_218 rfl gf_0_28_58 H428.1 ?_
              refine s_blx (lv' := [(6, vI z215), (5, vI v208), (4, vI v4), (0, vR 58), (1, vR 20), (2, vI place), (3, vI second)]) (st' := [vR 20, vI 10, vR 60]) B2_221_224 rfl ?_
              refine r_gfix (r := 24) (pc' := 227) D2_224 rfl gf_0_115_20 H428.1 ?_
              refine s_blx (lv' := [(6, vI z215), (5, vI v208), (4, vI v4), (0, vR 58), (1, vR 20), (2, vI place), (3, vI second)]) (st' := [vI place, vR 24, vI 10, vR 60]) B2_227_228 rfl ?_
              refine r_iald (pc' := 229) D2_228 rfl sc_24 H428.1 (by omega) ?_
              intro w431 e432 r433
              unfold inR at r433
              refine r_i2l (pc' := 230) D2_229 rfl (by unfold inR; omega) ?_
              refine r_normL ?_
              intro z434 r435 _; unfold inJ at r435
              refine r_last (pc' := 231) D2_230 rfl sc_60 H428 (by omega) (by unfold inJ; omega) trivial ?_
              intro M436 u437 H438 p439
              have f440 := f430.wr u437 rfl
              have g441 : gi M436 58 5 = gi M417 58 5 := (u437.gi_ne (by decide) (Or.inl (by decide))).trans ((u427.gi_ne (by decide) (Or.inl (by decide))).trans (rfl))
              have g442 : gi M436 60 0 = 0 := (u437.gi_ne (by decide) (Or.inr (by decide))).trans ((u427.gi_ne (by decide) (Or.inr (by decide))).trans ((f419.g rfl).trans ((u412.gi_ne (by decide) (Or.inr (by decide))).trans ((u402.gi_ne (by decide) (Or.inr (by decide))).trans ((u395.gi_ne (by decide) (Or.inr (by decide))).trans ((u380.gi_ne (by decide) (Or.inr (by decide))).trans ((u367.gi_ne (by decide) (Or.inr (by decide))).trans ((u360.gi_ne (by decide) (Or.inr (by decide))).trans ((u350.gi_ne (by decide) (Or.inr (by decide))).trans ((u339.gi_ne (by decide) (Or.inr (by decide))).trans (p227)))))))))))
              exact r_retV D2_231 rfl (⟨H438, f440, by rw [g441]; omega, by rw [g442]; omega⟩)
            · exfalso; omega
          · exfalso; omega
      · refine s_blx (lv' := [(6, vI z215), (5, vI v208), (4, vI v4), (0, vR 58), (1, vR 20), (2, vI place), (3, vI second)]) (st' := [vL 1, vI 0, vR 60]) B2_62_63 rfl ?_
        refine r_goto (tgt := 67) D2_63 rfl ?_
        refine r_last (pc' := 68) D2_67 rfl sc_60 H (by omega) (by unfold inJ; omega) trivial ?_
        intro M443 u444 H445 p446
        have f447 := f0.wr u444 rfl
        refine s_blx (lv' := [(6, vI z215), (5, vI v208), (4, vI v4), (0, vR 58), (1, vR 20), (2, vI place), (3, vI second)]) (st' := [vR 58]) B2_68_69 rfl ?_
        refine r_gfix (r := 60) (pc' := 72) D2_69 rfl gf_0_28_58 H445.1 ?_
        refine s_blx (lv' := [(6, vI z215), (5, vI v208), (4, vI v4), (0, vR 58), (1, vR 20), (2, vI place), (3, vI second)]) (st' := [vR 20, vI 1, vR 60]) B2_72_74 rfl ?_
        refine r_gfix (r := 25) (pc' := 77) D2_74 rfl gf_0_87_20 H445.1 ?_
        refine s_blx (lv' := [(6, vI z215), (5, vI v208), (4, vI v4), (0, vR 58), (1, vR 20), (2, vI place), (3, vI second)]) (st' := [vI place, vR 25, vI 1, vR 60]) B2_77_78 rfl ?_
        refine r_bald (pc' := 79) D2_78 rfl sc_25 (by decide) H445.1 (by omega) ?_
        intro w448 e449 r450
        have b_w448 := H445.2 25 (place) 0 1 rfl
        rw [← e449] at b_w448; clear r450
        refine r_ifc (tgt := 86) (pc' := 82) D2_79 rfl rfl (by unfold inR; omega) (fun (c451 : w448 = 0) => ?_) (fun (c451 : ¬ (w448 = 0)) => ?_)
        · refine s_blx (lv' := [(6, vI z215), (5, vI v208), (4, vI v4), (0, vR 58), (1, vR 20), (2, vI place), (3, vI second)]) (st' := [vL 0, vI 1, vR 60]) B2_86_87 rfl ?_
          refine r_last (pc' := 88) D2_87 rfl sc_60 H445 (by omega) (by unfold inJ; omega) trivial ?_
          intro M452 u453 H454 p455
          have f456 := f447.wr u453 rfl
          refine s_blx (lv' := [(6, vI z215), (5, vI v208), (4, vI v4), (0, vR 58), (1, vR 20), (2, vI place), (3, vI second)]) (st' := [vR 58]) B2_88_89 rfl ?_
          refine r_gfix (r := 60) (pc' := 92) D2_89 rfl gf_0_28_58 H454.1 ?_
          refine s_blx (lv' := [(6, vI z215), (5, vI v208), (4, vI v4), (0, vR 58), (1, vR 20), (2, vI place), (3, vI second)]) (st' := [vI v4, vI place, vR 20, vI 2, vR 60]) B2_92_97 rfl ?_
          refine r_vIp (c := 20) (args := [vI place, vI v4]) (rest := [vI 2, vR 60]) (pc' := 100) D2_97 rfl ck_0_virtual_91 TE90 rfl (Nat.le_of_ble_eq_true rfl) ⟨Nat.le_of_ble_eq_true rfl, Nat.le_of_ble_eq_true rfl⟩ sc_20 ⟨rfl, by decide⟩ H454.1 (dp_0 hd rfl) (k90_20 E (dp_n hd rfl) H454 place v4 (by omega) (by omega)) ?_
          intro v457 q460
          have q459 := q460; clear q460
          refine r_i2l (pc' := 101) D2_100 rfl (by unfold inR; omega) ?_
          refine r_normL ?_
          intro z461 r462 _; unfold inJ at r462
          refine r_last (pc' := 102) D2_101 rfl sc_60 H454 (by omega) (by unfold inJ; omega) trivial ?_
          intro M463 u464 H465 p466
          have f467 := f456.wr u464 rfl
          refine s_blx (lv' := [(6, vI z215), (5, vI v208), (4, vI v4), (0, vR 58), (1, vR 20), (2, vI place), (3, vI second)]) (st' := [vR 58]) B2_102_103 rfl ?_
          refine r_gfix (r := 60) (pc' := 106) D2_103 rfl gf_0_28_58 H465.1 ?_
          refine s_blx (lv' := [(6, vI z215), (5, vI v208), (4, vI v4), (0, vR 58), (1, vR 20), (2, vI place), (3, vI second)]) (st' := [vR 20, vI 3, vR 60]) B2_106_108 rfl ?_
          refine r_gfix (r := 34) (pc' := 111) D2_108 rfl gf_0_94_20 H465.1 ?_
          refine s_blx (lv' := [(6, vI z215), (5, vI v208), (4, vI v4), (0, vR 58), (1, vR 20), (2, vI place), (3, vI second)]) (st' := [vI 0, vR 34, vI 3, vR 60]) B2_111_112 rfl ?_
          refine r_iald (pc' := 113) D2_112 rfl sc_34 H465.1 (by omega) ?_
          intro w468 e469 r470
          have b_w468 := H465.2 34 (0) 0 1000 rfl
          rw [← e469] at b_w468; clear r470
          refine r_i2l (pc' := 114) D2_113 rfl (by unfold inR; omega) ?_
          refine r_normL ?_
          intro z471 r472 _; unfold inJ at r472
          refine r_last (pc' := 115) D2_114 rfl sc_60 H465 (by omega) (by unfold inJ; omega) trivial ?_
          intro M473 u474 H475 p476
          have f477 := f467.wr u474 rfl
          refine s_blx (lv' := [(6, vI z215), (5, vI v208), (4, vI v4), (0, vR 58), (1, vR 20), (2, vI place), (3, vI second)]) (st' := [vR 58]) B2_115_116 rfl ?_
          refine r_gfix (r := 60) (pc' := 119) D2_116 rfl gf_0_28_58 H475.1 ?_
          refine s_blx (lv' := [(6, vI z215), (5, vI v208), (4, vI v4), (0, vR 58), (1, vR 20), (2, vI place), (3, vI second)]) (st' := [vI v4, vI 4, vR 60]) B2_119_122 rfl ?_
          refine r_i2l (pc' := 123) D2_122 rfl (by unfold inR; omega) ?_
          refine r_normL ?_
          intro z478 r479 _; unfold inJ at r479
          refine r_last (pc' := 124) D2_123 rfl sc_60 H475 (by omega) (by unfold inJ; omega) trivial ?_
          intro M480 u481 H482 p483
          have f484 := f477.wr u481 rfl
          refine s_blx (lv' := [(6, vI z215), (5, vI v208), (4, vI v4), (0, vR 58), (1, vR 20), (2, vI place), (3, vI second)]) (st' := [vR 58]) B2_124_125 rfl ?_
          refine r_gfix (r := 60) (pc' := 128) D2_125 rfl gf_0_28_58 H482.1 ?_
          refine s_blx (lv' := [(6, vI z215), (5, vI v208), (4, vI v4), (0, vR 58), (1, vR 20), (2, vI place), (3, vI second)]) (st' := [vI (-1), vI v208, vI 5, vR 60]) B2_128_132 rfl ?_
          refine r_icmp (tgt := 139) (pc' := 135) D2_132 rfl rfl (by unfold inR; omega) (fun (c485 : v208 ≠ (-1)) => ?_) (fun (c485 : ¬ (v208 ≠ (-1))) => ?_)
          · refine s_blx (lv' := [(6, vI z215), (5, vI v208), (4, vI v4), (0, vR 58), (1, vR 20), (2, vI place), (3, vI second)]) (st' := [vR 20, vI 5, vR 60]) B2_139_140 rfl ?_
            refine r_gfix (r := 30) (pc' := 143) D2_140 rfl gf_0_97_20 H482.1 ?_
            refine s_blx (lv' := [(6, vI z215), (5, vI v208), (4, vI v4), (0, vR 58), (1, vR 20), (2, vI place), (3, vI second)]) (st' := [vI v208, vR 30, vI 5, vR 60]) B2_143_145 rfl ?_
            refine r_iald (pc' := 146) D2_145 rfl sc_30 H482.1 (by omega) ?_
            intro w486 e487 r488
            unfold inR at r488
            refine s_blx (lv' := [(6, vI z215), (5, vI v208), (4, vI v4), (0, vR 58), (1, vR 20), (2, vI place), (3, vI second)]) (st' := [vI z215, vI (w486 * 100), vI 5, vR 60]) B2_146_151 rfl ?_
            refine r_idivX (pc' := 152) D2_151 rfl (by unfold inR; omega) ?_
            intro z489 r490; unfold inR at r490
            refine r_i2l (pc' := 153) D2_152 rfl (by unfold inR; omega) ?_
            refine r_normL ?_
            intro z491 r492 _; unfold inJ at r492
            refine r_last (pc' := 154) D2_153 rfl sc_60 H482 (by omega) (by unfold inJ; omega) trivial ?_
            intro M493 u494 H495 p496
            have f497 := f484.wr u494 rfl
            refine s_blx (lv' := [(6, vI z215), (5, vI v208), (4, vI v4), (0, vR 58), (1, vR 20), (2, vI place), (3, vI second)]) (st' := [vR 58]) B2_154_155 rfl ?_
            refine r_gfix (r := 60) (pc' := 158) D2_155 rfl gf_0_28_58 H495.1 ?_
            refine s_blx (lv' := [(6, vI z215), (5, vI v208), (4, vI v4), (0, vR 58), (1, vR 20), (2, vI place), (3, vI second)]) (st' := [vI (-1), vI v208, vI 6, vR 60]) B2_158_163 rfl ?_
            refine r_icmp (tgt := 170) (pc' := 166) D2_163 rfl rfl (by unfold inR; omega) (fun (c498 : v208 ≠ (-1)) => ?_) (fun (c498 : ¬ (v208 ≠ (-1))) => ?_)
            · refine s_blx (lv' := [(6, vI z215), (5, vI v208), (4, vI v4), (0, vR 58), (1, vR 20), (2, vI place), (3, vI second)]) (st' := [vR 20, vI 6, vR 60]) B2_170_171 rfl ?_
              refine r_gfix (r := 27) (pc' := 174) D2_171 rfl gf_0_100_20 H495.1 ?_
              refine s_blx (lv' := [(6, vI z215), (5, vI v208), (4, vI v4), (0, vR 58), (1, vR 20), (2, vI place), (3, vI second)]) (st' := [vI v208, vR 27, vI 6, vR 60]) B2_174_176 rfl ?_
              refine r_iald (pc' := 177) D2_176 rfl sc_27 H495.1 (by omega) ?_
              intro w499 e500 r501
              unfold inR at r501
              refine r_sIp (args := [vI w499]) (rest := [vI 6, vR 60]) (pc' := 180) D2_177 rfl ck_0_static_103 TE267 rfl (Nat.le_of_ble_eq_true rfl) ⟨Nat.le_of_ble_eq_true rfl, Nat.le_of_ble_eq_true rfl⟩ (by decide) (dp_0 hd rfl) (k267 E (dp_n hd rfl) H495 w499 (by omega)) ?_
              intro v502 q505
              have q504 := q505; clear q505
              refine r_i2l (pc' := 181) D2_180 rfl (by unfold inR; omega) ?_
              refine r_normL ?_
              intro z506 r507 _; unfold inJ at r507
              refine r_last (pc' := 182) D2_181 rfl sc_60 H495 (by omega) (by unfold inJ; omega) trivial ?_
              intro M508 u509 H510 p511
              have f512 := f497.wr u509 rfl
              refine s_blx (lv' := [(6, vI z215), (5, vI v208), (4, vI v4), (0, vR 58), (1, vR 20), (2, vI place), (3, vI second)]) (st' := [vR 58]) B2_182_183 rfl ?_
              refine r_gfix (r := 60) (pc' := 186) D2_183 rfl gf_0_28_58 H510.1 ?_
              refine s_blx (lv' := [(6, vI z215), (5, vI v208), (4, vI v4), (0, vR 58), (1, vR 20), (2, vI place), (3, vI second)]) (st' := [vI second, vI 7, vR 60]) B2_186_189 rfl ?_
              refine r_i2l (pc' := 190) D2_189 rfl (by unfold inR; omega) ?_
              refine r_normL ?_
              intro z513 r514 _; unfold inJ at r514
              refine r_last (pc' := 191) D2_190 rfl sc_60 H510 (by omega) (by unfold inJ; omega) trivial ?_
              intro M515 u516 H517 p518
              have f519 := f512.wr u516 rfl
              refine s_blx (lv' := [(6, vI z215), (5, vI v208), (4, vI v4), (0, vR 58), (1, vR 20), (2, vI place), (3, vI second)]) (st' := [vR 58]) B2_191_192 rfl ?_
              refine r_gfix (r := 60) (pc' := 195) D2_192 rfl gf_0_28_58 H517.1 ?_
              refine s_blx (lv' := [(6, vI z215), (5, vI v208), (4, vI v4), (0, vR 58), (1, vR 20), (2, vI place), (3, vI second)]) (st' := [vR 20, vI 8, vR 60]) B2_195_198 rfl ?_
              refine r_gint (ki := 17) (pc' := 201) D2_198 rfl gf_0_108_20 rfl H517.1 ?_
              intro w520 e521 r522
              have b_w520 := H517.2 20 (17) 0 3 rfl
              rw [← e521] at b_w520; clear r522
              refine r_i2l (pc' := 202) D2_201 rfl (by unfold inR; omega) ?_
              refine r_normL ?_
              intro z523 r524 _; unfold inJ at r524
              refine r_last (pc' := 203) D2_202 rfl sc_60 H517 (by omega) (by unfold inJ; omega) trivial ?_
              intro M525 u526 H527 p528
              have f529 := f519.wr u526 rfl
              refine s_blx (lv' := [(6, vI z215), (5, vI v208), (4, vI v4), (0, vR 58), (1, vR 20), (2, vI place), (3, vI second)]) (st' := [vR 58]) B2_203_204 rfl ?_
              refine r_gfix (r := 60) (pc' := 207) D2_204 rfl gf_0_28_58 H527.1 ?_
              refine s_blx (lv' := [(6, vI z215), (5, vI v208), (4, vI v4), (0, vR 58), (1, vR 20), (2, vI place), (3, vI second)]) (st' := [vI place, vR 20, vR 58, vI 9, vR 60]) B2_207_212 rfl ?_
              refine r_vI (c := 58) (args := [vR 20, vI place]) (rest := [vI 9, vR 60]) (pc' := 215) D2_212 rfl ck_0_virtual_111 TE3 rfl (Nat.le_of_ble_eq_true rfl) ⟨Nat.le_of_ble_eq_true rfl, Nat.le_of_ble_eq_true rfl⟩ sc_58 ⟨rfl, by decide⟩ H527.1 (dp_0 hd rfl) (k3_58_20x E (dp_n hd rfl) H527 place (by omega)) ?_
              intro v530 M531 q536
              obtain ⟨H532, f533, q534, q535⟩ := q536
              have f537 := f529.tr (f533.up rfl)
              refine r_i2l (pc' := 216) D2_215 rfl (by unfold inR; omega) ?_
              refine r_normL ?_
              intro z538 r539 _; unfold inJ at r539
              refine r_last (pc' := 217) D2_216 rfl sc_60 H532 (by omega) (by unfold inJ; omega) trivial ?_
              intro M540 u541 H542 p543
              have f544 := f537.wr u541 rfl
              refine s_blx (lv' := [(6, vI z215), (5, vI v208), (4, vI v4), (0, vR 58), (1, vR 20), (2, vI place), (3, vI second)]) (st' := [vR 58]) B2_217_218 rfl ?_
              refine r_gfix (r := 60) (pc' := 221) D2_218 rfl gf_0_28_58 H542.1 ?_
              refine s_blx (lv' := [(6, vI z215), (5, vI v208), (4, vI v4), (0, vR 58), (1, vR 20), (2, vI place), (3, vI second)]) (st' := [vR 20, vI 10, vR 60]) B2_221_224 rfl ?_
              refine r_gfix (r := 24) (pc' := 227) D2_224 rfl gf_0_115_20 H542.1 ?_
              refine s_blx (lv' := [(6, vI z215), (5, vI v208), (4, vI v4), (0, vR 58), (1, vR 20), (2, vI place), (3, vI second)]) (st' := [vI place, vR 24, vI 10, vR 60]) B2_227_228 rfl ?_
              refine r_iald (pc' := 229) D2_228 rfl sc_24 H542.1 (by omega) ?_
              intro w545 e546 r547
              unfold inR at r547
              refine r_i2l (pc' := 230) D2_229 rfl (by unfold inR; omega) ?_
              refine r_normL ?_
              intro z548 r549 _; unfold inJ at r549
              refine r_last (pc' := 231) D2_230 rfl sc_60 H542 (by omega) (by unfold inJ; omega) trivial ?_
              intro M550 u551 H552 p553
              have f554 := f544.wr u551 rfl
              have g555 : gi M550 58 5 = gi M531 58 5 := (u551.gi_ne (by decide) (Or.inl (by decide))).trans ((u541.gi_ne (by decide) (Or.inl (by decide))).trans (rfl))
              have g556 : gi M550 60 0 = 1 := (u551.gi_ne (by decide) (Or.inr (by decide))).trans ((u541.gi_ne (by decide) (Or.inr (by decide))).trans ((f533.g rfl).trans ((u526.gi_ne (by decide) (Or.inr (by decide))).trans ((u516.gi_ne (by decide) (Or.inr (by decide))).trans ((u509.gi_ne (by decide) (Or.inr (by decide))).trans ((u494.gi_ne (by decide) (Or.inr (by decide))).trans ((u481.gi_ne (by decide) (Or.inr (by decide))).trans ((u474.gi_ne (by decide) (Or.inr (by decide))).trans ((u464.gi_ne (by decide) (Or.inr (by decide))).trans ((u453.gi_ne (by decide) (Or.inr (by decide))).trans (p446)))))))))))
              exact r_retV D2_231 rfl (⟨H552, f554, by rw [g555]; omega, by rw [g556]; omega⟩)
            · exfalso; omega
          · exfalso; omega
        · refine s_blx (lv' := [(6, vI z215), (5, vI v208), (4, vI v4), (0, vR 58), (1, vR 20), (2, vI place), (3, vI second)]) (st' := [vL 1, vI 1, vR 60]) B2_82_83 rfl ?_
          refine r_goto (tgt := 87) D2_83 rfl ?_
          refine r_last (pc' := 88) D2_87 rfl sc_60 H445 (by omega) (by unfold inJ; omega) trivial ?_
          intro M557 u558 H559 p560
          have f561 := f447.wr u558 rfl
          refine s_blx (lv' := [(6, vI z215), (5, vI v208), (4, vI v4), (0, vR 58), (1, vR 20), (2, vI place), (3, vI second)]) (st' := [vR 58]) B2_88_89 rfl ?_
          refine r_gfix (r := 60) (pc' := 92) D2_89 rfl gf_0_28_58 H559.1 ?_
          refine s_blx (lv' := [(6, vI z215), (5, vI v208), (4, vI v4), (0, vR 58), (1, vR 20), (2, vI place), (3, vI second)]) (st' := [vI v4, vI place, vR 20, vI 2, vR 60]) B2_92_97 rfl ?_
          refine r_vIp (c := 20) (args := [vI place, vI v4]) (rest := [vI 2, vR 60]) (pc' := 100) D2_97 rfl ck_0_virtual_91 TE90 rfl (Nat.le_of_ble_eq_true rfl) ⟨Nat.le_of_ble_eq_true rfl, Nat.le_of_ble_eq_true rfl⟩ sc_20 ⟨rfl, by decide⟩ H559.1 (dp_0 hd rfl) (k90_20 E (dp_n hd rfl) H559 place v4 (by omega) (by omega)) ?_
          intro v562 q565
          have q564 := q565; clear q565
          refine r_i2l (pc' := 101) D2_100 rfl (by unfold inR; omega) ?_
          refine r_normL ?_
          intro z566 r567 _; unfold inJ at r567
          refine r_last (pc' := 102) D2_101 rfl sc_60 H559 (by omega) (by unfold inJ; omega) trivial ?_
          intro M568 u569 H570 p571
          have f572 := f561.wr u569 rfl
          refine s_blx (lv' := [(6, vI z215), (5, vI v208), (4, vI v4), (0, vR 58), (1, vR 20), (2, vI place), (3, vI second)]) (st' := [vR 58]) B2_102_103 rfl ?_
          refine r_gfix (r := 60) (pc' := 106) D2_103 rfl gf_0_28_58 H570.1 ?_
          refine s_blx (lv' := [(6, vI z215), (5, vI v208), (4, vI v4), (0, vR 58), (1, vR 20), (2, vI place), (3, vI second)]) (st' := [vR 20, vI 3, vR 60]) B2_106_108 rfl ?_
          refine r_gfix (r := 34) (pc' := 111) D2_108 rfl gf_0_94_20 H570.1 ?_
          refine s_blx (lv' := [(6, vI z215), (5, vI v208), (4, vI v4), (0, vR 58), (1, vR 20), (2, vI place), (3, vI second)]) (st' := [vI 0, vR 34, vI 3, vR 60]) B2_111_112 rfl ?_
          refine r_iald (pc' := 113) D2_112 rfl sc_34 H570.1 (by omega) ?_
          intro w573 e574 r575
          have b_w573 := H570.2 34 (0) 0 1000 rfl
          rw [← e574] at b_w573; clear r575
          refine r_i2l (pc' := 114) D2_113 rfl (by unfold inR; omega) ?_
          refine r_normL ?_
          intro z576 r577 _; unfold inJ at r577
          refine r_last (pc' := 115) D2_114 rfl sc_60 H570 (by omega) (by unfold inJ; omega) trivial ?_
          intro M578 u579 H580 p581
          have f582 := f572.wr u579 rfl
          refine s_blx (lv' := [(6, vI z215), (5, vI v208), (4, vI v4), (0, vR 58), (1, vR 20), (2, vI place), (3, vI second)]) (st' := [vR 58]) B2_115_116 rfl ?_
          refine r_gfix (r := 60) (pc' := 119) D2_116 rfl gf_0_28_58 H580.1 ?_
          refine s_blx (lv' := [(6, vI z215), (5, vI v208), (4, vI v4), (0, vR 58), (1, vR 20), (2, vI place), (3, vI second)]) (st' := [vI v4, vI 4, vR 60]) B2_119_122 rfl ?_
          refine r_i2l (pc' := 123) D2_122 rfl (by unfold inR; omega) ?_
          refine r_normL ?_
          intro z583 r584 _; unfold inJ at r584
          refine r_last (pc' := 124) D2_123 rfl sc_60 H580 (by omega) (by unfold inJ; omega) trivial ?_
          intro M585 u586 H587 p588
          have f589 := f582.wr u586 rfl
          refine s_blx (lv' := [(6, vI z215), (5, vI v208), (4, vI v4), (0, vR 58), (1, vR 20), (2, vI place), (3, vI second)]) (st' := [vR 58]) B2_124_125 rfl ?_
          refine r_gfix (r := 60) (pc' := 128) D2_125 rfl gf_0_28_58 H587.1 ?_
          refine s_blx (lv' := [(6, vI z215), (5, vI v208), (4, vI v4), (0, vR 58), (1, vR 20), (2, vI place), (3, vI second)]) (st' := [vI (-1), vI v208, vI 5, vR 60]) B2_128_132 rfl ?_
          refine r_icmp (tgt := 139) (pc' := 135) D2_132 rfl rfl (by unfold inR; omega) (fun (c590 : v208 ≠ (-1)) => ?_) (fun (c590 : ¬ (v208 ≠ (-1))) => ?_)
          · refine s_blx (lv' := [(6, vI z215), (5, vI v208), (4, vI v4), (0, vR 58), (1, vR 20), (2, vI place), (3, vI second)]) (st' := [vR 20, vI 5, vR 60]) B2_139_140 rfl ?_
            refine r_gfix (r := 30) (pc' := 143) D2_140 rfl gf_0_97_20 H587.1 ?_
            refine s_blx (lv' := [(6, vI z215), (5, vI v208), (4, vI v4), (0, vR 58), (1, vR 20), (2, vI place), (3, vI second)]) (st' := [vI v208, vR 30, vI 5, vR 60]) B2_143_145 rfl ?_
            refine r_iald (pc' := 146) D2_145 rfl sc_30 H587.1 (by omega) ?_
            intro w591 e592 r593
            unfold inR at r593
            refine s_blx (lv' := [(6, vI z215), (5, vI v208), (4, vI v4), (0, vR 58), (1, vR 20), (2, vI place), (3, vI second)]) (st' := [vI z215, vI (w591 * 100), vI 5, vR 60]) B2_146_151 rfl ?_
            refine r_idivX (pc' := 152) D2_151 rfl (by unfold inR; omega) ?_
            intro z594 r595; unfold inR at r595
            refine r_i2l (pc' := 153) D2_152 rfl (by unfold inR; omega) ?_
            refine r_normL ?_
            intro z596 r597 _; unfold inJ at r597
            refine r_last (pc' := 154) D2_153 rfl sc_60 H587 (by omega) (by unfold inJ; omega) trivial ?_
            intro M598 u599 H600 p601
            have f602 := f589.wr u599 rfl
            refine s_blx (lv' := [(6, vI z215), (5, vI v208), (4, vI v4), (0, vR 58), (1, vR 20), (2, vI place), (3, vI second)]) (st' := [vR 58]) B2_154_155 rfl ?_
            refine r_gfix (r := 60) (pc' := 158) D2_155 rfl gf_0_28_58 H600.1 ?_
            refine s_blx (lv' := [(6, vI z215), (5, vI v208), (4, vI v4), (0, vR 58), (1, vR 20), (2, vI place), (3, vI second)]) (st' := [vI (-1), vI v208, vI 6, vR 60]) B2_158_163 rfl ?_
            refine r_icmp (tgt := 170) (pc' := 166) D2_163 rfl rfl (by unfold inR; omega) (fun (c603 : v208 ≠ (-1)) => ?_) (fun (c603 : ¬ (v208 ≠ (-1))) => ?_)
            · refine s_blx (lv' := [(6, vI z215), (5, vI v208), (4, vI v4), (0, vR 58), (1, vR 20), (2, vI place), (3, vI second)]) (st' := [vR 20, vI 6, vR 60]) B2_170_171 rfl ?_
              refine r_gfix (r := 27) (pc' := 174) D2_171 rfl gf_0_100_20 H600.1 ?_
              refine s_blx (lv' := [(6, vI z215), (5, vI v208), (4, vI v4), (0, vR 58), (1, vR 20), (2, vI place), (3, vI second)]) (st' := [vI v208, vR 27, vI 6, vR 60]) B2_174_176 rfl ?_
              refine r_iald (pc' := 177) D2_176 rfl sc_27 H600.1 (by omega) ?_
              intro w604 e605 r606
              unfold inR at r606
              refine r_sIp (args := [vI w604]) (rest := [vI 6, vR 60]) (pc' := 180) D2_177 rfl ck_0_static_103 TE267 rfl (Nat.le_of_ble_eq_true rfl) ⟨Nat.le_of_ble_eq_true rfl, Nat.le_of_ble_eq_true rfl⟩ (by decide) (dp_0 hd rfl) (k267 E (dp_n hd rfl) H600 w604 (by omega)) ?_
              intro v607 q610
              have q609 := q610; clear q610
              refine r_i2l (pc' := 181) D2_180 rfl (by unfold inR; omega) ?_
              refine r_normL ?_
              intro z611 r612 _; unfold inJ at r612
              refine r_last (pc' := 182) D2_181 rfl sc_60 H600 (by omega) (by unfold inJ; omega) trivial ?_
              intro M613 u614 H615 p616
              have f617 := f602.wr u614 rfl
              refine s_blx (lv' := [(6, vI z215), (5, vI v208), (4, vI v4), (0, vR 58), (1, vR 20), (2, vI place), (3, vI second)]) (st' := [vR 58]) B2_182_183 rfl ?_
              refine r_gfix (r := 60) (pc' := 186) D2_183 rfl gf_0_28_58 H615.1 ?_
              refine s_blx (lv' := [(6, vI z215), (5, vI v208), (4, vI v4), (0, vR 58), (1, vR 20), (2, vI place), (3, vI second)]) (st' := [vI second, vI 7, vR 60]) B2_186_189 rfl ?_
              refine r_i2l (pc' := 190) D2_189 rfl (by unfold inR; omega) ?_
              refine r_normL ?_
              intro z618 r619 _; unfold inJ at r619
              refine r_last (pc' := 191) D2_190 rfl sc_60 H615 (by omega) (by unfold inJ; omega) trivial ?_
              intro M620 u621 H622 p623
              have f624 := f617.wr u621 rfl
              refine s_blx (lv' := [(6, vI z215), (5, vI v208), (4, vI v4), (0, vR 58), (1, vR 20), (2, vI place), (3, vI second)]) (st' := [vR 58]) B2_191_192 rfl ?_
              refine r_gfix (r := 60) (pc' := 195) D2_192 rfl gf_0_28_58 H622.1 ?_
              refine s_blx (lv' := [(6, vI z215), (5, vI v208), (4, vI v4), (0, vR 58), (1, vR 20), (2, vI place), (3, vI second)]) (st' := [vR 20, vI 8, vR 60]) B2_195_198 rfl ?_
              refine r_gint (ki := 17) (pc' := 201) D2_198 rfl gf_0_108_20 rfl H622.1 ?_
              intro w625 e626 r627
              have b_w625 := H622.2 20 (17) 0 3 rfl
              rw [← e626] at b_w625; clear r627
              refine r_i2l (pc' := 202) D2_201 rfl (by unfold inR; omega) ?_
              refine r_normL ?_
              intro z628 r629 _; unfold inJ at r629
              refine r_last (pc' := 203) D2_202 rfl sc_60 H622 (by omega) (by unfold inJ; omega) trivial ?_
              intro M630 u631 H632 p633
              have f634 := f624.wr u631 rfl
              refine s_blx (lv' := [(6, vI z215), (5, vI v208), (4, vI v4), (0, vR 58), (1, vR 20), (2, vI place), (3, vI second)]) (st' := [vR 58]) B2_203_204 rfl ?_
              refine r_gfix (r := 60) (pc' := 207) D2_204 rfl gf_0_28_58 H632.1 ?_
              refine s_blx (lv' := [(6, vI z215), (5, vI v208), (4, vI v4), (0, vR 58), (1, vR 20), (2, vI place), (3, vI second)]) (st' := [vI place, vR 20, vR 58, vI 9, vR 60]) B2_207_212 rfl ?_
              refine r_vI (c := 58) (args := [vR 20, vI place]) (rest := [vI 9, vR 60]) (pc' := 215) D2_212 rfl ck_0_virtual_111 TE3 rfl (Nat.le_of_ble_eq_true rfl) ⟨Nat.le_of_ble_eq_true rfl, Nat.le_of_ble_eq_true rfl⟩ sc_58 ⟨rfl, by decide⟩ H632.1 (dp_0 hd rfl) (k3_58_20x E (dp_n hd rfl) H632 place (by omega)) ?_
              intro v635 M636 q641
              obtain ⟨H637, f638, q639, q640⟩ := q641
              have f642 := f634.tr (f638.up rfl)
              refine r_i2l (pc' := 216) D2_215 rfl (by unfold inR; omega) ?_
              refine r_normL ?_
              intro z643 r644 _; unfold inJ at r644
              refine r_last (pc' := 217) D2_216 rfl sc_60 H637 (by omega) (by unfold inJ; omega) trivial ?_
              intro M645 u646 H647 p648
              have f649 := f642.wr u646 rfl
              refine s_blx (lv' := [(6, vI z215), (5, vI v208), (4, vI v4), (0, vR 58), (1, vR 20), (2, vI place), (3, vI second)]) (st' := [vR 58]) B2_217_218 rfl ?_
              refine r_gfix (r := 60) (pc' := 221) D2_218 rfl gf_0_28_58 H647.1 ?_
              refine s_blx (lv' := [(6, vI z215), (5, vI v208), (4, vI v4), (0, vR 58), (1, vR 20), (2, vI place), (3, vI second)]) (st' := [vR 20, vI 10, vR 60]) B2_221_224 rfl ?_
              refine r_gfix (r := 24) (pc' := 227) D2_224 rfl gf_0_115_20 H647.1 ?_
              refine s_blx (lv' := [(6, vI z215), (5, vI v208), (4, vI v4), (0, vR 58), (1, vR 20), (2, vI place), (3, vI second)]) (st' := [vI place, vR 24, vI 10, vR 60]) B2_227_228 rfl ?_
              refine r_iald (pc' := 229) D2_228 rfl sc_24 H647.1 (by omega) ?_
              intro w650 e651 r652
              unfold inR at r652
              refine r_i2l (pc' := 230) D2_229 rfl (by unfold inR; omega) ?_
              refine r_normL ?_
              intro z653 r654 _; unfold inJ at r654
              refine r_last (pc' := 231) D2_230 rfl sc_60 H647 (by omega) (by unfold inJ; omega) trivial ?_
              intro M655 u656 H657 p658
              have f659 := f649.wr u656 rfl
              have g660 : gi M655 58 5 = gi M636 58 5 := (u656.gi_ne (by decide) (Or.inl (by decide))).trans ((u646.gi_ne (by decide) (Or.inl (by decide))).trans (rfl))
              have g661 : gi M655 60 0 = 1 := (u656.gi_ne (by decide) (Or.inr (by decide))).trans ((u646.gi_ne (by decide) (Or.inr (by decide))).trans ((f638.g rfl).trans ((u631.gi_ne (by decide) (Or.inr (by decide))).trans ((u621.gi_ne (by decide) (Or.inr (by decide))).trans ((u614.gi_ne (by decide) (Or.inr (by decide))).trans ((u599.gi_ne (by decide) (Or.inr (by decide))).trans ((u586.gi_ne (by decide) (Or.inr (by decide))).trans ((u579.gi_ne (by decide) (Or.inr (by decide))).trans ((u569.gi_ne (by decide) (Or.inr (by decide))).trans ((u558.gi_ne (by decide) (Or.inr (by decide))).trans (p446)))))))))))
              exact r_retV D2_231 rfl (⟨H657, f659, by rw [g660]; omega, by rw [g661]; omega⟩)
            · exfalso; omega
          · exfalso; omega
set_option maxRecDepth 4000 in
theorem L_k4_58_20x {base : Nat} {X : Nat → Option mC} {G : Nat → Value} (E : EnvOK base X G) {d : Nat} (hd : 3 ≤ d) {M : mH} (H : HI base M) (habit : Nat) (place : Int) (nh : Int) (nc : Int) (h0 : IsHab base habit nh nc M) (h1 : 0 ≤ nh ∧ nh ≤ 12) (h2 : 0 ≤ nc ∧ nc ≤ 400) (h3 : 0 ≤ place ∧ place ≤ 144) (h4 : gi M 58 5 = -1 ∨ (20 ≤ gi M 58 5 ∧ gi M 58 5 ≤ 22)) (h5 : gi M 60 0 ≠ 0 → gi M 58 3 ≤ 110) : ∀ mz : Nat, (∀ (x4 x5 : Int) (N : mH), HI base N → Fr [(61, 0)] M N → (0 ≤ x4 ∧ x4 ≤ nc) → (0 ≤ x5 ∧ x5 ≤ nh) → (gi N 58 3 = gi M 58 3) → (gi N 58 5 = gi M 58 5) → (gi N 60 0 = gi M 60 0) → (0 ≤ x4) → (x4 ≤ 400) → (0 ≤ x5) → (x5 ≤ 12) → (12 - x5) * 1 + 0 < (mz : Int) → sRn base X G d T4 6 [(0, vR 58), (1, vR 20), (2, vR (habit)), (3, vI place), (4, vI x4), (5, vI x5)] [] N (s_Q base (pI (fun v M' => HI base M' ∧ Fr [(61, 0)] M M' ∧ (0 ≤ v ∧ v ≤ 22) ∧ (v = 1 ∨ v = 2 → gi M 58 3 ≤ 110))))) := by
  have f0 : Fr [(61, 0)] M M := Fr.rf
  intro mz
  induction mz with
  | zero => exact fun x4 x5 N _ _ z0 z1 z2 z3 z4 z5 z6 z7 z8 z9 => by omega
  | succ mz ih =>
    intro x4 x5 N HN fN i0 i1 i2 i3 i4 i5 i6 i7 i8 hmu
    refine s_blx (lv' := [(0, vR 58), (1, vR 20), (2, vR (habit)), (3, vI place), (4, vI x4), (5, vI x5)]) (st' := [vR (habit), vI x5]) B4_6_9 rfl ?_
    refine r_gfH (k := 0) (a := habit + 1) (pc' := 12) D4_9 rfl (by decide) fi_0_122 (by decide) ((h0.fr fN rfl)) ((h0.fr fN rfl)).2.2.2.2.1.1 ?_
    refine r_lenD (n := nh) (pc' := 13) D4_12 rfl (((h0.fr fN rfl)).2.2.2.2.2.1) (by have q := ((h0.fr fN rfl)).2.1; omega) ?_
    refine r_icmp (tgt := 81) (pc' := 16) D4_13 rfl rfl (by unfold inR; omega) (fun (c4 : nh ≤ x5) => ?_) (fun (c4 : ¬ (nh ≤ x5)) => ?_)
    · refine s_blx (lv' := [(0, vR 58), (1, vR 20), (2, vR (habit)), (3, vI place), (4, vI x4), (5, vI x5)]) (st' := [vR 58]) B4_81_82 rfl ?_
      refine r_gfix (r := 60) (pc' := 85) D4_82 rfl gf_0_28_58 HN.1 ?_
      refine s_blx (lv' := [(0, vR 58), (1, vR 20), (2, vR (habit)), (3, vI place), (4, vI x4), (5, vI x5)]) (st' := [vI 0, vR 60]) B4_85_86 rfl ?_
      refine r_lald (pc' := 87) D4_86 rfl sc_60 HN.1 (by omega) ?_
      intro w5 e6 r7
      clear r7
      refine s_blx (lv' := [(0, vR 58), (1, vR 20), (2, vR (habit)), (3, vI place), (4, vI x4), (5, vI x5)]) (st' := [vL 0, vL w5]) B4_87_88 rfl ?_
      refine r_lcmpz (pc' := 89) D4_88 rfl ?_
      intro z8 r9 r10 knz
      refine r_ifc (tgt := 94) (pc' := 92) D4_89 rfl rfl (by unfold inR; omega) (fun (c11 : z8 = 0) => ?_) (fun (c11 : ¬ (z8 = 0)) => ?_)
      · refine s_blx (lv' := [(0, vR 58), (1, vR 20), (2, vR (habit)), (3, vI place), (4, vI x4), (5, vI x5)]) (st' := [vR 20]) B4_94_95 rfl ?_
        refine r_gfix (r := 25) (pc' := 98) D4_95 rfl gf_0_87_20 HN.1 ?_
        refine s_blx (lv' := [(0, vR 58), (1, vR 20), (2, vR (habit)), (3, vI place), (4, vI x4), (5, vI x5)]) (st' := [vI place, vR 25]) B4_98_99 rfl ?_
        refine r_bald (pc' := 100) D4_99 rfl sc_25 (by decide) HN.1 (by omega) ?_
        intro w12 e13 r14
        have b_w12 := HN.2 25 (place) 0 1 rfl
        rw [← e13] at b_w12; clear r14
        refine r_ifc (tgt := 105) (pc' := 103) D4_100 rfl rfl (by unfold inR; omega) (fun (c15 : w12 ≠ 0) => ?_) (fun (c15 : ¬ (w12 ≠ 0)) => ?_)
        · refine s_blx (lv' := [(0, vR 58), (1, vR 20), (2, vR (habit)), (3, vI place), (4, vI x4), (5, vI x5)]) (st' := [vR 58]) B4_105_106 rfl ?_
          refine r_gint (ki := 3) (pc' := 109) D4_106 rfl gf_0_25_58 rfl HN.1 ?_
          intro w16 e17 r18
          unfold inR at r18
          refine r_sIp (args := [vI w16]) (rest := []) (pc' := 112) D4_109 rfl ck_0_static_64 TE42 rfl (Nat.le_of_ble_eq_true rfl) ⟨Nat.le_of_ble_eq_true rfl, Nat.le_of_ble_eq_true rfl⟩ (by decide) (dp_0 hd rfl) (k42 E (dp_n hd rfl) HN w16 (by omega)) ?_
          intro v19 q26
          obtain ⟨q21, q22, q23, q24, q25⟩ := q26
          refine s_blx (lv' := [(0, vR 58), (1, vR 20), (2, vR (habit)), (3, vI place), (4, vI x4), (5, vI x5)]) (st' := [vI 3, vI v19]) B4_112_113 rfl ?_
          refine r_icmp (tgt := 120) (pc' := 116) D4_113 rfl rfl (by unfold inR; omega) (fun (c27 : v19 ≠ 3) => ?_) (fun (c27 : ¬ (v19 ≠ 3)) => ?_)
          · refine s_blx (lv' := [(0, vR 58), (1, vR 20), (2, vR (habit)), (3, vI place), (4, vI x4), (5, vI x5)]) (st' := [vI 3]) B4_120_121 rfl ?_
            exact r_iretI D4_121 rfl (⟨HN, fN, by omega, by omega⟩)
          · refine s_blx (lv' := [(0, vR 58), (1, vR 20), (2, vR (habit)), (3, vI place), (4, vI x4), (5, vI x5)]) (st' := [vI 4]) B4_116_117 rfl ?_
            refine r_goto (tgt := 121) D4_117 rfl ?_
            exact r_iretI D4_121 rfl (⟨HN, fN, by omega, by omega⟩)
        · refine s_blx (lv' := [(0, vR 58), (1, vR 20), (2, vR (habit)), (3, vI place), (4, vI x4), (5, vI x5)]) (st' := [vI 0]) B4_103_104 rfl ?_
          exact r_iretI D4_104 rfl (⟨HN, fN, by omega, by omega⟩)
      · refine s_blx (lv' := [(0, vR 58), (1, vR 20), (2, vR (habit)), (3, vI place), (4, vI x4), (5, vI x5)]) (st' := [vI 1]) B4_92_93 rfl ?_
        exact r_iretI D4_93 rfl (⟨HN, fN, by omega, fun _ => by have q := nz_ne (knz (by omega)); omega⟩)
    · refine s_blx (lv' := [(0, vR 58), (1, vR 20), (2, vR (habit)), (3, vI place), (4, vI x4), (5, vI x5)]) (st' := [vR (habit)]) B4_16_17 rfl ?_
      refine r_gfH (k := 1) (a := habit + 2) (pc' := 20) D4_17 rfl (by decide) fi_0_127 (by decide) ((h0.fr fN rfl)) ((h0.fr fN rfl)).2.2.2.2.1.2.1 ?_
      refine s_blx (lv' := [(0, vR 58), (1, vR 20), (2, vR (habit)), (3, vI place), (4, vI x4), (5, vI x5)]) (st' := [vI x5, vR ((habit + 2))]) B4_20_22 rfl ?_
      refine r_ialdD (n := nh) (pc' := 23) D4_22 rfl (((h0.fr fN rfl)).2.2.2.2.2.2.1) (by have q := ((h0.fr fN rfl)).2.1; omega) (by omega) ?_
      intro w28 e29 r30; unfold inR at r30
      have kc_w28 := ((h0.fr fN rfl)).2.2.2.2.2.2.2.2.2 x5 (by omega) (by omega)
      rw [← e29] at kc_w28
      refine s_blx (lv' := [(6, vI w28), (0, vR 58), (1, vR 20), (2, vR (habit)), (3, vI place), (4, vI x4), (5, vI x5)]) (st' := [vR (habit), vR 20, vR 58]) B4_23_28 rfl ?_
      refine r_gfH (k := 0) (a := habit + 1) (pc' := 31) D4_28 rfl (by decide) fi_0_122 (by decide) ((h0.fr fN rfl)) ((h0.fr fN rfl)).2.2.2.2.1.1 ?_
      refine s_blx (lv' := [(6, vI w28), (0, vR 58), (1, vR 20), (2, vR (habit)), (3, vI place), (4, vI x4), (5, vI x5)]) (st' := [vI x5, vR ((habit + 1)), vR 20, vR 58]) B4_31_33 rfl ?_
      refine r_ialdD (n := nh) (pc' := 34) D4_33 rfl (((h0.fr fN rfl)).2.2.2.2.2.1) (by have q := ((h0.fr fN rfl)).2.1; omega) (by omega) ?_
      intro w31 e32 r33; unfold inR at r33
      refine s_blx (lv' := [(6, vI w28), (0, vR 58), (1, vR 20), (2, vR (habit)), (3, vI place), (4, vI x4), (5, vI x5)]) (st' := [vI place, vI w31, vR 20, vR 58]) B4_34_35 rfl ?_
      refine r_vIp (c := 58) (args := [vR 20, vI w31, vI place]) (rest := []) (pc' := 38) D4_35 rfl ck_0_virtual_130 TE5 rfl (Nat.le_of_ble_eq_true rfl) ⟨Nat.le_of_ble_eq_true rfl, Nat.le_of_ble_eq_true rfl⟩ sc_58 ⟨rfl, by decide⟩ HN.1 (dp_0 hd rfl) (k5_58_20x E (dp_n hd rfl) HN w31 place (by omega) (by omega) (by omega)) ?_
      intro v34 q38
      obtain ⟨q36, q37⟩ := q38
      refine s_blx (lv' := [(7, vI v34), (6, vI w28), (0, vR 58), (1, vR 20), (2, vR (habit)), (3, vI place), (4, vI x4), (5, vI x5)]) (st' := [vI (-1), vI v34]) B4_38_43 rfl ?_
      refine r_icmp (tgt := 71) (pc' := 46) D4_43 rfl rfl (by unfold inR; omega) (fun (c39 : v34 = (-1)) => ?_) (fun (c39 : ¬ (v34 = (-1))) => ?_)
      · refine s_blx (lv' := [(5, vI (x5 + 1)), (4, vI w28), (7, vI v34), (6, vI w28), (0, vR 58), (1, vR 20), (2, vR (habit)), (3, vI place)]) (st' := []) B4_71_78 rfl ?_
        refine r_goto (tgt := 6) D4_78 rfl ?_
        refine r_loc (lv' := [(0, vR 58), (1, vR 20), (2, vR (habit)), (3, vI place), (4, vI w28), (5, vI (x5 + 1))]) ⟨rfl, rfl, rfl, rfl, rfl, rfl, trivial⟩ rfl rfl ?_
        exact ih w28 (x5 + 1) N HN fN (by omega) (by omega) (by omega) (by omega) (by omega) (by omega) (by omega) (by omega) (by omega) (by omega)
      · refine s_blx (lv' := [(7, vI v34), (6, vI w28), (0, vR 58), (1, vR 20), (2, vR (habit)), (3, vI place), (4, vI x4), (5, vI x5)]) (st' := [vI w28, vI x4]) B4_46_50 rfl ?_
        refine r_icmp (tgt := 68) (pc' := 53) D4_50 rfl rfl (by unfold inR; omega) (fun (c40 : x4 = w28) => ?_) (fun (c40 : ¬ (x4 = w28)) => ?_)
        · refine s_blx (lv' := [(7, vI v34), (6, vI w28), (0, vR 58), (1, vR 20), (2, vR (habit)), (3, vI place), (4, vI x4), (5, vI x5)]) (st' := [vI v34]) B4_68_70 rfl ?_
          exact r_iretI D4_70 rfl (⟨HN, fN, by omega, by omega⟩)
        · refine s_blx (lv' := [(7, vI v34), (6, vI w28), (0, vR 58), (1, vR 20), (2, vR (habit)), (3, vI place), (4, vI x4), (5, vI x5)]) (st' := [vR (habit), vR 58]) B4_53_55 rfl ?_
          refine r_gfH (k := 2) (a := habit + 3) (pc' := 58) D4_55 rfl (by decide) fi_0_134 (by decide) ((h0.fr fN rfl)) ((h0.fr fN rfl)).2.2.2.2.1.2.2 ?_
          refine s_blx (lv' := [(7, vI v34), (6, vI w28), (0, vR 58), (1, vR 20), (2, vR (habit)), (3, vI place), (4, vI x4), (5, vI x5)]) (st' := [vI w28, vI x4, vR ((habit + 3)), vR 58]) B4_58_62 rfl ?_
          refine r_vI (c := 58) (args := [vR ((habit + 3)), vI x4, vI w28]) (rest := []) (pc' := 65) D4_62 rfl ck_0_virtual_137 TE6 rfl (Nat.le_of_ble_eq_true rfl) ⟨Nat.le_of_ble_eq_true rfl, Nat.le_of_ble_eq_true rfl⟩ sc_58 ⟨rfl, by decide⟩ HN.1 (dp_0 hd rfl) (k6_58x E (dp_n hd rfl) HN (habit + 3) x4 w28 nc (((h0.fr fN rfl)).ic) (by omega) (by omega) (by omega)) ?_
          intro v41 M42 q46
          obtain ⟨H43, f44, q45⟩ := q46
          have f47 := fN.tr (f44.up rfl)
          refine r_ifc (tgt := 71) (pc' := 68) D4_65 rfl rfl (by unfold inR; omega) (fun (c48 : v41 = 0) => ?_) (fun (c48 : ¬ (v41 = 0)) => ?_)
          · refine s_blx (lv' := [(5, vI (x5 + 1)), (4, vI w28), (7, vI v34), (6, vI w28), (0, vR 58), (1, vR 20), (2, vR (habit)), (3, vI place)]) (st' := []) B4_71_78 rfl ?_
            refine r_goto (tgt := 6) D4_78 rfl ?_
            refine r_loc (lv' := [(0, vR 58), (1, vR 20), (2, vR (habit)), (3, vI place), (4, vI w28), (5, vI (x5 + 1))]) ⟨rfl, rfl, rfl, rfl, rfl, rfl, trivial⟩ rfl rfl ?_
            have g49 : gi M42 58 3 = gi N 58 3 := (f44.g rfl).trans (rfl)
            have g50 : gi M42 58 5 = gi N 58 5 := (f44.g rfl).trans (rfl)
            have g51 : gi M42 60 0 = gi N 60 0 := (f44.g rfl).trans (rfl)
            exact ih w28 (x5 + 1) M42 H43 f47 (by omega) (by omega) (by omega) (by omega) (by omega) (by omega) (by omega) (by omega) (by omega) (by omega)
          · refine s_blx (lv' := [(7, vI v34), (6, vI w28), (0, vR 58), (1, vR 20), (2, vR (habit)), (3, vI place), (4, vI x4), (5, vI x5)]) (st' := [vI v34]) B4_68_70 rfl ?_
            exact r_iretI D4_70 rfl (⟨H43, f47, by omega, by omega⟩)
set_option maxRecDepth 4000 in
theorem k4_58_20x {base : Nat} {X : Nat → Option mC} {G : Nat → Value} (E : EnvOK base X G) {d : Nat} (hd : 3 ≤ d) {M : mH} (H : HI base M) (habit : Nat) (place : Int) (nh : Int) (nc : Int) (h0 : IsHab base habit nh nc M) (h1 : 0 ≤ nh ∧ nh ≤ 12) (h2 : 0 ≤ nc ∧ nc ≤ 400) (h3 : 0 ≤ place ∧ place ≤ 144) (h4 : gi M 58 5 = -1 ∨ (20 ≤ gi M 58 5 ∧ gi M 58 5 ≤ 22)) (h5 : gi M 60 0 ≠ 0 → gi M 58 3 ≤ 110) : sOk base X G d T4 [vR 58, vR 20, vR (habit), vI place] M (pI (fun v M' => HI base M' ∧ Fr [(61, 0)] M M' ∧ (0 ≤ v ∧ v ≤ 22) ∧ (v = 1 ∨ v = 2 → gi M 58 3 ≤ 110))) := by
  have f0 : Fr [(61, 0)] M M := Fr.rf
  refine sOk.of (show sRn base X G d T4 0 [(0, vR 58), (1, vR 20), (2, vR (habit)), (3, vI place)] [] M _ from ?_)
  refine s_blx (lv' := [(5, vI 0), (4, vI 0), (0, vR 58), (1, vR 20), (2, vR (habit)), (3, vI place)]) (st' := []) B4_0_6 rfl ?_
  refine r_loc (lv' := [(0, vR 58), (1, vR 20), (2, vR (habit)), (3, vI place), (4, vI 0), (5, vI 0)]) ⟨rfl, rfl, rfl, rfl, rfl, rfl, trivial⟩ rfl rfl ?_
  have g1 : gi M 58 3 = gi M 58 3 := rfl
  have g2 : gi M 58 5 = gi M 58 5 := rfl
  have g3 : gi M 60 0 = gi M 60 0 := rfl
  exact (L_k4_58_20x E hd H habit place nh nc h0 h1 h2 h3 h4 h5 (((12 - 0) * 1 + 0 : Int) + 1).toNat) 0 0 M H f0 (by omega) (by omega) (by omega) (by omega) (by omega) (by omega) (by omega) (by omega) (by omega) (by omega)
set_option maxRecDepth 4000 in
theorem L_k1_58_20x {base : Nat} {X : Nat → Option mC} {G : Nat → Value} (E : EnvOK base X G) {d : Nat} (hd : 5 ≤ d) {M : mH} (H : HI base M) (habit : Nat) (sentence : Int) (nh : Int) (nc : Int) (h0 : IsHab base habit nh nc M) (h1 : 0 ≤ nh ∧ nh ≤ 12) (h2 : 0 ≤ nc ∧ nc ≤ 400) (h3 : 0 ≤ sentence ∧ sentence ≤ 15) : ∀ mz : Nat, (∀ (x4 x5 sd0 : Int) (N : mH), HI base N → Fr [(58, 2), (58, 3), (58, 4), (58, 6), (59, 0), (60, 0), (61, 0)] M N → (gi N 58 3 = sd0) → (-2147483648 ≤ sd0 ∧ sd0 ≤ 2147483647) → (0 ≤ x5) → (x5 ≤ 12) → (12 - x5) * 1 + 0 < (mz : Int) → sRn base X G d T1 21 [(0, vR 58), (1, vR 20), (2, vR (habit)), (3, vI sentence), (4, vI x4), (5, vI x5)] [] N (s_Q base (pI (fun v M' => HI base M' ∧ Fr [(58, 2), (58, 3), (58, 4), (58, 6), (59, 0), (60, 0), (61, 0)] M M' ∧ (-2147483648 ≤ v ∧ v ≤ 2147483647))))) := by
  have f0 : Fr [(58, 2), (58, 3), (58, 4), (58, 6), (59, 0), (60, 0), (61, 0)] M M := Fr.rf
  intro mz
  induction mz with
  | zero => exact fun x4 x5 sd0 N _ _ z0 z1 z2 z3 z4 => by omega
  | succ mz ih =>
    intro x4 x5 sd0 N HN fN i0 i1 i2 i3 hmu
    refine s_blx (lv' := [(0, vR 58), (1, vR 20), (2, vR (habit)), (3, vI sentence), (4, vI x4), (5, vI x5)]) (st' := [vI 12, vI x5]) B1_21_25 rfl ?_
    refine r_icmp (tgt := 164) (pc' := 28) D1_25 rfl rfl (by unfold inR; omega) (fun (c17 : 12 ≤ x5) => ?_) (fun (c17 : ¬ (12 ≤ x5)) => ?_)
    · refine s_blx (lv' := [(0, vR 58), (1, vR 20), (2, vR (habit)), (3, vI sentence), (4, vI x4), (5, vI x5)]) (st' := [vI x4]) B1_164_166 rfl ?_
      refine r_norm ?_
      intro z18 r19 _; unfold inR at r19
      exact r_iretI D1_166 rfl (⟨HN, fN, by omega⟩)
    · refine s_blx (lv' := [(0, vR 58), (1, vR 20), (2, vR (habit)), (3, vI sentence), (4, vI x4), (5, vI x5)]) (st' := [vI x5, vI sentence, vR 20]) B1_28_32 rfl ?_
      refine r_vIp (c := 20) (args := [vI sentence, vI x5]) (rest := []) (pc' := 35) D1_32 rfl ck_0_virtual_38 TE84 rfl (Nat.le_of_ble_eq_true rfl) ⟨Nat.le_of_ble_eq_true rfl, Nat.le_of_ble_eq_true rfl⟩ sc_20 ⟨rfl, by decide⟩ HN.1 (dp_0 hd rfl) (k84_20 E (dp_n hd rfl) HN sentence x5 (by omega) (by omega)) ?_
      intro v20 q23
      have q22 := q23; clear q23
      refine s_blx (lv' := [(6, vI v20), (0, vR 58), (1, vR 20), (2, vR (habit)), (3, vI sentence), (4, vI x4), (5, vI x5)]) (st' := [vI x5, vI v20, vR 20, vR 58]) B1_35_43 rfl ?_
      have g24 : gi N 58 3 = sd0 := i0
      refine r_vV (c := 58) (args := [vR 20, vI v20, vI x5]) (rest := []) (pc' := 46) D1_43 rfl ck_0_virtual_44 TE2 rfl (Nat.le_of_ble_eq_true rfl) ⟨Nat.le_of_ble_eq_true rfl, Nat.le_of_ble_eq_true rfl⟩ sc_58 ⟨rfl, by decide⟩ HN.1 (dp_0 hd rfl) (k2_58_20x E (dp_n hd rfl) HN v20 x5 (by omega) (by omega)) ?_
      intro M26 q31
      obtain ⟨H27, f28, q29, q30⟩ := q31
      have f32 := fN.tr (f28.up rfl)
      obtain ⟨t33, ht34⟩ : ∃ q, q = gi M26 58 5 := ⟨_, rfl⟩
      have b_t33 := (H27.1.int sc_58 (i := 5) (by decide) (by decide) rfl).2
      unfold inR at b_t33; rw [← ht34] at b_t33
      rw [← ht34] at q29
      refine s_blx (lv' := [(6, vI v20), (0, vR 58), (1, vR 20), (2, vR (habit)), (3, vI sentence), (4, vI x4), (5, vI x5)]) (st' := [vI v20, vR (habit), vR 20, vR 58]) B1_46_51 rfl ?_
      have g35 : gi M26 58 5 = t33 := ht34.symm
      have g36 : gi M26 58 3 = sd0 := (f28.g rfl).trans (i0)
      refine r_vI (c := 58) (args := [vR 20, vR (habit), vI v20]) (rest := []) (pc' := 54) D1_51 rfl ck_0_virtual_48 TE4 rfl (Nat.le_of_ble_eq_true rfl) ⟨Nat.le_of_ble_eq_true rfl, Nat.le_of_ble_eq_true rfl⟩ sc_58 ⟨rfl, by decide⟩ H27.1 (dp_0 hd rfl) (k4_58_20x E (dp_n hd rfl) H27 habit v20 nh nc ((h0.fr f32 rfl)) (by omega) (by omega) (by omega) (by omega) (by omega)) ?_
      intro v37 M38 q43
      obtain ⟨H39, f40, q41, q42⟩ := q43
      have f44 := f32.tr (f40.up rfl)
      refine s_blx (lv' := [(7, vI v37), (6, vI v20), (0, vR 58), (1, vR 20), (2, vR (habit)), (3, vI sentence), (4, vI x4), (5, vI x5)]) (st' := [vR 58]) B1_54_57 rfl ?_
      refine r_gfix (r := 59) (pc' := 60) D1_57 rfl gf_0_13_58 H39.1 ?_
      refine s_blx (lv' := [(7, vI v37), (6, vI v20), (0, vR 58), (1, vR 20), (2, vR (habit)), (3, vI sentence), (4, vI x4), (5, vI x5)]) (st' := [vI v37, vI x5, vR 59]) B1_60_64 rfl ?_
      refine r_iast (pc' := 65) D1_64 rfl sc_59 H39 (by omega) (by unfold inR; omega) trivial ?_
      intro M45 u46 H47 p48
      have f49 := f44.wr u46 rfl
      refine s_blx (lv' := [(7, vI v37), (6, vI v20), (0, vR 58), (1, vR 20), (2, vR (habit)), (3, vI sentence), (4, vI x4), (5, vI x5)]) (st' := [vI (x5 + 1), vR 58]) B1_65_70 rfl ?_
      refine r_pint (ki := 1) (pc' := 73) D1_70 rfl pf_0_17_58 rfl H47 (by unfold inR; omega) (show 0 ≤ (x5 + 1) ∧ (x5 + 1) ≤ 12 by omega) ?_
      intro M50 u51 H52 p53
      have f54 := f49.wr u51 rfl
      refine s_blx (lv' := [(7, vI v37), (6, vI v20), (0, vR 58), (1, vR 20), (2, vR (habit)), (3, vI sentence), (4, vI x4), (5, vI x5)]) (st' := [vR 58, vR 58]) B1_73_75 rfl ?_
      refine r_glong (ki := 2) (pc' := 78) D1_75 rfl gf_0_21_58 rfl H52.1 ?_
      intro w55 e56 r57
      clear r57
      refine s_blx (lv' := [(7, vI v37), (6, vI v20), (0, vR 58), (1, vR 20), (2, vR (habit)), (3, vI sentence), (4, vI x4), (5, vI x5)]) (st' := [vI 5, vL w55, vR 58]) B1_78_79 rfl ?_
      refine r_binLI (pc' := 80) D1_79 rfl rfl ?_
      intro z58 _ _
      refine s_blx (lv' := [(7, vI v37), (6, vI v20), (0, vR 58), (1, vR 20), (2, vR (habit)), (3, vI sentence), (4, vI x4), (5, vI x5)]) (st' := [vI v37, vL z58, vR 58]) B1_80_82 rfl ?_
      refine r_i2l (pc' := 83) D1_82 rfl (by unfold inR; omega) ?_
      refine r_binL (pc' := 84) D1_83 rfl rfl ?_
      intro z60 _ _
      refine r_normL ?_
      intro z62 r63 _; unfold inJ at r63
      refine r_plong (ki := 2) (pc' := 87) D1_84 rfl pf_0_21_58 rfl H52 (by unfold inJ; omega) trivial ?_
      intro M64 u65 H66 p67
      have f68 := f54.wr u65 rfl
      refine s_blx (lv' := [(7, vI v37), (6, vI v20), (0, vR 58), (1, vR 20), (2, vR (habit)), (3, vI sentence), (4, vI x4), (5, vI x5)]) (st' := [vI 4, vI v37]) B1_87_90 rfl ?_
      refine r_icmp (tgt := 107) (pc' := 93) D1_90 rfl rfl (by unfold inR; omega) (fun (c69 : v37 ≠ 4) => ?_) (fun (c69 : ¬ (v37 ≠ 4)) => ?_)
      · refine s_blx (lv' := [(7, vI v37), (6, vI v20), (0, vR 58), (1, vR 20), (2, vR (habit)), (3, vI sentence), (4, vI x4), (5, vI x5)]) (st' := [vR 58, vI v20, vR 20, vI x4]) B1_107_113 rfl ?_
        refine r_gint (ki := 3) (pc' := 116) D1_113 rfl gf_0_25_58 rfl H66.1 ?_
        intro w70 e71 r72
        have e73 : sd0 = w70 := (e71.trans ((u65.gi_ne (by decide) (Or.inr (by decide))).trans ((u51.gi_ne (by decide) (Or.inr (by decide))).trans ((u46.gi_ne (by omega) (Or.inl (by decide))).trans ((f40.g rfl).trans ((f28.g rfl).trans (i0))))))).symm
        subst e73
        refine s_blx (lv' := [(7, vI v37), (6, vI v20), (0, vR 58), (1, vR 20), (2, vR (habit)), (3, vI sentence), (4, vI x4), (5, vI x5)]) (st' := [vI v37, vI sd0, vI v20, vR 20, vI x4]) B1_116_118 rfl ?_
        refine r_vIp (c := 20) (args := [vI v20, vI sd0, vI v37]) (rest := [vI x4]) (pc' := 121) D1_118 rfl ck_0_virtual_57 TE93 rfl (Nat.le_of_ble_eq_true rfl) ⟨Nat.le_of_ble_eq_true rfl, Nat.le_of_ble_eq_true rfl⟩ sc_20 ⟨rfl, by decide⟩ H66.1 (dp_0 hd rfl) (k93_20 E (dp_n hd rfl) H66 v20 sd0 v37 (by omega) (by omega) (by omega) (by omega)) ?_
        intro v74 q77
        have q76 := q77; clear q77
        refine s_blx (lv' := [(4, vI (x4 + v74)), (7, vI v37), (6, vI v20), (0, vR 58), (1, vR 20), (2, vR (habit)), (3, vI sentence), (5, vI x5)]) (st' := [vR 58, vI v20, vR 20, vR 58]) B1_121_129 rfl ?_
        refine r_gint (ki := 3) (pc' := 132) D1_129 rfl gf_0_25_58 rfl H66.1 ?_
        intro w78 e79 r80
        have e81 : sd0 = w78 := (e79.trans ((u65.gi_ne (by decide) (Or.inr (by decide))).trans ((u51.gi_ne (by decide) (Or.inr (by decide))).trans ((u46.gi_ne (by omega) (Or.inl (by decide))).trans ((f40.g rfl).trans ((f28.g rfl).trans (i0))))))).symm
        subst e81
        refine s_blx (lv' := [(4, vI (x4 + v74)), (7, vI v37), (6, vI v20), (0, vR 58), (1, vR 20), (2, vR (habit)), (3, vI sentence), (5, vI x5)]) (st' := [vI v37, vI sd0, vI v20, vR 20, vR 58]) B1_132_134 rfl ?_
        refine r_vIp (c := 20) (args := [vI v20, vI sd0, vI v37]) (rest := [vR 58]) (pc' := 137) D1_134 rfl ck_0_virtual_61 TE89 rfl (Nat.le_of_ble_eq_true rfl) ⟨Nat.le_of_ble_eq_true rfl, Nat.le_of_ble_eq_true rfl⟩ sc_20 ⟨rfl, by decide⟩ H66.1 (dp_0 hd rfl) (k89_20 E (dp_n hd rfl) H66 v20 sd0 v37 (by omega) (by omega) (by omega) (by omega)) ?_
        intro v82 q85
        have q84 := q85; clear q85
        refine r_pint (ki := 3) (pc' := 140) D1_137 rfl pf_0_25_58 rfl H66 (by unfold inR; omega) trivial ?_
        intro M86 u87 H88 p89
        have f90 := f68.wr u87 rfl
        refine s_blx (lv' := [(4, vI (x4 + v74)), (7, vI v37), (6, vI v20), (0, vR 58), (1, vR 20), (2, vR (habit)), (3, vI sentence), (5, vI x5)]) (st' := [vR 58, vI v20, vR 20, vI (x4 + v74)]) B1_140_146 rfl ?_
        refine r_gint (ki := 3) (pc' := 149) D1_146 rfl gf_0_25_58 rfl H88.1 ?_
        intro w91 e92 r93
        have e94 : v82 = w91 := (e92.trans (p89)).symm
        subst e94
        refine r_sIp (args := [vI v82]) (rest := [vI v20, vR 20, vI (x4 + v74)]) (pc' := 152) D1_149 rfl ck_0_static_64 TE42 rfl (Nat.le_of_ble_eq_true rfl) ⟨Nat.le_of_ble_eq_true rfl, Nat.le_of_ble_eq_true rfl⟩ (by decide) (dp_0 hd rfl) (k42 E (dp_n hd rfl) H88 v82 (by omega)) ?_
        intro v95 q102
        obtain ⟨q97, q98, q99, q100, q101⟩ := q102
        refine r_vIp (c := 20) (args := [vI v20, vI v95]) (rest := [vI (x4 + v74)]) (pc' := 155) D1_152 rfl ck_0_virtual_70 TE92 rfl (Nat.le_of_ble_eq_true rfl) ⟨Nat.le_of_ble_eq_true rfl, Nat.le_of_ble_eq_true rfl⟩ sc_20 ⟨rfl, by decide⟩ H88.1 (dp_0 hd rfl) (k92_20 E (dp_n hd rfl) H88 v20 v95 (by omega) (by omega)) ?_
        intro v103 q106
        have q105 := q106; clear q106
        refine s_blx (lv' := [(5, vI (x5 + 1)), (4, vI ((x4 + v74) + v103)), (7, vI v37), (6, vI v20), (0, vR 58), (1, vR 20), (2, vR (habit)), (3, vI sentence)]) (st' := []) B1_155_161 rfl ?_
        refine r_goto (tgt := 21) D1_161 rfl ?_
        refine r_loc (lv' := [(0, vR 58), (1, vR 20), (2, vR (habit)), (3, vI sentence), (4, vI ((x4 + v74) + v103)), (5, vI (x5 + 1))]) ⟨rfl, rfl, rfl, rfl, rfl, rfl, trivial⟩ rfl rfl ?_
        have g107 : gi M86 58 3 = v82 := p89
        exact ih ((x4 + v74) + v103) (x5 + 1) v82 M86 H88 f90 (by omega) (by omega) (by omega) (by omega) (by omega)
      · refine s_blx (lv' := [(7, vI v37), (6, vI v20), (0, vR 58), (1, vR 20), (2, vR (habit)), (3, vI sentence), (4, vI x4), (5, vI x5)]) (st' := [vR 58, vI v20, vR 20, vI x4]) B1_93_99 rfl ?_
        refine r_gint (ki := 3) (pc' := 102) D1_99 rfl gf_0_25_58 rfl H66.1 ?_
        intro w108 e109 r110
        have e111 : sd0 = w108 := (e109.trans ((u65.gi_ne (by decide) (Or.inr (by decide))).trans ((u51.gi_ne (by decide) (Or.inr (by decide))).trans ((u46.gi_ne (by omega) (Or.inl (by decide))).trans ((f40.g rfl).trans ((f28.g rfl).trans (i0))))))).symm
        subst e111
        refine r_vIp (c := 20) (args := [vI v20, vI sd0]) (rest := [vI x4]) (pc' := 105) D1_102 rfl ck_0_virtual_54 TE94 rfl (Nat.le_of_ble_eq_true rfl) ⟨Nat.le_of_ble_eq_true rfl, Nat.le_of_ble_eq_true rfl⟩ sc_20 ⟨rfl, by decide⟩ H66.1 (dp_0 hd rfl) (k94_20 E (dp_n hd rfl) H66 v20 sd0 (by omega) (by omega)) ?_
        intro v112 q115
        have q114 := q115; clear q115
        refine s_blx (lv' := [(7, vI v37), (6, vI v20), (0, vR 58), (1, vR 20), (2, vR (habit)), (3, vI sentence), (4, vI x4), (5, vI x5)]) (st' := [vI (x4 + v112)]) B1_105_106 rfl ?_
        refine r_norm ?_
        intro z116 r117 _; unfold inR at r117
        exact r_iretI D1_106 rfl (⟨H66, f68, by omega⟩)
set_option maxRecDepth 4000 in
theorem k1_58_20x {base : Nat} {X : Nat → Option mC} {G : Nat → Value} (E : EnvOK base X G) {d : Nat} (hd : 5 ≤ d) {M : mH} (H : HI base M) (habit : Nat) (sentence : Int) (nh : Int) (nc : Int) (h0 : IsHab base habit nh nc M) (h1 : 0 ≤ nh ∧ nh ≤ 12) (h2 : 0 ≤ nc ∧ nc ≤ 400) (h3 : 0 ≤ sentence ∧ sentence ≤ 15) : sOk base X G d T1 [vR 58, vR 20, vR (habit), vI sentence] M (pI (fun v M' => HI base M' ∧ Fr [(58, 2), (58, 3), (58, 4), (58, 6), (59, 0), (60, 0), (61, 0)] M M' ∧ (-2147483648 ≤ v ∧ v ≤ 2147483647))) := by
  have f0 : Fr [(58, 2), (58, 3), (58, 4), (58, 6), (59, 0), (60, 0), (61, 0)] M M := Fr.rf
  refine sOk.of (show sRn base X G d T1 0 [(0, vR 58), (1, vR 20), (2, vR (habit)), (3, vI sentence)] [] M _ from ?_)
  refine s_blx (lv' := [(4, vI 0), (0, vR 58), (1, vR 20), (2, vR (habit)), (3, vI sentence)]) (st' := [vI 0, vR 58]) B1_0_5 rfl ?_
  refine r_pint (ki := 3) (pc' := 8) D1_5 rfl pf_0_25_58 rfl H (by unfold inR; omega) trivial ?_
  intro M1 u2 H3 p4
  have f5 := f0.wr u2 rfl
  refine s_blx (lv' := [(4, vI 0), (0, vR 58), (1, vR 20), (2, vR (habit)), (3, vI sentence)]) (st' := [vI 0, vR 58]) B1_8_10 rfl ?_
  refine r_pint (ki := 1) (pc' := 13) D1_10 rfl pf_0_17_58 rfl H3 (by unfold inR; omega) (show 0 ≤ 0 ∧ 0 ≤ 12 by omega) ?_
  intro M6 u7 H8 p9
  have f10 := f5.wr u7 rfl
  refine s_blx (lv' := [(4, vI 0), (0, vR 58), (1, vR 20), (2, vR (habit)), (3, vI sentence)]) (st' := [vL 1, vR 58]) B1_13_15 rfl ?_
  refine r_plong (ki := 2) (pc' := 18) D1_15 rfl pf_0_21_58 rfl H8 (by unfold inJ; omega) trivial ?_
  intro M11 u12 H13 p14
  have f15 := f10.wr u12 rfl
  refine s_blx (lv' := [(5, vI 0), (4, vI 0), (0, vR 58), (1, vR 20), (2, vR (habit)), (3, vI sentence)]) (st' := []) B1_18_21 rfl ?_
  refine r_loc (lv' := [(0, vR 58), (1, vR 20), (2, vR (habit)), (3, vI sentence), (4, vI 0), (5, vI 0)]) ⟨rfl, rfl, rfl, rfl, rfl, rfl, trivial⟩ rfl rfl ?_
  have g16 : gi M11 58 3 = 0 := (u12.gi_ne (by decide) (Or.inr (by decide))).trans ((u7.gi_ne (by decide) (Or.inr (by decide))).trans (p4))
  exact (L_k1_58_20x E hd H habit sentence nh nc h0 h1 h2 h3 (((12 - 0) * 1 + 0 : Int) + 1).toNat) 0 0 0 M11 H13 f15 (by omega) (by omega) (by omega) (by omega) (by omega)
set_option maxRecDepth 4000 in
theorem k7_62x {base : Nat} {X : Nat → Option mC} {G : Nat → Value} (E : EnvOK base X G) {d : Nat} (hd : 1 ≤ d) {M : mH} (H : HI base M) (operation : Int) (top : Int) (h0 : -2147483648 ≤ operation ∧ operation ≤ 2147483647) (h1 : 1 ≤ top ∧ top ≤ 63) : sOk base X G d T7 [vR 62, vI operation, vI top] M (pI (fun v M' => HI base M' ∧ Fr [(65, 0)] M M' ∧ (v = 0 ∨ v = 1))) := by
  have f0 : Fr [(65, 0)] M M := Fr.rf
  refine sOk.of (show sRn base X G d T7 0 [(0, vR 62), (1, vI operation), (2, vI top)] [] M _ from ?_)
  refine s_blx (lv' := [(0, vR 62), (1, vI operation), (2, vI top)]) (st' := [vR 62]) B7_0_1 rfl ?_
  refine r_gfix (r := 65) (pc' := 4) D7_1 rfl gf_0_35_62 H.1 ?_
  refine s_blx (lv' := [(0, vR 62), (1, vI operation), (2, vI top)]) (st' := [vI (top - 1), vR 65]) B7_4_7 rfl ?_
  refine r_lald (pc' := 8) D7_7 rfl sc_65 H.1 (by omega) ?_
  intro w1 e2 r3
  clear r3
  refine s_blx (lv' := [(3, vL w1), (0, vR 62), (1, vI operation), (2, vI top)]) (st' := [vR 62]) B7_8_10 rfl ?_
  refine r_gfix (r := 65) (pc' := 13) D7_10 rfl gf_0_35_62 H.1 ?_
  refine s_blx (lv' := [(3, vL w1), (0, vR 62), (1, vI operation), (2, vI top)]) (st' := [vI top, vR 65]) B7_13_14 rfl ?_
  refine r_lald (pc' := 15) D7_14 rfl sc_65 H.1 (by omega) ?_
  intro w4 e5 r6
  clear r6
  refine s_blx (lv' := [(5, vL w4), (3, vL w1), (0, vR 62), (1, vI operation), (2, vI top)]) (st' := [vI 5, vI operation]) B7_15_19 rfl ?_
  refine r_icmp (tgt := 31) (pc' := 22) D7_19 rfl rfl (by unfold inR; omega) (fun (c7 : operation ≠ 5) => ?_) (fun (c7 : ¬ (operation ≠ 5)) => ?_)
  · refine s_blx (lv' := [(5, vL w4), (3, vL w1), (0, vR 62), (1, vI operation), (2, vI top)]) (st' := [vL w4, vL w1, vI operation]) B7_31_35 rfl ?_
    refine r_sLp (args := [vI operation, vL w1, vL w4]) (rest := []) (pc' := 38) D7_35 rfl ck_0_static_151 TE8 rfl (Nat.le_of_ble_eq_true rfl) ⟨Nat.le_of_ble_eq_true rfl, Nat.le_of_ble_eq_true rfl⟩ (by decide) (dp_0 hd rfl) (k8x E (dp_n hd rfl) H operation w1 w4 (by omega)) ?_
    intro v8 q10
    refine s_blx (lv' := [(7, vL v8), (5, vL w4), (3, vL w1), (0, vR 62), (1, vI operation), (2, vI top)]) (st' := [vR 62]) B7_38_41 rfl ?_
    refine r_gfix (r := 65) (pc' := 44) D7_41 rfl gf_0_35_62 H.1 ?_
    refine s_blx (lv' := [(7, vL v8), (5, vL w4), (3, vL w1), (0, vR 62), (1, vI operation), (2, vI top)]) (st' := [vL v8, vI (top - 1), vR 65]) B7_44_49 rfl ?_
    refine r_normL ?_
    intro z11 r12 _; unfold inJ at r12
    refine r_last (pc' := 50) D7_49 rfl sc_65 H (by omega) (by unfold inJ; omega) trivial ?_
    intro M13 u14 H15 p16
    have f17 := f0.wr u14 rfl
    refine s_blx (lv' := [(7, vL v8), (5, vL w4), (3, vL w1), (0, vR 62), (1, vI operation), (2, vI top)]) (st' := [vL v8]) B7_50_52 rfl ?_
    refine r_ldc2 (e := 1000000000) (pc' := 55) D7_52 rfl cl_0_155 (by decide) ?_
    refine r_lcmp (pc' := 56) D7_55 rfl ?_
    intro z18 r19 r20
    refine r_ifc (tgt := 68) (pc' := 59) D7_56 rfl rfl (by unfold inR; omega) (fun (c21 : 0 < z18) => ?_) (fun (c21 : ¬ (0 < z18)) => ?_)
    · refine s_blx (lv' := [(7, vL v8), (5, vL w4), (3, vL w1), (0, vR 62), (1, vI operation), (2, vI top)]) (st' := [vI 1]) B7_68_69 rfl ?_
      refine r_goto (tgt := 73) D7_69 rfl ?_
      exact r_zretI D7_73 rfl (by omega) (⟨H15, f17, by omega⟩)
    · refine s_blx (lv' := [(7, vL v8), (5, vL w4), (3, vL w1), (0, vR 62), (1, vI operation), (2, vI top)]) (st' := [vL v8]) B7_59_61 rfl ?_
      refine r_ldc2 (e := (-1000000000)) (pc' := 64) D7_61 rfl cl_0_157 (by decide) ?_
      refine r_lcmp (pc' := 65) D7_64 rfl ?_
      intro z22 r23 r24
      refine r_ifc (tgt := 72) (pc' := 68) D7_65 rfl rfl (by unfold inR; omega) (fun (c25 : 0 ≤ z22) => ?_) (fun (c25 : ¬ (0 ≤ z22)) => ?_)
      · refine s_blx (lv' := [(7, vL v8), (5, vL w4), (3, vL w1), (0, vR 62), (1, vI operation), (2, vI top)]) (st' := [vI 0]) B7_72_73 rfl ?_
        exact r_zretI D7_73 rfl (by omega) (⟨H15, f17, by omega⟩)
      · refine s_blx (lv' := [(7, vL v8), (5, vL w4), (3, vL w1), (0, vR 62), (1, vI operation), (2, vI top)]) (st' := [vI 1]) B7_68_69 rfl ?_
        refine r_goto (tgt := 73) D7_69 rfl ?_
        exact r_zretI D7_73 rfl (by omega) (⟨H15, f17, by omega⟩)
  · refine s_blx (lv' := [(5, vL w4), (3, vL w1), (0, vR 62), (1, vI operation), (2, vI top)]) (st' := [vL 0, vL w4]) B7_22_25 rfl ?_
    refine r_lcmpz (pc' := 26) D7_25 rfl ?_
    intro z26 r27 r28 knz
    refine r_ifc (tgt := 31) (pc' := 29) D7_26 rfl rfl (by unfold inR; omega) (fun (c29 : z26 ≠ 0) => ?_) (fun (c29 : ¬ (z26 ≠ 0)) => ?_)
    · refine s_blx (lv' := [(5, vL w4), (3, vL w1), (0, vR 62), (1, vI operation), (2, vI top)]) (st' := [vL w4, vL w1, vI operation]) B7_31_35 rfl ?_
      refine r_sLp (args := [vI operation, vL w1, vL w4]) (rest := []) (pc' := 38) D7_35 rfl ck_0_static_151 TE8 rfl (Nat.le_of_ble_eq_true rfl) ⟨Nat.le_of_ble_eq_true rfl, Nat.le_of_ble_eq_true rfl⟩ (by decide) (dp_0 hd rfl) (k8x E (dp_n hd rfl) H operation w1 w4 (by omega)) ?_
      intro v30 q32
      refine s_blx (lv' := [(7, vL v30), (5, vL w4), (3, vL w1), (0, vR 62), (1, vI operation), (2, vI top)]) (st' := [vR 62]) B7_38_41 rfl ?_
      refine r_gfix (r := 65) (pc' := 44) D7_41 rfl gf_0_35_62 H.1 ?_
      refine s_blx (lv' := [(7, vL v30), (5, vL w4), (3, vL w1), (0, vR 62), (1, vI operation), (2, vI top)]) (st' := [vL v30, vI (top - 1), vR 65]) B7_44_49 rfl ?_
      refine r_normL ?_
      intro z33 r34 _; unfold inJ at r34
      refine r_last (pc' := 50) D7_49 rfl sc_65 H (by omega) (by unfold inJ; omega) trivial ?_
      intro M35 u36 H37 p38
      have f39 := f0.wr u36 rfl
      refine s_blx (lv' := [(7, vL v30), (5, vL w4), (3, vL w1), (0, vR 62), (1, vI operation), (2, vI top)]) (st' := [vL v30]) B7_50_52 rfl ?_
      refine r_ldc2 (e := 1000000000) (pc' := 55) D7_52 rfl cl_0_155 (by decide) ?_
      refine r_lcmp (pc' := 56) D7_55 rfl ?_
      intro z40 r41 r42
      refine r_ifc (tgt := 68) (pc' := 59) D7_56 rfl rfl (by unfold inR; omega) (fun (c43 : 0 < z40) => ?_) (fun (c43 : ¬ (0 < z40)) => ?_)
      · refine s_blx (lv' := [(7, vL v30), (5, vL w4), (3, vL w1), (0, vR 62), (1, vI operation), (2, vI top)]) (st' := [vI 1]) B7_68_69 rfl ?_
        refine r_goto (tgt := 73) D7_69 rfl ?_
        exact r_zretI D7_73 rfl (by omega) (⟨H37, f39, by omega⟩)
      · refine s_blx (lv' := [(7, vL v30), (5, vL w4), (3, vL w1), (0, vR 62), (1, vI operation), (2, vI top)]) (st' := [vL v30]) B7_59_61 rfl ?_
        refine r_ldc2 (e := (-1000000000)) (pc' := 64) D7_61 rfl cl_0_157 (by decide) ?_
        refine r_lcmp (pc' := 65) D7_64 rfl ?_
        intro z44 r45 r46
        refine r_ifc (tgt := 72) (pc' := 68) D7_65 rfl rfl (by unfold inR; omega) (fun (c47 : 0 ≤ z44) => ?_) (fun (c47 : ¬ (0 ≤ z44)) => ?_)
        · refine s_blx (lv' := [(7, vL v30), (5, vL w4), (3, vL w1), (0, vR 62), (1, vI operation), (2, vI top)]) (st' := [vI 0]) B7_72_73 rfl ?_
          exact r_zretI D7_73 rfl (by omega) (⟨H37, f39, by omega⟩)
        · refine s_blx (lv' := [(7, vL v30), (5, vL w4), (3, vL w1), (0, vR 62), (1, vI operation), (2, vI top)]) (st' := [vI 1]) B7_68_69 rfl ?_
          refine r_goto (tgt := 73) D7_69 rfl ?_
          exact r_zretI D7_73 rfl (by omega) (⟨H37, f39, by omega⟩)
    · refine s_blx (lv' := [(5, vL w4), (3, vL w1), (0, vR 62), (1, vI operation), (2, vI top)]) (st' := [vI 1]) B7_29_30 rfl ?_
      exact r_zretI D7_30 rfl (by omega) (⟨H, f0, by omega⟩)
set_option maxRecDepth 4000 in
theorem L_k6_62x {base : Nat} {X : Nat → Option mC} {G : Nat → Value} (E : EnvOK base X G) {d : Nat} (hd : 2 ≤ d) {M : mH} (H : HI base M) (code : Nat) (from_ : Int) (to_ : Int) (nc : Int) (h0 : IC code nc M) (h1 : 0 ≤ from_ ∧ from_ ≤ 400) (h2 : 0 ≤ to_ ∧ to_ ≤ nc) (h3 : nc ≤ 400) : ∀ mz : Nat, (∀ (x4 x5 x6 : Int) (N : mH), HI base N → Fr [(65, 0)] M N → (0 ≤ x4 ∧ x4 ≤ 64) → (0 ≤ x5 ∧ x5 ≤ 2147483647) → (0 ≤ x6 ∧ x6 ≤ 400) → (0 ≤ x4) → (x4 ≤ 64) → (0 ≤ x5) → (x5 ≤ 2147483647) → (0 ≤ x6) → (x6 ≤ 400) → (400 - x6) * 1 + 0 < (mz : Int) → sRn base X G d T6 9 [(0, vR 62), (1, vR (code)), (3, vI to_), (4, vI x4), (5, vI x5), (6, vI x6)] [] N (s_Q base (pI (fun v M' => HI base M' ∧ Fr [(65, 0)] M M' ∧ (v = 0 ∨ v = 1))))) := by
  have f0 : Fr [(65, 0)] M M := Fr.rf
  intro mz
  induction mz with
  | zero => exact fun x4 x5 x6 N _ _ z0 z1 z2 z3 z4 z5 z6 z7 z8 z9 => by omega
  | succ mz ih =>
    intro x4 x5 x6 N HN fN i0 i1 i2 i3 i4 i5 i6 i7 i8 hmu
    refine s_blx (lv' := [(0, vR 62), (1, vR (code)), (3, vI to_), (4, vI x4), (5, vI x5), (6, vI x6)]) (st' := [vI 400, vI x6]) B6_9_14 rfl ?_
    refine r_icmp (tgt := 236) (pc' := 17) D6_14 rfl rfl (by unfold inR; omega) (fun (c1 : 400 ≤ x6) => ?_) (fun (c1 : ¬ (400 ≤ x6)) => ?_)
    · refine s_blx (lv' := [(0, vR 62), (1, vR (code)), (3, vI to_), (4, vI x4), (5, vI x5), (6, vI x6)]) (st' := [vI x4]) B6_236_238 rfl ?_
      refine r_ifc (tgt := 259) (pc' := 241) D6_238 rfl rfl (by unfold inR; omega) (fun (c2 : x4 ≤ 0) => ?_) (fun (c2 : ¬ (x4 ≤ 0)) => ?_)
      · refine s_blx (lv' := [(0, vR 62), (1, vR (code)), (3, vI to_), (4, vI x4), (5, vI x5), (6, vI x6)]) (st' := [vI 0]) B6_259_260 rfl ?_
        exact r_zretI D6_260 rfl (by omega) (⟨HN, fN, by omega⟩)
      · refine s_blx (lv' := [(0, vR 62), (1, vR (code)), (3, vI to_), (4, vI x4), (5, vI x5), (6, vI x6)]) (st' := [vR 62]) B6_241_242 rfl ?_
        refine r_gfix (r := 65) (pc' := 245) D6_242 rfl gf_0_35_62 HN.1 ?_
        refine s_blx (lv' := [(0, vR 62), (1, vR (code)), (3, vI to_), (4, vI x4), (5, vI x5), (6, vI x6)]) (st' := [vI (x4 - 1), vR 65]) B6_245_249 rfl ?_
        refine r_lald (pc' := 250) D6_249 rfl sc_65 HN.1 (by omega) ?_
        intro w3 e4 r5
        clear r5
        refine s_blx (lv' := [(0, vR 62), (1, vR (code)), (3, vI to_), (4, vI x4), (5, vI x5), (6, vI x6)]) (st' := [vL 0, vL w3]) B6_250_251 rfl ?_
        refine r_lcmp (pc' := 252) D6_251 rfl ?_
        intro z6 r7 r8
        refine r_ifc (tgt := 259) (pc' := 255) D6_252 rfl rfl (by unfold inR; omega) (fun (c9 : z6 = 0) => ?_) (fun (c9 : ¬ (z6 = 0)) => ?_)
        · refine s_blx (lv' := [(0, vR 62), (1, vR (code)), (3, vI to_), (4, vI x4), (5, vI x5), (6, vI x6)]) (st' := [vI 0]) B6_259_260 rfl ?_
          exact r_zretI D6_260 rfl (by omega) (⟨HN, fN, by omega⟩)
        · refine s_blx (lv' := [(0, vR 62), (1, vR (code)), (3, vI to_), (4, vI x4), (5, vI x5), (6, vI x6)]) (st' := [vI 1]) B6_255_256 rfl ?_
          refine r_goto (tgt := 260) D6_256 rfl ?_
          exact r_zretI D6_260 rfl (by omega) (⟨HN, fN, by omega⟩)
    · refine s_blx (lv' := [(0, vR 62), (1, vR (code)), (3, vI to_), (4, vI x4), (5, vI x5), (6, vI x6)]) (st' := [vI to_, vI x5]) B6_17_20 rfl ?_
      refine r_icmp (tgt := 236) (pc' := 23) D6_20 rfl rfl (by unfold inR; omega) (fun (c10 : to_ ≤ x5) => ?_) (fun (c10 : ¬ (to_ ≤ x5)) => ?_)
      · refine s_blx (lv' := [(0, vR 62), (1, vR (code)), (3, vI to_), (4, vI x4), (5, vI x5), (6, vI x6)]) (st' := [vI x4]) B6_236_238 rfl ?_
        refine r_ifc (tgt := 259) (pc' := 241) D6_238 rfl rfl (by unfold inR; omega) (fun (c11 : x4 ≤ 0) => ?_) (fun (c11 : ¬ (x4 ≤ 0)) => ?_)
        · refine s_blx (lv' := [(0, vR 62), (1, vR (code)), (3, vI to_), (4, vI x4), (5, vI x5), (6, vI x6)]) (st' := [vI 0]) B6_259_260 rfl ?_
          exact r_zretI D6_260 rfl (by omega) (⟨HN, fN, by omega⟩)
        · refine s_blx (lv' := [(0, vR 62), (1, vR (code)), (3, vI to_), (4, vI x4), (5, vI x5), (6, vI x6)]) (st' := [vR 62]) B6_241_242 rfl ?_
          refine r_gfix (r := 65) (pc' := 245) D6_242 rfl gf_0_35_62 HN.1 ?_
          refine s_blx (lv' := [(0, vR 62), (1, vR (code)), (3, vI to_), (4, vI x4), (5, vI x5), (6, vI x6)]) (st' := [vI (x4 - 1), vR 65]) B6_245_249 rfl ?_
          refine r_lald (pc' := 250) D6_249 rfl sc_65 HN.1 (by omega) ?_
          intro w12 e13 r14
          clear r14
          refine s_blx (lv' := [(0, vR 62), (1, vR (code)), (3, vI to_), (4, vI x4), (5, vI x5), (6, vI x6)]) (st' := [vL 0, vL w12]) B6_250_251 rfl ?_
          refine r_lcmp (pc' := 252) D6_251 rfl ?_
          intro z15 r16 r17
          refine r_ifc (tgt := 259) (pc' := 255) D6_252 rfl rfl (by unfold inR; omega) (fun (c18 : z15 = 0) => ?_) (fun (c18 : ¬ (z15 = 0)) => ?_)
          · refine s_blx (lv' := [(0, vR 62), (1, vR (code)), (3, vI to_), (4, vI x4), (5, vI x5), (6, vI x6)]) (st' := [vI 0]) B6_259_260 rfl ?_
            exact r_zretI D6_260 rfl (by omega) (⟨HN, fN, by omega⟩)
          · refine s_blx (lv' := [(0, vR 62), (1, vR (code)), (3, vI to_), (4, vI x4), (5, vI x5), (6, vI x6)]) (st' := [vI 1]) B6_255_256 rfl ?_
            refine r_goto (tgt := 260) D6_256 rfl ?_
            exact r_zretI D6_260 rfl (by omega) (⟨HN, fN, by omega⟩)
      · refine s_blx (lv' := [(0, vR 62), (1, vR (code)), (3, vI to_), (4, vI x4), (5, vI x5), (6, vI x6)]) (st' := [vI x5, vR (code)]) B6_23_26 rfl ?_
        refine r_ialdD (n := nc) (pc' := 27) D6_26 rfl (((h0.fr fN rfl)).2.2.1) ((h0.fr fN rfl)).2.1 (by omega) ?_
        intro w19 e20 r21; unfold inR at r21
        have kc_w19 := ((h0.fr fN rfl)).2.2.2.2 x5 (by omega) (by omega)
        rw [← e20] at kc_w19
        refine s_blx (lv' := [(0, vR 62), (1, vR (code)), (3, vI to_), (4, vI x4), (5, vI x5), (6, vI x6)]) (st' := [vI 15, vI w19]) B6_27_29 rfl ?_
        refine r_and15 (pc' := 30) D6_29 rfl ?_
        refine s_blx (lv' := [(7, vI (w19 % 16)), (0, vR 62), (1, vR (code)), (3, vI to_), (4, vI x4), (5, vI x5), (6, vI x6)]) (st' := [vI x5, vR (code)]) B6_30_35 rfl ?_
        refine r_ialdD (n := nc) (pc' := 36) D6_35 rfl (((h0.fr fN rfl)).2.2.1) ((h0.fr fN rfl)).2.1 (by omega) ?_
        intro w22 e23 r24; unfold inR at r24
        have kc_w22 := ((h0.fr fN rfl)).2.2.2.2 x5 (by omega) (by omega)
        rw [← e23] at kc_w22
        refine s_blx (lv' := [(7, vI (w19 % 16)), (0, vR 62), (1, vR (code)), (3, vI to_), (4, vI x4), (5, vI x5), (6, vI x6)]) (st' := [vI 4, vI w22]) B6_36_37 rfl ?_
        refine r_shr4 (pc' := 38) D6_37 rfl (by unfold inR; omega) ?_
        refine s_blx (lv' := [(5, vI (x5 + 1)), (8, vI (w22 / 16)), (7, vI (w19 % 16)), (0, vR 62), (1, vR (code)), (3, vI to_), (4, vI x4), (6, vI x6)]) (st' := [vI 1, vI (w19 % 16)]) B6_38_46 rfl ?_
        refine r_icmp (tgt := 89) (pc' := 49) D6_46 rfl rfl (by unfold inR; omega) (fun (c25 : 1 < (w19 % 16)) => ?_) (fun (c25 : ¬ (1 < (w19 % 16))) => ?_)
        · refine s_blx (lv' := [(5, vI (x5 + 1)), (8, vI (w22 / 16)), (7, vI (w19 % 16)), (0, vR 62), (1, vR (code)), (3, vI to_), (4, vI x4), (6, vI x6)]) (st' := [vI 1, vI x4]) B6_89_92 rfl ?_
          refine r_icmp (tgt := 97) (pc' := 95) D6_92 rfl rfl (by unfold inR; omega) (fun (c26 : 1 ≤ x4) => ?_) (fun (c26 : ¬ (1 ≤ x4)) => ?_)
          · refine s_blx (lv' := [(5, vI (x5 + 1)), (8, vI (w22 / 16)), (7, vI (w19 % 16)), (0, vR 62), (1, vR (code)), (3, vI to_), (4, vI x4), (6, vI x6)]) (st' := [vI 9, vI (w19 % 16)]) B6_97_101 rfl ?_
            refine r_icmp (tgt := 127) (pc' := 104) D6_101 rfl rfl (by unfold inR; omega) (fun (c27 : (w19 % 16) ≠ 9) => ?_) (fun (c27 : ¬ ((w19 % 16) ≠ 9)) => ?_)
            · refine s_blx (lv' := [(5, vI (x5 + 1)), (8, vI (w22 / 16)), (7, vI (w19 % 16)), (0, vR 62), (1, vR (code)), (3, vI to_), (4, vI x4), (6, vI x6)]) (st' := [vI 10, vI (w19 % 16)]) B6_127_131 rfl ?_
              refine r_icmp (tgt := 208) (pc' := 134) D6_131 rfl rfl (by unfold inR; omega) (fun (c28 : (w19 % 16) < 10) => ?_) (fun (c28 : ¬ ((w19 % 16) < 10)) => ?_)
              · refine s_blx (lv' := [(4, vI (x4 + (-1))), (5, vI (x5 + 1)), (8, vI (w22 / 16)), (7, vI (w19 % 16)), (0, vR 62), (1, vR (code)), (3, vI to_), (6, vI x6)]) (st' := [vI 1, vI (x4 + (-1))]) B6_208_214 rfl ?_
                refine r_icmp (tgt := 228) (pc' := 217) D6_214 rfl rfl (by unfold inR; omega) (fun (c29 : (x4 + (-1)) < 1) => ?_) (fun (c29 : ¬ ((x4 + (-1)) < 1)) => ?_)
                · refine s_blx (lv' := [(4, vI (x4 + (-1))), (5, vI (x5 + 1)), (8, vI (w22 / 16)), (7, vI (w19 % 16)), (0, vR 62), (1, vR (code)), (3, vI to_), (6, vI x6)]) (st' := [vI 0]) B6_228_229 rfl ?_
                  exact r_zretI D6_229 rfl (by omega) (⟨HN, fN, by omega⟩)
                · refine s_blx (lv' := [(4, vI (x4 + (-1))), (5, vI (x5 + 1)), (8, vI (w22 / 16)), (7, vI (w19 % 16)), (0, vR 62), (1, vR (code)), (3, vI to_), (6, vI x6)]) (st' := [vI (x4 + (-1)), vI (w19 % 16), vR 62]) B6_217_222 rfl ?_
                  refine r_vI (c := 62) (args := [vI (w19 % 16), vI (x4 + (-1))]) (rest := []) (pc' := 225) D6_222 rfl ck_0_virtual_147 TE7 rfl (Nat.le_of_ble_eq_true rfl) ⟨Nat.le_of_ble_eq_true rfl, Nat.le_of_ble_eq_true rfl⟩ sc_62 ⟨rfl, by decide⟩ HN.1 (dp_0 hd rfl) (k7_62x E (dp_n hd rfl) HN (w19 % 16) (x4 + (-1)) (by omega) (by omega)) ?_
                  intro v30 M31 q35
                  obtain ⟨H32, f33, q34⟩ := q35
                  have f36 := fN.tr (f33.up rfl)
                  refine r_ifc (tgt := 230) (pc' := 228) D6_225 rfl rfl (by unfold inR; omega) (fun (c37 : v30 = 0) => ?_) (fun (c37 : ¬ (v30 = 0)) => ?_)
                  · refine s_blx (lv' := [(6, vI (x6 + 1)), (4, vI (x4 + (-1))), (5, vI (x5 + 1)), (8, vI (w22 / 16)), (7, vI (w19 % 16)), (0, vR 62), (1, vR (code)), (3, vI to_)]) (st' := []) B6_230_233 rfl ?_
                    refine r_goto (tgt := 9) D6_233 rfl ?_
                    refine r_loc (lv' := [(0, vR 62), (1, vR (code)), (3, vI to_), (4, vI (x4 + (-1))), (5, vI (x5 + 1)), (6, vI (x6 + 1))]) ⟨rfl, rfl, rfl, rfl, rfl, rfl, trivial⟩ rfl rfl ?_
                    exact ih (x4 + (-1)) (x5 + 1) (x6 + 1) M31 H32 f36 (by omega) (by omega) (by omega) (by omega) (by omega) (by omega) (by omega) (by omega) (by omega) (by omega)
                  · refine s_blx (lv' := [(4, vI (x4 + (-1))), (5, vI (x5 + 1)), (8, vI (w22 / 16)), (7, vI (w19 % 16)), (0, vR 62), (1, vR (code)), (3, vI to_), (6, vI x6)]) (st' := [vI 0]) B6_228_229 rfl ?_
                    exact r_zretI D6_229 rfl (by omega) (⟨H32, f36, by omega⟩)
              · refine s_blx (lv' := [(5, vI (x5 + 1)), (8, vI (w22 / 16)), (7, vI (w19 % 16)), (0, vR 62), (1, vR (code)), (3, vI to_), (4, vI x4), (6, vI x6)]) (st' := [vR 62]) B6_134_135 rfl ?_
                refine r_gfix (r := 65) (pc' := 138) D6_135 rfl gf_0_35_62 HN.1 ?_
                refine s_blx (lv' := [(5, vI (x5 + 1)), (8, vI (w22 / 16)), (7, vI (w19 % 16)), (0, vR 62), (1, vR (code)), (3, vI to_), (4, vI x4), (6, vI x6)]) (st' := [vI (x4 - 1), vR 65]) B6_138_142 rfl ?_
                refine r_lald (pc' := 143) D6_142 rfl sc_65 HN.1 (by omega) ?_
                intro w38 e39 r40
                clear r40
                refine s_blx (lv' := [(5, vI (x5 + 1)), (8, vI (w22 / 16)), (7, vI (w19 % 16)), (0, vR 62), (1, vR (code)), (3, vI to_), (4, vI x4), (6, vI x6)]) (st' := [vL 0, vL w38]) B6_143_144 rfl ?_
                refine r_lcmp (pc' := 145) D6_144 rfl ?_
                intro z41 r42 r43
                refine r_ifc (tgt := 152) (pc' := 148) D6_145 rfl rfl (by unfold inR; omega) (fun (c44 : z41 = 0) => ?_) (fun (c44 : ¬ (z41 = 0)) => ?_)
                · refine s_blx (lv' := [(5, vI (x5 + 1)), (8, vI (w22 / 16)), (7, vI (w19 % 16)), (0, vR 62), (1, vR (code)), (3, vI to_), (4, vI x4), (6, vI x6)]) (st' := [vI 11, vI (w19 % 16), vI 0]) B6_152_157 rfl ?_
                  refine r_icmp (tgt := 164) (pc' := 160) D6_157 rfl rfl (by unfold inR; omega) (fun (c45 : (w19 % 16) ≠ 11) => ?_) (fun (c45 : ¬ ((w19 % 16) ≠ 11)) => ?_)
                  · refine s_blx (lv' := [(5, vI (x5 + 1)), (8, vI (w22 / 16)), (7, vI (w19 % 16)), (0, vR 62), (1, vR (code)), (3, vI to_), (4, vI x4), (6, vI x6)]) (st' := [vI 0, vI 0]) B6_164_165 rfl ?_
                    refine r_icmp (tgt := 172) (pc' := 168) D6_165 rfl rfl (by unfold inR; omega) (fun (c46 : 0 ≠ 0) => ?_) (fun (c46 : ¬ (0 ≠ 0)) => ?_)
                    · exfalso; omega
                    · refine s_blx (lv' := [(5, vI (x5 + 1)), (8, vI (w22 / 16)), (7, vI (w19 % 16)), (0, vR 62), (1, vR (code)), (3, vI to_), (4, vI x4), (6, vI x6)]) (st' := [vI 1]) B6_168_169 rfl ?_
                      refine r_goto (tgt := 173) D6_169 rfl ?_
                      refine s_blx (lv' := [(9, vI 1), (5, vI (x5 + 1)), (8, vI (w22 / 16)), (7, vI (w19 % 16)), (0, vR 62), (1, vR (code)), (3, vI to_), (4, vI x4), (6, vI x6)]) (st' := [vI 1]) B6_173_177 rfl ?_
                      refine r_ifc (tgt := 185) (pc' := 180) D6_177 rfl rfl (by unfold inR; omega) (fun (c47 : 1 = 0) => ?_) (fun (c47 : ¬ (1 = 0)) => ?_)
                      · exfalso; omega
                      · refine s_blx (lv' := [(9, vI 1), (5, vI (x5 + 1)), (8, vI (w22 / 16)), (7, vI (w19 % 16)), (0, vR 62), (1, vR (code)), (3, vI to_), (4, vI x4), (6, vI x6)]) (st' := [vI (w22 / 16)]) B6_180_182 rfl ?_
                        refine r_goto (tgt := 187) D6_182 rfl ?_
                        refine s_blx (lv' := [(5, vI (w22 / 16)), (9, vI 1), (8, vI (w22 / 16)), (7, vI (w19 % 16)), (0, vR 62), (1, vR (code)), (3, vI to_), (4, vI x4), (6, vI x6)]) (st' := [vI 1]) B6_187_191 rfl ?_
                        refine r_ifc (tgt := 199) (pc' := 194) D6_191 rfl rfl (by unfold inR; omega) (fun (c48 : 1 = 0) => ?_) (fun (c48 : ¬ (1 = 0)) => ?_)
                        · exfalso; omega
                        · refine s_blx (lv' := [(5, vI (w22 / 16)), (9, vI 1), (8, vI (w22 / 16)), (7, vI (w19 % 16)), (0, vR 62), (1, vR (code)), (3, vI to_), (4, vI x4), (6, vI x6)]) (st' := [vI x4]) B6_194_196 rfl ?_
                          refine r_goto (tgt := 203) D6_196 rfl ?_
                          refine s_blx (lv' := [(4, vI x4), (5, vI (w22 / 16)), (9, vI 1), (8, vI (w22 / 16)), (7, vI (w19 % 16)), (0, vR 62), (1, vR (code)), (3, vI to_), (6, vI x6)]) (st' := []) B6_203_205 rfl ?_
                          refine r_goto (tgt := 230) D6_205 rfl ?_
                          refine s_blx (lv' := [(6, vI (x6 + 1)), (4, vI x4), (5, vI (w22 / 16)), (9, vI 1), (8, vI (w22 / 16)), (7, vI (w19 % 16)), (0, vR 62), (1, vR (code)), (3, vI to_)]) (st' := []) B6_230_233 rfl ?_
                          refine r_goto (tgt := 9) D6_233 rfl ?_
                          refine r_loc (lv' := [(0, vR 62), (1, vR (code)), (3, vI to_), (4, vI x4), (5, vI (w22 / 16)), (6, vI (x6 + 1))]) ⟨rfl, rfl, rfl, rfl, rfl, rfl, trivial⟩ rfl rfl ?_
                          exact ih x4 (w22 / 16) (x6 + 1) N HN fN (by omega) (by omega) (by omega) (by omega) (by omega) (by omega) (by omega) (by omega) (by omega) (by omega)
                  · refine s_blx (lv' := [(5, vI (x5 + 1)), (8, vI (w22 / 16)), (7, vI (w19 % 16)), (0, vR 62), (1, vR (code)), (3, vI to_), (4, vI x4), (6, vI x6)]) (st' := [vI 1, vI 0]) B6_160_161 rfl ?_
                    refine r_goto (tgt := 165) D6_161 rfl ?_
                    refine r_icmp (tgt := 172) (pc' := 168) D6_165 rfl rfl (by unfold inR; omega) (fun (c49 : 0 ≠ 1) => ?_) (fun (c49 : ¬ (0 ≠ 1)) => ?_)
                    · refine s_blx (lv' := [(9, vI 0), (5, vI (x5 + 1)), (8, vI (w22 / 16)), (7, vI (w19 % 16)), (0, vR 62), (1, vR (code)), (3, vI to_), (4, vI x4), (6, vI x6)]) (st' := [vI 0]) B6_172_177 rfl ?_
                      refine r_ifc (tgt := 185) (pc' := 180) D6_177 rfl rfl (by unfold inR; omega) (fun (c50 : 0 = 0) => ?_) (fun (c50 : ¬ (0 = 0)) => ?_)
                      · refine s_blx (lv' := [(5, vI (x5 + 1)), (9, vI 0), (8, vI (w22 / 16)), (7, vI (w19 % 16)), (0, vR 62), (1, vR (code)), (3, vI to_), (4, vI x4), (6, vI x6)]) (st' := [vI 0]) B6_185_191 rfl ?_
                        refine r_ifc (tgt := 199) (pc' := 194) D6_191 rfl rfl (by unfold inR; omega) (fun (c51 : 0 = 0) => ?_) (fun (c51 : ¬ (0 = 0)) => ?_)
                        · refine s_blx (lv' := [(4, vI (x4 - 1)), (5, vI (x5 + 1)), (9, vI 0), (8, vI (w22 / 16)), (7, vI (w19 % 16)), (0, vR 62), (1, vR (code)), (3, vI to_), (6, vI x6)]) (st' := []) B6_199_205 rfl ?_
                          refine r_goto (tgt := 230) D6_205 rfl ?_
                          refine s_blx (lv' := [(6, vI (x6 + 1)), (4, vI (x4 - 1)), (5, vI (x5 + 1)), (9, vI 0), (8, vI (w22 / 16)), (7, vI (w19 % 16)), (0, vR 62), (1, vR (code)), (3, vI to_)]) (st' := []) B6_230_233 rfl ?_
                          refine r_goto (tgt := 9) D6_233 rfl ?_
                          refine r_loc (lv' := [(0, vR 62), (1, vR (code)), (3, vI to_), (4, vI (x4 - 1)), (5, vI (x5 + 1)), (6, vI (x6 + 1))]) ⟨rfl, rfl, rfl, rfl, rfl, rfl, trivial⟩ rfl rfl ?_
                          exact ih (x4 - 1) (x5 + 1) (x6 + 1) N HN fN (by omega) (by omega) (by omega) (by omega) (by omega) (by omega) (by omega) (by omega) (by omega) (by omega)
                        · exfalso; omega
                      · exfalso; omega
                    · exfalso; omega
                · refine s_blx (lv' := [(5, vI (x5 + 1)), (8, vI (w22 / 16)), (7, vI (w19 % 16)), (0, vR 62), (1, vR (code)), (3, vI to_), (4, vI x4), (6, vI x6)]) (st' := [vI 1]) B6_148_149 rfl ?_
                  refine r_goto (tgt := 153) D6_149 rfl ?_
                  refine s_blx (lv' := [(5, vI (x5 + 1)), (8, vI (w22 / 16)), (7, vI (w19 % 16)), (0, vR 62), (1, vR (code)), (3, vI to_), (4, vI x4), (6, vI x6)]) (st' := [vI 11, vI (w19 % 16), vI 1]) B6_153_157 rfl ?_
                  refine r_icmp (tgt := 164) (pc' := 160) D6_157 rfl rfl (by unfold inR; omega) (fun (c52 : (w19 % 16) ≠ 11) => ?_) (fun (c52 : ¬ ((w19 % 16) ≠ 11)) => ?_)
                  · refine s_blx (lv' := [(5, vI (x5 + 1)), (8, vI (w22 / 16)), (7, vI (w19 % 16)), (0, vR 62), (1, vR (code)), (3, vI to_), (4, vI x4), (6, vI x6)]) (st' := [vI 0, vI 1]) B6_164_165 rfl ?_
                    refine r_icmp (tgt := 172) (pc' := 168) D6_165 rfl rfl (by unfold inR; omega) (fun (c53 : 1 ≠ 0) => ?_) (fun (c53 : ¬ (1 ≠ 0)) => ?_)
                    · refine s_blx (lv' := [(9, vI 0), (5, vI (x5 + 1)), (8, vI (w22 / 16)), (7, vI (w19 % 16)), (0, vR 62), (1, vR (code)), (3, vI to_), (4, vI x4), (6, vI x6)]) (st' := [vI 0]) B6_172_177 rfl ?_
                      refine r_ifc (tgt := 185) (pc' := 180) D6_177 rfl rfl (by unfold inR; omega) (fun (c54 : 0 = 0) => ?_) (fun (c54 : ¬ (0 = 0)) => ?_)
                      · refine s_blx (lv' := [(5, vI (x5 + 1)), (9, vI 0), (8, vI (w22 / 16)), (7, vI (w19 % 16)), (0, vR 62), (1, vR (code)), (3, vI to_), (4, vI x4), (6, vI x6)]) (st' := [vI 0]) B6_185_191 rfl ?_
                        refine r_ifc (tgt := 199) (pc' := 194) D6_191 rfl rfl (by unfold inR; omega) (fun (c55 : 0 = 0) => ?_) (fun (c55 : ¬ (0 = 0)) => ?_)
                        · refine s_blx (lv' := [(4, vI (x4 - 1)), (5, vI (x5 + 1)), (9, vI 0), (8, vI (w22 / 16)), (7, vI (w19 % 16)), (0, vR 62), (1, vR (code)), (3, vI to_), (6, vI x6)]) (st' := []) B6_199_205 rfl ?_
                          refine r_goto (tgt := 230) D6_205 rfl ?_
                          refine s_blx (lv' := [(6, vI (x6 + 1)), (4, vI (x4 - 1)), (5, vI (x5 + 1)), (9, vI 0), (8, vI (w22 / 16)), (7, vI (w19 % 16)), (0, vR 62), (1, vR (code)), (3, vI to_)]) (st' := []) B6_230_233 rfl ?_
                          refine r_goto (tgt := 9) D6_233 rfl ?_
                          refine r_loc (lv' := [(0, vR 62), (1, vR (code)), (3, vI to_), (4, vI (x4 - 1)), (5, vI (x5 + 1)), (6, vI (x6 + 1))]) ⟨rfl, rfl, rfl, rfl, rfl, rfl, trivial⟩ rfl rfl ?_
                          exact ih (x4 - 1) (x5 + 1) (x6 + 1) N HN fN (by omega) (by omega) (by omega) (by omega) (by omega) (by omega) (by omega) (by omega) (by omega) (by omega)
                        · exfalso; omega
                      · exfalso; omega
                    · exfalso; omega
                  · refine s_blx (lv' := [(5, vI (x5 + 1)), (8, vI (w22 / 16)), (7, vI (w19 % 16)), (0, vR 62), (1, vR (code)), (3, vI to_), (4, vI x4), (6, vI x6)]) (st' := [vI 1, vI 1]) B6_160_161 rfl ?_
                    refine r_goto (tgt := 165) D6_161 rfl ?_
                    refine r_icmp (tgt := 172) (pc' := 168) D6_165 rfl rfl (by unfold inR; omega) (fun (c56 : 1 ≠ 1) => ?_) (fun (c56 : ¬ (1 ≠ 1)) => ?_)
                    · exfalso; omega
                    · refine s_blx (lv' := [(5, vI (x5 + 1)), (8, vI (w22 / 16)), (7, vI (w19 % 16)), (0, vR 62), (1, vR (code)), (3, vI to_), (4, vI x4), (6, vI x6)]) (st' := [vI 1]) B6_168_169 rfl ?_
                      refine r_goto (tgt := 173) D6_169 rfl ?_
                      refine s_blx (lv' := [(9, vI 1), (5, vI (x5 + 1)), (8, vI (w22 / 16)), (7, vI (w19 % 16)), (0, vR 62), (1, vR (code)), (3, vI to_), (4, vI x4), (6, vI x6)]) (st' := [vI 1]) B6_173_177 rfl ?_
                      refine r_ifc (tgt := 185) (pc' := 180) D6_177 rfl rfl (by unfold inR; omega) (fun (c57 : 1 = 0) => ?_) (fun (c57 : ¬ (1 = 0)) => ?_)
                      · exfalso; omega
                      · refine s_blx (lv' := [(9, vI 1), (5, vI (x5 + 1)), (8, vI (w22 / 16)), (7, vI (w19 % 16)), (0, vR 62), (1, vR (code)), (3, vI to_), (4, vI x4), (6, vI x6)]) (st' := [vI (w22 / 16)]) B6_180_182 rfl ?_
                        refine r_goto (tgt := 187) D6_182 rfl ?_
                        refine s_blx (lv' := [(5, vI (w22 / 16)), (9, vI 1), (8, vI (w22 / 16)), (7, vI (w19 % 16)), (0, vR 62), (1, vR (code)), (3, vI to_), (4, vI x4), (6, vI x6)]) (st' := [vI 1]) B6_187_191 rfl ?_
                        refine r_ifc (tgt := 199) (pc' := 194) D6_191 rfl rfl (by unfold inR; omega) (fun (c58 : 1 = 0) => ?_) (fun (c58 : ¬ (1 = 0)) => ?_)
                        · exfalso; omega
                        · refine s_blx (lv' := [(5, vI (w22 / 16)), (9, vI 1), (8, vI (w22 / 16)), (7, vI (w19 % 16)), (0, vR 62), (1, vR (code)), (3, vI to_), (4, vI x4), (6, vI x6)]) (st' := [vI x4]) B6_194_196 rfl ?_
                          refine r_goto (tgt := 203) D6_196 rfl ?_
                          refine s_blx (lv' := [(4, vI x4), (5, vI (w22 / 16)), (9, vI 1), (8, vI (w22 / 16)), (7, vI (w19 % 16)), (0, vR 62), (1, vR (code)), (3, vI to_), (6, vI x6)]) (st' := []) B6_203_205 rfl ?_
                          refine r_goto (tgt := 230) D6_205 rfl ?_
                          refine s_blx (lv' := [(6, vI (x6 + 1)), (4, vI x4), (5, vI (w22 / 16)), (9, vI 1), (8, vI (w22 / 16)), (7, vI (w19 % 16)), (0, vR 62), (1, vR (code)), (3, vI to_)]) (st' := []) B6_230_233 rfl ?_
                          refine r_goto (tgt := 9) D6_233 rfl ?_
                          refine r_loc (lv' := [(0, vR 62), (1, vR (code)), (3, vI to_), (4, vI x4), (5, vI (w22 / 16)), (6, vI (x6 + 1))]) ⟨rfl, rfl, rfl, rfl, rfl, rfl, trivial⟩ rfl rfl ?_
                          exact ih x4 (w22 / 16) (x6 + 1) N HN fN (by omega) (by omega) (by omega) (by omega) (by omega) (by omega) (by omega) (by omega) (by omega) (by omega)
            · refine s_blx (lv' := [(5, vI (x5 + 1)), (8, vI (w22 / 16)), (7, vI (w19 % 16)), (0, vR 62), (1, vR (code)), (3, vI to_), (4, vI x4), (6, vI x6)]) (st' := [vR 62]) B6_104_105 rfl ?_
              refine r_gfix (r := 65) (pc' := 108) D6_105 rfl gf_0_35_62 HN.1 ?_
              refine s_blx (lv' := [(5, vI (x5 + 1)), (8, vI (w22 / 16)), (7, vI (w19 % 16)), (0, vR 62), (1, vR (code)), (3, vI to_), (4, vI x4), (6, vI x6)]) (st' := [vR 62, vL 1, vI (x4 - 1), vR 65]) B6_108_114 rfl ?_
              refine r_gfix (r := 65) (pc' := 117) D6_114 rfl gf_0_35_62 HN.1 ?_
              refine s_blx (lv' := [(5, vI (x5 + 1)), (8, vI (w22 / 16)), (7, vI (w19 % 16)), (0, vR 62), (1, vR (code)), (3, vI to_), (4, vI x4), (6, vI x6)]) (st' := [vI (x4 - 1), vR 65, vL 1, vI (x4 - 1), vR 65]) B6_117_121 rfl ?_
              refine r_lald (pc' := 122) D6_121 rfl sc_65 HN.1 (by omega) ?_
              intro w59 e60 r61
              clear r61
              refine s_blx (lv' := [(5, vI (x5 + 1)), (8, vI (w22 / 16)), (7, vI (w19 % 16)), (0, vR 62), (1, vR (code)), (3, vI to_), (4, vI x4), (6, vI x6)]) (st' := [vL (1 - w59), vI (x4 - 1), vR 65]) B6_122_123 rfl ?_
              refine r_normL ?_
              intro z62 r63 _; unfold inJ at r63
              refine r_last (pc' := 124) D6_123 rfl sc_65 HN (by omega) (by unfold inJ; omega) trivial ?_
              intro M64 u65 H66 p67
              have f68 := fN.wr u65 rfl
              refine r_goto (tgt := 230) D6_124 rfl ?_
              refine s_blx (lv' := [(6, vI (x6 + 1)), (5, vI (x5 + 1)), (8, vI (w22 / 16)), (7, vI (w19 % 16)), (0, vR 62), (1, vR (code)), (3, vI to_), (4, vI x4)]) (st' := []) B6_230_233 rfl ?_
              refine r_goto (tgt := 9) D6_233 rfl ?_
              refine r_loc (lv' := [(0, vR 62), (1, vR (code)), (3, vI to_), (4, vI x4), (5, vI (x5 + 1)), (6, vI (x6 + 1))]) ⟨rfl, rfl, rfl, rfl, rfl, rfl, trivial⟩ rfl rfl ?_
              exact ih x4 (x5 + 1) (x6 + 1) M64 H66 f68 (by omega) (by omega) (by omega) (by omega) (by omega) (by omega) (by omega) (by omega) (by omega) (by omega)
          · refine s_blx (lv' := [(5, vI (x5 + 1)), (8, vI (w22 / 16)), (7, vI (w19 % 16)), (0, vR 62), (1, vR (code)), (3, vI to_), (4, vI x4), (6, vI x6)]) (st' := [vI 0]) B6_95_96 rfl ?_
            exact r_zretI D6_96 rfl (by omega) (⟨HN, fN, by omega⟩)
        · refine s_blx (lv' := [(5, vI (x5 + 1)), (8, vI (w22 / 16)), (7, vI (w19 % 16)), (0, vR 62), (1, vR (code)), (3, vI to_), (4, vI x4), (6, vI x6)]) (st' := [vI 64, vI x4]) B6_49_53 rfl ?_
          refine r_icmp (tgt := 58) (pc' := 56) D6_53 rfl rfl (by unfold inR; omega) (fun (c69 : x4 < 64) => ?_) (fun (c69 : ¬ (x4 < 64)) => ?_)
          · refine s_blx (lv' := [(5, vI (x5 + 1)), (8, vI (w22 / 16)), (7, vI (w19 % 16)), (0, vR 62), (1, vR (code)), (3, vI to_), (4, vI x4), (6, vI x6)]) (st' := [vR 62]) B6_58_59 rfl ?_
            refine r_gfix (r := 65) (pc' := 62) D6_59 rfl gf_0_35_62 HN.1 ?_
            refine s_blx (lv' := [(5, vI (x5 + 1)), (8, vI (w22 / 16)), (7, vI (w19 % 16)), (0, vR 62), (1, vR (code)), (3, vI to_), (4, vI x4), (6, vI x6)]) (st' := [vI (w19 % 16), vI x4, vR 65]) B6_62_66 rfl ?_
            refine r_ifc (tgt := 75) (pc' := 69) D6_66 rfl rfl (by unfold inR; omega) (fun (c70 : (w19 % 16) ≠ 0) => ?_) (fun (c70 : ¬ ((w19 % 16) ≠ 0)) => ?_)
            · refine s_blx (lv' := [(5, vI (x5 + 1)), (8, vI (w22 / 16)), (7, vI (w19 % 16)), (0, vR 62), (1, vR (code)), (3, vI to_), (4, vI x4), (6, vI x6)]) (st' := [vR 62, vI x4, vR 65]) B6_75_76 rfl ?_
              refine r_gfix (r := 64) (pc' := 79) D6_76 rfl gf_0_28_62 HN.1 ?_
              refine s_blx (lv' := [(5, vI (x5 + 1)), (8, vI (w22 / 16)), (7, vI (w19 % 16)), (0, vR 62), (1, vR (code)), (3, vI to_), (4, vI x4), (6, vI x6)]) (st' := [vI (w22 / 16), vR 64, vI x4, vR 65]) B6_79_81 rfl ?_
              refine r_lald (pc' := 82) D6_81 rfl sc_64 HN.1 (by omega) ?_
              intro w71 e72 r73
              clear r73
              refine r_normL ?_
              intro z74 r75 _; unfold inJ at r75
              refine r_last (pc' := 83) D6_82 rfl sc_65 HN (by omega) (by unfold inJ; omega) trivial ?_
              intro M76 u77 H78 p79
              have f80 := fN.wr u77 rfl
              refine s_blx (lv' := [(4, vI (x4 + 1)), (5, vI (x5 + 1)), (8, vI (w22 / 16)), (7, vI (w19 % 16)), (0, vR 62), (1, vR (code)), (3, vI to_), (6, vI x6)]) (st' := []) B6_83_86 rfl ?_
              refine r_goto (tgt := 230) D6_86 rfl ?_
              refine s_blx (lv' := [(6, vI (x6 + 1)), (4, vI (x4 + 1)), (5, vI (x5 + 1)), (8, vI (w22 / 16)), (7, vI (w19 % 16)), (0, vR 62), (1, vR (code)), (3, vI to_)]) (st' := []) B6_230_233 rfl ?_
              refine r_goto (tgt := 9) D6_233 rfl ?_
              refine r_loc (lv' := [(0, vR 62), (1, vR (code)), (3, vI to_), (4, vI (x4 + 1)), (5, vI (x5 + 1)), (6, vI (x6 + 1))]) ⟨rfl, rfl, rfl, rfl, rfl, rfl, trivial⟩ rfl rfl ?_
              exact ih (x4 + 1) (x5 + 1) (x6 + 1) M76 H78 f80 (by omega) (by omega) (by omega) (by omega) (by omega) (by omega) (by omega) (by omega) (by omega) (by omega)
            · refine s_blx (lv' := [(5, vI (x5 + 1)), (8, vI (w22 / 16)), (7, vI (w19 % 16)), (0, vR 62), (1, vR (code)), (3, vI to_), (4, vI x4), (6, vI x6)]) (st' := [vI (w22 / 16), vI x4, vR 65]) B6_69_71 rfl ?_
              refine r_i2l (pc' := 72) D6_71 rfl (by unfold inR; omega) ?_
              refine r_goto (tgt := 82) D6_72 rfl ?_
              refine r_normL ?_
              intro z81 r82 _; unfold inJ at r82
              refine r_last (pc' := 83) D6_82 rfl sc_65 HN (by omega) (by unfold inJ; omega) trivial ?_
              intro M83 u84 H85 p86
              have f87 := fN.wr u84 rfl
              refine s_blx (lv' := [(4, vI (x4 + 1)), (5, vI (x5 + 1)), (8, vI (w22 / 16)), (7, vI (w19 % 16)), (0, vR 62), (1, vR (code)), (3, vI to_), (6, vI x6)]) (st' := []) B6_83_86 rfl ?_
              refine r_goto (tgt := 230) D6_86 rfl ?_
              refine s_blx (lv' := [(6, vI (x6 + 1)), (4, vI (x4 + 1)), (5, vI (x5 + 1)), (8, vI (w22 / 16)), (7, vI (w19 % 16)), (0, vR 62), (1, vR (code)), (3, vI to_)]) (st' := []) B6_230_233 rfl ?_
              refine r_goto (tgt := 9) D6_233 rfl ?_
              refine r_loc (lv' := [(0, vR 62), (1, vR (code)), (3, vI to_), (4, vI (x4 + 1)), (5, vI (x5 + 1)), (6, vI (x6 + 1))]) ⟨rfl, rfl, rfl, rfl, rfl, rfl, trivial⟩ rfl rfl ?_
              exact ih (x4 + 1) (x5 + 1) (x6 + 1) M83 H85 f87 (by omega) (by omega) (by omega) (by omega) (by omega) (by omega) (by omega) (by omega) (by omega) (by omega)
          · refine s_blx (lv' := [(5, vI (x5 + 1)), (8, vI (w22 / 16)), (7, vI (w19 % 16)), (0, vR 62), (1, vR (code)), (3, vI to_), (4, vI x4), (6, vI x6)]) (st' := [vI 0]) B6_56_57 rfl ?_
            exact r_zretI D6_57 rfl (by omega) (⟨HN, fN, by omega⟩)
set_option maxRecDepth 4000 in
theorem k6_62x {base : Nat} {X : Nat → Option mC} {G : Nat → Value} (E : EnvOK base X G) {d : Nat} (hd : 2 ≤ d) {M : mH} (H : HI base M) (code : Nat) (from_ : Int) (to_ : Int) (nc : Int) (h0 : IC code nc M) (h1 : 0 ≤ from_ ∧ from_ ≤ 400) (h2 : 0 ≤ to_ ∧ to_ ≤ nc) (h3 : nc ≤ 400) : sOk base X G d T6 [vR 62, vR (code), vI from_, vI to_] M (pI (fun v M' => HI base M' ∧ Fr [(65, 0)] M M' ∧ (v = 0 ∨ v = 1))) := by
  have f0 : Fr [(65, 0)] M M := Fr.rf
  refine sOk.of (show sRn base X G d T6 0 [(0, vR 62), (1, vR (code)), (2, vI from_), (3, vI to_)] [] M _ from ?_)
  refine s_blx (lv' := [(6, vI 0), (5, vI from_), (4, vI 0), (0, vR 62), (1, vR (code)), (2, vI from_), (3, vI to_)]) (st' := []) B6_0_9 rfl ?_
  refine r_loc (lv' := [(0, vR 62), (1, vR (code)), (3, vI to_), (4, vI 0), (5, vI from_), (6, vI 0)]) ⟨rfl, rfl, rfl, rfl, rfl, rfl, trivial⟩ rfl rfl ?_
  exact (L_k6_62x E hd H code from_ to_ nc h0 h1 h2 h3 (((400 - 0) * 1 + 0 : Int) + 1).toNat) 0 from_ 0 M H f0 (by omega) (by omega) (by omega) (by omega) (by omega) (by omega) (by omega) (by omega) (by omega) (by omega)
set_option maxRecDepth 4000 in
theorem k5_62_20x {base : Nat} {X : Nat → Option mC} {G : Nat → Value} (E : EnvOK base X G) {d : Nat} (hd : 1 ≤ d) {M : mH} (H : HI base M) (head : Int) (place : Int) (h0 : -2147483648 ≤ head ∧ head ≤ 2147483647) (h1 : 0 ≤ place ∧ place ≤ 144) (h2 : gi M 62 5 = -1 ∨ (20 ≤ gi M 62 5 ∧ gi M 62 5 ≤ 22)) : sOk base X G d T5 [vR 62, vR 20, vI head, vI place] M (pI (fun v M' => M' = M ∧ (-1 ≤ v ∧ v ≤ 22) ∧ (v = 1 ∨ v = 2 → gi M 62 3 ≤ 110))) := by
  refine sOk.of (show sRn base X G d T5 0 [(0, vR 62), (1, vR 20), (2, vI head), (3, vI place)] [] M _ from ?_)
  refine s_blx (lv' := [(0, vR 62), (1, vR 20), (2, vI head), (3, vI place)]) (st' := [vR 62]) B5_0_1 rfl ?_
  refine r_gint (ki := 3) (pc' := 4) D5_1 rfl gf_0_25_62 rfl H.1 ?_
  intro w1 e2 r3
  unfold inR at r3
  refine r_sIp (args := [vI w1]) (rest := []) (pc' := 7) D5_4 rfl ck_0_static_64 TE42 rfl (Nat.le_of_ble_eq_true rfl) ⟨Nat.le_of_ble_eq_true rfl, Nat.le_of_ble_eq_true rfl⟩ (by decide) (dp_0 hd rfl) (k42 E (dp_n hd rfl) H w1 (by omega)) ?_
  intro v4 q11
  obtain ⟨q6, q7, q8, q9, q10⟩ := q11
  refine s_blx (lv' := [(4, vI v4), (0, vR 62), (1, vR 20), (2, vI head), (3, vI place)]) (st' := [vI head]) B5_7_10 rfl ?_
  refine r_ifc (tgt := 28) (pc' := 13) D5_10 rfl rfl (by unfold inR; omega) (fun (c12 : head ≠ 0) => ?_) (fun (c12 : ¬ (head ≠ 0)) => ?_)
  · refine s_blx (lv' := [(4, vI v4), (0, vR 62), (1, vR 20), (2, vI head), (3, vI place)]) (st' := [vI 5, vI head]) B5_28_30 rfl ?_
    refine r_icmp (tgt := 38) (pc' := 33) D5_30 rfl rfl (by unfold inR; omega) (fun (c13 : head ≠ 5) => ?_) (fun (c13 : ¬ (head ≠ 5)) => ?_)
    · refine s_blx (lv' := [(4, vI v4), (0, vR 62), (1, vR 20), (2, vI head), (3, vI place)]) (st' := [vI 3, vI v4]) B5_38_41 rfl ?_
      refine r_icmp (tgt := 46) (pc' := 44) D5_41 rfl rfl (by unfold inR; omega) (fun (c14 : v4 < 3) => ?_) (fun (c14 : ¬ (v4 < 3)) => ?_)
      · refine s_blx (lv' := [(4, vI v4), (0, vR 62), (1, vR 20), (2, vI head), (3, vI place)]) (st' := [vI v4, vI place, vR 20]) B5_46_50 rfl ?_
        refine r_vIp (c := 20) (args := [vI place, vI v4]) (rest := []) (pc' := 53) D5_50 rfl ck_0_virtual_73 TE85 rfl (Nat.le_of_ble_eq_true rfl) ⟨Nat.le_of_ble_eq_true rfl, Nat.le_of_ble_eq_true rfl⟩ sc_20 ⟨rfl, by decide⟩ H.1 (dp_0 hd rfl) (k85_20 E (dp_n hd rfl) H place v4 (by omega) (by omega)) ?_
        intro v15 q18
        have q17 := q18; clear q18
        refine s_blx (lv' := [(5, vI v15), (4, vI v4), (0, vR 62), (1, vR 20), (2, vI head), (3, vI place)]) (st' := [vR 20]) B5_53_56 rfl ?_
        refine r_gfix (r := 28) (pc' := 59) D5_56 rfl gf_0_84_20 H.1 ?_
        refine s_blx (lv' := [(5, vI v15), (4, vI v4), (0, vR 62), (1, vR 20), (2, vI head), (3, vI place)]) (st' := [vI v15, vR 28]) B5_59_61 rfl ?_
        refine r_iald (pc' := 62) D5_61 rfl sc_28 H.1 (by omega) ?_
        intro w19 e20 r21
        have b_w19 := H.2 28 (v15) (-1) 7 rfl
        rw [← e20] at b_w19; clear r21
        refine s_blx (lv' := [(5, vI v15), (4, vI v4), (0, vR 62), (1, vR 20), (2, vI head), (3, vI place)]) (st' := [vI (-1), vI w19]) B5_62_63 rfl ?_
        refine r_icmp (tgt := 70) (pc' := 66) D5_63 rfl rfl (by unfold inR; omega) (fun (c22 : w19 = (-1)) => ?_) (fun (c22 : ¬ (w19 = (-1))) => ?_)
        · refine s_blx (lv' := [(6, vI 0), (5, vI v15), (4, vI v4), (0, vR 62), (1, vR 20), (2, vI head), (3, vI place)]) (st' := [vI head]) B5_70_74 rfl ?_
          refine r_tsw (tgt := fun k => if k = 1 then 100 else if k = 2 then 111 else if k = 3 then 132 else 0) (td := 134) D5_74 (by unfold inR; omega) ?_ rfl ?_ ?_
          · intro k h1 h2
            have hk : k = 1 ∨ k = 2 ∨ k = 3 := by omega
            rcases hk with rfl | rfl | rfl <;> exact ⟨_, rfl, rfl⟩
          · intro k h1 h2 c23
            have hk : k = 1 ∨ k = 2 ∨ k = 3 := by omega
            clear h1 h2
            rcases hk with rfl | rfl | rfl
            · show sRn _ _ _ _ _ 100 _ _ _ _
              refine s_blx (lv' := [(6, vI 0), (5, vI v15), (4, vI v4), (0, vR 62), (1, vR 20), (2, vI head), (3, vI place)]) (st' := [vI 0]) B5_100_102 rfl ?_
              refine r_ifc (tgt := 109) (pc' := 105) D5_102 rfl rfl (by unfold inR; omega) (fun (c24 : 0 = 0) => ?_) (fun (c24 : ¬ (0 = 0)) => ?_)
              · refine s_blx (lv' := [(6, vI 0), (5, vI v15), (4, vI v4), (0, vR 62), (1, vR 20), (2, vI head), (3, vI place)]) (st' := [vI (-1)]) B5_109_110 rfl ?_
                exact r_iretI D5_110 rfl (⟨rfl, by omega, by omega⟩)
              · exfalso; omega
            · show sRn _ _ _ _ _ 111 _ _ _ _
              refine s_blx (lv' := [(6, vI 0), (5, vI v15), (4, vI v4), (0, vR 62), (1, vR 20), (2, vI head), (3, vI place)]) (st' := [vI 0]) B5_111_113 rfl ?_
              refine r_ifc (tgt := 130) (pc' := 116) D5_113 rfl rfl (by unfold inR; omega) (fun (c25 : 0 ≠ 0) => ?_) (fun (c25 : ¬ (0 ≠ 0)) => ?_)
              · exfalso; omega
              · refine s_blx (lv' := [(6, vI 0), (5, vI v15), (4, vI v4), (0, vR 62), (1, vR 20), (2, vI head), (3, vI place)]) (st' := [vR 20]) B5_116_117 rfl ?_
                refine r_gfix (r := 31) (pc' := 120) D5_117 rfl gf_0_141_20 H.1 ?_
                refine s_blx (lv' := [(6, vI 0), (5, vI v15), (4, vI v4), (0, vR 62), (1, vR 20), (2, vI head), (3, vI place)]) (st' := [vI v15, vR 31]) B5_120_122 rfl ?_
                refine r_iald (pc' := 123) D5_122 rfl sc_31 H.1 (by omega) ?_
                intro w26 e27 r28
                unfold inR at r28
                refine r_ifc (tgt := 130) (pc' := 126) D5_123 rfl rfl (by unfold inR; omega) (fun (c29 : w26 ≤ 0) => ?_) (fun (c29 : ¬ (w26 ≤ 0)) => ?_)
                · refine s_blx (lv' := [(6, vI 0), (5, vI v15), (4, vI v4), (0, vR 62), (1, vR 20), (2, vI head), (3, vI place)]) (st' := [vI (-1)]) B5_130_131 rfl ?_
                  exact r_iretI D5_131 rfl (⟨rfl, by omega, by omega⟩)
                · refine s_blx (lv' := [(6, vI 0), (5, vI v15), (4, vI v4), (0, vR 62), (1, vR 20), (2, vI head), (3, vI place)]) (st' := [vI 2]) B5_126_127 rfl ?_
                  refine r_goto (tgt := 131) D5_127 rfl ?_
                  exact r_iretI D5_131 rfl (⟨rfl, by omega, by omega⟩)
            · show sRn _ _ _ _ _ 132 _ _ _ _
              refine s_blx (lv' := [(6, vI 0), (5, vI v15), (4, vI v4), (0, vR 62), (1, vR 20), (2, vI head), (3, vI place)]) (st' := [vI 3]) B5_132_133 rfl ?_
              exact r_iretI D5_133 rfl (⟨rfl, by omega, by omega⟩)
          · intro c23
            refine s_blx (lv' := [(6, vI 0), (5, vI v15), (4, vI v4), (0, vR 62), (1, vR 20), (2, vI head), (3, vI place)]) (st' := [vI 0]) B5_134_136 rfl ?_
            refine r_ifc (tgt := 143) (pc' := 139) D5_136 rfl rfl (by unfold inR; omega) (fun (c30 : 0 = 0) => ?_) (fun (c30 : ¬ (0 = 0)) => ?_)
            · refine s_blx (lv' := [(6, vI 0), (5, vI v15), (4, vI v4), (0, vR 62), (1, vR 20), (2, vI head), (3, vI place)]) (st' := [vR 20, vI 10]) B5_143_146 rfl ?_
              refine r_gfix (r := 29) (pc' := 149) D5_146 rfl gf_0_144_20 H.1 ?_
              refine s_blx (lv' := [(6, vI 0), (5, vI v15), (4, vI v4), (0, vR 62), (1, vR 20), (2, vI head), (3, vI place)]) (st' := [vI v15, vR 29, vI 10]) B5_149_151 rfl ?_
              refine r_iald (pc' := 152) D5_151 rfl sc_29 H.1 (by omega) ?_
              intro w31 e32 r33
              have b_w31 := H.2 29 (v15) 0 7 rfl
              rw [← e32] at b_w31; clear r33
              refine s_blx (lv' := [(6, vI 0), (5, vI v15), (4, vI v4), (0, vR 62), (1, vR 20), (2, vI head), (3, vI place)]) (st' := [vI (10 + w31)]) B5_152_153 rfl ?_
              exact r_iretI D5_153 rfl (⟨rfl, by omega, by omega⟩)
            · exfalso; omega
        · refine s_blx (lv' := [(5, vI v15), (4, vI v4), (0, vR 62), (1, vR 20), (2, vI head), (3, vI place)]) (st' := [vI 1]) B5_66_67 rfl ?_
          refine r_goto (tgt := 71) D5_67 rfl ?_
          refine s_blx (lv' := [(6, vI 1), (5, vI v15), (4, vI v4), (0, vR 62), (1, vR 20), (2, vI head), (3, vI place)]) (st' := [vI head]) B5_71_74 rfl ?_
          refine r_tsw (tgt := fun k => if k = 1 then 100 else if k = 2 then 111 else if k = 3 then 132 else 0) (td := 134) D5_74 (by unfold inR; omega) ?_ rfl ?_ ?_
          · intro k h1 h2
            have hk : k = 1 ∨ k = 2 ∨ k = 3 := by omega
            rcases hk with rfl | rfl | rfl <;> exact ⟨_, rfl, rfl⟩
          · intro k h1 h2 c34
            have hk : k = 1 ∨ k = 2 ∨ k = 3 := by omega
            clear h1 h2
            rcases hk with rfl | rfl | rfl
            · show sRn _ _ _ _ _ 100 _ _ _ _
              refine s_blx (lv' := [(6, vI 1), (5, vI v15), (4, vI v4), (0, vR 62), (1, vR 20), (2, vI head), (3, vI place)]) (st' := [vI 1]) B5_100_102 rfl ?_
              refine r_ifc (tgt := 109) (pc' := 105) D5_102 rfl rfl (by unfold inR; omega) (fun (c35 : 1 = 0) => ?_) (fun (c35 : ¬ (1 = 0)) => ?_)
              · exfalso; omega
              · refine s_blx (lv' := [(6, vI 1), (5, vI v15), (4, vI v4), (0, vR 62), (1, vR 20), (2, vI head), (3, vI place)]) (st' := [vI 1]) B5_105_106 rfl ?_
                refine r_goto (tgt := 110) D5_106 rfl ?_
                exact r_iretI D5_110 rfl (⟨rfl, by omega, by omega⟩)
            · show sRn _ _ _ _ _ 111 _ _ _ _
              refine s_blx (lv' := [(6, vI 1), (5, vI v15), (4, vI v4), (0, vR 62), (1, vR 20), (2, vI head), (3, vI place)]) (st' := [vI 1]) B5_111_113 rfl ?_
              refine r_ifc (tgt := 130) (pc' := 116) D5_113 rfl rfl (by unfold inR; omega) (fun (c36 : 1 ≠ 0) => ?_) (fun (c36 : ¬ (1 ≠ 0)) => ?_)
              · refine s_blx (lv' := [(6, vI 1), (5, vI v15), (4, vI v4), (0, vR 62), (1, vR 20), (2, vI head), (3, vI place)]) (st' := [vI (-1)]) B5_130_131 rfl ?_
                exact r_iretI D5_131 rfl (⟨rfl, by omega, by omega⟩)
              · exfalso; omega
            · show sRn _ _ _ _ _ 132 _ _ _ _
              refine s_blx (lv' := [(6, vI 1), (5, vI v15), (4, vI v4), (0, vR 62), (1, vR 20), (2, vI head), (3, vI place)]) (st' := [vI 3]) B5_132_133 rfl ?_
              exact r_iretI D5_133 rfl (⟨rfl, by omega, by omega⟩)
          · intro c34
            refine s_blx (lv' := [(6, vI 1), (5, vI v15), (4, vI v4), (0, vR 62), (1, vR 20), (2, vI head), (3, vI place)]) (st' := [vI 1]) B5_134_136 rfl ?_
            refine r_ifc (tgt := 143) (pc' := 139) D5_136 rfl rfl (by unfold inR; omega) (fun (c37 : 1 = 0) => ?_) (fun (c37 : ¬ (1 = 0)) => ?_)
            · exfalso; omega
            · refine s_blx (lv' := [(6, vI 1), (5, vI v15), (4, vI v4), (0, vR 62), (1, vR 20), (2, vI head), (3, vI place)]) (st' := [vI (-1)]) B5_139_140 rfl ?_
              refine r_goto (tgt := 153) D5_140 rfl ?_
              exact r_iretI D5_153 rfl (⟨rfl, by omega, by omega⟩)
      · refine s_blx (lv' := [(4, vI v4), (0, vR 62), (1, vR 20), (2, vI head), (3, vI place)]) (st' := [vI (-1)]) B5_44_45 rfl ?_
        exact r_iretI D5_45 rfl (⟨rfl, by omega, by omega⟩)
    · refine s_blx (lv' := [(4, vI v4), (0, vR 62), (1, vR 20), (2, vI head), (3, vI place)]) (st' := [vR 62]) B5_33_34 rfl ?_
      refine r_gint (ki := 5) (pc' := 37) D5_34 rfl gf_0_32_62 rfl H.1 ?_
      intro w38 e39 r40
      unfold inR at r40
      exact r_iretI D5_37 rfl (⟨rfl, by omega, by omega⟩)
  · refine s_blx (lv' := [(4, vI v4), (0, vR 62), (1, vR 20), (2, vI head), (3, vI place)]) (st' := [vR 20]) B5_13_14 rfl ?_
    refine r_gfix (r := 25) (pc' := 17) D5_14 rfl gf_0_87_20 H.1 ?_
    refine s_blx (lv' := [(4, vI v4), (0, vR 62), (1, vR 20), (2, vI head), (3, vI place)]) (st' := [vI place, vR 25]) B5_17_18 rfl ?_
    refine r_bald (pc' := 19) D5_18 rfl sc_25 (by decide) H.1 (by omega) ?_
    intro w41 e42 r43
    have b_w41 := H.2 25 (place) 0 1 rfl
    rw [← e42] at b_w41; clear r43
    refine r_ifc (tgt := 26) (pc' := 22) D5_19 rfl rfl (by unfold inR; omega) (fun (c44 : w41 = 0) => ?_) (fun (c44 : ¬ (w41 = 0)) => ?_)
    · refine s_blx (lv' := [(4, vI v4), (0, vR 62), (1, vR 20), (2, vI head), (3, vI place)]) (st' := [vI 0]) B5_26_27 rfl ?_
      exact r_iretI D5_27 rfl (⟨rfl, by omega, by omega⟩)
    · refine s_blx (lv' := [(4, vI v4), (0, vR 62), (1, vR 20), (2, vI head), (3, vI place)]) (st' := [vI (-1)]) B5_22_23 rfl ?_
      refine r_goto (tgt := 27) D5_23 rfl ?_
      exact r_iretI D5_27 rfl (⟨rfl, by omega, by omega⟩)
set_option maxRecDepth 4000 in
theorem L_k3_62_20x {base : Nat} {X : Nat → Option mC} {G : Nat → Value} (E : EnvOK base X G) {d : Nat} (hd : 3 ≤ d) {M : mH} (H : HI base M) (place : Int) (h0 : 0 ≤ place ∧ place ≤ 144) : ∀ mz : Nat, (∀ (x3 x4 : Int) (N : mH), HI base N → Fr [(62, 6)] M N → (gi N 62 5 = -1 ∨ (20 ≤ gi N 62 5 ∧ gi N 62 5 ≤ 22)) → (0 ≤ x3 ∧ x3 ≤ 2 - x4) → (-1 ≤ x4 ∧ x4 ≤ 2) → (0 ≤ x3) → (x3 ≤ 4) → ((-1) ≤ x4) → (x4 ≤ 2) → (x4 + 1) * 1 + 0 < (mz : Int) → sRn base X G d T3 10 [(0, vR 62), (1, vR 20), (2, vI place), (3, vI x3), (4, vI x4)] [] N (s_Q base (pI (fun v M' => HI base M' ∧ Fr [(62, 6)] M M' ∧ (0 ≤ v ∧ v ≤ 3) ∧ (gi M' 62 5 = -1 ∨ (20 ≤ gi M' 62 5 ∧ gi M' 62 5 ≤ 22)))))) := by
  have f0 : Fr [(62, 6)] M M := Fr.rf
  intro mz
  induction mz with
  | zero => exact fun x3 x4 N _ _ z0 z1 z2 z3 z4 z5 z6 z7 => by omega
  | succ mz ih =>
    intro x3 x4 N HN fN i0 i1 i2 i3 i4 i5 i6 hmu
    refine s_blx (lv' := [(0, vR 62), (1, vR 20), (2, vI place), (3, vI x3), (4, vI x4)]) (st' := [vI x4]) B3_10_12 rfl ?_
    refine r_ifc (tgt := 47) (pc' := 15) D3_12 rfl rfl (by unfold inR; omega) (fun (c7 : x4 < 0) => ?_) (fun (c7 : ¬ (x4 < 0)) => ?_)
    · refine s_blx (lv' := [(0, vR 62), (1, vR 20), (2, vI place), (3, vI x3), (4, vI x4)]) (st' := [vI x3]) B3_47_48 rfl ?_
      exact r_iretI D3_48 rfl (⟨HN, fN, by omega, by omega⟩)
    · refine s_blx (lv' := [(0, vR 62), (1, vR 20), (2, vI place), (3, vI x3), (4, vI x4)]) (st' := [vR 62, vI place, vR 20]) B3_15_18 rfl ?_
      refine r_gint (ki := 3) (pc' := 21) D3_18 rfl gf_0_25_62 rfl HN.1 ?_
      intro w8 e9 r10
      unfold inR at r10
      refine s_blx (lv' := [(0, vR 62), (1, vR 20), (2, vI place), (3, vI x3), (4, vI x4)]) (st' := [vI x4, vI w8, vI place, vR 20]) B3_21_23 rfl ?_
      refine r_vIp (c := 20) (args := [vI place, vI w8, vI x4]) (rest := []) (pc' := 26) D3_23 rfl ck_0_virtual_118 TE87 rfl (Nat.le_of_ble_eq_true rfl) ⟨Nat.le_of_ble_eq_true rfl, Nat.le_of_ble_eq_true rfl⟩ sc_20 ⟨rfl, by decide⟩ HN.1 (dp_0 hd rfl) (k87_20 E (dp_n hd rfl) HN place w8 x4 (by omega) (by omega) (by omega)) ?_
      intro v11 q14
      have q13 := q14; clear q14
      refine r_ifc (tgt := 41) (pc' := 29) D3_26 rfl rfl (by unfold inR; omega) (fun (c15 : v11 = 0) => ?_) (fun (c15 : ¬ (v11 = 0)) => ?_)
      · refine s_blx (lv' := [(4, vI (x4 + (-1))), (0, vR 62), (1, vR 20), (2, vI place), (3, vI x3)]) (st' := []) B3_41_44 rfl ?_
        refine r_goto (tgt := 10) D3_44 rfl ?_
        refine r_loc (lv' := [(0, vR 62), (1, vR 20), (2, vI place), (3, vI x3), (4, vI (x4 + (-1)))]) ⟨rfl, rfl, rfl, rfl, rfl, trivial⟩ rfl rfl ?_
        exact ih x3 (x4 + (-1)) N HN fN (by omega) (by omega) (by omega) (by omega) (by omega) (by omega) (by omega) (by omega)
      · refine s_blx (lv' := [(3, vI (x3 + 1)), (0, vR 62), (1, vR 20), (2, vI place), (4, vI x4)]) (st' := [vI (20 + x4), vR 62]) B3_29_38 rfl ?_
        refine r_pint (ki := 5) (pc' := 41) D3_38 rfl pf_0_32_62 rfl HN (by unfold inR; omega) trivial ?_
        intro M16 u17 H18 p19
        have f20 := fN.wr u17 rfl
        refine s_blx (lv' := [(4, vI (x4 + (-1))), (3, vI (x3 + 1)), (0, vR 62), (1, vR 20), (2, vI place)]) (st' := []) B3_41_44 rfl ?_
        refine r_goto (tgt := 10) D3_44 rfl ?_
        refine r_loc (lv' := [(0, vR 62), (1, vR 20), (2, vI place), (3, vI (x3 + 1)), (4, vI (x4 + (-1)))]) ⟨rfl, rfl, rfl, rfl, rfl, trivial⟩ rfl rfl ?_
        have g21 : gi M16 62 5 = 20 + x4 := p19
        exact ih (x3 + 1) (x4 + (-1)) M16 H18 f20 (by omega) (by omega) (by omega) (by omega) (by omega) (by omega) (by omega) (by omega)
set_option maxRecDepth 4000 in
theorem k3_62_20x {base : Nat} {X : Nat → Option mC} {G : Nat → Value} (E : EnvOK base X G) {d : Nat} (hd : 3 ≤ d) {M : mH} (H : HI base M) (place : Int) (h0 : 0 ≤ place ∧ place ≤ 144) : sOk base X G d T3 [vR 62, vR 20, vI place] M (pI (fun v M' => HI base M' ∧ Fr [(62, 6)] M M' ∧ (0 ≤ v ∧ v ≤ 3) ∧ (gi M' 62 5 = -1 ∨ (20 ≤ gi M' 62 5 ∧ gi M' 62 5 ≤ 22)))) := by
  have f0 : Fr [(62, 6)] M M := Fr.rf
  refine sOk.of (show sRn base X G d T3 0 [(0, vR 62), (1, vR 20), (2, vI place)] [] M _ from ?_)
  refine s_blx (lv' := [(3, vI 0), (0, vR 62), (1, vR 20), (2, vI place)]) (st' := [vI (-1), vR 62]) B3_0_4 rfl ?_
  refine r_pint (ki := 5) (pc' := 7) D3_4 rfl pf_0_32_62 rfl H (by unfold inR; omega) trivial ?_
  intro M1 u2 H3 p4
  have f5 := f0.wr u2 rfl
  refine s_blx (lv' := [(4, vI 2), (3, vI 0), (0, vR 62), (1, vR 20), (2, vI place)]) (st' := []) B3_7_10 rfl ?_
  refine r_loc (lv' := [(0, vR 62), (1, vR 20), (2, vI place), (3, vI 0), (4, vI 2)]) ⟨rfl, rfl, rfl, rfl, rfl, trivial⟩ rfl rfl ?_
  have g6 : gi M1 62 5 = -1 := p4
  exact (L_k3_62_20x E hd H place h0 (((2 + 1) * 1 + 0 : Int) + 1).toNat) 0 2 M1 H3 f5 (by omega) (by omega) (by omega) (by omega) (by omega) (by omega) (by omega) (by omega)
set_option maxRecDepth 4000 in
theorem k2_62_20x {base : Nat} {X : Nat → Option mC} {G : Nat → Value} (E : EnvOK base X G) {d : Nat} (hd : 4 ≤ d) {M : mH} (H : HI base M) (place : Int) (second : Int) (h0 : 0 ≤ place ∧ place ≤ 144) (h1 : 0 ≤ second ∧ second ≤ 12) : sOk base X G d T2 [vR 62, vR 20, vI place, vI second] M (pV (fun M' => HI base M' ∧ Fr [(62, 6), (64, 0)] M M' ∧ (gi M' 62 5 = -1 ∨ (20 ≤ gi M' 62 5 ∧ gi M' 62 5 ≤ 22)) ∧ (gi M' 64 0 ≠ 0 → gi M 62 3 ≤ 110))) := by
  have f0 : Fr [(62, 6), (64, 0)] M M := Fr.rf
  refine sOk.of (show sRn base X G d T2 0 [(0, vR 62), (1, vR 20), (2, vI place), (3, vI second)] [] M _ from ?_)
  refine s_blx (lv' := [(0, vR 62), (1, vR 20), (2, vI place), (3, vI second)]) (st' := [vR 62]) B2_0_1 rfl ?_
  refine r_gint (ki := 3) (pc' := 4) D2_1 rfl gf_0_25_62 rfl H.1 ?_
  intro w1 e2 r3
  unfold inR at r3
  refine r_sIp (args := [vI w1]) (rest := []) (pc' := 7) D2_4 rfl ck_0_static_64 TE42 rfl (Nat.le_of_ble_eq_true rfl) ⟨Nat.le_of_ble_eq_true rfl, Nat.le_of_ble_eq_true rfl⟩ (by decide) (dp_0 hd rfl) (k42 E (dp_n hd rfl) H w1 (by omega)) ?_
  intro v4 q11
  obtain ⟨q6, q7, q8, q9, q10⟩ := q11
  refine s_blx (lv' := [(4, vI v4), (0, vR 62), (1, vR 20), (2, vI place), (3, vI second)]) (st' := [vI 3, vI v4]) B2_7_12 rfl ?_
  refine r_icmp (tgt := 25) (pc' := 15) D2_12 rfl rfl (by unfold inR; omega) (fun (c12 : 3 ≤ v4) => ?_) (fun (c12 : ¬ (3 ≤ v4)) => ?_)
  · refine s_blx (lv' := [(5, vI (-1)), (4, vI v4), (0, vR 62), (1, vR 20), (2, vI place), (3, vI second)]) (st' := [vR 20]) B2_25_29 rfl ?_
    refine r_gfix (r := 23) (pc' := 32) D2_29 rfl gf_0_76_20 H.1 ?_
    refine s_blx (lv' := [(5, vI (-1)), (4, vI v4), (0, vR 62), (1, vR 20), (2, vI place), (3, vI second)]) (st' := [vI place, vR 23]) B2_32_33 rfl ?_
    refine r_iald (pc' := 34) D2_33 rfl sc_23 H.1 (by omega) ?_
    intro w13 e14 r15
    unfold inR at r15
    refine s_blx (lv' := [(5, vI (-1)), (4, vI v4), (0, vR 62), (1, vR 20), (2, vI place), (3, vI second)]) (st' := [vI 1, vI w13]) B2_34_35 rfl ?_
    refine r_max (pc' := 38) D2_35 rfl mc_0_static_79 sp_0_79 (Nat.le_of_ble_eq_true rfl) (by unfold inR; omega) ?_
    intro z16 r17 r18 r19
    refine s_blx (lv' := [(6, vI z16), (5, vI (-1)), (4, vI v4), (0, vR 62), (1, vR 20), (2, vI place), (3, vI second)]) (st' := [vR 62]) B2_38_41 rfl ?_
    refine r_gfix (r := 64) (pc' := 44) D2_41 rfl gf_0_28_62 H.1 ?_
    refine s_blx (lv' := [(6, vI z16), (5, vI (-1)), (4, vI v4), (0, vR 62), (1, vR 20), (2, vI place), (3, vI second)]) (st' := [vI (-1), vI (-1), vI 0, vR 64]) B2_44_48 rfl ?_
    refine r_icmp (tgt := 66) (pc' := 51) D2_48 rfl rfl (by unfold inR; omega) (fun (c20 : (-1) = (-1)) => ?_) (fun (c20 : ¬ ((-1) = (-1))) => ?_)
    · refine s_blx (lv' := [(6, vI z16), (5, vI (-1)), (4, vI v4), (0, vR 62), (1, vR 20), (2, vI place), (3, vI second)]) (st' := [vL 0, vI 0, vR 64]) B2_66_67 rfl ?_
      refine r_last (pc' := 68) D2_67 rfl sc_64 H (by omega) (by unfold inJ; omega) trivial ?_
      intro M21 u22 H23 p24
      have f25 := f0.wr u22 rfl
      refine s_blx (lv' := [(6, vI z16), (5, vI (-1)), (4, vI v4), (0, vR 62), (1, vR 20), (2, vI place), (3, vI second)]) (st' := [vR 62]) B2_68_69 rfl ?_
      refine r_gfix (r := 64) (pc' := 72) D2_69 rfl gf_0_28_62 H23.1 ?_
      refine s_blx (lv' := [(6, vI z16), (5, vI (-1)), (4, vI v4), (0, vR 62), (1, vR 20), (2, vI place), (3, vI second)]) (st' := [vR 20, vI 1, vR 64]) B2_72_74 rfl ?_
      refine r_gfix (r := 25) (pc' := 77) D2_74 rfl gf_0_87_20 H23.1 ?_
      refine s_blx (lv' := [(6, vI z16), (5, vI (-1)), (4, vI v4), (0, vR 62), (1, vR 20), (2, vI place), (3, vI second)]) (st' := [vI place, vR 25, vI 1, vR 64]) B2_77_78 rfl ?_
      refine r_bald (pc' := 79) D2_78 rfl sc_25 (by decide) H23.1 (by omega) ?_
      intro w26 e27 r28
      have b_w26 := H23.2 25 (place) 0 1 rfl
      rw [← e27] at b_w26; clear r28
      refine r_ifc (tgt := 86) (pc' := 82) D2_79 rfl rfl (by unfold inR; omega) (fun (c29 : w26 = 0) => ?_) (fun (c29 : ¬ (w26 = 0)) => ?_)
      · refine s_blx (lv' := [(6, vI z16), (5, vI (-1)), (4, vI v4), (0, vR 62), (1, vR 20), (2, vI place), (3, vI second)]) (st' := [vL 0, vI 1, vR 64]) B2_86_87 rfl ?_
        refine r_last (pc' := 88) D2_87 rfl sc_64 H23 (by omega) (by unfold inJ; omega) trivial ?_
        intro M30 u31 H32 p33
        have f34 := f25.wr u31 rfl
        refine s_blx (lv' := [(6, vI z16), (5, vI (-1)), (4, vI v4), (0, vR 62), (1, vR 20), (2, vI place), (3, vI second)]) (st' := [vR 62]) B2_88_89 rfl ?_
        refine r_gfix (r := 64) (pc' := 92) D2_89 rfl gf_0_28_62 H32.1 ?_
        refine s_blx (lv' := [(6, vI z16), (5, vI (-1)), (4, vI v4), (0, vR 62), (1, vR 20), (2, vI place), (3, vI second)]) (st' := [vI v4, vI place, vR 20, vI 2, vR 64]) B2_92_97 rfl ?_
        refine r_vIp (c := 20) (args := [vI place, vI v4]) (rest := [vI 2, vR 64]) (pc' := 100) D2_97 rfl ck_0_virtual_91 TE90 rfl (Nat.le_of_ble_eq_true rfl) ⟨Nat.le_of_ble_eq_true rfl, Nat.le_of_ble_eq_true rfl⟩ sc_20 ⟨rfl, by decide⟩ H32.1 (dp_0 hd rfl) (k90_20 E (dp_n hd rfl) H32 place v4 (by omega) (by omega)) ?_
        intro v35 q38
        have q37 := q38; clear q38
        refine r_i2l (pc' := 101) D2_100 rfl (by unfold inR; omega) ?_
        refine r_normL ?_
        intro z39 r40 _; unfold inJ at r40
        refine r_last (pc' := 102) D2_101 rfl sc_64 H32 (by omega) (by unfold inJ; omega) trivial ?_
        intro M41 u42 H43 p44
        have f45 := f34.wr u42 rfl
        refine s_blx (lv' := [(6, vI z16), (5, vI (-1)), (4, vI v4), (0, vR 62), (1, vR 20), (2, vI place), (3, vI second)]) (st' := [vR 62]) B2_102_103 rfl ?_
        refine r_gfix (r := 64) (pc' := 106) D2_103 rfl gf_0_28_62 H43.1 ?_
        refine s_blx (lv' := [(6, vI z16), (5, vI (-1)), (4, vI v4), (0, vR 62), (1, vR 20), (2, vI place), (3, vI second)]) (st' := [vR 20, vI 3, vR 64]) B2_106_108 rfl ?_
        refine r_gfix (r := 34) (pc' := 111) D2_108 rfl gf_0_94_20 H43.1 ?_
        refine s_blx (lv' := [(6, vI z16), (5, vI (-1)), (4, vI v4), (0, vR 62), (1, vR 20), (2, vI place), (3, vI second)]) (st' := [vI 0, vR 34, vI 3, vR 64]) B2_111_112 rfl ?_
        refine r_iald (pc' := 113) D2_112 rfl sc_34 H43.1 (by omega) ?_
        intro w46 e47 r48
        have b_w46 := H43.2 34 (0) 0 1000 rfl
        rw [← e47] at b_w46; clear r48
        refine r_i2l (pc' := 114) D2_113 rfl (by unfold inR; omega) ?_
        refine r_normL ?_
        intro z49 r50 _; unfold inJ at r50
        refine r_last (pc' := 115) D2_114 rfl sc_64 H43 (by omega) (by unfold inJ; omega) trivial ?_
        intro M51 u52 H53 p54
        have f55 := f45.wr u52 rfl
        refine s_blx (lv' := [(6, vI z16), (5, vI (-1)), (4, vI v4), (0, vR 62), (1, vR 20), (2, vI place), (3, vI second)]) (st' := [vR 62]) B2_115_116 rfl ?_
        refine r_gfix (r := 64) (pc' := 119) D2_116 rfl gf_0_28_62 H53.1 ?_
        refine s_blx (lv' := [(6, vI z16), (5, vI (-1)), (4, vI v4), (0, vR 62), (1, vR 20), (2, vI place), (3, vI second)]) (st' := [vI v4, vI 4, vR 64]) B2_119_122 rfl ?_
        refine r_i2l (pc' := 123) D2_122 rfl (by unfold inR; omega) ?_
        refine r_normL ?_
        intro z56 r57 _; unfold inJ at r57
        refine r_last (pc' := 124) D2_123 rfl sc_64 H53 (by omega) (by unfold inJ; omega) trivial ?_
        intro M58 u59 H60 p61
        have f62 := f55.wr u59 rfl
        refine s_blx (lv' := [(6, vI z16), (5, vI (-1)), (4, vI v4), (0, vR 62), (1, vR 20), (2, vI place), (3, vI second)]) (st' := [vR 62]) B2_124_125 rfl ?_
        refine r_gfix (r := 64) (pc' := 128) D2_125 rfl gf_0_28_62 H60.1 ?_
        refine s_blx (lv' := [(6, vI z16), (5, vI (-1)), (4, vI v4), (0, vR 62), (1, vR 20), (2, vI place), (3, vI second)]) (st' := [vI (-1), vI (-1), vI 5, vR 64]) B2_128_132 rfl ?_
        refine r_icmp (tgt := 139) (pc' := 135) D2_132 rfl rfl (by unfold inR; omega) (fun (c63 : (-1) ≠ (-1)) => ?_) (fun (c63 : ¬ ((-1) ≠ (-1))) => ?_)
        · exfalso; omega
        · refine s_blx (lv' := [(6, vI z16), (5, vI (-1)), (4, vI v4), (0, vR 62), (1, vR 20), (2, vI place), (3, vI second)]) (st' := [vL 0, vI 5, vR 64]) B2_135_136 rfl ?_
          refine r_goto (tgt := 153) D2_136 rfl ?_
          refine r_last (pc' := 154) D2_153 rfl sc_64 H60 (by omega) (by unfold inJ; omega) trivial ?_
          intro M64 u65 H66 p67
          have f68 := f62.wr u65 rfl
          refine s_blx (lv' := [(6, vI z16), (5, vI (-1)), (4, vI v4), (0, vR 62), (1, vR 20), (2, vI place), (3, vI second)]) (st' := [vR 62]) B2_154_155 rfl ?_
          refine r_gfix (r := 64) (pc' := 158) D2_155 rfl gf_0_28_62 H66.1 ?_
          refine s_blx (lv' := [(6, vI z16), (5, vI (-1)), (4, vI v4), (0, vR 62), (1, vR 20), (2, vI place), (3, vI second)]) (st' := [vI (-1), vI (-1), vI 6, vR 64]) B2_158_163 rfl ?_
          refine r_icmp (tgt := 170) (pc' := 166) D2_163 rfl rfl (by unfold inR; omega) (fun (c69 : (-1) ≠ (-1)) => ?_) (fun (c69 : ¬ ((-1) ≠ (-1))) => ?_)
          · exfalso; omega
          · refine s_blx (lv' := [(6, vI z16), (5, vI (-1)), (4, vI v4), (0, vR 62), (1, vR 20), (2, vI place), (3, vI second)]) (st' := [vL 0, vI 6, vR 64]) B2_166_167 rfl ?_
            refine r_goto (tgt := 181) D2_167 rfl ?_
            refine r_last (pc' := 182) D2_181 rfl sc_64 H66 (by omega) (by unfold inJ; omega) trivial ?_
            intro M70 u71 H72 p73
            have f74 := f68.wr u71 rfl
            refine s_blx (lv' := [(6, vI z16), (5, vI (-1)), (4, vI v4), (0, vR 62), (1, vR 20), (2, vI place), (3, vI second)]) (st' := [vR 62]) B2_182_183 rfl ?_
            refine r_gfix (r := 64) (pc' := 186) D2_183 rfl gf_0_28_62 H72.1 ?_
            refine s_blx (lv' := [(6, vI z16), (5, vI (-1)), (4, vI v4), (0, vR 62), (1, vR 20), (2, vI place), (3, vI second)]) (st' := [vI second, vI 7, vR 64]) B2_186_189 rfl ?_
            refine r_i2l (pc' := 190) D2_189 rfl (by unfold inR; omega) ?_
            refine r_normL ?_
            intro z75 r76 _; unfold inJ at r76
            refine r_last (pc' := 191) D2_190 rfl sc_64 H72 (by omega) (by unfold inJ; omega) trivial ?_
            intro M77 u78 H79 p80
            have f81 := f74.wr u78 rfl
            refine s_blx (lv' := [(6, vI z16), (5, vI (-1)), (4, vI v4), (0, vR 62), (1, vR 20), (2, vI place), (3, vI second)]) (st' := [vR 62]) B2_191_192 rfl ?_
            refine r_gfix (r := 64) (pc' := 195) D2_192 rfl gf_0_28_62 H79.1 ?_
            refine s_blx (lv' := [(6, vI z16), (5, vI (-1)), (4, vI v4), (0, vR 62), (1, vR 20), (2, vI place), (3, vI second)]) (st' := [vR 20, vI 8, vR 64]) B2_195_198 rfl ?_
            refine r_gint (ki := 17) (pc' := 201) D2_198 rfl gf_0_108_20 rfl H79.1 ?_
            intro w82 e83 r84
            have b_w82 := H79.2 20 (17) 0 3 rfl
            rw [← e83] at b_w82; clear r84
            refine r_i2l (pc' := 202) D2_201 rfl (by unfold inR; omega) ?_
            refine r_normL ?_
            intro z85 r86 _; unfold inJ at r86
            refine r_last (pc' := 203) D2_202 rfl sc_64 H79 (by omega) (by unfold inJ; omega) trivial ?_
            intro M87 u88 H89 p90
            have f91 := f81.wr u88 rfl
            refine s_blx (lv' := [(6, vI z16), (5, vI (-1)), (4, vI v4), (0, vR 62), (1, vR 20), (2, vI place), (3, vI second)]) (st' := [vR 62]) B2_203_204 rfl ?_
            refine r_gfix (r := 64) (pc' := 207) D2_204 rfl gf_0_28_62 H89.1 ?_
            refine s_blx (lv' := [(6, vI z16), (5, vI (-1)), (4, vI v4), (0, vR 62), (1, vR 20), (2, vI place), (3, vI second)]) (st' := [vI place, vR 20, vR 62, vI 9, vR 64]) B2_207_212 rfl ?_
            refine r_vI (c := 62) (args := [vR 20, vI place]) (rest := [vI 9, vR 64]) (pc' := 215) D2_212 rfl ck_0_virtual_111 TE3 rfl (Nat.le_of_ble_eq_true rfl) ⟨Nat.le_of_ble_eq_true rfl, Nat.le_of_ble_eq_true rfl⟩ sc_62 ⟨rfl, by decide⟩ H89.1 (dp_0 hd rfl) (k3_62_20x E (dp_n hd rfl) H89 place (by omega)) ?_
            intro v92 M93 q98
            obtain ⟨H94, f95, q96, q97⟩ := q98
            have f99 := f91.tr (f95.up rfl)
            refine r_i2l (pc' := 216) D2_215 rfl (by unfold inR; omega) ?_
            refine r_normL ?_
            intro z100 r101 _; unfold inJ at r101
            refine r_last (pc' := 217) D2_216 rfl sc_64 H94 (by omega) (by unfold inJ; omega) trivial ?_
            intro M102 u103 H104 p105
            have f106 := f99.wr u103 rfl
            refine s_blx (lv' := [(6, vI z16), (5, vI (-1)), (4, vI v4), (0, vR 62), (1, vR 20), (2, vI place), (3, vI second)]) (st' := [vR 62]) B2_217_218 rfl ?_
            refine r_gfix (r := 64) (pc' := 221) D2_218 rfl gf_0_28_62 H104.1 ?_
            refine s_blx (lv' := [(6, vI z16), (5, vI (-1)), (4, vI v4), (0, vR 62), (1, vR 20), (2, vI place), (3, vI second)]) (st' := [vR 20, vI 10, vR 64]) B2_221_224 rfl ?_
            refine r_gfix (r := 24) (pc' := 227) D2_224 rfl gf_0_115_20 H104.1 ?_
            refine s_blx (lv' := [(6, vI z16), (5, vI (-1)), (4, vI v4), (0, vR 62), (1, vR 20), (2, vI place), (3, vI second)]) (st' := [vI place, vR 24, vI 10, vR 64]) B2_227_228 rfl ?_
            refine r_iald (pc' := 229) D2_228 rfl sc_24 H104.1 (by omega) ?_
            intro w107 e108 r109
            unfold inR at r109
            refine r_i2l (pc' := 230) D2_229 rfl (by unfold inR; omega) ?_
            refine r_normL ?_
            intro z110 r111 _; unfold inJ at r111
            refine r_last (pc' := 231) D2_230 rfl sc_64 H104 (by omega) (by unfold inJ; omega) trivial ?_
            intro M112 u113 H114 p115
            have f116 := f106.wr u113 rfl
            have g117 : gi M112 62 5 = gi M93 62 5 := (u113.gi_ne (by decide) (Or.inl (by decide))).trans ((u103.gi_ne (by decide) (Or.inl (by decide))).trans (rfl))
            have g118 : gi M112 64 0 = 0 := (u113.gi_ne (by decide) (Or.inr (by decide))).trans ((u103.gi_ne (by decide) (Or.inr (by decide))).trans ((f95.g rfl).trans ((u88.gi_ne (by decide) (Or.inr (by decide))).trans ((u78.gi_ne (by decide) (Or.inr (by decide))).trans ((u71.gi_ne (by decide) (Or.inr (by decide))).trans ((u65.gi_ne (by decide) (Or.inr (by decide))).trans ((u59.gi_ne (by decide) (Or.inr (by decide))).trans ((u52.gi_ne (by decide) (Or.inr (by decide))).trans ((u42.gi_ne (by decide) (Or.inr (by decide))).trans ((u31.gi_ne (by decide) (Or.inr (by decide))).trans (p24)))))))))))
            exact r_retV D2_231 rfl (⟨H114, f116, by rw [g117]; omega, by rw [g118]; omega⟩)
      · refine s_blx (lv' := [(6, vI z16), (5, vI (-1)), (4, vI v4), (0, vR 62), (1, vR 20), (2, vI place), (3, vI second)]) (st' := [vL 1, vI 1, vR 64]) B2_82_83 rfl ?_
        refine r_goto (tgt := 87) D2_83 rfl ?_
        refine r_last (pc' := 88) D2_87 rfl sc_64 H23 (by omega) (by unfold inJ; omega) trivial ?_
        intro M119 u120 H121 p122
        have f123 := f25.wr u120 rfl
        refine s_blx (lv' := [(6, vI z16), (5, vI (-1)), (4, vI v4), (0, vR 62), (1, vR 20), (2, vI place), (3, vI second)]) (st' := [vR 62]) B2_88_89 rfl ?_
        refine r_gfix (r := 64) (pc' := 92) D2_89 rfl gf_0_28_62 H121.1 ?_
        refine s_blx (lv' := [(6, vI z16), (5, vI (-1)), (4, vI v4), (0, vR 62), (1, vR 20), (2, vI place), (3, vI second)]) (st' := [vI v4, vI place, vR 20, vI 2, vR 64]) B2_92_97 rfl ?_
        refine r_vIp (c := 20) (args := [vI place, vI v4]) (rest := [vI 2, vR 64]) (pc' := 100) D2_97 rfl ck_0_virtual_91 TE90 rfl (Nat.le_of_ble_eq_true rfl) ⟨Nat.le_of_ble_eq_true rfl, Nat.le_of_ble_eq_true rfl⟩ sc_20 ⟨rfl, by decide⟩ H121.1 (dp_0 hd rfl) (k90_20 E (dp_n hd rfl) H121 place v4 (by omega) (by omega)) ?_
        intro v124 q127
        have q126 := q127; clear q127
        refine r_i2l (pc' := 101) D2_100 rfl (by unfold inR; omega) ?_
        refine r_normL ?_
        intro z128 r129 _; unfold inJ at r129
        refine r_last (pc' := 102) D2_101 rfl sc_64 H121 (by omega) (by unfold inJ; omega) trivial ?_
        intro M130 u131 H132 p133
        have f134 := f123.wr u131 rfl
        refine s_blx (lv' := [(6, vI z16), (5, vI (-1)), (4, vI v4), (0, vR 62), (1, vR 20), (2, vI place), (3, vI second)]) (st' := [vR 62]) B2_102_103 rfl ?_
        refine r_gfix (r := 64) (pc' := 106) D2_103 rfl gf_0_28_62 H132.1 ?_
        refine s_blx (lv' := [(6, vI z16), (5, vI (-1)), (4, vI v4), (0, vR 62), (1, vR 20), (2, vI place), (3, vI second)]) (st' := [vR 20, vI 3, vR 64]) B2_106_108 rfl ?_
        refine r_gfix (r := 34) (pc' := 111) D2_108 rfl gf_0_94_20 H132.1 ?_
        refine s_blx (lv' := [(6, vI z16), (5, vI (-1)), (4, vI v4), (0, vR 62), (1, vR 20), (2, vI place), (3, vI second)]) (st' := [vI 0, vR 34, vI 3, vR 64]) B2_111_112 rfl ?_
        refine r_iald (pc' := 113) D2_112 rfl sc_34 H132.1 (by omega) ?_
        intro w135 e136 r137
        have b_w135 := H132.2 34 (0) 0 1000 rfl
        rw [← e136] at b_w135; clear r137
        refine r_i2l (pc' := 114) D2_113 rfl (by unfold inR; omega) ?_
        refine r_normL ?_
        intro z138 r139 _; unfold inJ at r139
        refine r_last (pc' := 115) D2_114 rfl sc_64 H132 (by omega) (by unfold inJ; omega) trivial ?_
        intro M140 u141 H142 p143
        have f144 := f134.wr u141 rfl
        refine s_blx (lv' := [(6, vI z16), (5, vI (-1)), (4, vI v4), (0, vR 62), (1, vR 20), (2, vI place), (3, vI second)]) (st' := [vR 62]) B2_115_116 rfl ?_
        refine r_gfix (r := 64) (pc' := 119) D2_116 rfl gf_0_28_62 H142.1 ?_
        refine s_blx (lv' := [(6, vI z16), (5, vI (-1)), (4, vI v4), (0, vR 62), (1, vR 20), (2, vI place), (3, vI second)]) (st' := [vI v4, vI 4, vR 64]) B2_119_122 rfl ?_
        refine r_i2l (pc' := 123) D2_122 rfl (by unfold inR; omega) ?_
        refine r_normL ?_
        intro z145 r146 _; unfold inJ at r146
        refine r_last (pc' := 124) D2_123 rfl sc_64 H142 (by omega) (by unfold inJ; omega) trivial ?_
        intro M147 u148 H149 p150
        have f151 := f144.wr u148 rfl
        refine s_blx (lv' := [(6, vI z16), (5, vI (-1)), (4, vI v4), (0, vR 62), (1, vR 20), (2, vI place), (3, vI second)]) (st' := [vR 62]) B2_124_125 rfl ?_
        refine r_gfix (r := 64) (pc' := 128) D2_125 rfl gf_0_28_62 H149.1 ?_
        refine s_blx (lv' := [(6, vI z16), (5, vI (-1)), (4, vI v4), (0, vR 62), (1, vR 20), (2, vI place), (3, vI second)]) (st' := [vI (-1), vI (-1), vI 5, vR 64]) B2_128_132 rfl ?_
        refine r_icmp (tgt := 139) (pc' := 135) D2_132 rfl rfl (by unfold inR; omega) (fun (c152 : (-1) ≠ (-1)) => ?_) (fun (c152 : ¬ ((-1) ≠ (-1))) => ?_)
        · exfalso; omega
        · refine s_blx (lv' := [(6, vI z16), (5, vI (-1)), (4, vI v4), (0, vR 62), (1, vR 20), (2, vI place), (3, vI second)]) (st' := [vL 0, vI 5, vR 64]) B2_135_136 rfl ?_
          refine r_goto (tgt := 153) D2_136 rfl ?_
          refine r_last (pc' := 154) D2_153 rfl sc_64 H149 (by omega) (by unfold inJ; omega) trivial ?_
          intro M153 u154 H155 p156
          have f157 := f151.wr u154 rfl
          refine s_blx (lv' := [(6, vI z16), (5, vI (-1)), (4, vI v4), (0, vR 62), (1, vR 20), (2, vI place), (3, vI second)]) (st' := [vR 62]) B2_154_155 rfl ?_
          refine r_gfix (r := 64) (pc' := 158) D2_155 rfl gf_0_28_62 H155.1 ?_
          refine s_blx (lv' := [(6, vI z16), (5, vI (-1)), (4, vI v4), (0, vR 62), (1, vR 20), (2, vI place), (3, vI second)]) (st' := [vI (-1), vI (-1), vI 6, vR 64]) B2_158_163 rfl ?_
          refine r_icmp (tgt := 170) (pc' := 166) D2_163 rfl rfl (by unfold inR; omega) (fun (c158 : (-1) ≠ (-1)) => ?_) (fun (c158 : ¬ ((-1) ≠ (-1))) => ?_)
          · exfalso; omega
          · refine s_blx (lv' := [(6, vI z16), (5, vI (-1)), (4, vI v4), (0, vR 62), (1, vR 20), (2, vI place), (3, vI second)]) (st' := [vL 0, vI 6, vR 64]) B2_166_167 rfl ?_
            refine r_goto (tgt := 181) D2_167 rfl ?_
            refine r_last (pc' := 182) D2_181 rfl sc_64 H155 (by omega) (by unfold inJ; omega) trivial ?_
            intro M159 u160 H161 p162
            have f163 := f157.wr u160 rfl
            refine s_blx (lv' := [(6, vI z16), (5, vI (-1)), (4, vI v4), (0, vR 62), (1, vR 20), (2, vI place), (3, vI second)]) (st' := [vR 62]) B2_182_183 rfl ?_
            refine r_gfix (r := 64) (pc' := 186) D2_183 rfl gf_0_28_62 H161.1 ?_
            refine s_blx (lv' := [(6, vI z16), (5, vI (-1)), (4, vI v4), (0, vR 62), (1, vR 20), (2, vI place), (3, vI second)]) (st' := [vI second, vI 7, vR 64]) B2_186_189 rfl ?_
            refine r_i2l (pc' := 190) D2_189 rfl (by unfold inR; omega) ?_
            refine r_normL ?_
            intro z164 r165 _; unfold inJ at r165
            refine r_last (pc' := 191) D2_190 rfl sc_64 H161 (by omega) (by unfold inJ; omega) trivial ?_
            intro M166 u167 H168 p169
            have f170 := f163.wr u167 rfl
            refine s_blx (lv' := [(6, vI z16), (5, vI (-1)), (4, vI v4), (0, vR 62), (1, vR 20), (2, vI place), (3, vI second)]) (st' := [vR 62]) B2_191_192 rfl ?_
            refine r_gfix (r := 64) (pc' := 195) D2_192 rfl gf_0_28_62 H168.1 ?_
            refine s_blx (lv' := [(6, vI z16), (5, vI (-1)), (4, vI v4), (0, vR 62), (1, vR 20), (2, vI place), (3, vI second)]) (st' := [vR 20, vI 8, vR 64]) B2_195_198 rfl ?_
            refine r_gint (ki := 17) (pc' := 201) D2_198 rfl gf_0_108_20 rfl H168.1 ?_
            intro w171 e172 r173
            have b_w171 := H168.2 20 (17) 0 3 rfl
            rw [← e172] at b_w171; clear r173
            refine r_i2l (pc' := 202) D2_201 rfl (by unfold inR; omega) ?_
            refine r_normL ?_
            intro z174 r175 _; unfold inJ at r175
            refine r_last (pc' := 203) D2_202 rfl sc_64 H168 (by omega) (by unfold inJ; omega) trivial ?_
            intro M176 u177 H178 p179
            have f180 := f170.wr u177 rfl
            refine s_blx (lv' := [(6, vI z16), (5, vI (-1)), (4, vI v4), (0, vR 62), (1, vR 20), (2, vI place), (3, vI second)]) (st' := [vR 62]) B2_203_204 rfl ?_
            refine r_gfix (r := 64) (pc' := 207) D2_204 rfl gf_0_28_62 H178.1 ?_
            refine s_blx (lv' := [(6, vI z16), (5, vI (-1)), (4, vI v4), (0, vR 62), (1, vR 20), (2, vI place), (3, vI second)]) (st' := [vI place, vR 20, vR 62, vI 9, vR 64]) B2_207_212 rfl ?_
            refine r_vI (c := 62) (args := [vR 20, vI place]) (rest := [vI 9, vR 64]) (pc' := 215) D2_212 rfl ck_0_virtual_111 TE3 rfl (Nat.le_of_ble_eq_true rfl) ⟨Nat.le_of_ble_eq_true rfl, Nat.le_of_ble_eq_true rfl⟩ sc_62 ⟨rfl, by decide⟩ H178.1 (dp_0 hd rfl) (k3_62_20x E (dp_n hd rfl) H178 place (by omega)) ?_
            intro v181 M182 q187
            obtain ⟨H183, f184, q185, q186⟩ := q187
            have f188 := f180.tr (f184.up rfl)
            refine r_i2l (pc' := 216) D2_215 rfl (by unfold inR; omega) ?_
            refine r_normL ?_
            intro z189 r190 _; unfold inJ at r190
            refine r_last (pc' := 217) D2_216 rfl sc_64 H183 (by omega) (by unfold inJ; omega) trivial ?_
            intro M191 u192 H193 p194
            have f195 := f188.wr u192 rfl
            refine s_blx (lv' := [(6, vI z16), (5, vI (-1)), (4, vI v4), (0, vR 62), (1, vR 20), (2, vI place), (3, vI second)]) (st' := [vR 62]) B2_217_218 rfl ?_
            refine r_gfix (r := 64) (pc' := 221) D2_218 rfl gf_0_28_62 H193.1 ?_
            refine s_blx (lv' := [(6, vI z16), (5, vI (-1)), (4, vI v4), (0, vR 62), (1, vR 20), (2, vI place), (3, vI second)]) (st' := [vR 20, vI 10, vR 64]) B2_221_224 rfl ?_
            refine r_gfix (r := 24) (pc' := 227) D2_224 rfl gf_0_115_20 H193.1 ?_
            refine s_blx (lv' := [(6, vI z16), (5, vI (-1)), (4, vI v4), (0, vR 62), (1, vR 20), (2, vI place), (3, vI second)]) (st' := [vI place, vR 24, vI 10, vR 64]) B2_227_228 rfl ?_
            refine r_iald (pc' := 229) D2_228 rfl sc_24 H193.1 (by omega) ?_
            intro w196 e197 r198
            unfold inR at r198
            refine r_i2l (pc' := 230) D2_229 rfl (by unfold inR; omega) ?_
            refine r_normL ?_
            intro z199 r200 _; unfold inJ at r200
            refine r_last (pc' := 231) D2_230 rfl sc_64 H193 (by omega) (by unfold inJ; omega) trivial ?_
            intro M201 u202 H203 p204
            have f205 := f195.wr u202 rfl
            have g206 : gi M201 62 5 = gi M182 62 5 := (u202.gi_ne (by decide) (Or.inl (by decide))).trans ((u192.gi_ne (by decide) (Or.inl (by decide))).trans (rfl))
            have g207 : gi M201 64 0 = 0 := (u202.gi_ne (by decide) (Or.inr (by decide))).trans ((u192.gi_ne (by decide) (Or.inr (by decide))).trans ((f184.g rfl).trans ((u177.gi_ne (by decide) (Or.inr (by decide))).trans ((u167.gi_ne (by decide) (Or.inr (by decide))).trans ((u160.gi_ne (by decide) (Or.inr (by decide))).trans ((u154.gi_ne (by decide) (Or.inr (by decide))).trans ((u148.gi_ne (by decide) (Or.inr (by decide))).trans ((u141.gi_ne (by decide) (Or.inr (by decide))).trans ((u131.gi_ne (by decide) (Or.inr (by decide))).trans ((u120.gi_ne (by decide) (Or.inr (by decide))).trans (p24)))))))))))
            exact r_retV D2_231 rfl (⟨H203, f205, by rw [g206]; omega, by rw [g207]; omega⟩)
    · exfalso; omega
  · refine s_blx (lv' := [(4, vI v4), (0, vR 62), (1, vR 20), (2, vI place), (3, vI second)]) (st' := [vI v4, vI place, vR 20]) B2_15_19 rfl ?_
    refine r_vIp (c := 20) (args := [vI place, vI v4]) (rest := []) (pc' := 22) D2_19 rfl ck_0_virtual_73 TE85 rfl (Nat.le_of_ble_eq_true rfl) ⟨Nat.le_of_ble_eq_true rfl, Nat.le_of_ble_eq_true rfl⟩ sc_20 ⟨rfl, by decide⟩ H.1 (dp_0 hd rfl) (k85_20 E (dp_n hd rfl) H place v4 (by omega) (by omega)) ?_
    intro v208 q211
    have q210 := q211; clear q211
    refine r_goto (tgt := 26) D2_22 rfl ?_
    refine s_blx (lv' := [(5, vI v208), (4, vI v4), (0, vR 62), (1, vR 20), (2, vI place), (3, vI second)]) (st' := [vR 20]) B2_26_29 rfl ?_
    refine r_gfix (r := 23) (pc' := 32) D2_29 rfl gf_0_76_20 H.1 ?_
    refine s_blx (lv' := [(5, vI v208), (4, vI v4), (0, vR 62), (1, vR 20), (2, vI place), (3, vI second)]) (st' := [vI place, vR 23]) B2_32_33 rfl ?_
    refine r_iald (pc' := 34) D2_33 rfl sc_23 H.1 (by omega) ?_
    intro w212 e213 r214
    unfold inR at r214
    refine s_blx (lv' := [(5, vI v208), (4, vI v4), (0, vR 62), (1, vR 20), (2, vI place), (3, vI second)]) (st' := [vI 1, vI w212]) B2_34_35 rfl ?_
    refine r_max (pc' := 38) D2_35 rfl mc_0_static_79 sp_0_79 (Nat.le_of_ble_eq_true rfl) (by unfold inR; omega) ?_
    intro z215 r216 r217 r218
    refine s_blx (lv' := [(6, vI z215), (5, vI v208), (4, vI v4), (0, vR 62), (1, vR 20), (2, vI place), (3, vI second)]) (st' := [vR 62]) B2_38_41 rfl ?_
    refine r_gfix (r := 64) (pc' := 44) D2_41 rfl gf_0_28_62 H.1 ?_
    refine s_blx (lv' := [(6, vI z215), (5, vI v208), (4, vI v4), (0, vR 62), (1, vR 20), (2, vI place), (3, vI second)]) (st' := [vI (-1), vI v208, vI 0, vR 64]) B2_44_48 rfl ?_
    refine r_icmp (tgt := 66) (pc' := 51) D2_48 rfl rfl (by unfold inR; omega) (fun (c219 : v208 = (-1)) => ?_) (fun (c219 : ¬ (v208 = (-1))) => ?_)
    · exfalso; omega
    · refine s_blx (lv' := [(6, vI z215), (5, vI v208), (4, vI v4), (0, vR 62), (1, vR 20), (2, vI place), (3, vI second)]) (st' := [vR 20, vI 0, vR 64]) B2_51_52 rfl ?_
      refine r_gfix (r := 28) (pc' := 55) D2_52 rfl gf_0_84_20 H.1 ?_
      refine s_blx (lv' := [(6, vI z215), (5, vI v208), (4, vI v4), (0, vR 62), (1, vR 20), (2, vI place), (3, vI second)]) (st' := [vI v208, vR 28, vI 0, vR 64]) B2_55_57 rfl ?_
      refine r_iald (pc' := 58) D2_57 rfl sc_28 H.1 (by omega) ?_
      intro w220 e221 r222
      have b_w220 := H.2 28 (v208) (-1) 7 rfl
      rw [← e221] at b_w220; clear r222
      refine s_blx (lv' := [(6, vI z215), (5, vI v208), (4, vI v4), (0, vR 62), (1, vR 20), (2, vI place), (3, vI second)]) (st' := [vI (-1), vI w220, vI 0, vR 64]) B2_58_59 rfl ?_
      refine r_icmp (tgt := 66) (pc' := 62) D2_59 rfl rfl (by unfold inR; omega) (fun (c223 : w220 = (-1)) => ?_) (fun (c223 : ¬ (w220 = (-1))) => ?_)
      · refine s_blx (lv' := [(6, vI z215), (5, vI v208), (4, vI v4), (0, vR 62), (1, vR 20), (2, vI place), (3, vI second)]) (st' := [vL 0, vI 0, vR 64]) B2_66_67 rfl ?_
        refine r_last (pc' := 68) D2_67 rfl sc_64 H (by omega) (by unfold inJ; omega) trivial ?_
        intro M224 u225 H226 p227
        have f228 := f0.wr u225 rfl
        refine s_blx (lv' := [(6, vI z215), (5, vI v208), (4, vI v4), (0, vR 62), (1, vR 20), (2, vI place), (3, vI second)]) (st' := [vR 62]) B2_68_69 rfl ?_
        refine r_gfix (r := 64) (pc' := 72) D2_69 rfl gf_0_28_62 H226.1 ?_
        refine s_blx (lv' := [(6, vI z215), (5, vI v208), (4, vI v4), (0, vR 62), (1, vR 20), (2, vI place), (3, vI second)]) (st' := [vR 20, vI 1, vR 64]) B2_72_74 rfl ?_
        refine r_gfix (r := 25) (pc' := 77) D2_74 rfl gf_0_87_20 H226.1 ?_
        refine s_blx (lv' := [(6, vI z215), (5, vI v208), (4, vI v4), (0, vR 62), (1, vR 20), (2, vI place), (3, vI second)]) (st' := [vI place, vR 25, vI 1, vR 64]) B2_77_78 rfl ?_
        refine r_bald (pc' := 79) D2_78 rfl sc_25 (by decide) H226.1 (by omega) ?_
        intro w229 e230 r231
        have b_w229 := H226.2 25 (place) 0 1 rfl
        rw [← e230] at b_w229; clear r231
        refine r_ifc (tgt := 86) (pc' := 82) D2_79 rfl rfl (by unfold inR; omega) (fun (c232 : w229 = 0) => ?_) (fun (c232 : ¬ (w229 = 0)) => ?_)
        · refine s_blx (lv' := [(6, vI z215), (5, vI v208), (4, vI v4), (0, vR 62), (1, vR 20), (2, vI place), (3, vI second)]) (st' := [vL 0, vI 1, vR 64]) B2_86_87 rfl ?_
          refine r_last (pc' := 88) D2_87 rfl sc_64 H226 (by omega) (by unfold inJ; omega) trivial ?_
          intro M233 u234 H235 p236
          have f237 := f228.wr u234 rfl
          refine s_blx (lv' := [(6, vI z215), (5, vI v208), (4, vI v4), (0, vR 62), (1, vR 20), (2, vI place), (3, vI second)]) (st' := [vR 62]) B2_88_89 rfl ?_
          refine r_gfix (r := 64) (pc' := 92) D2_89 rfl gf_0_28_62 H235.1 ?_
          refine s_blx (lv' := [(6, vI z215), (5, vI v208), (4, vI v4), (0, vR 62), (1, vR 20), (2, vI place), (3, vI second)]) (st' := [vI v4, vI place, vR 20, vI 2, vR 64]) B2_92_97 rfl ?_
          refine r_vIp (c := 20) (args := [vI place, vI v4]) (rest := [vI 2, vR 64]) (pc' := 100) D2_97 rfl ck_0_virtual_91 TE90 rfl (Nat.le_of_ble_eq_true rfl) ⟨Nat.le_of_ble_eq_true rfl, Nat.le_of_ble_eq_true rfl⟩ sc_20 ⟨rfl, by decide⟩ H235.1 (dp_0 hd rfl) (k90_20 E (dp_n hd rfl) H235 place v4 (by omega) (by omega)) ?_
          intro v238 q241
          have q240 := q241; clear q241
          refine r_i2l (pc' := 101) D2_100 rfl (by unfold inR; omega) ?_
          refine r_normL ?_
          intro z242 r243 _; unfold inJ at r243
          refine r_last (pc' := 102) D2_101 rfl sc_64 H235 (by omega) (by unfold inJ; omega) trivial ?_
          intro M244 u245 H246 p247
          have f248 := f237.wr u245 rfl
          refine s_blx (lv' := [(6, vI z215), (5, vI v208), (4, vI v4), (0, vR 62), (1, vR 20), (2, vI place), (3, vI second)]) (st' := [vR 62]) B2_102_103 rfl ?_
          refine r_gfix (r := 64) (pc' := 106) D2_103 rfl gf_0_28_62 H246.1 ?_
          refine s_blx (lv' := [(6, vI z215), (5, vI v208), (4, vI v4), (0, vR 62), (1, vR 20), (2, vI place), (3, vI second)]) (st' := [vR 20, vI 3, vR 64]) B2_106_108 rfl ?_
          refine r_gfix (r := 34) (pc' := 111) D2_108 rfl gf_0_94_20 H246.1 ?_
          refine s_blx (lv' := [(6, vI z215), (5, vI v208), (4, vI v4), (0, vR 62), (1, vR 20), (2, vI place), (3, vI second)]) (st' := [vI 0, vR 34, vI 3, vR 64]) B2_111_112 rfl ?_
          refine r_iald (pc' := 113) D2_112 rfl sc_34 H246.1 (by omega) ?_
          intro w249 e250 r251
          have b_w249 := H246.2 34 (0) 0 1000 rfl
          rw [← e250] at b_w249; clear r251
          refine r_i2l (pc' := 114) D2_113 rfl (by unfold inR; omega) ?_
          refine r_normL ?_
          intro z252 r253 _; unfold inJ at r253
          refine r_last (pc' := 115) D2_114 rfl sc_64 H246 (by omega) (by unfold inJ; omega) trivial ?_
          intro M254 u255 H256 p257
          have f258 := f248.wr u255 rfl
          refine s_blx (lv' := [(6, vI z215), (5, vI v208), (4, vI v4), (0, vR 62), (1, vR 20), (2, vI place), (3, vI second)]) (st' := [vR 62]) B2_115_116 rfl ?_
          refine r_gfix (r := 64) (pc' := 119) D2_116 rfl gf_0_28_62 H256.1 ?_
          refine s_blx (lv' := [(6, vI z215), (5, vI v208), (4, vI v4), (0, vR 62), (1, vR 20), (2, vI place), (3, vI second)]) (st' := [vI v4, vI 4, vR 64]) B2_119_122 rfl ?_
          refine r_i2l (pc' := 123) D2_122 rfl (by unfold inR; omega) ?_
          refine r_normL ?_
          intro z259 r260 _; unfold inJ at r260
          refine r_last (pc' := 124) D2_123 rfl sc_64 H256 (by omega) (by unfold inJ; omega) trivial ?_
          intro M261 u262 H263 p264
          have f265 := f258.wr u262 rfl
          refine s_blx (lv' := [(6, vI z215), (5, vI v208), (4, vI v4), (0, vR 62), (1, vR 20), (2, vI place), (3, vI second)]) (st' := [vR 62]) B2_124_125 rfl ?_
          refine r_gfix (r := 64) (pc' := 128) D2_125 rfl gf_0_28_62 H263.1 ?_
          refine s_blx (lv' := [(6, vI z215), (5, vI v208), (4, vI v4), (0, vR 62), (1, vR 20), (2, vI place), (3, vI second)]) (st' := [vI (-1), vI v208, vI 5, vR 64]) B2_128_132 rfl ?_
          refine r_icmp (tgt := 139) (pc' := 135) D2_132 rfl rfl (by unfold inR; omega) (fun (c266 : v208 ≠ (-1)) => ?_) (fun (c266 : ¬ (v208 ≠ (-1))) => ?_)
          · refine s_blx (lv' := [(6, vI z215), (5, vI v208), (4, vI v4), (0, vR 62), (1, vR 20), (2, vI place), (3, vI second)]) (st' := [vR 20, vI 5, vR 64]) B2_139_140 rfl ?_
            refine r_gfix (r := 30) (pc' := 143) D2_140 rfl gf_0_97_20 H263.1 ?_
            refine s_blx (lv' := [(6, vI z215), (5, vI v208), (4, vI v4), (0, vR 62), (1, vR 20), (2, vI place), (3, vI second)]) (st' := [vI v208, vR 30, vI 5, vR 64]) B2_143_145 rfl ?_
            refine r_iald (pc' := 146) D2_145 rfl sc_30 H263.1 (by omega) ?_
            intro w267 e268 r269
            unfold inR at r269
            refine s_blx (lv' := [(6, vI z215), (5, vI v208), (4, vI v4), (0, vR 62), (1, vR 20), (2, vI place), (3, vI second)]) (st' := [vI z215, vI (w267 * 100), vI 5, vR 64]) B2_146_151 rfl ?_
            refine r_idivX (pc' := 152) D2_151 rfl (by unfold inR; omega) ?_
            intro z270 r271; unfold inR at r271
            refine r_i2l (pc' := 153) D2_152 rfl (by unfold inR; omega) ?_
            refine r_normL ?_
            intro z272 r273 _; unfold inJ at r273
            refine r_last (pc' := 154) D2_153 rfl sc_64 H263 (by omega) (by unfold inJ; omega) trivial ?_
            intro M274 u275 H276 p277
            have f278 := f265.wr u275 rfl
            refine s_blx (lv' := [(6, vI z215), (5, vI v208), (4, vI v4), (0, vR 62), (1, vR 20), (2, vI place), (3, vI second)]) (st' := [vR 62]) B2_154_155 rfl ?_
            refine r_gfix (r := 64) (pc' := 158) D2_155 rfl gf_0_28_62 H276.1 ?_
            refine s_blx (lv' := [(6, vI z215), (5, vI v208), (4, vI v4), (0, vR 62), (1, vR 20), (2, vI place), (3, vI second)]) (st' := [vI (-1), vI v208, vI 6, vR 64]) B2_158_163 rfl ?_
            refine r_icmp (tgt := 170) (pc' := 166) D2_163 rfl rfl (by unfold inR; omega) (fun (c279 : v208 ≠ (-1)) => ?_) (fun (c279 : ¬ (v208 ≠ (-1))) => ?_)
            · refine s_blx (lv' := [(6, vI z215), (5, vI v208), (4, vI v4), (0, vR 62), (1, vR 20), (2, vI place), (3, vI second)]) (st' := [vR 20, vI 6, vR 64]) B2_170_171 rfl ?_
              refine r_gfix (r := 27) (pc' := 174) D2_171 rfl gf_0_100_20 H276.1 ?_
              refine s_blx (lv' := [(6, vI z215), (5, vI v208), (4, vI v4), (0, vR 62), (1, vR 20), (2, vI place), (3, vI second)]) (st' := [vI v208, vR 27, vI 6, vR 64]) B2_174_176 rfl ?_
              refine r_iald (pc' := 177) D2_176 rfl sc_27 H276.1 (by omega) ?_
              intro w280 e281 r282
              unfold inR at r282
              refine r_sIp (args := [vI w280]) (rest := [vI 6, vR 64]) (pc' := 180) D2_177 rfl ck_0_static_103 TE267 rfl (Nat.le_of_ble_eq_true rfl) ⟨Nat.le_of_ble_eq_true rfl, Nat.le_of_ble_eq_true rfl⟩ (by decide) (dp_0 hd rfl) (k267 E (dp_n hd rfl) H276 w280 (by omega)) ?_
              intro v283 q286
              have q285 := q286; clear q286
              refine r_i2l (pc' := 181) D2_180 rfl (by unfold inR; omega) ?_
              refine r_normL ?_
              intro z287 r288 _; unfold inJ at r288
              refine r_last (pc' := 182) D2_181 rfl sc_64 H276 (by omega) (by unfold inJ; omega) trivial ?_
              intro M289 u290 H291 p292
              have f293 := f278.wr u290 rfl
              refine s_blx (lv' := [(6, vI z215), (5, vI v208), (4, vI v4), (0, vR 62), (1, vR 20), (2, vI place), (3, vI second)]) (st' := [vR 62]) B2_182_183 rfl ?_
              refine r_gfix (r := 64) (pc' := 186) D2_183 rfl gf_0_28_62 H291.1 ?_
              refine s_blx (lv' := [(6, vI z215), (5, vI v208), (4, vI v4), (0, vR 62), (1, vR 20), (2, vI place), (3, vI second)]) (st' := [vI second, vI 7, vR 64]) B2_186_189 rfl ?_
              refine r_i2l (pc' := 190) D2_189 rfl (by unfold inR; omega) ?_
              refine r_normL ?_
              intro z294 r295 _; unfold inJ at r295
              refine r_last (pc' := 191) D2_190 rfl sc_64 H291 (by omega) (by unfold inJ; omega) trivial ?_
              intro M296 u297 H298 p299
              have f300 := f293.wr u297 rfl
              refine s_blx (lv' := [(6, vI z215), (5, vI v208), (4, vI v4), (0, vR 62), (1, vR 20), (2, vI place), (3, vI second)]) (st' := [vR 62]) B2_191_192 rfl ?_
              refine r_gfix (r := 64) (pc' := 195) D2_192 rfl gf_0_28_62 H298.1 ?_
              refine s_blx (lv' := [(6, vI z215), (5, vI v208), (4, vI v4), (0, vR 62), (1, vR 20), (2, vI place), (3, vI second)]) (st' := [vR 20, vI 8, vR 64]) B2_195_198 rfl ?_
              refine r_gint (ki := 17) (pc' := 201) D2_198 rfl gf_0_108_20 rfl H298.1 ?_
              intro w301 e302 r303
              have b_w301 := H298.2 20 (17) 0 3 rfl
              rw [← e302] at b_w301; clear r303
              refine r_i2l (pc' := 202) D2_201 rfl (by unfold inR; omega) ?_
              refine r_normL ?_
              intro z304 r305 _; unfold inJ at r305
              refine r_last (pc' := 203) D2_202 rfl sc_64 H298 (by omega) (by unfold inJ; omega) trivial ?_
              intro M306 u307 H308 p309
              have f310 := f300.wr u307 rfl
              refine s_blx (lv' := [(6, vI z215), (5, vI v208), (4, vI v4), (0, vR 62), (1, vR 20), (2, vI place), (3, vI second)]) (st' := [vR 62]) B2_203_204 rfl ?_
              refine r_gfix (r := 64) (pc' := 207) D2_204 rfl gf_0_28_62 H308.1 ?_
              refine s_blx (lv' := [(6, vI z215), (5, vI v208), (4, vI v4), (0, vR 62), (1, vR 20), (2, vI place), (3, vI second)]) (st' := [vI place, vR 20, vR 62, vI 9, vR 64]) B2_207_212 rfl ?_
              refine r_vI (c := 62) (args := [vR 20, vI place]) (rest := [vI 9, vR 64]) (pc' := 215) D2_212 rfl ck_0_virtual_111 TE3 rfl (Nat.le_of_ble_eq_true rfl) ⟨Nat.le_of_ble_eq_true rfl, Nat.le_of_ble_eq_true rfl⟩ sc_62 ⟨rfl, by decide⟩ H308.1 (dp_0 hd rfl) (k3_62_20x E (dp_n hd rfl) H308 place (by omega)) ?_
              intro v311 M312 q317
              obtain ⟨H313, f314, q315, q316⟩ := q317
              have f318 := f310.tr (f314.up rfl)
              refine r_i2l (pc' := 216) D2_215 rfl (by unfold inR; omega) ?_
              refine r_normL ?_
              intro z319 r320 _; unfold inJ at r320
              refine r_last (pc' := 217) D2_216 rfl sc_64 H313 (by omega) (by unfold inJ; omega) trivial ?_
              intro M321 u322 H323 p324
              have f325 := f318.wr u322 rfl
              refine s_blx (lv' := [(6, vI z215), (5, vI v208), (4, vI v4), (0, vR 62), (1, vR 20), (2, vI place), (3, vI second)]) (st' := [vR 62]) B2_217_218 rfl ?_
              refine r_gfix (r := 64) (pc' := 221) D2_218 rfl gf_0_28_62 H323.1 ?_
              refine s_blx (lv' := [(6, vI z215), (5, vI v208), (4, vI v4), (0, vR 62), (1, vR 20), (2, vI place), (3, vI second)]) (st' := [vR 20, vI 10, vR 64]) B2_221_224 rfl ?_
              refine r_gfix (r := 24) (pc' := 227) D2_224 rfl gf_0_115_20 H323.1 ?_
              refine s_blx (lv' := [(6, vI z215), (5, vI v208), (4, vI v4), (0, vR 62), (1, vR 20), (2, vI place), (3, vI second)]) (st' := [vI place, vR 24, vI 10, vR 64]) B2_227_228 rfl ?_
              refine r_iald (pc' := 229) D2_228 rfl sc_24 H323.1 (by omega) ?_
              intro w326 e327 r328
              unfold inR at r328
              refine r_i2l (pc' := 230) D2_229 rfl (by unfold inR; omega) ?_
              refine r_normL ?_
              intro z329 r330 _; unfold inJ at r330
              refine r_last (pc' := 231) D2_230 rfl sc_64 H323 (by omega) (by unfold inJ; omega) trivial ?_
              intro M331 u332 H333 p334
              have f335 := f325.wr u332 rfl
              have g336 : gi M331 62 5 = gi M312 62 5 := (u332.gi_ne (by decide) (Or.inl (by decide))).trans ((u322.gi_ne (by decide) (Or.inl (by decide))).trans (rfl))
              have g337 : gi M331 64 0 = 0 := (u332.gi_ne (by decide) (Or.inr (by decide))).trans ((u322.gi_ne (by decide) (Or.inr (by decide))).trans ((f314.g rfl).trans ((u307.gi_ne (by decide) (Or.inr (by decide))).trans ((u297.gi_ne (by decide) (Or.inr (by decide))).trans ((u290.gi_ne (by decide) (Or.inr (by decide))).trans ((u275.gi_ne (by decide) (Or.inr (by decide))).trans ((u262.gi_ne (by decide) (Or.inr (by decide))).trans ((u255.gi_ne (by decide) (Or.inr (by decide))).trans ((u245.gi_ne (by decide) (Or.inr (by decide))).trans ((u234.gi_ne (by decide) (Or.inr (by decide))).trans (p227)))))))))))
              exact r_retV D2_231 rfl (⟨H333, f335, by rw [g336]; omega, by rw [g337]; omega⟩)
            · exfalso; omega
          · exfalso; omega
        · refine s_blx (lv' := [(6, vI z215), (5, vI v208), (4, vI v4), (0, vR 62), (1, vR 20), (2, vI place), (3, vI second)]) (st' := [vL 1, vI 1, vR 64]) B2_82_83 rfl ?_
          refine r_goto (tgt := 87) D2_83 rfl ?_
          refine r_last (pc' := 88) D2_87 rfl sc_64 H226 (by omega) (by unfold inJ; omega) trivial ?_
          intro M338 u339 H340 p341
          have f342 := f228.wr u339 rfl
          refine s_blx (lv' := [(6, vI z215), (5, vI v208), (4, vI v4), (0, vR 62), (1, vR 20), (2, vI place), (3, vI second)]) (st' := [vR 62]) B2_88_89 rfl ?_
          refine r_gfix (r := 64) (pc' := 92) D2_89 rfl gf_0_28_62 H340.1 ?_
          refine s_blx (lv' := [(6, vI z215), (5, vI v208), (4, vI v4), (0, vR 62), (1, vR 20), (2, vI place), (3, vI second)]) (st' := [vI v4, vI place, vR 20, vI 2, vR 64]) B2_92_97 rfl ?_
          refine r_vIp (c := 20) (args := [vI place, vI v4]) (rest := [vI 2, vR 64]) (pc' := 100) D2_97 rfl ck_0_virtual_91 TE90 rfl (Nat.le_of_ble_eq_true rfl) ⟨Nat.le_of_ble_eq_true rfl, Nat.le_of_ble_eq_true rfl⟩ sc_20 ⟨rfl, by decide⟩ H340.1 (dp_0 hd rfl) (k90_20 E (dp_n hd rfl) H340 place v4 (by omega) (by omega)) ?_
          intro v343 q346
          have q345 := q346; clear q346
          refine r_i2l (pc' := 101) D2_100 rfl (by unfold inR; omega) ?_
          refine r_normL ?_
          intro z347 r348 _; unfold inJ at r348
          refine r_last (pc' := 102) D2_101 rfl sc_64 H340 (by omega) (by unfold inJ; omega) trivial ?_
          intro M349 u350 H351 p352
          have f353 := f342.wr u350 rfl
          refine s_blx (lv' := [(6, vI z215), (5, vI v208), (4, vI v4), (0, vR 62), (1, vR 20), (2, vI place), (3, vI second)]) (st' := [vR 62]) B2_102_103 rfl ?_
          refine r_gfix (r := 64) (pc' := 106) D2_103 rfl gf_0_28_62 H351.1 ?_
          refine s_blx (lv' := [(6, vI z215), (5, vI v208), (4, vI v4), (0, vR 62), (1, vR 20), (2, vI place), (3, vI second)]) (st' := [vR 20, vI 3, vR 64]) B2_106_108 rfl ?_
          refine r_gfix (r := 34) (pc' := 111) D2_108 rfl gf_0_94_20 H351.1 ?_
          refine s_blx (lv' := [(6, vI z215), (5, vI v208), (4, vI v4), (0, vR 62), (1, vR 20), (2, vI place), (3, vI second)]) (st' := [vI 0, vR 34, vI 3, vR 64]) B2_111_112 rfl ?_
          refine r_iald (pc' := 113) D2_112 rfl sc_34 H351.1 (by omega) ?_
          intro w354 e355 r356
          have b_w354 := H351.2 34 (0) 0 1000 rfl
          rw [← e355] at b_w354; clear r356
          refine r_i2l (pc' := 114) D2_113 rfl (by unfold inR; omega) ?_
          refine r_normL ?_
          intro z357 r358 _; unfold inJ at r358
          refine r_last (pc' := 115) D2_114 rfl sc_64 H351 (by omega) (by unfold inJ; omega) trivial ?_
          intro M359 u360 H361 p362
          have f363 := f353.wr u360 rfl
          refine s_blx (lv' := [(6, vI z215), (5, vI v208), (4, vI v4), (0, vR 62), (1, vR 20), (2, vI place), (3, vI second)]) (st' := [vR 62]) B2_115_116 rfl ?_
          refine r_gfix (r := 64) (pc' := 119) D2_116 rfl gf_0_28_62 H361.1 ?_
          refine s_blx (lv' := [(6, vI z215), (5, vI v208), (4, vI v4), (0, vR 62), (1, vR 20), (2, vI place), (3, vI second)]) (st' := [vI v4, vI 4, vR 64]) B2_119_122 rfl ?_
          refine r_i2l (pc' := 123) D2_122 rfl (by unfold inR; omega) ?_
          refine r_normL ?_
          intro z364 r365 _; unfold inJ at r365
          refine r_last (pc' := 124) D2_123 rfl sc_64 H361 (by omega) (by unfold inJ; omega) trivial ?_
          intro M366 u367 H368 p369
          have f370 := f363.wr u367 rfl
          refine s_blx (lv' := [(6, vI z215), (5, vI v208), (4, vI v4), (0, vR 62), (1, vR 20), (2, vI place), (3, vI second)]) (st' := [vR 62]) B2_124_125 rfl ?_
          refine r_gfix (r := 64) (pc' := 128) D2_125 rfl gf_0_28_62 H368.1 ?_
          refine s_blx (lv' := [(6, vI z215), (5, vI v208), (4, vI v4), (0, vR 62), (1, vR 20), (2, vI place), (3, vI second)]) (st' := [vI (-1), vI v208, vI 5, vR 64]) B2_128_132 rfl ?_
          refine r_icmp (tgt := 139) (pc' := 135) D2_132 rfl rfl (by unfold inR; omega) (fun (c371 : v208 ≠ (-1)) => ?_) (fun (c371 : ¬ (v208 ≠ (-1))) => ?_)
          · refine s_blx (lv' := [(6, vI z215), (5, vI v208), (4, vI v4), (0, vR 62), (1, vR 20), (2, vI place), (3, vI second)]) (st' := [vR 20, vI 5, vR 64]) B2_139_140 rfl ?_
            refine r_gfix (r := 30) (pc' := 143) D2_140 rfl gf_0_97_20 H368.1 ?_
            refine s_blx (lv' := [(6, vI z215), (5, vI v208), (4, vI v4), (0, vR 62), (1, vR 20), (2, vI place), (3, vI second)]) (st' := [vI v208, vR 30, vI 5, vR 64]) B2_143_145 rfl ?_
            refine r_iald (pc' := 146) D2_145 rfl sc_30 H368.1 (by omega) ?_
            intro w372 e373 r374
            unfold inR at r374
            refine s_blx (lv' := [(6, vI z215), (5, vI v208), (4, vI v4), (0, vR 62), (1, vR 20), (2, vI place), (3, vI second)]) (st' := [vI z215, vI (w372 * 100), vI 5, vR 64]) B2_146_151 rfl ?_
            refine r_idivX (pc' := 152) D2_151 rfl (by unfold inR; omega) ?_
            intro z375 r376; unfold inR at r376
            refine r_i2l (pc' := 153) D2_152 rfl (by unfold inR; omega) ?_
            refine r_normL ?_
            intro z377 r378 _; unfold inJ at r378
            refine r_last (pc' := 154) D2_153 rfl sc_64 H368 (by omega) (by unfold inJ; omega) trivial ?_
            intro M379 u380 H381 p382
            have f383 := f370.wr u380 rfl
            refine s_blx (lv' := [(6, vI z215), (5, vI v208), (4, vI v4), (0, vR 62), (1, vR 20), (2, vI place), (3, vI second)]) (st' := [vR 62]) B2_154_155 rfl ?_
            refine r_gfix (r := 64) (pc' := 158) D2_155 rfl gf_0_28_62 H381.1 ?_
            refine s_blx (lv' := [(6, vI z215), (5, vI v208), (4, vI v4), (0, vR 62), (1, vR 20), (2, vI place), (3, vI second)]) (st' := [vI (-1), vI v208, vI 6, vR 64]) B2_158_163 rfl ?_
            refine r_icmp (tgt := 170) (pc' := 166) D2_163 rfl rfl (by unfold inR; omega) (fun (c384 : v208 ≠ (-1)) => ?_) (fun (c384 : ¬ (v208 ≠ (-1))) => ?_)
            · refine s_blx (lv' := [(6, vI z215), (5, vI v208), (4, vI v4), (0, vR 62), (1, vR 20), (2, vI place), (3, vI second)]) (st' := [vR 20, vI 6, vR 64]) B2_170_171 rfl ?_
              refine r_gfix (r := 27) (pc' := 174) D2_171 rfl gf_0_100_20 H381.1 ?_
              refine s_blx (lv' := [(6, vI z215), (5, vI v208), (4, vI v4), (0, vR 62), (1, vR 20), (2, vI place), (3, vI second)]) (st' := [vI v208, vR 27, vI 6, vR 64]) B2_174_176 rfl ?_
              refine r_iald (pc' := 177) D2_176 rfl sc_27 H381.1 (by omega) ?_
              intro w385 e386 r387
              unfold inR at r387
              refine r_sIp (args := [vI w385]) (rest := [vI 6, vR 64]) (pc' := 180) D2_177 rfl ck_0_static_103 TE267 rfl (Nat.le_of_ble_eq_true rfl) ⟨Nat.le_of_ble_eq_true rfl, Nat.le_of_ble_eq_true rfl⟩ (by decide) (dp_0 hd rfl) (k267 E (dp_n hd rfl) H381 w385 (by omega)) ?_
              intro v388 q391
              have q390 := q391; clear q391
              refine r_i2l (pc' := 181) D2_180 rfl (by unfold inR; omega) ?_
              refine r_normL ?_
              intro z392 r393 _; unfold inJ at r393
              refine r_last (pc' := 182) D2_181 rfl sc_64 H381 (by omega) (by unfold inJ; omega) trivial ?_
              intro M394 u395 H396 p397
              have f398 := f383.wr u395 rfl
              refine s_blx (lv' := [(6, vI z215), (5, vI v208), (4, vI v4), (0, vR 62), (1, vR 20), (2, vI place), (3, vI second)]) (st' := [vR 62]) B2_182_183 rfl ?_
              refine r_gfix (r := 64) (pc' := 186) D2_183 rfl gf_0_28_62 H396.1 ?_
              refine s_blx (lv' := [(6, vI z215), (5, vI v208), (4, vI v4), (0, vR 62), (1, vR 20), (2, vI place), (3, vI second)]) (st' := [vI second, vI 7, vR 64]) B2_186_189 rfl ?_
              refine r_i2l (pc' := 190) D2_189 rfl (by unfold inR; omega) ?_
              refine r_normL ?_
              intro z399 r400 _; unfold inJ at r400
              refine r_last (pc' := 191) D2_190 rfl sc_64 H396 (by omega) (by unfold inJ; omega) trivial ?_
              intro M401 u402 H403 p404
              have f405 := f398.wr u402 rfl
              refine s_blx (lv' := [(6, vI z215), (5, vI v208), (4, vI v4), (0, vR 62), (1, vR 20), (2, vI place), (3, vI second)]) (st' := [vR 62]) B2_191_192 rfl ?_
              refine r_gfix (r := 64) (pc' := 195) D2_192 rfl gf_0_28_62 H403.1 ?_
              refine s_blx (lv' := [(6, vI z215), (5, vI v208), (4, vI v4), (0, vR 62), (1, vR 20), (2, vI place), (3, vI second)]) (st' := [vR 20, vI 8, vR 64]) B2_195_198 rfl ?_
              refine r_gint (ki := 17) (pc' := 201) D2_198 rfl gf_0_108_20 rfl H403.1 ?_
              intro w406 e407 r408
              have b_w406 := H403.2 20 (17) 0 3 rfl
              rw [← e407] at b_w406; clear r408
              refine r_i2l (pc' := 202) D2_201 rfl (by unfold inR; omega) ?_
              refine r_normL ?_
              intro z409 r410 _; unfold inJ at r410
              refine r_last (pc' := 203) D2_202 rfl sc_64 H403 (by omega) (by unfold inJ; omega) trivial ?_
              intro M411 u412 H413 p414
              have f415 := f405.wr u412 rfl
              refine s_blx (lv' := [(6, vI z215), (5, vI v208), (4, vI v4), (0, vR 62), (1, vR 20), (2, vI place), (3, vI second)]) (st' := [vR 62]) B2_203_204 rfl ?_
              refine r_gfix (r := 64) (pc' := 207) D2_204 rfl gf_0_28_62 H413.1 ?_
              refine s_blx (lv' := [(6, vI z215), (5, vI v208), (4, vI v4), (0, vR 62), (1, vR 20), (2, vI place), (3, vI second)]) (st' := [vI place, vR 20, vR 62, vI 9, vR 64]) B2_207_212 rfl ?_
              refine r_vI (c := 62) (args := [vR 20, vI place]) (rest := [vI 9, vR 64]) (pc' := 215) D2_212 rfl ck_0_virtual_111 TE3 rfl (Nat.le_of_ble_eq_true rfl) ⟨Nat.le_of_ble_eq_true rfl, Nat.le_of_ble_eq_true rfl⟩ sc_62 ⟨rfl, by decide⟩ H413.1 (dp_0 hd rfl) (k3_62_20x E (dp_n hd rfl) H413 place (by omega)) ?_
              intro v416 M417 q422
              obtain ⟨H418, f419, q420, q421⟩ := q422
              have f423 := f415.tr (f419.up rfl)
              refine r_i2l (pc' := 216) D2_215 rfl (by unfold inR; omega) ?_
              refine r_normL ?_
              intro z424 r425 _; unfold inJ at r425
              refine r_last (pc' := 217) D2_216 rfl sc_64 H418 (by omega) (by unfold inJ; omega) trivial ?_
              intro M426 u427 H428 p429
              have f430 := f423.wr u427 rfl
              refine s_blx (lv' := [(6, vI z215), (5, vI v208), (4, vI v4), (0, vR 62), (1, vR 20), (2, vI place), (3, vI second)]) (st' := [vR 62]) B2_217_218 rfl ?_
              refine r_gfix (r := 64) (pc' := 221) D2_218 rfl gf_0_28_62 H428.1 ?_
              refine s_blx (lv' := [(6, vI z215), (5, vI v208), (4, vI v4), (0, vR 62), (1, vR 20), (2, vI place), (3, vI second)]) (st' := [vR 20, vI 10, vR 64]) B2_221_224 rfl ?_
              refine r_gfix (r := 24) (pc' := 227) D2_224 rfl gf_0_115_20 H428.1 ?_
              refine s_blx (lv' := [(6, vI z215), (5, vI v208), (4, vI v4), (0, vR 62), (1, vR 20), (2, vI place), (3, vI second)]) (st' := [vI place, vR 24, vI 10, vR 64]) B2_227_228 rfl ?_
              refine r_iald (pc' := 229) D2_228 rfl sc_24 H428.1 (by omega) ?_
              intro w431 e432 r433
              unfold inR at r433
              refine r_i2l (pc' := 230) D2_229 rfl (by unfold inR; omega) ?_
              refine r_normL ?_
              intro z434 r435 _; unfold inJ at r435
              refine r_last (pc' := 231) D2_230 rfl sc_64 H428 (by omega) (by unfold inJ; omega) trivial ?_
              intro M436 u437 H438 p439
              have f440 := f430.wr u437 rfl
              have g441 : gi M436 62 5 = gi M417 62 5 := (u437.gi_ne (by decide) (Or.inl (by decide))).trans ((u427.gi_ne (by decide) (Or.inl (by decide))).trans (rfl))
              have g442 : gi M436 64 0 = 0 := (u437.gi_ne (by decide) (Or.inr (by decide))).trans ((u427.gi_ne (by decide) (Or.inr (by decide))).trans ((f419.g rfl).trans ((u412.gi_ne (by decide) (Or.inr (by decide))).trans ((u402.gi_ne (by decide) (Or.inr (by decide))).trans ((u395.gi_ne (by decide) (Or.inr (by decide))).trans ((u380.gi_ne (by decide) (Or.inr (by decide))).trans ((u367.gi_ne (by decide) (Or.inr (by decide))).trans ((u360.gi_ne (by decide) (Or.inr (by decide))).trans ((u350.gi_ne (by decide) (Or.inr (by decide))).trans ((u339.gi_ne (by decide) (Or.inr (by decide))).trans (p227)))))))))))
              exact r_retV D2_231 rfl (⟨H438, f440, by rw [g441]; omega, by rw [g442]; omega⟩)
            · exfalso; omega
          · exfalso; omega
      · refine s_blx (lv' := [(6, vI z215), (5, vI v208), (4, vI v4), (0, vR 62), (1, vR 20), (2, vI place), (3, vI second)]) (st' := [vL 1, vI 0, vR 64]) B2_62_63 rfl ?_
        refine r_goto (tgt := 67) D2_63 rfl ?_
        refine r_last (pc' := 68) D2_67 rfl sc_64 H (by omega) (by unfold inJ; omega) trivial ?_
        intro M443 u444 H445 p446
        have f447 := f0.wr u444 rfl
        refine s_blx (lv' := [(6, vI z215), (5, vI v208), (4, vI v4), (0, vR 62), (1, vR 20), (2, vI place), (3, vI second)]) (st' := [vR 62]) B2_68_69 rfl ?_
        refine r_gfix (r := 64) (pc' := 72) D2_69 rfl gf_0_28_62 H445.1 ?_
        refine s_blx (lv' := [(6, vI z215), (5, vI v208), (4, vI v4), (0, vR 62), (1, vR 20), (2, vI place), (3, vI second)]) (st' := [vR 20, vI 1, vR 64]) B2_72_74 rfl ?_
        refine r_gfix (r := 25) (pc' := 77) D2_74 rfl gf_0_87_20 H445.1 ?_
        refine s_blx (lv' := [(6, vI z215), (5, vI v208), (4, vI v4), (0, vR 62), (1, vR 20), (2, vI place), (3, vI second)]) (st' := [vI place, vR 25, vI 1, vR 64]) B2_77_78 rfl ?_
        refine r_bald (pc' := 79) D2_78 rfl sc_25 (by decide) H445.1 (by omega) ?_
        intro w448 e449 r450
        have b_w448 := H445.2 25 (place) 0 1 rfl
        rw [← e449] at b_w448; clear r450
        refine r_ifc (tgt := 86) (pc' := 82) D2_79 rfl rfl (by unfold inR; omega) (fun (c451 : w448 = 0) => ?_) (fun (c451 : ¬ (w448 = 0)) => ?_)
        · refine s_blx (lv' := [(6, vI z215), (5, vI v208), (4, vI v4), (0, vR 62), (1, vR 20), (2, vI place), (3, vI second)]) (st' := [vL 0, vI 1, vR 64]) B2_86_87 rfl ?_
          refine r_last (pc' := 88) D2_87 rfl sc_64 H445 (by omega) (by unfold inJ; omega) trivial ?_
          intro M452 u453 H454 p455
          have f456 := f447.wr u453 rfl
          refine s_blx (lv' := [(6, vI z215), (5, vI v208), (4, vI v4), (0, vR 62), (1, vR 20), (2, vI place), (3, vI second)]) (st' := [vR 62]) B2_88_89 rfl ?_
          refine r_gfix (r := 64) (pc' := 92) D2_89 rfl gf_0_28_62 H454.1 ?_
          refine s_blx (lv' := [(6, vI z215), (5, vI v208), (4, vI v4), (0, vR 62), (1, vR 20), (2, vI place), (3, vI second)]) (st' := [vI v4, vI place, vR 20, vI 2, vR 64]) B2_92_97 rfl ?_
          refine r_vIp (c := 20) (args := [vI place, vI v4]) (rest := [vI 2, vR 64]) (pc' := 100) D2_97 rfl ck_0_virtual_91 TE90 rfl (Nat.le_of_ble_eq_true rfl) ⟨Nat.le_of_ble_eq_true rfl, Nat.le_of_ble_eq_true rfl⟩ sc_20 ⟨rfl, by decide⟩ H454.1 (dp_0 hd rfl) (k90_20 E (dp_n hd rfl) H454 place v4 (by omega) (by omega)) ?_
          intro v457 q460
          have q459 := q460; clear q460
          refine r_i2l (pc' := 101) D2_100 rfl (by unfold inR; omega) ?_
          refine r_normL ?_
          intro z461 r462 _; unfold inJ at r462
          refine r_last (pc' := 102) D2_101 rfl sc_64 H454 (by omega) (by unfold inJ; omega) trivial ?_
          intro M463 u464 H465 p466
          have f467 := f456.wr u464 rfl
          refine s_blx (lv' := [(6, vI z215), (5, vI v208), (4, vI v4), (0, vR 62), (1, vR 20), (2, vI place), (3, vI second)]) (st' := [vR 62]) B2_102_103 rfl ?_
          refine r_gfix (r := 64) (pc' := 106) D2_103 rfl gf_0_28_62 H465.1 ?_
          refine s_blx (lv' := [(6, vI z215), (5, vI v208), (4, vI v4), (0, vR 62), (1, vR 20), (2, vI place), (3, vI second)]) (st' := [vR 20, vI 3, vR 64]) B2_106_108 rfl ?_
          refine r_gfix (r := 34) (pc' := 111) D2_108 rfl gf_0_94_20 H465.1 ?_
          refine s_blx (lv' := [(6, vI z215), (5, vI v208), (4, vI v4), (0, vR 62), (1, vR 20), (2, vI place), (3, vI second)]) (st' := [vI 0, vR 34, vI 3, vR 64]) B2_111_112 rfl ?_
          refine r_iald (pc' := 113) D2_112 rfl sc_34 H465.1 (by omega) ?_
          intro w468 e469 r470
          have b_w468 := H465.2 34 (0) 0 1000 rfl
          rw [← e469] at b_w468; clear r470
          refine r_i2l (pc' := 114) D2_113 rfl (by unfold inR; omega) ?_
          refine r_normL ?_
          intro z471 r472 _; unfold inJ at r472
          refine r_last (pc' := 115) D2_114 rfl sc_64 H465 (by omega) (by unfold inJ; omega) trivial ?_
          intro M473 u474 H475 p476
          have f477 := f467.wr u474 rfl
          refine s_blx (lv' := [(6, vI z215), (5, vI v208), (4, vI v4), (0, vR 62), (1, vR 20), (2, vI place), (3, vI second)]) (st' := [vR 62]) B2_115_116 rfl ?_
          refine r_gfix (r := 64) (pc' := 119) D2_116 rfl gf_0_28_62 H475.1 ?_
          refine s_blx (lv' := [(6, vI z215), (5, vI v208), (4, vI v4), (0, vR 62), (1, vR 20), (2, vI place), (3, vI second)]) (st' := [vI v4, vI 4, vR 64]) B2_119_122 rfl ?_
          refine r_i2l (pc' := 123) D2_122 rfl (by unfold inR; omega) ?_
          refine r_normL ?_
          intro z478 r479 _; unfold inJ at r479
          refine r_last (pc' := 124) D2_123 rfl sc_64 H475 (by omega) (by unfold inJ; omega) trivial ?_
          intro M480 u481 H482 p483
          have f484 := f477.wr u481 rfl
          refine s_blx (lv' := [(6, vI z215), (5, vI v208), (4, vI v4), (0, vR 62), (1, vR 20), (2, vI place), (3, vI second)]) (st' := [vR 62]) B2_124_125 rfl ?_
          refine r_gfix (r := 64) (pc' := 128) D2_125 rfl gf_0_28_62 H482.1 ?_
          refine s_blx (lv' := [(6, vI z215), (5, vI v208), (4, vI v4), (0, vR 62), (1, vR 20), (2, vI place), (3, vI second)]) (st' := [vI (-1), vI v208, vI 5, vR 64]) B2_128_132 rfl ?_
          refine r_icmp (tgt := 139) (pc' := 135) D2_132 rfl rfl (by unfold inR; omega) (fun (c485 : v208 ≠ (-1)) => ?_) (fun (c485 : ¬ (v208 ≠ (-1))) => ?_)
          · refine s_blx (lv' := [(6, vI z215), (5, vI v208), (4, vI v4), (0, vR 62), (1, vR 20), (2, vI place), (3, vI second)]) (st' := [vR 20, vI 5, vR 64]) B2_139_140 rfl ?_
            refine r_gfix (r := 30) (pc' := 143) D2_140 rfl gf_0_97_20 H482.1 ?_
            refine s_blx (lv' := [(6, vI z215), (5, vI v208), (4, vI v4), (0, vR 62), (1, vR 20), (2, vI place), (3, vI second)]) (st' := [vI v208, vR 30, vI 5, vR 64]) B2_143_145 rfl ?_
            refine r_iald (pc' := 146) D2_145 rfl sc_30 H482.1 (by omega) ?_
            intro w486 e487 r488
            unfold inR at r488
            refine s_blx (lv' := [(6, vI z215), (5, vI v208), (4, vI v4), (0, vR 62), (1, vR 20), (2, vI place), (3, vI second)]) (st' := [vI z215, vI (w486 * 100), vI 5, vR 64]) B2_146_151 rfl ?_
            refine r_idivX (pc' := 152) D2_151 rfl (by unfold inR; omega) ?_
            intro z489 r490; unfold inR at r490
            refine r_i2l (pc' := 153) D2_152 rfl (by unfold inR; omega) ?_
            refine r_normL ?_
            intro z491 r492 _; unfold inJ at r492
            refine r_last (pc' := 154) D2_153 rfl sc_64 H482 (by omega) (by unfold inJ; omega) trivial ?_
            intro M493 u494 H495 p496
            have f497 := f484.wr u494 rfl
            refine s_blx (lv' := [(6, vI z215), (5, vI v208), (4, vI v4), (0, vR 62), (1, vR 20), (2, vI place), (3, vI second)]) (st' := [vR 62]) B2_154_155 rfl ?_
            refine r_gfix (r := 64) (pc' := 158) D2_155 rfl gf_0_28_62 H495.1 ?_
            refine s_blx (lv' := [(6, vI z215), (5, vI v208), (4, vI v4), (0, vR 62), (1, vR 20), (2, vI place), (3, vI second)]) (st' := [vI (-1), vI v208, vI 6, vR 64]) B2_158_163 rfl ?_
            refine r_icmp (tgt := 170) (pc' := 166) D2_163 rfl rfl (by unfold inR; omega) (fun (c498 : v208 ≠ (-1)) => ?_) (fun (c498 : ¬ (v208 ≠ (-1))) => ?_)
            · refine s_blx (lv' := [(6, vI z215), (5, vI v208), (4, vI v4), (0, vR 62), (1, vR 20), (2, vI place), (3, vI second)]) (st' := [vR 20, vI 6, vR 64]) B2_170_171 rfl ?_
              refine r_gfix (r := 27) (pc' := 174) D2_171 rfl gf_0_100_20 H495.1 ?_
              refine s_blx (lv' := [(6, vI z215), (5, vI v208), (4, vI v4), (0, vR 62), (1, vR 20), (2, vI place), (3, vI second)]) (st' := [vI v208, vR 27, vI 6, vR 64]) B2_174_176 rfl ?_
              refine r_iald (pc' := 177) D2_176 rfl sc_27 H495.1 (by omega) ?_
              intro w499 e500 r501
              unfold inR at r501
              refine r_sIp (args := [vI w499]) (rest := [vI 6, vR 64]) (pc' := 180) D2_177 rfl ck_0_static_103 TE267 rfl (Nat.le_of_ble_eq_true rfl) ⟨Nat.le_of_ble_eq_true rfl, Nat.le_of_ble_eq_true rfl⟩ (by decide) (dp_0 hd rfl) (k267 E (dp_n hd rfl) H495 w499 (by omega)) ?_
              intro v502 q505
              have q504 := q505; clear q505
              refine r_i2l (pc' := 181) D2_180 rfl (by unfold inR; omega) ?_
              refine r_normL ?_
              intro z506 r507 _; unfold inJ at r507
              refine r_last (pc' := 182) D2_181 rfl sc_64 H495 (by omega) (by unfold inJ; omega) trivial ?_
              intro M508 u509 H510 p511
              have f512 := f497.wr u509 rfl
              refine s_blx (lv' := [(6, vI z215), (5, vI v208), (4, vI v4), (0, vR 62), (1, vR 20), (2, vI place), (3, vI second)]) (st' := [vR 62]) B2_182_183 rfl ?_
              refine r_gfix (r := 64) (pc' := 186) D2_183 rfl gf_0_28_62 H510.1 ?_
              refine s_blx (lv' := [(6, vI z215), (5, vI v208), (4, vI v4), (0, vR 62), (1, vR 20), (2, vI place), (3, vI second)]) (st' := [vI second, vI 7, vR 64]) B2_186_189 rfl ?_
              refine r_i2l (pc' := 190) D2_189 rfl (by unfold inR; omega) ?_
              refine r_normL ?_
              intro z513 r514 _; unfold inJ at r514
              refine r_last (pc' := 191) D2_190 rfl sc_64 H510 (by omega) (by unfold inJ; omega) trivial ?_
              intro M515 u516 H517 p518
              have f519 := f512.wr u516 rfl
              refine s_blx (lv' := [(6, vI z215), (5, vI v208), (4, vI v4), (0, vR 62), (1, vR 20), (2, vI place), (3, vI second)]) (st' := [vR 62]) B2_191_192 rfl ?_
              refine r_gfix (r := 64) (pc' := 195) D2_192 rfl gf_0_28_62 H517.1 ?_
              refine s_blx (lv' := [(6, vI z215), (5, vI v208), (4, vI v4), (0, vR 62), (1, vR 20), (2, vI place), (3, vI second)]) (st' := [vR 20, vI 8, vR 64]) B2_195_198 rfl ?_
              refine r_gint (ki := 17) (pc' := 201) D2_198 rfl gf_0_108_20 rfl H517.1 ?_
              intro w520 e521 r522
              have b_w520 := H517.2 20 (17) 0 3 rfl
              rw [← e521] at b_w520; clear r522
              refine r_i2l (pc' := 202) D2_201 rfl (by unfold inR; omega) ?_
              refine r_normL ?_
              intro z523 r524 _; unfold inJ at r524
              refine r_last (pc' := 203) D2_202 rfl sc_64 H517 (by omega) (by unfold inJ; omega) trivial ?_
              intro M525 u526 H527 p528
              have f529 := f519.wr u526 rfl
              refine s_blx (lv' := [(6, vI z215), (5, vI v208), (4, vI v4), (0, vR 62), (1, vR 20), (2, vI place), (3, vI second)]) (st' := [vR 62]) B2_203_204 rfl ?_
              refine r_gfix (r := 64) (pc' := 207) D2_204 rfl gf_0_28_62 H527.1 ?_
              refine s_blx (lv' := [(6, vI z215), (5, vI v208), (4, vI v4), (0, vR 62), (1, vR 20), (2, vI place), (3, vI second)]) (st' := [vI place, vR 20, vR 62, vI 9, vR 64]) B2_207_212 rfl ?_
              refine r_vI (c := 62) (args := [vR 20, vI place]) (rest := [vI 9, vR 64]) (pc' := 215) D2_212 rfl ck_0_virtual_111 TE3 rfl (Nat.le_of_ble_eq_true rfl) ⟨Nat.le_of_ble_eq_true rfl, Nat.le_of_ble_eq_true rfl⟩ sc_62 ⟨rfl, by decide⟩ H527.1 (dp_0 hd rfl) (k3_62_20x E (dp_n hd rfl) H527 place (by omega)) ?_
              intro v530 M531 q536
              obtain ⟨H532, f533, q534, q535⟩ := q536
              have f537 := f529.tr (f533.up rfl)
              refine r_i2l (pc' := 216) D2_215 rfl (by unfold inR; omega) ?_
              refine r_normL ?_
              intro z538 r539 _; unfold inJ at r539
              refine r_last (pc' := 217) D2_216 rfl sc_64 H532 (by omega) (by unfold inJ; omega) trivial ?_
              intro M540 u541 H542 p543
              have f544 := f537.wr u541 rfl
              refine s_blx (lv' := [(6, vI z215), (5, vI v208), (4, vI v4), (0, vR 62), (1, vR 20), (2, vI place), (3, vI second)]) (st' := [vR 62]) B2_217_218 rfl ?_
              refine r_gfix (r := 64) (pc' := 221) D2_218 rfl gf_0_28_62 H542.1 ?_
              refine s_blx (lv' := [(6, vI z215), (5, vI v208), (4, vI v4), (0, vR 62), (1, vR 20), (2, vI place), (3, vI second)]) (st' := [vR 20, vI 10, vR 64]) B2_221_224 rfl ?_
              refine r_gfix (r := 24) (pc' := 227) D2_224 rfl gf_0_115_20 H542.1 ?_
              refine s_blx (lv' := [(6, vI z215), (5, vI v208), (4, vI v4), (0, vR 62), (1, vR 20), (2, vI place), (3, vI second)]) (st' := [vI place, vR 24, vI 10, vR 64]) B2_227_228 rfl ?_
              refine r_iald (pc' := 229) D2_228 rfl sc_24 H542.1 (by omega) ?_
              intro w545 e546 r547
              unfold inR at r547
              refine r_i2l (pc' := 230) D2_229 rfl (by unfold inR; omega) ?_
              refine r_normL ?_
              intro z548 r549 _; unfold inJ at r549
              refine r_last (pc' := 231) D2_230 rfl sc_64 H542 (by omega) (by unfold inJ; omega) trivial ?_
              intro M550 u551 H552 p553
              have f554 := f544.wr u551 rfl
              have g555 : gi M550 62 5 = gi M531 62 5 := (u551.gi_ne (by decide) (Or.inl (by decide))).trans ((u541.gi_ne (by decide) (Or.inl (by decide))).trans (rfl))
              have g556 : gi M550 64 0 = 1 := (u551.gi_ne (by decide) (Or.inr (by decide))).trans ((u541.gi_ne (by decide) (Or.inr (by decide))).trans ((f533.g rfl).trans ((u526.gi_ne (by decide) (Or.inr (by decide))).trans ((u516.gi_ne (by decide) (Or.inr (by decide))).trans ((u509.gi_ne (by decide) (Or.inr (by decide))).trans ((u494.gi_ne (by decide) (Or.inr (by decide))).trans ((u481.gi_ne (by decide) (Or.inr (by decide))).trans ((u474.gi_ne (by decide) (Or.inr (by decide))).trans ((u464.gi_ne (by decide) (Or.inr (by decide))).trans ((u453.gi_ne (by decide) (Or.inr (by decide))).trans (p446)))))))))))
              exact r_retV D2_231 rfl (⟨H552, f554, by rw [g555]; omega, by rw [g556]; omega⟩)
            · exfalso; omega
          · exfalso; omega
        · refine s_blx (lv' := [(6, vI z215), (5, vI v208), (4, vI v4), (0, vR 62), (1, vR 20), (2, vI place), (3, vI second)]) (st' := [vL 1, vI 1, vR 64]) B2_82_83 rfl ?_
          refine r_goto (tgt := 87) D2_83 rfl ?_
          refine r_last (pc' := 88) D2_87 rfl sc_64 H445 (by omega) (by unfold inJ; omega) trivial ?_
          intro M557 u558 H559 p560
          have f561 := f447.wr u558 rfl
          refine s_blx (lv' := [(6, vI z215), (5, vI v208), (4, vI v4), (0, vR 62), (1, vR 20), (2, vI place), (3, vI second)]) (st' := [vR 62]) B2_88_89 rfl ?_
          refine r_gfix (r := 64) (pc' := 92) D2_89 rfl gf_0_28_62 H559.1 ?_
          refine s_blx (lv' := [(6, vI z215), (5, vI v208), (4, vI v4), (0, vR 62), (1, vR 20), (2, vI place), (3, vI second)]) (st' := [vI v4, vI place, vR 20, vI 2, vR 64]) B2_92_97 rfl ?_
          refine r_vIp (c := 20) (args := [vI place, vI v4]) (rest := [vI 2, vR 64]) (pc' := 100) D2_97 rfl ck_0_virtual_91 TE90 rfl (Nat.le_of_ble_eq_true rfl) ⟨Nat.le_of_ble_eq_true rfl, Nat.le_of_ble_eq_true rfl⟩ sc_20 ⟨rfl, by decide⟩ H559.1 (dp_0 hd rfl) (k90_20 E (dp_n hd rfl) H559 place v4 (by omega) (by omega)) ?_
          intro v562 q565
          have q564 := q565; clear q565
          refine r_i2l (pc' := 101) D2_100 rfl (by unfold inR; omega) ?_
          refine r_normL ?_
          intro z566 r567 _; unfold inJ at r567
          refine r_last (pc' := 102) D2_101 rfl sc_64 H559 (by omega) (by unfold inJ; omega) trivial ?_
          intro M568 u569 H570 p571
          have f572 := f561.wr u569 rfl
          refine s_blx (lv' := [(6, vI z215), (5, vI v208), (4, vI v4), (0, vR 62), (1, vR 20), (2, vI place), (3, vI second)]) (st' := [vR 62]) B2_102_103 rfl ?_
          refine r_gfix (r := 64) (pc' := 106) D2_103 rfl gf_0_28_62 H570.1 ?_
          refine s_blx (lv' := [(6, vI z215), (5, vI v208), (4, vI v4), (0, vR 62), (1, vR 20), (2, vI place), (3, vI second)]) (st' := [vR 20, vI 3, vR 64]) B2_106_108 rfl ?_
          refine r_gfix (r := 34) (pc' := 111) D2_108 rfl gf_0_94_20 H570.1 ?_
          refine s_blx (lv' := [(6, vI z215), (5, vI v208), (4, vI v4), (0, vR 62), (1, vR 20), (2, vI place), (3, vI second)]) (st' := [vI 0, vR 34, vI 3, vR 64]) B2_111_112 rfl ?_
          refine r_iald (pc' := 113) D2_112 rfl sc_34 H570.1 (by omega) ?_
          intro w573 e574 r575
          have b_w573 := H570.2 34 (0) 0 1000 rfl
          rw [← e574] at b_w573; clear r575
          refine r_i2l (pc' := 114) D2_113 rfl (by unfold inR; omega) ?_
          refine r_normL ?_
          intro z576 r577 _; unfold inJ at r577
          refine r_last (pc' := 115) D2_114 rfl sc_64 H570 (by omega) (by unfold inJ; omega) trivial ?_
          intro M578 u579 H580 p581
          have f582 := f572.wr u579 rfl
          refine s_blx (lv' := [(6, vI z215), (5, vI v208), (4, vI v4), (0, vR 62), (1, vR 20), (2, vI place), (3, vI second)]) (st' := [vR 62]) B2_115_116 rfl ?_
          refine r_gfix (r := 64) (pc' := 119) D2_116 rfl gf_0_28_62 H580.1 ?_
          refine s_blx (lv' := [(6, vI z215), (5, vI v208), (4, vI v4), (0, vR 62), (1, vR 20), (2, vI place), (3, vI second)]) (st' := [vI v4, vI 4, vR 64]) B2_119_122 rfl ?_
          refine r_i2l (pc' := 123) D2_122 rfl (by unfold inR; omega) ?_
          refine r_normL ?_
          intro z583 r584 _; unfold inJ at r584
          refine r_last (pc' := 124) D2_123 rfl sc_64 H580 (by omega) (by unfold inJ; omega) trivial ?_
          intro M585 u586 H587 p588
          have f589 := f582.wr u586 rfl
          refine s_blx (lv' := [(6, vI z215), (5, vI v208), (4, vI v4), (0, vR 62), (1, vR 20), (2, vI place), (3, vI second)]) (st' := [vR 62]) B2_124_125 rfl ?_
          refine r_gfix (r := 64) (pc' := 128) D2_125 rfl gf_0_28_62 H587.1 ?_
          refine s_blx (lv' := [(6, vI z215), (5, vI v208), (4, vI v4), (0, vR 62), (1, vR 20), (2, vI place), (3, vI second)]) (st' := [vI (-1), vI v208, vI 5, vR 64]) B2_128_132 rfl ?_
          refine r_icmp (tgt := 139) (pc' := 135) D2_132 rfl rfl (by unfold inR; omega) (fun (c590 : v208 ≠ (-1)) => ?_) (fun (c590 : ¬ (v208 ≠ (-1))) => ?_)
          · refine s_blx (lv' := [(6, vI z215), (5, vI v208), (4, vI v4), (0, vR 62), (1, vR 20), (2, vI place), (3, vI second)]) (st' := [vR 20, vI 5, vR 64]) B2_139_140 rfl ?_
            refine r_gfix (r := 30) (pc' := 143) D2_140 rfl gf_0_97_20 H587.1 ?_
            refine s_blx (lv' := [(6, vI z215), (5, vI v208), (4, vI v4), (0, vR 62), (1, vR 20), (2, vI place), (3, vI second)]) (st' := [vI v208, vR 30, vI 5, vR 64]) B2_143_145 rfl ?_
            refine r_iald (pc' := 146) D2_145 rfl sc_30 H587.1 (by omega) ?_
            intro w591 e592 r593
            unfold inR at r593
            refine s_blx (lv' := [(6, vI z215), (5, vI v208), (4, vI v4), (0, vR 62), (1, vR 20), (2, vI place), (3, vI second)]) (st' := [vI z215, vI (w591 * 100), vI 5, vR 64]) B2_146_151 rfl ?_
            refine r_idivX (pc' := 152) D2_151 rfl (by unfold inR; omega) ?_
            intro z594 r595; unfold inR at r595
            refine r_i2l (pc' := 153) D2_152 rfl (by unfold inR; omega) ?_
            refine r_normL ?_
            intro z596 r597 _; unfold inJ at r597
            refine r_last (pc' := 154) D2_153 rfl sc_64 H587 (by omega) (by unfold inJ; omega) trivial ?_
            intro M598 u599 H600 p601
            have f602 := f589.wr u599 rfl
            refine s_blx (lv' := [(6, vI z215), (5, vI v208), (4, vI v4), (0, vR 62), (1, vR 20), (2, vI place), (3, vI second)]) (st' := [vR 62]) B2_154_155 rfl ?_
            refine r_gfix (r := 64) (pc' := 158) D2_155 rfl gf_0_28_62 H600.1 ?_
            refine s_blx (lv' := [(6, vI z215), (5, vI v208), (4, vI v4), (0, vR 62), (1, vR 20), (2, vI place), (3, vI second)]) (st' := [vI (-1), vI v208, vI 6, vR 64]) B2_158_163 rfl ?_
            refine r_icmp (tgt := 170) (pc' := 166) D2_163 rfl rfl (by unfold inR; omega) (fun (c603 : v208 ≠ (-1)) => ?_) (fun (c603 : ¬ (v208 ≠ (-1))) => ?_)
            · refine s_blx (lv' := [(6, vI z215), (5, vI v208), (4, vI v4), (0, vR 62), (1, vR 20), (2, vI place), (3, vI second)]) (st' := [vR 20, vI 6, vR 64]) B2_170_171 rfl ?_
              refine r_gfix (r := 27) (pc' := 174) D2_171 rfl gf_0_100_20 H600.1 ?_
              refine s_blx (lv' := [(6, vI z215), (5, vI v208), (4, vI v4), (0, vR 62), (1, vR 20), (2, vI place), (3, vI second)]) (st' := [vI v208, vR 27, vI 6, vR 64]) B2_174_176 rfl ?_
              refine r_iald (pc' := 177) D2_176 rfl sc_27 H600.1 (by omega) ?_
              intro w604 e605 r606
              unfold inR at r606
              refine r_sIp (args := [vI w604]) (rest := [vI 6, vR 64]) (pc' := 180) D2_177 rfl ck_0_static_103 TE267 rfl (Nat.le_of_ble_eq_true rfl) ⟨Nat.le_of_ble_eq_true rfl, Nat.le_of_ble_eq_true rfl⟩ (by decide) (dp_0 hd rfl) (k267 E (dp_n hd rfl) H600 w604 (by omega)) ?_
              intro v607 q610
              have q609 := q610; clear q610
              refine r_i2l (pc' := 181) D2_180 rfl (by unfold inR; omega) ?_
              refine r_normL ?_
              intro z611 r612 _; unfold inJ at r612
              refine r_last (pc' := 182) D2_181 rfl sc_64 H600 (by omega) (by unfold inJ; omega) trivial ?_
              intro M613 u614 H615 p616
              have f617 := f602.wr u614 rfl
              refine s_blx (lv' := [(6, vI z215), (5, vI v208), (4, vI v4), (0, vR 62), (1, vR 20), (2, vI place), (3, vI second)]) (st' := [vR 62]) B2_182_183 rfl ?_
              refine r_gfix (r := 64) (pc' := 186) D2_183 rfl gf_0_28_62 H615.1 ?_
              refine s_blx (lv' := [(6, vI z215), (5, vI v208), (4, vI v4), (0, vR 62), (1, vR 20), (2, vI place), (3, vI second)]) (st' := [vI second, vI 7, vR 64]) B2_186_189 rfl ?_
              refine r_i2l (pc' := 190) D2_189 rfl (by unfold inR; omega) ?_
              refine r_normL ?_
              intro z618 r619 _; unfold inJ at r619
              refine r_last (pc' := 191) D2_190 rfl sc_64 H615 (by omega) (by unfold inJ; omega) trivial ?_
              intro M620 u621 H622 p623
              have f624 := f617.wr u621 rfl
              refine s_blx (lv' := [(6, vI z215), (5, vI v208), (4, vI v4), (0, vR 62), (1, vR 20), (2, vI place), (3, vI second)]) (st' := [vR 62]) B2_191_192 rfl ?_
              refine r_gfix (r := 64) (pc' := 195) D2_192 rfl gf_0_28_62 H622.1 ?_
              refine s_blx (lv' := [(6, vI z215), (5, vI v208), (4, vI v4), (0, vR 62), (1, vR 20), (2, vI place), (3, vI second)]) (st' := [vR 20, vI 8, vR 64]) B2_195_198 rfl ?_
              refine r_gint (ki := 17) (pc' := 201) D2_198 rfl gf_0_108_20 rfl H622.1 ?_
              intro w625 e626 r627
              have b_w625 := H622.2 20 (17) 0 3 rfl
              rw [← e626] at b_w625; clear r627
              refine r_i2l (pc' := 202) D2_201 rfl (by unfold inR; omega) ?_
              refine r_normL ?_
              intro z628 r629 _; unfold inJ at r629
              refine r_last (pc' := 203) D2_202 rfl sc_64 H622 (by omega) (by unfold inJ; omega) trivial ?_
              intro M630 u631 H632 p633
              have f634 := f624.wr u631 rfl
              refine s_blx (lv' := [(6, vI z215), (5, vI v208), (4, vI v4), (0, vR 62), (1, vR 20), (2, vI place), (3, vI second)]) (st' := [vR 62]) B2_203_204 rfl ?_
              refine r_gfix (r := 64) (pc' := 207) D2_204 rfl gf_0_28_62 H632.1 ?_
              refine s_blx (lv' := [(6, vI z215), (5, vI v208), (4, vI v4), (0, vR 62), (1, vR 20), (2, vI place), (3, vI second)]) (st' := [vI place, vR 20, vR 62, vI 9, vR 64]) B2_207_212 rfl ?_
              refine r_vI (c := 62) (args := [vR 20, vI place]) (rest := [vI 9, vR 64]) (pc' := 215) D2_212 rfl ck_0_virtual_111 TE3 rfl (Nat.le_of_ble_eq_true rfl) ⟨Nat.le_of_ble_eq_true rfl, Nat.le_of_ble_eq_true rfl⟩ sc_62 ⟨rfl, by decide⟩ H632.1 (dp_0 hd rfl) (k3_62_20x E (dp_n hd rfl) H632 place (by omega)) ?_
              intro v635 M636 q641
              obtain ⟨H637, f638, q639, q640⟩ := q641
              have f642 := f634.tr (f638.up rfl)
              refine r_i2l (pc' := 216) D2_215 rfl (by unfold inR; omega) ?_
              refine r_normL ?_
              intro z643 r644 _; unfold inJ at r644
              refine r_last (pc' := 217) D2_216 rfl sc_64 H637 (by omega) (by unfold inJ; omega) trivial ?_
              intro M645 u646 H647 p648
              have f649 := f642.wr u646 rfl
              refine s_blx (lv' := [(6, vI z215), (5, vI v208), (4, vI v4), (0, vR 62), (1, vR 20), (2, vI place), (3, vI second)]) (st' := [vR 62]) B2_217_218 rfl ?_
              refine r_gfix (r := 64) (pc' := 221) D2_218 rfl gf_0_28_62 H647.1 ?_
              refine s_blx (lv' := [(6, vI z215), (5, vI v208), (4, vI v4), (0, vR 62), (1, vR 20), (2, vI place), (3, vI second)]) (st' := [vR 20, vI 10, vR 64]) B2_221_224 rfl ?_
              refine r_gfix (r := 24) (pc' := 227) D2_224 rfl gf_0_115_20 H647.1 ?_
              refine s_blx (lv' := [(6, vI z215), (5, vI v208), (4, vI v4), (0, vR 62), (1, vR 20), (2, vI place), (3, vI second)]) (st' := [vI place, vR 24, vI 10, vR 64]) B2_227_228 rfl ?_
              refine r_iald (pc' := 229) D2_228 rfl sc_24 H647.1 (by omega) ?_
              intro w650 e651 r652
              unfold inR at r652
              refine r_i2l (pc' := 230) D2_229 rfl (by unfold inR; omega) ?_
              refine r_normL ?_
              intro z653 r654 _; unfold inJ at r654
              refine r_last (pc' := 231) D2_230 rfl sc_64 H647 (by omega) (by unfold inJ; omega) trivial ?_
              intro M655 u656 H657 p658
              have f659 := f649.wr u656 rfl
              have g660 : gi M655 62 5 = gi M636 62 5 := (u656.gi_ne (by decide) (Or.inl (by decide))).trans ((u646.gi_ne (by decide) (Or.inl (by decide))).trans (rfl))
              have g661 : gi M655 64 0 = 1 := (u656.gi_ne (by decide) (Or.inr (by decide))).trans ((u646.gi_ne (by decide) (Or.inr (by decide))).trans ((f638.g rfl).trans ((u631.gi_ne (by decide) (Or.inr (by decide))).trans ((u621.gi_ne (by decide) (Or.inr (by decide))).trans ((u614.gi_ne (by decide) (Or.inr (by decide))).trans ((u599.gi_ne (by decide) (Or.inr (by decide))).trans ((u586.gi_ne (by decide) (Or.inr (by decide))).trans ((u579.gi_ne (by decide) (Or.inr (by decide))).trans ((u569.gi_ne (by decide) (Or.inr (by decide))).trans ((u558.gi_ne (by decide) (Or.inr (by decide))).trans (p446)))))))))))
              exact r_retV D2_231 rfl (⟨H657, f659, by rw [g660]; omega, by rw [g661]; omega⟩)
            · exfalso; omega
          · exfalso; omega
set_option maxRecDepth 4000 in
theorem L_k4_62_20x {base : Nat} {X : Nat → Option mC} {G : Nat → Value} (E : EnvOK base X G) {d : Nat} (hd : 3 ≤ d) {M : mH} (H : HI base M) (habit : Nat) (place : Int) (nh : Int) (nc : Int) (h0 : IsHab base habit nh nc M) (h1 : 0 ≤ nh ∧ nh ≤ 12) (h2 : 0 ≤ nc ∧ nc ≤ 400) (h3 : 0 ≤ place ∧ place ≤ 144) (h4 : gi M 62 5 = -1 ∨ (20 ≤ gi M 62 5 ∧ gi M 62 5 ≤ 22)) (h5 : gi M 64 0 ≠ 0 → gi M 62 3 ≤ 110) : ∀ mz : Nat, (∀ (x4 x5 : Int) (N : mH), HI base N → Fr [(65, 0)] M N → (0 ≤ x4 ∧ x4 ≤ nc) → (0 ≤ x5 ∧ x5 ≤ nh) → (gi N 62 3 = gi M 62 3) → (gi N 62 5 = gi M 62 5) → (gi N 64 0 = gi M 64 0) → (0 ≤ x4) → (x4 ≤ 400) → (0 ≤ x5) → (x5 ≤ 12) → (12 - x5) * 1 + 0 < (mz : Int) → sRn base X G d T4 6 [(0, vR 62), (1, vR 20), (2, vR (habit)), (3, vI place), (4, vI x4), (5, vI x5)] [] N (s_Q base (pI (fun v M' => HI base M' ∧ Fr [(65, 0)] M M' ∧ (0 ≤ v ∧ v ≤ 22) ∧ (v = 1 ∨ v = 2 → gi M 62 3 ≤ 110))))) := by
  have f0 : Fr [(65, 0)] M M := Fr.rf
  intro mz
  induction mz with
  | zero => exact fun x4 x5 N _ _ z0 z1 z2 z3 z4 z5 z6 z7 z8 z9 => by omega
  | succ mz ih =>
    intro x4 x5 N HN fN i0 i1 i2 i3 i4 i5 i6 i7 i8 hmu
    refine s_blx (lv' := [(0, vR 62), (1, vR 20), (2, vR (habit)), (3, vI place), (4, vI x4), (5, vI x5)]) (st' := [vR (habit), vI x5]) B4_6_9 rfl ?_
    refine r_gfH (k := 0) (a := habit + 1) (pc' := 12) D4_9 rfl (by decide) fi_0_122 (by decide) ((h0.fr fN rfl)) ((h0.fr fN rfl)).2.2.2.2.1.1 ?_
    refine r_lenD (n := nh) (pc' := 13) D4_12 rfl (((h0.fr fN rfl)).2.2.2.2.2.1) (by have q := ((h0.fr fN rfl)).2.1; omega) ?_
    refine r_icmp (tgt := 81) (pc' := 16) D4_13 rfl rfl (by unfold inR; omega) (fun (c4 : nh ≤ x5) => ?_) (fun (c4 : ¬ (nh ≤ x5)) => ?_)
    · refine s_blx (lv' := [(0, vR 62), (1, vR 20), (2, vR (habit)), (3, vI place), (4, vI x4), (5, vI x5)]) (st' := [vR 62]) B4_81_82 rfl ?_
      refine r_gfix (r := 64) (pc' := 85) D4_82 rfl gf_0_28_62 HN.1 ?_
      refine s_blx (lv' := [(0, vR 62), (1, vR 20), (2, vR (habit)), (3, vI place), (4, vI x4), (5, vI x5)]) (st' := [vI 0, vR 64]) B4_85_86 rfl ?_
      refine r_lald (pc' := 87) D4_86 rfl sc_64 HN.1 (by omega) ?_
      intro w5 e6 r7
      clear r7
      refine s_blx (lv' := [(0, vR 62), (1, vR 20), (2, vR (habit)), (3, vI place), (4, vI x4), (5, vI x5)]) (st' := [vL 0, vL w5]) B4_87_88 rfl ?_
      refine r_lcmpz (pc' := 89) D4_88 rfl ?_
      intro z8 r9 r10 knz
      refine r_ifc (tgt := 94) (pc' := 92) D4_89 rfl rfl (by unfold inR; omega) (fun (c11 : z8 = 0) => ?_) (fun (c11 : ¬ (z8 = 0)) => ?_)
      · refine s_blx (lv' := [(0, vR 62), (1, vR 20), (2, vR (habit)), (3, vI place), (4, vI x4), (5, vI x5)]) (st' := [vR 20]) B4_94_95 rfl ?_
        refine r_gfix (r := 25) (pc' := 98) D4_95 rfl gf_0_87_20 HN.1 ?_
        refine s_blx (lv' := [(0, vR 62), (1, vR 20), (2, vR (habit)), (3, vI place), (4, vI x4), (5, vI x5)]) (st' := [vI place, vR 25]) B4_98_99 rfl ?_
        refine r_bald (pc' := 100) D4_99 rfl sc_25 (by decide) HN.1 (by omega) ?_
        intro w12 e13 r14
        have b_w12 := HN.2 25 (place) 0 1 rfl
        rw [← e13] at b_w12; clear r14
        refine r_ifc (tgt := 105) (pc' := 103) D4_100 rfl rfl (by unfold inR; omega) (fun (c15 : w12 ≠ 0) => ?_) (fun (c15 : ¬ (w12 ≠ 0)) => ?_)
        · refine s_blx (lv' := [(0, vR 62), (1, vR 20), (2, vR (habit)), (3, vI place), (4, vI x4), (5, vI x5)]) (st' := [vR 62]) B4_105_106 rfl ?_
          refine r_gint (ki := 3) (pc' := 109) D4_106 rfl gf_0_25_62 rfl HN.1 ?_
          intro w16 e17 r18
          unfold inR at r18
          refine r_sIp (args := [vI w16]) (rest := []) (pc' := 112) D4_109 rfl ck_0_static_64 TE42 rfl (Nat.le_of_ble_eq_true rfl) ⟨Nat.le_of_ble_eq_true rfl, Nat.le_of_ble_eq_true rfl⟩ (by decide) (dp_0 hd rfl) (k42 E (dp_n hd rfl) HN w16 (by omega)) ?_
          intro v19 q26
          obtain ⟨q21, q22, q23, q24, q25⟩ := q26
          refine s_blx (lv' := [(0, vR 62), (1, vR 20), (2, vR (habit)), (3, vI place), (4, vI x4), (5, vI x5)]) (st' := [vI 3, vI v19]) B4_112_113 rfl ?_
          refine r_icmp (tgt := 120) (pc' := 116) D4_113 rfl rfl (by unfold inR; omega) (fun (c27 : v19 ≠ 3) => ?_) (fun (c27 : ¬ (v19 ≠ 3)) => ?_)
          · refine s_blx (lv' := [(0, vR 62), (1, vR 20), (2, vR (habit)), (3, vI place), (4, vI x4), (5, vI x5)]) (st' := [vI 3]) B4_120_121 rfl ?_
            exact r_iretI D4_121 rfl (⟨HN, fN, by omega, by omega⟩)
          · refine s_blx (lv' := [(0, vR 62), (1, vR 20), (2, vR (habit)), (3, vI place), (4, vI x4), (5, vI x5)]) (st' := [vI 4]) B4_116_117 rfl ?_
            refine r_goto (tgt := 121) D4_117 rfl ?_
            exact r_iretI D4_121 rfl (⟨HN, fN, by omega, by omega⟩)
        · refine s_blx (lv' := [(0, vR 62), (1, vR 20), (2, vR (habit)), (3, vI place), (4, vI x4), (5, vI x5)]) (st' := [vI 0]) B4_103_104 rfl ?_
          exact r_iretI D4_104 rfl (⟨HN, fN, by omega, by omega⟩)
      · refine s_blx (lv' := [(0, vR 62), (1, vR 20), (2, vR (habit)), (3, vI place), (4, vI x4), (5, vI x5)]) (st' := [vI 1]) B4_92_93 rfl ?_
        exact r_iretI D4_93 rfl (⟨HN, fN, by omega, fun _ => by have q := nz_ne (knz (by omega)); omega⟩)
    · refine s_blx (lv' := [(0, vR 62), (1, vR 20), (2, vR (habit)), (3, vI place), (4, vI x4), (5, vI x5)]) (st' := [vR (habit)]) B4_16_17 rfl ?_
      refine r_gfH (k := 1) (a := habit + 2) (pc' := 20) D4_17 rfl (by decide) fi_0_127 (by decide) ((h0.fr fN rfl)) ((h0.fr fN rfl)).2.2.2.2.1.2.1 ?_
      refine s_blx (lv' := [(0, vR 62), (1, vR 20), (2, vR (habit)), (3, vI place), (4, vI x4), (5, vI x5)]) (st' := [vI x5, vR ((habit + 2))]) B4_20_22 rfl ?_
      refine r_ialdD (n := nh) (pc' := 23) D4_22 rfl (((h0.fr fN rfl)).2.2.2.2.2.2.1) (by have q := ((h0.fr fN rfl)).2.1; omega) (by omega) ?_
      intro w28 e29 r30; unfold inR at r30
      have kc_w28 := ((h0.fr fN rfl)).2.2.2.2.2.2.2.2.2 x5 (by omega) (by omega)
      rw [← e29] at kc_w28
      refine s_blx (lv' := [(6, vI w28), (0, vR 62), (1, vR 20), (2, vR (habit)), (3, vI place), (4, vI x4), (5, vI x5)]) (st' := [vR (habit), vR 20, vR 62]) B4_23_28 rfl ?_
      refine r_gfH (k := 0) (a := habit + 1) (pc' := 31) D4_28 rfl (by decide) fi_0_122 (by decide) ((h0.fr fN rfl)) ((h0.fr fN rfl)).2.2.2.2.1.1 ?_
      refine s_blx (lv' := [(6, vI w28), (0, vR 62), (1, vR 20), (2, vR (habit)), (3, vI place), (4, vI x4), (5, vI x5)]) (st' := [vI x5, vR ((habit + 1)), vR 20, vR 62]) B4_31_33 rfl ?_
      refine r_ialdD (n := nh) (pc' := 34) D4_33 rfl (((h0.fr fN rfl)).2.2.2.2.2.1) (by have q := ((h0.fr fN rfl)).2.1; omega) (by omega) ?_
      intro w31 e32 r33; unfold inR at r33
      refine s_blx (lv' := [(6, vI w28), (0, vR 62), (1, vR 20), (2, vR (habit)), (3, vI place), (4, vI x4), (5, vI x5)]) (st' := [vI place, vI w31, vR 20, vR 62]) B4_34_35 rfl ?_
      refine r_vIp (c := 62) (args := [vR 20, vI w31, vI place]) (rest := []) (pc' := 38) D4_35 rfl ck_0_virtual_130 TE5 rfl (Nat.le_of_ble_eq_true rfl) ⟨Nat.le_of_ble_eq_true rfl, Nat.le_of_ble_eq_true rfl⟩ sc_62 ⟨rfl, by decide⟩ HN.1 (dp_0 hd rfl) (k5_62_20x E (dp_n hd rfl) HN w31 place (by omega) (by omega) (by omega)) ?_
      intro v34 q38
      obtain ⟨q36, q37⟩ := q38
      refine s_blx (lv' := [(7, vI v34), (6, vI w28), (0, vR 62), (1, vR 20), (2, vR (habit)), (3, vI place), (4, vI x4), (5, vI x5)]) (st' := [vI (-1), vI v34]) B4_38_43 rfl ?_
      refine r_icmp (tgt := 71) (pc' := 46) D4_43 rfl rfl (by unfold inR; omega) (fun (c39 : v34 = (-1)) => ?_) (fun (c39 : ¬ (v34 = (-1))) => ?_)
      · refine s_blx (lv' := [(5, vI (x5 + 1)), (4, vI w28), (7, vI v34), (6, vI w28), (0, vR 62), (1, vR 20), (2, vR (habit)), (3, vI place)]) (st' := []) B4_71_78 rfl ?_
        refine r_goto (tgt := 6) D4_78 rfl ?_
        refine r_loc (lv' := [(0, vR 62), (1, vR 20), (2, vR (habit)), (3, vI place), (4, vI w28), (5, vI (x5 + 1))]) ⟨rfl, rfl, rfl, rfl, rfl, rfl, trivial⟩ rfl rfl ?_
        exact ih w28 (x5 + 1) N HN fN (by omega) (by omega) (by omega) (by omega) (by omega) (by omega) (by omega) (by omega) (by omega) (by omega)
      · refine s_blx (lv' := [(7, vI v34), (6, vI w28), (0, vR 62), (1, vR 20), (2, vR (habit)), (3, vI place), (4, vI x4), (5, vI x5)]) (st' := [vI w28, vI x4]) B4_46_50 rfl ?_
        refine r_icmp (tgt := 68) (pc' := 53) D4_50 rfl rfl (by unfold inR; omega) (fun (c40 : x4 = w28) => ?_) (fun (c40 : ¬ (x4 = w28)) => ?_)
        · refine s_blx (lv' := [(7, vI v34), (6, vI w28), (0, vR 62), (1, vR 20), (2, vR (habit)), (3, vI place), (4, vI x4), (5, vI x5)]) (st' := [vI v34]) B4_68_70 rfl ?_
          exact r_iretI D4_70 rfl (⟨HN, fN, by omega, by omega⟩)
        · refine s_blx (lv' := [(7, vI v34), (6, vI w28), (0, vR 62), (1, vR 20), (2, vR (habit)), (3, vI place), (4, vI x4), (5, vI x5)]) (st' := [vR (habit), vR 62]) B4_53_55 rfl ?_
          refine r_gfH (k := 2) (a := habit + 3) (pc' := 58) D4_55 rfl (by decide) fi_0_134 (by decide) ((h0.fr fN rfl)) ((h0.fr fN rfl)).2.2.2.2.1.2.2 ?_
          refine s_blx (lv' := [(7, vI v34), (6, vI w28), (0, vR 62), (1, vR 20), (2, vR (habit)), (3, vI place), (4, vI x4), (5, vI x5)]) (st' := [vI w28, vI x4, vR ((habit + 3)), vR 62]) B4_58_62 rfl ?_
          refine r_vI (c := 62) (args := [vR ((habit + 3)), vI x4, vI w28]) (rest := []) (pc' := 65) D4_62 rfl ck_0_virtual_137 TE6 rfl (Nat.le_of_ble_eq_true rfl) ⟨Nat.le_of_ble_eq_true rfl, Nat.le_of_ble_eq_true rfl⟩ sc_62 ⟨rfl, by decide⟩ HN.1 (dp_0 hd rfl) (k6_62x E (dp_n hd rfl) HN (habit + 3) x4 w28 nc (((h0.fr fN rfl)).ic) (by omega) (by omega) (by omega)) ?_
          intro v41 M42 q46
          obtain ⟨H43, f44, q45⟩ := q46
          have f47 := fN.tr (f44.up rfl)
          refine r_ifc (tgt := 71) (pc' := 68) D4_65 rfl rfl (by unfold inR; omega) (fun (c48 : v41 = 0) => ?_) (fun (c48 : ¬ (v41 = 0)) => ?_)
          · refine s_blx (lv' := [(5, vI (x5 + 1)), (4, vI w28), (7, vI v34), (6, vI w28), (0, vR 62), (1, vR 20), (2, vR (habit)), (3, vI place)]) (st' := []) B4_71_78 rfl ?_
            refine r_goto (tgt := 6) D4_78 rfl ?_
            refine r_loc (lv' := [(0, vR 62), (1, vR 20), (2, vR (habit)), (3, vI place), (4, vI w28), (5, vI (x5 + 1))]) ⟨rfl, rfl, rfl, rfl, rfl, rfl, trivial⟩ rfl rfl ?_
            have g49 : gi M42 62 3 = gi N 62 3 := (f44.g rfl).trans (rfl)
            have g50 : gi M42 62 5 = gi N 62 5 := (f44.g rfl).trans (rfl)
            have g51 : gi M42 64 0 = gi N 64 0 := (f44.g rfl).trans (rfl)
            exact ih w28 (x5 + 1) M42 H43 f47 (by omega) (by omega) (by omega) (by omega) (by omega) (by omega) (by omega) (by omega) (by omega) (by omega)
          · refine s_blx (lv' := [(7, vI v34), (6, vI w28), (0, vR 62), (1, vR 20), (2, vR (habit)), (3, vI place), (4, vI x4), (5, vI x5)]) (st' := [vI v34]) B4_68_70 rfl ?_
            exact r_iretI D4_70 rfl (⟨H43, f47, by omega, by omega⟩)
set_option maxRecDepth 4000 in
theorem k4_62_20x {base : Nat} {X : Nat → Option mC} {G : Nat → Value} (E : EnvOK base X G) {d : Nat} (hd : 3 ≤ d) {M : mH} (H : HI base M) (habit : Nat) (place : Int) (nh : Int) (nc : Int) (h0 : IsHab base habit nh nc M) (h1 : 0 ≤ nh ∧ nh ≤ 12) (h2 : 0 ≤ nc ∧ nc ≤ 400) (h3 : 0 ≤ place ∧ place ≤ 144) (h4 : gi M 62 5 = -1 ∨ (20 ≤ gi M 62 5 ∧ gi M 62 5 ≤ 22)) (h5 : gi M 64 0 ≠ 0 → gi M 62 3 ≤ 110) : sOk base X G d T4 [vR 62, vR 20, vR (habit), vI place] M (pI (fun v M' => HI base M' ∧ Fr [(65, 0)] M M' ∧ (0 ≤ v ∧ v ≤ 22) ∧ (v = 1 ∨ v = 2 → gi M 62 3 ≤ 110))) := by
  have f0 : Fr [(65, 0)] M M := Fr.rf
  refine sOk.of (show sRn base X G d T4 0 [(0, vR 62), (1, vR 20), (2, vR (habit)), (3, vI place)] [] M _ from ?_)
  refine s_blx (lv' := [(5, vI 0), (4, vI 0), (0, vR 62), (1, vR 20), (2, vR (habit)), (3, vI place)]) (st' := []) B4_0_6 rfl ?_
  refine r_loc (lv' := [(0, vR 62), (1, vR 20), (2, vR (habit)), (3, vI place), (4, vI 0), (5, vI 0)]) ⟨rfl, rfl, rfl, rfl, rfl, rfl, trivial⟩ rfl rfl ?_
  have g1 : gi M 62 3 = gi M 62 3 := rfl
  have g2 : gi M 62 5 = gi M 62 5 := rfl
  have g3 : gi M 64 0 = gi M 64 0 := rfl
  exact (L_k4_62_20x E hd H habit place nh nc h0 h1 h2 h3 h4 h5 (((12 - 0) * 1 + 0 : Int) + 1).toNat) 0 0 M H f0 (by omega) (by omega) (by omega) (by omega) (by omega) (by omega) (by omega) (by omega) (by omega) (by omega)
set_option maxRecDepth 4000 in
theorem L_k1_62_20x {base : Nat} {X : Nat → Option mC} {G : Nat → Value} (E : EnvOK base X G) {d : Nat} (hd : 5 ≤ d) {M : mH} (H : HI base M) (habit : Nat) (sentence : Int) (nh : Int) (nc : Int) (h0 : IsHab base habit nh nc M) (h1 : 0 ≤ nh ∧ nh ≤ 12) (h2 : 0 ≤ nc ∧ nc ≤ 400) (h3 : 0 ≤ sentence ∧ sentence ≤ 15) : ∀ mz : Nat, (∀ (x4 x5 sd0 : Int) (N : mH), HI base N → Fr [(62, 2), (62, 3), (62, 4), (62, 6), (63, 0), (64, 0), (65, 0)] M N → (gi N 62 3 = sd0) → (-2147483648 ≤ sd0 ∧ sd0 ≤ 2147483647) → (0 ≤ x5) → (x5 ≤ 12) → (12 - x5) * 1 + 0 < (mz : Int) → sRn base X G d T1 21 [(0, vR 62), (1, vR 20), (2, vR (habit)), (3, vI sentence), (4, vI x4), (5, vI x5)] [] N (s_Q base (pI (fun v M' => HI base M' ∧ Fr [(62, 2), (62, 3), (62, 4), (62, 6), (63, 0), (64, 0), (65, 0)] M M' ∧ (-2147483648 ≤ v ∧ v ≤ 2147483647))))) := by
  have f0 : Fr [(62, 2), (62, 3), (62, 4), (62, 6), (63, 0), (64, 0), (65, 0)] M M := Fr.rf
  intro mz
  induction mz with
  | zero => exact fun x4 x5 sd0 N _ _ z0 z1 z2 z3 z4 => by omega
  | succ mz ih =>
    intro x4 x5 sd0 N HN fN i0 i1 i2 i3 hmu
    refine s_blx (lv' := [(0, vR 62), (1, vR 20), (2, vR (habit)), (3, vI sentence), (4, vI x4), (5, vI x5)]) (st' := [vI 12, vI x5]) B1_21_25 rfl ?_
    refine r_icmp (tgt := 164) (pc' := 28) D1_25 rfl rfl (by unfold inR; omega) (fun (c17 : 12 ≤ x5) => ?_) (fun (c17 : ¬ (12 ≤ x5)) => ?_)
    · refine s_blx (lv' := [(0, vR 62), (1, vR 20), (2, vR (habit)), (3, vI sentence), (4, vI x4), (5, vI x5)]) (st' := [vI x4]) B1_164_166 rfl ?_
      refine r_norm ?_
      intro z18 r19 _; unfold inR at r19
      exact r_iretI D1_166 rfl (⟨HN, fN, by omega⟩)
    · refine s_blx (lv' := [(0, vR 62), (1, vR 20), (2, vR (habit)), (3, vI sentence), (4, vI x4), (5, vI x5)]) (st' := [vI x5, vI sentence, vR 20]) B1_28_32 rfl ?_
      refine r_vIp (c := 20) (args := [vI sentence, vI x5]) (rest := []) (pc' := 35) D1_32 rfl ck_0_virtual_38 TE84 rfl (Nat.le_of_ble_eq_true rfl) ⟨Nat.le_of_ble_eq_true rfl, Nat.le_of_ble_eq_true rfl⟩ sc_20 ⟨rfl, by decide⟩ HN.1 (dp_0 hd rfl) (k84_20 E (dp_n hd rfl) HN sentence x5 (by omega) (by omega)) ?_
      intro v20 q23
      have q22 := q23; clear q23
      refine s_blx (lv' := [(6, vI v20), (0, vR 62), (1, vR 20), (2, vR (habit)), (3, vI sentence), (4, vI x4), (5, vI x5)]) (st' := [vI x5, vI v20, vR 20, vR 62]) B1_35_43 rfl ?_
      have g24 : gi N 62 3 = sd0 := i0
      refine r_vV (c := 62) (args := [vR 20, vI v20, vI x5]) (rest := []) (pc' := 46) D1_43 rfl ck_0_virtual_44 TE2 rfl (Nat.le_of_ble_eq_true rfl) ⟨Nat.le_of_ble_eq_true rfl, Nat.le_of_ble_eq_true rfl⟩ sc_62 ⟨rfl, by decide⟩ HN.1 (dp_0 hd rfl) (k2_62_20x E (dp_n hd rfl) HN v20 x5 (by omega) (by omega)) ?_
      intro M26 q31
      obtain ⟨H27, f28, q29, q30⟩ := q31
      have f32 := fN.tr (f28.up rfl)
      obtain ⟨t33, ht34⟩ : ∃ q, q = gi M26 62 5 := ⟨_, rfl⟩
      have b_t33 := (H27.1.int sc_62 (i := 5) (by decide) (by decide) rfl).2
      unfold inR at b_t33; rw [← ht34] at b_t33
      rw [← ht34] at q29
      refine s_blx (lv' := [(6, vI v20), (0, vR 62), (1, vR 20), (2, vR (habit)), (3, vI sentence), (4, vI x4), (5, vI x5)]) (st' := [vI v20, vR (habit), vR 20, vR 62]) B1_46_51 rfl ?_
      have g35 : gi M26 62 5 = t33 := ht34.symm
      have g36 : gi M26 62 3 = sd0 := (f28.g rfl).trans (i0)
      refine r_vI (c := 62) (args := [vR 20, vR (habit), vI v20]) (rest := []) (pc' := 54) D1_51 rfl ck_0_virtual_48 TE4 rfl (Nat.le_of_ble_eq_true rfl) ⟨Nat.le_of_ble_eq_true rfl, Nat.le_of_ble_eq_true rfl⟩ sc_62 ⟨rfl, by decide⟩ H27.1 (dp_0 hd rfl) (k4_62_20x E (dp_n hd rfl) H27 habit v20 nh nc ((h0.fr f32 rfl)) (by omega) (by omega) (by omega) (by omega) (by omega)) ?_
      intro v37 M38 q43
      obtain ⟨H39, f40, q41, q42⟩ := q43
      have f44 := f32.tr (f40.up rfl)
      refine s_blx (lv' := [(7, vI v37), (6, vI v20), (0, vR 62), (1, vR 20), (2, vR (habit)), (3, vI sentence), (4, vI x4), (5, vI x5)]) (st' := [vR 62]) B1_54_57 rfl ?_
      refine r_gfix (r := 63) (pc' := 60) D1_57 rfl gf_0_13_62 H39.1 ?_
      refine s_blx (lv' := [(7, vI v37), (6, vI v20), (0, vR 62), (1, vR 20), (2, vR (habit)), (3, vI sentence), (4, vI x4), (5, vI x5)]) (st' := [vI v37, vI x5, vR 63]) B1_60_64 rfl ?_
      refine r_iast (pc' := 65) D1_64 rfl sc_63 H39 (by omega) (by unfold inR; omega) trivial ?_
      intro M45 u46 H47 p48
      have f49 := f44.wr u46 rfl
      refine s_blx (lv' := [(7, vI v37), (6, vI v20), (0, vR 62), (1, vR 20), (2, vR (habit)), (3, vI sentence), (4, vI x4), (5, vI x5)]) (st' := [vI (x5 + 1), vR 62]) B1_65_70 rfl ?_
      refine r_pint (ki := 1) (pc' := 73) D1_70 rfl pf_0_17_62 rfl H47 (by unfold inR; omega) (show 0 ≤ (x5 + 1) ∧ (x5 + 1) ≤ 12 by omega) ?_
      intro M50 u51 H52 p53
      have f54 := f49.wr u51 rfl
      refine s_blx (lv' := [(7, vI v37), (6, vI v20), (0, vR 62), (1, vR 20), (2, vR (habit)), (3, vI sentence), (4, vI x4), (5, vI x5)]) (st' := [vR 62, vR 62]) B1_73_75 rfl ?_
      refine r_glong (ki := 2) (pc' := 78) D1_75 rfl gf_0_21_62 rfl H52.1 ?_
      intro w55 e56 r57
      clear r57
      refine s_blx (lv' := [(7, vI v37), (6, vI v20), (0, vR 62), (1, vR 20), (2, vR (habit)), (3, vI sentence), (4, vI x4), (5, vI x5)]) (st' := [vI 5, vL w55, vR 62]) B1_78_79 rfl ?_
      refine r_binLI (pc' := 80) D1_79 rfl rfl ?_
      intro z58 _ _
      refine s_blx (lv' := [(7, vI v37), (6, vI v20), (0, vR 62), (1, vR 20), (2, vR (habit)), (3, vI sentence), (4, vI x4), (5, vI x5)]) (st' := [vI v37, vL z58, vR 62]) B1_80_82 rfl ?_
      refine r_i2l (pc' := 83) D1_82 rfl (by unfold inR; omega) ?_
      refine r_binL (pc' := 84) D1_83 rfl rfl ?_
      intro z60 _ _
      refine r_normL ?_
      intro z62 r63 _; unfold inJ at r63
      refine r_plong (ki := 2) (pc' := 87) D1_84 rfl pf_0_21_62 rfl H52 (by unfold inJ; omega) trivial ?_
      intro M64 u65 H66 p67
      have f68 := f54.wr u65 rfl
      refine s_blx (lv' := [(7, vI v37), (6, vI v20), (0, vR 62), (1, vR 20), (2, vR (habit)), (3, vI sentence), (4, vI x4), (5, vI x5)]) (st' := [vI 4, vI v37]) B1_87_90 rfl ?_
      refine r_icmp (tgt := 107) (pc' := 93) D1_90 rfl rfl (by unfold inR; omega) (fun (c69 : v37 ≠ 4) => ?_) (fun (c69 : ¬ (v37 ≠ 4)) => ?_)
      · refine s_blx (lv' := [(7, vI v37), (6, vI v20), (0, vR 62), (1, vR 20), (2, vR (habit)), (3, vI sentence), (4, vI x4), (5, vI x5)]) (st' := [vR 62, vI v20, vR 20, vI x4]) B1_107_113 rfl ?_
        refine r_gint (ki := 3) (pc' := 116) D1_113 rfl gf_0_25_62 rfl H66.1 ?_
        intro w70 e71 r72
        have e73 : sd0 = w70 := (e71.trans ((u65.gi_ne (by decide) (Or.inr (by decide))).trans ((u51.gi_ne (by decide) (Or.inr (by decide))).trans ((u46.gi_ne (by omega) (Or.inl (by decide))).trans ((f40.g rfl).trans ((f28.g rfl).trans (i0))))))).symm
        subst e73
        refine s_blx (lv' := [(7, vI v37), (6, vI v20), (0, vR 62), (1, vR 20), (2, vR (habit)), (3, vI sentence), (4, vI x4), (5, vI x5)]) (st' := [vI v37, vI sd0, vI v20, vR 20, vI x4]) B1_116_118 rfl ?_
        refine r_vIp (c := 20) (args := [vI v20, vI sd0, vI v37]) (rest := [vI x4]) (pc' := 121) D1_118 rfl ck_0_virtual_57 TE93 rfl (Nat.le_of_ble_eq_true rfl) ⟨Nat.le_of_ble_eq_true rfl, Nat.le_of_ble_eq_true rfl⟩ sc_20 ⟨rfl, by decide⟩ H66.1 (dp_0 hd rfl) (k93_20 E (dp_n hd rfl) H66 v20 sd0 v37 (by omega) (by omega) (by omega) (by omega)) ?_
        intro v74 q77
        have q76 := q77; clear q77
        refine s_blx (lv' := [(4, vI (x4 + v74)), (7, vI v37), (6, vI v20), (0, vR 62), (1, vR 20), (2, vR (habit)), (3, vI sentence), (5, vI x5)]) (st' := [vR 62, vI v20, vR 20, vR 62]) B1_121_129 rfl ?_
        refine r_gint (ki := 3) (pc' := 132) D1_129 rfl gf_0_25_62 rfl H66.1 ?_
        intro w78 e79 r80
        have e81 : sd0 = w78 := (e79.trans ((u65.gi_ne (by decide) (Or.inr (by decide))).trans ((u51.gi_ne (by decide) (Or.inr (by decide))).trans ((u46.gi_ne (by omega) (Or.inl (by decide))).trans ((f40.g rfl).trans ((f28.g rfl).trans (i0))))))).symm
        subst e81
        refine s_blx (lv' := [(4, vI (x4 + v74)), (7, vI v37), (6, vI v20), (0, vR 62), (1, vR 20), (2, vR (habit)), (3, vI sentence), (5, vI x5)]) (st' := [vI v37, vI sd0, vI v20, vR 20, vR 62]) B1_132_134 rfl ?_
        refine r_vIp (c := 20) (args := [vI v20, vI sd0, vI v37]) (rest := [vR 62]) (pc' := 137) D1_134 rfl ck_0_virtual_61 TE89 rfl (Nat.le_of_ble_eq_true rfl) ⟨Nat.le_of_ble_eq_true rfl, Nat.le_of_ble_eq_true rfl⟩ sc_20 ⟨rfl, by decide⟩ H66.1 (dp_0 hd rfl) (k89_20 E (dp_n hd rfl) H66 v20 sd0 v37 (by omega) (by omega) (by omega) (by omega)) ?_
        intro v82 q85
        have q84 := q85; clear q85
        refine r_pint (ki := 3) (pc' := 140) D1_137 rfl pf_0_25_62 rfl H66 (by unfold inR; omega) trivial ?_
        intro M86 u87 H88 p89
        have f90 := f68.wr u87 rfl
        refine s_blx (lv' := [(4, vI (x4 + v74)), (7, vI v37), (6, vI v20), (0, vR 62), (1, vR 20), (2, vR (habit)), (3, vI sentence), (5, vI x5)]) (st' := [vR 62, vI v20, vR 20, vI (x4 + v74)]) B1_140_146 rfl ?_
        refine r_gint (ki := 3) (pc' := 149) D1_146 rfl gf_0_25_62 rfl H88.1 ?_
        intro w91 e92 r93
        have e94 : v82 = w91 := (e92.trans (p89)).symm
        subst e94
        refine r_sIp (args := [vI v82]) (rest := [vI v20, vR 20, vI (x4 + v74)]) (pc' := 152) D1_149 rfl ck_0_static_64 TE42 rfl (Nat.le_of_ble_eq_true rfl) ⟨Nat.le_of_ble_eq_true rfl, Nat.le_of_ble_eq_true rfl⟩ (by decide) (dp_0 hd rfl) (k42 E (dp_n hd rfl) H88 v82 (by omega)) ?_
        intro v95 q102
        obtain ⟨q97, q98, q99, q100, q101⟩ := q102
        refine r_vIp (c := 20) (args := [vI v20, vI v95]) (rest := [vI (x4 + v74)]) (pc' := 155) D1_152 rfl ck_0_virtual_70 TE92 rfl (Nat.le_of_ble_eq_true rfl) ⟨Nat.le_of_ble_eq_true rfl, Nat.le_of_ble_eq_true rfl⟩ sc_20 ⟨rfl, by decide⟩ H88.1 (dp_0 hd rfl) (k92_20 E (dp_n hd rfl) H88 v20 v95 (by omega) (by omega)) ?_
        intro v103 q106
        have q105 := q106; clear q106
        refine s_blx (lv' := [(5, vI (x5 + 1)), (4, vI ((x4 + v74) + v103)), (7, vI v37), (6, vI v20), (0, vR 62), (1, vR 20), (2, vR (habit)), (3, vI sentence)]) (st' := []) B1_155_161 rfl ?_
        refine r_goto (tgt := 21) D1_161 rfl ?_
        refine r_loc (lv' := [(0, vR 62), (1, vR 20), (2, vR (habit)), (3, vI sentence), (4, vI ((x4 + v74) + v103)), (5, vI (x5 + 1))]) ⟨rfl, rfl, rfl, rfl, rfl, rfl, trivial⟩ rfl rfl ?_
        have g107 : gi M86 62 3 = v82 := p89
        exact ih ((x4 + v74) + v103) (x5 + 1) v82 M86 H88 f90 (by omega) (by omega) (by omega) (by omega) (by omega)
      · refine s_blx (lv' := [(7, vI v37), (6, vI v20), (0, vR 62), (1, vR 20), (2, vR (habit)), (3, vI sentence), (4, vI x4), (5, vI x5)]) (st' := [vR 62, vI v20, vR 20, vI x4]) B1_93_99 rfl ?_
        refine r_gint (ki := 3) (pc' := 102) D1_99 rfl gf_0_25_62 rfl H66.1 ?_
        intro w108 e109 r110
        have e111 : sd0 = w108 := (e109.trans ((u65.gi_ne (by decide) (Or.inr (by decide))).trans ((u51.gi_ne (by decide) (Or.inr (by decide))).trans ((u46.gi_ne (by omega) (Or.inl (by decide))).trans ((f40.g rfl).trans ((f28.g rfl).trans (i0))))))).symm
        subst e111
        refine r_vIp (c := 20) (args := [vI v20, vI sd0]) (rest := [vI x4]) (pc' := 105) D1_102 rfl ck_0_virtual_54 TE94 rfl (Nat.le_of_ble_eq_true rfl) ⟨Nat.le_of_ble_eq_true rfl, Nat.le_of_ble_eq_true rfl⟩ sc_20 ⟨rfl, by decide⟩ H66.1 (dp_0 hd rfl) (k94_20 E (dp_n hd rfl) H66 v20 sd0 (by omega) (by omega)) ?_
        intro v112 q115
        have q114 := q115; clear q115
        refine s_blx (lv' := [(7, vI v37), (6, vI v20), (0, vR 62), (1, vR 20), (2, vR (habit)), (3, vI sentence), (4, vI x4), (5, vI x5)]) (st' := [vI (x4 + v112)]) B1_105_106 rfl ?_
        refine r_norm ?_
        intro z116 r117 _; unfold inR at r117
        exact r_iretI D1_106 rfl (⟨H66, f68, by omega⟩)
set_option maxRecDepth 4000 in
theorem k1_62_20x {base : Nat} {X : Nat → Option mC} {G : Nat → Value} (E : EnvOK base X G) {d : Nat} (hd : 5 ≤ d) {M : mH} (H : HI base M) (habit : Nat) (sentence : Int) (nh : Int) (nc : Int) (h0 : IsHab base habit nh nc M) (h1 : 0 ≤ nh ∧ nh ≤ 12) (h2 : 0 ≤ nc ∧ nc ≤ 400) (h3 : 0 ≤ sentence ∧ sentence ≤ 15) : sOk base X G d T1 [vR 62, vR 20, vR (habit), vI sentence] M (pI (fun v M' => HI base M' ∧ Fr [(62, 2), (62, 3), (62, 4), (62, 6), (63, 0), (64, 0), (65, 0)] M M' ∧ (-2147483648 ≤ v ∧ v ≤ 2147483647))) := by
  have f0 : Fr [(62, 2), (62, 3), (62, 4), (62, 6), (63, 0), (64, 0), (65, 0)] M M := Fr.rf
  refine sOk.of (show sRn base X G d T1 0 [(0, vR 62), (1, vR 20), (2, vR (habit)), (3, vI sentence)] [] M _ from ?_)
  refine s_blx (lv' := [(4, vI 0), (0, vR 62), (1, vR 20), (2, vR (habit)), (3, vI sentence)]) (st' := [vI 0, vR 62]) B1_0_5 rfl ?_
  refine r_pint (ki := 3) (pc' := 8) D1_5 rfl pf_0_25_62 rfl H (by unfold inR; omega) trivial ?_
  intro M1 u2 H3 p4
  have f5 := f0.wr u2 rfl
  refine s_blx (lv' := [(4, vI 0), (0, vR 62), (1, vR 20), (2, vR (habit)), (3, vI sentence)]) (st' := [vI 0, vR 62]) B1_8_10 rfl ?_
  refine r_pint (ki := 1) (pc' := 13) D1_10 rfl pf_0_17_62 rfl H3 (by unfold inR; omega) (show 0 ≤ 0 ∧ 0 ≤ 12 by omega) ?_
  intro M6 u7 H8 p9
  have f10 := f5.wr u7 rfl
  refine s_blx (lv' := [(4, vI 0), (0, vR 62), (1, vR 20), (2, vR (habit)), (3, vI sentence)]) (st' := [vL 1, vR 62]) B1_13_15 rfl ?_
  refine r_plong (ki := 2) (pc' := 18) D1_15 rfl pf_0_21_62 rfl H8 (by unfold inJ; omega) trivial ?_
  intro M11 u12 H13 p14
  have f15 := f10.wr u12 rfl
  refine s_blx (lv' := [(5, vI 0), (4, vI 0), (0, vR 62), (1, vR 20), (2, vR (habit)), (3, vI sentence)]) (st' := []) B1_18_21 rfl ?_
  refine r_loc (lv' := [(0, vR 62), (1, vR 20), (2, vR (habit)), (3, vI sentence), (4, vI 0), (5, vI 0)]) ⟨rfl, rfl, rfl, rfl, rfl, rfl, trivial⟩ rfl rfl ?_
  have g16 : gi M11 62 3 = 0 := (u12.gi_ne (by decide) (Or.inr (by decide))).trans ((u7.gi_ne (by decide) (Or.inr (by decide))).trans (p4))
  exact (L_k1_62_20x E hd H habit sentence nh nc h0 h1 h2 h3 (((12 - 0) * 1 + 0 : Int) + 1).toNat) 0 0 0 M11 H13 f15 (by omega) (by omega) (by omega) (by omega) (by omega)
