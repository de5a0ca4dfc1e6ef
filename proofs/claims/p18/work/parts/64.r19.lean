/-! The texts that are kept are texts. -/
noncomputable def GK (M : mH) : Prop := ∀ t : Int, 0 ≤ t → t < gi M 78 471 → AC 78 (483 + 400 * t) (gi M 78 (475 + t)) M
theorem AC.of {c : Nat} {o n : Int} {M M' : mH} (h : AC c o n M) (e : ∀ j : Int, 0 ≤ j → j < n → gi M' c (o + j) = gi M c (o + j)) : AC c o n M' := by
  obtain ⟨F, h0, h1, h2⟩ := h
  exact ⟨F, h0, fun j a b => by rw [e j a b]; exact h1 j a b, h2⟩
theorem GK.of {M M' : mH} (h : GK M) (e : ∀ i : Int, gi M' 78 i = gi M 78 i) : GK M' := by
  intro t h1 h2
  rw [e] at h2 ⊢
  exact (h t h1 h2).of (fun j _ _ => e _)
theorem GK.fr {L : List (Nat × Nat)} {M M' : mH} (h : GK M) (f : Fr L M M') (hc : s_al L (fun c => c != 78) = true) : GK M' := h.of (fun _ => f.g (s_al_ok hc (by simp)))
theorem GK.wr {M M' : mH} {c i : Nat} {v : Value} (h : GK M) (u : Wr M c i v M') (hc : c ≠ 78) : GK M' := h.of (fun j => by unfold gi; rw [u.ne (Or.inl (Ne.symm hc))])
theorem GK.w {M M' : mH} {i : Int} {v : Value} (h : GK M) (u : Wr M 78 i.toNat v M') (hi : 0 ≤ i ∧ i < 475 ∧ i ≠ 471) {base : Nat} (_ : HI base M) : GK M' := by
  intro t h1 h2
  rw [u.gi_ne hi.1 (Or.inr (by omega))] at h2 ⊢
  exact (h t h1 h2).of (fun j _ _ => u.gi_ne hi.1 (Or.inr (by omega)))
theorem LN.w {M M' : mH} {i : Int} {v : Value} (h : LN M) (u : Wr M 78 i.toNat v M') (hi : 0 ≤ i ∧ i ≠ 469 ∧ (i < 135 ∨ 391 ≤ i ∨ (i - 135) % 16 ≠ 0)) {base : Nat} (H : HI base M) : LN M' := by
  have hm := H.2 78 469 0 16 (rk_many (by omega))
  intro s h1 h2
  rw [u.gi_ne hi.1 (Or.inr (by omega))] at h2
  rw [u.gi_ne hi.1 (Or.inr (by omega))]
  exact h s h1 h2
theorem dl_ne {F C : Int → Int} {a n : Int} (h : ∀ j : Int, a ≤ j → j < a + n → F (j + 1) = dl (F j) (C j)) (hn : F (a + n) ≠ 0) : ∀ k : Nat, (k : Int) ≤ n → F (a + n - k) ≠ 0 := by
  intro k
  induction k with
  | zero => intro _; rw [show a + n - ((0 : Nat) : Int) = a + n by omega]; exact hn
  | succ k ih =>
    intro hk e
    apply ih (by omega)
    have q := h (a + n - ((k + 1 : Nat) : Int)) (by omega) (by omega)
    rw [e, dl_0] at q
    rw [show a + n - (k : Int) = a + n - ((k + 1 : Nat) : Int) + 1 by omega]
    exact q
theorem ac_fun {M : mH} {a n : Int} (h : AC 78 (483 + a) n M) : ∃ F C : Int → Int, KC C M ∧ F a = 1 ∧ (∀ j : Int, a ≤ j → j < a + n → F (j + 1) = dl (F j) (C j) ∧ F (j + 1) ≠ 0) ∧ (F (a + n) = 2 ∨ F (a + n) = 20 ∨ F (a + n) = 2001) := by
  obtain ⟨F, h0, h1, h2⟩ := h
  have st : ∀ j : Int, a ≤ j → j < a + n → (fun i => F (i - a)) (j + 1) = dl ((fun i => F (i - a)) j) ((fun i => gi M 78 (483 + i)) j) := by
    intro j a1 a2
    have q := h1 (j - a) (by omega) (by omega)
    show F (j + 1 - a) = dl (F (j - a)) (gi M 78 (483 + j))
    rw [show j + 1 - a = j - a + 1 by omega, q, show 483 + a + (j - a) = 483 + j by omega]
  have en : (fun i => F (i - a)) (a + n) = F n := by
    show F (a + n - a) = F n
    rw [show a + n - a = n by omega]
  refine ⟨fun i => F (i - a), fun i => gi M 78 (483 + i), fun _ => rfl, ?_, fun j a1 a2 => ⟨st j a1 a2, ?_⟩, ?_⟩
  · show F (a - a) = 1
    rw [Int.sub_self]; exact h0
  · have q := dl_ne (F := fun i => F (i - a)) (C := fun i => gi M 78 (483 + i)) (a := a) (n := n) st (by show F (a + n - a) ≠ 0; rw [show a + n - a = n by omega]; omega) (n - (j + 1 - a)).toNat (by omega)
    rw [show a + n - (((n - (j + 1 - a)).toNat : Nat) : Int) = j + 1 by omega] at q
    exact q
  · rw [en]; exact h2
theorem cl_next {F C : Int → Int} {e t : Int} (hd : t < e → F (t + 1) = dl (F t) (C t) ∧ F (t + 1) ≠ 0) (hx : (F t = 2 ∧ (t < e → C t ≠ 7)) ∨ ((F t = 20 ∨ (F t = 2001 ∧ (t < e → C t ≠ 142 ∧ C t ≠ 143 ∧ C t ≠ 145 ∧ C t ≠ 147))) ∧ (t < e → C t ≠ 8 ∧ C t ≠ 9))) : t < e → F (t + 1) = 1 := by
  intro h
  have q := hd h
  have hn : dl (F t) (C t) ≠ 0 := by rw [← q.1]; exact q.2
  have hc : C t = 159 := by
    rcases hx with ⟨x1, x2⟩ | ⟨x1, x2⟩
    · have := e_I x1 hn
      have := x2 h
      omega
    · have y := e_B (x := F t) (c := C t) (p := 0) (by omega) (by omega) (by rcases x1 with x1 | ⟨x1, x3⟩; exact Or.inl (by omega); exact Or.inr ⟨by omega, x3 h⟩) (x2 h).1 (x2 h).2 hn
      omega
  have hs := d_sc (x := F t) (by rcases hx with ⟨x1, _⟩ | ⟨x1 | ⟨x1, _⟩, _⟩; exact Or.inl x1; exact Or.inr (Or.inl x1); exact Or.inr (Or.inr x1))
  rw [q.1, hc]; exact hs
noncomputable def T244 : mT := (11, yX11_asksAt, cX11_asksAt, 4, none)
set_option maxRecDepth 10000 in
theorem TE244 : sy_m[244]? = some T244 := rfl
theorem B244_0_2 : s_dk T244.2.2.1 0 [.aload_n 0, .aload_n 0] 2 = true := by decide +kernel
theorem D244_2 : decode T244.2.2.1 2 = .ok (.getfield 24, 3) := by decide +kernel
theorem B244_5_6 : s_dk T244.2.2.1 5 [.iload_n 1] 6 = true := by decide +kernel
theorem D244_6 : decode T244.2.2.1 6 = .ok (.iaload, 1) := by decide +kernel
theorem B244_7_8 : s_dk T244.2.2.1 7 [.iconst 3] 8 = true := by decide +kernel
theorem D244_8 : decode T244.2.2.1 8 = .ok (.if_icmp .ge 16, 3) := by decide +kernel
theorem B244_24_25 : s_dk T244.2.2.1 24 [.iconst (-1)] 25 = true := by decide +kernel
theorem D244_25 : decode T244.2.2.1 25 = .ok (.putfield 212, 3) := by decide +kernel
theorem B244_28_29 : s_dk T244.2.2.1 28 [.aload_n 0] 29 = true := by decide +kernel
theorem D244_29 : decode T244.2.2.1 29 = .ok (.getfield 87, 3) := by decide +kernel
theorem B244_32_35 : s_dk T244.2.2.1 32 [.iconst 0, .aload_n 0, .iload_n 1] 35 = true := by decide +kernel
theorem D244_35 : decode T244.2.2.1 35 = .ok (.invokevirtual 231, 3) := by decide +kernel
theorem D244_38 : decode T244.2.2.1 38 = .ok (.iastore, 1) := by decide +kernel
theorem B244_39_40 : s_dk T244.2.2.1 39 [.aload_n 0] 40 = true := by decide +kernel
theorem D244_40 : decode T244.2.2.1 40 = .ok (.getfield 87, 3) := by decide +kernel
theorem B244_43_46 : s_dk T244.2.2.1 43 [.iconst 1, .aload_n 0, .iconst 0] 46 = true := by decide +kernel
theorem D244_46 : decode T244.2.2.1 46 = .ok (.invokevirtual 141, 3) := by decide +kernel
theorem D244_49 : decode T244.2.2.1 49 = .ok (.iastore, 1) := by decide +kernel
theorem B244_50_51 : s_dk T244.2.2.1 50 [.aload_n 0] 51 = true := by decide +kernel
theorem D244_51 : decode T244.2.2.1 51 = .ok (.getfield 87, 3) := by decide +kernel
theorem B244_54_56 : s_dk T244.2.2.1 54 [.iconst 2, .aload_n 0] 56 = true := by decide +kernel
theorem D244_56 : decode T244.2.2.1 56 = .ok (.getfield 24, 3) := by decide +kernel
theorem B244_59_60 : s_dk T244.2.2.1 59 [.iload_n 1] 60 = true := by decide +kernel
theorem D244_60 : decode T244.2.2.1 60 = .ok (.iaload, 1) := by decide +kernel
theorem D244_61 : decode T244.2.2.1 61 = .ok (.iastore, 1) := by decide +kernel
theorem B244_62_63 : s_dk T244.2.2.1 62 [.aload_n 0] 63 = true := by decide +kernel
theorem D244_63 : decode T244.2.2.1 63 = .ok (.getfield 87, 3) := by decide +kernel
theorem B244_66_68 : s_dk T244.2.2.1 66 [.iconst 3, .aload_n 0] 68 = true := by decide +kernel
theorem D244_68 : decode T244.2.2.1 68 = .ok (.getfield 212, 3) := by decide +kernel
theorem B244_71_72 : s_dk T244.2.2.1 71 [.iconst (-1)] 72 = true := by decide +kernel
theorem D244_72 : decode T244.2.2.1 72 = .ok (.if_icmp .ne 7, 3) := by decide +kernel
theorem B244_75_76 : s_dk T244.2.2.1 75 [.iconst 0] 76 = true := by decide +kernel
theorem D244_76 : decode T244.2.2.1 76 = .ok (.goto 27, 3) := by decide +kernel
theorem D244_103 : decode T244.2.2.1 103 = .ok (.iastore, 1) := by decide +kernel
theorem B244_104_105 : s_dk T244.2.2.1 104 [.aload_n 0] 105 = true := by decide +kernel
theorem D244_105 : decode T244.2.2.1 105 = .ok (.getfield 87, 3) := by decide +kernel
theorem B244_108_110 : s_dk T244.2.2.1 108 [.iconst 4, .aload_n 0] 110 = true := by decide +kernel
theorem D244_110 : decode T244.2.2.1 110 = .ok (.getfield 212, 3) := by decide +kernel
theorem B244_113_114 : s_dk T244.2.2.1 113 [.iconst (-1)] 114 = true := by decide +kernel
theorem D244_114 : decode T244.2.2.1 114 = .ok (.if_icmp .ne 7, 3) := by decide +kernel
theorem B244_117_118 : s_dk T244.2.2.1 117 [.iconst 0] 118 = true := by decide +kernel
theorem D244_118 : decode T244.2.2.1 118 = .ok (.goto 15, 3) := by decide +kernel
theorem D244_133 : decode T244.2.2.1 133 = .ok (.iastore, 1) := by decide +kernel
theorem B244_134_135 : s_dk T244.2.2.1 134 [.aload_n 0] 135 = true := by decide +kernel
theorem D244_135 : decode T244.2.2.1 135 = .ok (.getfield 87, 3) := by decide +kernel
theorem B244_138_140 : s_dk T244.2.2.1 138 [.iconst 5, .iload_n 2] 140 = true := by decide +kernel
theorem D244_140 : decode T244.2.2.1 140 = .ok (.iastore, 1) := by decide +kernel
theorem B244_141_142 : s_dk T244.2.2.1 141 [.aload_n 0] 142 = true := by decide +kernel
theorem D244_142 : decode T244.2.2.1 142 = .ok (.getfield 87, 3) := by decide +kernel
theorem B244_145_148 : s_dk T244.2.2.1 145 [.bipush 6, .aload_n 0] 148 = true := by decide +kernel
theorem D244_148 : decode T244.2.2.1 148 = .ok (.getfield 13, 3) := by decide +kernel
theorem B244_151_154 : s_dk T244.2.2.1 151 [.sipush 474] 154 = true := by decide +kernel
theorem D244_154 : decode T244.2.2.1 154 = .ok (.iaload, 1) := by decide +kernel
theorem D244_155 : decode T244.2.2.1 155 = .ok (.iastore, 1) := by decide +kernel
theorem B244_156_157 : s_dk T244.2.2.1 156 [.aload_n 0] 157 = true := by decide +kernel
theorem D244_157 : decode T244.2.2.1 157 = .ok (.getfield 87, 3) := by decide +kernel
theorem B244_160_163 : s_dk T244.2.2.1 160 [.bipush 7, .iconst 0] 163 = true := by decide +kernel
theorem D244_163 : decode T244.2.2.1 163 = .ok (.iastore, 1) := by decide +kernel
theorem B244_164_166 : s_dk T244.2.2.1 164 [.iconst 0, .istore_n 3] 166 = true := by decide +kernel
theorem B244_11_13 : s_dk T244.2.2.1 11 [.aload_n 0, .aload_n 0] 13 = true := by decide +kernel
theorem D244_13 : decode T244.2.2.1 13 = .ok (.getfield 24, 3) := by decide +kernel
theorem B244_16_17 : s_dk T244.2.2.1 16 [.iload_n 1] 17 = true := by decide +kernel
theorem D244_17 : decode T244.2.2.1 17 = .ok (.iaload, 1) := by decide +kernel
theorem D244_18 : decode T244.2.2.1 18 = .ok (.invokevirtual 206, 3) := by decide +kernel
theorem D244_21 : decode T244.2.2.1 21 = .ok (.goto 4, 3) := by decide +kernel
theorem B244_79_81 : s_dk T244.2.2.1 79 [.aload_n 0, .aload_n 0] 81 = true := by decide +kernel
theorem D244_81 : decode T244.2.2.1 81 = .ok (.getfield 194, 3) := by decide +kernel
theorem B244_84_85 : s_dk T244.2.2.1 84 [.aload_n 0] 85 = true := by decide +kernel
theorem D244_85 : decode T244.2.2.1 85 = .ok (.getfield 212, 3) := by decide +kernel
theorem B244_88_89 : s_dk T244.2.2.1 88 [.aload_n 0] 89 = true := by decide +kernel
theorem D244_89 : decode T244.2.2.1 89 = .ok (.invokevirtual 421, 3) := by decide +kernel
theorem ck_11_virtual_421 : m_call 11 (.invokevirtual 421) = some (0, 242, 0) := by decide +kernel
theorem D244_92 : decode T244.2.2.1 92 = .ok (.invokevirtual 177, 3) := by decide +kernel
theorem B244_95_99 : s_dk T244.2.2.1 95 [.bipush 100, .imul, .aload_n 0] 99 = true := by decide +kernel
theorem D244_99 : decode T244.2.2.1 99 = .ok (.getfield 197, 3) := by decide +kernel
theorem D244_102 : decode T244.2.2.1 102 = .ok (.idiv, 1) := by decide +kernel
theorem B244_121_122 : s_dk T244.2.2.1 121 [.aload_n 0] 122 = true := by decide +kernel
theorem D244_122 : decode T244.2.2.1 122 = .ok (.getfield 30, 3) := by decide +kernel
theorem B244_125_126 : s_dk T244.2.2.1 125 [.aload_n 0] 126 = true := by decide +kernel
theorem D244_126 : decode T244.2.2.1 126 = .ok (.getfield 212, 3) := by decide +kernel
theorem D244_129 : decode T244.2.2.1 129 = .ok (.iaload, 1) := by decide +kernel
theorem D244_130 : decode T244.2.2.1 130 = .ok (.invokestatic 174, 3) := by decide +kernel
theorem B244_166_168 : s_dk T244.2.2.1 166 [.iload_n 3, .iconst 3] 168 = true := by decide +kernel
theorem D244_168 : decode T244.2.2.1 168 = .ok (.if_icmp .ge 33, 3) := by decide +kernel
theorem B244_171_172 : s_dk T244.2.2.1 171 [.aload_n 0] 172 = true := by decide +kernel
theorem D244_172 : decode T244.2.2.1 172 = .ok (.getfield 87, 3) := by decide +kernel
theorem B244_175_178 : s_dk T244.2.2.1 175 [.bipush 7, .dup2] 178 = true := by decide +kernel
theorem D244_178 : decode T244.2.2.1 178 = .ok (.iaload, 1) := by decide +kernel
theorem B244_179_182 : s_dk T244.2.2.1 179 [.aload_n 0, .iload_n 1, .iload_n 3] 182 = true := by decide +kernel
theorem D244_182 : decode T244.2.2.1 182 = .ok (.invokevirtual 221, 3) := by decide +kernel
theorem D244_185 : decode T244.2.2.1 185 = .ok (.ifCond .eq 7, 3) := by decide +kernel
theorem B244_192_194 : s_dk T244.2.2.1 192 [.iconst 0, .iadd] 194 = true := by decide +kernel
theorem D244_194 : decode T244.2.2.1 194 = .ok (.iastore, 1) := by decide +kernel
theorem B244_195_198 : s_dk T244.2.2.1 195 [.iinc 3 1] 198 = true := by decide +kernel
theorem D244_198 : decode T244.2.2.1 198 = .ok (.goto (-32), 3) := by decide +kernel
theorem B244_188_189 : s_dk T244.2.2.1 188 [.iconst 1] 189 = true := by decide +kernel
theorem D244_189 : decode T244.2.2.1 189 = .ok (.goto 4, 3) := by decide +kernel
theorem B244_193_194 : s_dk T244.2.2.1 193 [.iadd] 194 = true := by decide +kernel
theorem B244_201_202 : s_dk T244.2.2.1 201 [.aload_n 0] 202 = true := by decide +kernel
theorem D244_202 : decode T244.2.2.1 202 = .ok (.getfield 87, 3) := by decide +kernel
theorem B244_205_208 : s_dk T244.2.2.1 205 [.bipush 8, .aload_n 0] 208 = true := by decide +kernel
theorem D244_208 : decode T244.2.2.1 208 = .ok (.getfield 200, 3) := by decide +kernel
theorem D244_211 : decode T244.2.2.1 211 = .ok (.iastore, 1) := by decide +kernel
theorem D244_212 : decode T244.2.2.1 212 = .ok (.return_, 1) := by decide +kernel
noncomputable def T245 : mT := (11, yX11_moveFor, cX11_moveFor, 4, (some .int))
set_option maxRecDepth 10000 in
theorem TE245 : sy_m[245]? = some T245 := rfl
theorem B245_0_2 : s_dk T245.2.2.1 0 [.iload_n 1, .iconst 4] 2 = true := by decide +kernel
theorem D245_2 : decode T245.2.2.1 2 = .ok (.if_icmp .gt 9, 3) := by decide +kernel
theorem B245_11_15 : s_dk T245.2.2.1 11 [.iconst (-1), .istore_n 3, .iload_n 1, .iconst 5] 15 = true := by decide +kernel
theorem D245_15 : decode T245.2.2.1 15 = .ok (.if_icmp .ne 32, 3) := by decide +kernel
theorem B245_47_50 : s_dk T245.2.2.1 47 [.iload_n 1, .bipush 6] 50 = true := by decide +kernel
theorem D245_50 : decode T245.2.2.1 50 = .ok (.if_icmp .ne 21, 3) := by decide +kernel
theorem B245_53_55 : s_dk T245.2.2.1 53 [.aload_n 0, .iload_n 2] 55 = true := by decide +kernel
theorem D245_55 : decode T245.2.2.1 55 = .ok (.invokevirtual 425, 3) := by decide +kernel
theorem ck_11_virtual_425 : m_call 11 (.invokevirtual 425) = some (0, 243, 1) := by decide +kernel
theorem B245_58_59 : s_dk T245.2.2.1 58 [.iconst (-1)] 59 = true := by decide +kernel
theorem D245_59 : decode T245.2.2.1 59 = .ok (.if_icmp .eq 12, 3) := by decide +kernel
theorem B245_71_72 : s_dk T245.2.2.1 71 [.iload_n 3] 72 = true := by decide +kernel
theorem D245_72 : decode T245.2.2.1 72 = .ok (.ireturn, 1) := by decide +kernel
theorem B245_62_66 : s_dk T245.2.2.1 62 [.bipush 20, .aload_n 0, .iload_n 2] 66 = true := by decide +kernel
theorem D245_66 : decode T245.2.2.1 66 = .ok (.invokevirtual 425, 3) := by decide +kernel
theorem B245_69_72 : s_dk T245.2.2.1 69 [.iadd, .istore_n 3, .iload_n 3] 72 = true := by decide +kernel
theorem B245_18_19 : s_dk T245.2.2.1 18 [.aload_n 0] 19 = true := by decide +kernel
theorem D245_19 : decode T245.2.2.1 19 = .ok (.getfield 212, 3) := by decide +kernel
theorem B245_22_23 : s_dk T245.2.2.1 22 [.iconst (-1)] 23 = true := by decide +kernel
theorem D245_23 : decode T245.2.2.1 23 = .ok (.if_icmp .eq 24, 3) := by decide +kernel
theorem B245_26_27 : s_dk T245.2.2.1 26 [.aload_n 0] 27 = true := by decide +kernel
theorem D245_27 : decode T245.2.2.1 27 = .ok (.getfield 33, 3) := by decide +kernel
theorem B245_30_31 : s_dk T245.2.2.1 30 [.aload_n 0] 31 = true := by decide +kernel
theorem D245_31 : decode T245.2.2.1 31 = .ok (.getfield 212, 3) := by decide +kernel
theorem D245_34 : decode T245.2.2.1 34 = .ok (.iaload, 1) := by decide +kernel
theorem B245_35_36 : s_dk T245.2.2.1 35 [.iconst (-1)] 36 = true := by decide +kernel
theorem D245_36 : decode T245.2.2.1 36 = .ok (.if_icmp .ne 11, 3) := by decide +kernel
theorem B245_39_42 : s_dk T245.2.2.1 39 [.bipush 10, .aload_n 0] 42 = true := by decide +kernel
theorem D245_42 : decode T245.2.2.1 42 = .ok (.invokevirtual 421, 3) := by decide +kernel
theorem B245_45_50 : s_dk T245.2.2.1 45 [.iadd, .istore_n 3, .iload_n 1, .bipush 6] 50 = true := by decide +kernel
theorem B245_5_8 : s_dk T245.2.2.1 5 [.iload_n 1, .iconst 1, .isub] 8 = true := by decide +kernel
theorem D245_8 : decode T245.2.2.1 8 = .ok (.goto 4, 3) := by decide +kernel
theorem B245_12_15 : s_dk T245.2.2.1 12 [.istore_n 3, .iload_n 1, .iconst 5] 15 = true := by decide +kernel
set_option maxRecDepth 4000 in
theorem L_k174k {base : Nat} {X : Nat → Option mC} {G : Nat → Value} (E : EnvOK base X G) {d : Nat} (hd : 1 ≤ d) {M : mH} (H : HI base M) (set : Int) (slot : Int) (value : Int) (K : Int → Int) (mk : Int) (h0 : KK K M) (h1 : -2147483648 ≤ set ∧ set ≤ 2147483647) (h2 : 0 ≤ slot ∧ slot ≤ 2) (h3 : -2147483648 ≤ value ∧ value ≤ 2147483647) (h4 : bt set mk) (h5 : 0 ≤ mk ∧ mk ≤ 15) (h6 : mk < K 469) (h7 : 1 ≤ K (135 + 16 * mk + 12 + K 474)) : ∀ mz : Nat, (∀ (x4 x5 : Int), (0 ≤ x4 ∧ x4 ≤ 100 * x5) → (mk < x5 → K (135 + 16 * mk + 9 + slot) = value → 1 ≤ x4) → (0 ≤ x5 ∧ x5 ≤ 16) → (0 ≤ x4) → (x4 ≤ 1700) → (0 ≤ x5) → (x5 ≤ 16) → (16 - x5) * 1 + 0 < (mz : Int) → sRn base X G d T174 6 [(0, vR 77), (1, vI set), (2, vI slot), (3, vI value), (4, vI x4), (5, vI x5)] [] M (s_Q base (pI (fun v M' => M' = M ∧ (0 ≤ v ∧ v ≤ 1600) ∧ (K (135 + 16 * mk + 9 + slot) = value → 1 ≤ v))))) := by
  intro mz
  induction mz with
  | zero => exact fun x4 x5 z0 z1 z2 z3 z4 z5 z6 z7 => by omega
  | succ mz ih =>
    intro x4 x5 i0 i1 i2 i3 i4 i5 i6 hmu
    refine s_blx (lv' := [(0, vR 77), (1, vI set), (2, vI slot), (3, vI value), (4, vI x4), (5, vI x5)]) (st' := [vR 77, vI x5]) B174_6_9 rfl ?_
    refine r_gfix (r := 78) (pc' := 12) D174_9 rfl gf_11_13_77 H.1 ?_
    refine s_blx (lv' := [(0, vR 77), (1, vI set), (2, vI slot), (3, vI value), (4, vI x4), (5, vI x5)]) (st' := [vI 469, vR 78, vI x5]) B174_12_15 rfl ?_
    refine r_iald (pc' := 16) D174_15 rfl sc_78 H.1 (by omega) ?_
    intro w1 e2 r3
    have kk_w1 := (h0) (469)
    have b_w1 := H.2 78 (469) 0 16 (rk_many (by omega))
    rw [← e2] at b_w1; clear r3
    refine r_icmp (tgt := 61) (pc' := 19) D174_16 rfl rfl (by unfold inR; omega) (fun (c4 : w1 ≤ x5) => ?_) (fun (c4 : ¬ (w1 ≤ x5)) => ?_)
    · refine s_blx (lv' := [(0, vR 77), (1, vI set), (2, vI slot), (3, vI value), (4, vI x4), (5, vI x5)]) (st' := [vI x4]) B174_61_63 rfl ?_
      exact r_iretI D174_63 rfl (⟨rfl, by omega, by omega⟩)
    · refine s_blx (lv' := [(0, vR 77), (1, vI set), (2, vI slot), (3, vI value), (4, vI x4), (5, vI x5)]) (st' := [vI x5, vI set, vI x4]) B174_19_24 rfl ?_
      refine r_bin (pc' := 25) D174_24 rfl rfl ?_
      intro z5 r6 kq; unfold inR at r6
      have kb : x5 = mk → z5 % 2 = 1 := fun h => (bt_test kq (by omega)).mpr (by rw [h]; exact h4)
      refine s_blx (lv' := [(0, vR 77), (1, vI set), (2, vI slot), (3, vI value), (4, vI x4), (5, vI x5)]) (st' := [vI 1, vI z5, vI x4]) B174_25_26 rfl ?_
      refine r_and1 (pc' := 27) D174_26 rfl ?_
      refine s_blx (lv' := [(0, vR 77), (1, vI set), (2, vI slot), (3, vI value), (4, vI x4), (5, vI x5)]) (st' := [vI 1, vI (z5 % 2), vI x4]) B174_27_28 rfl ?_
      refine r_icmp (tgt := 51) (pc' := 31) D174_28 rfl rfl (by unfold inR; omega) (fun (c7 : (z5 % 2) ≠ 1) => ?_) (fun (c7 : ¬ ((z5 % 2) ≠ 1)) => ?_)
      · refine s_blx (lv' := [(5, vI (x5 + 1)), (4, vI (x4 + 0)), (0, vR 77), (1, vI set), (2, vI slot), (3, vI value)]) (st' := []) B174_51_58 rfl ?_
        refine r_goto (tgt := 6) D174_58 rfl ?_
        refine r_loc (lv' := [(0, vR 77), (1, vI set), (2, vI slot), (3, vI value), (4, vI (x4 + 0)), (5, vI (x5 + 1))]) ⟨rfl, rfl, rfl, rfl, rfl, rfl, trivial⟩ rfl rfl ?_
        exact ih (x4 + 0) (x5 + 1) (by omega) (by omega) (by omega) (by omega) (by omega) (by omega) (by omega) (by omega)
      · refine s_blx (lv' := [(0, vR 77), (1, vI set), (2, vI slot), (3, vI value), (4, vI x4), (5, vI x5)]) (st' := [vI slot, vI x5, vR 77, vI x4]) B174_31_35 rfl ?_
        refine r_vIp (c := 77) (args := [vI x5, vI slot]) (rest := [vI x4]) (pc' := 38) D174_35 rfl ck_11_virtual_161 TE158 rfl (Nat.le_of_ble_eq_true rfl) ⟨Nat.le_of_ble_eq_true rfl, Nat.le_of_ble_eq_true rfl⟩ sc_77 ⟨rfl, by decide⟩ H.1 (dp_0 hd rfl) (k158f E (dp_n hd rfl) H x5 slot K (h0) (by omega) (by omega)) ?_
        intro v8 q12
        obtain ⟨q10, q11⟩ := q12
        have kv : x5 = mk → v8 = K (135 + 16 * mk + 9 + slot) := fun h => by rw [q11, h]
        refine s_blx (lv' := [(0, vR 77), (1, vI set), (2, vI slot), (3, vI value), (4, vI x4), (5, vI x5)]) (st' := [vI value, vI v8, vI x4]) B174_38_39 rfl ?_
        refine r_icmp (tgt := 51) (pc' := 42) D174_39 rfl rfl (by unfold inR; omega) (fun (c13 : v8 ≠ value) => ?_) (fun (c13 : ¬ (v8 ≠ value)) => ?_)
        · refine s_blx (lv' := [(5, vI (x5 + 1)), (4, vI (x4 + 0)), (0, vR 77), (1, vI set), (2, vI slot), (3, vI value)]) (st' := []) B174_51_58 rfl ?_
          refine r_goto (tgt := 6) D174_58 rfl ?_
          refine r_loc (lv' := [(0, vR 77), (1, vI set), (2, vI slot), (3, vI value), (4, vI (x4 + 0)), (5, vI (x5 + 1))]) ⟨rfl, rfl, rfl, rfl, rfl, rfl, trivial⟩ rfl rfl ?_
          exact ih (x4 + 0) (x5 + 1) (by omega) (by omega) (by omega) (by omega) (by omega) (by omega) (by omega) (by omega)
        · refine s_blx (lv' := [(0, vR 77), (1, vI set), (2, vI slot), (3, vI value), (4, vI x4), (5, vI x5)]) (st' := [vI x5, vR 77, vI x4]) B174_42_45 rfl ?_
          refine r_vIp (c := 77) (args := [vI x5]) (rest := [vI x4]) (pc' := 48) D174_45 rfl ck_11_virtual_138 TE159 rfl (Nat.le_of_ble_eq_true rfl) ⟨Nat.le_of_ble_eq_true rfl, Nat.le_of_ble_eq_true rfl⟩ sc_77 ⟨rfl, by decide⟩ H.1 (dp_0 hd rfl) (k159f E (dp_n hd rfl) H x5 K (h0) (by omega)) ?_
          intro v14 q18
          obtain ⟨q16, q17⟩ := q18
          have kw : x5 = mk → v14 = K (135 + 16 * mk + 12 + K 474) := fun h => by rw [q17, h]
          refine r_goto (tgt := 52) D174_48 rfl ?_
          refine s_blx (lv' := [(5, vI (x5 + 1)), (4, vI (x4 + v14)), (0, vR 77), (1, vI set), (2, vI slot), (3, vI value)]) (st' := []) B174_52_58 rfl ?_
          refine r_goto (tgt := 6) D174_58 rfl ?_
          refine r_loc (lv' := [(0, vR 77), (1, vI set), (2, vI slot), (3, vI value), (4, vI (x4 + v14)), (5, vI (x5 + 1))]) ⟨rfl, rfl, rfl, rfl, rfl, rfl, trivial⟩ rfl rfl ?_
          exact ih (x4 + v14) (x5 + 1) (by omega) (by omega) (by omega) (by omega) (by omega) (by omega) (by omega) (by omega)
set_option maxRecDepth 4000 in
theorem k174k {base : Nat} {X : Nat → Option mC} {G : Nat → Value} (E : EnvOK base X G) {d : Nat} (hd : 1 ≤ d) {M : mH} (H : HI base M) (set : Int) (slot : Int) (value : Int) (K : Int → Int) (mk : Int) (h0 : KK K M) (h1 : -2147483648 ≤ set ∧ set ≤ 2147483647) (h2 : 0 ≤ slot ∧ slot ≤ 2) (h3 : -2147483648 ≤ value ∧ value ≤ 2147483647) (h4 : bt set mk) (h5 : 0 ≤ mk ∧ mk ≤ 15) (h6 : mk < K 469) (h7 : 1 ≤ K (135 + 16 * mk + 12 + K 474)) : sOk base X G d T174 [vR 77, vI set, vI slot, vI value] M (pI (fun v M' => M' = M ∧ (0 ≤ v ∧ v ≤ 1600) ∧ (K (135 + 16 * mk + 9 + slot) = value → 1 ≤ v))) := by
  refine sOk.of (show sRn base X G d T174 0 [(0, vR 77), (1, vI set), (2, vI slot), (3, vI value)] [] M _ from ?_)
  refine s_blx (lv' := [(5, vI 0), (4, vI 0), (0, vR 77), (1, vI set), (2, vI slot), (3, vI value)]) (st' := []) B174_0_6 rfl ?_
  refine r_loc (lv' := [(0, vR 77), (1, vI set), (2, vI slot), (3, vI value), (4, vI 0), (5, vI 0)]) ⟨rfl, rfl, rfl, rfl, rfl, rfl, trivial⟩ rfl rfl ?_
  exact (L_k174k E hd H set slot value K mk h0 h1 h2 h3 h4 h5 h6 h7 (((16 - 0) * 1 + 0 : Int) + 1).toNat) 0 0 (by omega) (by omega) (by omega) (by omega) (by omega) (by omega) (by omega) (by omega)
set_option maxRecDepth 4000 in
theorem L_k242k {base : Nat} {X : Nat → Option mC} {G : Nat → Value} (E : EnvOK base X G) {d : Nat} (hd : 2 ≤ d) {M : mH} (H : HI base M) (K : Int → Int) (mk : Int) (zz : Int) (nx : Int) (h0 : KK K M) (h1 : gi M 77 6 = zz) (h2 : gi M 77 13 = nx) (h3 : 0 ≤ nx ∧ nx ≤ 2) (h4 : -2147483648 ≤ zz ∧ zz ≤ 2147483647) (h5 : bt zz mk) (h6 : 0 ≤ mk ∧ mk ≤ 15) (h7 : mk < K 469) (h8 : 1 ≤ K (135 + 16 * mk + 12 + K 474)) : ∀ mz : Nat, (∀ (x1 x2 x3 : Int), (-1 ≤ x1 ∧ x1 ≤ 7) → (x1 = -1 → x2 = 0) → (0 ≤ x2 ∧ x2 ≤ 1600) → (x1 = -1 → x3 ≤ K (135 + 16 * mk + 9 + nx)) → (0 ≤ x3 ∧ x3 ≤ 8) → ((-1) ≤ x1) → (x1 ≤ 7) → (0 ≤ x2) → (x2 ≤ 1600) → (0 ≤ x3) → (x3 ≤ 8) → (8 - x3) * 1 + 0 < (mz : Int) → sRn base X G d T242 6 [(0, vR 77), (1, vI x1), (2, vI x2), (3, vI x3)] [] M (s_Q base (pI (fun v M' => M' = M ∧ (0 ≤ v ∧ v ≤ 7))))) := by
  intro mz
  induction mz with
  | zero => exact fun x1 x2 x3 z0 z1 z2 z3 z4 z5 z6 z7 z8 z9 z10 z11 => by omega
  | succ mz ih =>
    intro x1 x2 x3 i0 i1 i2 i3 i4 i5 i6 i7 i8 i9 i10 hmu
    have kvb := H.2 78 (135 + 16 * mk + 9 + nx) 0 7 (rk_val (by omega))
    rw [h0 (135 + 16 * mk + 9 + nx)] at kvb
    refine s_blx (lv' := [(0, vR 77), (1, vI x1), (2, vI x2), (3, vI x3)]) (st' := [vI 8, vI x3]) B242_6_9 rfl ?_
    refine r_icmp (tgt := 47) (pc' := 12) D242_9 rfl rfl (by unfold inR; omega) (fun (c1 : 8 ≤ x3) => ?_) (fun (c1 : ¬ (8 ≤ x3)) => ?_)
    · refine s_blx (lv' := [(0, vR 77), (1, vI x1), (2, vI x2), (3, vI x3)]) (st' := [vI x1]) B242_47_48 rfl ?_
      exact r_iretI D242_48 rfl (⟨rfl, by omega⟩)
    · refine s_blx (lv' := [(0, vR 77), (1, vI x1), (2, vI x2), (3, vI x3)]) (st' := [vR 77, vR 77]) B242_12_14 rfl ?_
      refine r_gint (ki := 6) (pc' := 17) D242_14 rfl gf_11_194_77 rfl H.1 ?_
      intro w2 e3 r4
      have e5 : zz = w2 := (e3.trans (h1)).symm
      subst e5
      refine s_blx (lv' := [(0, vR 77), (1, vI x1), (2, vI x2), (3, vI x3)]) (st' := [vR 77, vI zz, vR 77]) B242_17_18 rfl ?_
      refine r_gint (ki := 13) (pc' := 21) D242_18 rfl gf_11_212_77 rfl H.1 ?_
      intro w6 e7 r8
      have e9 : nx = w6 := (e7.trans (h2)).symm
      subst e9
      refine s_blx (lv' := [(0, vR 77), (1, vI x1), (2, vI x2), (3, vI x3)]) (st' := [vI x3, vI nx, vI zz, vR 77]) B242_21_22 rfl ?_
      refine r_vIp (c := 77) (args := [vI zz, vI nx, vI x3]) (rest := []) (pc' := 25) D242_22 rfl ck_11_virtual_177 TE174 rfl (Nat.le_of_ble_eq_true rfl) ⟨Nat.le_of_ble_eq_true rfl, Nat.le_of_ble_eq_true rfl⟩ sc_77 ⟨rfl, by decide⟩ H.1 (dp_0 hd rfl) (k174k E (dp_n hd rfl) H zz nx x3 K mk (h0) (by omega) (by omega) (by omega) (h5) (by omega) (by omega) (by omega)) ?_
      intro v10 q14
      obtain ⟨q12, q13⟩ := q14
      refine s_blx (lv' := [(4, vI v10), (0, vR 77), (1, vI x1), (2, vI x2), (3, vI x3)]) (st' := [vI x2, vI v10]) B242_25_30 rfl ?_
      refine r_icmp (tgt := 36) (pc' := 33) D242_30 rfl rfl (by unfold inR; omega) (fun (c15 : x2 < v10) => ?_) (fun (c15 : ¬ (x2 < v10)) => ?_)
      · refine s_blx (lv' := [(3, vI (x3 + 1)), (1, vI x3), (2, vI v10), (4, vI v10), (0, vR 77)]) (st' := []) B242_36_44 rfl ?_
        refine r_goto (tgt := 6) D242_44 rfl ?_
        refine r_loc (lv' := [(0, vR 77), (1, vI x3), (2, vI v10), (3, vI (x3 + 1))]) ⟨rfl, rfl, rfl, rfl, trivial⟩ rfl rfl ?_
        exact ih x3 v10 (x3 + 1) (by omega) (by omega) (by omega) (by omega) (by omega) (by omega) (by omega) (by omega) (by omega) (by omega) (by omega) (by omega)
      · refine r_goto (tgt := 41) D242_33 rfl ?_
        refine s_blx (lv' := [(3, vI (x3 + 1)), (4, vI v10), (0, vR 77), (1, vI x1), (2, vI x2)]) (st' := []) B242_41_44 rfl ?_
        refine r_goto (tgt := 6) D242_44 rfl ?_
        refine r_loc (lv' := [(0, vR 77), (1, vI x1), (2, vI x2), (3, vI (x3 + 1))]) ⟨rfl, rfl, rfl, rfl, trivial⟩ rfl rfl ?_
        exact ih x1 x2 (x3 + 1) (by omega) (by omega) (by omega) (by omega) (by omega) (by omega) (by omega) (by omega) (by omega) (by omega) (by omega) (by omega)
set_option maxRecDepth 4000 in
theorem k242k {base : Nat} {X : Nat → Option mC} {G : Nat → Value} (E : EnvOK base X G) {d : Nat} (hd : 2 ≤ d) {M : mH} (H : HI base M) (K : Int → Int) (mk : Int) (zz : Int) (nx : Int) (h0 : KK K M) (h1 : gi M 77 6 = zz) (h2 : gi M 77 13 = nx) (h3 : 0 ≤ nx ∧ nx ≤ 2) (h4 : -2147483648 ≤ zz ∧ zz ≤ 2147483647) (h5 : bt zz mk) (h6 : 0 ≤ mk ∧ mk ≤ 15) (h7 : mk < K 469) (h8 : 1 ≤ K (135 + 16 * mk + 12 + K 474)) : sOk base X G d T242 [vR 77] M (pI (fun v M' => M' = M ∧ (0 ≤ v ∧ v ≤ 7))) := by
  refine sOk.of (show sRn base X G d T242 0 [(0, vR 77)] [] M _ from ?_)
  have kvb := H.2 78 (135 + 16 * mk + 9 + nx) 0 7 (rk_val (by omega))
  rw [h0 (135 + 16 * mk + 9 + nx)] at kvb
  refine s_blx (lv' := [(3, vI 0), (2, vI 0), (1, vI (-1)), (0, vR 77)]) (st' := []) B242_0_6 rfl ?_
  refine r_loc (lv' := [(0, vR 77), (1, vI (-1)), (2, vI 0), (3, vI 0)]) ⟨rfl, rfl, rfl, rfl, trivial⟩ rfl rfl ?_
  exact (L_k242k E hd H K mk zz nx h0 h1 h2 h3 h4 h5 h6 h7 h8 (((8 - 0) * 1 + 0 : Int) + 1).toNat) (-1) 0 0 (by omega) (by omega) (by omega) (by omega) (by omega) (by omega) (by omega) (by omega) (by omega) (by omega) (by omega) (by omega)
set_option maxRecDepth 4000 in
theorem L_k243k {base : Nat} {X : Nat → Option mC} {G : Nat → Value} (E : EnvOK base X G) {d : Nat} (hd : 3 ≤ d) {M : mH} (H : HI base M) (said : Int) (o : Int) (U : Int → Int) (h0 : TB M) (h1 : C3 84 U M) (h2 : gi M 78 473 = o) (h3 : 0 ≤ said ∧ said ≤ 1110) : ∀ mz : Nat, (∀ (x2 : Int), (∀ i : Int, 0 ≤ i → i < x2 → ¬ CM o U said i) → (0 ≤ x2 ∧ x2 ≤ 3) → (0 ≤ x2) → (x2 ≤ 3) → (3 - x2) * 1 + 0 < (mz : Int) → sRn base X G d T243 2 [(0, vR 77), (1, vI said), (2, vI x2)] [] M (s_Q base (pI (fun v M' => M' = M ∧ (-1 ≤ v ∧ v ≤ 2) ∧ (0 ≤ v → CM o U said v) ∧ (v = -1 → ∀ i : Int, 0 ≤ i → i ≤ 2 → ¬ CM o U said i))))) := by
  intro mz
  induction mz with
  | zero => exact fun x2 z0 z1 z2 z3 z4 => by omega
  | succ mz ih =>
    intro x2 i0 i1 i2 i3 hmu
    refine s_blx (lv' := [(0, vR 77), (1, vI said), (2, vI x2)]) (st' := [vI 3, vI x2]) B243_2_4 rfl ?_
    refine r_icmp (tgt := 24) (pc' := 7) D243_4 rfl rfl (by unfold inR; omega) (fun (c1 : 3 ≤ x2) => ?_) (fun (c1 : ¬ (3 ≤ x2)) => ?_)
    · refine s_blx (lv' := [(0, vR 77), (1, vI said), (2, vI x2)]) (st' := [vI (-1)]) B243_24_25 rfl ?_
      exact r_iretI D243_25 rfl (⟨rfl, by omega, fun h => absurd h (by omega), fun _ i h1 h2 => i0 i h1 (by omega)⟩)
    · refine s_blx (lv' := [(0, vR 77), (1, vI said), (2, vI x2)]) (st' := [vI x2, vI said, vR 77]) B243_7_10 rfl ?_
      have g2 : gi M 78 473 = o := h2
      refine r_vIp (c := 77) (args := [vI said, vI x2]) (rest := []) (pc' := 13) D243_10 rfl ck_11_virtual_221 TE186 rfl (Nat.le_of_ble_eq_true rfl) ⟨Nat.le_of_ble_eq_true rfl, Nat.le_of_ble_eq_true rfl⟩ sc_77 ⟨rfl, by decide⟩ H.1 (dp_0 hd rfl) (k186f E (dp_n hd rfl) H said x2 o U (h0) (h1) (by omega) (by omega) (by omega)) ?_
      intro v3 q8
      obtain ⟨q5, q6, q7⟩ := q8
      have kc1 := q6; clear q6
      have kc0 := q7; clear q7
      refine r_ifc (tgt := 18) (pc' := 16) D243_13 rfl rfl (by unfold inR; omega) (fun (c9 : v3 = 0) => ?_) (fun (c9 : ¬ (v3 = 0)) => ?_)
      · refine s_blx (lv' := [(2, vI (x2 + 1)), (0, vR 77), (1, vI said)]) (st' := []) B243_18_21 rfl ?_
        refine r_goto (tgt := 2) D243_21 rfl ?_
        refine r_loc (lv' := [(0, vR 77), (1, vI said), (2, vI (x2 + 1))]) ⟨rfl, rfl, rfl, trivial⟩ rfl rfl ?_
        exact ih (x2 + 1) (fun i h1 h2 => if e : i = x2 then (by rw [e]; exact kc0 (by omega)) else i0 i h1 (by omega)) (by omega) (by omega) (by omega) (by omega)
      · refine s_blx (lv' := [(0, vR 77), (1, vI said), (2, vI x2)]) (st' := [vI x2]) B243_16_17 rfl ?_
        exact r_iretI D243_17 rfl (⟨rfl, by omega, fun _ => kc1 (by omega), fun h => absurd h (by omega)⟩)
set_option maxRecDepth 4000 in
theorem k243k {base : Nat} {X : Nat → Option mC} {G : Nat → Value} (E : EnvOK base X G) {d : Nat} (hd : 3 ≤ d) {M : mH} (H : HI base M) (said : Int) (o : Int) (U : Int → Int) (h0 : TB M) (h1 : C3 84 U M) (h2 : gi M 78 473 = o) (h3 : 0 ≤ said ∧ said ≤ 1110) : sOk base X G d T243 [vR 77, vI said] M (pI (fun v M' => M' = M ∧ (-1 ≤ v ∧ v ≤ 2) ∧ (0 ≤ v → CM o U said v) ∧ (v = -1 → ∀ i : Int, 0 ≤ i → i ≤ 2 → ¬ CM o U said i))) := by
  refine sOk.of (show sRn base X G d T243 0 [(0, vR 77), (1, vI said)] [] M _ from ?_)
  refine s_blx (lv' := [(2, vI 0), (0, vR 77), (1, vI said)]) (st' := []) B243_0_2 rfl ?_
  refine r_loc (lv' := [(0, vR 77), (1, vI said), (2, vI 0)]) ⟨rfl, rfl, rfl, trivial⟩ rfl rfl ?_
  exact (L_k243k E hd H said o U h0 h1 h2 h3 (((3 - 0) * 1 + 0 : Int) + 1).toNat) 0 (fun i h1 h2 => by omega) (by omega) (by omega) (by omega) (by omega)
set_option maxRecDepth 4000 in
theorem L_k244k {base : Nat} {X : Nat → Option mC} {G : Nat → Value} (E : EnvOK base X G) {d : Nat} (hd : 3 ≤ d) {M : mH} (H : HI base M) (said : Int) (second : Int) (K : Int → Int) (mk : Int) (zz : Int) (wh : Int) (h0 : TB M) (h1 : KK K M) (h2 : 0 ≤ said ∧ said ≤ 1110) (h3 : -2147483648 ≤ second ∧ second ≤ 2147483647) (h4 : gi M 77 6 = zz) (h5 : gi M 77 8 = wh) (h6 : 1 ≤ wh ∧ wh ≤ 2147483647) (h7 : -2147483648 ≤ zz ∧ zz ≤ 2147483647) (h8 : bt zz mk) (h9 : 0 ≤ mk ∧ mk ≤ 15) (h10 : mk < K 469) (h11 : 1 ≤ K (135 + 16 * mk + 12 + K 474)) : ∀ mz : Nat, (∀ (x3 : Int) (N : mH), HI base N → Fr [(77, 14), (100, 0)] M N → (0 ≤ x3) → (x3 ≤ 3) → (3 - x3) * 1 + 0 < (mz : Int) → sRn base X G d T244 166 [(0, vR 77), (1, vI said), (3, vI x3)] [] N (s_Q base (pV (fun M' => HI base M' ∧ Fr [(77, 14), (100, 0)] M M')))) := by
  have f0 : Fr [(77, 14), (100, 0)] M M := Fr.rf
  intro mz
  induction mz with
  | zero => exact fun x3 N _ _ z0 z1 z2 => by omega
  | succ mz ih =>
    intro x3 N HN fN i0 i1 hmu
    refine s_blx (lv' := [(0, vR 77), (1, vI said), (3, vI x3)]) (st' := [vI 3, vI x3]) B244_166_168 rfl ?_
    refine r_icmp (tgt := 201) (pc' := 171) D244_168 rfl rfl (by unfold inR; omega) (fun (c195 : 3 ≤ x3) => ?_) (fun (c195 : ¬ (3 ≤ x3)) => ?_)
    · refine s_blx (lv' := [(0, vR 77), (1, vI said), (3, vI x3)]) (st' := [vR 77]) B244_201_202 rfl ?_
      refine r_gfix (r := 100) (pc' := 205) D244_202 rfl gf_11_87_77 HN.1 ?_
      refine s_blx (lv' := [(0, vR 77), (1, vI said), (3, vI x3)]) (st' := [vR 77, vI 8, vR 100]) B244_205_208 rfl ?_
      refine r_gint (ki := 7) (pc' := 211) D244_208 rfl gf_11_200_77 rfl HN.1 ?_
      intro w196 e197 r198
      unfold inR at r198
      refine r_iast (pc' := 212) D244_211 rfl sc_100 HN (by omega) (by unfold inR; omega) trivial ?_
      intro M199 u200 H201 p202
      have f203 := fN.wr u200 rfl
      exact r_retV D244_212 rfl (⟨H201, f203⟩)
    · refine s_blx (lv' := [(0, vR 77), (1, vI said), (3, vI x3)]) (st' := [vR 77]) B244_171_172 rfl ?_
      refine r_gfix (r := 100) (pc' := 175) D244_172 rfl gf_11_87_77 HN.1 ?_
      refine s_blx (lv' := [(0, vR 77), (1, vI said), (3, vI x3)]) (st' := [vI 7, vR 100, vI 7, vR 100]) B244_175_178 rfl ?_
      refine r_iald (pc' := 179) D244_178 rfl sc_100 HN.1 (by omega) ?_
      intro w204 e205 r206
      unfold inR at r206
      refine s_blx (lv' := [(0, vR 77), (1, vI said), (3, vI x3)]) (st' := [vI x3, vI said, vR 77, vI w204, vI 7, vR 100]) B244_179_182 rfl ?_
      obtain ⟨t207, ht208⟩ : ∃ q, q = gi N 78 473 := ⟨_, rfl⟩
      have g209 : gi N 78 473 = t207 := ht208.symm
      refine r_vIp (c := 77) (args := [vI said, vI x3]) (rest := [vI w204, vI 7, vR 100]) (pc' := 185) D244_182 rfl ck_11_virtual_221 TE186 rfl (Nat.le_of_ble_eq_true rfl) ⟨Nat.le_of_ble_eq_true rfl, Nat.le_of_ble_eq_true rfl⟩ sc_77 ⟨rfl, by decide⟩ HN.1 (dp_0 hd rfl) (k186f E (dp_n hd rfl) HN said x3 t207 (gi N 84) ((h0.fr fN rfl)) (fun _ _ _ => rfl) (by omega) (by omega) (by omega)) ?_
      intro v210 q215
      obtain ⟨q212, q213, q214⟩ := q215
      refine r_ifc (tgt := 192) (pc' := 188) D244_185 rfl rfl (by unfold inR; omega) (fun (c216 : v210 = 0) => ?_) (fun (c216 : ¬ (v210 = 0)) => ?_)
      · refine s_blx (lv' := [(0, vR 77), (1, vI said), (3, vI x3)]) (st' := [vI (w204 + 0), vI 7, vR 100]) B244_192_194 rfl ?_
        refine r_iast (pc' := 195) D244_194 rfl sc_100 HN (by omega) (by unfold inR; omega) trivial ?_
        intro M217 u218 H219 p220
        have f221 := fN.wr u218 rfl
        refine s_blx (lv' := [(3, vI (x3 + 1)), (0, vR 77), (1, vI said)]) (st' := []) B244_195_198 rfl ?_
        refine r_goto (tgt := 166) D244_198 rfl ?_
        refine r_loc (lv' := [(0, vR 77), (1, vI said), (3, vI (x3 + 1))]) ⟨rfl, rfl, rfl, trivial⟩ rfl rfl ?_
        exact ih (x3 + 1) M217 H219 f221 (by omega) (by omega) (by omega)
      · refine s_blx (lv' := [(0, vR 77), (1, vI said), (3, vI x3)]) (st' := [vI 1, vI w204, vI 7, vR 100]) B244_188_189 rfl ?_
        refine r_goto (tgt := 193) D244_189 rfl ?_
        refine s_blx (lv' := [(0, vR 77), (1, vI said), (3, vI x3)]) (st' := [vI (w204 + 1), vI 7, vR 100]) B244_193_194 rfl ?_
        refine r_norm ?_
        intro z222 r223 _; unfold inR at r223
        refine r_iast (pc' := 195) D244_194 rfl sc_100 HN (by omega) (by unfold inR; omega) trivial ?_
        intro M224 u225 H226 p227
        have f228 := fN.wr u225 rfl
        refine s_blx (lv' := [(3, vI (x3 + 1)), (0, vR 77), (1, vI said)]) (st' := []) B244_195_198 rfl ?_
        refine r_goto (tgt := 166) D244_198 rfl ?_
        refine r_loc (lv' := [(0, vR 77), (1, vI said), (3, vI (x3 + 1))]) ⟨rfl, rfl, rfl, trivial⟩ rfl rfl ?_
        exact ih (x3 + 1) M224 H226 f228 (by omega) (by omega) (by omega)
set_option maxRecDepth 4000 in
theorem k244k {base : Nat} {X : Nat → Option mC} {G : Nat → Value} (E : EnvOK base X G) {d : Nat} (hd : 3 ≤ d) {M : mH} (H : HI base M) (said : Int) (second : Int) (K : Int → Int) (mk : Int) (zz : Int) (wh : Int) (h0 : TB M) (h1 : KK K M) (h2 : 0 ≤ said ∧ said ≤ 1110) (h3 : -2147483648 ≤ second ∧ second ≤ 2147483647) (h4 : gi M 77 6 = zz) (h5 : gi M 77 8 = wh) (h6 : 1 ≤ wh ∧ wh ≤ 2147483647) (h7 : -2147483648 ≤ zz ∧ zz ≤ 2147483647) (h8 : bt zz mk) (h9 : 0 ≤ mk ∧ mk ≤ 15) (h10 : mk < K 469) (h11 : 1 ≤ K (135 + 16 * mk + 12 + K 474)) : sOk base X G d T244 [vR 77, vI said, vI second] M (pV (fun M' => HI base M' ∧ Fr [(77, 14), (100, 0)] M M')) := by
  have f0 : Fr [(77, 14), (100, 0)] M M := Fr.rf
  refine sOk.of (show sRn base X G d T244 0 [(0, vR 77), (1, vI said), (2, vI second)] [] M _ from ?_)
  refine s_blx (lv' := [(0, vR 77), (1, vI said), (2, vI second)]) (st' := [vR 77, vR 77]) B244_0_2 rfl ?_
  refine r_gfix (r := 81) (pc' := 5) D244_2 rfl gf_11_24_77 H.1 ?_
  refine s_blx (lv' := [(0, vR 77), (1, vI said), (2, vI second)]) (st' := [vI said, vR 81, vR 77]) B244_5_6 rfl ?_
  refine r_iald (pc' := 7) D244_6 rfl sc_81 H.1 (by omega) ?_
  intro w1 e2 r3
  have b_w1 := H.2 81 (said) 0 3 rfl
  rw [← e2] at b_w1; clear r3
  refine s_blx (lv' := [(0, vR 77), (1, vI said), (2, vI second)]) (st' := [vI 3, vI w1, vR 77]) B244_7_8 rfl ?_
  refine r_icmp (tgt := 24) (pc' := 11) D244_8 rfl rfl (by unfold inR; omega) (fun (c4 : 3 ≤ w1) => ?_) (fun (c4 : ¬ (3 ≤ w1)) => ?_)
  · refine s_blx (lv' := [(0, vR 77), (1, vI said), (2, vI second)]) (st' := [vI (-1), vR 77]) B244_24_25 rfl ?_
    refine r_pint (ki := 13) (pc' := 28) D244_25 rfl pf_11_212_77 rfl H (by unfold inR; omega) (show (-1) ≤ (-1) ∧ (-1) ≤ 2 by omega) ?_
    intro M5 u6 H7 p8
    have f9 := f0.wr u6 rfl
    refine s_blx (lv' := [(0, vR 77), (1, vI said), (2, vI second)]) (st' := [vR 77]) B244_28_29 rfl ?_
    refine r_gfix (r := 100) (pc' := 32) D244_29 rfl gf_11_87_77 H7.1 ?_
    refine s_blx (lv' := [(0, vR 77), (1, vI said), (2, vI second)]) (st' := [vI said, vR 77, vI 0, vR 100]) B244_32_35 rfl ?_
    refine r_vIp (c := 77) (args := [vI said]) (rest := [vI 0, vR 100]) (pc' := 38) D244_35 rfl ck_11_virtual_231 TE189 rfl (Nat.le_of_ble_eq_true rfl) ⟨Nat.le_of_ble_eq_true rfl, Nat.le_of_ble_eq_true rfl⟩ sc_77 ⟨rfl, by decide⟩ H7.1 (dp_0 hd rfl) (k189 E (dp_n hd rfl) H7 said (by omega)) ?_
    intro v10 q13
    have q12 := q13; clear q13
    refine r_iast (pc' := 39) D244_38 rfl sc_100 H7 (by omega) (by unfold inR; omega) trivial ?_
    intro M14 u15 H16 p17
    have f18 := f9.wr u15 rfl
    refine s_blx (lv' := [(0, vR 77), (1, vI said), (2, vI second)]) (st' := [vR 77]) B244_39_40 rfl ?_
    refine r_gfix (r := 100) (pc' := 43) D244_40 rfl gf_11_87_77 H16.1 ?_
    refine s_blx (lv' := [(0, vR 77), (1, vI said), (2, vI second)]) (st' := [vI 0, vR 77, vI 1, vR 100]) B244_43_46 rfl ?_
    refine r_vIp (c := 77) (args := [vI 0]) (rest := [vI 1, vR 100]) (pc' := 49) D244_46 rfl ck_11_virtual_141 TE153 rfl (Nat.le_of_ble_eq_true rfl) ⟨Nat.le_of_ble_eq_true rfl, Nat.le_of_ble_eq_true rfl⟩ sc_77 ⟨rfl, by decide⟩ H16.1 (dp_0 hd rfl) (k153 E (dp_n hd rfl) H16 0 (by omega)) ?_
    intro v19 q22
    have q21 := q22; clear q22
    refine r_iast (pc' := 50) D244_49 rfl sc_100 H16 (by omega) (by unfold inR; omega) trivial ?_
    intro M23 u24 H25 p26
    have f27 := f18.wr u24 rfl
    refine s_blx (lv' := [(0, vR 77), (1, vI said), (2, vI second)]) (st' := [vR 77]) B244_50_51 rfl ?_
    refine r_gfix (r := 100) (pc' := 54) D244_51 rfl gf_11_87_77 H25.1 ?_
    refine s_blx (lv' := [(0, vR 77), (1, vI said), (2, vI second)]) (st' := [vR 77, vI 2, vR 100]) B244_54_56 rfl ?_
    refine r_gfix (r := 81) (pc' := 59) D244_56 rfl gf_11_24_77 H25.1 ?_
    refine s_blx (lv' := [(0, vR 77), (1, vI said), (2, vI second)]) (st' := [vI said, vR 81, vI 2, vR 100]) B244_59_60 rfl ?_
    refine r_iald (pc' := 61) D244_60 rfl sc_81 H25.1 (by omega) ?_
    intro w28 e29 r30
    have e31 : w1 = w28 := (e29.trans ((u24.gi_ne (by decide) (Or.inl (by decide))).trans ((u15.gi_ne (by decide) (Or.inl (by decide))).trans ((u6.gi_ne (by decide) (Or.inl (by decide))).trans (e2.symm))))).symm
    subst e31
    refine r_iast (pc' := 62) D244_61 rfl sc_100 H25 (by omega) (by unfold inR; omega) trivial ?_
    intro M32 u33 H34 p35
    have f36 := f27.wr u33 rfl
    refine s_blx (lv' := [(0, vR 77), (1, vI said), (2, vI second)]) (st' := [vR 77]) B244_62_63 rfl ?_
    refine r_gfix (r := 100) (pc' := 66) D244_63 rfl gf_11_87_77 H34.1 ?_
    refine s_blx (lv' := [(0, vR 77), (1, vI said), (2, vI second)]) (st' := [vR 77, vI 3, vR 100]) B244_66_68 rfl ?_
    refine r_gint (ki := 13) (pc' := 71) D244_68 rfl gf_11_212_77 rfl H34.1 ?_
    intro w37 e38 r39
    have e40 : -1 = w37 := (e38.trans ((u33.gi_ne (by decide) (Or.inl (by decide))).trans ((u24.gi_ne (by decide) (Or.inl (by decide))).trans ((u15.gi_ne (by decide) (Or.inl (by decide))).trans (p8))))).symm
    subst e40
    refine s_blx (lv' := [(0, vR 77), (1, vI said), (2, vI second)]) (st' := [vI (-1), vI (-1), vI 3, vR 100]) B244_71_72 rfl ?_
    refine r_icmp (tgt := 79) (pc' := 75) D244_72 rfl rfl (by unfold inR; omega) (fun (c41 : (-1) ≠ (-1)) => ?_) (fun (c41 : ¬ ((-1) ≠ (-1))) => ?_)
    · exfalso; omega
    · refine s_blx (lv' := [(0, vR 77), (1, vI said), (2, vI second)]) (st' := [vI 0, vI 3, vR 100]) B244_75_76 rfl ?_
      refine r_goto (tgt := 103) D244_76 rfl ?_
      refine r_iast (pc' := 104) D244_103 rfl sc_100 H34 (by omega) (by unfold inR; omega) trivial ?_
      intro M42 u43 H44 p45
      have f46 := f36.wr u43 rfl
      refine s_blx (lv' := [(0, vR 77), (1, vI said), (2, vI second)]) (st' := [vR 77]) B244_104_105 rfl ?_
      refine r_gfix (r := 100) (pc' := 108) D244_105 rfl gf_11_87_77 H44.1 ?_
      refine s_blx (lv' := [(0, vR 77), (1, vI said), (2, vI second)]) (st' := [vR 77, vI 4, vR 100]) B244_108_110 rfl ?_
      refine r_gint (ki := 13) (pc' := 113) D244_110 rfl gf_11_212_77 rfl H44.1 ?_
      intro w47 e48 r49
      have e50 : -1 = w47 := (e48.trans ((u43.gi_ne (by decide) (Or.inl (by decide))).trans ((u33.gi_ne (by decide) (Or.inl (by decide))).trans ((u24.gi_ne (by decide) (Or.inl (by decide))).trans ((u15.gi_ne (by decide) (Or.inl (by decide))).trans (p8)))))).symm
      subst e50
      refine s_blx (lv' := [(0, vR 77), (1, vI said), (2, vI second)]) (st' := [vI (-1), vI (-1), vI 4, vR 100]) B244_113_114 rfl ?_
      refine r_icmp (tgt := 121) (pc' := 117) D244_114 rfl rfl (by unfold inR; omega) (fun (c51 : (-1) ≠ (-1)) => ?_) (fun (c51 : ¬ ((-1) ≠ (-1))) => ?_)
      · exfalso; omega
      · refine s_blx (lv' := [(0, vR 77), (1, vI said), (2, vI second)]) (st' := [vI 0, vI 4, vR 100]) B244_117_118 rfl ?_
        refine r_goto (tgt := 133) D244_118 rfl ?_
        refine r_iast (pc' := 134) D244_133 rfl sc_100 H44 (by omega) (by unfold inR; omega) trivial ?_
        intro M52 u53 H54 p55
        have f56 := f46.wr u53 rfl
        refine s_blx (lv' := [(0, vR 77), (1, vI said), (2, vI second)]) (st' := [vR 77]) B244_134_135 rfl ?_
        refine r_gfix (r := 100) (pc' := 138) D244_135 rfl gf_11_87_77 H54.1 ?_
        refine s_blx (lv' := [(0, vR 77), (1, vI said), (2, vI second)]) (st' := [vI second, vI 5, vR 100]) B244_138_140 rfl ?_
        refine r_iast (pc' := 141) D244_140 rfl sc_100 H54 (by omega) (by unfold inR; omega) trivial ?_
        intro M57 u58 H59 p60
        have f61 := f56.wr u58 rfl
        refine s_blx (lv' := [(0, vR 77), (1, vI said), (2, vI second)]) (st' := [vR 77]) B244_141_142 rfl ?_
        refine r_gfix (r := 100) (pc' := 145) D244_142 rfl gf_11_87_77 H59.1 ?_
        refine s_blx (lv' := [(0, vR 77), (1, vI said), (2, vI second)]) (st' := [vR 77, vI 6, vR 100]) B244_145_148 rfl ?_
        refine r_gfix (r := 78) (pc' := 151) D244_148 rfl gf_11_13_77 H59.1 ?_
        refine s_blx (lv' := [(0, vR 77), (1, vI said), (2, vI second)]) (st' := [vI 474, vR 78, vI 6, vR 100]) B244_151_154 rfl ?_
        refine r_iald (pc' := 155) D244_154 rfl sc_78 H59.1 (by omega) ?_
        intro w62 e63 r64
        have kk_w62 := ((h1.fr f61 rfl)) (474)
        have b_w62 := H59.2 78 (474) 0 3 (rk_who (by omega))
        rw [← e63] at b_w62; clear r64
        refine r_iast (pc' := 156) D244_155 rfl sc_100 H59 (by omega) (by unfold inR; omega) trivial ?_
        intro M65 u66 H67 p68
        have f69 := f61.wr u66 rfl
        refine s_blx (lv' := [(0, vR 77), (1, vI said), (2, vI second)]) (st' := [vR 77]) B244_156_157 rfl ?_
        refine r_gfix (r := 100) (pc' := 160) D244_157 rfl gf_11_87_77 H67.1 ?_
        refine s_blx (lv' := [(0, vR 77), (1, vI said), (2, vI second)]) (st' := [vI 0, vI 7, vR 100]) B244_160_163 rfl ?_
        refine r_iast (pc' := 164) D244_163 rfl sc_100 H67 (by omega) (by unfold inR; omega) trivial ?_
        intro M70 u71 H72 p73
        have f74 := f69.wr u71 rfl
        refine s_blx (lv' := [(3, vI 0), (0, vR 77), (1, vI said), (2, vI second)]) (st' := []) B244_164_166 rfl ?_
        refine r_loc (lv' := [(0, vR 77), (1, vI said), (3, vI 0)]) ⟨rfl, rfl, rfl, trivial⟩ rfl rfl ?_
        exact (L_k244k E hd H said second K mk zz wh h0 h1 h2 h3 h4 h5 h6 h7 h8 h9 h10 h11 (((3 - 0) * 1 + 0 : Int) + 1).toNat) 0 M70 H72 f74 (by omega) (by omega) (by omega)
  · refine s_blx (lv' := [(0, vR 77), (1, vI said), (2, vI second)]) (st' := [vR 77, vR 77, vR 77]) B244_11_13 rfl ?_
    refine r_gfix (r := 81) (pc' := 16) D244_13 rfl gf_11_24_77 H.1 ?_
    refine s_blx (lv' := [(0, vR 77), (1, vI said), (2, vI second)]) (st' := [vI said, vR 81, vR 77, vR 77]) B244_16_17 rfl ?_
    refine r_iald (pc' := 18) D244_17 rfl sc_81 H.1 (by omega) ?_
    intro w75 e76 r77
    have e78 : w1 = w75 := (e76.trans (e2.symm)).symm
    subst e78
    obtain ⟨t79, ht80⟩ : ∃ q, q = gi M 78 473 := ⟨_, rfl⟩
    have g81 : gi M 78 473 = t79 := ht80.symm
    refine r_vIp (c := 77) (args := [vI w1]) (rest := [vR 77]) (pc' := 21) D244_18 rfl ck_11_virtual_206 TE182 rfl (Nat.le_of_ble_eq_true rfl) ⟨Nat.le_of_ble_eq_true rfl, Nat.le_of_ble_eq_true rfl⟩ sc_77 ⟨rfl, by decide⟩ H.1 (dp_0 hd rfl) (k182f E (dp_n hd rfl) H w1 t79 (by omega) (by omega)) ?_
    intro v82 q86
    obtain ⟨q84, q85⟩ := q86
    refine r_goto (tgt := 25) D244_21 rfl ?_
    refine r_pint (ki := 13) (pc' := 28) D244_25 rfl pf_11_212_77 rfl H (by unfold inR; omega) (show (-1) ≤ v82 ∧ v82 ≤ 2 by omega) ?_
    intro M87 u88 H89 p90
    have f91 := f0.wr u88 rfl
    refine s_blx (lv' := [(0, vR 77), (1, vI said), (2, vI second)]) (st' := [vR 77]) B244_28_29 rfl ?_
    refine r_gfix (r := 100) (pc' := 32) D244_29 rfl gf_11_87_77 H89.1 ?_
    refine s_blx (lv' := [(0, vR 77), (1, vI said), (2, vI second)]) (st' := [vI said, vR 77, vI 0, vR 100]) B244_32_35 rfl ?_
    refine r_vIp (c := 77) (args := [vI said]) (rest := [vI 0, vR 100]) (pc' := 38) D244_35 rfl ck_11_virtual_231 TE189 rfl (Nat.le_of_ble_eq_true rfl) ⟨Nat.le_of_ble_eq_true rfl, Nat.le_of_ble_eq_true rfl⟩ sc_77 ⟨rfl, by decide⟩ H89.1 (dp_0 hd rfl) (k189 E (dp_n hd rfl) H89 said (by omega)) ?_
    intro v92 q95
    have q94 := q95; clear q95
    refine r_iast (pc' := 39) D244_38 rfl sc_100 H89 (by omega) (by unfold inR; omega) trivial ?_
    intro M96 u97 H98 p99
    have f100 := f91.wr u97 rfl
    refine s_blx (lv' := [(0, vR 77), (1, vI said), (2, vI second)]) (st' := [vR 77]) B244_39_40 rfl ?_
    refine r_gfix (r := 100) (pc' := 43) D244_40 rfl gf_11_87_77 H98.1 ?_
    refine s_blx (lv' := [(0, vR 77), (1, vI said), (2, vI second)]) (st' := [vI 0, vR 77, vI 1, vR 100]) B244_43_46 rfl ?_
    refine r_vIp (c := 77) (args := [vI 0]) (rest := [vI 1, vR 100]) (pc' := 49) D244_46 rfl ck_11_virtual_141 TE153 rfl (Nat.le_of_ble_eq_true rfl) ⟨Nat.le_of_ble_eq_true rfl, Nat.le_of_ble_eq_true rfl⟩ sc_77 ⟨rfl, by decide⟩ H98.1 (dp_0 hd rfl) (k153 E (dp_n hd rfl) H98 0 (by omega)) ?_
    intro v101 q104
    have q103 := q104; clear q104
    refine r_iast (pc' := 50) D244_49 rfl sc_100 H98 (by omega) (by unfold inR; omega) trivial ?_
    intro M105 u106 H107 p108
    have f109 := f100.wr u106 rfl
    refine s_blx (lv' := [(0, vR 77), (1, vI said), (2, vI second)]) (st' := [vR 77]) B244_50_51 rfl ?_
    refine r_gfix (r := 100) (pc' := 54) D244_51 rfl gf_11_87_77 H107.1 ?_
    refine s_blx (lv' := [(0, vR 77), (1, vI said), (2, vI second)]) (st' := [vR 77, vI 2, vR 100]) B244_54_56 rfl ?_
    refine r_gfix (r := 81) (pc' := 59) D244_56 rfl gf_11_24_77 H107.1 ?_
    refine s_blx (lv' := [(0, vR 77), (1, vI said), (2, vI second)]) (st' := [vI said, vR 81, vI 2, vR 100]) B244_59_60 rfl ?_
    refine r_iald (pc' := 61) D244_60 rfl sc_81 H107.1 (by omega) ?_
    intro w110 e111 r112
    have e113 : w1 = w110 := (e111.trans ((u106.gi_ne (by decide) (Or.inl (by decide))).trans ((u97.gi_ne (by decide) (Or.inl (by decide))).trans ((u88.gi_ne (by decide) (Or.inl (by decide))).trans (e2.symm))))).symm
    subst e113
    refine r_iast (pc' := 62) D244_61 rfl sc_100 H107 (by omega) (by unfold inR; omega) trivial ?_
    intro M114 u115 H116 p117
    have f118 := f109.wr u115 rfl
    refine s_blx (lv' := [(0, vR 77), (1, vI said), (2, vI second)]) (st' := [vR 77]) B244_62_63 rfl ?_
    refine r_gfix (r := 100) (pc' := 66) D244_63 rfl gf_11_87_77 H116.1 ?_
    refine s_blx (lv' := [(0, vR 77), (1, vI said), (2, vI second)]) (st' := [vR 77, vI 3, vR 100]) B244_66_68 rfl ?_
    refine r_gint (ki := 13) (pc' := 71) D244_68 rfl gf_11_212_77 rfl H116.1 ?_
    intro w119 e120 r121
    have e122 : v82 = w119 := (e120.trans ((u115.gi_ne (by decide) (Or.inl (by decide))).trans ((u106.gi_ne (by decide) (Or.inl (by decide))).trans ((u97.gi_ne (by decide) (Or.inl (by decide))).trans (p90))))).symm
    subst e122
    refine s_blx (lv' := [(0, vR 77), (1, vI said), (2, vI second)]) (st' := [vI (-1), vI v82, vI 3, vR 100]) B244_71_72 rfl ?_
    refine r_icmp (tgt := 79) (pc' := 75) D244_72 rfl rfl (by unfold inR; omega) (fun (c123 : v82 ≠ (-1)) => ?_) (fun (c123 : ¬ (v82 ≠ (-1))) => ?_)
    · refine s_blx (lv' := [(0, vR 77), (1, vI said), (2, vI second)]) (st' := [vR 77, vR 77, vI 3, vR 100]) B244_79_81 rfl ?_
      refine r_gint (ki := 6) (pc' := 84) D244_81 rfl gf_11_194_77 rfl H116.1 ?_
      intro w124 e125 r126
      have e127 : zz = w124 := (e125.trans ((u115.gi_ne (by decide) (Or.inl (by decide))).trans ((u106.gi_ne (by decide) (Or.inl (by decide))).trans ((u97.gi_ne (by decide) (Or.inl (by decide))).trans ((u88.gi_ne (by decide) (Or.inr (by decide))).trans (h4)))))).symm
      subst e127
      refine s_blx (lv' := [(0, vR 77), (1, vI said), (2, vI second)]) (st' := [vR 77, vI zz, vR 77, vI 3, vR 100]) B244_84_85 rfl ?_
      refine r_gint (ki := 13) (pc' := 88) D244_85 rfl gf_11_212_77 rfl H116.1 ?_
      intro w128 e129 r130
      have e131 : v82 = w128 := (e129.trans ((u115.gi_ne (by decide) (Or.inl (by decide))).trans ((u106.gi_ne (by decide) (Or.inl (by decide))).trans ((u97.gi_ne (by decide) (Or.inl (by decide))).trans (p90))))).symm
      subst e131
      refine s_blx (lv' := [(0, vR 77), (1, vI said), (2, vI second)]) (st' := [vR 77, vI v82, vI zz, vR 77, vI 3, vR 100]) B244_88_89 rfl ?_
      have g132 : gi M114 77 6 = zz := (u115.gi_ne (by decide) (Or.inl (by decide))).trans ((u106.gi_ne (by decide) (Or.inl (by decide))).trans ((u97.gi_ne (by decide) (Or.inl (by decide))).trans ((u88.gi_ne (by decide) (Or.inr (by decide))).trans (h4))))
      have g133 : gi M114 77 13 = v82 := (u115.gi_ne (by decide) (Or.inl (by decide))).trans ((u106.gi_ne (by decide) (Or.inl (by decide))).trans ((u97.gi_ne (by decide) (Or.inl (by decide))).trans (p90)))
      refine r_vIp (c := 77) (args := []) (rest := [vI v82, vI zz, vR 77, vI 3, vR 100]) (pc' := 92) D244_89 rfl ck_11_virtual_421 TE242 rfl (Nat.le_of_ble_eq_true rfl) ⟨Nat.le_of_ble_eq_true rfl, Nat.le_of_ble_eq_true rfl⟩ sc_77 ⟨rfl, by decide⟩ H116.1 (dp_0 hd rfl) (k242k E (dp_n hd rfl) H116 K mk zz v82 ((h1.fr f118 rfl)) (by omega) (by omega) (by omega) (by omega) (h8) (by omega) (by omega) (by omega)) ?_
      intro v134 q137
      have q136 := q137; clear q137
      refine r_vIp (c := 77) (args := [vI zz, vI v82, vI v134]) (rest := [vI 3, vR 100]) (pc' := 95) D244_92 rfl ck_11_virtual_177 TE174 rfl (Nat.le_of_ble_eq_true rfl) ⟨Nat.le_of_ble_eq_true rfl, Nat.le_of_ble_eq_true rfl⟩ sc_77 ⟨rfl, by decide⟩ H116.1 (dp_0 hd rfl) (k174k E (dp_n hd rfl) H116 zz v82 v134 K mk ((h1.fr f118 rfl)) (by omega) (by omega) (by omega) (h8) (by omega) (by omega) (by omega)) ?_
      intro v138 q142
      obtain ⟨q140, q141⟩ := q142
      refine s_blx (lv' := [(0, vR 77), (1, vI said), (2, vI second)]) (st' := [vR 77, vI (v138 * 100), vI 3, vR 100]) B244_95_99 rfl ?_
      refine r_gint (ki := 8) (pc' := 102) D244_99 rfl gf_11_197_77 rfl H116.1 ?_
      intro w143 e144 r145
      have e146 : wh = w143 := (e144.trans ((u115.gi_ne (by decide) (Or.inl (by decide))).trans ((u106.gi_ne (by decide) (Or.inl (by decide))).trans ((u97.gi_ne (by decide) (Or.inl (by decide))).trans ((u88.gi_ne (by decide) (Or.inr (by decide))).trans (h5)))))).symm
      subst e146
      refine r_idiv (pc' := 103) D244_102 rfl (by omega) ?_
      have r149 := Int.ediv_nonneg (show 0 ≤ (v138 * 100) by omega) (show 0 ≤ wh by omega)
      have r150 := Int.ediv_le_self (wh) (show 0 ≤ (v138 * 100) by omega)
      generalize (v138 * 100) / wh = z147 at *
      refine r_iast (pc' := 104) D244_103 rfl sc_100 H116 (by omega) (by unfold inR; omega) trivial ?_
      intro M151 u152 H153 p154
      have f155 := f118.wr u152 rfl
      refine s_blx (lv' := [(0, vR 77), (1, vI said), (2, vI second)]) (st' := [vR 77]) B244_104_105 rfl ?_
      refine r_gfix (r := 100) (pc' := 108) D244_105 rfl gf_11_87_77 H153.1 ?_
      refine s_blx (lv' := [(0, vR 77), (1, vI said), (2, vI second)]) (st' := [vR 77, vI 4, vR 100]) B244_108_110 rfl ?_
      refine r_gint (ki := 13) (pc' := 113) D244_110 rfl gf_11_212_77 rfl H153.1 ?_
      intro w156 e157 r158
      have e159 : v82 = w156 := (e157.trans ((u152.gi_ne (by decide) (Or.inl (by decide))).trans ((u115.gi_ne (by decide) (Or.inl (by decide))).trans ((u106.gi_ne (by decide) (Or.inl (by decide))).trans ((u97.gi_ne (by decide) (Or.inl (by decide))).trans (p90)))))).symm
      subst e159
      refine s_blx (lv' := [(0, vR 77), (1, vI said), (2, vI second)]) (st' := [vI (-1), vI v82, vI 4, vR 100]) B244_113_114 rfl ?_
      refine r_icmp (tgt := 121) (pc' := 117) D244_114 rfl rfl (by unfold inR; omega) (fun (c160 : v82 ≠ (-1)) => ?_) (fun (c160 : ¬ (v82 ≠ (-1))) => ?_)
      · refine s_blx (lv' := [(0, vR 77), (1, vI said), (2, vI second)]) (st' := [vR 77, vI 4, vR 100]) B244_121_122 rfl ?_
        refine r_gfix (r := 83) (pc' := 125) D244_122 rfl gf_11_30_77 H153.1 ?_
        refine s_blx (lv' := [(0, vR 77), (1, vI said), (2, vI second)]) (st' := [vR 77, vR 83, vI 4, vR 100]) B244_125_126 rfl ?_
        refine r_gint (ki := 13) (pc' := 129) D244_126 rfl gf_11_212_77 rfl H153.1 ?_
        intro w161 e162 r163
        have e164 : v82 = w161 := (e162.trans ((u152.gi_ne (by decide) (Or.inl (by decide))).trans ((u115.gi_ne (by decide) (Or.inl (by decide))).trans ((u106.gi_ne (by decide) (Or.inl (by decide))).trans ((u97.gi_ne (by decide) (Or.inl (by decide))).trans (p90)))))).symm
        subst e164
        refine r_iald (pc' := 130) D244_129 rfl sc_83 H153.1 (by omega) ?_
        intro w165 e166 r167
        unfold inR at r167
        refine r_sIp (args := [vI w165]) (rest := [vI 4, vR 100]) (pc' := 133) D244_130 rfl ck_11_static_174 TE175 rfl (Nat.le_of_ble_eq_true rfl) ⟨Nat.le_of_ble_eq_true rfl, Nat.le_of_ble_eq_true rfl⟩ (by decide) (dp_0 hd rfl) (k175 E (dp_n hd rfl) H153 w165 (by omega)) ?_
        intro v168 q171
        have q170 := q171; clear q171
        refine r_iast (pc' := 134) D244_133 rfl sc_100 H153 (by omega) (by unfold inR; omega) trivial ?_
        intro M172 u173 H174 p175
        have f176 := f155.wr u173 rfl
        refine s_blx (lv' := [(0, vR 77), (1, vI said), (2, vI second)]) (st' := [vR 77]) B244_134_135 rfl ?_
        refine r_gfix (r := 100) (pc' := 138) D244_135 rfl gf_11_87_77 H174.1 ?_
        refine s_blx (lv' := [(0, vR 77), (1, vI said), (2, vI second)]) (st' := [vI second, vI 5, vR 100]) B244_138_140 rfl ?_
        refine r_iast (pc' := 141) D244_140 rfl sc_100 H174 (by omega) (by unfold inR; omega) trivial ?_
        intro M177 u178 H179 p180
        have f181 := f176.wr u178 rfl
        refine s_blx (lv' := [(0, vR 77), (1, vI said), (2, vI second)]) (st' := [vR 77]) B244_141_142 rfl ?_
        refine r_gfix (r := 100) (pc' := 145) D244_142 rfl gf_11_87_77 H179.1 ?_
        refine s_blx (lv' := [(0, vR 77), (1, vI said), (2, vI second)]) (st' := [vR 77, vI 6, vR 100]) B244_145_148 rfl ?_
        refine r_gfix (r := 78) (pc' := 151) D244_148 rfl gf_11_13_77 H179.1 ?_
        refine s_blx (lv' := [(0, vR 77), (1, vI said), (2, vI second)]) (st' := [vI 474, vR 78, vI 6, vR 100]) B244_151_154 rfl ?_
        refine r_iald (pc' := 155) D244_154 rfl sc_78 H179.1 (by omega) ?_
        intro w182 e183 r184
        have kk_w182 := ((h1.fr f181 rfl)) (474)
        have b_w182 := H179.2 78 (474) 0 3 (rk_who (by omega))
        rw [← e183] at b_w182; clear r184
        refine r_iast (pc' := 156) D244_155 rfl sc_100 H179 (by omega) (by unfold inR; omega) trivial ?_
        intro M185 u186 H187 p188
        have f189 := f181.wr u186 rfl
        refine s_blx (lv' := [(0, vR 77), (1, vI said), (2, vI second)]) (st' := [vR 77]) B244_156_157 rfl ?_
        refine r_gfix (r := 100) (pc' := 160) D244_157 rfl gf_11_87_77 H187.1 ?_
        refine s_blx (lv' := [(0, vR 77), (1, vI said), (2, vI second)]) (st' := [vI 0, vI 7, vR 100]) B244_160_163 rfl ?_
        refine r_iast (pc' := 164) D244_163 rfl sc_100 H187 (by omega) (by unfold inR; omega) trivial ?_
        intro M190 u191 H192 p193
        have f194 := f189.wr u191 rfl
        refine s_blx (lv' := [(3, vI 0), (0, vR 77), (1, vI said), (2, vI second)]) (st' := []) B244_164_166 rfl ?_
        refine r_loc (lv' := [(0, vR 77), (1, vI said), (3, vI 0)]) ⟨rfl, rfl, rfl, trivial⟩ rfl rfl ?_
        exact (L_k244k E hd H said second K mk zz wh h0 h1 h2 h3 h4 h5 h6 h7 h8 h9 h10 h11 (((3 - 0) * 1 + 0 : Int) + 1).toNat) 0 M190 H192 f194 (by omega) (by omega) (by omega)
      · exfalso; omega
    · exfalso; omega
set_option maxRecDepth 4000 in
theorem k245k {base : Nat} {X : Nat → Option mC} {G : Nat → Value} (E : EnvOK base X G) {d : Nat} (hd : 4 ≤ d) {M : mH} (H : HI base M) (head : Int) (said : Int) (K : Int → Int) (mk : Int) (zz : Int) (h0 : TB M) (h1 : KK K M) (h2 : 1 ≤ head ∧ head ≤ 6) (h3 : 0 ≤ said ∧ said ≤ 1110) (h4 : gi M 77 6 = zz) (h5 : -2147483648 ≤ zz ∧ zz ≤ 2147483647) (h6 : bt zz mk) (h7 : 0 ≤ mk ∧ mk ≤ 15) (h8 : mk < K 469) (h9 : 1 ≤ K (135 + 16 * mk + 12 + K 474)) : sOk base X G d T245 [vR 77, vI head, vI said] M (pI (fun v M' => M' = M ∧ (-1 ≤ v ∧ v ≤ 22) ∧ (v = -1 ∨ (0 ≤ v ∧ v ≤ 4) ∨ (10 ≤ v ∧ v ≤ 17) ∨ (20 ≤ v ∧ v ≤ 22)))) := by
  refine sOk.of (show sRn base X G d T245 0 [(0, vR 77), (1, vI head), (2, vI said)] [] M _ from ?_)
  refine s_blx (lv' := [(0, vR 77), (1, vI head), (2, vI said)]) (st' := [vI 4, vI head]) B245_0_2 rfl ?_
  refine r_icmp (tgt := 11) (pc' := 5) D245_2 rfl rfl (by unfold inR; omega) (fun (c1 : 4 < head) => ?_) (fun (c1 : ¬ (4 < head)) => ?_)
  · refine s_blx (lv' := [(3, vI (-1)), (0, vR 77), (1, vI head), (2, vI said)]) (st' := [vI 5, vI head]) B245_11_15 rfl ?_
    refine r_icmp (tgt := 47) (pc' := 18) D245_15 rfl rfl (by unfold inR; omega) (fun (c2 : head ≠ 5) => ?_) (fun (c2 : ¬ (head ≠ 5)) => ?_)
    · refine s_blx (lv' := [(3, vI (-1)), (0, vR 77), (1, vI head), (2, vI said)]) (st' := [vI 6, vI head]) B245_47_50 rfl ?_
      refine r_icmp (tgt := 71) (pc' := 53) D245_50 rfl rfl (by unfold inR; omega) (fun (c3 : head ≠ 6) => ?_) (fun (c3 : ¬ (head ≠ 6)) => ?_)
      · exfalso; omega
      · refine s_blx (lv' := [(3, vI (-1)), (0, vR 77), (1, vI head), (2, vI said)]) (st' := [vI said, vR 77]) B245_53_55 rfl ?_
        obtain ⟨t4, ht5⟩ : ∃ q, q = gi M 78 473 := ⟨_, rfl⟩
        have g6 : gi M 78 473 = t4 := ht5.symm
        refine r_vIp (c := 77) (args := [vI said]) (rest := []) (pc' := 58) D245_55 rfl ck_11_virtual_425 TE243 rfl (Nat.le_of_ble_eq_true rfl) ⟨Nat.le_of_ble_eq_true rfl, Nat.le_of_ble_eq_true rfl⟩ sc_77 ⟨rfl, by decide⟩ H.1 (dp_0 hd rfl) (k243k E (dp_n hd rfl) H said t4 (gi M 84) (h0) (fun _ _ _ => rfl) (by omega) (by omega)) ?_
        intro v7 q12
        obtain ⟨q9, q10, q11⟩ := q12
        have kf1 := q10; clear q10
        refine s_blx (lv' := [(3, vI (-1)), (0, vR 77), (1, vI head), (2, vI said)]) (st' := [vI (-1), vI v7]) B245_58_59 rfl ?_
        refine r_icmp (tgt := 71) (pc' := 62) D245_59 rfl rfl (by unfold inR; omega) (fun (c13 : v7 = (-1)) => ?_) (fun (c13 : ¬ (v7 = (-1))) => ?_)
        · refine s_blx (lv' := [(3, vI (-1)), (0, vR 77), (1, vI head), (2, vI said)]) (st' := [vI (-1)]) B245_71_72 rfl ?_
          exact r_iretI D245_72 rfl (⟨rfl, by omega, by omega⟩)
        · refine s_blx (lv' := [(3, vI (-1)), (0, vR 77), (1, vI head), (2, vI said)]) (st' := [vI said, vR 77, vI 20]) B245_62_66 rfl ?_
          have g14 : gi M 78 473 = t4 := ht5.symm
          refine r_vIp (c := 77) (args := [vI said]) (rest := [vI 20]) (pc' := 69) D245_66 rfl ck_11_virtual_425 TE243 rfl (Nat.le_of_ble_eq_true rfl) ⟨Nat.le_of_ble_eq_true rfl, Nat.le_of_ble_eq_true rfl⟩ sc_77 ⟨rfl, by decide⟩ H.1 (dp_0 hd rfl) (k243k E (dp_n hd rfl) H said t4 (gi M 84) (h0) (fun _ _ _ => rfl) (by omega) (by omega)) ?_
          intro v15 q20
          obtain ⟨q17, q18, q19⟩ := q20
          have k2 : v15 ≠ -1 := fun h => q19 h v7 (by omega) (by omega) (kf1 (by omega))
          refine s_blx (lv' := [(3, vI (20 + v15)), (0, vR 77), (1, vI head), (2, vI said)]) (st' := [vI (20 + v15)]) B245_69_72 rfl ?_
          exact r_iretI D245_72 rfl (⟨rfl, by omega, by omega⟩)
    · refine s_blx (lv' := [(3, vI (-1)), (0, vR 77), (1, vI head), (2, vI said)]) (st' := [vR 77]) B245_18_19 rfl ?_
      refine r_gint (ki := 13) (pc' := 22) D245_19 rfl gf_11_212_77 rfl H.1 ?_
      intro w21 e22 r23
      have b_w21 := H.2 77 (13) (-1) 2 rfl
      rw [← e22] at b_w21; clear r23
      refine s_blx (lv' := [(3, vI (-1)), (0, vR 77), (1, vI head), (2, vI said)]) (st' := [vI (-1), vI w21]) B245_22_23 rfl ?_
      refine r_icmp (tgt := 47) (pc' := 26) D245_23 rfl rfl (by unfold inR; omega) (fun (c24 : w21 = (-1)) => ?_) (fun (c24 : ¬ (w21 = (-1))) => ?_)
      · refine s_blx (lv' := [(3, vI (-1)), (0, vR 77), (1, vI head), (2, vI said)]) (st' := [vI 6, vI head]) B245_47_50 rfl ?_
        refine r_icmp (tgt := 71) (pc' := 53) D245_50 rfl rfl (by unfold inR; omega) (fun (c25 : head ≠ 6) => ?_) (fun (c25 : ¬ (head ≠ 6)) => ?_)
        · refine s_blx (lv' := [(3, vI (-1)), (0, vR 77), (1, vI head), (2, vI said)]) (st' := [vI (-1)]) B245_71_72 rfl ?_
          exact r_iretI D245_72 rfl (⟨rfl, by omega, by omega⟩)
        · exfalso; omega
      · refine s_blx (lv' := [(3, vI (-1)), (0, vR 77), (1, vI head), (2, vI said)]) (st' := [vR 77]) B245_26_27 rfl ?_
        refine r_gfix (r := 84) (pc' := 30) D245_27 rfl gf_11_33_77 H.1 ?_
        refine s_blx (lv' := [(3, vI (-1)), (0, vR 77), (1, vI head), (2, vI said)]) (st' := [vR 77, vR 84]) B245_30_31 rfl ?_
        refine r_gint (ki := 13) (pc' := 34) D245_31 rfl gf_11_212_77 rfl H.1 ?_
        intro w26 e27 r28
        have e29 : w21 = w26 := (e27.trans (e22.symm)).symm
        subst e29
        refine r_iald (pc' := 35) D245_34 rfl sc_84 H.1 (by omega) ?_
        intro w30 e31 r32
        have b_w30 := H.2 84 (w21) (-1) 7 rfl
        rw [← e31] at b_w30; clear r32
        refine s_blx (lv' := [(3, vI (-1)), (0, vR 77), (1, vI head), (2, vI said)]) (st' := [vI (-1), vI w30]) B245_35_36 rfl ?_
        refine r_icmp (tgt := 47) (pc' := 39) D245_36 rfl rfl (by unfold inR; omega) (fun (c33 : w30 ≠ (-1)) => ?_) (fun (c33 : ¬ (w30 ≠ (-1))) => ?_)
        · refine s_blx (lv' := [(3, vI (-1)), (0, vR 77), (1, vI head), (2, vI said)]) (st' := [vI 6, vI head]) B245_47_50 rfl ?_
          refine r_icmp (tgt := 71) (pc' := 53) D245_50 rfl rfl (by unfold inR; omega) (fun (c34 : head ≠ 6) => ?_) (fun (c34 : ¬ (head ≠ 6)) => ?_)
          · refine s_blx (lv' := [(3, vI (-1)), (0, vR 77), (1, vI head), (2, vI said)]) (st' := [vI (-1)]) B245_71_72 rfl ?_
            exact r_iretI D245_72 rfl (⟨rfl, by omega, by omega⟩)
          · exfalso; omega
        · refine s_blx (lv' := [(3, vI (-1)), (0, vR 77), (1, vI head), (2, vI said)]) (st' := [vR 77, vI 10]) B245_39_42 rfl ?_
          have g35 : gi M 77 6 = zz := h4
          have g36 : gi M 77 13 = w21 := e22.symm
          refine r_vIp (c := 77) (args := []) (rest := [vI 10]) (pc' := 45) D245_42 rfl ck_11_virtual_421 TE242 rfl (Nat.le_of_ble_eq_true rfl) ⟨Nat.le_of_ble_eq_true rfl, Nat.le_of_ble_eq_true rfl⟩ sc_77 ⟨rfl, by decide⟩ H.1 (dp_0 hd rfl) (k242k E (dp_n hd rfl) H K mk zz w21 (h1) (by omega) (by omega) (by omega) (by omega) (h6) (by omega) (by omega) (by omega)) ?_
          intro v37 q40
          have q39 := q40; clear q40
          refine s_blx (lv' := [(3, vI (10 + v37)), (0, vR 77), (1, vI head), (2, vI said)]) (st' := [vI 6, vI head]) B245_45_50 rfl ?_
          refine r_icmp (tgt := 71) (pc' := 53) D245_50 rfl rfl (by unfold inR; omega) (fun (c41 : head ≠ 6) => ?_) (fun (c41 : ¬ (head ≠ 6)) => ?_)
          · refine s_blx (lv' := [(3, vI (10 + v37)), (0, vR 77), (1, vI head), (2, vI said)]) (st' := [vI (10 + v37)]) B245_71_72 rfl ?_
            exact r_iretI D245_72 rfl (⟨rfl, by omega, by omega⟩)
          · exfalso; omega
  · refine s_blx (lv' := [(0, vR 77), (1, vI head), (2, vI said)]) (st' := [vI (head - 1)]) B245_5_8 rfl ?_
    refine r_goto (tgt := 12) D245_8 rfl ?_
    refine s_blx (lv' := [(3, vI (head - 1)), (0, vR 77), (1, vI head), (2, vI said)]) (st' := [vI 5, vI head]) B245_12_15 rfl ?_
    refine r_icmp (tgt := 47) (pc' := 18) D245_15 rfl rfl (by unfold inR; omega) (fun (c42 : head ≠ 5) => ?_) (fun (c42 : ¬ (head ≠ 5)) => ?_)
    · refine s_blx (lv' := [(3, vI (head - 1)), (0, vR 77), (1, vI head), (2, vI said)]) (st' := [vI 6, vI head]) B245_47_50 rfl ?_
      refine r_icmp (tgt := 71) (pc' := 53) D245_50 rfl rfl (by unfold inR; omega) (fun (c43 : head ≠ 6) => ?_) (fun (c43 : ¬ (head ≠ 6)) => ?_)
      · refine s_blx (lv' := [(3, vI (head - 1)), (0, vR 77), (1, vI head), (2, vI said)]) (st' := [vI (head - 1)]) B245_71_72 rfl ?_
        exact r_iretI D245_72 rfl (⟨rfl, by omega, by omega⟩)
      · exfalso; omega
    · exfalso; omega
set_option maxRecDepth 4000 in
theorem k161k {base : Nat} {X : Nat → Option mC} {G : Nat → Value} (E : EnvOK base X G) {d : Nat} (hd : 1 ≤ d) {M : mH} (H : HI base M) (w : Int) (what : Int) (value : Int) (h0 : LN M) (h1 : GK M) (h2 : -2147483648 ≤ w ∧ w ≤ 2147483647) (h3 : -2147483648 ≤ what ∧ what ≤ 2147483647) (h4 : -2147483648 ≤ value ∧ value ≤ 2147483647) : sOk base X G d T161 [vR 77, vI w, vI what, vI value] M (pI (fun v M' => HI base M' ∧ Fr [(77, 1), (78, 0)] M M' ∧ (LN M') ∧ (GK M'))) := by
  have f0 : Fr [(77, 1), (78, 0)] M M := Fr.rf
  refine sOk.of (show sRn base X G d T161 0 [(0, vR 77), (1, vI w), (2, vI what), (3, vI value)] [] M _ from ?_)
  refine s_blx (lv' := [(0, vR 77), (1, vI w), (2, vI what), (3, vI value)]) (st' := [vI 29, vI 0, vI w]) B161_0_4 rfl ?_
  refine r_sIp (args := [vI w, vI 0, vI 29]) (rest := []) (pc' := 7) D161_4 rfl ck_11_static_123 TE147 rfl (Nat.le_of_ble_eq_true rfl) ⟨Nat.le_of_ble_eq_true rfl, Nat.le_of_ble_eq_true rfl⟩ (by decide) (dp_0 hd rfl) (k147 E (dp_n hd rfl) H w 0 29 (by omega) (by omega) (by omega)) ?_
  intro v1 q6
  obtain ⟨q3, q4, q5⟩ := q6
  refine r_ifc (tgt := 48) (pc' := 10) D161_7 rfl rfl (by unfold inR; omega) (fun (c7 : v1 = 0) => ?_) (fun (c7 : ¬ (v1 = 0)) => ?_)
  · refine s_blx (lv' := [(0, vR 77), (1, vI w), (2, vI what), (3, vI value)]) (st' := [vI (-1), vR 77]) B161_48_50 rfl ?_
    refine r_vI (c := 77) (args := [vI (-1)]) (rest := []) (pc' := 53) D161_50 rfl ck_11_virtual_127 TE148 rfl (Nat.le_of_ble_eq_true rfl) ⟨Nat.le_of_ble_eq_true rfl, Nat.le_of_ble_eq_true rfl⟩ sc_77 ⟨rfl, by decide⟩ H.1 (dp_0 hd rfl) (k148 E (dp_n hd rfl) H (-1) (by omega)) ?_
    intro v8 M9 q13
    obtain ⟨H10, f11, q12⟩ := q13
    have f14 := f0.tr (f11.up rfl)
    have hp15 := h0.fr f11 (by decide)
    have hp16 := h1.fr f11 (by decide)
    exact r_iretI D161_53 rfl (⟨H10, f14, hp15, hp16⟩)
  · refine s_blx (lv' := [(0, vR 77), (1, vI w), (2, vI what), (3, vI value)]) (st' := [vI 2, vI 0, vI what]) B161_10_13 rfl ?_
    refine r_sIp (args := [vI what, vI 0, vI 2]) (rest := []) (pc' := 16) D161_13 rfl ck_11_static_123 TE147 rfl (Nat.le_of_ble_eq_true rfl) ⟨Nat.le_of_ble_eq_true rfl, Nat.le_of_ble_eq_true rfl⟩ (by decide) (dp_0 hd rfl) (k147 E (dp_n hd rfl) H what 0 2 (by omega) (by omega) (by omega)) ?_
    intro v17 q22
    obtain ⟨q19, q20, q21⟩ := q22
    refine r_ifc (tgt := 48) (pc' := 19) D161_16 rfl rfl (by unfold inR; omega) (fun (c23 : v17 = 0) => ?_) (fun (c23 : ¬ (v17 = 0)) => ?_)
    · refine s_blx (lv' := [(0, vR 77), (1, vI w), (2, vI what), (3, vI value)]) (st' := [vI (-1), vR 77]) B161_48_50 rfl ?_
      refine r_vI (c := 77) (args := [vI (-1)]) (rest := []) (pc' := 53) D161_50 rfl ck_11_virtual_127 TE148 rfl (Nat.le_of_ble_eq_true rfl) ⟨Nat.le_of_ble_eq_true rfl, Nat.le_of_ble_eq_true rfl⟩ sc_77 ⟨rfl, by decide⟩ H.1 (dp_0 hd rfl) (k148 E (dp_n hd rfl) H (-1) (by omega)) ?_
      intro v24 M25 q29
      obtain ⟨H26, f27, q28⟩ := q29
      have f30 := f0.tr (f27.up rfl)
      have hp31 := h0.fr f27 (by decide)
      have hp32 := h1.fr f27 (by decide)
      exact r_iretI D161_53 rfl (⟨H26, f30, hp31, hp32⟩)
    · refine s_blx (lv' := [(0, vR 77), (1, vI w), (2, vI what), (3, vI value)]) (st' := [vI 1, vI what, vI value]) B161_19_22 rfl ?_
      refine r_icmp (tgt := 29) (pc' := 25) D161_22 rfl rfl (by unfold inR; omega) (fun (c33 : what ≠ 1) => ?_) (fun (c33 : ¬ (what ≠ 1)) => ?_)
      · refine s_blx (lv' := [(0, vR 77), (1, vI w), (2, vI what), (3, vI value)]) (st' := [vI 1, vI what, vI 0, vI value]) B161_29_32 rfl ?_
        refine r_icmp (tgt := 40) (pc' := 35) D161_32 rfl rfl (by unfold inR; omega) (fun (c34 : what ≠ 1) => ?_) (fun (c34 : ¬ (what ≠ 1)) => ?_)
        · refine s_blx (lv' := [(0, vR 77), (1, vI w), (2, vI what), (3, vI value)]) (st' := [vI 9, vI 0, vI value]) B161_40_42 rfl ?_
          refine r_sIp (args := [vI value, vI 0, vI 9]) (rest := []) (pc' := 45) D161_42 rfl ck_11_static_123 TE147 rfl (Nat.le_of_ble_eq_true rfl) ⟨Nat.le_of_ble_eq_true rfl, Nat.le_of_ble_eq_true rfl⟩ (by decide) (dp_0 hd rfl) (k147 E (dp_n hd rfl) H value 0 9 (by omega) (by omega) (by omega)) ?_
          intro v35 q40
          obtain ⟨q37, q38, q39⟩ := q40
          refine r_ifc (tgt := 54) (pc' := 48) D161_45 rfl rfl (by unfold inR; omega) (fun (c41 : v35 ≠ 0) => ?_) (fun (c41 : ¬ (v35 ≠ 0)) => ?_)
          · refine s_blx (lv' := [(0, vR 77), (1, vI w), (2, vI what), (3, vI value)]) (st' := [vI what]) B161_54_55 rfl ?_
            refine r_ifc (tgt := 62) (pc' := 58) D161_55 rfl rfl (by unfold inR; omega) (fun (c42 : what ≠ 0) => ?_) (fun (c42 : ¬ (what ≠ 0)) => ?_)
            · refine s_blx (lv' := [(0, vR 77), (1, vI w), (2, vI what), (3, vI value)]) (st' := [vI 1, vI what]) B161_62_64 rfl ?_
              refine r_icmp (tgt := 72) (pc' := 67) D161_64 rfl rfl (by unfold inR; omega) (fun (c43 : what ≠ 1) => ?_) (fun (c43 : ¬ (what ≠ 1)) => ?_)
              · refine s_blx (lv' := [(4, vI (60 + w)), (0, vR 77), (1, vI w), (2, vI what), (3, vI value)]) (st' := [vR 77]) B161_72_79 rfl ?_
                refine r_gfix (r := 78) (pc' := 82) D161_79 rfl gf_11_13_77 H.1 ?_
                refine s_blx (lv' := [(4, vI (60 + w)), (0, vR 77), (1, vI w), (2, vI what), (3, vI value)]) (st' := [vI (60 + w), vR 78]) B161_82_84 rfl ?_
                refine r_iald (pc' := 85) D161_84 rfl sc_78 H.1 (by omega) ?_
                intro w44 e45 r46
                have b_w44 := H.2 78 (60 + w) 0 9 (rk_spare (by omega))
                rw [← e45] at b_w44; clear r46
                refine s_blx (lv' := [(5, vI w44), (4, vI (60 + w)), (0, vR 77), (1, vI w), (2, vI what), (3, vI value)]) (st' := [vR 77]) B161_85_88 rfl ?_
                refine r_gfix (r := 78) (pc' := 91) D161_88 rfl gf_11_13_77 H.1 ?_
                refine s_blx (lv' := [(5, vI w44), (4, vI (60 + w)), (0, vR 77), (1, vI w), (2, vI what), (3, vI value)]) (st' := [vI value, vI (60 + w), vR 78]) B161_91_94 rfl ?_
                refine r_iast (pc' := 95) D161_94 rfl sc_78 H (by omega) (by unfold inR; omega) (by show s_in (rgK _) _; rw [rk_spare (by omega)]; show 0 ≤ value ∧ value ≤ 9; omega) ?_
                intro M47 u48 H49 p50
                have f51 := f0.wr u48 rfl
                have hp52 := h0.w u48 (by omega) H
                have hp53 := h1.w u48 (by omega) H
                refine s_blx (lv' := [(5, vI w44), (4, vI (60 + w)), (0, vR 77), (1, vI w), (2, vI what), (3, vI value)]) (st' := [vI w44, vR 77]) B161_95_98 rfl ?_
                refine r_vI (c := 77) (args := [vI w44]) (rest := []) (pc' := 101) D161_98 rfl ck_11_virtual_131 TE149 rfl (Nat.le_of_ble_eq_true rfl) ⟨Nat.le_of_ble_eq_true rfl, Nat.le_of_ble_eq_true rfl⟩ sc_77 ⟨rfl, by decide⟩ H49.1 (dp_0 hd rfl) (k149 E (dp_n hd rfl) H49 w44 (by omega)) ?_
                intro v54 M55 q59
                obtain ⟨H56, f57, q58⟩ := q59
                have f60 := f51.tr (f57.up rfl)
                have hp61 := hp52.fr f57 (by decide)
                have hp62 := hp53.fr f57 (by decide)
                exact r_iretI D161_101 rfl (⟨H56, f60, hp61, hp62⟩)
              · refine s_blx (lv' := [(0, vR 77), (1, vI w), (2, vI what), (3, vI value)]) (st' := [vI 30]) B161_67_69 rfl ?_
                refine r_goto (tgt := 74) D161_69 rfl ?_
                refine s_blx (lv' := [(4, vI (30 + w)), (0, vR 77), (1, vI w), (2, vI what), (3, vI value)]) (st' := [vR 77]) B161_74_79 rfl ?_
                refine r_gfix (r := 78) (pc' := 82) D161_79 rfl gf_11_13_77 H.1 ?_
                refine s_blx (lv' := [(4, vI (30 + w)), (0, vR 77), (1, vI w), (2, vI what), (3, vI value)]) (st' := [vI (30 + w), vR 78]) B161_82_84 rfl ?_
                refine r_iald (pc' := 85) D161_84 rfl sc_78 H.1 (by omega) ?_
                intro w63 e64 r65
                have b_w63 := H.2 78 (30 + w) 0 60 (rk_look (by omega))
                rw [← e64] at b_w63; clear r65
                refine s_blx (lv' := [(5, vI w63), (4, vI (30 + w)), (0, vR 77), (1, vI w), (2, vI what), (3, vI value)]) (st' := [vR 77]) B161_85_88 rfl ?_
                refine r_gfix (r := 78) (pc' := 91) D161_88 rfl gf_11_13_77 H.1 ?_
                refine s_blx (lv' := [(5, vI w63), (4, vI (30 + w)), (0, vR 77), (1, vI w), (2, vI what), (3, vI value)]) (st' := [vI value, vI (30 + w), vR 78]) B161_91_94 rfl ?_
                refine r_iast (pc' := 95) D161_94 rfl sc_78 H (by omega) (by unfold inR; omega) (by show s_in (rgK _) _; rw [rk_look (by omega)]; show 0 ≤ value ∧ value ≤ 60; omega) ?_
                intro M66 u67 H68 p69
                have f70 := f0.wr u67 rfl
                have hp71 := h0.w u67 (by omega) H
                have hp72 := h1.w u67 (by omega) H
                refine s_blx (lv' := [(5, vI w63), (4, vI (30 + w)), (0, vR 77), (1, vI w), (2, vI what), (3, vI value)]) (st' := [vI w63, vR 77]) B161_95_98 rfl ?_
                refine r_vI (c := 77) (args := [vI w63]) (rest := []) (pc' := 101) D161_98 rfl ck_11_virtual_131 TE149 rfl (Nat.le_of_ble_eq_true rfl) ⟨Nat.le_of_ble_eq_true rfl, Nat.le_of_ble_eq_true rfl⟩ sc_77 ⟨rfl, by decide⟩ H68.1 (dp_0 hd rfl) (k149 E (dp_n hd rfl) H68 w63 (by omega)) ?_
                intro v73 M74 q78
                obtain ⟨H75, f76, q77⟩ := q78
                have f79 := f70.tr (f76.up rfl)
                have hp80 := hp71.fr f76 (by decide)
                have hp81 := hp72.fr f76 (by decide)
                exact r_iretI D161_101 rfl (⟨H75, f79, hp80, hp81⟩)
            · refine s_blx (lv' := [(0, vR 77), (1, vI w), (2, vI what), (3, vI value)]) (st' := [vI 0]) B161_58_59 rfl ?_
              refine r_goto (tgt := 74) D161_59 rfl ?_
              refine s_blx (lv' := [(4, vI (0 + w)), (0, vR 77), (1, vI w), (2, vI what), (3, vI value)]) (st' := [vR 77]) B161_74_79 rfl ?_
              refine r_gfix (r := 78) (pc' := 82) D161_79 rfl gf_11_13_77 H.1 ?_
              refine s_blx (lv' := [(4, vI (0 + w)), (0, vR 77), (1, vI w), (2, vI what), (3, vI value)]) (st' := [vI (0 + w), vR 78]) B161_82_84 rfl ?_
              refine r_iald (pc' := 85) D161_84 rfl sc_78 H.1 (by omega) ?_
              intro w82 e83 r84
              have b_w82 := H.2 78 (0 + w) 0 9 (rk_load (by omega))
              rw [← e83] at b_w82; clear r84
              refine s_blx (lv' := [(5, vI w82), (4, vI (0 + w)), (0, vR 77), (1, vI w), (2, vI what), (3, vI value)]) (st' := [vR 77]) B161_85_88 rfl ?_
              refine r_gfix (r := 78) (pc' := 91) D161_88 rfl gf_11_13_77 H.1 ?_
              refine s_blx (lv' := [(5, vI w82), (4, vI (0 + w)), (0, vR 77), (1, vI w), (2, vI what), (3, vI value)]) (st' := [vI value, vI (0 + w), vR 78]) B161_91_94 rfl ?_
              refine r_iast (pc' := 95) D161_94 rfl sc_78 H (by omega) (by unfold inR; omega) (by show s_in (rgK _) _; rw [rk_load (by omega)]; show 0 ≤ value ∧ value ≤ 9; omega) ?_
              intro M85 u86 H87 p88
              have f89 := f0.wr u86 rfl
              have hp90 := h0.w u86 (by omega) H
              have hp91 := h1.w u86 (by omega) H
              refine s_blx (lv' := [(5, vI w82), (4, vI (0 + w)), (0, vR 77), (1, vI w), (2, vI what), (3, vI value)]) (st' := [vI w82, vR 77]) B161_95_98 rfl ?_
              refine r_vI (c := 77) (args := [vI w82]) (rest := []) (pc' := 101) D161_98 rfl ck_11_virtual_131 TE149 rfl (Nat.le_of_ble_eq_true rfl) ⟨Nat.le_of_ble_eq_true rfl, Nat.le_of_ble_eq_true rfl⟩ sc_77 ⟨rfl, by decide⟩ H87.1 (dp_0 hd rfl) (k149 E (dp_n hd rfl) H87 w82 (by omega)) ?_
              intro v92 M93 q97
              obtain ⟨H94, f95, q96⟩ := q97
              have f98 := f89.tr (f95.up rfl)
              have hp99 := hp90.fr f95 (by decide)
              have hp100 := hp91.fr f95 (by decide)
              exact r_iretI D161_101 rfl (⟨H94, f98, hp99, hp100⟩)
          · refine s_blx (lv' := [(0, vR 77), (1, vI w), (2, vI what), (3, vI value)]) (st' := [vI (-1), vR 77]) B161_48_50 rfl ?_
            refine r_vI (c := 77) (args := [vI (-1)]) (rest := []) (pc' := 53) D161_50 rfl ck_11_virtual_127 TE148 rfl (Nat.le_of_ble_eq_true rfl) ⟨Nat.le_of_ble_eq_true rfl, Nat.le_of_ble_eq_true rfl⟩ sc_77 ⟨rfl, by decide⟩ H.1 (dp_0 hd rfl) (k148 E (dp_n hd rfl) H (-1) (by omega)) ?_
            intro v101 M102 q106
            obtain ⟨H103, f104, q105⟩ := q106
            have f107 := f0.tr (f104.up rfl)
            have hp108 := h0.fr f104 (by decide)
            have hp109 := h1.fr f104 (by decide)
            exact r_iretI D161_53 rfl (⟨H103, f107, hp108, hp109⟩)
        · refine s_blx (lv' := [(0, vR 77), (1, vI w), (2, vI what), (3, vI value)]) (st' := [vI 60, vI 0, vI value]) B161_35_37 rfl ?_
          refine r_goto (tgt := 42) D161_37 rfl ?_
          refine r_sIp (args := [vI value, vI 0, vI 60]) (rest := []) (pc' := 45) D161_42 rfl ck_11_static_123 TE147 rfl (Nat.le_of_ble_eq_true rfl) ⟨Nat.le_of_ble_eq_true rfl, Nat.le_of_ble_eq_true rfl⟩ (by decide) (dp_0 hd rfl) (k147 E (dp_n hd rfl) H value 0 60 (by omega) (by omega) (by omega)) ?_
          intro v110 q115
          obtain ⟨q112, q113, q114⟩ := q115
          refine r_ifc (tgt := 54) (pc' := 48) D161_45 rfl rfl (by unfold inR; omega) (fun (c116 : v110 ≠ 0) => ?_) (fun (c116 : ¬ (v110 ≠ 0)) => ?_)
          · refine s_blx (lv' := [(0, vR 77), (1, vI w), (2, vI what), (3, vI value)]) (st' := [vI what]) B161_54_55 rfl ?_
            refine r_ifc (tgt := 62) (pc' := 58) D161_55 rfl rfl (by unfold inR; omega) (fun (c117 : what ≠ 0) => ?_) (fun (c117 : ¬ (what ≠ 0)) => ?_)
            · refine s_blx (lv' := [(0, vR 77), (1, vI w), (2, vI what), (3, vI value)]) (st' := [vI 1, vI what]) B161_62_64 rfl ?_
              refine r_icmp (tgt := 72) (pc' := 67) D161_64 rfl rfl (by unfold inR; omega) (fun (c118 : what ≠ 1) => ?_) (fun (c118 : ¬ (what ≠ 1)) => ?_)
              · exfalso; omega
              · refine s_blx (lv' := [(0, vR 77), (1, vI w), (2, vI what), (3, vI value)]) (st' := [vI 30]) B161_67_69 rfl ?_
                refine r_goto (tgt := 74) D161_69 rfl ?_
                refine s_blx (lv' := [(4, vI (30 + w)), (0, vR 77), (1, vI w), (2, vI what), (3, vI value)]) (st' := [vR 77]) B161_74_79 rfl ?_
                refine r_gfix (r := 78) (pc' := 82) D161_79 rfl gf_11_13_77 H.1 ?_
                refine s_blx (lv' := [(4, vI (30 + w)), (0, vR 77), (1, vI w), (2, vI what), (3, vI value)]) (st' := [vI (30 + w), vR 78]) B161_82_84 rfl ?_
                refine r_iald (pc' := 85) D161_84 rfl sc_78 H.1 (by omega) ?_
                intro w119 e120 r121
                have b_w119 := H.2 78 (30 + w) 0 60 (rk_look (by omega))
                rw [← e120] at b_w119; clear r121
                refine s_blx (lv' := [(5, vI w119), (4, vI (30 + w)), (0, vR 77), (1, vI w), (2, vI what), (3, vI value)]) (st' := [vR 77]) B161_85_88 rfl ?_
                refine r_gfix (r := 78) (pc' := 91) D161_88 rfl gf_11_13_77 H.1 ?_
                refine s_blx (lv' := [(5, vI w119), (4, vI (30 + w)), (0, vR 77), (1, vI w), (2, vI what), (3, vI value)]) (st' := [vI value, vI (30 + w), vR 78]) B161_91_94 rfl ?_
                refine r_iast (pc' := 95) D161_94 rfl sc_78 H (by omega) (by unfold inR; omega) (by show s_in (rgK _) _; rw [rk_look (by omega)]; show 0 ≤ value ∧ value ≤ 60; omega) ?_
                intro M122 u123 H124 p125
                have f126 := f0.wr u123 rfl
                have hp127 := h0.w u123 (by omega) H
                have hp128 := h1.w u123 (by omega) H
                refine s_blx (lv' := [(5, vI w119), (4, vI (30 + w)), (0, vR 77), (1, vI w), (2, vI what), (3, vI value)]) (st' := [vI w119, vR 77]) B161_95_98 rfl ?_
                refine r_vI (c := 77) (args := [vI w119]) (rest := []) (pc' := 101) D161_98 rfl ck_11_virtual_131 TE149 rfl (Nat.le_of_ble_eq_true rfl) ⟨Nat.le_of_ble_eq_true rfl, Nat.le_of_ble_eq_true rfl⟩ sc_77 ⟨rfl, by decide⟩ H124.1 (dp_0 hd rfl) (k149 E (dp_n hd rfl) H124 w119 (by omega)) ?_
                intro v129 M130 q134
                obtain ⟨H131, f132, q133⟩ := q134
                have f135 := f126.tr (f132.up rfl)
                have hp136 := hp127.fr f132 (by decide)
                have hp137 := hp128.fr f132 (by decide)
                exact r_iretI D161_101 rfl (⟨H131, f135, hp136, hp137⟩)
            · exfalso; omega
          · refine s_blx (lv' := [(0, vR 77), (1, vI w), (2, vI what), (3, vI value)]) (st' := [vI (-1), vR 77]) B161_48_50 rfl ?_
            refine r_vI (c := 77) (args := [vI (-1)]) (rest := []) (pc' := 53) D161_50 rfl ck_11_virtual_127 TE148 rfl (Nat.le_of_ble_eq_true rfl) ⟨Nat.le_of_ble_eq_true rfl, Nat.le_of_ble_eq_true rfl⟩ sc_77 ⟨rfl, by decide⟩ H.1 (dp_0 hd rfl) (k148 E (dp_n hd rfl) H (-1) (by omega)) ?_
            intro v138 M139 q143
            obtain ⟨H140, f141, q142⟩ := q143
            have f144 := f0.tr (f141.up rfl)
            have hp145 := h0.fr f141 (by decide)
            have hp146 := h1.fr f141 (by decide)
            exact r_iretI D161_53 rfl (⟨H140, f144, hp145, hp146⟩)
      · refine s_blx (lv' := [(0, vR 77), (1, vI w), (2, vI what), (3, vI value)]) (st' := [vI 1, vI value]) B161_25_26 rfl ?_
        refine r_goto (tgt := 30) D161_26 rfl ?_
        refine s_blx (lv' := [(0, vR 77), (1, vI w), (2, vI what), (3, vI value)]) (st' := [vI 1, vI what, vI 1, vI value]) B161_30_32 rfl ?_
        refine r_icmp (tgt := 40) (pc' := 35) D161_32 rfl rfl (by unfold inR; omega) (fun (c147 : what ≠ 1) => ?_) (fun (c147 : ¬ (what ≠ 1)) => ?_)
        · exfalso; omega
        · refine s_blx (lv' := [(0, vR 77), (1, vI w), (2, vI what), (3, vI value)]) (st' := [vI 60, vI 1, vI value]) B161_35_37 rfl ?_
          refine r_goto (tgt := 42) D161_37 rfl ?_
          refine r_sIp (args := [vI value, vI 1, vI 60]) (rest := []) (pc' := 45) D161_42 rfl ck_11_static_123 TE147 rfl (Nat.le_of_ble_eq_true rfl) ⟨Nat.le_of_ble_eq_true rfl, Nat.le_of_ble_eq_true rfl⟩ (by decide) (dp_0 hd rfl) (k147 E (dp_n hd rfl) H value 1 60 (by omega) (by omega) (by omega)) ?_
          intro v148 q153
          obtain ⟨q150, q151, q152⟩ := q153
          refine r_ifc (tgt := 54) (pc' := 48) D161_45 rfl rfl (by unfold inR; omega) (fun (c154 : v148 ≠ 0) => ?_) (fun (c154 : ¬ (v148 ≠ 0)) => ?_)
          · refine s_blx (lv' := [(0, vR 77), (1, vI w), (2, vI what), (3, vI value)]) (st' := [vI what]) B161_54_55 rfl ?_
            refine r_ifc (tgt := 62) (pc' := 58) D161_55 rfl rfl (by unfold inR; omega) (fun (c155 : what ≠ 0) => ?_) (fun (c155 : ¬ (what ≠ 0)) => ?_)
            · refine s_blx (lv' := [(0, vR 77), (1, vI w), (2, vI what), (3, vI value)]) (st' := [vI 1, vI what]) B161_62_64 rfl ?_
              refine r_icmp (tgt := 72) (pc' := 67) D161_64 rfl rfl (by unfold inR; omega) (fun (c156 : what ≠ 1) => ?_) (fun (c156 : ¬ (what ≠ 1)) => ?_)
              · exfalso; omega
              · refine s_blx (lv' := [(0, vR 77), (1, vI w), (2, vI what), (3, vI value)]) (st' := [vI 30]) B161_67_69 rfl ?_
                refine r_goto (tgt := 74) D161_69 rfl ?_
                refine s_blx (lv' := [(4, vI (30 + w)), (0, vR 77), (1, vI w), (2, vI what), (3, vI value)]) (st' := [vR 77]) B161_74_79 rfl ?_
                refine r_gfix (r := 78) (pc' := 82) D161_79 rfl gf_11_13_77 H.1 ?_
                refine s_blx (lv' := [(4, vI (30 + w)), (0, vR 77), (1, vI w), (2, vI what), (3, vI value)]) (st' := [vI (30 + w), vR 78]) B161_82_84 rfl ?_
                refine r_iald (pc' := 85) D161_84 rfl sc_78 H.1 (by omega) ?_
                intro w157 e158 r159
                have b_w157 := H.2 78 (30 + w) 0 60 (rk_look (by omega))
                rw [← e158] at b_w157; clear r159
                refine s_blx (lv' := [(5, vI w157), (4, vI (30 + w)), (0, vR 77), (1, vI w), (2, vI what), (3, vI value)]) (st' := [vR 77]) B161_85_88 rfl ?_
                refine r_gfix (r := 78) (pc' := 91) D161_88 rfl gf_11_13_77 H.1 ?_
                refine s_blx (lv' := [(5, vI w157), (4, vI (30 + w)), (0, vR 77), (1, vI w), (2, vI what), (3, vI value)]) (st' := [vI value, vI (30 + w), vR 78]) B161_91_94 rfl ?_
                refine r_iast (pc' := 95) D161_94 rfl sc_78 H (by omega) (by unfold inR; omega) (by show s_in (rgK _) _; rw [rk_look (by omega)]; show 0 ≤ value ∧ value ≤ 60; omega) ?_
                intro M160 u161 H162 p163
                have f164 := f0.wr u161 rfl
                have hp165 := h0.w u161 (by omega) H
                have hp166 := h1.w u161 (by omega) H
                refine s_blx (lv' := [(5, vI w157), (4, vI (30 + w)), (0, vR 77), (1, vI w), (2, vI what), (3, vI value)]) (st' := [vI w157, vR 77]) B161_95_98 rfl ?_
                refine r_vI (c := 77) (args := [vI w157]) (rest := []) (pc' := 101) D161_98 rfl ck_11_virtual_131 TE149 rfl (Nat.le_of_ble_eq_true rfl) ⟨Nat.le_of_ble_eq_true rfl, Nat.le_of_ble_eq_true rfl⟩ sc_77 ⟨rfl, by decide⟩ H162.1 (dp_0 hd rfl) (k149 E (dp_n hd rfl) H162 w157 (by omega)) ?_
                intro v167 M168 q172
                obtain ⟨H169, f170, q171⟩ := q172
                have f173 := f164.tr (f170.up rfl)
                have hp174 := hp165.fr f170 (by decide)
                have hp175 := hp166.fr f170 (by decide)
                exact r_iretI D161_101 rfl (⟨H169, f173, hp174, hp175⟩)
            · exfalso; omega
          · refine s_blx (lv' := [(0, vR 77), (1, vI w), (2, vI what), (3, vI value)]) (st' := [vI (-1), vR 77]) B161_48_50 rfl ?_
            refine r_vI (c := 77) (args := [vI (-1)]) (rest := []) (pc' := 53) D161_50 rfl ck_11_virtual_127 TE148 rfl (Nat.le_of_ble_eq_true rfl) ⟨Nat.le_of_ble_eq_true rfl, Nat.le_of_ble_eq_true rfl⟩ sc_77 ⟨rfl, by decide⟩ H.1 (dp_0 hd rfl) (k148 E (dp_n hd rfl) H (-1) (by omega)) ?_
            intro v176 M177 q181
            obtain ⟨H178, f179, q180⟩ := q181
            have f182 := f0.tr (f179.up rfl)
            have hp183 := h0.fr f179 (by decide)
            have hp184 := h1.fr f179 (by decide)
            exact r_iretI D161_53 rfl (⟨H178, f182, hp183, hp184⟩)
set_option maxRecDepth 4000 in
theorem k162k {base : Nat} {X : Nat → Option mC} {G : Nat → Value} (E : EnvOK base X G) {d : Nat} (hd : 1 ≤ d) {M : mH} (H : HI base M) (what : Int) (value : Int) (h0 : LN M) (h1 : GK M) (h2 : -2147483648 ≤ what ∧ what ≤ 2147483647) (h3 : -2147483648 ≤ value ∧ value ≤ 2147483647) : sOk base X G d T162 [vR 77, vI what, vI value] M (pI (fun v M' => HI base M' ∧ Fr [(77, 1), (78, 0)] M M' ∧ (LN M') ∧ (GK M'))) := by
  have f0 : Fr [(77, 1), (78, 0)] M M := Fr.rf
  refine sOk.of (show sRn base X G d T162 0 [(0, vR 77), (1, vI what), (2, vI value)] [] M _ from ?_)
  refine s_blx (lv' := [(0, vR 77), (1, vI what), (2, vI value)]) (st' := [vI 8, vI 0, vI what]) B162_0_4 rfl ?_
  refine r_sIp (args := [vI what, vI 0, vI 8]) (rest := []) (pc' := 7) D162_4 rfl ck_11_static_123 TE147 rfl (Nat.le_of_ble_eq_true rfl) ⟨Nat.le_of_ble_eq_true rfl, Nat.le_of_ble_eq_true rfl⟩ (by decide) (dp_0 hd rfl) (k147 E (dp_n hd rfl) H what 0 8 (by omega) (by omega) (by omega)) ?_
  intro v1 q6
  obtain ⟨q3, q4, q5⟩ := q6
  refine r_ifc (tgt := 16) (pc' := 10) D162_7 rfl rfl (by unfold inR; omega) (fun (c7 : v1 ≠ 0) => ?_) (fun (c7 : ¬ (v1 ≠ 0)) => ?_)
  · refine s_blx (lv' := [(0, vR 77), (1, vI what), (2, vI value)]) (st' := [vI 2, vI what]) B162_16_18 rfl ?_
    refine r_icmp (tgt := 26) (pc' := 21) D162_18 rfl rfl (by unfold inR; omega) (fun (c8 : 2 ≤ what) => ?_) (fun (c8 : ¬ (2 ≤ what)) => ?_)
    · refine s_blx (lv' := [(0, vR 77), (1, vI what), (2, vI value)]) (st' := [vI 4, vI what]) B162_26_28 rfl ?_
      refine r_icmp (tgt := 37) (pc' := 31) D162_28 rfl rfl (by unfold inR; omega) (fun (c9 : what < 4) => ?_) (fun (c9 : ¬ (what < 4)) => ?_)
      · refine s_blx (lv' := [(0, vR 77), (1, vI what), (2, vI value)]) (st' := [vI 100]) B162_37_39 rfl ?_
        refine r_goto (tgt := 45) D162_39 rfl ?_
        refine s_blx (lv' := [(3, vI 100), (0, vR 77), (1, vI what), (2, vI value)]) (st' := [vI 100, vI 0, vI value]) B162_45_49 rfl ?_
        refine r_sIp (args := [vI value, vI 0, vI 100]) (rest := []) (pc' := 52) D162_49 rfl ck_11_static_123 TE147 rfl (Nat.le_of_ble_eq_true rfl) ⟨Nat.le_of_ble_eq_true rfl, Nat.le_of_ble_eq_true rfl⟩ (by decide) (dp_0 hd rfl) (k147 E (dp_n hd rfl) H value 0 100 (by omega) (by omega) (by omega)) ?_
        intro v10 q15
        obtain ⟨q12, q13, q14⟩ := q15
        refine r_ifc (tgt := 61) (pc' := 55) D162_52 rfl rfl (by unfold inR; omega) (fun (c16 : v10 ≠ 0) => ?_) (fun (c16 : ¬ (v10 ≠ 0)) => ?_)
        · refine s_blx (lv' := [(3, vI 100), (0, vR 77), (1, vI what), (2, vI value)]) (st' := [vI what, vR 77]) B162_61_63 rfl ?_
          refine r_vIp (c := 77) (args := [vI what]) (rest := []) (pc' := 66) D162_63 rfl ck_11_virtual_141 TE153 rfl (Nat.le_of_ble_eq_true rfl) ⟨Nat.le_of_ble_eq_true rfl, Nat.le_of_ble_eq_true rfl⟩ sc_77 ⟨rfl, by decide⟩ H.1 (dp_0 hd rfl) (k153 E (dp_n hd rfl) H what (by omega)) ?_
          intro v17 q20
          have q19 := q20; clear q20
          refine s_blx (lv' := [(4, vI v17), (3, vI 100), (0, vR 77), (1, vI what), (2, vI value)]) (st' := [vR 77]) B162_66_69 rfl ?_
          refine r_gfix (r := 78) (pc' := 72) D162_69 rfl gf_11_13_77 H.1 ?_
          refine s_blx (lv' := [(4, vI v17), (3, vI 100), (0, vR 77), (1, vI what), (2, vI value)]) (st' := [vI value, vI (90 + what), vR 78]) B162_72_77 rfl ?_
          refine r_iast (pc' := 78) D162_77 rfl sc_78 H (by omega) (by unfold inR; omega) (by show s_in (rgK _) _; rw [rk_term (by omega)]; show 0 ≤ value ∧ value ≤ 1000; omega) ?_
          intro M21 u22 H23 p24
          have f25 := f0.wr u22 rfl
          have hp26 := h0.w u22 (by omega) H
          have hp27 := h1.w u22 (by omega) H
          refine s_blx (lv' := [(4, vI v17), (3, vI 100), (0, vR 77), (1, vI what), (2, vI value)]) (st' := [vI v17, vR 77]) B162_78_81 rfl ?_
          refine r_vI (c := 77) (args := [vI v17]) (rest := []) (pc' := 84) D162_81 rfl ck_11_virtual_131 TE149 rfl (Nat.le_of_ble_eq_true rfl) ⟨Nat.le_of_ble_eq_true rfl, Nat.le_of_ble_eq_true rfl⟩ sc_77 ⟨rfl, by decide⟩ H23.1 (dp_0 hd rfl) (k149 E (dp_n hd rfl) H23 v17 (by omega)) ?_
          intro v28 M29 q33
          obtain ⟨H30, f31, q32⟩ := q33
          have f34 := f25.tr (f31.up rfl)
          have hp35 := hp26.fr f31 (by decide)
          have hp36 := hp27.fr f31 (by decide)
          exact r_iretI D162_84 rfl (⟨H30, f34, hp35, hp36⟩)
        · refine s_blx (lv' := [(3, vI 100), (0, vR 77), (1, vI what), (2, vI value)]) (st' := [vI (-1), vR 77]) B162_55_57 rfl ?_
          refine r_vI (c := 77) (args := [vI (-1)]) (rest := []) (pc' := 60) D162_57 rfl ck_11_virtual_127 TE148 rfl (Nat.le_of_ble_eq_true rfl) ⟨Nat.le_of_ble_eq_true rfl, Nat.le_of_ble_eq_true rfl⟩ sc_77 ⟨rfl, by decide⟩ H.1 (dp_0 hd rfl) (k148 E (dp_n hd rfl) H (-1) (by omega)) ?_
          intro v37 M38 q42
          obtain ⟨H39, f40, q41⟩ := q42
          have f43 := f0.tr (f40.up rfl)
          have hp44 := h0.fr f40 (by decide)
          have hp45 := h1.fr f40 (by decide)
          exact r_iretI D162_60 rfl (⟨H39, f43, hp44, hp45⟩)
      · refine s_blx (lv' := [(0, vR 77), (1, vI what), (2, vI value)]) (st' := [vI 7, vI what]) B162_31_34 rfl ?_
        refine r_icmp (tgt := 42) (pc' := 37) D162_34 rfl rfl (by unfold inR; omega) (fun (c46 : what ≠ 7) => ?_) (fun (c46 : ¬ (what ≠ 7)) => ?_)
        · refine s_blx (lv' := [(3, vI 1000), (0, vR 77), (1, vI what), (2, vI value)]) (st' := [vI 1000, vI 0, vI value]) B162_42_49 rfl ?_
          refine r_sIp (args := [vI value, vI 0, vI 1000]) (rest := []) (pc' := 52) D162_49 rfl ck_11_static_123 TE147 rfl (Nat.le_of_ble_eq_true rfl) ⟨Nat.le_of_ble_eq_true rfl, Nat.le_of_ble_eq_true rfl⟩ (by decide) (dp_0 hd rfl) (k147 E (dp_n hd rfl) H value 0 1000 (by omega) (by omega) (by omega)) ?_
          intro v47 q52
          obtain ⟨q49, q50, q51⟩ := q52
          refine r_ifc (tgt := 61) (pc' := 55) D162_52 rfl rfl (by unfold inR; omega) (fun (c53 : v47 ≠ 0) => ?_) (fun (c53 : ¬ (v47 ≠ 0)) => ?_)
          · refine s_blx (lv' := [(3, vI 1000), (0, vR 77), (1, vI what), (2, vI value)]) (st' := [vI what, vR 77]) B162_61_63 rfl ?_
            refine r_vIp (c := 77) (args := [vI what]) (rest := []) (pc' := 66) D162_63 rfl ck_11_virtual_141 TE153 rfl (Nat.le_of_ble_eq_true rfl) ⟨Nat.le_of_ble_eq_true rfl, Nat.le_of_ble_eq_true rfl⟩ sc_77 ⟨rfl, by decide⟩ H.1 (dp_0 hd rfl) (k153 E (dp_n hd rfl) H what (by omega)) ?_
            intro v54 q57
            have q56 := q57; clear q57
            refine s_blx (lv' := [(4, vI v54), (3, vI 1000), (0, vR 77), (1, vI what), (2, vI value)]) (st' := [vR 77]) B162_66_69 rfl ?_
            refine r_gfix (r := 78) (pc' := 72) D162_69 rfl gf_11_13_77 H.1 ?_
            refine s_blx (lv' := [(4, vI v54), (3, vI 1000), (0, vR 77), (1, vI what), (2, vI value)]) (st' := [vI value, vI (90 + what), vR 78]) B162_72_77 rfl ?_
            refine r_iast (pc' := 78) D162_77 rfl sc_78 H (by omega) (by unfold inR; omega) (by show s_in (rgK _) _; rw [rk_term (by omega)]; show 0 ≤ value ∧ value ≤ 1000; omega) ?_
            intro M58 u59 H60 p61
            have f62 := f0.wr u59 rfl
            have hp63 := h0.w u59 (by omega) H
            have hp64 := h1.w u59 (by omega) H
            refine s_blx (lv' := [(4, vI v54), (3, vI 1000), (0, vR 77), (1, vI what), (2, vI value)]) (st' := [vI v54, vR 77]) B162_78_81 rfl ?_
            refine r_vI (c := 77) (args := [vI v54]) (rest := []) (pc' := 84) D162_81 rfl ck_11_virtual_131 TE149 rfl (Nat.le_of_ble_eq_true rfl) ⟨Nat.le_of_ble_eq_true rfl, Nat.le_of_ble_eq_true rfl⟩ sc_77 ⟨rfl, by decide⟩ H60.1 (dp_0 hd rfl) (k149 E (dp_n hd rfl) H60 v54 (by omega)) ?_
            intro v65 M66 q70
            obtain ⟨H67, f68, q69⟩ := q70
            have f71 := f62.tr (f68.up rfl)
            have hp72 := hp63.fr f68 (by decide)
            have hp73 := hp64.fr f68 (by decide)
            exact r_iretI D162_84 rfl (⟨H67, f71, hp72, hp73⟩)
          · refine s_blx (lv' := [(3, vI 1000), (0, vR 77), (1, vI what), (2, vI value)]) (st' := [vI (-1), vR 77]) B162_55_57 rfl ?_
            refine r_vI (c := 77) (args := [vI (-1)]) (rest := []) (pc' := 60) D162_57 rfl ck_11_virtual_127 TE148 rfl (Nat.le_of_ble_eq_true rfl) ⟨Nat.le_of_ble_eq_true rfl, Nat.le_of_ble_eq_true rfl⟩ sc_77 ⟨rfl, by decide⟩ H.1 (dp_0 hd rfl) (k148 E (dp_n hd rfl) H (-1) (by omega)) ?_
            intro v74 M75 q79
            obtain ⟨H76, f77, q78⟩ := q79
            have f80 := f0.tr (f77.up rfl)
            have hp81 := h0.fr f77 (by decide)
            have hp82 := h1.fr f77 (by decide)
            exact r_iretI D162_60 rfl (⟨H76, f80, hp81, hp82⟩)
        · refine s_blx (lv' := [(0, vR 77), (1, vI what), (2, vI value)]) (st' := [vI 100]) B162_37_39 rfl ?_
          refine r_goto (tgt := 45) D162_39 rfl ?_
          refine s_blx (lv' := [(3, vI 100), (0, vR 77), (1, vI what), (2, vI value)]) (st' := [vI 100, vI 0, vI value]) B162_45_49 rfl ?_
          refine r_sIp (args := [vI value, vI 0, vI 100]) (rest := []) (pc' := 52) D162_49 rfl ck_11_static_123 TE147 rfl (Nat.le_of_ble_eq_true rfl) ⟨Nat.le_of_ble_eq_true rfl, Nat.le_of_ble_eq_true rfl⟩ (by decide) (dp_0 hd rfl) (k147 E (dp_n hd rfl) H value 0 100 (by omega) (by omega) (by omega)) ?_
          intro v83 q88
          obtain ⟨q85, q86, q87⟩ := q88
          refine r_ifc (tgt := 61) (pc' := 55) D162_52 rfl rfl (by unfold inR; omega) (fun (c89 : v83 ≠ 0) => ?_) (fun (c89 : ¬ (v83 ≠ 0)) => ?_)
          · refine s_blx (lv' := [(3, vI 100), (0, vR 77), (1, vI what), (2, vI value)]) (st' := [vI what, vR 77]) B162_61_63 rfl ?_
            refine r_vIp (c := 77) (args := [vI what]) (rest := []) (pc' := 66) D162_63 rfl ck_11_virtual_141 TE153 rfl (Nat.le_of_ble_eq_true rfl) ⟨Nat.le_of_ble_eq_true rfl, Nat.le_of_ble_eq_true rfl⟩ sc_77 ⟨rfl, by decide⟩ H.1 (dp_0 hd rfl) (k153 E (dp_n hd rfl) H what (by omega)) ?_
            intro v90 q93
            have q92 := q93; clear q93
            refine s_blx (lv' := [(4, vI v90), (3, vI 100), (0, vR 77), (1, vI what), (2, vI value)]) (st' := [vR 77]) B162_66_69 rfl ?_
            refine r_gfix (r := 78) (pc' := 72) D162_69 rfl gf_11_13_77 H.1 ?_
            refine s_blx (lv' := [(4, vI v90), (3, vI 100), (0, vR 77), (1, vI what), (2, vI value)]) (st' := [vI value, vI (90 + what), vR 78]) B162_72_77 rfl ?_
            refine r_iast (pc' := 78) D162_77 rfl sc_78 H (by omega) (by unfold inR; omega) (by show s_in (rgK _) _; rw [rk_term (by omega)]; show 0 ≤ value ∧ value ≤ 1000; omega) ?_
            intro M94 u95 H96 p97
            have f98 := f0.wr u95 rfl
            have hp99 := h0.w u95 (by omega) H
            have hp100 := h1.w u95 (by omega) H
            refine s_blx (lv' := [(4, vI v90), (3, vI 100), (0, vR 77), (1, vI what), (2, vI value)]) (st' := [vI v90, vR 77]) B162_78_81 rfl ?_
            refine r_vI (c := 77) (args := [vI v90]) (rest := []) (pc' := 84) D162_81 rfl ck_11_virtual_131 TE149 rfl (Nat.le_of_ble_eq_true rfl) ⟨Nat.le_of_ble_eq_true rfl, Nat.le_of_ble_eq_true rfl⟩ sc_77 ⟨rfl, by decide⟩ H96.1 (dp_0 hd rfl) (k149 E (dp_n hd rfl) H96 v90 (by omega)) ?_
            intro v101 M102 q106
            obtain ⟨H103, f104, q105⟩ := q106
            have f107 := f98.tr (f104.up rfl)
            have hp108 := hp99.fr f104 (by decide)
            have hp109 := hp100.fr f104 (by decide)
            exact r_iretI D162_84 rfl (⟨H103, f107, hp108, hp109⟩)
          · refine s_blx (lv' := [(3, vI 100), (0, vR 77), (1, vI what), (2, vI value)]) (st' := [vI (-1), vR 77]) B162_55_57 rfl ?_
            refine r_vI (c := 77) (args := [vI (-1)]) (rest := []) (pc' := 60) D162_57 rfl ck_11_virtual_127 TE148 rfl (Nat.le_of_ble_eq_true rfl) ⟨Nat.le_of_ble_eq_true rfl, Nat.le_of_ble_eq_true rfl⟩ sc_77 ⟨rfl, by decide⟩ H.1 (dp_0 hd rfl) (k148 E (dp_n hd rfl) H (-1) (by omega)) ?_
            intro v110 M111 q115
            obtain ⟨H112, f113, q114⟩ := q115
            have f116 := f0.tr (f113.up rfl)
            have hp117 := h0.fr f113 (by decide)
            have hp118 := h1.fr f113 (by decide)
            exact r_iretI D162_60 rfl (⟨H112, f116, hp117, hp118⟩)
    · refine s_blx (lv' := [(0, vR 77), (1, vI what), (2, vI value)]) (st' := [vI 60]) B162_21_23 rfl ?_
      refine r_goto (tgt := 45) D162_23 rfl ?_
      refine s_blx (lv' := [(3, vI 60), (0, vR 77), (1, vI what), (2, vI value)]) (st' := [vI 60, vI 0, vI value]) B162_45_49 rfl ?_
      refine r_sIp (args := [vI value, vI 0, vI 60]) (rest := []) (pc' := 52) D162_49 rfl ck_11_static_123 TE147 rfl (Nat.le_of_ble_eq_true rfl) ⟨Nat.le_of_ble_eq_true rfl, Nat.le_of_ble_eq_true rfl⟩ (by decide) (dp_0 hd rfl) (k147 E (dp_n hd rfl) H value 0 60 (by omega) (by omega) (by omega)) ?_
      intro v119 q124
      obtain ⟨q121, q122, q123⟩ := q124
      refine r_ifc (tgt := 61) (pc' := 55) D162_52 rfl rfl (by unfold inR; omega) (fun (c125 : v119 ≠ 0) => ?_) (fun (c125 : ¬ (v119 ≠ 0)) => ?_)
      · refine s_blx (lv' := [(3, vI 60), (0, vR 77), (1, vI what), (2, vI value)]) (st' := [vI what, vR 77]) B162_61_63 rfl ?_
        refine r_vIp (c := 77) (args := [vI what]) (rest := []) (pc' := 66) D162_63 rfl ck_11_virtual_141 TE153 rfl (Nat.le_of_ble_eq_true rfl) ⟨Nat.le_of_ble_eq_true rfl, Nat.le_of_ble_eq_true rfl⟩ sc_77 ⟨rfl, by decide⟩ H.1 (dp_0 hd rfl) (k153 E (dp_n hd rfl) H what (by omega)) ?_
        intro v126 q129
        have q128 := q129; clear q129
        refine s_blx (lv' := [(4, vI v126), (3, vI 60), (0, vR 77), (1, vI what), (2, vI value)]) (st' := [vR 77]) B162_66_69 rfl ?_
        refine r_gfix (r := 78) (pc' := 72) D162_69 rfl gf_11_13_77 H.1 ?_
        refine s_blx (lv' := [(4, vI v126), (3, vI 60), (0, vR 77), (1, vI what), (2, vI value)]) (st' := [vI value, vI (90 + what), vR 78]) B162_72_77 rfl ?_
        refine r_iast (pc' := 78) D162_77 rfl sc_78 H (by omega) (by unfold inR; omega) (by show s_in (rgK _) _; rw [rk_term (by omega)]; show 0 ≤ value ∧ value ≤ 1000; omega) ?_
        intro M130 u131 H132 p133
        have f134 := f0.wr u131 rfl
        have hp135 := h0.w u131 (by omega) H
        have hp136 := h1.w u131 (by omega) H
        refine s_blx (lv' := [(4, vI v126), (3, vI 60), (0, vR 77), (1, vI what), (2, vI value)]) (st' := [vI v126, vR 77]) B162_78_81 rfl ?_
        refine r_vI (c := 77) (args := [vI v126]) (rest := []) (pc' := 84) D162_81 rfl ck_11_virtual_131 TE149 rfl (Nat.le_of_ble_eq_true rfl) ⟨Nat.le_of_ble_eq_true rfl, Nat.le_of_ble_eq_true rfl⟩ sc_77 ⟨rfl, by decide⟩ H132.1 (dp_0 hd rfl) (k149 E (dp_n hd rfl) H132 v126 (by omega)) ?_
        intro v137 M138 q142
        obtain ⟨H139, f140, q141⟩ := q142
        have f143 := f134.tr (f140.up rfl)
        have hp144 := hp135.fr f140 (by decide)
        have hp145 := hp136.fr f140 (by decide)
        exact r_iretI D162_84 rfl (⟨H139, f143, hp144, hp145⟩)
      · refine s_blx (lv' := [(3, vI 60), (0, vR 77), (1, vI what), (2, vI value)]) (st' := [vI (-1), vR 77]) B162_55_57 rfl ?_
        refine r_vI (c := 77) (args := [vI (-1)]) (rest := []) (pc' := 60) D162_57 rfl ck_11_virtual_127 TE148 rfl (Nat.le_of_ble_eq_true rfl) ⟨Nat.le_of_ble_eq_true rfl, Nat.le_of_ble_eq_true rfl⟩ sc_77 ⟨rfl, by decide⟩ H.1 (dp_0 hd rfl) (k148 E (dp_n hd rfl) H (-1) (by omega)) ?_
        intro v146 M147 q151
        obtain ⟨H148, f149, q150⟩ := q151
        have f152 := f0.tr (f149.up rfl)
        have hp153 := h0.fr f149 (by decide)
        have hp154 := h1.fr f149 (by decide)
        exact r_iretI D162_60 rfl (⟨H148, f152, hp153, hp154⟩)
  · refine s_blx (lv' := [(0, vR 77), (1, vI what), (2, vI value)]) (st' := [vI (-1), vR 77]) B162_10_12 rfl ?_
    refine r_vI (c := 77) (args := [vI (-1)]) (rest := []) (pc' := 15) D162_12 rfl ck_11_virtual_127 TE148 rfl (Nat.le_of_ble_eq_true rfl) ⟨Nat.le_of_ble_eq_true rfl, Nat.le_of_ble_eq_true rfl⟩ sc_77 ⟨rfl, by decide⟩ H.1 (dp_0 hd rfl) (k148 E (dp_n hd rfl) H (-1) (by omega)) ?_
    intro v155 M156 q160
    obtain ⟨H157, f158, q159⟩ := q160
    have f161 := f0.tr (f158.up rfl)
    have hp162 := h0.fr f158 (by decide)
    have hp163 := h1.fr f158 (by decide)
    exact r_iretI D162_15 rfl (⟨H157, f161, hp162, hp163⟩)
set_option maxRecDepth 4000 in
theorem k163k {base : Nat} {X : Nat → Option mC} {G : Nat → Value} (E : EnvOK base X G) {d : Nat} (hd : 1 ≤ d) {M : mH} (H : HI base M) (order : Int) (h0 : LN M) (h1 : GK M) (h2 : -2147483648 ≤ order ∧ order ≤ 2147483647) : sOk base X G d T163 [vR 77, vI order] M (pI (fun v M' => HI base M' ∧ Fr [(77, 1), (78, 0)] M M' ∧ (LN M') ∧ (GK M'))) := by
  have f0 : Fr [(77, 1), (78, 0)] M M := Fr.rf
  refine sOk.of (show sRn base X G d T163 0 [(0, vR 77), (1, vI order)] [] M _ from ?_)
  refine s_blx (lv' := [(0, vR 77), (1, vI order)]) (st' := [vI 5, vI 0, vI order]) B163_0_3 rfl ?_
  refine r_sIp (args := [vI order, vI 0, vI 5]) (rest := []) (pc' := 6) D163_3 rfl ck_11_static_123 TE147 rfl (Nat.le_of_ble_eq_true rfl) ⟨Nat.le_of_ble_eq_true rfl, Nat.le_of_ble_eq_true rfl⟩ (by decide) (dp_0 hd rfl) (k147 E (dp_n hd rfl) H order 0 5 (by omega) (by omega) (by omega)) ?_
  intro v1 q6
  obtain ⟨q3, q4, q5⟩ := q6
  refine r_ifc (tgt := 15) (pc' := 9) D163_6 rfl rfl (by unfold inR; omega) (fun (c7 : v1 ≠ 0) => ?_) (fun (c7 : ¬ (v1 ≠ 0)) => ?_)
  · refine s_blx (lv' := [(0, vR 77), (1, vI order)]) (st' := [vR 77]) B163_15_16 rfl ?_
    refine r_gfix (r := 78) (pc' := 19) D163_16 rfl gf_11_13_77 H.1 ?_
    refine s_blx (lv' := [(0, vR 77), (1, vI order)]) (st' := [vI 473, vR 78]) B163_19_22 rfl ?_
    refine r_iald (pc' := 23) D163_22 rfl sc_78 H.1 (by omega) ?_
    intro w8 e9 r10
    have b_w8 := H.2 78 (473) 0 5 (rk_order (by omega))
    rw [← e9] at b_w8; clear r10
    refine s_blx (lv' := [(2, vI w8), (0, vR 77), (1, vI order)]) (st' := [vR 77]) B163_23_25 rfl ?_
    refine r_gfix (r := 78) (pc' := 28) D163_25 rfl gf_11_13_77 H.1 ?_
    refine s_blx (lv' := [(2, vI w8), (0, vR 77), (1, vI order)]) (st' := [vI order, vI 473, vR 78]) B163_28_32 rfl ?_
    refine r_iast (pc' := 33) D163_32 rfl sc_78 H (by omega) (by unfold inR; omega) (by show s_in (rgK _) _; rw [rk_order (by omega)]; show 0 ≤ order ∧ order ≤ 5; omega) ?_
    intro M11 u12 H13 p14
    have f15 := f0.wr u12 rfl
    have hp16 := h0.w u12 (by omega) H
    have hp17 := h1.w u12 (by omega) H
    refine s_blx (lv' := [(2, vI w8), (0, vR 77), (1, vI order)]) (st' := [vI w8, vR 77]) B163_33_35 rfl ?_
    refine r_vI (c := 77) (args := [vI w8]) (rest := []) (pc' := 38) D163_35 rfl ck_11_virtual_131 TE149 rfl (Nat.le_of_ble_eq_true rfl) ⟨Nat.le_of_ble_eq_true rfl, Nat.le_of_ble_eq_true rfl⟩ sc_77 ⟨rfl, by decide⟩ H13.1 (dp_0 hd rfl) (k149 E (dp_n hd rfl) H13 w8 (by omega)) ?_
    intro v18 M19 q23
    obtain ⟨H20, f21, q22⟩ := q23
    have f24 := f15.tr (f21.up rfl)
    have hp25 := hp16.fr f21 (by decide)
    have hp26 := hp17.fr f21 (by decide)
    exact r_iretI D163_38 rfl (⟨H20, f24, hp25, hp26⟩)
  · refine s_blx (lv' := [(0, vR 77), (1, vI order)]) (st' := [vI (-1), vR 77]) B163_9_11 rfl ?_
    refine r_vI (c := 77) (args := [vI (-1)]) (rest := []) (pc' := 14) D163_11 rfl ck_11_virtual_127 TE148 rfl (Nat.le_of_ble_eq_true rfl) ⟨Nat.le_of_ble_eq_true rfl, Nat.le_of_ble_eq_true rfl⟩ sc_77 ⟨rfl, by decide⟩ H.1 (dp_0 hd rfl) (k148 E (dp_n hd rfl) H (-1) (by omega)) ?_
    intro v27 M28 q32
    obtain ⟨H29, f30, q31⟩ := q32
    have f33 := f0.tr (f30.up rfl)
    have hp34 := h0.fr f30 (by decide)
    have hp35 := h1.fr f30 (by decide)
    exact r_iretI D163_14 rfl (⟨H29, f33, hp34, hp35⟩)
set_option maxRecDepth 4000 in
theorem k164k {base : Nat} {X : Nat → Option mC} {G : Nat → Value} (E : EnvOK base X G) {d : Nat} (hd : 1 ≤ d) {M : mH} (H : HI base M) (slot : Int) (values : Int) (length : Int) (h0 : LN M) (h1 : GK M) (h2 : -2147483648 ≤ slot ∧ slot ≤ 2147483647) (h3 : -2147483648 ≤ values ∧ values ≤ 2147483647) (h4 : -2147483648 ≤ length ∧ length ≤ 2147483647) : sOk base X G d T164 [vR 77, vI slot, vI values, vI length] M (pI (fun v M' => HI base M' ∧ Fr [(77, 1), (78, 0)] M M' ∧ (LN M') ∧ (GK M'))) := by
  have f0 : Fr [(77, 1), (78, 0)] M M := Fr.rf
  refine sOk.of (show sRn base X G d T164 0 [(0, vR 77), (1, vI slot), (2, vI values), (3, vI length)] [] M _ from ?_)
  refine s_blx (lv' := [(0, vR 77), (1, vI slot), (2, vI values), (3, vI length)]) (st' := [vI 2, vI 0, vI slot]) B164_0_3 rfl ?_
  refine r_sIp (args := [vI slot, vI 0, vI 2]) (rest := []) (pc' := 6) D164_3 rfl ck_11_static_123 TE147 rfl (Nat.le_of_ble_eq_true rfl) ⟨Nat.le_of_ble_eq_true rfl, Nat.le_of_ble_eq_true rfl⟩ (by decide) (dp_0 hd rfl) (k147 E (dp_n hd rfl) H slot 0 2 (by omega) (by omega) (by omega)) ?_
  intro v1 q6
  obtain ⟨q3, q4, q5⟩ := q6
  refine r_ifc (tgt := 30) (pc' := 9) D164_6 rfl rfl (by unfold inR; omega) (fun (c7 : v1 = 0) => ?_) (fun (c7 : ¬ (v1 = 0)) => ?_)
  · refine s_blx (lv' := [(0, vR 77), (1, vI slot), (2, vI values), (3, vI length)]) (st' := [vI (-1), vR 77]) B164_30_32 rfl ?_
    refine r_vI (c := 77) (args := [vI (-1)]) (rest := []) (pc' := 35) D164_32 rfl ck_11_virtual_127 TE148 rfl (Nat.le_of_ble_eq_true rfl) ⟨Nat.le_of_ble_eq_true rfl, Nat.le_of_ble_eq_true rfl⟩ sc_77 ⟨rfl, by decide⟩ H.1 (dp_0 hd rfl) (k148 E (dp_n hd rfl) H (-1) (by omega)) ?_
    intro v8 M9 q13
    obtain ⟨H10, f11, q12⟩ := q13
    have f14 := f0.tr (f11.up rfl)
    have hp15 := h0.fr f11 (by decide)
    have hp16 := h1.fr f11 (by decide)
    exact r_iretI D164_35 rfl (⟨H10, f14, hp15, hp16⟩)
  · refine s_blx (lv' := [(0, vR 77), (1, vI slot), (2, vI values), (3, vI length)]) (st' := [vI 255, vI 1, vI values]) B164_9_14 rfl ?_
    refine r_sIp (args := [vI values, vI 1, vI 255]) (rest := []) (pc' := 17) D164_14 rfl ck_11_static_123 TE147 rfl (Nat.le_of_ble_eq_true rfl) ⟨Nat.le_of_ble_eq_true rfl, Nat.le_of_ble_eq_true rfl⟩ (by decide) (dp_0 hd rfl) (k147 E (dp_n hd rfl) H values 1 255 (by omega) (by omega) (by omega)) ?_
    intro v17 q22
    obtain ⟨q19, q20, q21⟩ := q22
    refine r_ifc (tgt := 30) (pc' := 20) D164_17 rfl rfl (by unfold inR; omega) (fun (c23 : v17 = 0) => ?_) (fun (c23 : ¬ (v17 = 0)) => ?_)
    · refine s_blx (lv' := [(0, vR 77), (1, vI slot), (2, vI values), (3, vI length)]) (st' := [vI (-1), vR 77]) B164_30_32 rfl ?_
      refine r_vI (c := 77) (args := [vI (-1)]) (rest := []) (pc' := 35) D164_32 rfl ck_11_virtual_127 TE148 rfl (Nat.le_of_ble_eq_true rfl) ⟨Nat.le_of_ble_eq_true rfl, Nat.le_of_ble_eq_true rfl⟩ sc_77 ⟨rfl, by decide⟩ H.1 (dp_0 hd rfl) (k148 E (dp_n hd rfl) H (-1) (by omega)) ?_
      intro v24 M25 q29
      obtain ⟨H26, f27, q28⟩ := q29
      have f30 := f0.tr (f27.up rfl)
      have hp31 := h0.fr f27 (by decide)
      have hp32 := h1.fr f27 (by decide)
      exact r_iretI D164_35 rfl (⟨H26, f30, hp31, hp32⟩)
    · refine s_blx (lv' := [(0, vR 77), (1, vI slot), (2, vI values), (3, vI length)]) (st' := [vI 9, vI 1, vI length]) B164_20_24 rfl ?_
      refine r_sIp (args := [vI length, vI 1, vI 9]) (rest := []) (pc' := 27) D164_24 rfl ck_11_static_123 TE147 rfl (Nat.le_of_ble_eq_true rfl) ⟨Nat.le_of_ble_eq_true rfl, Nat.le_of_ble_eq_true rfl⟩ (by decide) (dp_0 hd rfl) (k147 E (dp_n hd rfl) H length 1 9 (by omega) (by omega) (by omega)) ?_
      intro v33 q38
      obtain ⟨q35, q36, q37⟩ := q38
      refine r_ifc (tgt := 36) (pc' := 30) D164_27 rfl rfl (by unfold inR; omega) (fun (c39 : v33 ≠ 0) => ?_) (fun (c39 : ¬ (v33 ≠ 0)) => ?_)
      · refine s_blx (lv' := [(0, vR 77), (1, vI slot), (2, vI values), (3, vI length)]) (st' := [vR 77]) B164_36_37 rfl ?_
        refine r_gfix (r := 78) (pc' := 40) D164_37 rfl gf_11_13_77 H.1 ?_
        refine s_blx (lv' := [(0, vR 77), (1, vI slot), (2, vI values), (3, vI length)]) (st' := [vI 470, vR 78]) B164_40_43 rfl ?_
        refine r_iald (pc' := 44) D164_43 rfl sc_78 H.1 (by omega) ?_
        intro w40 e41 r42
        have b_w40 := H.2 78 (470) 0 12 (rk_openmany (by omega))
        rw [← e41] at b_w40; clear r42
        refine s_blx (lv' := [(4, vI w40), (0, vR 77), (1, vI slot), (2, vI values), (3, vI length)]) (st' := [vI 12, vI w40]) B164_44_50 rfl ?_
        refine r_icmp (tgt := 60) (pc' := 53) D164_50 rfl rfl (by unfold inR; omega) (fun (c43 : w40 ≠ 12) => ?_) (fun (c43 : ¬ (w40 ≠ 12)) => ?_)
        · refine s_blx (lv' := [(4, vI w40), (0, vR 77), (1, vI slot), (2, vI values), (3, vI length)]) (st' := [vR 77]) B164_60_61 rfl ?_
          refine r_gfix (r := 78) (pc' := 64) D164_61 rfl gf_11_13_77 H.1 ?_
          refine s_blx (lv' := [(4, vI w40), (0, vR 77), (1, vI slot), (2, vI values), (3, vI length)]) (st' := [vI slot, vI (99 + (3 * w40)), vR 78]) B164_64_72 rfl ?_
          refine r_iast (pc' := 73) D164_72 rfl sc_78 H (by omega) (by unfold inR; omega) (by show s_in (rgK _) _; rw [rk_opening (by omega)]; show 0 ≤ slot ∧ slot ≤ 255; omega) ?_
          intro M44 u45 H46 p47
          have f48 := f0.wr u45 rfl
          have hp49 := h0.w u45 (by omega) H
          have hp50 := h1.w u45 (by omega) H
          refine s_blx (lv' := [(4, vI w40), (0, vR 77), (1, vI slot), (2, vI values), (3, vI length)]) (st' := [vR 77]) B164_73_74 rfl ?_
          refine r_gfix (r := 78) (pc' := 77) D164_74 rfl gf_11_13_77 H46.1 ?_
          refine s_blx (lv' := [(4, vI w40), (0, vR 77), (1, vI slot), (2, vI values), (3, vI length)]) (st' := [vI values, vI ((99 + (3 * w40)) + 1), vR 78]) B164_77_87 rfl ?_
          refine r_iast (pc' := 88) D164_87 rfl sc_78 H46 (by omega) (by unfold inR; omega) (by show s_in (rgK _) _; rw [rk_opening (by omega)]; show 0 ≤ values ∧ values ≤ 255; omega) ?_
          intro M51 u52 H53 p54
          have f55 := f48.wr u52 rfl
          have hp56 := hp49.w u52 (by omega) H46
          have hp57 := hp50.w u52 (by omega) H46
          refine s_blx (lv' := [(4, vI w40), (0, vR 77), (1, vI slot), (2, vI values), (3, vI length)]) (st' := [vR 77]) B164_88_89 rfl ?_
          refine r_gfix (r := 78) (pc' := 92) D164_89 rfl gf_11_13_77 H53.1 ?_
          refine s_blx (lv' := [(4, vI w40), (0, vR 77), (1, vI slot), (2, vI values), (3, vI length)]) (st' := [vI length, vI ((99 + (3 * w40)) + 2), vR 78]) B164_92_102 rfl ?_
          refine r_iast (pc' := 103) D164_102 rfl sc_78 H53 (by omega) (by unfold inR; omega) (by show s_in (rgK _) _; rw [rk_opening (by omega)]; show 0 ≤ length ∧ length ≤ 255; omega) ?_
          intro M58 u59 H60 p61
          have f62 := f55.wr u59 rfl
          have hp63 := hp56.w u59 (by omega) H53
          have hp64 := hp57.w u59 (by omega) H53
          refine s_blx (lv' := [(4, vI w40), (0, vR 77), (1, vI slot), (2, vI values), (3, vI length)]) (st' := [vR 77]) B164_103_104 rfl ?_
          refine r_gfix (r := 78) (pc' := 107) D164_104 rfl gf_11_13_77 H60.1 ?_
          refine s_blx (lv' := [(4, vI w40), (0, vR 77), (1, vI slot), (2, vI values), (3, vI length)]) (st' := [vI 470, vR 78, vI 470, vR 78]) B164_107_111 rfl ?_
          refine r_iald (pc' := 112) D164_111 rfl sc_78 H60.1 (by omega) ?_
          intro w65 e66 r67
          have e68 : w40 = w65 := (e66.trans ((u59.gi_ne (by omega) (Or.inr (by omega))).trans ((u52.gi_ne (by omega) (Or.inr (by omega))).trans ((u45.gi_ne (by omega) (Or.inr (by omega))).trans (e41.symm))))).symm
          subst e68
          refine s_blx (lv' := [(4, vI w40), (0, vR 77), (1, vI slot), (2, vI values), (3, vI length)]) (st' := [vI (w40 + 1), vI 470, vR 78]) B164_112_114 rfl ?_
          refine r_iast (pc' := 115) D164_114 rfl sc_78 H60 (by omega) (by unfold inR; omega) (by show s_in (rgK _) _; rw [rk_openmany (by omega)]; show 0 ≤ (w40 + 1) ∧ (w40 + 1) ≤ 12; omega) ?_
          intro M69 u70 H71 p72
          have f73 := f62.wr u70 rfl
          have hp74 := hp63.w u70 (by omega) H60
          have hp75 := hp64.w u70 (by omega) H60
          refine s_blx (lv' := [(4, vI w40), (0, vR 77), (1, vI slot), (2, vI values), (3, vI length)]) (st' := [vI w40, vR 77]) B164_115_118 rfl ?_
          refine r_vI (c := 77) (args := [vI w40]) (rest := []) (pc' := 121) D164_118 rfl ck_11_virtual_131 TE149 rfl (Nat.le_of_ble_eq_true rfl) ⟨Nat.le_of_ble_eq_true rfl, Nat.le_of_ble_eq_true rfl⟩ sc_77 ⟨rfl, by decide⟩ H71.1 (dp_0 hd rfl) (k149 E (dp_n hd rfl) H71 w40 (by omega)) ?_
          intro v76 M77 q81
          obtain ⟨H78, f79, q80⟩ := q81
          have f82 := f73.tr (f79.up rfl)
          have hp83 := hp74.fr f79 (by decide)
          have hp84 := hp75.fr f79 (by decide)
          exact r_iretI D164_121 rfl (⟨H78, f82, hp83, hp84⟩)
        · refine s_blx (lv' := [(4, vI w40), (0, vR 77), (1, vI slot), (2, vI values), (3, vI length)]) (st' := [vI (-5), vR 77]) B164_53_56 rfl ?_
          refine r_vI (c := 77) (args := [vI (-5)]) (rest := []) (pc' := 59) D164_56 rfl ck_11_virtual_127 TE148 rfl (Nat.le_of_ble_eq_true rfl) ⟨Nat.le_of_ble_eq_true rfl, Nat.le_of_ble_eq_true rfl⟩ sc_77 ⟨rfl, by decide⟩ H.1 (dp_0 hd rfl) (k148 E (dp_n hd rfl) H (-5) (by omega)) ?_
          intro v85 M86 q90
          obtain ⟨H87, f88, q89⟩ := q90
          have f91 := f0.tr (f88.up rfl)
          have hp92 := h0.fr f88 (by decide)
          have hp93 := h1.fr f88 (by decide)
          exact r_iretI D164_59 rfl (⟨H87, f91, hp92, hp93⟩)
      · refine s_blx (lv' := [(0, vR 77), (1, vI slot), (2, vI values), (3, vI length)]) (st' := [vI (-1), vR 77]) B164_30_32 rfl ?_
        refine r_vI (c := 77) (args := [vI (-1)]) (rest := []) (pc' := 35) D164_32 rfl ck_11_virtual_127 TE148 rfl (Nat.le_of_ble_eq_true rfl) ⟨Nat.le_of_ble_eq_true rfl, Nat.le_of_ble_eq_true rfl⟩ sc_77 ⟨rfl, by decide⟩ H.1 (dp_0 hd rfl) (k148 E (dp_n hd rfl) H (-1) (by omega)) ?_
        intro v94 M95 q99
        obtain ⟨H96, f97, q98⟩ := q99
        have f100 := f0.tr (f97.up rfl)
        have hp101 := h0.fr f97 (by decide)
        have hp102 := h1.fr f97 (by decide)
        exact r_iretI D164_35 rfl (⟨H96, f100, hp101, hp102⟩)
set_option maxRecDepth 4000 in
theorem k165k {base : Nat} {X : Nat → Option mC} {G : Nat → Value} (E : EnvOK base X G) {d : Nat} (hd : 1 ≤ d) {M : mH} (H : HI base M) (speaker : Int) (h0 : LN M) (h1 : GK M) (h2 : -2147483648 ≤ speaker ∧ speaker ≤ 2147483647) : sOk base X G d T165 [vR 77, vI speaker] M (pI (fun v M' => HI base M' ∧ Fr [(77, 1), (78, 0)] M M' ∧ (LN M') ∧ (GK M'))) := by
  have f0 : Fr [(77, 1), (78, 0)] M M := Fr.rf
  refine sOk.of (show sRn base X G d T165 0 [(0, vR 77), (1, vI speaker)] [] M _ from ?_)
  refine s_blx (lv' := [(0, vR 77), (1, vI speaker)]) (st' := [vI 3, vI 0, vI speaker]) B165_0_3 rfl ?_
  refine r_sIp (args := [vI speaker, vI 0, vI 3]) (rest := []) (pc' := 6) D165_3 rfl ck_11_static_123 TE147 rfl (Nat.le_of_ble_eq_true rfl) ⟨Nat.le_of_ble_eq_true rfl, Nat.le_of_ble_eq_true rfl⟩ (by decide) (dp_0 hd rfl) (k147 E (dp_n hd rfl) H speaker 0 3 (by omega) (by omega) (by omega)) ?_
  intro v1 q6
  obtain ⟨q3, q4, q5⟩ := q6
  refine r_ifc (tgt := 15) (pc' := 9) D165_6 rfl rfl (by unfold inR; omega) (fun (c7 : v1 ≠ 0) => ?_) (fun (c7 : ¬ (v1 ≠ 0)) => ?_)
  · refine s_blx (lv' := [(0, vR 77), (1, vI speaker)]) (st' := [vR 77]) B165_15_16 rfl ?_
    refine r_gfix (r := 78) (pc' := 19) D165_16 rfl gf_11_13_77 H.1 ?_
    refine s_blx (lv' := [(0, vR 77), (1, vI speaker)]) (st' := [vI 474, vR 78]) B165_19_22 rfl ?_
    refine r_iald (pc' := 23) D165_22 rfl sc_78 H.1 (by omega) ?_
    intro w8 e9 r10
    have b_w8 := H.2 78 (474) 0 3 (rk_who (by omega))
    rw [← e9] at b_w8; clear r10
    refine s_blx (lv' := [(2, vI w8), (0, vR 77), (1, vI speaker)]) (st' := [vR 77]) B165_23_25 rfl ?_
    refine r_gfix (r := 78) (pc' := 28) D165_25 rfl gf_11_13_77 H.1 ?_
    refine s_blx (lv' := [(2, vI w8), (0, vR 77), (1, vI speaker)]) (st' := [vI speaker, vI 474, vR 78]) B165_28_32 rfl ?_
    refine r_iast (pc' := 33) D165_32 rfl sc_78 H (by omega) (by unfold inR; omega) (by show s_in (rgK _) _; rw [rk_who (by omega)]; show 0 ≤ speaker ∧ speaker ≤ 3; omega) ?_
    intro M11 u12 H13 p14
    have f15 := f0.wr u12 rfl
    have hp16 := h0.w u12 (by omega) H
    have hp17 := h1.w u12 (by omega) H
    refine s_blx (lv' := [(2, vI w8), (0, vR 77), (1, vI speaker)]) (st' := [vI w8, vR 77]) B165_33_35 rfl ?_
    refine r_vI (c := 77) (args := [vI w8]) (rest := []) (pc' := 38) D165_35 rfl ck_11_virtual_131 TE149 rfl (Nat.le_of_ble_eq_true rfl) ⟨Nat.le_of_ble_eq_true rfl, Nat.le_of_ble_eq_true rfl⟩ sc_77 ⟨rfl, by decide⟩ H13.1 (dp_0 hd rfl) (k149 E (dp_n hd rfl) H13 w8 (by omega)) ?_
    intro v18 M19 q23
    obtain ⟨H20, f21, q22⟩ := q23
    have f24 := f15.tr (f21.up rfl)
    have hp25 := hp16.fr f21 (by decide)
    have hp26 := hp17.fr f21 (by decide)
    exact r_iretI D165_38 rfl (⟨H20, f24, hp25, hp26⟩)
  · refine s_blx (lv' := [(0, vR 77), (1, vI speaker)]) (st' := [vI (-1), vR 77]) B165_9_11 rfl ?_
    refine r_vI (c := 77) (args := [vI (-1)]) (rest := []) (pc' := 14) D165_11 rfl ck_11_virtual_127 TE148 rfl (Nat.le_of_ble_eq_true rfl) ⟨Nat.le_of_ble_eq_true rfl, Nat.le_of_ble_eq_true rfl⟩ sc_77 ⟨rfl, by decide⟩ H.1 (dp_0 hd rfl) (k148 E (dp_n hd rfl) H (-1) (by omega)) ?_
    intro v27 M28 q32
    obtain ⟨H29, f30, q31⟩ := q32
    have f33 := f0.tr (f30.up rfl)
    have hp34 := h0.fr f30 (by decide)
    have hp35 := h1.fr f30 (by decide)
    exact r_iretI D165_14 rfl (⟨H29, f33, hp34, hp35⟩)
set_option maxRecDepth 4000 in
theorem k168k {base : Nat} {X : Nat → Option mC} {G : Nat → Value} (E : EnvOK base X G) {d : Nat} (hd : 2 ≤ d) {M : mH} (H : HI base M) (s : Int) (speaker : Int) (weight : Int) (h0 : LN M) (h1 : GK M) (h2 : -2147483648 ≤ s ∧ s ≤ 2147483647) (h3 : -2147483648 ≤ speaker ∧ speaker ≤ 2147483647) (h4 : -2147483648 ≤ weight ∧ weight ≤ 2147483647) : sOk base X G d T168 [vR 77, vI s, vI speaker, vI weight] M (pI (fun v M' => HI base M' ∧ Fr [(77, 1), (78, 0)] M M' ∧ (LN M') ∧ (GK M'))) := by
  have f0 : Fr [(77, 1), (78, 0)] M M := Fr.rf
  refine sOk.of (show sRn base X G d T168 0 [(0, vR 77), (1, vI s), (2, vI speaker), (3, vI weight)] [] M _ from ?_)
  refine s_blx (lv' := [(0, vR 77), (1, vI s), (2, vI speaker), (3, vI weight)]) (st' := [vI 3, vI 0, vI speaker]) B168_0_3 rfl ?_
  refine r_sIp (args := [vI speaker, vI 0, vI 3]) (rest := []) (pc' := 6) D168_3 rfl ck_11_static_123 TE147 rfl (Nat.le_of_ble_eq_true rfl) ⟨Nat.le_of_ble_eq_true rfl, Nat.le_of_ble_eq_true rfl⟩ (by decide) (dp_0 hd rfl) (k147 E (dp_n hd rfl) H speaker 0 3 (by omega) (by omega) (by omega)) ?_
  intro v1 q6
  obtain ⟨q3, q4, q5⟩ := q6
  refine r_ifc (tgt := 19) (pc' := 9) D168_6 rfl rfl (by unfold inR; omega) (fun (c7 : v1 = 0) => ?_) (fun (c7 : ¬ (v1 = 0)) => ?_)
  · refine s_blx (lv' := [(0, vR 77), (1, vI s), (2, vI speaker), (3, vI weight)]) (st' := [vI (-1), vR 77]) B168_19_21 rfl ?_
    refine r_vI (c := 77) (args := [vI (-1)]) (rest := []) (pc' := 24) D168_21 rfl ck_11_virtual_127 TE148 rfl (Nat.le_of_ble_eq_true rfl) ⟨Nat.le_of_ble_eq_true rfl, Nat.le_of_ble_eq_true rfl⟩ sc_77 ⟨rfl, by decide⟩ H.1 (dp_0 hd rfl) (k148 E (dp_n hd rfl) H (-1) (by omega)) ?_
    intro v8 M9 q13
    obtain ⟨H10, f11, q12⟩ := q13
    have f14 := f0.tr (f11.up rfl)
    have hp15 := h0.fr f11 (by decide)
    have hp16 := h1.fr f11 (by decide)
    exact r_iretI D168_24 rfl (⟨H10, f14, hp15, hp16⟩)
  · refine s_blx (lv' := [(0, vR 77), (1, vI s), (2, vI speaker), (3, vI weight)]) (st' := [vI 100, vI 0, vI weight]) B168_9_13 rfl ?_
    refine r_sIp (args := [vI weight, vI 0, vI 100]) (rest := []) (pc' := 16) D168_13 rfl ck_11_static_123 TE147 rfl (Nat.le_of_ble_eq_true rfl) ⟨Nat.le_of_ble_eq_true rfl, Nat.le_of_ble_eq_true rfl⟩ (by decide) (dp_0 hd rfl) (k147 E (dp_n hd rfl) H weight 0 100 (by omega) (by omega) (by omega)) ?_
    intro v17 q22
    obtain ⟨q19, q20, q21⟩ := q22
    refine r_ifc (tgt := 25) (pc' := 19) D168_16 rfl rfl (by unfold inR; omega) (fun (c23 : v17 ≠ 0) => ?_) (fun (c23 : ¬ (v17 ≠ 0)) => ?_)
    · refine s_blx (lv' := [(0, vR 77), (1, vI s), (2, vI speaker), (3, vI weight)]) (st' := [vI s, vR 77]) B168_25_27 rfl ?_
      refine r_vIp (c := 77) (args := [vI s]) (rest := []) (pc' := 30) D168_27 rfl ck_11_virtual_134 TE154 rfl (Nat.le_of_ble_eq_true rfl) ⟨Nat.le_of_ble_eq_true rfl, Nat.le_of_ble_eq_true rfl⟩ sc_77 ⟨rfl, by decide⟩ H.1 (dp_0 hd rfl) (k154 E (dp_n hd rfl) H s (by omega)) ?_
      intro v24 q28
      obtain ⟨q26, q27⟩ := q28
      refine r_ifc (tgt := 40) (pc' := 33) D168_30 rfl rfl (by unfold inR; omega) (fun (c29 : v24 ≠ 0) => ?_) (fun (c29 : ¬ (v24 ≠ 0)) => ?_)
      · refine s_blx (lv' := [(4, vI (((135 + (16 * s)) + 12) + speaker)), (0, vR 77), (1, vI s), (2, vI speaker), (3, vI weight)]) (st' := [vR 77]) B168_40_56 rfl ?_
        refine r_gfix (r := 78) (pc' := 59) D168_56 rfl gf_11_13_77 H.1 ?_
        refine s_blx (lv' := [(4, vI (((135 + (16 * s)) + 12) + speaker)), (0, vR 77), (1, vI s), (2, vI speaker), (3, vI weight)]) (st' := [vI (((135 + (16 * s)) + 12) + speaker), vR 78]) B168_59_61 rfl ?_
        refine r_iald (pc' := 62) D168_61 rfl sc_78 H.1 (by omega) ?_
        intro w30 e31 r32
        have b_w30 := H.2 78 (((135 + (16 * s)) + 12) + speaker) 0 100 (rk_wgt (by omega))
        rw [← e31] at b_w30; clear r32
        refine s_blx (lv' := [(5, vI w30), (4, vI (((135 + (16 * s)) + 12) + speaker)), (0, vR 77), (1, vI s), (2, vI speaker), (3, vI weight)]) (st' := [vR 77]) B168_62_65 rfl ?_
        refine r_gfix (r := 78) (pc' := 68) D168_65 rfl gf_11_13_77 H.1 ?_
        refine s_blx (lv' := [(5, vI w30), (4, vI (((135 + (16 * s)) + 12) + speaker)), (0, vR 77), (1, vI s), (2, vI speaker), (3, vI weight)]) (st' := [vI weight, vI (((135 + (16 * s)) + 12) + speaker), vR 78]) B168_68_71 rfl ?_
        refine r_iast (pc' := 72) D168_71 rfl sc_78 H (by omega) (by unfold inR; omega) (by show s_in (rgK _) _; rw [rk_wgt (by omega)]; show 0 ≤ weight ∧ weight ≤ 100; omega) ?_
        intro M33 u34 H35 p36
        have f37 := f0.wr u34 rfl
        have hp38 := h0.w u34 (by omega) H
        have hp39 := h1.w u34 (by omega) H
        refine s_blx (lv' := [(5, vI w30), (4, vI (((135 + (16 * s)) + 12) + speaker)), (0, vR 77), (1, vI s), (2, vI speaker), (3, vI weight)]) (st' := [vI w30, vR 77]) B168_72_75 rfl ?_
        refine r_vI (c := 77) (args := [vI w30]) (rest := []) (pc' := 78) D168_75 rfl ck_11_virtual_131 TE149 rfl (Nat.le_of_ble_eq_true rfl) ⟨Nat.le_of_ble_eq_true rfl, Nat.le_of_ble_eq_true rfl⟩ sc_77 ⟨rfl, by decide⟩ H35.1 (dp_0 hd rfl) (k149 E (dp_n hd rfl) H35 w30 (by omega)) ?_
        intro v40 M41 q45
        obtain ⟨H42, f43, q44⟩ := q45
        have f46 := f37.tr (f43.up rfl)
        have hp47 := hp38.fr f43 (by decide)
        have hp48 := hp39.fr f43 (by decide)
        exact r_iretI D168_78 rfl (⟨H42, f46, hp47, hp48⟩)
      · refine s_blx (lv' := [(0, vR 77), (1, vI s), (2, vI speaker), (3, vI weight)]) (st' := [vI (-2), vR 77]) B168_33_36 rfl ?_
        refine r_vI (c := 77) (args := [vI (-2)]) (rest := []) (pc' := 39) D168_36 rfl ck_11_virtual_127 TE148 rfl (Nat.le_of_ble_eq_true rfl) ⟨Nat.le_of_ble_eq_true rfl, Nat.le_of_ble_eq_true rfl⟩ sc_77 ⟨rfl, by decide⟩ H.1 (dp_0 hd rfl) (k148 E (dp_n hd rfl) H (-2) (by omega)) ?_
        intro v49 M50 q54
        obtain ⟨H51, f52, q53⟩ := q54
        have f55 := f0.tr (f52.up rfl)
        have hp56 := h0.fr f52 (by decide)
        have hp57 := h1.fr f52 (by decide)
        exact r_iretI D168_39 rfl (⟨H51, f55, hp56, hp57⟩)
    · refine s_blx (lv' := [(0, vR 77), (1, vI s), (2, vI speaker), (3, vI weight)]) (st' := [vI (-1), vR 77]) B168_19_21 rfl ?_
      refine r_vI (c := 77) (args := [vI (-1)]) (rest := []) (pc' := 24) D168_21 rfl ck_11_virtual_127 TE148 rfl (Nat.le_of_ble_eq_true rfl) ⟨Nat.le_of_ble_eq_true rfl, Nat.le_of_ble_eq_true rfl⟩ sc_77 ⟨rfl, by decide⟩ H.1 (dp_0 hd rfl) (k148 E (dp_n hd rfl) H (-1) (by omega)) ?_
      intro v58 M59 q63
      obtain ⟨H60, f61, q62⟩ := q63
      have f64 := f0.tr (f61.up rfl)
      have hp65 := h0.fr f61 (by decide)
      have hp66 := h1.fr f61 (by decide)
      exact r_iretI D168_24 rfl (⟨H60, f64, hp65, hp66⟩)
set_option maxRecDepth 4000 in
theorem k251k {base : Nat} {X : Nat → Option mC} {G : Nat → Value} (E : EnvOK base X G) {d : Nat} (hd : 1 ≤ d) {M : mH} (H : HI base M) (lag : Int) (keeps0 : Int) (limit : Int) (h0 : LN M) (h1 : GK M) (h2 : -2147483648 ≤ lag ∧ lag ≤ 2147483647) (h3 : -2147483648 ≤ keeps0 ∧ keeps0 ≤ 2147483647) (h4 : -2147483648 ≤ limit ∧ limit ≤ 2147483647) : sOk base X G d T251 [vR 77, vI lag, vI keeps0, vI limit] M (pI (fun v M' => HI base M' ∧ Fr [(77, 1), (78, 0)] M M' ∧ (LN M') ∧ (GK M'))) := by
  have f0 : Fr [(77, 1), (78, 0)] M M := Fr.rf
  refine sOk.of (show sRn base X G d T251 0 [(0, vR 77), (1, vI lag), (2, vI keeps0), (3, vI limit)] [] M _ from ?_)
  refine s_blx (lv' := [(0, vR 77), (1, vI lag), (2, vI keeps0), (3, vI limit)]) (st' := [vI 60, vI 0, vI lag]) B251_0_4 rfl ?_
  refine r_sIp (args := [vI lag, vI 0, vI 60]) (rest := []) (pc' := 7) D251_4 rfl ck_11_static_123 TE147 rfl (Nat.le_of_ble_eq_true rfl) ⟨Nat.le_of_ble_eq_true rfl, Nat.le_of_ble_eq_true rfl⟩ (by decide) (dp_0 hd rfl) (k147 E (dp_n hd rfl) H lag 0 60 (by omega) (by omega) (by omega)) ?_
  intro v1 q6
  obtain ⟨q3, q4, q5⟩ := q6
  refine r_ifc (tgt := 31) (pc' := 10) D251_7 rfl rfl (by unfold inR; omega) (fun (c7 : v1 = 0) => ?_) (fun (c7 : ¬ (v1 = 0)) => ?_)
  · refine s_blx (lv' := [(0, vR 77), (1, vI lag), (2, vI keeps0), (3, vI limit)]) (st' := [vI (-1), vR 77]) B251_31_33 rfl ?_
    refine r_vI (c := 77) (args := [vI (-1)]) (rest := []) (pc' := 36) D251_33 rfl ck_11_virtual_127 TE148 rfl (Nat.le_of_ble_eq_true rfl) ⟨Nat.le_of_ble_eq_true rfl, Nat.le_of_ble_eq_true rfl⟩ sc_77 ⟨rfl, by decide⟩ H.1 (dp_0 hd rfl) (k148 E (dp_n hd rfl) H (-1) (by omega)) ?_
    intro v8 M9 q13
    obtain ⟨H10, f11, q12⟩ := q13
    have f14 := f0.tr (f11.up rfl)
    have hp15 := h0.fr f11 (by decide)
    have hp16 := h1.fr f11 (by decide)
    exact r_iretI D251_36 rfl (⟨H10, f14, hp15, hp16⟩)
  · refine s_blx (lv' := [(0, vR 77), (1, vI lag), (2, vI keeps0), (3, vI limit)]) (st' := [vI 100, vI 0, vI keeps0]) B251_10_14 rfl ?_
    refine r_sIp (args := [vI keeps0, vI 0, vI 100]) (rest := []) (pc' := 17) D251_14 rfl ck_11_static_123 TE147 rfl (Nat.le_of_ble_eq_true rfl) ⟨Nat.le_of_ble_eq_true rfl, Nat.le_of_ble_eq_true rfl⟩ (by decide) (dp_0 hd rfl) (k147 E (dp_n hd rfl) H keeps0 0 100 (by omega) (by omega) (by omega)) ?_
    intro v17 q22
    obtain ⟨q19, q20, q21⟩ := q22
    refine r_ifc (tgt := 31) (pc' := 20) D251_17 rfl rfl (by unfold inR; omega) (fun (c23 : v17 = 0) => ?_) (fun (c23 : ¬ (v17 = 0)) => ?_)
    · refine s_blx (lv' := [(0, vR 77), (1, vI lag), (2, vI keeps0), (3, vI limit)]) (st' := [vI (-1), vR 77]) B251_31_33 rfl ?_
      refine r_vI (c := 77) (args := [vI (-1)]) (rest := []) (pc' := 36) D251_33 rfl ck_11_virtual_127 TE148 rfl (Nat.le_of_ble_eq_true rfl) ⟨Nat.le_of_ble_eq_true rfl, Nat.le_of_ble_eq_true rfl⟩ sc_77 ⟨rfl, by decide⟩ H.1 (dp_0 hd rfl) (k148 E (dp_n hd rfl) H (-1) (by omega)) ?_
      intro v24 M25 q29
      obtain ⟨H26, f27, q28⟩ := q29
      have f30 := f0.tr (f27.up rfl)
      have hp31 := h0.fr f27 (by decide)
      have hp32 := h1.fr f27 (by decide)
      exact r_iretI D251_36 rfl (⟨H26, f30, hp31, hp32⟩)
    · refine s_blx (lv' := [(0, vR 77), (1, vI lag), (2, vI keeps0), (3, vI limit)]) (st' := [vI 300, vI 0, vI limit]) B251_20_25 rfl ?_
      refine r_sIp (args := [vI limit, vI 0, vI 300]) (rest := []) (pc' := 28) D251_25 rfl ck_11_static_123 TE147 rfl (Nat.le_of_ble_eq_true rfl) ⟨Nat.le_of_ble_eq_true rfl, Nat.le_of_ble_eq_true rfl⟩ (by decide) (dp_0 hd rfl) (k147 E (dp_n hd rfl) H limit 0 300 (by omega) (by omega) (by omega)) ?_
      intro v33 q38
      obtain ⟨q35, q36, q37⟩ := q38
      refine r_ifc (tgt := 37) (pc' := 31) D251_28 rfl rfl (by unfold inR; omega) (fun (c39 : v33 ≠ 0) => ?_) (fun (c39 : ¬ (v33 ≠ 0)) => ?_)
      · refine s_blx (lv' := [(0, vR 77), (1, vI lag), (2, vI keeps0), (3, vI limit)]) (st' := [vR 77]) B251_37_38 rfl ?_
        refine r_gfix (r := 78) (pc' := 41) D251_38 rfl gf_11_13_77 H.1 ?_
        refine s_blx (lv' := [(0, vR 77), (1, vI lag), (2, vI keeps0), (3, vI limit)]) (st' := [vI 472, vR 78]) B251_41_44 rfl ?_
        refine r_iald (pc' := 45) D251_44 rfl sc_78 H.1 (by omega) ?_
        intro w40 e41 r42
        have b_w40 := H.2 78 (472) 0 6 (rk_boxmany (by omega))
        rw [← e41] at b_w40; clear r42
        refine s_blx (lv' := [(4, vI w40), (0, vR 77), (1, vI lag), (2, vI keeps0), (3, vI limit)]) (st' := [vI 6, vI w40]) B251_45_51 rfl ?_
        refine r_icmp (tgt := 61) (pc' := 54) D251_51 rfl rfl (by unfold inR; omega) (fun (c43 : w40 ≠ 6) => ?_) (fun (c43 : ¬ (w40 ≠ 6)) => ?_)
        · refine s_blx (lv' := [(4, vI w40), (0, vR 77), (1, vI lag), (2, vI keeps0), (3, vI limit)]) (st' := [vR 77]) B251_61_62 rfl ?_
          refine r_gfix (r := 78) (pc' := 65) D251_62 rfl gf_11_13_77 H.1 ?_
          refine s_blx (lv' := [(4, vI w40), (0, vR 77), (1, vI lag), (2, vI keeps0), (3, vI limit)]) (st' := [vI lag, vI (391 + (3 * w40)), vR 78]) B251_65_74 rfl ?_
          refine r_iast (pc' := 75) D251_74 rfl sc_78 H (by omega) (by unfold inR; omega) (by show s_in (rgK _) _; rw [rk_box (by omega)]; show 0 ≤ lag ∧ lag ≤ 300; omega) ?_
          intro M44 u45 H46 p47
          have f48 := f0.wr u45 rfl
          have hp49 := h0.w u45 (by omega) H
          have hp50 := h1.w u45 (by omega) H
          refine s_blx (lv' := [(4, vI w40), (0, vR 77), (1, vI lag), (2, vI keeps0), (3, vI limit)]) (st' := [vR 77]) B251_75_76 rfl ?_
          refine r_gfix (r := 78) (pc' := 79) D251_76 rfl gf_11_13_77 H46.1 ?_
          refine s_blx (lv' := [(4, vI w40), (0, vR 77), (1, vI lag), (2, vI keeps0), (3, vI limit)]) (st' := [vI keeps0, vI ((391 + (3 * w40)) + 1), vR 78]) B251_79_90 rfl ?_
          refine r_iast (pc' := 91) D251_90 rfl sc_78 H46 (by omega) (by unfold inR; omega) (by show s_in (rgK _) _; rw [rk_box (by omega)]; show 0 ≤ keeps0 ∧ keeps0 ≤ 300; omega) ?_
          intro M51 u52 H53 p54
          have f55 := f48.wr u52 rfl
          have hp56 := hp49.w u52 (by omega) H46
          have hp57 := hp50.w u52 (by omega) H46
          refine s_blx (lv' := [(4, vI w40), (0, vR 77), (1, vI lag), (2, vI keeps0), (3, vI limit)]) (st' := [vR 77]) B251_91_92 rfl ?_
          refine r_gfix (r := 78) (pc' := 95) D251_92 rfl gf_11_13_77 H53.1 ?_
          refine s_blx (lv' := [(4, vI w40), (0, vR 77), (1, vI lag), (2, vI keeps0), (3, vI limit)]) (st' := [vI limit, vI ((391 + (3 * w40)) + 2), vR 78]) B251_95_106 rfl ?_
          refine r_iast (pc' := 107) D251_106 rfl sc_78 H53 (by omega) (by unfold inR; omega) (by show s_in (rgK _) _; rw [rk_box (by omega)]; show 0 ≤ limit ∧ limit ≤ 300; omega) ?_
          intro M58 u59 H60 p61
          have f62 := f55.wr u59 rfl
          have hp63 := hp56.w u59 (by omega) H53
          have hp64 := hp57.w u59 (by omega) H53
          refine s_blx (lv' := [(4, vI w40), (0, vR 77), (1, vI lag), (2, vI keeps0), (3, vI limit)]) (st' := [vR 77]) B251_107_108 rfl ?_
          refine r_gfix (r := 78) (pc' := 111) D251_108 rfl gf_11_13_77 H60.1 ?_
          refine s_blx (lv' := [(4, vI w40), (0, vR 77), (1, vI lag), (2, vI keeps0), (3, vI limit)]) (st' := [vI 472, vR 78, vI 472, vR 78]) B251_111_115 rfl ?_
          refine r_iald (pc' := 116) D251_115 rfl sc_78 H60.1 (by omega) ?_
          intro w65 e66 r67
          have e68 : w40 = w65 := (e66.trans ((u59.gi_ne (by omega) (Or.inr (by omega))).trans ((u52.gi_ne (by omega) (Or.inr (by omega))).trans ((u45.gi_ne (by omega) (Or.inr (by omega))).trans (e41.symm))))).symm
          subst e68
          refine s_blx (lv' := [(4, vI w40), (0, vR 77), (1, vI lag), (2, vI keeps0), (3, vI limit)]) (st' := [vI (w40 + 1), vI 472, vR 78]) B251_116_118 rfl ?_
          refine r_iast (pc' := 119) D251_118 rfl sc_78 H60 (by omega) (by unfold inR; omega) (by show s_in (rgK _) _; rw [rk_boxmany (by omega)]; show 0 ≤ (w40 + 1) ∧ (w40 + 1) ≤ 6; omega) ?_
          intro M69 u70 H71 p72
          have f73 := f62.wr u70 rfl
          have hp74 := hp63.w u70 (by omega) H60
          have hp75 := hp64.w u70 (by omega) H60
          refine s_blx (lv' := [(4, vI w40), (0, vR 77), (1, vI lag), (2, vI keeps0), (3, vI limit)]) (st' := [vI w40, vR 77]) B251_119_122 rfl ?_
          refine r_vI (c := 77) (args := [vI w40]) (rest := []) (pc' := 125) D251_122 rfl ck_11_virtual_131 TE149 rfl (Nat.le_of_ble_eq_true rfl) ⟨Nat.le_of_ble_eq_true rfl, Nat.le_of_ble_eq_true rfl⟩ sc_77 ⟨rfl, by decide⟩ H71.1 (dp_0 hd rfl) (k149 E (dp_n hd rfl) H71 w40 (by omega)) ?_
          intro v76 M77 q81
          obtain ⟨H78, f79, q80⟩ := q81
          have f82 := f73.tr (f79.up rfl)
          have hp83 := hp74.fr f79 (by decide)
          have hp84 := hp75.fr f79 (by decide)
          exact r_iretI D251_125 rfl (⟨H78, f82, hp83, hp84⟩)
        · refine s_blx (lv' := [(4, vI w40), (0, vR 77), (1, vI lag), (2, vI keeps0), (3, vI limit)]) (st' := [vI (-5), vR 77]) B251_54_57 rfl ?_
          refine r_vI (c := 77) (args := [vI (-5)]) (rest := []) (pc' := 60) D251_57 rfl ck_11_virtual_127 TE148 rfl (Nat.le_of_ble_eq_true rfl) ⟨Nat.le_of_ble_eq_true rfl, Nat.le_of_ble_eq_true rfl⟩ sc_77 ⟨rfl, by decide⟩ H.1 (dp_0 hd rfl) (k148 E (dp_n hd rfl) H (-5) (by omega)) ?_
          intro v85 M86 q90
          obtain ⟨H87, f88, q89⟩ := q90
          have f91 := f0.tr (f88.up rfl)
          have hp92 := h0.fr f88 (by decide)
          have hp93 := h1.fr f88 (by decide)
          exact r_iretI D251_60 rfl (⟨H87, f91, hp92, hp93⟩)
      · refine s_blx (lv' := [(0, vR 77), (1, vI lag), (2, vI keeps0), (3, vI limit)]) (st' := [vI (-1), vR 77]) B251_31_33 rfl ?_
        refine r_vI (c := 77) (args := [vI (-1)]) (rest := []) (pc' := 36) D251_33 rfl ck_11_virtual_127 TE148 rfl (Nat.le_of_ble_eq_true rfl) ⟨Nat.le_of_ble_eq_true rfl, Nat.le_of_ble_eq_true rfl⟩ sc_77 ⟨rfl, by decide⟩ H.1 (dp_0 hd rfl) (k148 E (dp_n hd rfl) H (-1) (by omega)) ?_
        intro v94 M95 q99
        obtain ⟨H96, f97, q98⟩ := q99
        have f100 := f0.tr (f97.up rfl)
        have hp101 := h0.fr f97 (by decide)
        have hp102 := h1.fr f97 (by decide)
        exact r_iretI D251_36 rfl (⟨H96, f100, hp101, hp102⟩)
set_option maxRecDepth 4000 in
theorem k256k {base : Nat} {X : Nat → Option mC} {G : Nat → Value} (E : EnvOK base X G) {d : Nat} (hd : 1 ≤ d) {M : mH} (H : HI base M) (minute : Int) (cost : Int) (h0 : LN M) (h1 : GK M) (h2 : -2147483648 ≤ minute ∧ minute ≤ 2147483647) (h3 : -2147483648 ≤ cost ∧ cost ≤ 2147483647) : sOk base X G d T256 [vR 77, vI minute, vI cost] M (pI (fun v M' => HI base M' ∧ Fr [(77, 1), (78, 0)] M M' ∧ (LN M') ∧ (GK M'))) := by
  have f0 : Fr [(77, 1), (78, 0)] M M := Fr.rf
  refine sOk.of (show sRn base X G d T256 0 [(0, vR 77), (1, vI minute), (2, vI cost)] [] M _ from ?_)
  refine s_blx (lv' := [(0, vR 77), (1, vI minute), (2, vI cost)]) (st' := [vI 59, vI 0, vI minute]) B256_0_4 rfl ?_
  refine r_sIp (args := [vI minute, vI 0, vI 59]) (rest := []) (pc' := 7) D256_4 rfl ck_11_static_123 TE147 rfl (Nat.le_of_ble_eq_true rfl) ⟨Nat.le_of_ble_eq_true rfl, Nat.le_of_ble_eq_true rfl⟩ (by decide) (dp_0 hd rfl) (k147 E (dp_n hd rfl) H minute 0 59 (by omega) (by omega) (by omega)) ?_
  intro v1 q6
  obtain ⟨q3, q4, q5⟩ := q6
  refine r_ifc (tgt := 21) (pc' := 10) D256_7 rfl rfl (by unfold inR; omega) (fun (c7 : v1 = 0) => ?_) (fun (c7 : ¬ (v1 = 0)) => ?_)
  · refine s_blx (lv' := [(0, vR 77), (1, vI minute), (2, vI cost)]) (st' := [vI (-1), vR 77]) B256_21_23 rfl ?_
    refine r_vI (c := 77) (args := [vI (-1)]) (rest := []) (pc' := 26) D256_23 rfl ck_11_virtual_127 TE148 rfl (Nat.le_of_ble_eq_true rfl) ⟨Nat.le_of_ble_eq_true rfl, Nat.le_of_ble_eq_true rfl⟩ sc_77 ⟨rfl, by decide⟩ H.1 (dp_0 hd rfl) (k148 E (dp_n hd rfl) H (-1) (by omega)) ?_
    intro v8 M9 q13
    obtain ⟨H10, f11, q12⟩ := q13
    have f14 := f0.tr (f11.up rfl)
    have hp15 := h0.fr f11 (by decide)
    have hp16 := h1.fr f11 (by decide)
    exact r_iretI D256_26 rfl (⟨H10, f14, hp15, hp16⟩)
  · refine s_blx (lv' := [(0, vR 77), (1, vI minute), (2, vI cost)]) (st' := [vI 1000, vI 0, vI cost]) B256_10_15 rfl ?_
    refine r_sIp (args := [vI cost, vI 0, vI 1000]) (rest := []) (pc' := 18) D256_15 rfl ck_11_static_123 TE147 rfl (Nat.le_of_ble_eq_true rfl) ⟨Nat.le_of_ble_eq_true rfl, Nat.le_of_ble_eq_true rfl⟩ (by decide) (dp_0 hd rfl) (k147 E (dp_n hd rfl) H cost 0 1000 (by omega) (by omega) (by omega)) ?_
    intro v17 q22
    obtain ⟨q19, q20, q21⟩ := q22
    refine r_ifc (tgt := 27) (pc' := 21) D256_18 rfl rfl (by unfold inR; omega) (fun (c23 : v17 ≠ 0) => ?_) (fun (c23 : ¬ (v17 ≠ 0)) => ?_)
    · refine s_blx (lv' := [(0, vR 77), (1, vI minute), (2, vI cost)]) (st' := [vR 77]) B256_27_28 rfl ?_
      refine r_gfix (r := 78) (pc' := 31) D256_28 rfl gf_11_13_77 H.1 ?_
      refine s_blx (lv' := [(0, vR 77), (1, vI minute), (2, vI cost)]) (st' := [vI (409 + minute), vR 78]) B256_31_36 rfl ?_
      refine r_iald (pc' := 37) D256_36 rfl sc_78 H.1 (by omega) ?_
      intro w24 e25 r26
      have b_w24 := H.2 78 (409 + minute) 0 1000 (rk_tired (by omega))
      rw [← e25] at b_w24; clear r26
      refine s_blx (lv' := [(3, vI w24), (0, vR 77), (1, vI minute), (2, vI cost)]) (st' := [vR 77]) B256_37_39 rfl ?_
      refine r_gfix (r := 78) (pc' := 42) D256_39 rfl gf_11_13_77 H.1 ?_
      refine s_blx (lv' := [(3, vI w24), (0, vR 77), (1, vI minute), (2, vI cost)]) (st' := [vI cost, vI (409 + minute), vR 78]) B256_42_48 rfl ?_
      refine r_iast (pc' := 49) D256_48 rfl sc_78 H (by omega) (by unfold inR; omega) (by show s_in (rgK _) _; rw [rk_tired (by omega)]; show 0 ≤ cost ∧ cost ≤ 1000; omega) ?_
      intro M27 u28 H29 p30
      have f31 := f0.wr u28 rfl
      have hp32 := h0.w u28 (by omega) H
      have hp33 := h1.w u28 (by omega) H
      refine s_blx (lv' := [(3, vI w24), (0, vR 77), (1, vI minute), (2, vI cost)]) (st' := [vI w24, vR 77]) B256_49_51 rfl ?_
      refine r_vI (c := 77) (args := [vI w24]) (rest := []) (pc' := 54) D256_51 rfl ck_11_virtual_131 TE149 rfl (Nat.le_of_ble_eq_true rfl) ⟨Nat.le_of_ble_eq_true rfl, Nat.le_of_ble_eq_true rfl⟩ sc_77 ⟨rfl, by decide⟩ H29.1 (dp_0 hd rfl) (k149 E (dp_n hd rfl) H29 w24 (by omega)) ?_
      intro v34 M35 q39
      obtain ⟨H36, f37, q38⟩ := q39
      have f40 := f31.tr (f37.up rfl)
      have hp41 := hp32.fr f37 (by decide)
      have hp42 := hp33.fr f37 (by decide)
      exact r_iretI D256_54 rfl (⟨H36, f40, hp41, hp42⟩)
    · refine s_blx (lv' := [(0, vR 77), (1, vI minute), (2, vI cost)]) (st' := [vI (-1), vR 77]) B256_21_23 rfl ?_
      refine r_vI (c := 77) (args := [vI (-1)]) (rest := []) (pc' := 26) D256_23 rfl ck_11_virtual_127 TE148 rfl (Nat.le_of_ble_eq_true rfl) ⟨Nat.le_of_ble_eq_true rfl, Nat.le_of_ble_eq_true rfl⟩ sc_77 ⟨rfl, by decide⟩ H.1 (dp_0 hd rfl) (k148 E (dp_n hd rfl) H (-1) (by omega)) ?_
      intro v43 M44 q48
      obtain ⟨H45, f46, q47⟩ := q48
      have f49 := f0.tr (f46.up rfl)
      have hp50 := h0.fr f46 (by decide)
      have hp51 := h1.fr f46 (by decide)
      exact r_iretI D256_26 rfl (⟨H45, f49, hp50, hp51⟩)
