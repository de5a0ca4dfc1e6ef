/-! The reference's tables of what was said. -/
noncomputable def TBq (s : Int) (M : mH) : Prop := (s = 0 → gi M 81 0 = 0) ∧ (1 ≤ s → s ≤ 10 → gi M 81 s = 1 ∧ gi M 82 (3 * s) = s - 1) ∧ (11 ≤ s → s ≤ 110 → gi M 81 s = 2 ∧ gi M 82 (3 * s) = (s - 11) / 10 ∧ gi M 82 (3 * s + 1) = (s - 11) % 10) ∧ (111 ≤ s → s ≤ 1110 → gi M 81 s = 3 ∧ gi M 82 (3 * s) = (s - 111) / 100 ∧ gi M 82 (3 * s + 1) = (s - 111) / 10 % 10 ∧ gi M 82 (3 * s + 2) = (s - 111) % 10)
noncomputable def TBp (n : Int) (M : mH) : Prop := ∀ s : Int, 0 ≤ s → s < n → TBq s M
theorem TBp.tb {M : mH} (h : TBp 1111 M) : TB M := ⟨(h 0 (by decide) (by decide)).1 rfl, fun s a b => (h s (by omega) (by omega)).2.1 a b, fun s a b => (h s (by omega) (by omega)).2.2.1 a b, fun s a b => (h s (by omega) (by omega)).2.2.2 a b⟩
theorem TBq.of {s : Int} {M M' : mH} (h : TBq s M) (e1 : gi M' 81 s = gi M 81 s) (e2 : ∀ j : Int, 3 * s ≤ j → j ≤ 3 * s + 2 → gi M' 82 j = gi M 82 j) : TBq s M' := by
  obtain ⟨a, b, c, d⟩ := h
  refine ⟨fun q => ?_, fun p q => ?_, fun p q => ?_, fun p q => ?_⟩
  · subst q; rw [e1]; exact a rfl
  · rw [e1, e2 _ (by omega) (by omega)]; exact b p q
  · rw [e1, e2 _ (by omega) (by omega), e2 _ (by omega) (by omega)]; exact c p q
  · rw [e1, e2 _ (by omega) (by omega), e2 _ (by omega) (by omega), e2 _ (by omega) (by omega)]; exact d p q
theorem TBp.wr {n : Int} {M M' : mH} {c i : Nat} {v : Value} (h : TBp n M) (u : Wr M c i v M') (hc : c ≠ 81 ∧ c ≠ 82) : TBp n M' := fun s a b => (h s a b).of (by unfold gi; rw [u.ne (Or.inl (Ne.symm hc.1))]) (fun j _ _ => by unfold gi; rw [u.ne (Or.inl (Ne.symm hc.2))])
theorem TBp.w81 {n : Int} {M M' : mH} {v : Value} (h : TBp n M) (u : Wr M 81 n.toNat v M') (h0 : 0 ≤ n) : TBp n M' := fun s a b => (h s a b).of (u.gi_ne h0 (Or.inr (by omega))) (fun j _ _ => u.gi_ne h0 (Or.inl (by decide)))
theorem TBp.w82 {n r : Int} {M M' : mH} {v : Value} (h : TBp n M) (u : Wr M 82 (3 * n + r).toNat v M') (h0 : 0 ≤ n ∧ 0 ≤ r) : TBp n M' := fun s a b => (h s a b).of (u.gi_ne (by omega) (Or.inl (by decide))) (fun j _ _ => u.gi_ne (by omega) (Or.inr (by omega)))
noncomputable def DW (s k x r : Int) (M : mH) : Prop := (k = 1 → (r = 0 → x = s - 1) ∧ (r = -1 → gi M 82 (3 * s) = s - 1)) ∧ (k = 2 → (r = 1 → x = s - 11) ∧ (r ≤ 0 → gi M 82 (3 * s + 1) = (s - 11) % 10) ∧ (r = 0 → x = (s - 11) / 10) ∧ (r = -1 → gi M 82 (3 * s) = (s - 11) / 10)) ∧ (k = 3 → (r = 2 → x = s - 111) ∧ (r ≤ 1 → gi M 82 (3 * s + 2) = (s - 111) % 10) ∧ (r = 1 → x = (s - 111) / 10) ∧ (r ≤ 0 → gi M 82 (3 * s + 1) = (s - 111) / 10 % 10) ∧ (r = 0 → x = (s - 111) / 100) ∧ (r = -1 → gi M 82 (3 * s) = (s - 111) / 100))
theorem DW.init {s k x r : Int} {M : mH} (h : SDk s k) (hr : r = k - 1) (h1 : k = 1 → x = s - 1) (h2 : k = 2 → x = s - 11) (h3 : k = 3 → x = s - 111) : DW s k x r M :=
  ⟨fun e => ⟨fun _ => h1 e, fun _ => by omega⟩, fun e => ⟨fun _ => h2 e, fun _ => by omega, fun _ => by omega, fun _ => by omega⟩, fun e => ⟨fun _ => h3 e, fun _ => by omega, fun _ => by omega, fun _ => by omega, fun _ => by omega, fun _ => by omega⟩⟩
theorem dv1 {s : Int} (h : 1 ≤ s ∧ s ≤ 10) : (s - 1) % 10 = s - 1 := by omega
theorem dv2 {s : Int} (h : 11 ≤ s ∧ s ≤ 110) : (s - 11) / 10 % 10 = (s - 11) / 10 := by omega
theorem dv3 {s : Int} (h : 111 ≤ s ∧ s ≤ 1110) : (s - 111) / 100 % 10 = (s - 111) / 100 := by omega
theorem dv4 {s : Int} : (s - 111) / 10 / 10 = (s - 111) / 100 := by omega
theorem DW.step {s k x r : Int} {M M' : mH} {v : Value} (h : DW s k x r M) (u : Wr M 82 (3 * s + r).toNat v M') (hp : gi M' 82 (3 * s + r) = x % 10) (hn : SDk s k) (hr : 0 ≤ r ∧ r ≤ k - 1) : DW s k (x / 10) (r - 1) M' := by
  have hs : 0 ≤ s := by unfold SDk at hn; omega
  obtain ⟨a, b, c⟩ := h
  have ne : ∀ j : Int, j ≠ 3 * s + r → gi M' 82 j = gi M 82 j := fun j hj => u.gi_ne (by omega) (Or.inr hj)
  have n1 : k = 1 → 1 ≤ s ∧ s ≤ 10 := fun e => by unfold SDk at hn; omega
  have n2 : k = 2 → 11 ≤ s ∧ s ≤ 110 := fun e => by unfold SDk at hn; omega
  have n3 : k = 3 → 111 ≤ s ∧ s ≤ 1110 := fun e => by unfold SDk at hn; omega
  clear hn
  refine ⟨fun e => ?_, fun e => ?_, fun e => ?_⟩
  · have hr0 : r = 0 := by omega
    subst hr0
    refine ⟨fun q => absurd q (by omega), fun _ => ?_⟩
    rw [show 3 * s = 3 * s + 0 by omega, hp, (a e).1 rfl, dv1 (n1 e)]
  · obtain ⟨b1, b2, b3, b4⟩ := b e
    have hr0 : r = 0 ∨ r = 1 := by omega
    rcases hr0 with rfl | rfl
    · refine ⟨fun q => absurd q (by omega), fun _ => by rw [ne _ (by omega)]; exact b2 (by omega), fun q => absurd q (by omega), fun _ => ?_⟩
      rw [show 3 * s = 3 * s + 0 by omega, hp, b3 rfl, dv2 (n2 e)]
    · refine ⟨fun q => absurd q (by omega), fun _ => ?_, fun _ => by rw [b1 rfl], fun q => absurd q (by omega)⟩
      rw [hp, b1 rfl]
  · obtain ⟨c1, c2, c3, c4, c5, c6⟩ := c e
    have hr0 : r = 0 ∨ r = 1 ∨ r = 2 := by omega
    rcases hr0 with rfl | rfl | rfl
    · refine ⟨fun q => absurd q (by omega), fun _ => by rw [ne _ (by omega)]; exact c2 (by omega), fun q => absurd q (by omega), fun _ => by rw [ne _ (by omega)]; exact c4 (by omega), fun q => absurd q (by omega), fun _ => ?_⟩
      rw [show 3 * s = 3 * s + 0 by omega, hp, c5 rfl, dv3 (n3 e)]
    · refine ⟨fun q => absurd q (by omega), fun _ => by rw [ne _ (by omega)]; exact c2 (by omega), fun q => absurd q (by omega), fun _ => ?_, fun _ => by rw [c3 rfl, dv4], fun q => absurd q (by omega)⟩
      rw [hp, c3 rfl]
    · refine ⟨fun q => absurd q (by omega), fun _ => ?_, fun _ => by rw [c1 rfl], fun q => absurd q (by omega), fun q => absurd q (by omega), fun q => absurd q (by omega)⟩
      rw [hp, c1 rfl]
theorem DW.fin {s k x r : Int} {M : mH} (h : DW s k x r M) (hr : r = -1) (hn : SDk s k) (hk : gi M 81 s = k) : TBq s M := by
  obtain ⟨a, b, c⟩ := h
  subst hr
  refine ⟨fun q => ?_, fun p q => ?_, fun p q => ?_, fun p q => ?_⟩
  · subst q; rw [hk]; unfold SDk at hn; omega
  · have e : k = 1 := by unfold SDk at hn; omega
    exact ⟨by rw [hk, e], (a e).2 rfl⟩
  · have e : k = 2 := by unfold SDk at hn; omega
    obtain ⟨b1, b2, b3, b4⟩ := b e
    exact ⟨by rw [hk, e], b4 rfl, b2 (by decide)⟩
  · have e : k = 3 := by unfold SDk at hn; omega
    obtain ⟨c1, c2, c3, c4, c5, c6⟩ := c e
    exact ⟨by rw [hk, e], c6 rfl, c4 (by decide), c2 (by decide)⟩
theorem TBp.next {n : Int} {M : mH} (h : TBp n M) (q : TBq n M) : TBp (n + 1) M := fun s a b => if e : s = n then by rw [e]; exact q else h s a (by omega)
theorem TBp.zero {M : mH} : TBp 0 M := fun s a b => by omega
/-- what is kept, at all places -/
noncomputable def CK (f : Int → Int) (M : mH) : Prop := ∀ j : Int, 0 ≤ j → gi M 78 j = f j
theorem CK.zero {M : mH} (h : ∀ j : Int, gi M 78 j = 0) : CK (lpN 0) M := fun j hj => by
  rw [h j]
  unfold lpN
  rw [if_neg (by omega), if_neg (by omega)]
theorem CK.wr {f : Int → Int} {M M' : mH} {c i : Nat} {v : Value} (h : CK f M) (u : Wr M c i v M') (hc : c ≠ 78) : CK f M' := fun j hj => by rw [show gi M' 78 j = gi M 78 j by unfold gi; rw [u.ne (Or.inl (Ne.symm hc))]]; exact h j hj
theorem CK.w {f : Int → Int} {M M' : mH} {i x : Int} {v : Value} (h : CK f M) (u : Wr M 78 i.toNat v M') (h0 : 0 ≤ i) (p : gi M' 78 i = x) : CK (updN f i x) M' := fun j hj => by
  by_cases e : j = i
  · rw [e, updN_eq]; exact p
  · rw [updN_ne e, u.gi_ne h0 (Or.inr e)]; exact h j hj
theorem CK.ext {f g : Int → Int} {M : mH} (h : CK f M) (e : ∀ j : Int, 0 ≤ j → f j = g j) : CK g M := fun j hj => (h j hj).trans (e j hj)
theorem lp_step {x : Int} (hx : 0 ≤ x ∧ x < 30) (j : Int) (_ : 0 ≤ j) : updN (updN (lpN x) (0 + x) 1) (30 + x) 5 j = lpN (x + 1) j := by
  by_cases e1 : j = 30 + x
  · rw [e1, updN_eq]
    unfold lpN
    rw [if_neg (by omega), if_pos (by omega)]
  rw [updN_ne e1]
  by_cases e2 : j = 0 + x
  · rw [e2, updN_eq]
    unfold lpN
    rw [if_pos (by omega)]
  rw [updN_ne e2]
  unfold lpN
  by_cases c1 : 0 ≤ j ∧ j < x
  · rw [if_pos c1, if_pos (show 0 ≤ j ∧ j < x + 1 by omega)]
  rw [if_neg c1, if_neg (show ¬ (0 ≤ j ∧ j < x + 1) by omega)]
  by_cases c2 : 30 ≤ j ∧ j < 30 + x
  · rw [if_pos c2, if_pos (show 30 ≤ j ∧ j < 30 + (x + 1) by omega)]
  · rw [if_neg c2, if_neg (show ¬ (30 ≤ j ∧ j < 30 + (x + 1)) by omega)]
noncomputable def KI (M : mH) : Prop := ∀ j : Int, 0 ≤ j → gi M 78 j = i_N j
theorem KI.wr {M M' : mH} {c i : Nat} {v : Value} (h : KI M) (u : Wr M c i v M') (hc : c ≠ 78) : KI M' := CK.wr (f := i_N) h u hc
theorem CK.fin {M : mH} {x : Int} (hx : x = 30) (h : CK (updN (updN (updN (updN (updN (updN (updN (updN (updN (lpN x) 90 6) 91 3) 92 1) 93 1) 94 20) 95 10) 96 4) 97 2) 98 5) M) : KI M := by
  subst hx
  exact h
theorem B150_903_905 : s_dk T150.2.2.1 903 [.iconst 0, .istore_n 1] 905 = true := by decide +kernel
theorem B150_905_908 : s_dk T150.2.2.1 905 [.iload_n 1, .bipush 30] 908 = true := by decide +kernel
theorem D150_908 : decode T150.2.2.1 908 = .ok (.if_icmp .ge 28, 3) := by decide +kernel
theorem B150_911_912 : s_dk T150.2.2.1 911 [.aload_n 0] 912 = true := by decide +kernel
theorem D150_912 : decode T150.2.2.1 912 = .ok (.getfield 13, 3) := by decide +kernel
theorem B150_915_919 : s_dk T150.2.2.1 915 [.iconst 0, .iload_n 1, .iadd, .iconst 1] 919 = true := by decide +kernel
theorem D150_919 : decode T150.2.2.1 919 = .ok (.iastore, 1) := by decide +kernel
theorem B150_920_921 : s_dk T150.2.2.1 920 [.aload_n 0] 921 = true := by decide +kernel
theorem D150_921 : decode T150.2.2.1 921 = .ok (.getfield 13, 3) := by decide +kernel
theorem B150_924_929 : s_dk T150.2.2.1 924 [.bipush 30, .iload_n 1, .iadd, .iconst 5] 929 = true := by decide +kernel
theorem D150_929 : decode T150.2.2.1 929 = .ok (.iastore, 1) := by decide +kernel
theorem B150_930_933 : s_dk T150.2.2.1 930 [.iinc 1 1] 933 = true := by decide +kernel
theorem D150_933 : decode T150.2.2.1 933 = .ok (.goto (-28), 3) := by decide +kernel
theorem B150_936_937 : s_dk T150.2.2.1 936 [.aload_n 0] 937 = true := by decide +kernel
theorem D150_937 : decode T150.2.2.1 937 = .ok (.getfield 13, 3) := by decide +kernel
theorem B150_940_944 : s_dk T150.2.2.1 940 [.bipush 90, .bipush 6] 944 = true := by decide +kernel
theorem D150_944 : decode T150.2.2.1 944 = .ok (.iastore, 1) := by decide +kernel
theorem B150_945_946 : s_dk T150.2.2.1 945 [.aload_n 0] 946 = true := by decide +kernel
theorem D150_946 : decode T150.2.2.1 946 = .ok (.getfield 13, 3) := by decide +kernel
theorem B150_949_952 : s_dk T150.2.2.1 949 [.bipush 91, .iconst 3] 952 = true := by decide +kernel
theorem D150_952 : decode T150.2.2.1 952 = .ok (.iastore, 1) := by decide +kernel
theorem B150_953_954 : s_dk T150.2.2.1 953 [.aload_n 0] 954 = true := by decide +kernel
theorem D150_954 : decode T150.2.2.1 954 = .ok (.getfield 13, 3) := by decide +kernel
theorem B150_957_960 : s_dk T150.2.2.1 957 [.bipush 92, .iconst 1] 960 = true := by decide +kernel
theorem D150_960 : decode T150.2.2.1 960 = .ok (.iastore, 1) := by decide +kernel
theorem B150_961_962 : s_dk T150.2.2.1 961 [.aload_n 0] 962 = true := by decide +kernel
theorem D150_962 : decode T150.2.2.1 962 = .ok (.getfield 13, 3) := by decide +kernel
theorem B150_965_968 : s_dk T150.2.2.1 965 [.bipush 93, .iconst 1] 968 = true := by decide +kernel
theorem D150_968 : decode T150.2.2.1 968 = .ok (.iastore, 1) := by decide +kernel
theorem B150_969_970 : s_dk T150.2.2.1 969 [.aload_n 0] 970 = true := by decide +kernel
theorem D150_970 : decode T150.2.2.1 970 = .ok (.getfield 13, 3) := by decide +kernel
theorem B150_973_977 : s_dk T150.2.2.1 973 [.bipush 94, .bipush 20] 977 = true := by decide +kernel
theorem D150_977 : decode T150.2.2.1 977 = .ok (.iastore, 1) := by decide +kernel
theorem B150_978_979 : s_dk T150.2.2.1 978 [.aload_n 0] 979 = true := by decide +kernel
theorem D150_979 : decode T150.2.2.1 979 = .ok (.getfield 13, 3) := by decide +kernel
theorem B150_982_986 : s_dk T150.2.2.1 982 [.bipush 95, .bipush 10] 986 = true := by decide +kernel
theorem D150_986 : decode T150.2.2.1 986 = .ok (.iastore, 1) := by decide +kernel
theorem B150_987_988 : s_dk T150.2.2.1 987 [.aload_n 0] 988 = true := by decide +kernel
theorem D150_988 : decode T150.2.2.1 988 = .ok (.getfield 13, 3) := by decide +kernel
theorem B150_991_994 : s_dk T150.2.2.1 991 [.bipush 96, .iconst 4] 994 = true := by decide +kernel
theorem D150_994 : decode T150.2.2.1 994 = .ok (.iastore, 1) := by decide +kernel
theorem B150_995_996 : s_dk T150.2.2.1 995 [.aload_n 0] 996 = true := by decide +kernel
theorem D150_996 : decode T150.2.2.1 996 = .ok (.getfield 13, 3) := by decide +kernel
theorem B150_999_1002 : s_dk T150.2.2.1 999 [.bipush 97, .iconst 2] 1002 = true := by decide +kernel
theorem D150_1002 : decode T150.2.2.1 1002 = .ok (.iastore, 1) := by decide +kernel
theorem B150_1003_1004 : s_dk T150.2.2.1 1003 [.aload_n 0] 1004 = true := by decide +kernel
theorem D150_1004 : decode T150.2.2.1 1004 = .ok (.getfield 13, 3) := by decide +kernel
theorem B150_1007_1010 : s_dk T150.2.2.1 1007 [.bipush 98, .iconst 5] 1010 = true := by decide +kernel
theorem D150_1010 : decode T150.2.2.1 1010 = .ok (.iastore, 1) := by decide +kernel
theorem B150_1011_1013 : s_dk T150.2.2.1 1011 [.iconst 0, .istore_n 1] 1013 = true := by decide +kernel
theorem B150_1013_1017 : s_dk T150.2.2.1 1013 [.iload_n 1, .sipush 1111] 1017 = true := by decide +kernel
theorem D150_1017 : decode T150.2.2.1 1017 = .ok (.if_icmp .ge 122, 3) := by decide +kernel
theorem B150_1020_1022 : s_dk T150.2.2.1 1020 [.iload_n 1, .iconst 1] 1022 = true := by decide +kernel
theorem D150_1022 : decode T150.2.2.1 1022 = .ok (.if_icmp .ge 7, 3) := by decide +kernel
theorem B150_1025_1026 : s_dk T150.2.2.1 1025 [.iconst 0] 1026 = true := by decide +kernel
theorem D150_1026 : decode T150.2.2.1 1026 = .ok (.goto 32, 3) := by decide +kernel
theorem B150_1058_1060 : s_dk T150.2.2.1 1058 [.istore_n 2, .aload_n 0] 1060 = true := by decide +kernel
theorem D150_1060 : decode T150.2.2.1 1060 = .ok (.getfield 24, 3) := by decide +kernel
theorem B150_1063_1066 : s_dk T150.2.2.1 1063 [.iload_n 1, .iload_n 1, .iconst 1] 1066 = true := by decide +kernel
theorem D150_1066 : decode T150.2.2.1 1066 = .ok (.if_icmp .ge 7, 3) := by decide +kernel
theorem B150_1069_1070 : s_dk T150.2.2.1 1069 [.iconst 0] 1070 = true := by decide +kernel
theorem D150_1070 : decode T150.2.2.1 1070 = .ok (.goto 24, 3) := by decide +kernel
theorem D150_1094 : decode T150.2.2.1 1094 = .ok (.iastore, 1) := by decide +kernel
theorem B150_1095_1096 : s_dk T150.2.2.1 1095 [.aload_n 0] 1096 = true := by decide +kernel
theorem D150_1096 : decode T150.2.2.1 1096 = .ok (.getfield 24, 3) := by decide +kernel
theorem B150_1099_1100 : s_dk T150.2.2.1 1099 [.iload_n 1] 1100 = true := by decide +kernel
theorem D150_1100 : decode T150.2.2.1 1100 = .ok (.iaload, 1) := by decide +kernel
theorem B150_1101_1104 : s_dk T150.2.2.1 1101 [.iconst 1, .isub, .istore_n 3] 1104 = true := by decide +kernel
theorem B150_1104_1105 : s_dk T150.2.2.1 1104 [.iload_n 3] 1105 = true := by decide +kernel
theorem D150_1105 : decode T150.2.2.1 1105 = .ok (.ifCond .lt 28, 3) := by decide +kernel
theorem B150_1133_1136 : s_dk T150.2.2.1 1133 [.iinc 1 1] 1136 = true := by decide +kernel
theorem D150_1136 : decode T150.2.2.1 1136 = .ok (.goto (-123), 3) := by decide +kernel
theorem D150_1139 : decode T150.2.2.1 1139 = .ok (.return_, 1) := by decide +kernel
theorem B150_1029_1032 : s_dk T150.2.2.1 1029 [.iload_n 1, .bipush 11] 1032 = true := by decide +kernel
theorem D150_1032 : decode T150.2.2.1 1032 = .ok (.if_icmp .ge 9, 3) := by decide +kernel
theorem B150_1041_1044 : s_dk T150.2.2.1 1041 [.iload_n 1, .bipush 111] 1044 = true := by decide +kernel
theorem D150_1044 : decode T150.2.2.1 1044 = .ok (.if_icmp .ge 10, 3) := by decide +kernel
theorem B150_1054_1060 : s_dk T150.2.2.1 1054 [.iload_n 1, .bipush 111, .isub, .istore_n 2, .aload_n 0] 1060 = true := by decide +kernel
theorem B150_1073_1076 : s_dk T150.2.2.1 1073 [.iload_n 1, .bipush 11] 1076 = true := by decide +kernel
theorem D150_1076 : decode T150.2.2.1 1076 = .ok (.if_icmp .ge 7, 3) := by decide +kernel
theorem B150_1083_1086 : s_dk T150.2.2.1 1083 [.iload_n 1, .bipush 111] 1086 = true := by decide +kernel
theorem D150_1086 : decode T150.2.2.1 1086 = .ok (.if_icmp .ge 7, 3) := by decide +kernel
theorem B150_1093_1094 : s_dk T150.2.2.1 1093 [.iconst 3] 1094 = true := by decide +kernel
theorem B150_1047_1051 : s_dk T150.2.2.1 1047 [.iload_n 1, .bipush 11, .isub] 1051 = true := by decide +kernel
theorem D150_1051 : decode T150.2.2.1 1051 = .ok (.goto 7, 3) := by decide +kernel
theorem B150_1089_1090 : s_dk T150.2.2.1 1089 [.iconst 2] 1090 = true := by decide +kernel
theorem D150_1090 : decode T150.2.2.1 1090 = .ok (.goto 4, 3) := by decide +kernel
theorem B150_1035_1038 : s_dk T150.2.2.1 1035 [.iload_n 1, .iconst 1, .isub] 1038 = true := by decide +kernel
theorem D150_1038 : decode T150.2.2.1 1038 = .ok (.goto 20, 3) := by decide +kernel
theorem B150_1079_1080 : s_dk T150.2.2.1 1079 [.iconst 1] 1080 = true := by decide +kernel
theorem D150_1080 : decode T150.2.2.1 1080 = .ok (.goto 14, 3) := by decide +kernel
theorem B150_1108_1109 : s_dk T150.2.2.1 1108 [.aload_n 0] 1109 = true := by decide +kernel
theorem D150_1109 : decode T150.2.2.1 1109 = .ok (.getfield 27, 3) := by decide +kernel
theorem B150_1112_1120 : s_dk T150.2.2.1 1112 [.iconst 3, .iload_n 1, .imul, .iload_n 3, .iadd, .iload_n 2, .bipush 10] 1120 = true := by decide +kernel
theorem D150_1120 : decode T150.2.2.1 1120 = .ok (.irem, 1) := by decide +kernel
theorem D150_1121 : decode T150.2.2.1 1121 = .ok (.iastore, 1) := by decide +kernel
theorem B150_1122_1125 : s_dk T150.2.2.1 1122 [.iload_n 2, .bipush 10] 1125 = true := by decide +kernel
theorem D150_1125 : decode T150.2.2.1 1125 = .ok (.idiv, 1) := by decide +kernel
theorem B150_1126_1130 : s_dk T150.2.2.1 1126 [.istore_n 2, .iinc 3 (-1)] 1130 = true := by decide +kernel
theorem D150_1130 : decode T150.2.2.1 1130 = .ok (.goto (-26), 3) := by decide +kernel
set_option maxRecDepth 4000 in
theorem L_k150p {base : Nat} {X : Nat → Option mC} {G : Nat → Value} (E : EnvOK base X G) {d : Nat} (hd : 0 ≤ d) {M : mH} (H : HI base M) (h0 : gi M 78 469 = 0) (h1 : gi M 78 471 = 0) (h2 : ∀ j : Int, gi M 78 j = 0) : ∀ mz : Nat, (∀ (x1 : Int) (N : mH), HI base N → Fr [(78, 0), (81, 0), (82, 0)] M N → (gi N 78 469 = 0) → (gi N 78 471 = 0) → (0 ≤ x1 ∧ x1 ≤ 30) → (CK (lpN x1) N) → (0 ≤ x1) → (x1 ≤ 30) → (30 - x1) * 1 + 5560 < (mz : Int) → sRn base X G d T150 905 [(0, vR 77), (1, vI x1)] [] N (s_Q base (pV (fun M' => HI base M' ∧ Fr [(78, 0), (81, 0), (82, 0)] M M' ∧ (TB M') ∧ (gi M' 78 469 = 0) ∧ (gi M' 78 471 = 0) ∧ (KI M'))))) ∧ (∀ (x1 : Int) (N : mH), HI base N → Fr [(78, 0), (81, 0), (82, 0)] M N → (gi N 78 469 = 0) → (gi N 78 471 = 0) → (KI N) → (TBp x1 N) → (0 ≤ x1 ∧ x1 ≤ 1111) → (0 ≤ x1) → (x1 ≤ 1111) → (1111 - x1) * 5 + 4 < (mz : Int) → sRn base X G d T150 1013 [(0, vR 77), (1, vI x1)] [] N (s_Q base (pV (fun M' => HI base M' ∧ Fr [(78, 0), (81, 0), (82, 0)] M M' ∧ (TB M') ∧ (gi M' 78 469 = 0) ∧ (gi M' 78 471 = 0) ∧ (KI M'))))) ∧ (∀ (x1 x2 x3 dn : Int) (N : mH), HI base N → Fr [(78, 0), (81, 0), (82, 0)] M N → (gi N 78 469 = 0) → (gi N 78 471 = 0) → (KI N) → (TBp x1 N) → (0 ≤ x1 ∧ x1 ≤ 1110) → (DW x1 dn x2 x3 N) → (SDk x1 dn) → (gi N 81 x1 = dn) → (-1 ≤ x3 ∧ x3 ≤ dn - 1) → (0 ≤ x2 ∧ x2 ≤ 999) → (0 ≤ dn ∧ dn ≤ 3) → (0 ≤ x1) → (x1 ≤ 1110) → (0 ≤ x2) → (x2 ≤ 999) → ((-1) ≤ x3) → (x3 ≤ 2) → (1111 - x1) * 5 + 0 + (x3 + 1) * 1 + 0 < (mz : Int) → sRn base X G d T150 1104 [(0, vR 77), (1, vI x1), (2, vI x2), (3, vI x3)] [] N (s_Q base (pV (fun M' => HI base M' ∧ Fr [(78, 0), (81, 0), (82, 0)] M M' ∧ (TB M') ∧ (gi M' 78 469 = 0) ∧ (gi M' 78 471 = 0) ∧ (KI M'))))) := by
  have f0 : Fr [(78, 0), (81, 0), (82, 0)] M M := Fr.rf
  intro mz
  induction mz with
  | zero => exact ⟨fun x1 N _ _ z0 z1 z2 z3 z4 z5 z6 => by omega, fun x1 N _ _ z0 z1 z2 z3 z4 z5 z6 z7 => by omega, fun x1 x2 x3 dn N _ _ z0 z1 z2 z3 z4 z5 z6 z7 z8 z9 z10 z11 z12 z13 z14 z15 z16 z17 => by omega⟩
  | succ mz ih =>
    refine ⟨?_, ?_, ?_⟩
    · intro x1 N HN fN i0 i1 i2 i3 i4 i5 hmu
      refine s_blx (lv' := [(0, vR 77), (1, vI x1)]) (st' := [vI 30, vI x1]) B150_905_908 rfl ?_
      refine r_icmp (tgt := 936) (pc' := 911) D150_908 rfl rfl (by unfold inR; omega) (fun (c3 : 30 ≤ x1) => ?_) (fun (c3 : ¬ (30 ≤ x1)) => ?_)
      · refine s_blx (lv' := [(0, vR 77), (1, vI x1)]) (st' := [vR 77]) B150_936_937 rfl ?_
        refine r_gfix (r := 78) (pc' := 940) D150_937 rfl gf_11_13_77 HN.1 ?_
        refine s_blx (lv' := [(0, vR 77), (1, vI x1)]) (st' := [vI 6, vI 90, vR 78]) B150_940_944 rfl ?_
        refine r_iast (pc' := 945) D150_944 rfl sc_78 HN (by omega) (by unfold inR; omega) (by show s_in (rgK _) _; rw [rk_term (by omega)]; show 0 ≤ 6 ∧ 6 ≤ 1000; omega) ?_
        intro M4 u5 H6 p7
        have f8 := fN.wr u5 rfl
        have kd0 := i3.w u5 (by omega) p7
        refine s_blx (lv' := [(0, vR 77), (1, vI x1)]) (st' := [vR 77]) B150_945_946 rfl ?_
        refine r_gfix (r := 78) (pc' := 949) D150_946 rfl gf_11_13_77 H6.1 ?_
        refine s_blx (lv' := [(0, vR 77), (1, vI x1)]) (st' := [vI 3, vI 91, vR 78]) B150_949_952 rfl ?_
        refine r_iast (pc' := 953) D150_952 rfl sc_78 H6 (by omega) (by unfold inR; omega) (by show s_in (rgK _) _; rw [rk_term (by omega)]; show 0 ≤ 3 ∧ 3 ≤ 1000; omega) ?_
        intro M9 u10 H11 p12
        have f13 := f8.wr u10 rfl
        have kd1 := kd0.w u10 (by omega) p12
        refine s_blx (lv' := [(0, vR 77), (1, vI x1)]) (st' := [vR 77]) B150_953_954 rfl ?_
        refine r_gfix (r := 78) (pc' := 957) D150_954 rfl gf_11_13_77 H11.1 ?_
        refine s_blx (lv' := [(0, vR 77), (1, vI x1)]) (st' := [vI 1, vI 92, vR 78]) B150_957_960 rfl ?_
        refine r_iast (pc' := 961) D150_960 rfl sc_78 H11 (by omega) (by unfold inR; omega) (by show s_in (rgK _) _; rw [rk_term (by omega)]; show 0 ≤ 1 ∧ 1 ≤ 1000; omega) ?_
        intro M14 u15 H16 p17
        have f18 := f13.wr u15 rfl
        have kd2 := kd1.w u15 (by omega) p17
        refine s_blx (lv' := [(0, vR 77), (1, vI x1)]) (st' := [vR 77]) B150_961_962 rfl ?_
        refine r_gfix (r := 78) (pc' := 965) D150_962 rfl gf_11_13_77 H16.1 ?_
        refine s_blx (lv' := [(0, vR 77), (1, vI x1)]) (st' := [vI 1, vI 93, vR 78]) B150_965_968 rfl ?_
        refine r_iast (pc' := 969) D150_968 rfl sc_78 H16 (by omega) (by unfold inR; omega) (by show s_in (rgK _) _; rw [rk_term (by omega)]; show 0 ≤ 1 ∧ 1 ≤ 1000; omega) ?_
        intro M19 u20 H21 p22
        have f23 := f18.wr u20 rfl
        have kd3 := kd2.w u20 (by omega) p22
        refine s_blx (lv' := [(0, vR 77), (1, vI x1)]) (st' := [vR 77]) B150_969_970 rfl ?_
        refine r_gfix (r := 78) (pc' := 973) D150_970 rfl gf_11_13_77 H21.1 ?_
        refine s_blx (lv' := [(0, vR 77), (1, vI x1)]) (st' := [vI 20, vI 94, vR 78]) B150_973_977 rfl ?_
        refine r_iast (pc' := 978) D150_977 rfl sc_78 H21 (by omega) (by unfold inR; omega) (by show s_in (rgK _) _; rw [rk_term (by omega)]; show 0 ≤ 20 ∧ 20 ≤ 1000; omega) ?_
        intro M24 u25 H26 p27
        have f28 := f23.wr u25 rfl
        have kd4 := kd3.w u25 (by omega) p27
        refine s_blx (lv' := [(0, vR 77), (1, vI x1)]) (st' := [vR 77]) B150_978_979 rfl ?_
        refine r_gfix (r := 78) (pc' := 982) D150_979 rfl gf_11_13_77 H26.1 ?_
        refine s_blx (lv' := [(0, vR 77), (1, vI x1)]) (st' := [vI 10, vI 95, vR 78]) B150_982_986 rfl ?_
        refine r_iast (pc' := 987) D150_986 rfl sc_78 H26 (by omega) (by unfold inR; omega) (by show s_in (rgK _) _; rw [rk_term (by omega)]; show 0 ≤ 10 ∧ 10 ≤ 1000; omega) ?_
        intro M29 u30 H31 p32
        have f33 := f28.wr u30 rfl
        have kd5 := kd4.w u30 (by omega) p32
        refine s_blx (lv' := [(0, vR 77), (1, vI x1)]) (st' := [vR 77]) B150_987_988 rfl ?_
        refine r_gfix (r := 78) (pc' := 991) D150_988 rfl gf_11_13_77 H31.1 ?_
        refine s_blx (lv' := [(0, vR 77), (1, vI x1)]) (st' := [vI 4, vI 96, vR 78]) B150_991_994 rfl ?_
        refine r_iast (pc' := 995) D150_994 rfl sc_78 H31 (by omega) (by unfold inR; omega) (by show s_in (rgK _) _; rw [rk_term (by omega)]; show 0 ≤ 4 ∧ 4 ≤ 1000; omega) ?_
        intro M34 u35 H36 p37
        have f38 := f33.wr u35 rfl
        have kd6 := kd5.w u35 (by omega) p37
        refine s_blx (lv' := [(0, vR 77), (1, vI x1)]) (st' := [vR 77]) B150_995_996 rfl ?_
        refine r_gfix (r := 78) (pc' := 999) D150_996 rfl gf_11_13_77 H36.1 ?_
        refine s_blx (lv' := [(0, vR 77), (1, vI x1)]) (st' := [vI 2, vI 97, vR 78]) B150_999_1002 rfl ?_
        refine r_iast (pc' := 1003) D150_1002 rfl sc_78 H36 (by omega) (by unfold inR; omega) (by show s_in (rgK _) _; rw [rk_term (by omega)]; show 0 ≤ 2 ∧ 2 ≤ 1000; omega) ?_
        intro M39 u40 H41 p42
        have f43 := f38.wr u40 rfl
        have kd7 := kd6.w u40 (by omega) p42
        refine s_blx (lv' := [(0, vR 77), (1, vI x1)]) (st' := [vR 77]) B150_1003_1004 rfl ?_
        refine r_gfix (r := 78) (pc' := 1007) D150_1004 rfl gf_11_13_77 H41.1 ?_
        refine s_blx (lv' := [(0, vR 77), (1, vI x1)]) (st' := [vI 5, vI 98, vR 78]) B150_1007_1010 rfl ?_
        refine r_iast (pc' := 1011) D150_1010 rfl sc_78 H41 (by omega) (by unfold inR; omega) (by show s_in (rgK _) _; rw [rk_term (by omega)]; show 0 ≤ 5 ∧ 5 ≤ 1000; omega) ?_
        intro M44 u45 H46 p47
        have f48 := f43.wr u45 rfl
        have kd8 := kd7.w u45 (by omega) p47
        have kci := CK.fin (show x1 = 30 by omega) kd8
        refine s_blx (lv' := [(1, vI 0), (0, vR 77)]) (st' := []) B150_1011_1013 rfl ?_
        refine r_loc (lv' := [(0, vR 77), (1, vI 0)]) ⟨rfl, rfl, trivial⟩ rfl rfl ?_
        have g49 : gi M44 78 469 = gi N 78 469 := (u45.gi_ne (by decide) (Or.inr (by decide))).trans ((u40.gi_ne (by decide) (Or.inr (by decide))).trans ((u35.gi_ne (by decide) (Or.inr (by decide))).trans ((u30.gi_ne (by decide) (Or.inr (by decide))).trans ((u25.gi_ne (by decide) (Or.inr (by decide))).trans ((u20.gi_ne (by decide) (Or.inr (by decide))).trans ((u15.gi_ne (by decide) (Or.inr (by decide))).trans ((u10.gi_ne (by decide) (Or.inr (by decide))).trans ((u5.gi_ne (by decide) (Or.inr (by decide))).trans (rfl)))))))))
        have g50 : gi M44 78 471 = gi N 78 471 := (u45.gi_ne (by decide) (Or.inr (by decide))).trans ((u40.gi_ne (by decide) (Or.inr (by decide))).trans ((u35.gi_ne (by decide) (Or.inr (by decide))).trans ((u30.gi_ne (by decide) (Or.inr (by decide))).trans ((u25.gi_ne (by decide) (Or.inr (by decide))).trans ((u20.gi_ne (by decide) (Or.inr (by decide))).trans ((u15.gi_ne (by decide) (Or.inr (by decide))).trans ((u10.gi_ne (by decide) (Or.inr (by decide))).trans ((u5.gi_ne (by decide) (Or.inr (by decide))).trans (rfl)))))))))
        exact ih.2.1 0 M44 H46 f48 (by omega) (by omega) (kci) (TBp.zero) (by omega) (by omega) (by omega) (by omega)
      · refine s_blx (lv' := [(0, vR 77), (1, vI x1)]) (st' := [vR 77]) B150_911_912 rfl ?_
        refine r_gfix (r := 78) (pc' := 915) D150_912 rfl gf_11_13_77 HN.1 ?_
        refine s_blx (lv' := [(0, vR 77), (1, vI x1)]) (st' := [vI 1, vI (0 + x1), vR 78]) B150_915_919 rfl ?_
        refine r_iast (pc' := 920) D150_919 rfl sc_78 HN (by omega) (by unfold inR; omega) (by show s_in (rgK _) _; rw [rk_load (by omega)]; show 0 ≤ 1 ∧ 1 ≤ 9; omega) ?_
        intro M51 u52 H53 p54
        have f55 := fN.wr u52 rfl
        have kc1 := i3.w u52 (by omega) p54
        refine s_blx (lv' := [(0, vR 77), (1, vI x1)]) (st' := [vR 77]) B150_920_921 rfl ?_
        refine r_gfix (r := 78) (pc' := 924) D150_921 rfl gf_11_13_77 H53.1 ?_
        refine s_blx (lv' := [(0, vR 77), (1, vI x1)]) (st' := [vI 5, vI (30 + x1), vR 78]) B150_924_929 rfl ?_
        refine r_iast (pc' := 930) D150_929 rfl sc_78 H53 (by omega) (by unfold inR; omega) (by show s_in (rgK _) _; rw [rk_look (by omega)]; show 0 ≤ 5 ∧ 5 ≤ 60; omega) ?_
        intro M56 u57 H58 p59
        have f60 := f55.wr u57 rfl
        have kc2 := (kc1.w u57 (by omega) p59).ext (lp_step (by omega))
        refine s_blx (lv' := [(1, vI (x1 + 1)), (0, vR 77)]) (st' := []) B150_930_933 rfl ?_
        refine r_goto (tgt := 905) D150_933 rfl ?_
        refine r_loc (lv' := [(0, vR 77), (1, vI (x1 + 1))]) ⟨rfl, rfl, trivial⟩ rfl rfl ?_
        have g61 : gi M56 78 469 = gi N 78 469 := (u57.gi_ne (by omega) (Or.inr (by omega))).trans ((u52.gi_ne (by omega) (Or.inr (by omega))).trans (rfl))
        have g62 : gi M56 78 471 = gi N 78 471 := (u57.gi_ne (by omega) (Or.inr (by omega))).trans ((u52.gi_ne (by omega) (Or.inr (by omega))).trans (rfl))
        exact ih.1 (x1 + 1) M56 H58 f60 (by omega) (by omega) (by omega) (kc2) (by omega) (by omega) (by omega)
    · intro x1 N HN fN i0 i1 i2 i3 i4 i5 i6 hmu
      refine s_blx (lv' := [(0, vR 77), (1, vI x1)]) (st' := [vI 1111, vI x1]) B150_1013_1017 rfl ?_
      refine r_icmp (tgt := 1139) (pc' := 1020) D150_1017 rfl rfl (by unfold inR; omega) (fun (c63 : 1111 ≤ x1) => ?_) (fun (c63 : ¬ (1111 ≤ x1)) => ?_)
      · exact r_retV D150_1139 rfl (⟨HN, fN, TBp.tb (by rw [show (1111 : Int) = x1 by omega]; exact i3), by omega, by omega, i2⟩)
      · refine s_blx (lv' := [(0, vR 77), (1, vI x1)]) (st' := [vI 1, vI x1]) B150_1020_1022 rfl ?_
        refine r_icmp (tgt := 1029) (pc' := 1025) D150_1022 rfl rfl (by unfold inR; omega) (fun (c64 : 1 ≤ x1) => ?_) (fun (c64 : ¬ (1 ≤ x1)) => ?_)
        · refine s_blx (lv' := [(0, vR 77), (1, vI x1)]) (st' := [vI 11, vI x1]) B150_1029_1032 rfl ?_
          refine r_icmp (tgt := 1041) (pc' := 1035) D150_1032 rfl rfl (by unfold inR; omega) (fun (c65 : 11 ≤ x1) => ?_) (fun (c65 : ¬ (11 ≤ x1)) => ?_)
          · refine s_blx (lv' := [(0, vR 77), (1, vI x1)]) (st' := [vI 111, vI x1]) B150_1041_1044 rfl ?_
            refine r_icmp (tgt := 1054) (pc' := 1047) D150_1044 rfl rfl (by unfold inR; omega) (fun (c66 : 111 ≤ x1) => ?_) (fun (c66 : ¬ (111 ≤ x1)) => ?_)
            · refine s_blx (lv' := [(2, vI (x1 - 111)), (0, vR 77), (1, vI x1)]) (st' := [vR 77]) B150_1054_1060 rfl ?_
              refine r_gfix (r := 81) (pc' := 1063) D150_1060 rfl gf_11_24_77 HN.1 ?_
              refine s_blx (lv' := [(2, vI (x1 - 111)), (0, vR 77), (1, vI x1)]) (st' := [vI 1, vI x1, vI x1, vR 81]) B150_1063_1066 rfl ?_
              refine r_icmp (tgt := 1073) (pc' := 1069) D150_1066 rfl rfl (by unfold inR; omega) (fun (c67 : 1 ≤ x1) => ?_) (fun (c67 : ¬ (1 ≤ x1)) => ?_)
              · refine s_blx (lv' := [(2, vI (x1 - 111)), (0, vR 77), (1, vI x1)]) (st' := [vI 11, vI x1, vI x1, vR 81]) B150_1073_1076 rfl ?_
                refine r_icmp (tgt := 1083) (pc' := 1079) D150_1076 rfl rfl (by unfold inR; omega) (fun (c68 : 11 ≤ x1) => ?_) (fun (c68 : ¬ (11 ≤ x1)) => ?_)
                · refine s_blx (lv' := [(2, vI (x1 - 111)), (0, vR 77), (1, vI x1)]) (st' := [vI 111, vI x1, vI x1, vR 81]) B150_1083_1086 rfl ?_
                  refine r_icmp (tgt := 1093) (pc' := 1089) D150_1086 rfl rfl (by unfold inR; omega) (fun (c69 : 111 ≤ x1) => ?_) (fun (c69 : ¬ (111 ≤ x1)) => ?_)
                  · refine s_blx (lv' := [(2, vI (x1 - 111)), (0, vR 77), (1, vI x1)]) (st' := [vI 3, vI x1, vR 81]) B150_1093_1094 rfl ?_
                    refine r_iast (pc' := 1095) D150_1094 rfl sc_81 HN (by omega) (by unfold inR; omega) (show 0 ≤ 3 ∧ 3 ≤ 3 by omega) ?_
                    intro M70 u71 H72 p73
                    have f74 := fN.wr u71 rfl
                    have hp75 := i2.wr u71 (by decide)
                    have ktb := i3.w81 u71 (by omega)
                    have kp81 := p73
                    refine s_blx (lv' := [(2, vI (x1 - 111)), (0, vR 77), (1, vI x1)]) (st' := [vR 77]) B150_1095_1096 rfl ?_
                    refine r_gfix (r := 81) (pc' := 1099) D150_1096 rfl gf_11_24_77 H72.1 ?_
                    refine s_blx (lv' := [(2, vI (x1 - 111)), (0, vR 77), (1, vI x1)]) (st' := [vI x1, vR 81]) B150_1099_1100 rfl ?_
                    refine r_iald (pc' := 1101) D150_1100 rfl sc_81 H72.1 (by omega) ?_
                    intro w76 e77 r78
                    have e79 : 3 = w76 := (e77.trans (p73)).symm
                    subst e79
                    have kdn : SDk x1 3 := by unfold SDk; omega
                    have kdw : DW x1 3 (x1 - 111) (3 - 1) M70 := DW.init kdn (by omega) (by omega) (by omega) (by omega)
                    refine s_blx (lv' := [(3, vI (3 - 1)), (2, vI (x1 - 111)), (0, vR 77), (1, vI x1)]) (st' := []) B150_1101_1104 rfl ?_
                    refine r_loc (lv' := [(0, vR 77), (1, vI x1), (2, vI (x1 - 111)), (3, vI (3 - 1))]) ⟨rfl, rfl, rfl, rfl, trivial⟩ rfl rfl ?_
                    have g80 : gi M70 78 469 = gi N 78 469 := (u71.gi_ne (by omega) (Or.inl (by decide))).trans (rfl)
                    have g81 : gi M70 78 471 = gi N 78 471 := (u71.gi_ne (by omega) (Or.inl (by decide))).trans (rfl)
                    have g82 : gi M70 81 x1 = 3 := p73
                    exact ih.2.2 x1 (x1 - 111) (3 - 1) 3 M70 H72 f74 (by omega) (by omega) (hp75) (ktb) (by omega) (kdw) (kdn) (by omega) (by omega) (by omega) (by omega) (by omega) (by omega) (by omega) (by omega) (by omega) (by omega) (by omega)
                  · exfalso; omega
                · exfalso; omega
              · exfalso; omega
            · refine s_blx (lv' := [(0, vR 77), (1, vI x1)]) (st' := [vI (x1 - 11)]) B150_1047_1051 rfl ?_
              refine r_goto (tgt := 1058) D150_1051 rfl ?_
              refine s_blx (lv' := [(2, vI (x1 - 11)), (0, vR 77), (1, vI x1)]) (st' := [vR 77]) B150_1058_1060 rfl ?_
              refine r_gfix (r := 81) (pc' := 1063) D150_1060 rfl gf_11_24_77 HN.1 ?_
              refine s_blx (lv' := [(2, vI (x1 - 11)), (0, vR 77), (1, vI x1)]) (st' := [vI 1, vI x1, vI x1, vR 81]) B150_1063_1066 rfl ?_
              refine r_icmp (tgt := 1073) (pc' := 1069) D150_1066 rfl rfl (by unfold inR; omega) (fun (c83 : 1 ≤ x1) => ?_) (fun (c83 : ¬ (1 ≤ x1)) => ?_)
              · refine s_blx (lv' := [(2, vI (x1 - 11)), (0, vR 77), (1, vI x1)]) (st' := [vI 11, vI x1, vI x1, vR 81]) B150_1073_1076 rfl ?_
                refine r_icmp (tgt := 1083) (pc' := 1079) D150_1076 rfl rfl (by unfold inR; omega) (fun (c84 : 11 ≤ x1) => ?_) (fun (c84 : ¬ (11 ≤ x1)) => ?_)
                · refine s_blx (lv' := [(2, vI (x1 - 11)), (0, vR 77), (1, vI x1)]) (st' := [vI 111, vI x1, vI x1, vR 81]) B150_1083_1086 rfl ?_
                  refine r_icmp (tgt := 1093) (pc' := 1089) D150_1086 rfl rfl (by unfold inR; omega) (fun (c85 : 111 ≤ x1) => ?_) (fun (c85 : ¬ (111 ≤ x1)) => ?_)
                  · exfalso; omega
                  · refine s_blx (lv' := [(2, vI (x1 - 11)), (0, vR 77), (1, vI x1)]) (st' := [vI 2, vI x1, vR 81]) B150_1089_1090 rfl ?_
                    refine r_goto (tgt := 1094) D150_1090 rfl ?_
                    refine r_iast (pc' := 1095) D150_1094 rfl sc_81 HN (by omega) (by unfold inR; omega) (show 0 ≤ 2 ∧ 2 ≤ 3 by omega) ?_
                    intro M86 u87 H88 p89
                    have f90 := fN.wr u87 rfl
                    have hp91 := i2.wr u87 (by decide)
                    have ktb := i3.w81 u87 (by omega)
                    have kp81 := p89
                    refine s_blx (lv' := [(2, vI (x1 - 11)), (0, vR 77), (1, vI x1)]) (st' := [vR 77]) B150_1095_1096 rfl ?_
                    refine r_gfix (r := 81) (pc' := 1099) D150_1096 rfl gf_11_24_77 H88.1 ?_
                    refine s_blx (lv' := [(2, vI (x1 - 11)), (0, vR 77), (1, vI x1)]) (st' := [vI x1, vR 81]) B150_1099_1100 rfl ?_
                    refine r_iald (pc' := 1101) D150_1100 rfl sc_81 H88.1 (by omega) ?_
                    intro w92 e93 r94
                    have e95 : 2 = w92 := (e93.trans (p89)).symm
                    subst e95
                    have kdn : SDk x1 2 := by unfold SDk; omega
                    have kdw : DW x1 2 (x1 - 11) (2 - 1) M86 := DW.init kdn (by omega) (by omega) (by omega) (by omega)
                    refine s_blx (lv' := [(3, vI (2 - 1)), (2, vI (x1 - 11)), (0, vR 77), (1, vI x1)]) (st' := []) B150_1101_1104 rfl ?_
                    refine r_loc (lv' := [(0, vR 77), (1, vI x1), (2, vI (x1 - 11)), (3, vI (2 - 1))]) ⟨rfl, rfl, rfl, rfl, trivial⟩ rfl rfl ?_
                    have g96 : gi M86 78 469 = gi N 78 469 := (u87.gi_ne (by omega) (Or.inl (by decide))).trans (rfl)
                    have g97 : gi M86 78 471 = gi N 78 471 := (u87.gi_ne (by omega) (Or.inl (by decide))).trans (rfl)
                    have g98 : gi M86 81 x1 = 2 := p89
                    exact ih.2.2 x1 (x1 - 11) (2 - 1) 2 M86 H88 f90 (by omega) (by omega) (hp91) (ktb) (by omega) (kdw) (kdn) (by omega) (by omega) (by omega) (by omega) (by omega) (by omega) (by omega) (by omega) (by omega) (by omega) (by omega)
                · exfalso; omega
              · exfalso; omega
          · refine s_blx (lv' := [(0, vR 77), (1, vI x1)]) (st' := [vI (x1 - 1)]) B150_1035_1038 rfl ?_
            refine r_goto (tgt := 1058) D150_1038 rfl ?_
            refine s_blx (lv' := [(2, vI (x1 - 1)), (0, vR 77), (1, vI x1)]) (st' := [vR 77]) B150_1058_1060 rfl ?_
            refine r_gfix (r := 81) (pc' := 1063) D150_1060 rfl gf_11_24_77 HN.1 ?_
            refine s_blx (lv' := [(2, vI (x1 - 1)), (0, vR 77), (1, vI x1)]) (st' := [vI 1, vI x1, vI x1, vR 81]) B150_1063_1066 rfl ?_
            refine r_icmp (tgt := 1073) (pc' := 1069) D150_1066 rfl rfl (by unfold inR; omega) (fun (c99 : 1 ≤ x1) => ?_) (fun (c99 : ¬ (1 ≤ x1)) => ?_)
            · refine s_blx (lv' := [(2, vI (x1 - 1)), (0, vR 77), (1, vI x1)]) (st' := [vI 11, vI x1, vI x1, vR 81]) B150_1073_1076 rfl ?_
              refine r_icmp (tgt := 1083) (pc' := 1079) D150_1076 rfl rfl (by unfold inR; omega) (fun (c100 : 11 ≤ x1) => ?_) (fun (c100 : ¬ (11 ≤ x1)) => ?_)
              · exfalso; omega
              · refine s_blx (lv' := [(2, vI (x1 - 1)), (0, vR 77), (1, vI x1)]) (st' := [vI 1, vI x1, vR 81]) B150_1079_1080 rfl ?_
                refine r_goto (tgt := 1094) D150_1080 rfl ?_
                refine r_iast (pc' := 1095) D150_1094 rfl sc_81 HN (by omega) (by unfold inR; omega) (show 0 ≤ 1 ∧ 1 ≤ 3 by omega) ?_
                intro M101 u102 H103 p104
                have f105 := fN.wr u102 rfl
                have hp106 := i2.wr u102 (by decide)
                have ktb := i3.w81 u102 (by omega)
                have kp81 := p104
                refine s_blx (lv' := [(2, vI (x1 - 1)), (0, vR 77), (1, vI x1)]) (st' := [vR 77]) B150_1095_1096 rfl ?_
                refine r_gfix (r := 81) (pc' := 1099) D150_1096 rfl gf_11_24_77 H103.1 ?_
                refine s_blx (lv' := [(2, vI (x1 - 1)), (0, vR 77), (1, vI x1)]) (st' := [vI x1, vR 81]) B150_1099_1100 rfl ?_
                refine r_iald (pc' := 1101) D150_1100 rfl sc_81 H103.1 (by omega) ?_
                intro w107 e108 r109
                have e110 : 1 = w107 := (e108.trans (p104)).symm
                subst e110
                have kdn : SDk x1 1 := by unfold SDk; omega
                have kdw : DW x1 1 (x1 - 1) (1 - 1) M101 := DW.init kdn (by omega) (by omega) (by omega) (by omega)
                refine s_blx (lv' := [(3, vI (1 - 1)), (2, vI (x1 - 1)), (0, vR 77), (1, vI x1)]) (st' := []) B150_1101_1104 rfl ?_
                refine r_loc (lv' := [(0, vR 77), (1, vI x1), (2, vI (x1 - 1)), (3, vI (1 - 1))]) ⟨rfl, rfl, rfl, rfl, trivial⟩ rfl rfl ?_
                have g111 : gi M101 78 469 = gi N 78 469 := (u102.gi_ne (by omega) (Or.inl (by decide))).trans (rfl)
                have g112 : gi M101 78 471 = gi N 78 471 := (u102.gi_ne (by omega) (Or.inl (by decide))).trans (rfl)
                have g113 : gi M101 81 x1 = 1 := p104
                exact ih.2.2 x1 (x1 - 1) (1 - 1) 1 M101 H103 f105 (by omega) (by omega) (hp106) (ktb) (by omega) (kdw) (kdn) (by omega) (by omega) (by omega) (by omega) (by omega) (by omega) (by omega) (by omega) (by omega) (by omega) (by omega)
            · exfalso; omega
        · refine s_blx (lv' := [(0, vR 77), (1, vI x1)]) (st' := [vI 0]) B150_1025_1026 rfl ?_
          refine r_goto (tgt := 1058) D150_1026 rfl ?_
          refine s_blx (lv' := [(2, vI 0), (0, vR 77), (1, vI x1)]) (st' := [vR 77]) B150_1058_1060 rfl ?_
          refine r_gfix (r := 81) (pc' := 1063) D150_1060 rfl gf_11_24_77 HN.1 ?_
          refine s_blx (lv' := [(2, vI 0), (0, vR 77), (1, vI x1)]) (st' := [vI 1, vI x1, vI x1, vR 81]) B150_1063_1066 rfl ?_
          refine r_icmp (tgt := 1073) (pc' := 1069) D150_1066 rfl rfl (by unfold inR; omega) (fun (c114 : 1 ≤ x1) => ?_) (fun (c114 : ¬ (1 ≤ x1)) => ?_)
          · exfalso; omega
          · refine s_blx (lv' := [(2, vI 0), (0, vR 77), (1, vI x1)]) (st' := [vI 0, vI x1, vR 81]) B150_1069_1070 rfl ?_
            refine r_goto (tgt := 1094) D150_1070 rfl ?_
            refine r_iast (pc' := 1095) D150_1094 rfl sc_81 HN (by omega) (by unfold inR; omega) (show 0 ≤ 0 ∧ 0 ≤ 3 by omega) ?_
            intro M115 u116 H117 p118
            have f119 := fN.wr u116 rfl
            have hp120 := i2.wr u116 (by decide)
            have ktb := i3.w81 u116 (by omega)
            have kp81 := p118
            refine s_blx (lv' := [(2, vI 0), (0, vR 77), (1, vI x1)]) (st' := [vR 77]) B150_1095_1096 rfl ?_
            refine r_gfix (r := 81) (pc' := 1099) D150_1096 rfl gf_11_24_77 H117.1 ?_
            refine s_blx (lv' := [(2, vI 0), (0, vR 77), (1, vI x1)]) (st' := [vI x1, vR 81]) B150_1099_1100 rfl ?_
            refine r_iald (pc' := 1101) D150_1100 rfl sc_81 H117.1 (by omega) ?_
            intro w121 e122 r123
            have e124 : 0 = w121 := (e122.trans (p118)).symm
            subst e124
            have kdn : SDk x1 0 := by unfold SDk; omega
            have kdw : DW x1 0 0 (0 - 1) M115 := DW.init kdn (by omega) (by omega) (by omega) (by omega)
            refine s_blx (lv' := [(3, vI (0 - 1)), (2, vI 0), (0, vR 77), (1, vI x1)]) (st' := []) B150_1101_1104 rfl ?_
            refine r_loc (lv' := [(0, vR 77), (1, vI x1), (2, vI 0), (3, vI (0 - 1))]) ⟨rfl, rfl, rfl, rfl, trivial⟩ rfl rfl ?_
            have g125 : gi M115 78 469 = gi N 78 469 := (u116.gi_ne (by omega) (Or.inl (by decide))).trans (rfl)
            have g126 : gi M115 78 471 = gi N 78 471 := (u116.gi_ne (by omega) (Or.inl (by decide))).trans (rfl)
            have g127 : gi M115 81 x1 = 0 := p118
            exact ih.2.2 x1 0 (0 - 1) 0 M115 H117 f119 (by omega) (by omega) (hp120) (ktb) (by omega) (kdw) (kdn) (by omega) (by omega) (by omega) (by omega) (by omega) (by omega) (by omega) (by omega) (by omega) (by omega) (by omega)
    · intro x1 x2 x3 dn N HN fN i0 i1 i2 i3 i4 i5 i6 i7 i8 i9 i10 i11 i12 i13 i14 i15 i16 hmu
      refine s_blx (lv' := [(0, vR 77), (1, vI x1), (2, vI x2), (3, vI x3)]) (st' := [vI x3]) B150_1104_1105 rfl ?_
      refine r_ifc (tgt := 1133) (pc' := 1108) D150_1105 rfl rfl (by unfold inR; omega) (fun (c128 : x3 < 0) => ?_) (fun (c128 : ¬ (x3 < 0)) => ?_)
      · refine s_blx (lv' := [(1, vI (x1 + 1)), (0, vR 77), (2, vI x2), (3, vI x3)]) (st' := []) B150_1133_1136 rfl ?_
        have ktn := i3.next (i5.fin (by omega) i6 i7)
        refine r_goto (tgt := 1013) D150_1136 rfl ?_
        refine r_loc (lv' := [(0, vR 77), (1, vI (x1 + 1))]) ⟨rfl, rfl, trivial⟩ rfl rfl ?_
        exact ih.2.1 (x1 + 1) N HN fN (by omega) (by omega) (i2) (ktn) (by omega) (by omega) (by omega) (by omega)
      · refine s_blx (lv' := [(0, vR 77), (1, vI x1), (2, vI x2), (3, vI x3)]) (st' := [vR 77]) B150_1108_1109 rfl ?_
        refine r_gfix (r := 82) (pc' := 1112) D150_1109 rfl gf_11_27_77 HN.1 ?_
        refine s_blx (lv' := [(0, vR 77), (1, vI x1), (2, vI x2), (3, vI x3)]) (st' := [vI 10, vI x2, vI ((3 * x1) + x3), vR 82]) B150_1112_1120 rfl ?_
        refine r_irem (pc' := 1121) D150_1120 rfl (by omega) ?_
        refine r_iast (pc' := 1122) D150_1121 rfl sc_82 HN (by omega) (by unfold inR; omega) (show 0 ≤ (x2 % 10) ∧ (x2 % 10) ≤ 9 by omega) ?_
        intro M129 u130 H131 p132
        have f133 := fN.wr u130 rfl
        have hp134 := i2.wr u130 (by decide)
        have ktb := i3.w82 u130 (by omega)
        have kdw := i5.step u130 p132 i6 (by omega)
        have kdw2 : DW x1 dn (x2 / 10) (x3 + (-1)) M129 := kdw
        refine s_blx (lv' := [(0, vR 77), (1, vI x1), (2, vI x2), (3, vI x3)]) (st' := [vI 10, vI x2]) B150_1122_1125 rfl ?_
        refine r_idiv (pc' := 1126) D150_1125 rfl (by omega) ?_
        refine s_blx (lv' := [(3, vI (x3 + (-1))), (2, vI (x2 / 10)), (0, vR 77), (1, vI x1)]) (st' := []) B150_1126_1130 rfl ?_
        refine r_goto (tgt := 1104) D150_1130 rfl ?_
        refine r_loc (lv' := [(0, vR 77), (1, vI x1), (2, vI (x2 / 10)), (3, vI (x3 + (-1)))]) ⟨rfl, rfl, rfl, rfl, trivial⟩ rfl rfl ?_
        have g135 : gi M129 78 469 = gi N 78 469 := (u130.gi_ne (by omega) (Or.inl (by decide))).trans (rfl)
        have g136 : gi M129 78 471 = gi N 78 471 := (u130.gi_ne (by omega) (Or.inl (by decide))).trans (rfl)
        have g137 : gi M129 81 x1 = gi N 81 x1 := (u130.gi_ne (by omega) (Or.inl (by decide))).trans (rfl)
        exact ih.2.2 x1 (x2 / 10) (x3 + (-1)) dn M129 H131 f133 (by omega) (by omega) (hp134) (ktb) (by omega) (kdw2) (i6) (by omega) (by omega) (by omega) (by omega) (by omega) (by omega) (by omega) (by omega) (by omega) (by omega) (by omega)
set_option maxRecDepth 4000 in
theorem k150p {base : Nat} {X : Nat → Option mC} {G : Nat → Value} (E : EnvOK base X G) {d : Nat} (hd : 0 ≤ d) {M : mH} (H : HI base M) (h0 : gi M 78 469 = 0) (h1 : gi M 78 471 = 0) (h2 : ∀ j : Int, gi M 78 j = 0) : sRn base X G d T150 903 [(0, vR 77)] [] M (s_Q base (pV (fun M' => HI base M' ∧ Fr [(78, 0), (81, 0), (82, 0)] M M' ∧ (TB M') ∧ (gi M' 78 469 = 0) ∧ (gi M' 78 471 = 0) ∧ (KI M')))) := by
  have f0 : Fr [(78, 0), (81, 0), (82, 0)] M M := Fr.rf
  refine s_blx (lv' := [(1, vI 0), (0, vR 77)]) (st' := []) B150_903_905 rfl ?_
  refine r_loc (lv' := [(0, vR 77), (1, vI 0)]) ⟨rfl, rfl, trivial⟩ rfl rfl ?_
  have g1 : gi M 78 469 = gi M 78 469 := rfl
  have g2 : gi M 78 471 = gi M 78 471 := rfl
  exact (L_k150p E hd H h0 h1 h2 (((30 - 0) * 1 + 5560 : Int) + 1).toNat).1 0 M H f0 (by omega) (by omega) (by omega) ((CK.zero h2)) (by omega) (by omega) (by omega)
