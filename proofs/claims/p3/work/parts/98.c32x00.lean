/-! The reference's tables of what was said. -/
def TBq (s : Int) (M : mH) : Prop := (s = 0 → gi M 81 0 = 0) ∧ (1 ≤ s → s ≤ 10 → gi M 81 s = 1 ∧ gi M 82 (3 * s) = s - 1) ∧ (11 ≤ s → s ≤ 110 → gi M 81 s = 2 ∧ gi M 82 (3 * s) = (s - 11) / 10 ∧ gi M 82 (3 * s + 1) = (s - 11) % 10) ∧ (111 ≤ s → s ≤ 1110 → gi M 81 s = 3 ∧ gi M 82 (3 * s) = (s - 111) / 100 ∧ gi M 82 (3 * s + 1) = (s - 111) / 10 % 10 ∧ gi M 82 (3 * s + 2) = (s - 111) % 10)
def TBp (n : Int) (M : mH) : Prop := ∀ s : Int, 0 ≤ s → s < n → TBq s M
theorem TBp.tb {M : mH} (h : TBp 1111 M) : TB M := ⟨(h 0 (by decide) (by decide)).1 rfl, fun s a b => (h s (by omega) (by omega)).2.1 a b, fun s a b => (h s (by omega) (by omega)).2.2.1 a b, fun s a b => (h s (by omega) (by omega)).2.2.2 a b⟩
theorem TBq.of {s : Int} {M M' : mH} (h : TBq s M) (e1 : gi M' 81 s = gi M 81 s) (e2 : ∀ j : Int, 3 * s ≤ j → j ≤ 3 * s + 2 → gi M' 82 j = gi M 82 j) : TBq s M' := by
  obtain ⟨a, b, c, d⟩ := h
  refine ⟨fun q => ?_, fun p q => ?_, fun p q => ?_, fun p q => ?_⟩
  · subst q; rw [e1]; exact a rfl
  · rw [e1, e2 _ (by omega) (by omega)]; exact b p q
  · rw [e1, e2 _ (by omega) (by omega), e2 _ (by omega) (by omega)]; exact c p q
  · rw [e1, e2 _ (by omega) (by omega), e2 _ (by omega) (by omega), e2 _ (by omega) (by omega)]; exact d p q
theorem TBp.wr {n : Int} {M M' : mH} {c i : Nat} {v : Value} (h : TBp n M) (u : Wr M c i v M') (hc : c ≠ 81 ∧ c ≠ 82) : TBp n M' := fun s a b => (h s a b).of (by unfold gi; rw [u.ne (Or.inl (Ne.symm hc.1))]) (fun j _ _ => by unfold gi; rw [u.ne (Or.inl (Ne.symm hc.2))])
theorem TBp.w81 {n : Int} {M M' : mH} {v : Value} (h : TBp n M) (u : Wr M 81 n.toNat v M') (h0 : 0 ≤ n) : TBp n M' := fun s a b => (h s a b).of (u.gi_ne h0 (Or.inr (by omega))) (fun j _ _ => u.gi_ne h0 (Or.inl (by decide)))
theorem TBp.w82 {n r : Int} {M M' : mH} {v : Value} (h : TBp n M) (u : Wr M 82 (3 * n + r).toNat v M') (h0 : 0 ≤ n ∧ 0 ≤ r) : TBp n M' := fun s a b => (h s a b).of (u.gi_ne (by omega) (Or.inl (by decide))) (fun j _ _ => u.gi_ne (by omega) (Or.inr (by omega)))
def DW (s k x r : Int) (M : mH) : Prop := (k = 1 → (r = 0 → x = s - 1) ∧ (r = -1 → gi M 82 (3 * s) = s - 1)) ∧ (k = 2 → (r = 1 → x = s - 11) ∧ (r ≤ 0 → gi M 82 (3 * s + 1) = (s - 11) % 10) ∧ (r = 0 → x = (s - 11) / 10) ∧ (r = -1 → gi M 82 (3 * s) = (s - 11) / 10)) ∧ (k = 3 → (r = 2 → x = s - 111) ∧ (r ≤ 1 → gi M 82 (3 * s + 2) = (s - 111) % 10) ∧ (r = 1 → x = (s - 111) / 10) ∧ (r ≤ 0 → gi M 82 (3 * s + 1) = (s - 111) / 10 % 10) ∧ (r = 0 → x = (s - 111) / 100) ∧ (r = -1 → gi M 82 (3 * s) = (s - 111) / 100))
theorem DW.init {s k x r : Int} {M : mH} (h : SDk s k) (hr : r = k - 1) (h1 : k = 1 → x = s - 1) (h2 : k = 2 → x = s - 11) (h3 : k = 3 → x = s - 111) : DW s k x r M :=
  ⟨fun e => ⟨fun _ => h1 e, fun _ => by omega⟩, fun e => ⟨fun _ => h2 e, fun _ => by omega, fun _ => by omega, fun _ => by omega⟩, fun e => ⟨fun _ => h3 e, fun _ => by omega, fun _ => by omega, fun _ => by omega, fun _ => by omega, fun _ => by omega⟩⟩
theorem dv1 {s : Int} (h : 1 ≤ s ∧ s ≤ 10) : (s - 1) % 10 = s - 1 := by omega
theorem dv2 {s : Int} (h : 11 ≤ s ∧ s ≤ 110) : (s - 11) / 10 % 10 = (s - 11) / 10 := by omega
theorem dv3 {s : Int} (h : 111 ≤ s ∧ s ≤ 1110) : (s - 111) / 100 % 10 = (s - 111) / 100 := by omega
theorem dv4 {s : Int} : (s - 111) / 10 / 10 = (s - 111) / 100 := by omega
theorem DW.step {s k x r : Int} {M M' : mH} {v : Value} (h : DW s k x r M) (u : Wr M 82 (3 * s + r).toNat v M') (hp : gi M' 82 (3 * s + r) = x % 10) (hn : SDk s k) (hr : 0 ≤ r ∧ r ≤ k - 1) : DW s k (x / 10) (r - 1) M' := by
  have hs : 0 ≤ s := by unfold SDk at hn; omega
  obtain ⟨a, b, c⟩ := h
  have ne : ∀ j : Int, j ≠ 3 * s + r → gi M' 82 j = gi M 82 j := fun j hj => u.gi_ne (by omega) (Or.inr hj)
  have n1 : k = 1 → 1 ≤ s ∧ s ≤ 10 := fun e => by unfold SDk at hn; omega
  have n2 : k = 2 → 11 ≤ s ∧ s ≤ 110 := fun e => by unfold SDk at hn; omega
  have n3 : k = 3 → 111 ≤ s ∧ s ≤ 1110 := fun e => by unfold SDk at hn; omega
  clear hn
  refine ⟨fun e => ?_, fun e => ?_, fun e => ?_⟩
  · have hr0 : r = 0 := by omega
    subst hr0
    refine ⟨fun q => absurd q (by omega), fun _ => ?_⟩
    rw [show 3 * s = 3 * s + 0 by omega, hp, (a e).1 rfl, dv1 (n1 e)]
  · obtain ⟨b1, b2, b3, b4⟩ := b e
    have hr0 : r = 0 ∨ r = 1 := by omega
    rcases hr0 with rfl | rfl
    · refine ⟨fun q => absurd q (by omega), fun _ => by rw [ne _ (by omega)]; exact b2 (by omega), fun q => absurd q (by omega), fun _ => ?_⟩
      rw [show 3 * s = 3 * s + 0 by omega, hp, b3 rfl, dv2 (n2 e)]
    · refine ⟨fun q => absurd q (by omega), fun _ => ?_, fun _ => by rw [b1 rfl], fun q => absurd q (by omega)⟩
      rw [hp, b1 rfl]
  · obtain ⟨c1, c2, c3, c4, c5, c6⟩ := c e
    have hr0 : r = 0 ∨ r = 1 ∨ r = 2 := by omega
    rcases hr0 with rfl | rfl | rfl
    · refine ⟨fun q => absurd q (by omega), fun _ => by rw [ne _ (by omega)]; exact c2 (by omega), fun q => absurd q (by omega), fun _ => by rw [ne _ (by omega)]; exact c4 (by omega), fun q => absurd q (by omega), fun _ => ?_⟩
      rw [show 3 * s = 3 * s + 0 by omega, hp, c5 rfl, dv3 (n3 e)]
    · refine ⟨fun q => absurd q (by omega), fun _ => by rw [ne _ (by omega)]; exact c2 (by omega), fun q => absurd q (by omega), fun _ => ?_, fun _ => by rw [c3 rfl, dv4], fun q => absurd q (by omega)⟩
      rw [hp, c3 rfl]
    · refine ⟨fun q => absurd q (by omega), fun _ => ?_, fun _ => by rw [c1 rfl], fun q => absurd q (by omega), fun q => absurd q (by omega), fun q => absurd q (by omega)⟩
      rw [hp, c1 rfl]
theorem DW.fin {s k x r : Int} {M : mH} (h : DW s k x r M) (hr : r = -1) (hn : SDk s k) (hk : gi M 81 s = k) : TBq s M := by
  obtain ⟨a, b, c⟩ := h
  subst hr
  refine ⟨fun q => ?_, fun p q => ?_, fun p q => ?_, fun p q => ?_⟩
  · subst q; rw [hk]; unfold SDk at hn; omega
  · have e : k = 1 := by unfold SDk at hn; omega
    exact ⟨by rw [hk, e], (a e).2 rfl⟩
  · have e : k = 2 := by unfold SDk at hn; omega
    obtain ⟨b1, b2, b3, b4⟩ := b e
    exact ⟨by rw [hk, e], b4 rfl, b2 (by decide)⟩
  · have e : k = 3 := by unfold SDk at hn; omega
    obtain ⟨c1, c2, c3, c4, c5, c6⟩ := c e
    exact ⟨by rw [hk, e], c6 rfl, c4 (by decide), c2 (by decide)⟩
theorem TBp.next {n : Int} {M : mH} (h : TBp n M) (q : TBq n M) : TBp (n + 1) M := fun s a b => if e : s = n then by rw [e]; exact q else h s a (by omega)
theorem TBp.zero {M : mH} : TBp 0 M := fun s a b => by omega
/-- what is kept, at all places -/
def CK (f : Int → Int) (M : mH) : Prop := ∀ j : Int, 0 ≤ j → gi M 78 j = f j
theorem CK.zero {M : mH} (h : ∀ j : Int, gi M 78 j = 0) : CK (lpN 0) M := fun j hj => by
  rw [h j]
  unfold lpN
  rw [if_neg (by omega), if_neg (by omega)]
theorem CK.wr {f : Int → Int} {M M' : mH} {c i : Nat} {v : Value} (h : CK f M) (u : Wr M c i v M') (hc : c ≠ 78) : CK f M' := fun j hj => by rw [show gi M' 78 j = gi M 78 j by unfold gi; rw [u.ne (Or.inl (Ne.symm hc))]]; exact h j hj
theorem CK.w {f : Int → Int} {M M' : mH} {i x : Int} {v : Value} (h : CK f M) (u : Wr M 78 i.toNat v M') (h0 : 0 ≤ i) (p : gi M' 78 i = x) : CK (updN f i x) M' := fun j hj => by
  by_cases e : j = i
  · rw [e, updN_eq]; exact p
  · rw [updN_ne e, u.gi_ne h0 (Or.inr e)]; exact h j hj
theorem CK.ext {f g : Int → Int} {M : mH} (h : CK f M) (e : ∀ j : Int, 0 ≤ j → f j = g j) : CK g M := fun j hj => (h j hj).trans (e j hj)
theorem lp_step {x : Int} (hx : 0 ≤ x ∧ x < 30) (j : Int) (_ : 0 ≤ j) : updN (updN (lpN x) (0 + x) 1) (30 + x) 5 j = lpN (x + 1) j := by
  by_cases e1 : j = 30 + x
  · rw [e1, updN_eq]
    unfold lpN
    rw [if_neg (by omega), if_pos (by omega)]
  rw [updN_ne e1]
  by_cases e2 : j = 0 + x
  · rw [e2, updN_eq]
    unfold lpN
    rw [if_pos (by omega)]
  rw [updN_ne e2]
  unfold lpN
  by_cases c1 : 0 ≤ j ∧ j < x
  · rw [if_pos c1, if_pos (show 0 ≤ j ∧ j < x + 1 by omega)]
  rw [if_neg c1, if_neg (show ¬ (0 ≤ j ∧ j < x + 1) by omega)]
  by_cases c2 : 30 ≤ j ∧ j < 30 + x
  · rw [if_pos c2, if_pos (show 30 ≤ j ∧ j < 30 + (x + 1) by omega)]
  · rw [if_neg c2, if_neg (show ¬ (30 ≤ j ∧ j < 30 + (x + 1)) by omega)]
def KI (M : mH) : Prop := ∀ j : Int, 0 ≤ j → gi M 78 j = i_N j
theorem KI.wr {M M' : mH} {c i : Nat} {v : Value} (h : KI M) (u : Wr M c i v M') (hc : c ≠ 78) : KI M' := CK.wr (f := i_N) h u hc
theorem CK.fin {M : mH} {x : Int} (hx : x = 30) (h : CK (updN (updN (updN (updN (updN (updN (updN (updN (updN (lpN x) 90 6) 91 3) 92 1) 93 1) 94 20) 95 10) 96 4) 97 2) 98 5) M) : KI M := by
  subst hx
  exact h
theorem B150_903_905 : s_dk T150.2.2.1 903 [.iconst 0, .istore_n 1] 905 = true := by decide +kernel
theorem B150_905_908 : s_dk T150.2.2.1 905 [.iload_n 1, .bipush 30] 908 = true := by decide +kernel
theorem D150_908 : decode T150.2.2.1 908 = .ok (.if_icmp .ge 28, 3) := by decide +kernel
theorem B150_911_912 : s_dk T150.2.2.1 911 [.aload_n 0] 912 = true := by decide +kernel
theorem D150_912 : decode T150.2.2.1 912 = .ok (.getfield 13, 3) := by decide +kernel
theorem B150_915_919 : s_dk T150.2.2.1 915 [.iconst 0, .iload_n 1, .iadd, .iconst 1] 919 = true := by decide +kernel
theorem D150_919 : decode T150.2.2.1 919 = .ok (.iastore, 1) := by decide +kernel
theorem B150_920_921 : s_dk T150.2.2.1 920 [.aload_n 0] 921 = true := by decide +kernel
theorem D150_921 : decode T150.2.2.1 921 = .ok (.getfield 13, 3) := by decide +kernel
theorem B150_924_929 : s_dk T150.2.2.1 924 [.bipush 30, .iload_n 1, .iadd, .iconst 5] 929 = true := by decide +kernel
theorem D150_929 : decode T150.2.2.1 929 = .ok (.iastore, 1) := by decide +kernel
theorem B150_930_933 : s_dk T150.2.2.1 930 [.iinc 1 1] 933 = true := by decide +kernel
theorem D150_933 : decode T150.2.2.1 933 = .ok (.goto (-28), 3) := by decide +kernel
theorem B150_936_937 : s_dk T150.2.2.1 936 [.aload_n 0] 937 = true := by decide +kernel
theorem D150_937 : decode T150.2.2.1 937 = .ok (.getfield 13, 3) := by decide +kernel
theorem B150_940_944 : s_dk T150.2.2.1 940 [.bipush 90, .bipush 6] 944 = true := by decide +kernel
theorem D150_944 : decode T150.2.2.1 944 = .ok (.iastore, 1) := by decide +kernel
theorem B150_945_946 : s_dk T150.2.2.1 945 [.aload_n 0] 946 = true := by decide +kernel
theorem D150_946 : decode T150.2.2.1 946 = .ok (.getfield 13, 3) := by decide +kernel
theorem B150_949_952 : s_dk T150.2.2.1 949 [.bipush 91, .iconst 3] 952 = true := by decide +kernel
theorem D150_952 : decode T150.2.2.1 952 = .ok (.iastore, 1) := by decide +kernel
theorem B150_953_954 : s_dk T150.2.2.1 953 [.aload_n 0] 954 = true := by decide +kernel
theorem D150_954 : decode T150.2.2.1 954 = .ok (.getfield 13, 3) := by decide +kernel
theorem B150_957_960 : s_dk T150.2.2.1 957 [.bipush 92, .iconst 1] 960 = true := by decide +kernel
theorem D150_960 : decode T150.2.2.1 960 = .ok (.iastore, 1) := by decide +kernel
theorem B150_961_962 : s_dk T150.2.2.1 961 [.aload_n 0] 962 = true := by decide +kernel
theorem D150_962 : decode T150.2.2.1 962 = .ok (.getfield 13, 3) := by decide +kernel
theorem B150_965_968 : s_dk T150.2.2.1 965 [.bipush 93, .iconst 1] 968 = true := by decide +kernel
theorem D150_968 : decode T150.2.2.1 968 = .ok (.iastore, 1) := by decide +kernel
theorem B150_969_970 : s_dk T150.2.2.1 969 [.aload_n 0] 970 = true := by decide +kernel
theorem D150_970 : decode T150.2.2.1 970 = .ok (.getfield 13, 3) := by decide +kernel
theorem B150_973_977 : s_dk T150.2.2.1 973 [.bipush 94, .bipush 20] 977 = true := by decide +kernel
theorem D150_977 : decode T150.2.2.1 977 = .ok (.iastore, 1) := by decide +kernel
theorem B150_978_979 : s_dk T150.2.2.1 978 [.aload_n 0] 979 = true := by decide +kernel
theorem D150_979 : decode T150.2.2.1 979 = .ok (.getfield 13, 3) := by decide +kernel
theorem B150_982_986 : s_dk T150.2.2.1 982 [.bipush 95, .bipush 10] 986 = true := by decide +kernel
theorem D150_986 : decode T150.2.2.1 986 = .ok (.iastore, 1) := by decide +kernel
theorem B150_987_988 : s_dk T150.2.2.1 987 [.aload_n 0] 988 = true := by decide +kernel
theorem D150_988 : decode T150.2.2.1 988 = .ok (.getfield 13, 3) := by decide +kernel
theorem B150_991_994 : s_dk T150.2.2.1 991 [.bipush 96, .iconst 4] 994 = true := by decide +kernel
theorem D150_994 : decode T150.2.2.1 994 = .ok (.iastore, 1) := by decide +kernel
theorem B150_995_996 : s_dk T150.2.2.1 995 [.aload_n 0] 996 = true := by decide +kernel
theorem D150_996 : decode T150.2.2.1 996 = .ok (.getfield 13, 3) := by decide +kernel
theorem B150_999_1002 : s_dk T150.2.2.1 999 [.bipush 97, .iconst 2] 1002 = true := by decide +kernel
theorem D150_1002 : decode T150.2.2.1 1002 = .ok (.iastore, 1) := by decide +kernel
theorem B150_1003_1004 : s_dk T150.2.2.1 1003 [.aload_n 0] 1004 = true := by decide +kernel
theorem D150_1004 : decode T150.2.2.1 1004 = .ok (.getfield 13, 3) := by decide +kernel
theorem B150_1007_1010 : s_dk T150.2.2.1 1007 [.bipush 98, .iconst 5] 1010 = true := by decide +kernel
theorem D150_1010 : decode T150.2.2.1 1010 = .ok (.iastore, 1) := by decide +kernel
theorem B150_1011_1013 : s_dk T150.2.2.1 1011 [.iconst 0, .istore_n 1] 1013 = true := by decide +kernel
theorem B150_1013_1017 : s_dk T150.2.2.1 1013 [.iload_n 1, .sipush 1111] 1017 = true := by decide +kernel
theorem D150_1017 : decode T150.2.2.1 1017 = .ok (.if_icmp .ge 122, 3) := by decide +kernel
theorem B150_1020_1022 : s_dk T150.2.2.1 1020 [.iload_n 1, .iconst 1] 1022 = true := by decide +kernel
theorem D150_1022 : decode T150.2.2.1 1022 = .ok (.if_icmp .ge 7, 3) := by decide +kernel
theorem B150_1025_1026 : s_dk T150.2.2.1 1025 [.iconst 0] 1026 = true := by decide +kernel
theorem D150_1026 : decode T150.2.2.1 1026 = .ok (.goto 32, 3) := by decide +kernel
theorem B150_1058_1060 : s_dk T150.2.2.1 1058 [.istore_n 2, .aload_n 0] 1060 = true := by decide +kernel
theorem D150_1060 : decode T150.2.2.1 1060 = .ok (.getfield 24, 3) := by decide +kernel
theorem B150_1063_1066 : s_dk T150.2.2.1 1063 [.iload_n 1, .iload_n 1, .iconst 1] 1066 = true := by decide +kernel
theorem D150_1066 : decode T150.2.2.1 1066 = .ok (.if_icmp .ge 7, 3) := by decide +kernel
theorem B150_1069_1070 : s_dk T150.2.2.1 1069 [.iconst 0] 1070 = true := by decide +kernel
theorem D150_1070 : decode T150.2.2.1 1070 = .ok (.goto 24, 3) := by decide +kernel
theorem D150_1094 : decode T150.2.2.1 1094 = .ok (.iastore, 1) := by decide +kernel
theorem B150_1095_1096 : s_dk T150.2.2.1 1095 [.aload_n 0] 1096 = true := by decide +kernel
theorem D150_1096 : decode T150.2.2.1 1096 = .ok (.getfield 24, 3) := by decide +kernel
theorem B150_1099_1100 : s_dk T150.2.2.1 1099 [.iload_n 1] 1100 = true := by decide +kernel
theorem D150_1100 : decode T150.2.2.1 1100 = .ok (.iaload, 1) := by decide +kernel
theorem B150_1101_1104 : s_dk T150.2.2.1 1101 [.iconst 1, .isub, .istore_n 3] 1104 = true := by decide +kernel
theorem B150_1104_1105 : s_dk T150.2.2.1 1104 [.iload_n 3] 1105 = true := by decide +kernel
theorem D150_1105 : decode T150.2.2.1 1105 = .ok (.ifCond .lt 28, 3) := by decide +kernel
theorem B150_1133_1136 : s_dk T150.2.2.1 1133 [.iinc 1 1] 1136 = true := by decide +kernel
theorem D150_1136 : decode T150.2.2.1 1136 = .ok (.goto (-123), 3) := by decide +kernel
theorem D150_1139 : decode T150.2.2.1 1139 = .ok (.return_, 1) := by decide +kernel
theorem B150_1029_1032 : s_dk T150.2.2.1 1029 [.iload_n 1, .bipush 11] 1032 = true := by decide +kernel
theorem D150_1032 : decode T150.2.2.1 1032 = .ok (.if_icmp .ge 9, 3) := by decide +kernel
theorem B150_1041_1044 : s_dk T150.2.2.1 1041 [.iload_n 1, .bipush 111] 1044 = true := by decide +kernel
theorem D150_1044 : decode T150.2.2.1 1044 = .ok (.if_icmp .ge 10, 3) := by decide +kernel
theorem B150_1054_1060 : s_dk T150.2.2.1 1054 [.iload_n 1, .bipush 111, .isub, .istore_n 2, .aload_n 0] 1060 = true := by decide +kernel
theorem B150_1073_1076 : s_dk T150.2.2.1 1073 [.iload_n 1, .bipush 11] 1076 = true := by decide +kernel
theorem D150_1076 : decode T150.2.2.1 1076 = .ok (.if_icmp .ge 7, 3) := by decide +kernel
theorem B150_1083_1086 : s_dk T150.2.2.1 1083 [.iload_n 1, .bipush 111] 1086 = true := by decide +kernel
theorem D150_1086 : decode T150.2.2.1 1086 = .ok (.if_icmp .ge 7, 3) := by decide +kernel
theorem B150_1093_1094 : s_dk T150.2.2.1 1093 [.iconst 3] 1094 = true := by decide +kernel
theorem B150_1047_1051 : s_dk T150.2.2.1 1047 [.iload_n 1, .bipush 11, .isub] 1051 = true := by decide +kernel
theorem D150_1051 : decode T150.2.2.1 1051 = .ok (.goto 7, 3) := by decide +kernel
theorem B150_1089_1090 : s_dk T150.2.2.1 1089 [.iconst 2] 1090 = true := by decide +kernel
theorem D150_1090 : decode T150.2.2.1 1090 = .ok (.goto 4, 3) := by decide +kernel
theorem B150_1035_1038 : s_dk T150.2.2.1 1035 [.iload_n 1, .iconst 1, .isub] 1038 = true := by decide +kernel
theorem D150_1038 : decode T150.2.2.1 1038 = .ok (.goto 20, 3) := by decide +kernel
theorem B150_1079_1080 : s_dk T150.2.2.1 1079 [.iconst 1] 1080 = true := by decide +kernel
theorem D150_1080 : decode T150.2.2.1 1080 = .ok (.goto 14, 3) := by decide +kernel
theorem B150_1108_1109 : s_dk T150.2.2.1 1108 [.aload_n 0] 1109 = true := by decide +kernel
theorem D150_1109 : decode T150.2.2.1 1109 = .ok (.getfield 27, 3) := by decide +kernel
theorem B150_1112_1120 : s_dk T150.2.2.1 1112 [.iconst 3, .iload_n 1, .imul, .iload_n 3, .iadd, .iload_n 2, .bipush 10] 1120 = true := by decide +kernel
theorem D150_1120 : decode T150.2.2.1 1120 = .ok (.irem, 1) := by decide +kernel
theorem D150_1121 : decode T150.2.2.1 1121 = .ok (.iastore, 1) := by decide +kernel
theorem B150_1122_1125 : s_dk T150.2.2.1 1122 [.iload_n 2, .bipush 10] 1125 = true := by decide +kernel
theorem D150_1125 : decode T150.2.2.1 1125 = .ok (.idiv, 1) := by decide +kernel
theorem B150_1126_1130 : s_dk T150.2.2.1 1126 [.istore_n 2, .iinc 3 (-1)] 1130 = true := by decide +kernel
theorem D150_1130 : decode T150.2.2.1 1130 = .ok (.goto (-26), 3) := by decide +kernel
