/-! The texts of habits, word by word: the states of a reader. 1 a clause begins, 2 its head is read, 10 + p a test begins below p brackets, 20 + p a plain test is read, 1000 + 100 p + 10 q + s a part begins below p brackets of one kind and q of the other, left or right of what compares, 2000 + .. it is read; 0 no text. -/
noncomputable def dT (x c : Int) : Int := if c = 10 then x else if c = 140 ∧ x ≤ 17 then x + 1 else if c = 11 ∨ c = 12 then x + 10 else if c = 191 ∧ x ≤ 17 then 1010 + 100 * (x - 10) else if c = 50 ∨ (13 ≤ c ∧ c ≤ 21) then 2000 + 100 * (x - 10) else 0
noncomputable def dB (x c : Int) : Int := if c = 8 ∨ c = 9 then x - 10 else if c = 141 ∧ 21 ≤ x then x - 1 else if c = 159 ∧ x = 20 then 1 else 0
noncomputable def dS (x c : Int) : Int := if c = 191 ∧ x / 100 % 10 + x / 10 % 10 ≤ 7 then x + 10 else if c = 50 ∨ (13 ≤ c ∧ c ≤ 21) then x + 1000 else 0
noncomputable def dA (x c : Int) : Int := if c = 142 ∨ c = 143 ∨ c = 145 ∨ c = 147 then x - 1000 else if c = 193 ∧ 1 ≤ x / 10 % 10 then x - 10 else if (c = 160 ∨ c = 161 ∨ c = 162) ∧ x % 100 = 0 then x - 999 else if x % 100 = 1 then (if c = 8 ∨ c = 9 then 10 + x / 100 % 10 else if c = 141 ∧ 1 ≤ x / 100 % 10 then 19 + x / 100 % 10 else if c = 159 ∧ x = 2001 then 1 else 0) else 0
noncomputable def dl (x c : Int) : Int := if x = 1 then (if 1 ≤ c ∧ c ≤ 6 then 2 else 0) else if x = 2 then (if c = 7 then 10 else if c = 159 then 1 else 0) else if 10 ≤ x ∧ x ≤ 18 then dT x c else if 20 ≤ x ∧ x ≤ 28 then dB x c else if 1000 ≤ x ∧ x < 2000 then dS x c else if 2000 ≤ x ∧ x < 3000 then dA x c else 0
theorem dl_T {x c : Int} (h : 10 ≤ x ∧ x ≤ 18) : dl x c = dT x c := by
  unfold dl; rw [if_neg (by omega), if_neg (by omega), if_pos h]
theorem dl_B {x c : Int} (h : 20 ≤ x ∧ x ≤ 28) : dl x c = dB x c := by
  unfold dl; rw [if_neg (by omega), if_neg (by omega), if_neg (by omega), if_pos h]
theorem dl_S {x c : Int} (h : 1000 ≤ x ∧ x < 2000) : dl x c = dS x c := by
  unfold dl; rw [if_neg (by omega), if_neg (by omega), if_neg (by omega), if_neg (by omega), if_pos h]
theorem dl_A {x c : Int} (h : 2000 ≤ x ∧ x < 3000) : dl x c = dA x c := by
  unfold dl; rw [if_neg (by omega), if_neg (by omega), if_neg (by omega), if_neg (by omega), if_neg (by omega), if_pos h]
theorem dl_0 (c : Int) : dl 0 c = 0 := by
  unfold dl; rw [if_neg (by omega), if_neg (by omega), if_neg (by omega), if_neg (by omega), if_neg (by omega), if_neg (by omega)]
theorem dg {x k p q s : Int} (h : x = 1000 * k + 100 * p + 10 * q + s) (hp : 0 ≤ p) (hq : 0 ≤ q) (hpq : p + q ≤ 8) (hs : 0 ≤ s ∧ s ≤ 1) : x / 10 % 10 = q ∧ x / 100 % 10 = p ∧ x % 100 = 10 * q + s := by
  have h1 : x / 10 = 100 * k + 10 * p + q := by omega
  have h2 : x / 100 = 10 * k + p := by omega
  rw [h1, h2]
  exact ⟨by omega, by omega, by omega⟩
theorem d_h {x c : Int} : x = 1 → 1 ≤ c → c ≤ 6 → dl x c = 2 := by
  intro h a b; unfold dl; rw [if_pos h, if_pos ⟨a, b⟩]
theorem d_if {x : Int} : x = 2 → dl x 7 = 10 := by
  intro h; unfold dl; rw [if_neg (by omega), if_pos h, if_pos rfl]
theorem d_sc {x : Int} : x = 2 ∨ x = 20 ∨ x = 2001 → dl x 159 = 1 := by
  rintro (rfl | rfl | rfl) <;> decide
theorem d_not {x : Int} : 10 ≤ x → x ≤ 18 → dl x 10 = x := by
  intro a b; rw [dl_T ⟨a, b⟩]; unfold dT; rw [if_pos rfl]
theorem d_po {x : Int} : 10 ≤ x → x ≤ 17 → dl x 140 = x + 1 := by
  intro a b; rw [dl_T ⟨a, by omega⟩]; unfold dT; rw [if_neg (by omega), if_pos ⟨rfl, b⟩]
theorem d_kn {x c : Int} : 10 ≤ x → x ≤ 18 → c = 11 ∨ c = 12 → dl x c = x + 10 := by
  intro a b h; rw [dl_T ⟨a, b⟩]; unfold dT; rw [if_neg (by omega), if_neg (by omega), if_pos h]
theorem d_ob {x p q s : Int} : 0 ≤ p → 0 ≤ q → p + q ≤ 7 → 0 ≤ s → s ≤ 1 → (x = 1000 + 100 * p + 10 * q + s ∨ (x = 10 + p ∧ q = 0 ∧ s = 0)) → dl x 191 = 1010 + 100 * p + 10 * q + s := by
  intro a b c d e h
  rcases h with h | ⟨h, h1, h2⟩
  · rw [dl_S (by omega)]; unfold dS; rw [if_pos (by omega)]; omega
  · rw [dl_T (by omega)]; unfold dT; rw [if_neg (by omega), if_neg (by omega), if_neg (by omega), if_pos (by omega)]; omega
theorem d_lf {x p q s c : Int} : 0 ≤ p → 0 ≤ q → p + q ≤ 8 → 0 ≤ s → s ≤ 1 → (x = 1000 + 100 * p + 10 * q + s ∨ (x = 10 + p ∧ q = 0 ∧ s = 0)) → c = 50 ∨ (13 ≤ c ∧ c ≤ 21) → dl x c = 2000 + 100 * p + 10 * q + s := by
  intro a b c d e h k
  rcases h with h | ⟨h, h1, h2⟩
  · rw [dl_S (by omega)]; unfold dS; rw [if_neg (by omega), if_pos k]; omega
  · rw [dl_T (by omega)]; unfold dT; rw [if_neg (by omega), if_neg (by omega), if_neg (by omega), if_neg (by omega), if_pos k]; omega
theorem d_op {x : Int} (c : Int) (h : c = 142 ∨ c = 143 ∨ c = 145 ∨ c = 147) : 2000 ≤ x → x < 3000 → dl x c = x - 1000 := by
  intro a b; rw [dl_A ⟨a, b⟩]; unfold dA; rw [if_pos h]
theorem d_cb {x : Int} : 2000 ≤ x → x < 3000 → 1 ≤ x / 10 % 10 → dl x 193 = x - 10 := by
  intro a b h; rw [dl_A ⟨a, b⟩]; unfold dA; rw [if_neg (by omega), if_pos ⟨rfl, h⟩]
theorem d_cm {x : Int} (c : Int) (h : c = 160 ∨ c = 161 ∨ c = 162) : 2000 ≤ x → x < 3000 → x % 100 = 0 → dl x c = x - 999 := by
  intro a b k; rw [dl_A ⟨a, b⟩]; unfold dA; rw [if_neg (by omega), if_neg (by omega), if_pos ⟨h, k⟩]
theorem d_or {x p : Int} (c : Int) (h : c = 8 ∨ c = 9) : 0 ≤ p → p ≤ 8 → (x = 20 + p ∨ x = 2001 + 100 * p) → dl x c = 10 + p := by
  intro a b k
  rcases k with k | k
  · rw [dl_B (by omega)]; unfold dB; rw [if_pos h]; omega
  · rw [dl_A (by omega)]; unfold dA; rw [if_neg (by omega), if_neg (by omega), if_neg (by omega), if_pos (by omega), if_pos h]; omega
theorem d_cp {x p : Int} : 1 ≤ p → p ≤ 8 → (x = 20 + p ∨ x = 2001 + 100 * p) → dl x 141 = 19 + p := by
  intro a b k
  rcases k with k | k
  · rw [dl_B (by omega)]; unfold dB; rw [if_neg (by omega), if_pos (by omega)]; omega
  · rw [dl_A (by omega)]; unfold dA; rw [if_neg (by omega), if_neg (by omega), if_neg (by omega), if_pos (by omega), if_neg (by omega), if_pos (by omega)]; omega
/-- what can stand where a part begins -/
theorem e_S {x p q s c : Int} : 0 ≤ p → 0 ≤ q → p + q ≤ 8 → 0 ≤ s → s ≤ 1 → (x = 1000 + 100 * p + 10 * q + s ∨ (x = 10 + p ∧ q = 0 ∧ s = 0 ∧ c ≠ 10 ∧ c ≠ 140 ∧ c ≠ 11 ∧ c ≠ 12)) → dl x c ≠ 0 → (c = 191 ∧ p + q ≤ 7) ∨ c = 50 ∨ (13 ≤ c ∧ c ≤ 21) := by
  intro a b c d e h k
  rcases h with h | ⟨h, h1, h2, h3⟩
  · have kg := dg (k := 1) (p := p) (q := q) (s := s) (by omega) (by omega) (by omega) (by omega) (by omega) (x := x)
    rw [dl_S (by omega)] at k; unfold dS at k
    apply Classical.byContradiction
    intro hn
    rw [if_neg (by omega), if_neg (by omega)] at k; omega
  · rw [dl_T (by omega)] at k; unfold dT at k
    apply Classical.byContradiction
    intro hn
    rw [if_neg (by omega), if_neg (by omega), if_neg (by omega), if_neg (by omega), if_neg (by omega)] at k; omega
theorem e_T {x p c : Int} : 0 ≤ p → p ≤ 8 → x = 10 + p → dl x c ≠ 0 → c = 10 ∨ (c = 140 ∧ p ≤ 7) ∨ c = 11 ∨ c = 12 ∨ (c = 191 ∧ p ≤ 7) ∨ c = 50 ∨ (13 ≤ c ∧ c ≤ 21) := by
  intro a b h k
  rw [dl_T (by omega)] at k; unfold dT at k
  apply Classical.byContradiction
  intro hn
  rw [if_neg (by omega), if_neg (by omega), if_neg (by omega), if_neg (by omega), if_neg (by omega)] at k; omega
/-- what can stand behind a part that nothing follows -/
theorem e_A {x p q s c : Int} : 0 ≤ p → 0 ≤ q → p + q ≤ 8 → 0 ≤ s → s ≤ 1 → x = 2000 + 100 * p + 10 * q + s → c ≠ 142 → c ≠ 143 → c ≠ 145 → c ≠ 147 → dl x c ≠ 0 → (c = 193 ∧ 1 ≤ q) ∨ ((c = 160 ∨ c = 161 ∨ c = 162) ∧ q = 0 ∧ s = 0) ∨ (q = 0 ∧ s = 1) := by
  intro a b c d e h k1 k2 k3 k4 k
  rw [dl_A (by omega)] at k; unfold dA at k
  apply Classical.byContradiction
  intro hn
  rw [if_neg (by omega), if_neg (by omega), if_neg (by omega), if_neg (by omega)] at k; omega
/-- what can stand behind a test that neither "or" nor "and" follows -/
theorem e_B {x p c : Int} : 0 ≤ p → p ≤ 8 → (x = 20 + p ∨ (x = 2001 + 100 * p ∧ c ≠ 142 ∧ c ≠ 143 ∧ c ≠ 145 ∧ c ≠ 147)) → c ≠ 8 → c ≠ 9 → dl x c ≠ 0 → (c = 141 ∧ 1 ≤ p) ∨ (c = 159 ∧ p = 0) := by
  intro a b h h8 h9 k
  apply Classical.byContradiction
  intro hn
  rcases h with h | ⟨h, h1, h2, h3, h4⟩
  · rw [dl_B (by omega)] at k; unfold dB at k
    rw [if_neg (by omega), if_neg (by omega), if_neg (by omega)] at k; omega
  · rw [dl_A (by omega)] at k; unfold dA at k
    rw [if_neg (by omega), if_neg (by omega), if_neg (by omega), if_pos (by omega), if_neg (by omega), if_neg (by omega), if_neg (by omega)] at k; omega
theorem e_H {x c : Int} : x = 1 → dl x c ≠ 0 → 1 ≤ c ∧ c ≤ 6 := by
  intro h k; unfold dl at k; rw [if_pos h] at k
  apply Classical.byContradiction
  intro hn
  rw [if_neg (by omega)] at k; omega
theorem e_I {x c : Int} : x = 2 → dl x c ≠ 0 → c = 7 ∨ c = 159 := by
  intro h k; unfold dl at k; rw [if_neg (by omega), if_pos h] at k
  apply Classical.byContradiction
  intro hn
  rw [if_neg (by omega), if_neg (by omega)] at k; omega
/-- the states of a row of words -/
noncomputable def dq (C : Int → Int) : Nat → Int
  | 0 => 1
  | n + 1 => dl (dq C n) (C n)
theorem dl_seq (C : Int → Int) : ∃ F : Int → Int, F 0 = 1 ∧ ∀ j : Int, 0 ≤ j → F (j + 1) = dl (F j) (C j) := by
  refine ⟨fun j => dq C j.toNat, rfl, fun j hj => ?_⟩
  show dq C (j + 1).toNat = dl (dq C j.toNat) (C j)
  rw [show (j + 1).toNat = j.toNat + 1 by omega]
  show dl (dq C j.toNat) (C ((j.toNat : Nat) : Int)) = _
  rw [show ((j.toNat : Nat) : Int) = j by omega]
theorem tk_lt {C : Int → Int} {t n : Int} (h : C n = 0) (ht : t ≤ n) : C t ≠ 0 → t < n := by
  intro hc
  have : t ≠ n := fun e => hc (by rw [e]; exact h)
  omega
/-- the words of the text that is read -/
noncomputable def PC (C : Int → Int) (M : mH) : Prop := ∀ j : Int, gi M 97 j = C j
theorem PC.fr {C : Int → Int} {L : List (Nat × Nat)} {M M' : mH} (h : PC C M) (f : Fr L M M') (hc : s_al L (fun c => c != 97) = true) : PC C M' := fun j => (f.g (s_al_ok hc (by simp))).trans (h j)
theorem PC.wr {C : Int → Int} {M M' : mH} {c i : Nat} {v : Value} (h : PC C M) (u : Wr M c i v M') (hc : c ≠ 97) : PC C M' := fun j => by
  rw [← h j]; unfold gi; rw [u.ne (Or.inl (Ne.symm hc))]
/-- the words that are kept -/
noncomputable def KC (C : Int → Int) (M : mH) : Prop := ∀ j : Int, gi M 78 (483 + j) = C j
theorem KC.fr {C : Int → Int} {L : List (Nat × Nat)} {M M' : mH} (h : KC C M) (f : Fr L M M') (hc : s_al L (fun c => c != 78) = true) : KC C M' := fun j => (f.g (s_al_ok hc (by simp))).trans (h j)
theorem KC.wr {C : Int → Int} {M M' : mH} {c i : Nat} {v : Value} (h : KC C M) (u : Wr M c i v M') (hc : c ≠ 78) : KC C M' := fun j => by
  rw [← h j]; unfold gi; rw [u.ne (Or.inl (Ne.symm hc))]
/-- a row of words is a text -/
noncomputable def AC (c : Nat) (o n : Int) (M : mH) : Prop := ∃ F : Int → Int, F 0 = 1 ∧ (∀ j : Int, 0 ≤ j → j < n → F (j + 1) = dl (F j) (gi M c (o + j))) ∧ (F n = 2 ∨ F n = 20 ∨ F n = 2001)
/-- a long that isn't zero can divide -/
noncomputable def nz (a : Int) : Prop := ¬ (Int64.ofInt a = 0)
theorem nz_1 : nz 1 := by unfold nz; decide
section
variable {base : Nat} {X : Nat → Option mC} {G : Nat → Value} {d : Nat} {t : mT} {pc pc' : Nat} {lv : sL} {st : List mV} {M : mH} {Q : Option Value → mH → Prop}
theorem r_lcmpz {a : Int} (hd : decode t.2.2.1 pc = .ok (.lcmp, 1)) (hn : pc + 1 = pc') (h : ∀ e, -1 ≤ e → e ≤ 1 → (e ≠ 0 → nz a) → sRn base X G d t pc' lv (vI e :: st) M Q) : sRn base X G d t pc lv (vL 0 :: vL a :: st) M Q := by
  subst hn
  refine r_B (st := st) (v := .int (lg_cmp (Int64.ofInt a) (Int64.ofInt 0))) hd rfl rfl rfl rfl rfl rfl rfl ?_
  by_cases hz : Int64.ofInt a = 0
  · have : lg_cmp (Int64.ofInt a) (Int64.ofInt 0) = 0 := by rw [hz]; decide
    rw [this]
    exact h 0 (by omega) (by omega) (fun q => absurd rfl q)
  · unfold lg_cmp
    split
    · exact h 1 (by omega) (by omega) (fun _ => hz)
    · split
      · exact h 0 (by omega) (by omega) (fun _ => hz)
      · exact h (-1) (by omega) (by omega) (fun _ => hz)
theorem r_ldivz {a b : Int} (hd : decode t.2.2.1 pc = .ok (.ldiv, 1)) (hn : pc + 1 = pc') (hb : nz b) (h : ∀ e, inJ e → sRn base X G d t pc' lv (vL e :: st) M Q) : sRn base X G d t pc lv (vL b :: vL a :: st) M Q := by
  subst hn
  refine r_B (st := st) (v := .long (Int64.ofInt a / Int64.ofInt b)) hd rfl rfl rfl rfl rfl rfl ?_ (s_anyL (fun e he _ => h e he))
  simp only [m_stB, em_s, List.map_cons, em, m_ll, if_neg hb]
end
noncomputable def T218 : mT := (11, yX11_takes, cX11_takes, 3, (some .boolean))
set_option maxRecDepth 10000 in
theorem TE218 : sy_m[218]? = some T218 := rfl
theorem B218_0_1 : s_dk T218.2.2.1 0 [.aload_n 0] 1 = true := by decide +kernel
theorem D218_1 : decode T218.2.2.1 1 = .ok (.invokevirtual 321, 3) := by decide +kernel
theorem D218_4 : decode T218.2.2.1 4 = .ok (.ifCond .eq 20, 3) := by decide +kernel
theorem B218_24_27 : s_dk T218.2.2.1 24 [.iconst 0, .istore_n 2, .iload_n 2] 27 = true := by decide +kernel
theorem D218_27 : decode T218.2.2.1 27 = .ok (.ifCond .eq 13, 3) := by decide +kernel
theorem B218_40_41 : s_dk T218.2.2.1 40 [.iload_n 2] 41 = true := by decide +kernel
theorem D218_41 : decode T218.2.2.1 41 = .ok (.ireturn, 1) := by decide +kernel
theorem B218_7_8 : s_dk T218.2.2.1 7 [.aload_n 0] 8 = true := by decide +kernel
theorem D218_8 : decode T218.2.2.1 8 = .ok (.getfield 78, 3) := by decide +kernel
theorem B218_11_12 : s_dk T218.2.2.1 11 [.aload_n 0] 12 = true := by decide +kernel
theorem D218_12 : decode T218.2.2.1 12 = .ok (.getfield 325, 3) := by decide +kernel
theorem D218_15 : decode T218.2.2.1 15 = .ok (.iaload, 1) := by decide +kernel
theorem B218_16_17 : s_dk T218.2.2.1 16 [.iload_n 1] 17 = true := by decide +kernel
theorem D218_17 : decode T218.2.2.1 17 = .ok (.if_icmp .ne 7, 3) := by decide +kernel
theorem B218_20_21 : s_dk T218.2.2.1 20 [.iconst 1] 21 = true := by decide +kernel
theorem D218_21 : decode T218.2.2.1 21 = .ok (.goto 4, 3) := by decide +kernel
theorem B218_25_27 : s_dk T218.2.2.1 25 [.istore_n 2, .iload_n 2] 27 = true := by decide +kernel
theorem B218_30_32 : s_dk T218.2.2.1 30 [.aload_n 0, .dup] 32 = true := by decide +kernel
theorem D218_32 : decode T218.2.2.1 32 = .ok (.getfield 325, 3) := by decide +kernel
theorem B218_35_37 : s_dk T218.2.2.1 35 [.iconst 1, .iadd] 37 = true := by decide +kernel
theorem pf_11_325_77 : s_pf 11 325 77 = some (37, 1) := by decide +kernel
theorem D218_37 : decode T218.2.2.1 37 = .ok (.putfield 325, 3) := by decide +kernel
noncomputable def T219 : mT := (11, yX11_must, cX11_must, 2, none)
set_option maxRecDepth 10000 in
theorem TE219 : sy_m[219]? = some T219 := rfl
theorem B219_0_2 : s_dk T219.2.2.1 0 [.aload_n 0, .iload_n 1] 2 = true := by decide +kernel
theorem D219_2 : decode T219.2.2.1 2 = .ok (.invokevirtual 328, 3) := by decide +kernel
theorem ck_11_virtual_328 : m_call 11 (.invokevirtual 328) = some (0, 218, 1) := by decide +kernel
theorem D219_5 : decode T219.2.2.1 5 = .ok (.ifCond .ne 7, 3) := by decide +kernel
theorem D219_12 : decode T219.2.2.1 12 = .ok (.return_, 1) := by decide +kernel
theorem B219_8_9 : s_dk T219.2.2.1 8 [.aload_n 0] 9 = true := by decide +kernel
theorem D219_9 : decode T219.2.2.1 9 = .ok (.invokevirtual 331, 3) := by decide +kernel
theorem ck_11_virtual_331 : m_call 11 (.invokevirtual 331) = some (0, 217, 0) := by decide +kernel
noncomputable def T220 : mT := (11, yX11_leaf, cX11_leaf, 1, none)
set_option maxRecDepth 10000 in
theorem TE220 : sy_m[220]? = some T220 := rfl
theorem B220_0_1 : s_dk T220.2.2.1 0 [.aload_n 0] 1 = true := by decide +kernel
theorem gf_11_334_77 : s_gf 11 334 77 = some (38, 1) := by decide +kernel
theorem D220_1 : decode T220.2.2.1 1 = .ok (.getfield 334, 3) := by decide +kernel
theorem B220_4_6 : s_dk T220.2.2.1 4 [.bipush 50] 6 = true := by decide +kernel
theorem D220_6 : decode T220.2.2.1 6 = .ok (.if_icmp .ne 7, 3) := by decide +kernel
theorem B220_13_15 : s_dk T220.2.2.1 13 [.aload_n 0, .dup] 15 = true := by decide +kernel
theorem D220_15 : decode T220.2.2.1 15 = .ok (.getfield 334, 3) := by decide +kernel
theorem B220_18_20 : s_dk T220.2.2.1 18 [.iconst 1, .iadd] 20 = true := by decide +kernel
theorem pf_11_334_77 : s_pf 11 334 77 = some (38, 1) := by decide +kernel
theorem D220_20 : decode T220.2.2.1 20 = .ok (.putfield 334, 3) := by decide +kernel
theorem B220_23_24 : s_dk T220.2.2.1 23 [.aload_n 0] 24 = true := by decide +kernel
theorem D220_24 : decode T220.2.2.1 24 = .ok (.invokevirtual 321, 3) := by decide +kernel
theorem D220_27 : decode T220.2.2.1 27 = .ok (.ifCond .eq 13, 3) := by decide +kernel
theorem D220_40 : decode T220.2.2.1 40 = .ok (.return_, 1) := by decide +kernel
theorem B220_30_32 : s_dk T220.2.2.1 30 [.aload_n 0, .dup] 32 = true := by decide +kernel
theorem D220_32 : decode T220.2.2.1 32 = .ok (.getfield 325, 3) := by decide +kernel
theorem B220_35_37 : s_dk T220.2.2.1 35 [.iconst 1, .iadd] 37 = true := by decide +kernel
theorem D220_37 : decode T220.2.2.1 37 = .ok (.putfield 325, 3) := by decide +kernel
theorem B220_9_10 : s_dk T220.2.2.1 9 [.aload_n 0] 10 = true := by decide +kernel
theorem D220_10 : decode T220.2.2.1 10 = .ok (.invokevirtual 331, 3) := by decide +kernel
noncomputable def T228 : mT := (11, yX11_readPart, cX11_readPart, 3, none)
set_option maxRecDepth 10000 in
theorem TE228 : sy_m[228]? = some T228 := rfl
theorem B228_0_1 : s_dk T228.2.2.1 0 [.aload_n 0] 1 = true := by decide +kernel
theorem D228_1 : decode T228.2.2.1 1 = .ok (.invokevirtual 321, 3) := by decide +kernel
theorem D228_4 : decode T228.2.2.1 4 = .ok (.ifCond .ne 4, 3) := by decide +kernel
theorem B228_8_9 : s_dk T228.2.2.1 8 [.aload_n 0] 9 = true := by decide +kernel
theorem D228_9 : decode T228.2.2.1 9 = .ok (.getfield 78, 3) := by decide +kernel
theorem B228_12_13 : s_dk T228.2.2.1 12 [.aload_n 0] 13 = true := by decide +kernel
theorem D228_13 : decode T228.2.2.1 13 = .ok (.getfield 325, 3) := by decide +kernel
theorem D228_16 : decode T228.2.2.1 16 = .ok (.iaload, 1) := by decide +kernel
theorem B228_17_21 : s_dk T228.2.2.1 17 [.istore_n 2, .iload_n 2, .bipush 91] 21 = true := by decide +kernel
theorem D228_21 : decode T228.2.2.1 21 = .ok (.invokestatic 346, 3) := by decide +kernel
theorem ck_11_static_346 : m_call 11 (.invokestatic 346) = some (1, 221, 1) := by decide +kernel
theorem D228_24 : decode T228.2.2.1 24 = .ok (.if_icmp .ne 50, 3) := by decide +kernel
theorem B228_74_77 : s_dk T228.2.2.1 74 [.iload_n 2, .bipush 50] 77 = true := by decide +kernel
theorem D228_77 : decode T228.2.2.1 77 = .ok (.if_icmp .ne 18, 3) := by decide +kernel
theorem B228_95_98 : s_dk T228.2.2.1 95 [.iload_n 2, .bipush 13] 98 = true := by decide +kernel
theorem D228_98 : decode T228.2.2.1 98 = .ok (.if_icmp .lt 16, 3) := by decide +kernel
theorem B228_114_115 : s_dk T228.2.2.1 114 [.aload_n 0] 115 = true := by decide +kernel
theorem D228_115 : decode T228.2.2.1 115 = .ok (.invokevirtual 331, 3) := by decide +kernel
theorem D228_118 : decode T228.2.2.1 118 = .ok (.return_, 1) := by decide +kernel
theorem B228_101_104 : s_dk T228.2.2.1 101 [.iload_n 2, .bipush 21] 104 = true := by decide +kernel
theorem D228_104 : decode T228.2.2.1 104 = .ok (.if_icmp .gt 10, 3) := by decide +kernel
theorem B228_107_108 : s_dk T228.2.2.1 107 [.aload_n 0] 108 = true := by decide +kernel
theorem D228_108 : decode T228.2.2.1 108 = .ok (.invokevirtual 353, 3) := by decide +kernel
theorem ck_11_virtual_353 : m_call 11 (.invokevirtual 353) = some (0, 220, 0) := by decide +kernel
theorem D228_111 : decode T228.2.2.1 111 = .ok (.goto 7, 3) := by decide +kernel
theorem B228_80_81 : s_dk T228.2.2.1 80 [.aload_n 0] 81 = true := by decide +kernel
theorem D228_81 : decode T228.2.2.1 81 = .ok (.getfield 81, 3) := by decide +kernel
theorem B228_84_85 : s_dk T228.2.2.1 84 [.aload_n 0] 85 = true := by decide +kernel
theorem D228_85 : decode T228.2.2.1 85 = .ok (.getfield 325, 3) := by decide +kernel
theorem D228_88 : decode T228.2.2.1 88 = .ok (.iaload, 1) := by decide +kernel
theorem ci_11_365 : m_ci 11 365 = some (100000) := by decide +kernel
theorem D228_89 : decode T228.2.2.1 89 = .ok (.ldc_w 365, 3) := by decide +kernel
theorem D228_92 : decode T228.2.2.1 92 = .ok (.if_icmp .le 15, 3) := by decide +kernel
theorem B228_27_30 : s_dk T228.2.2.1 27 [.iload_n 1, .bipush 8] 30 = true := by decide +kernel
theorem D228_30 : decode T228.2.2.1 30 = .ok (.if_icmp .ne 7, 3) := by decide +kernel
theorem B228_37_38 : s_dk T228.2.2.1 37 [.aload_n 0] 38 = true := by decide +kernel
theorem D228_38 : decode T228.2.2.1 38 = .ok (.invokevirtual 321, 3) := by decide +kernel
theorem D228_41 : decode T228.2.2.1 41 = .ok (.ifCond .ne 4, 3) := by decide +kernel
theorem B228_45_47 : s_dk T228.2.2.1 45 [.aload_n 0, .dup] 47 = true := by decide +kernel
theorem D228_47 : decode T228.2.2.1 47 = .ok (.getfield 325, 3) := by decide +kernel
theorem B228_50_52 : s_dk T228.2.2.1 50 [.iconst 1, .iadd] 52 = true := by decide +kernel
theorem D228_52 : decode T228.2.2.1 52 = .ok (.putfield 325, 3) := by decide +kernel
theorem B228_55_59 : s_dk T228.2.2.1 55 [.aload_n 0, .iload_n 1, .iconst 1, .iadd] 59 = true := by decide +kernel
theorem D228_59 : decode T228.2.2.1 59 = .ok (.invokevirtual 356, 3) := by decide +kernel
theorem ck_11_virtual_356 : m_call 11 (.invokevirtual 356) = some (0, 226, 1) := by decide +kernel
noncomputable def T226 : mT := (11, yX11_readSum, cX11_readSum, 2, none)
set_option maxRecDepth 10000 in
theorem TE226 : sy_m[226]? = some T226 := rfl
theorem B228_62_65 : s_dk T228.2.2.1 62 [.aload_n 0, .bipush 93] 65 = true := by decide +kernel
theorem D228_65 : decode T228.2.2.1 65 = .ok (.invokestatic 346, 3) := by decide +kernel
theorem D228_68 : decode T228.2.2.1 68 = .ok (.invokevirtual 350, 3) := by decide +kernel
theorem ck_11_virtual_350 : m_call 11 (.invokevirtual 350) = some (0, 219, 1) := by decide +kernel
theorem D228_71 : decode T228.2.2.1 71 = .ok (.goto 47, 3) := by decide +kernel
theorem D228_44 : decode T228.2.2.1 44 = .ok (.return_, 1) := by decide +kernel
theorem B228_33_34 : s_dk T228.2.2.1 33 [.aload_n 0] 34 = true := by decide +kernel
theorem D228_34 : decode T228.2.2.1 34 = .ok (.invokevirtual 331, 3) := by decide +kernel
theorem D228_7 : decode T228.2.2.1 7 = .ok (.return_, 1) := by decide +kernel
noncomputable def T227 : mT := (11, yX11_readTerm, cX11_readTerm, 2, none)
set_option maxRecDepth 10000 in
theorem TE227 : sy_m[227]? = some T227 := rfl
theorem B227_0_2 : s_dk T227.2.2.1 0 [.aload_n 0, .iload_n 1] 2 = true := by decide +kernel
theorem D227_2 : decode T227.2.2.1 2 = .ok (.invokevirtual 362, 3) := by decide +kernel
theorem ck_11_virtual_362 : m_call 11 (.invokevirtual 362) = some (0, 228, 1) := by decide +kernel
theorem B227_5_8 : s_dk T227.2.2.1 5 [.aload_n 0, .bipush 42] 8 = true := by decide +kernel
theorem D227_8 : decode T227.2.2.1 8 = .ok (.invokestatic 346, 3) := by decide +kernel
theorem D227_11 : decode T227.2.2.1 11 = .ok (.invokevirtual 328, 3) := by decide +kernel
theorem D227_14 : decode T227.2.2.1 14 = .ok (.ifCond .ne 15, 3) := by decide +kernel
theorem B227_29_31 : s_dk T227.2.2.1 29 [.aload_n 0, .iload_n 1] 31 = true := by decide +kernel
theorem D227_31 : decode T227.2.2.1 31 = .ok (.invokevirtual 362, 3) := by decide +kernel
theorem D227_34 : decode T227.2.2.1 34 = .ok (.goto (-29), 3) := by decide +kernel
theorem B227_17_20 : s_dk T227.2.2.1 17 [.aload_n 0, .bipush 47] 20 = true := by decide +kernel
theorem D227_20 : decode T227.2.2.1 20 = .ok (.invokestatic 346, 3) := by decide +kernel
theorem D227_23 : decode T227.2.2.1 23 = .ok (.invokevirtual 328, 3) := by decide +kernel
theorem D227_26 : decode T227.2.2.1 26 = .ok (.ifCond .eq 11, 3) := by decide +kernel
theorem D227_37 : decode T227.2.2.1 37 = .ok (.return_, 1) := by decide +kernel
theorem B226_0_2 : s_dk T226.2.2.1 0 [.aload_n 0, .iload_n 1] 2 = true := by decide +kernel
theorem D226_2 : decode T226.2.2.1 2 = .ok (.invokevirtual 359, 3) := by decide +kernel
theorem ck_11_virtual_359 : m_call 11 (.invokevirtual 359) = some (0, 227, 1) := by decide +kernel
theorem B226_5_8 : s_dk T226.2.2.1 5 [.aload_n 0, .bipush 43] 8 = true := by decide +kernel
theorem D226_8 : decode T226.2.2.1 8 = .ok (.invokestatic 346, 3) := by decide +kernel
theorem D226_11 : decode T226.2.2.1 11 = .ok (.invokevirtual 328, 3) := by decide +kernel
theorem D226_14 : decode T226.2.2.1 14 = .ok (.ifCond .ne 15, 3) := by decide +kernel
theorem B226_29_31 : s_dk T226.2.2.1 29 [.aload_n 0, .iload_n 1] 31 = true := by decide +kernel
theorem D226_31 : decode T226.2.2.1 31 = .ok (.invokevirtual 359, 3) := by decide +kernel
theorem D226_34 : decode T226.2.2.1 34 = .ok (.goto (-29), 3) := by decide +kernel
theorem B226_17_20 : s_dk T226.2.2.1 17 [.aload_n 0, .bipush 45] 20 = true := by decide +kernel
theorem D226_20 : decode T226.2.2.1 20 = .ok (.invokestatic 346, 3) := by decide +kernel
theorem D226_23 : decode T226.2.2.1 23 = .ok (.invokevirtual 328, 3) := by decide +kernel
theorem D226_26 : decode T226.2.2.1 26 = .ok (.ifCond .eq 11, 3) := by decide +kernel
theorem D226_37 : decode T226.2.2.1 37 = .ok (.return_, 1) := by decide +kernel
set_option maxRecDepth 4000 in
theorem k216x {base : Nat} {X : Nat → Option mC} {G : Nat → Value} (E : EnvOK base X G) {d : Nat} (hd : 0 ≤ d) {M : mH} (H : HI base M) : sOk base X G d T216 [vR 77] M (pI (fun v M' => M' = M ∧ (v = 0 ∨ v = 1) ∧ (v = 1 → gi M 77 39 = -1) ∧ (v = 0 → gi M 77 39 ≠ -1))) := by
  refine sOk.of (show sRn base X G d T216 0 [(0, vR 77)] [] M _ from ?_)
  refine s_blx (lv' := [(0, vR 77)]) (st' := [vR 77]) B216_0_1 rfl ?_
  refine r_gint (ki := 39) (pc' := 4) D216_1 rfl gf_11_318_77 rfl H.1 ?_
  intro w1 e2 r3
  unfold inR at r3
  refine s_blx (lv' := [(0, vR 77)]) (st' := [vI (-1), vI w1]) B216_4_5 rfl ?_
  refine r_icmp (tgt := 12) (pc' := 8) D216_5 rfl rfl (by unfold inR; omega) (fun (c4 : w1 ≠ (-1)) => ?_) (fun (c4 : ¬ (w1 ≠ (-1))) => ?_)
  · refine s_blx (lv' := [(0, vR 77)]) (st' := [vI 0]) B216_12_13 rfl ?_
    exact r_zretI D216_13 rfl (by omega) (⟨rfl, by omega, by omega, by omega⟩)
  · refine s_blx (lv' := [(0, vR 77)]) (st' := [vI 1]) B216_8_9 rfl ?_
    refine r_goto (tgt := 13) D216_9 rfl ?_
    exact r_zretI D216_13 rfl (by omega) (⟨rfl, by omega, by omega, by omega⟩)
set_option maxRecDepth 4000 in
theorem k217x {base : Nat} {X : Nat → Option mC} {G : Nat → Value} (E : EnvOK base X G) {d : Nat} (hd : 1 ≤ d) {M : mH} (H : HI base M) : sOk base X G d T217 [vR 77] M (pV (fun M' => HI base M' ∧ Fr [(77, 40)] M M' ∧ (gi M' 77 39 ≠ -1))) := by
  have f0 : Fr [(77, 40)] M M := Fr.rf
  refine sOk.of (show sRn base X G d T217 0 [(0, vR 77)] [] M _ from ?_)
  refine s_blx (lv' := [(0, vR 77)]) (st' := [vR 77]) B217_0_1 rfl ?_
  refine r_vIp (c := 77) (args := []) (rest := []) (pc' := 4) D217_1 rfl ck_11_virtual_321 TE216 rfl (Nat.le_of_ble_eq_true rfl) ⟨Nat.le_of_ble_eq_true rfl, Nat.le_of_ble_eq_true rfl⟩ sc_77 ⟨rfl, by decide⟩ H.1 (dp_0 hd rfl) (k216x E (dp_n hd rfl) H ) ?_
  intro v1 q6
  obtain ⟨q3, q4, q5⟩ := q6
  refine r_ifc (tgt := 20) (pc' := 7) D217_4 rfl rfl (by unfold inR; omega) (fun (c7 : v1 = 0) => ?_) (fun (c7 : ¬ (v1 = 0)) => ?_)
  · exact r_retV D217_20 rfl (⟨H, f0, by omega⟩)
  · refine s_blx (lv' := [(0, vR 77)]) (st' := [vR 77, vR 77]) B217_7_9 rfl ?_
    refine r_gfix (r := 99) (pc' := 12) D217_9 rfl gf_11_84_77 H.1 ?_
    refine s_blx (lv' := [(0, vR 77)]) (st' := [vR 77, vR 99, vR 77]) B217_12_13 rfl ?_
    refine r_gint (ki := 37) (pc' := 16) D217_13 rfl gf_11_325_77 rfl H.1 ?_
    intro w8 e9 r10
    have b_w8 := H.2 77 (37) 0 400 rfl
    rw [← e9] at b_w8; clear r10
    refine r_iald (pc' := 17) D217_16 rfl sc_99 H.1 (by omega) ?_
    intro w11 e12 r13
    have b_w11 := H.2 99 (w8) 0 400 rfl
    rw [← e12] at b_w11; clear r13
    refine r_pint (ki := 39) (pc' := 20) D217_17 rfl pf_11_318_77 rfl H (by unfold inR; omega) trivial ?_
    intro M14 u15 H16 p17
    have f18 := f0.wr u15 rfl
    have g19 : gi M14 77 39 = w11 := p17
    exact r_retV D217_20 rfl (⟨H16, f18, by rw [g19]; omega⟩)
set_option maxRecDepth 4000 in
theorem k218x {base : Nat} {X : Nat → Option mC} {G : Nat → Value} (E : EnvOK base X G) {d : Nat} (hd : 1 ≤ d) {M : mH} (H : HI base M) (c : Int) (tk : Int) (tok : Int) (F : Int → Int) (C : Int → Int) (h0 : PC C M) (h1 : ∀ j : Int, 0 ≤ j → F (j + 1) = dl (F j) (C j)) (h2 : gi M 77 36 = tk) (h3 : C tk = 0) (h4 : 0 ≤ tk ∧ tk ≤ 400) (h5 : gi M 77 37 = tok) (h6 : 0 ≤ tok ∧ tok ≤ tk) (h7 : -2147483648 ≤ c ∧ c ≤ 2147483647) (h8 : c ≠ 0) : sOk base X G d T218 [vR 77, vI c] M (pI (fun v M' => HI base M' ∧ Fr [(77, 38)] M M' ∧ (v = 0 ∨ v = 1) ∧ (tok ≤ gi M' 77 37 ∧ gi M' 77 37 ≤ tk) ∧ (v = 1 → gi M' 77 37 = tok + 1 ∧ C tok = c ∧ gi M 77 39 = -1 ∧ F (gi M' 77 37) = dl (F tok) c) ∧ (v = 0 → gi M' 77 37 = tok ∧ F (gi M' 77 37) = F tok ∧ C (gi M' 77 37) = C tok ∧ (gi M 77 39 ≠ -1 ∨ C tok ≠ c)))) := by
  have f0 : Fr [(77, 38)] M M := Fr.rf
  refine sOk.of (show sRn base X G d T218 0 [(0, vR 77), (1, vI c)] [] M _ from ?_)
  refine s_blx (lv' := [(0, vR 77), (1, vI c)]) (st' := [vR 77]) B218_0_1 rfl ?_
  refine r_vIp (c := 77) (args := []) (rest := []) (pc' := 4) D218_1 rfl ck_11_virtual_321 TE216 rfl (Nat.le_of_ble_eq_true rfl) ⟨Nat.le_of_ble_eq_true rfl, Nat.le_of_ble_eq_true rfl⟩ sc_77 ⟨rfl, by decide⟩ H.1 (dp_0 hd rfl) (k216x E (dp_n hd rfl) H ) ?_
  intro v1 q6
  obtain ⟨q3, q4, q5⟩ := q6
  refine r_ifc (tgt := 24) (pc' := 7) D218_4 rfl rfl (by unfold inR; omega) (fun (c7 : v1 = 0) => ?_) (fun (c7 : ¬ (v1 = 0)) => ?_)
  · refine s_blx (lv' := [(2, vI 0), (0, vR 77), (1, vI c)]) (st' := [vI 0]) B218_24_27 rfl ?_
    refine r_ifc (tgt := 40) (pc' := 30) D218_27 rfl rfl (by unfold inR; omega) (fun (c8 : 0 = 0) => ?_) (fun (c8 : ¬ (0 = 0)) => ?_)
    · refine s_blx (lv' := [(2, vI 0), (0, vR 77), (1, vI c)]) (st' := [vI 0]) B218_40_41 rfl ?_
      have g9 : gi M 77 37 = tok := h5
      exact r_zretI D218_41 rfl (by omega) (⟨H, f0, by omega, by rw [g9]; omega, by rw [g9]; omega, by rw [g9]; omega⟩)
    · exfalso; omega
  · refine s_blx (lv' := [(0, vR 77), (1, vI c)]) (st' := [vR 77]) B218_7_8 rfl ?_
    refine r_gfix (r := 97) (pc' := 11) D218_8 rfl gf_11_78_77 H.1 ?_
    refine s_blx (lv' := [(0, vR 77), (1, vI c)]) (st' := [vR 77, vR 97]) B218_11_12 rfl ?_
    refine r_gint (ki := 37) (pc' := 15) D218_12 rfl gf_11_325_77 rfl H.1 ?_
    intro w10 e11 r12
    have e13 : tok = w10 := (e11.trans (h5)).symm
    subst e13
    refine r_iald (pc' := 16) D218_15 rfl sc_97 H.1 (by omega) ?_
    intro w14 e15 r16
    unfold inR at r16
    have kc := h0 tok
    have kn := tk_lt (t := tok) h3 (by omega)
    refine s_blx (lv' := [(0, vR 77), (1, vI c)]) (st' := [vI c, vI w14]) B218_16_17 rfl ?_
    refine r_icmp (tgt := 24) (pc' := 20) D218_17 rfl rfl (by unfold inR; omega) (fun (c17 : w14 ≠ c) => ?_) (fun (c17 : ¬ (w14 ≠ c)) => ?_)
    · refine s_blx (lv' := [(2, vI 0), (0, vR 77), (1, vI c)]) (st' := [vI 0]) B218_24_27 rfl ?_
      refine r_ifc (tgt := 40) (pc' := 30) D218_27 rfl rfl (by unfold inR; omega) (fun (c18 : 0 = 0) => ?_) (fun (c18 : ¬ (0 = 0)) => ?_)
      · refine s_blx (lv' := [(2, vI 0), (0, vR 77), (1, vI c)]) (st' := [vI 0]) B218_40_41 rfl ?_
        have g19 : gi M 77 37 = tok := h5
        exact r_zretI D218_41 rfl (by omega) (⟨H, f0, by omega, by rw [g19]; omega, by rw [g19]; omega, by rw [g19]; omega⟩)
      · exfalso; omega
    · refine s_blx (lv' := [(0, vR 77), (1, vI c)]) (st' := [vI 1]) B218_20_21 rfl ?_
      refine r_goto (tgt := 25) D218_21 rfl ?_
      refine s_blx (lv' := [(2, vI 1), (0, vR 77), (1, vI c)]) (st' := [vI 1]) B218_25_27 rfl ?_
      refine r_ifc (tgt := 40) (pc' := 30) D218_27 rfl rfl (by unfold inR; omega) (fun (c20 : 1 = 0) => ?_) (fun (c20 : ¬ (1 = 0)) => ?_)
      · exfalso; omega
      · refine s_blx (lv' := [(2, vI 1), (0, vR 77), (1, vI c)]) (st' := [vR 77, vR 77]) B218_30_32 rfl ?_
        refine r_gint (ki := 37) (pc' := 35) D218_32 rfl gf_11_325_77 rfl H.1 ?_
        intro w21 e22 r23
        have e24 : tok = w21 := (e22.trans (h5)).symm
        subst e24
        refine s_blx (lv' := [(2, vI 1), (0, vR 77), (1, vI c)]) (st' := [vI (tok + 1), vR 77]) B218_35_37 rfl ?_
        refine r_pint (ki := 37) (pc' := 40) D218_37 rfl pf_11_325_77 rfl H (by unfold inR; omega) (show 0 ≤ (tok + 1) ∧ (tok + 1) ≤ 400 by omega) ?_
        intro M25 u26 H27 p28
        have f29 := f0.wr u26 rfl
        have kd := h1 tok (by omega)
        have ke : C tok = c := by omega
        rw [ke] at kd
        refine s_blx (lv' := [(2, vI 1), (0, vR 77), (1, vI c)]) (st' := [vI 1]) B218_40_41 rfl ?_
        have g30 : gi M25 77 37 = tok + 1 := p28
        exact r_zretI D218_41 rfl (by omega) (⟨H27, f29, by omega, by rw [g30]; omega, by rw [g30]; omega, by rw [g30]; omega⟩)
set_option maxRecDepth 4000 in
theorem k219x {base : Nat} {X : Nat → Option mC} {G : Nat → Value} (E : EnvOK base X G) {d : Nat} (hd : 2 ≤ d) {M : mH} (H : HI base M) (c : Int) (tk : Int) (tok : Int) (F : Int → Int) (C : Int → Int) (h0 : PC C M) (h1 : ∀ j : Int, 0 ≤ j → F (j + 1) = dl (F j) (C j)) (h2 : gi M 77 36 = tk) (h3 : C tk = 0) (h4 : 0 ≤ tk ∧ tk ≤ 400) (h5 : gi M 77 37 = tok) (h6 : 0 ≤ tok ∧ tok ≤ tk) (h7 : -2147483648 ≤ c ∧ c ≤ 2147483647) (h8 : c ≠ 0) : sOk base X G d T219 [vR 77, vI c] M (pV (fun M' => HI base M' ∧ Fr [(77, 38), (77, 40)] M M' ∧ (tok ≤ gi M' 77 37 ∧ gi M' 77 37 ≤ tk) ∧ (gi M' 77 39 = -1 → gi M 77 39 = -1 ∧ F (gi M' 77 37) = dl (F tok) c))) := by
  have f0 : Fr [(77, 38), (77, 40)] M M := Fr.rf
  refine sOk.of (show sRn base X G d T219 0 [(0, vR 77), (1, vI c)] [] M _ from ?_)
  refine s_blx (lv' := [(0, vR 77), (1, vI c)]) (st' := [vI c, vR 77]) B219_0_2 rfl ?_
  have g1 : gi M 77 36 = tk := h2
  have g2 : gi M 77 37 = tok := h5
  refine r_vI (c := 77) (args := [vI c]) (rest := []) (pc' := 5) D219_2 rfl ck_11_virtual_328 TE218 rfl (Nat.le_of_ble_eq_true rfl) ⟨Nat.le_of_ble_eq_true rfl, Nat.le_of_ble_eq_true rfl⟩ sc_77 ⟨rfl, by decide⟩ H.1 (dp_0 hd rfl) (k218x E (dp_n hd rfl) H c tk tok F C (h0) (h1) (by omega) (by omega) (by omega) (by omega) (by omega) (by omega) (by omega)) ?_
  intro v3 M4 q11
  obtain ⟨H5, f6, q7, q8, q9, q10⟩ := q11
  have f12 := f0.tr (f6.up rfl)
  obtain ⟨t13, ht14⟩ : ∃ q, q = gi M4 77 37 := ⟨_, rfl⟩
  rw [← ht14] at q8
  rw [← ht14] at q9
  rw [← ht14] at q10
  refine r_ifc (tgt := 12) (pc' := 8) D219_5 rfl rfl (by unfold inR; omega) (fun (c15 : v3 ≠ 0) => ?_) (fun (c15 : ¬ (v3 ≠ 0)) => ?_)
  · have g16 : gi M4 77 37 = t13 := ht14.symm
    have g17 : gi M4 77 39 = gi M 77 39 := (f6.g rfl).trans (rfl)
    exact r_retV D219_12 rfl (⟨H5, f12, by rw [g16]; omega, by rw [g16, g17]; omega⟩)
  · refine s_blx (lv' := [(0, vR 77), (1, vI c)]) (st' := [vR 77]) B219_8_9 rfl ?_
    refine r_vV (c := 77) (args := []) (rest := []) (pc' := 12) D219_9 rfl ck_11_virtual_331 TE217 rfl (Nat.le_of_ble_eq_true rfl) ⟨Nat.le_of_ble_eq_true rfl, Nat.le_of_ble_eq_true rfl⟩ sc_77 ⟨rfl, by decide⟩ H5.1 (dp_0 hd rfl) (k217x E (dp_n hd rfl) H5 ) ?_
    intro M19 q23
    obtain ⟨H20, f21, q22⟩ := q23
    have f24 := f12.tr (f21.up rfl)
    obtain ⟨t25, ht26⟩ : ∃ q, q = gi M19 77 39 := ⟨_, rfl⟩
    rw [← ht26] at q22
    have g27 : gi M19 77 37 = t13 := (f21.g rfl).trans (ht14.symm)
    have g28 : gi M19 77 39 = t25 := ht26.symm
    exact r_retV D219_12 rfl (⟨H20, f24, by rw [g27]; omega, by rw [g27, g28]; omega⟩)
set_option maxRecDepth 4000 in
theorem k220x {base : Nat} {X : Nat → Option mC} {G : Nat → Value} (E : EnvOK base X G) {d : Nat} (hd : 2 ≤ d) {M : mH} (H : HI base M) (tk : Int) (tok : Int) (F : Int → Int) (C : Int → Int) (h0 : PC C M) (h1 : ∀ j : Int, 0 ≤ j → F (j + 1) = dl (F j) (C j)) (h2 : gi M 77 36 = tk) (h3 : C tk = 0) (h4 : 0 ≤ tk ∧ tk ≤ 400) (h5 : gi M 77 37 = tok) (h6 : 0 ≤ tok ∧ tok ≤ tk) (h7 : gi M 77 39 = -1) (h8 : tok < tk) : sOk base X G d T220 [vR 77] M (pV (fun M' => HI base M' ∧ Fr [(77, 38), (77, 39), (77, 40)] M M' ∧ (tok ≤ gi M' 77 37 ∧ gi M' 77 37 ≤ tk) ∧ (gi M' 77 39 = -1 → F (gi M' 77 37) = dl (F tok) (C tok)))) := by
  have f0 : Fr [(77, 38), (77, 39), (77, 40)] M M := Fr.rf
  refine sOk.of (show sRn base X G d T220 0 [(0, vR 77)] [] M _ from ?_)
  refine s_blx (lv' := [(0, vR 77)]) (st' := [vR 77]) B220_0_1 rfl ?_
  refine r_gint (ki := 38) (pc' := 4) D220_1 rfl gf_11_334_77 rfl H.1 ?_
  intro w1 e2 r3
  unfold inR at r3
  refine s_blx (lv' := [(0, vR 77)]) (st' := [vI 50, vI w1]) B220_4_6 rfl ?_
  refine r_icmp (tgt := 13) (pc' := 9) D220_6 rfl rfl (by unfold inR; omega) (fun (c4 : w1 ≠ 50) => ?_) (fun (c4 : ¬ (w1 ≠ 50)) => ?_)
  · refine s_blx (lv' := [(0, vR 77)]) (st' := [vR 77, vR 77]) B220_13_15 rfl ?_
    refine r_gint (ki := 38) (pc' := 18) D220_15 rfl gf_11_334_77 rfl H.1 ?_
    intro w5 e6 r7
    have e8 : w1 = w5 := (e6.trans (e2.symm)).symm
    subst e8
    refine s_blx (lv' := [(0, vR 77)]) (st' := [vI (w1 + 1), vR 77]) B220_18_20 rfl ?_
    refine r_norm ?_
    intro z9 r10 _; unfold inR at r10
    refine r_pint (ki := 38) (pc' := 23) D220_20 rfl pf_11_334_77 rfl H (by unfold inR; omega) trivial ?_
    intro M11 u12 H13 p14
    have f15 := f0.wr u12 rfl
    refine s_blx (lv' := [(0, vR 77)]) (st' := [vR 77]) B220_23_24 rfl ?_
    have g16 : gi M11 77 39 = gi M 77 39 := (u12.gi_ne (by decide) (Or.inr (by decide))).trans (rfl)
    refine r_vIp (c := 77) (args := []) (rest := []) (pc' := 27) D220_24 rfl ck_11_virtual_321 TE216 rfl (Nat.le_of_ble_eq_true rfl) ⟨Nat.le_of_ble_eq_true rfl, Nat.le_of_ble_eq_true rfl⟩ sc_77 ⟨rfl, by decide⟩ H13.1 (dp_0 hd rfl) (k216x E (dp_n hd rfl) H13 ) ?_
    intro v17 q22
    obtain ⟨q19, q20, q21⟩ := q22
    refine r_ifc (tgt := 40) (pc' := 30) D220_27 rfl rfl (by unfold inR; omega) (fun (c23 : v17 = 0) => ?_) (fun (c23 : ¬ (v17 = 0)) => ?_)
    · have g24 : gi M11 77 37 = tok := (u12.gi_ne (by decide) (Or.inr (by decide))).trans (h5)
      have g25 : gi M11 77 39 = gi M 77 39 := (u12.gi_ne (by decide) (Or.inr (by decide))).trans (rfl)
      exact r_retV D220_40 rfl (⟨H13, f15, by rw [g24]; omega, by rw [g24, g25]; omega⟩)
    · refine s_blx (lv' := [(0, vR 77)]) (st' := [vR 77, vR 77]) B220_30_32 rfl ?_
      refine r_gint (ki := 37) (pc' := 35) D220_32 rfl gf_11_325_77 rfl H13.1 ?_
      intro w26 e27 r28
      have e29 : tok = w26 := (e27.trans ((u12.gi_ne (by decide) (Or.inr (by decide))).trans (h5))).symm
      subst e29
      refine s_blx (lv' := [(0, vR 77)]) (st' := [vI (tok + 1), vR 77]) B220_35_37 rfl ?_
      refine r_pint (ki := 37) (pc' := 40) D220_37 rfl pf_11_325_77 rfl H13 (by unfold inR; omega) (show 0 ≤ (tok + 1) ∧ (tok + 1) ≤ 400 by omega) ?_
      intro M30 u31 H32 p33
      have f34 := f15.wr u31 rfl
      have kd := h1 tok (by omega)
      have g35 : gi M30 77 37 = tok + 1 := p33
      have g36 : gi M30 77 39 = gi M 77 39 := (u31.gi_ne (by decide) (Or.inr (by decide))).trans ((u12.gi_ne (by decide) (Or.inr (by decide))).trans (rfl))
      exact r_retV D220_40 rfl (⟨H32, f34, by rw [g35]; omega, by rw [g35, g36]; omega⟩)
  · refine s_blx (lv' := [(0, vR 77)]) (st' := [vR 77]) B220_9_10 rfl ?_
    refine r_vV (c := 77) (args := []) (rest := []) (pc' := 13) D220_10 rfl ck_11_virtual_331 TE217 rfl (Nat.le_of_ble_eq_true rfl) ⟨Nat.le_of_ble_eq_true rfl, Nat.le_of_ble_eq_true rfl⟩ sc_77 ⟨rfl, by decide⟩ H.1 (dp_0 hd rfl) (k217x E (dp_n hd rfl) H ) ?_
    intro M38 q42
    obtain ⟨H39, f40, q41⟩ := q42
    have f43 := f0.tr (f40.up rfl)
    obtain ⟨t44, ht45⟩ : ∃ q, q = gi M38 77 39 := ⟨_, rfl⟩
    rw [← ht45] at q41
    refine s_blx (lv' := [(0, vR 77)]) (st' := [vR 77, vR 77]) B220_13_15 rfl ?_
    refine r_gint (ki := 38) (pc' := 18) D220_15 rfl gf_11_334_77 rfl H39.1 ?_
    intro w46 e47 r48
    have e49 : w1 = w46 := (e47.trans ((f40.g rfl).trans (e2.symm))).symm
    subst e49
    refine s_blx (lv' := [(0, vR 77)]) (st' := [vI (w1 + 1), vR 77]) B220_18_20 rfl ?_
    refine r_pint (ki := 38) (pc' := 23) D220_20 rfl pf_11_334_77 rfl H39 (by unfold inR; omega) trivial ?_
    intro M50 u51 H52 p53
    have f54 := f43.wr u51 rfl
    refine s_blx (lv' := [(0, vR 77)]) (st' := [vR 77]) B220_23_24 rfl ?_
    have g55 : gi M50 77 39 = t44 := (u51.gi_ne (by decide) (Or.inr (by decide))).trans (ht45.symm)
    refine r_vIp (c := 77) (args := []) (rest := []) (pc' := 27) D220_24 rfl ck_11_virtual_321 TE216 rfl (Nat.le_of_ble_eq_true rfl) ⟨Nat.le_of_ble_eq_true rfl, Nat.le_of_ble_eq_true rfl⟩ sc_77 ⟨rfl, by decide⟩ H52.1 (dp_0 hd rfl) (k216x E (dp_n hd rfl) H52 ) ?_
    intro v56 q61
    obtain ⟨q58, q59, q60⟩ := q61
    refine r_ifc (tgt := 40) (pc' := 30) D220_27 rfl rfl (by unfold inR; omega) (fun (c62 : v56 = 0) => ?_) (fun (c62 : ¬ (v56 = 0)) => ?_)
    · have g63 : gi M50 77 37 = tok := (u51.gi_ne (by decide) (Or.inr (by decide))).trans ((f40.g rfl).trans (h5))
      have g64 : gi M50 77 39 = t44 := (u51.gi_ne (by decide) (Or.inr (by decide))).trans (ht45.symm)
      exact r_retV D220_40 rfl (⟨H52, f54, by rw [g63]; omega, by rw [g63, g64]; omega⟩)
    · refine s_blx (lv' := [(0, vR 77)]) (st' := [vR 77, vR 77]) B220_30_32 rfl ?_
      refine r_gint (ki := 37) (pc' := 35) D220_32 rfl gf_11_325_77 rfl H52.1 ?_
      intro w65 e66 r67
      have e68 : tok = w65 := (e66.trans ((u51.gi_ne (by decide) (Or.inr (by decide))).trans ((f40.g rfl).trans (h5)))).symm
      subst e68
      refine s_blx (lv' := [(0, vR 77)]) (st' := [vI (tok + 1), vR 77]) B220_35_37 rfl ?_
      refine r_pint (ki := 37) (pc' := 40) D220_37 rfl pf_11_325_77 rfl H52 (by unfold inR; omega) (show 0 ≤ (tok + 1) ∧ (tok + 1) ≤ 400 by omega) ?_
      intro M69 u70 H71 p72
      have f73 := f54.wr u70 rfl
      have kd := h1 tok (by omega)
      have g74 : gi M69 77 37 = tok + 1 := p72
      have g75 : gi M69 77 39 = t44 := (u70.gi_ne (by decide) (Or.inr (by decide))).trans ((u51.gi_ne (by decide) (Or.inr (by decide))).trans (ht45.symm))
      exact r_retV D220_40 rfl (⟨H71, f73, by rw [g74]; omega, by rw [g74, g75]; omega⟩)
set_option maxRecDepth 4000 in
theorem k228x {base : Nat} {X : Nat → Option mC} {G : Nat → Value} (E : EnvOK base X G) {rr : Nat} (ihr : ∀ {d : Nat} (_ : 3 + 3 * rr ≤ d) {M : mH} (_ : HI base M) (deep : Int) (p : Int) (q : Int) (s : Int) (tk : Int) (tok : Int) (F : Int → Int) (C : Int → Int), (PC C M) → (∀ j : Int, 0 ≤ j → F (j + 1) = dl (F j) (C j)) → (gi M 77 36 = tk) → (C tk = 0) → (0 ≤ tk ∧ tk ≤ 400) → (gi M 77 37 = tok) → (0 ≤ tok ∧ tok ≤ tk) → (gi M 77 39 = -1 → F tok = 1000 + 100 * p + 10 * q + s ∨ (F tok = 10 + p ∧ q = 0 ∧ s = 0)) → (0 ≤ p ∧ 0 ≤ q ∧ p + q = deep) → (0 ≤ deep ∧ deep ≤ 8) → (0 ≤ s ∧ s ≤ 1) → 8 - deep < ((rr : Nat) : Int) → sOk base X G d T226 [vR 77, vI deep] M (pV (fun M' => HI base M' ∧ Fr [(77, 38), (77, 39), (77, 40)] M M' ∧ (tok ≤ gi M' 77 37 ∧ gi M' 77 37 ≤ tk) ∧ (gi M' 77 39 = -1 → gi M 77 39 = -1 ∧ F (gi M' 77 37) = 2000 + 100 * p + 10 * q + s)))) {d : Nat} (hd : 4 + 3 * rr ≤ d) {M : mH} (H : HI base M) (deep : Int) (p : Int) (q : Int) (s : Int) (tk : Int) (tok : Int) (F : Int → Int) (C : Int → Int) (h0 : PC C M) (h1 : ∀ j : Int, 0 ≤ j → F (j + 1) = dl (F j) (C j)) (h2 : gi M 77 36 = tk) (h3 : C tk = 0) (h4 : 0 ≤ tk ∧ tk ≤ 400) (h5 : gi M 77 37 = tok) (h6 : 0 ≤ tok ∧ tok ≤ tk) (h7 : gi M 77 39 = -1 → F tok = 1000 + 100 * p + 10 * q + s ∨ (F tok = 10 + p ∧ q = 0 ∧ s = 0)) (h8 : 0 ≤ p ∧ 0 ≤ q ∧ p + q = deep) (h9 : 0 ≤ deep ∧ deep ≤ 8) (h10 : 0 ≤ s ∧ s ≤ 1) (h11 : 8 - deep < (rr : Int) + 1) : sOk base X G d T228 [vR 77, vI deep] M (pV (fun M' => HI base M' ∧ Fr [(77, 38), (77, 39), (77, 40)] M M' ∧ (tok ≤ gi M' 77 37 ∧ gi M' 77 37 ≤ tk) ∧ (gi M' 77 39 = -1 → gi M 77 39 = -1 ∧ F (gi M' 77 37) = 2000 + 100 * p + 10 * q + s))) := by
  have f0 : Fr [(77, 38), (77, 39), (77, 40)] M M := Fr.rf
  refine sOk.of (show sRn base X G d T228 0 [(0, vR 77), (1, vI deep)] [] M _ from ?_)
  refine s_blx (lv' := [(0, vR 77), (1, vI deep)]) (st' := [vR 77]) B228_0_1 rfl ?_
  refine r_vIp (c := 77) (args := []) (rest := []) (pc' := 4) D228_1 rfl ck_11_virtual_321 TE216 rfl (Nat.le_of_ble_eq_true rfl) ⟨Nat.le_of_ble_eq_true rfl, Nat.le_of_ble_eq_true rfl⟩ sc_77 ⟨rfl, by decide⟩ H.1 (by omega) (k216x E (by omega) H ) ?_
  intro v1 q6
  obtain ⟨q3, q4, q5⟩ := q6
  refine r_ifc (tgt := 8) (pc' := 7) D228_4 rfl rfl (by unfold inR; omega) (fun (c7 : v1 ≠ 0) => ?_) (fun (c7 : ¬ (v1 ≠ 0)) => ?_)
  · refine s_blx (lv' := [(0, vR 77), (1, vI deep)]) (st' := [vR 77]) B228_8_9 rfl ?_
    refine r_gfix (r := 97) (pc' := 12) D228_9 rfl gf_11_78_77 H.1 ?_
    refine s_blx (lv' := [(0, vR 77), (1, vI deep)]) (st' := [vR 77, vR 97]) B228_12_13 rfl ?_
    refine r_gint (ki := 37) (pc' := 16) D228_13 rfl gf_11_325_77 rfl H.1 ?_
    intro w8 e9 r10
    have e11 : tok = w8 := (e9.trans (h5)).symm
    subst e11
    refine r_iald (pc' := 17) D228_16 rfl sc_97 H.1 (by omega) ?_
    intro w12 e13 r14
    unfold inR at r14
    have kc := h0 tok
    have kn := tk_lt (t := tok) h3 (by omega)
    refine s_blx (lv' := [(2, vI w12), (0, vR 77), (1, vI deep)]) (st' := [vI 91, vI w12]) B228_17_21 rfl ?_
    refine r_sIp (args := [vI 91]) (rest := [vI w12]) (pc' := 24) D228_21 rfl ck_11_static_346 TE221 rfl (Nat.le_of_ble_eq_true rfl) ⟨Nat.le_of_ble_eq_true rfl, Nat.le_of_ble_eq_true rfl⟩ (by decide) (by omega) (k221 E (by omega) H 91 (by omega)) ?_
    intro v15 q18
    have q17 := q18; clear q18
    have e19 : v15 = 191 := by omega
    subst e19
    refine r_icmp (tgt := 74) (pc' := 27) D228_24 rfl rfl (by unfold inR; omega) (fun (c20 : w12 ≠ 191) => ?_) (fun (c20 : ¬ (w12 ≠ 191)) => ?_)
    · refine s_blx (lv' := [(2, vI w12), (0, vR 77), (1, vI deep)]) (st' := [vI 50, vI w12]) B228_74_77 rfl ?_
      refine r_icmp (tgt := 95) (pc' := 80) D228_77 rfl rfl (by unfold inR; omega) (fun (c21 : w12 ≠ 50) => ?_) (fun (c21 : ¬ (w12 ≠ 50)) => ?_)
      · refine s_blx (lv' := [(2, vI w12), (0, vR 77), (1, vI deep)]) (st' := [vI 13, vI w12]) B228_95_98 rfl ?_
        refine r_icmp (tgt := 114) (pc' := 101) D228_98 rfl rfl (by unfold inR; omega) (fun (c22 : w12 < 13) => ?_) (fun (c22 : ¬ (w12 < 13)) => ?_)
        · refine s_blx (lv' := [(2, vI w12), (0, vR 77), (1, vI deep)]) (st' := [vR 77]) B228_114_115 rfl ?_
          refine r_vV (c := 77) (args := []) (rest := []) (pc' := 118) D228_115 rfl ck_11_virtual_331 TE217 rfl (Nat.le_of_ble_eq_true rfl) ⟨Nat.le_of_ble_eq_true rfl, Nat.le_of_ble_eq_true rfl⟩ sc_77 ⟨rfl, by decide⟩ H.1 (by omega) (k217x E (by omega) H ) ?_
          intro M24 q28
          obtain ⟨H25, f26, q27⟩ := q28
          have f29 := f0.tr (f26.up rfl)
          obtain ⟨t30, ht31⟩ : ∃ q, q = gi M24 77 39 := ⟨_, rfl⟩
          rw [← ht31] at q27
          have g32 : gi M24 77 37 = tok := (f26.g rfl).trans (h5)
          have g33 : gi M24 77 39 = t30 := ht31.symm
          exact r_retV D228_118 rfl (⟨H25, f29, by rw [g32]; omega, by rw [g32, g33]; omega⟩)
        · refine s_blx (lv' := [(2, vI w12), (0, vR 77), (1, vI deep)]) (st' := [vI 21, vI w12]) B228_101_104 rfl ?_
          refine r_icmp (tgt := 114) (pc' := 107) D228_104 rfl rfl (by unfold inR; omega) (fun (c34 : 21 < w12) => ?_) (fun (c34 : ¬ (21 < w12)) => ?_)
          · refine s_blx (lv' := [(2, vI w12), (0, vR 77), (1, vI deep)]) (st' := [vR 77]) B228_114_115 rfl ?_
            refine r_vV (c := 77) (args := []) (rest := []) (pc' := 118) D228_115 rfl ck_11_virtual_331 TE217 rfl (Nat.le_of_ble_eq_true rfl) ⟨Nat.le_of_ble_eq_true rfl, Nat.le_of_ble_eq_true rfl⟩ sc_77 ⟨rfl, by decide⟩ H.1 (by omega) (k217x E (by omega) H ) ?_
            intro M36 q40
            obtain ⟨H37, f38, q39⟩ := q40
            have f41 := f0.tr (f38.up rfl)
            obtain ⟨t42, ht43⟩ : ∃ q, q = gi M36 77 39 := ⟨_, rfl⟩
            rw [← ht43] at q39
            have g44 : gi M36 77 37 = tok := (f38.g rfl).trans (h5)
            have g45 : gi M36 77 39 = t42 := ht43.symm
            exact r_retV D228_118 rfl (⟨H37, f41, by rw [g44]; omega, by rw [g44, g45]; omega⟩)
          · refine s_blx (lv' := [(2, vI w12), (0, vR 77), (1, vI deep)]) (st' := [vR 77]) B228_107_108 rfl ?_
            have k3 := d_lf (x := F tok) (c := C tok) (p := p) (q := q) (s := s)
            have g46 : gi M 77 36 = tk := h2
            have g47 : gi M 77 37 = tok := h5
            refine r_vV (c := 77) (args := []) (rest := []) (pc' := 111) D228_108 rfl ck_11_virtual_353 TE220 rfl (Nat.le_of_ble_eq_true rfl) ⟨Nat.le_of_ble_eq_true rfl, Nat.le_of_ble_eq_true rfl⟩ sc_77 ⟨rfl, by decide⟩ H.1 (by omega) (k220x E (by omega) H tk tok F C (h0) (h1) (by omega) (by omega) (by omega) (by omega) (by omega) (by omega) (by omega)) ?_
            intro M49 q54
            obtain ⟨H50, f51, q52, q53⟩ := q54
            have f55 := f0.tr (f51.up rfl)
            obtain ⟨t56, ht57⟩ : ∃ q, q = gi M49 77 37 := ⟨_, rfl⟩
            obtain ⟨t58, ht59⟩ : ∃ q, q = gi M49 77 39 := ⟨_, rfl⟩
            rw [← ht57] at q52
            rw [← ht57, ← ht59] at q53
            refine r_goto (tgt := 118) D228_111 rfl ?_
            have g60 : gi M49 77 37 = t56 := ht57.symm
            have g61 : gi M49 77 39 = t58 := ht59.symm
            exact r_retV D228_118 rfl (⟨H50, f55, by rw [g60]; omega, by rw [g60, g61]; omega⟩)
      · refine s_blx (lv' := [(2, vI w12), (0, vR 77), (1, vI deep)]) (st' := [vR 77]) B228_80_81 rfl ?_
        refine r_gfix (r := 98) (pc' := 84) D228_81 rfl gf_11_81_77 H.1 ?_
        refine s_blx (lv' := [(2, vI w12), (0, vR 77), (1, vI deep)]) (st' := [vR 77, vR 98]) B228_84_85 rfl ?_
        refine r_gint (ki := 37) (pc' := 88) D228_85 rfl gf_11_325_77 rfl H.1 ?_
        intro w62 e63 r64
        have e65 : tok = w62 := (e63.trans (h5)).symm
        subst e65
        refine r_iald (pc' := 89) D228_88 rfl sc_98 H.1 (by omega) ?_
        intro w66 e67 r68
        unfold inR at r68
        refine r_ldcw (e := 100000) (pc' := 92) D228_89 rfl ci_11_365 (by decide) ?_
        refine r_icmp (tgt := 107) (pc' := 95) D228_92 rfl rfl (by unfold inR; omega) (fun (c69 : w66 ≤ 100000) => ?_) (fun (c69 : ¬ (w66 ≤ 100000)) => ?_)
        · refine s_blx (lv' := [(2, vI w12), (0, vR 77), (1, vI deep)]) (st' := [vR 77]) B228_107_108 rfl ?_
          have k3 := d_lf (x := F tok) (c := C tok) (p := p) (q := q) (s := s)
          have g70 : gi M 77 36 = tk := h2
          have g71 : gi M 77 37 = tok := h5
          refine r_vV (c := 77) (args := []) (rest := []) (pc' := 111) D228_108 rfl ck_11_virtual_353 TE220 rfl (Nat.le_of_ble_eq_true rfl) ⟨Nat.le_of_ble_eq_true rfl, Nat.le_of_ble_eq_true rfl⟩ sc_77 ⟨rfl, by decide⟩ H.1 (by omega) (k220x E (by omega) H tk tok F C (h0) (h1) (by omega) (by omega) (by omega) (by omega) (by omega) (by omega) (by omega)) ?_
          intro M73 q78
          obtain ⟨H74, f75, q76, q77⟩ := q78
          have f79 := f0.tr (f75.up rfl)
          obtain ⟨t80, ht81⟩ : ∃ q, q = gi M73 77 37 := ⟨_, rfl⟩
          obtain ⟨t82, ht83⟩ : ∃ q, q = gi M73 77 39 := ⟨_, rfl⟩
          rw [← ht81] at q76
          rw [← ht81, ← ht83] at q77
          refine r_goto (tgt := 118) D228_111 rfl ?_
          have g84 : gi M73 77 37 = t80 := ht81.symm
          have g85 : gi M73 77 39 = t82 := ht83.symm
          exact r_retV D228_118 rfl (⟨H74, f79, by rw [g84]; omega, by rw [g84, g85]; omega⟩)
        · refine s_blx (lv' := [(2, vI w12), (0, vR 77), (1, vI deep)]) (st' := [vI 13, vI w12]) B228_95_98 rfl ?_
          refine r_icmp (tgt := 114) (pc' := 101) D228_98 rfl rfl (by unfold inR; omega) (fun (c86 : w12 < 13) => ?_) (fun (c86 : ¬ (w12 < 13)) => ?_)
          · exfalso; omega
          · refine s_blx (lv' := [(2, vI w12), (0, vR 77), (1, vI deep)]) (st' := [vI 21, vI w12]) B228_101_104 rfl ?_
            refine r_icmp (tgt := 114) (pc' := 107) D228_104 rfl rfl (by unfold inR; omega) (fun (c87 : 21 < w12) => ?_) (fun (c87 : ¬ (21 < w12)) => ?_)
            · refine s_blx (lv' := [(2, vI w12), (0, vR 77), (1, vI deep)]) (st' := [vR 77]) B228_114_115 rfl ?_
              refine r_vV (c := 77) (args := []) (rest := []) (pc' := 118) D228_115 rfl ck_11_virtual_331 TE217 rfl (Nat.le_of_ble_eq_true rfl) ⟨Nat.le_of_ble_eq_true rfl, Nat.le_of_ble_eq_true rfl⟩ sc_77 ⟨rfl, by decide⟩ H.1 (by omega) (k217x E (by omega) H ) ?_
              intro M89 q93
              obtain ⟨H90, f91, q92⟩ := q93
              have f94 := f0.tr (f91.up rfl)
              obtain ⟨t95, ht96⟩ : ∃ q, q = gi M89 77 39 := ⟨_, rfl⟩
              rw [← ht96] at q92
              have g97 : gi M89 77 37 = tok := (f91.g rfl).trans (h5)
              have g98 : gi M89 77 39 = t95 := ht96.symm
              exact r_retV D228_118 rfl (⟨H90, f94, by rw [g97]; omega, by rw [g97, g98]; omega⟩)
            · exfalso; omega
    · refine s_blx (lv' := [(2, vI w12), (0, vR 77), (1, vI deep)]) (st' := [vI 8, vI deep]) B228_27_30 rfl ?_
      refine r_icmp (tgt := 37) (pc' := 33) D228_30 rfl rfl (by unfold inR; omega) (fun (c99 : deep ≠ 8) => ?_) (fun (c99 : ¬ (deep ≠ 8)) => ?_)
      · refine s_blx (lv' := [(2, vI w12), (0, vR 77), (1, vI deep)]) (st' := [vR 77]) B228_37_38 rfl ?_
        refine r_vIp (c := 77) (args := []) (rest := []) (pc' := 41) D228_38 rfl ck_11_virtual_321 TE216 rfl (Nat.le_of_ble_eq_true rfl) ⟨Nat.le_of_ble_eq_true rfl, Nat.le_of_ble_eq_true rfl⟩ sc_77 ⟨rfl, by decide⟩ H.1 (by omega) (k216x E (by omega) H ) ?_
        intro v100 q105
        obtain ⟨q102, q103, q104⟩ := q105
        refine r_ifc (tgt := 45) (pc' := 44) D228_41 rfl rfl (by unfold inR; omega) (fun (c106 : v100 ≠ 0) => ?_) (fun (c106 : ¬ (v100 ≠ 0)) => ?_)
        · refine s_blx (lv' := [(2, vI w12), (0, vR 77), (1, vI deep)]) (st' := [vR 77, vR 77]) B228_45_47 rfl ?_
          refine r_gint (ki := 37) (pc' := 50) D228_47 rfl gf_11_325_77 rfl H.1 ?_
          intro w107 e108 r109
          have e110 : tok = w107 := (e108.trans (h5)).symm
          subst e110
          refine s_blx (lv' := [(2, vI w12), (0, vR 77), (1, vI deep)]) (st' := [vI (tok + 1), vR 77]) B228_50_52 rfl ?_
          refine r_pint (ki := 37) (pc' := 55) D228_52 rfl pf_11_325_77 rfl H (by unfold inR; omega) (show 0 ≤ (tok + 1) ∧ (tok + 1) ≤ 400 by omega) ?_
          intro M111 u112 H113 p114
          have f115 := f0.wr u112 rfl
          have kd := h1 tok (by omega)
          have ke : C tok = 191 := by omega
          rw [ke] at kd
          have k1 := d_ob (x := F tok) (p := p) (q := q) (s := s)
          refine s_blx (lv' := [(2, vI w12), (0, vR 77), (1, vI deep)]) (st' := [vI (deep + 1), vR 77]) B228_55_59 rfl ?_
          have g116 : gi M111 77 36 = tk := (u112.gi_ne (by decide) (Or.inr (by decide))).trans (h2)
          have g117 : gi M111 77 37 = tok + 1 := p114
          have g118 : gi M111 77 39 = gi M 77 39 := (u112.gi_ne (by decide) (Or.inr (by decide))).trans (rfl)
          refine r_vV (c := 77) (args := [vI (deep + 1)]) (rest := []) (pc' := 62) D228_59 rfl ck_11_virtual_356 TE226 rfl (Nat.le_of_ble_eq_true rfl) ⟨Nat.le_of_ble_eq_true rfl, Nat.le_of_ble_eq_true rfl⟩ sc_77 ⟨rfl, by decide⟩ H113.1 (by omega) (ihr (by omega) H113 (deep + 1) p (q + 1) s tk (tok + 1) F C ((h0.fr f115 rfl)) (h1) (by omega) (by omega) (by omega) (by omega) (by omega) (by omega) (by omega) (by omega) (by omega) (by omega)) ?_
          intro M120 q125
          obtain ⟨H121, f122, q123, q124⟩ := q125
          have f126 := f115.tr (f122.up rfl)
          obtain ⟨t127, ht128⟩ : ∃ q, q = gi M120 77 37 := ⟨_, rfl⟩
          obtain ⟨t129, ht130⟩ : ∃ q, q = gi M120 77 39 := ⟨_, rfl⟩
          rw [← ht128] at q123
          rw [← ht128, ← ht130] at q124
          refine s_blx (lv' := [(2, vI w12), (0, vR 77), (1, vI deep)]) (st' := [vI 93, vR 77]) B228_62_65 rfl ?_
          refine r_sIp (args := [vI 93]) (rest := [vR 77]) (pc' := 68) D228_65 rfl ck_11_static_346 TE221 rfl (Nat.le_of_ble_eq_true rfl) ⟨Nat.le_of_ble_eq_true rfl, Nat.le_of_ble_eq_true rfl⟩ (by decide) (by omega) (k221 E (by omega) H121 93 (by omega)) ?_
          intro v131 q134
          have q133 := q134; clear q134
          have e135 : v131 = 193 := by omega
          subst e135
          have k2 := d_cb (x := F t127)
          have g136 : gi M120 77 36 = tk := (f122.g rfl).trans ((u112.gi_ne (by decide) (Or.inr (by decide))).trans (h2))
          have g137 : gi M120 77 37 = t127 := ht128.symm
          have g138 : gi M120 77 39 = t129 := ht130.symm
          refine r_vV (c := 77) (args := [vI 193]) (rest := []) (pc' := 71) D228_68 rfl ck_11_virtual_350 TE219 rfl (Nat.le_of_ble_eq_true rfl) ⟨Nat.le_of_ble_eq_true rfl, Nat.le_of_ble_eq_true rfl⟩ sc_77 ⟨rfl, by decide⟩ H121.1 (by omega) (k219x E (by omega) H121 193 tk t127 F C ((h0.fr f126 rfl)) (h1) (by omega) (by omega) (by omega) (by omega) (by omega) (by omega) (by omega)) ?_
          intro M140 q145
          obtain ⟨H141, f142, q143, q144⟩ := q145
          have f146 := f126.tr (f142.up rfl)
          obtain ⟨t147, ht148⟩ : ∃ q, q = gi M140 77 37 := ⟨_, rfl⟩
          obtain ⟨t149, ht150⟩ : ∃ q, q = gi M140 77 39 := ⟨_, rfl⟩
          rw [← ht148] at q143
          rw [← ht148, ← ht150] at q144
          refine r_goto (tgt := 118) D228_71 rfl ?_
          have g151 : gi M140 77 37 = t147 := ht148.symm
          have g152 : gi M140 77 39 = t149 := ht150.symm
          exact r_retV D228_118 rfl (⟨H141, f146, by rw [g151]; omega, by rw [g151, g152]; omega⟩)
        · have g153 : gi M 77 37 = tok := h5
          exact r_retV D228_44 rfl (⟨H, f0, by rw [g153]; omega, by rw [g153]; omega⟩)
      · refine s_blx (lv' := [(2, vI w12), (0, vR 77), (1, vI deep)]) (st' := [vR 77]) B228_33_34 rfl ?_
        refine r_vV (c := 77) (args := []) (rest := []) (pc' := 37) D228_34 rfl ck_11_virtual_331 TE217 rfl (Nat.le_of_ble_eq_true rfl) ⟨Nat.le_of_ble_eq_true rfl, Nat.le_of_ble_eq_true rfl⟩ sc_77 ⟨rfl, by decide⟩ H.1 (by omega) (k217x E (by omega) H ) ?_
        intro M155 q159
        obtain ⟨H156, f157, q158⟩ := q159
        have f160 := f0.tr (f157.up rfl)
        obtain ⟨t161, ht162⟩ : ∃ q, q = gi M155 77 39 := ⟨_, rfl⟩
        rw [← ht162] at q158
        refine s_blx (lv' := [(2, vI w12), (0, vR 77), (1, vI deep)]) (st' := [vR 77]) B228_37_38 rfl ?_
        have g163 : gi M155 77 39 = t161 := ht162.symm
        refine r_vIp (c := 77) (args := []) (rest := []) (pc' := 41) D228_38 rfl ck_11_virtual_321 TE216 rfl (Nat.le_of_ble_eq_true rfl) ⟨Nat.le_of_ble_eq_true rfl, Nat.le_of_ble_eq_true rfl⟩ sc_77 ⟨rfl, by decide⟩ H156.1 (by omega) (k216x E (by omega) H156 ) ?_
        intro v164 q169
        obtain ⟨q166, q167, q168⟩ := q169
        refine r_ifc (tgt := 45) (pc' := 44) D228_41 rfl rfl (by unfold inR; omega) (fun (c170 : v164 ≠ 0) => ?_) (fun (c170 : ¬ (v164 ≠ 0)) => ?_)
        · refine s_blx (lv' := [(2, vI w12), (0, vR 77), (1, vI deep)]) (st' := [vR 77, vR 77]) B228_45_47 rfl ?_
          refine r_gint (ki := 37) (pc' := 50) D228_47 rfl gf_11_325_77 rfl H156.1 ?_
          intro w171 e172 r173
          have e174 : tok = w171 := (e172.trans ((f157.g rfl).trans (h5))).symm
          subst e174
          refine s_blx (lv' := [(2, vI w12), (0, vR 77), (1, vI deep)]) (st' := [vI (tok + 1), vR 77]) B228_50_52 rfl ?_
          refine r_pint (ki := 37) (pc' := 55) D228_52 rfl pf_11_325_77 rfl H156 (by unfold inR; omega) (show 0 ≤ (tok + 1) ∧ (tok + 1) ≤ 400 by omega) ?_
          intro M175 u176 H177 p178
          have f179 := f160.wr u176 rfl
          have kd := h1 tok (by omega)
          have ke : C tok = 191 := by omega
          rw [ke] at kd
          have k1 := d_ob (x := F tok) (p := p) (q := q) (s := s)
          refine s_blx (lv' := [(2, vI w12), (0, vR 77), (1, vI deep)]) (st' := [vI (deep + 1), vR 77]) B228_55_59 rfl ?_
          have g180 : gi M175 77 36 = tk := (u176.gi_ne (by decide) (Or.inr (by decide))).trans ((f157.g rfl).trans (h2))
          have g181 : gi M175 77 37 = tok + 1 := p178
          have g182 : gi M175 77 39 = t161 := (u176.gi_ne (by decide) (Or.inr (by decide))).trans (ht162.symm)
          refine r_vV (c := 77) (args := [vI (deep + 1)]) (rest := []) (pc' := 62) D228_59 rfl ck_11_virtual_356 TE226 rfl (Nat.le_of_ble_eq_true rfl) ⟨Nat.le_of_ble_eq_true rfl, Nat.le_of_ble_eq_true rfl⟩ sc_77 ⟨rfl, by decide⟩ H177.1 (by omega) (ihr (by omega) H177 (deep + 1) p (q + 1) s tk (tok + 1) F C ((h0.fr f179 rfl)) (h1) (by omega) (by omega) (by omega) (by omega) (by omega) (by omega) (by omega) (by omega) (by omega) (by omega)) ?_
          intro M184 q189
          obtain ⟨H185, f186, q187, q188⟩ := q189
          have f190 := f179.tr (f186.up rfl)
          obtain ⟨t191, ht192⟩ : ∃ q, q = gi M184 77 37 := ⟨_, rfl⟩
          obtain ⟨t193, ht194⟩ : ∃ q, q = gi M184 77 39 := ⟨_, rfl⟩
          rw [← ht192] at q187
          rw [← ht192, ← ht194] at q188
          refine s_blx (lv' := [(2, vI w12), (0, vR 77), (1, vI deep)]) (st' := [vI 93, vR 77]) B228_62_65 rfl ?_
          refine r_sIp (args := [vI 93]) (rest := [vR 77]) (pc' := 68) D228_65 rfl ck_11_static_346 TE221 rfl (Nat.le_of_ble_eq_true rfl) ⟨Nat.le_of_ble_eq_true rfl, Nat.le_of_ble_eq_true rfl⟩ (by decide) (by omega) (k221 E (by omega) H185 93 (by omega)) ?_
          intro v195 q198
          have q197 := q198; clear q198
          have e199 : v195 = 193 := by omega
          subst e199
          have k2 := d_cb (x := F t191)
          have g200 : gi M184 77 36 = tk := (f186.g rfl).trans ((u176.gi_ne (by decide) (Or.inr (by decide))).trans ((f157.g rfl).trans (h2)))
          have g201 : gi M184 77 37 = t191 := ht192.symm
          have g202 : gi M184 77 39 = t193 := ht194.symm
          refine r_vV (c := 77) (args := [vI 193]) (rest := []) (pc' := 71) D228_68 rfl ck_11_virtual_350 TE219 rfl (Nat.le_of_ble_eq_true rfl) ⟨Nat.le_of_ble_eq_true rfl, Nat.le_of_ble_eq_true rfl⟩ sc_77 ⟨rfl, by decide⟩ H185.1 (by omega) (k219x E (by omega) H185 193 tk t191 F C ((h0.fr f190 rfl)) (h1) (by omega) (by omega) (by omega) (by omega) (by omega) (by omega) (by omega)) ?_
          intro M204 q209
          obtain ⟨H205, f206, q207, q208⟩ := q209
          have f210 := f190.tr (f206.up rfl)
          obtain ⟨t211, ht212⟩ : ∃ q, q = gi M204 77 37 := ⟨_, rfl⟩
          obtain ⟨t213, ht214⟩ : ∃ q, q = gi M204 77 39 := ⟨_, rfl⟩
          rw [← ht212] at q207
          rw [← ht212, ← ht214] at q208
          refine r_goto (tgt := 118) D228_71 rfl ?_
          have g215 : gi M204 77 37 = t211 := ht212.symm
          have g216 : gi M204 77 39 = t213 := ht214.symm
          exact r_retV D228_118 rfl (⟨H205, f210, by rw [g215]; omega, by rw [g215, g216]; omega⟩)
        · have g217 : gi M155 77 37 = tok := (f157.g rfl).trans (h5)
          have g218 : gi M155 77 39 = t161 := ht162.symm
          exact r_retV D228_44 rfl (⟨H156, f160, by rw [g217]; omega, by rw [g217, g218]; omega⟩)
  · have g219 : gi M 77 37 = tok := h5
    exact r_retV D228_7 rfl (⟨H, f0, by rw [g219]; omega, by rw [g219]; omega⟩)
set_option maxRecDepth 4000 in
theorem L_k227x {base : Nat} {X : Nat → Option mC} {G : Nat → Value} (E : EnvOK base X G) {rr : Nat} (ihr : ∀ {d : Nat} (_ : 3 + 3 * rr ≤ d) {M : mH} (_ : HI base M) (deep : Int) (p : Int) (q : Int) (s : Int) (tk : Int) (tok : Int) (F : Int → Int) (C : Int → Int), (PC C M) → (∀ j : Int, 0 ≤ j → F (j + 1) = dl (F j) (C j)) → (gi M 77 36 = tk) → (C tk = 0) → (0 ≤ tk ∧ tk ≤ 400) → (gi M 77 37 = tok) → (0 ≤ tok ∧ tok ≤ tk) → (gi M 77 39 = -1 → F tok = 1000 + 100 * p + 10 * q + s ∨ (F tok = 10 + p ∧ q = 0 ∧ s = 0)) → (0 ≤ p ∧ 0 ≤ q ∧ p + q = deep) → (0 ≤ deep ∧ deep ≤ 8) → (0 ≤ s ∧ s ≤ 1) → 8 - deep < ((rr : Nat) : Int) → sOk base X G d T226 [vR 77, vI deep] M (pV (fun M' => HI base M' ∧ Fr [(77, 38), (77, 39), (77, 40)] M M' ∧ (tok ≤ gi M' 77 37 ∧ gi M' 77 37 ≤ tk) ∧ (gi M' 77 39 = -1 → gi M 77 39 = -1 ∧ F (gi M' 77 37) = 2000 + 100 * p + 10 * q + s)))) {d : Nat} (hd : 5 + 3 * rr ≤ d) {M : mH} (H : HI base M) (deep : Int) (p : Int) (q : Int) (s : Int) (tk : Int) (tok : Int) (F : Int → Int) (C : Int → Int) (h0 : PC C M) (h1 : ∀ j : Int, 0 ≤ j → F (j + 1) = dl (F j) (C j)) (h2 : gi M 77 36 = tk) (h3 : C tk = 0) (h4 : 0 ≤ tk ∧ tk ≤ 400) (h5 : gi M 77 37 = tok) (h6 : 0 ≤ tok ∧ tok ≤ tk) (h7 : gi M 77 39 = -1 → F tok = 1000 + 100 * p + 10 * q + s ∨ (F tok = 10 + p ∧ q = 0 ∧ s = 0)) (h8 : 0 ≤ p ∧ 0 ≤ q ∧ p + q = deep) (h9 : 0 ≤ deep ∧ deep ≤ 8) (h10 : 0 ≤ s ∧ s ≤ 1) (h11 : 8 - deep < (rr : Int) + 1) : ∀ mz : Nat, (∀ (t0 : Int) (N : mH), HI base N → Fr [(77, 38), (77, 39), (77, 40)] M N → (gi N 77 37 = t0) → (tok ≤ t0 ∧ t0 ≤ tk) → (gi N 77 36 = tk) → (gi N 77 39 = -1 → gi M 77 39 = -1 ∧ F t0 = 2000 + 100 * p + 10 * q + s) → (400 - t0) * 1 + 0 < (mz : Int) → sRn base X G d T227 5 [(0, vR 77), (1, vI deep)] [] N (s_Q base (pV (fun M' => HI base M' ∧ Fr [(77, 38), (77, 39), (77, 40)] M M' ∧ (tok ≤ gi M' 77 37 ∧ gi M' 77 37 ≤ tk) ∧ (gi M' 77 39 = -1 → gi M 77 39 = -1 ∧ F (gi M' 77 37) = 2000 + 100 * p + 10 * q + s))))) := by
  have f0 : Fr [(77, 38), (77, 39), (77, 40)] M M := Fr.rf
  intro mz
  induction mz with
  | zero => exact fun t0 N _ _ z0 z1 z2 z3 z4 => by omega
  | succ mz ih =>
    intro t0 N HN fN i0 i1 i2 i3 hmu
    refine s_blx (lv' := [(0, vR 77), (1, vI deep)]) (st' := [vI 42, vR 77]) B227_5_8 rfl ?_
    refine r_sIp (args := [vI 42]) (rest := [vR 77]) (pc' := 11) D227_8 rfl ck_11_static_346 TE221 rfl (Nat.le_of_ble_eq_true rfl) ⟨Nat.le_of_ble_eq_true rfl, Nat.le_of_ble_eq_true rfl⟩ (by decide) (by omega) (k221 E (by omega) HN 42 (by omega)) ?_
    intro v18 q21
    have q20 := q21; clear q21
    have e22 : v18 = 142 := by omega
    subst e22
    have k1 := d_op (x := F t0) 142 (by decide)
    have g23 : gi N 77 36 = tk := i2
    have g24 : gi N 77 37 = t0 := i0
    refine r_vI (c := 77) (args := [vI 142]) (rest := []) (pc' := 14) D227_11 rfl ck_11_virtual_328 TE218 rfl (Nat.le_of_ble_eq_true rfl) ⟨Nat.le_of_ble_eq_true rfl, Nat.le_of_ble_eq_true rfl⟩ sc_77 ⟨rfl, by decide⟩ HN.1 (by omega) (k218x E (by omega) HN 142 tk t0 F C ((h0.fr fN rfl)) (h1) (by omega) (by omega) (by omega) (by omega) (by omega) (by omega) (by omega)) ?_
    intro v25 M26 q33
    obtain ⟨H27, f28, q29, q30, q31, q32⟩ := q33
    have f34 := fN.tr (f28.up rfl)
    obtain ⟨t35, ht36⟩ : ∃ q, q = gi M26 77 37 := ⟨_, rfl⟩
    rw [← ht36] at q30
    rw [← ht36] at q31
    rw [← ht36] at q32
    refine r_ifc (tgt := 29) (pc' := 17) D227_14 rfl rfl (by unfold inR; omega) (fun (c37 : v25 ≠ 0) => ?_) (fun (c37 : ¬ (v25 ≠ 0)) => ?_)
    · refine s_blx (lv' := [(0, vR 77), (1, vI deep)]) (st' := [vI deep, vR 77]) B227_29_31 rfl ?_
      have g38 : gi M26 77 36 = tk := (f28.g rfl).trans (i2)
      have g39 : gi M26 77 37 = t35 := ht36.symm
      have g40 : gi M26 77 39 = gi N 77 39 := (f28.g rfl).trans (rfl)
      refine r_vV (c := 77) (args := [vI deep]) (rest := []) (pc' := 34) D227_31 rfl ck_11_virtual_362 TE228 rfl (Nat.le_of_ble_eq_true rfl) ⟨Nat.le_of_ble_eq_true rfl, Nat.le_of_ble_eq_true rfl⟩ sc_77 ⟨rfl, by decide⟩ H27.1 (by omega) (k228x E ihr (by omega) H27 deep p q s tk t35 F C ((h0.fr f34 rfl)) (h1) (by omega) (by omega) (by omega) (by omega) (by omega) (by omega) (by omega) (by omega) (by omega) (by omega)) ?_
      intro M42 q47
      obtain ⟨H43, f44, q45, q46⟩ := q47
      have f48 := f34.tr (f44.up rfl)
      obtain ⟨t49, ht50⟩ : ∃ q, q = gi M42 77 37 := ⟨_, rfl⟩
      obtain ⟨t51, ht52⟩ : ∃ q, q = gi M42 77 39 := ⟨_, rfl⟩
      rw [← ht50] at q45
      rw [← ht50, ← ht52] at q46
      refine r_goto (tgt := 5) D227_34 rfl ?_
      refine r_loc (lv' := [(0, vR 77), (1, vI deep)]) ⟨rfl, rfl, trivial⟩ rfl rfl ?_
      have g53 : gi M42 77 37 = t49 := ht50.symm
      have g54 : gi M42 77 36 = tk := (f44.g rfl).trans ((f28.g rfl).trans (i2))
      have g55 : gi M42 77 39 = t51 := ht52.symm
      exact ih t49 M42 H43 f48 (by omega) (by omega) (by omega) (by omega) (by omega)
    · refine s_blx (lv' := [(0, vR 77), (1, vI deep)]) (st' := [vI 47, vR 77]) B227_17_20 rfl ?_
      refine r_sIp (args := [vI 47]) (rest := [vR 77]) (pc' := 23) D227_20 rfl ck_11_static_346 TE221 rfl (Nat.le_of_ble_eq_true rfl) ⟨Nat.le_of_ble_eq_true rfl, Nat.le_of_ble_eq_true rfl⟩ (by decide) (by omega) (k221 E (by omega) H27 47 (by omega)) ?_
      intro v56 q59
      have q58 := q59; clear q59
      have e60 : v56 = 147 := by omega
      subst e60
      have k2 := d_op (x := F t35) 147 (by decide)
      have g61 : gi M26 77 36 = tk := (f28.g rfl).trans (i2)
      have g62 : gi M26 77 37 = t35 := ht36.symm
      have g63 : gi M26 77 39 = gi N 77 39 := (f28.g rfl).trans (rfl)
      refine r_vI (c := 77) (args := [vI 147]) (rest := []) (pc' := 26) D227_23 rfl ck_11_virtual_328 TE218 rfl (Nat.le_of_ble_eq_true rfl) ⟨Nat.le_of_ble_eq_true rfl, Nat.le_of_ble_eq_true rfl⟩ sc_77 ⟨rfl, by decide⟩ H27.1 (by omega) (k218x E (by omega) H27 147 tk t35 F C ((h0.fr f34 rfl)) (h1) (by omega) (by omega) (by omega) (by omega) (by omega) (by omega) (by omega)) ?_
      intro v64 M65 q72
      obtain ⟨H66, f67, q68, q69, q70, q71⟩ := q72
      have f73 := f34.tr (f67.up rfl)
      obtain ⟨t74, ht75⟩ : ∃ q, q = gi M65 77 37 := ⟨_, rfl⟩
      rw [← ht75] at q69
      rw [← ht75] at q70
      rw [← ht75] at q71
      refine r_ifc (tgt := 37) (pc' := 29) D227_26 rfl rfl (by unfold inR; omega) (fun (c76 : v64 = 0) => ?_) (fun (c76 : ¬ (v64 = 0)) => ?_)
      · have g77 : gi M65 77 37 = t74 := ht75.symm
        have g78 : gi M65 77 39 = gi N 77 39 := (f67.g rfl).trans ((f28.g rfl).trans (rfl))
        exact r_retV D227_37 rfl (⟨H66, f73, by rw [g77]; omega, by rw [g77, g78]; omega⟩)
      · refine s_blx (lv' := [(0, vR 77), (1, vI deep)]) (st' := [vI deep, vR 77]) B227_29_31 rfl ?_
        have g79 : gi M65 77 36 = tk := (f67.g rfl).trans ((f28.g rfl).trans (i2))
        have g80 : gi M65 77 37 = t74 := ht75.symm
        have g81 : gi M65 77 39 = gi N 77 39 := (f67.g rfl).trans ((f28.g rfl).trans (rfl))
        refine r_vV (c := 77) (args := [vI deep]) (rest := []) (pc' := 34) D227_31 rfl ck_11_virtual_362 TE228 rfl (Nat.le_of_ble_eq_true rfl) ⟨Nat.le_of_ble_eq_true rfl, Nat.le_of_ble_eq_true rfl⟩ sc_77 ⟨rfl, by decide⟩ H66.1 (by omega) (k228x E ihr (by omega) H66 deep p q s tk t74 F C ((h0.fr f73 rfl)) (h1) (by omega) (by omega) (by omega) (by omega) (by omega) (by omega) (by omega) (by omega) (by omega) (by omega)) ?_
        intro M83 q88
        obtain ⟨H84, f85, q86, q87⟩ := q88
        have f89 := f73.tr (f85.up rfl)
        obtain ⟨t90, ht91⟩ : ∃ q, q = gi M83 77 37 := ⟨_, rfl⟩
        obtain ⟨t92, ht93⟩ : ∃ q, q = gi M83 77 39 := ⟨_, rfl⟩
        rw [← ht91] at q86
        rw [← ht91, ← ht93] at q87
        refine r_goto (tgt := 5) D227_34 rfl ?_
        refine r_loc (lv' := [(0, vR 77), (1, vI deep)]) ⟨rfl, rfl, trivial⟩ rfl rfl ?_
        have g94 : gi M83 77 37 = t90 := ht91.symm
        have g95 : gi M83 77 36 = tk := (f85.g rfl).trans ((f67.g rfl).trans ((f28.g rfl).trans (i2)))
        have g96 : gi M83 77 39 = t92 := ht93.symm
        exact ih t90 M83 H84 f89 (by omega) (by omega) (by omega) (by omega) (by omega)
set_option maxRecDepth 4000 in
theorem k227x {base : Nat} {X : Nat → Option mC} {G : Nat → Value} (E : EnvOK base X G) {rr : Nat} (ihr : ∀ {d : Nat} (_ : 3 + 3 * rr ≤ d) {M : mH} (_ : HI base M) (deep : Int) (p : Int) (q : Int) (s : Int) (tk : Int) (tok : Int) (F : Int → Int) (C : Int → Int), (PC C M) → (∀ j : Int, 0 ≤ j → F (j + 1) = dl (F j) (C j)) → (gi M 77 36 = tk) → (C tk = 0) → (0 ≤ tk ∧ tk ≤ 400) → (gi M 77 37 = tok) → (0 ≤ tok ∧ tok ≤ tk) → (gi M 77 39 = -1 → F tok = 1000 + 100 * p + 10 * q + s ∨ (F tok = 10 + p ∧ q = 0 ∧ s = 0)) → (0 ≤ p ∧ 0 ≤ q ∧ p + q = deep) → (0 ≤ deep ∧ deep ≤ 8) → (0 ≤ s ∧ s ≤ 1) → 8 - deep < ((rr : Nat) : Int) → sOk base X G d T226 [vR 77, vI deep] M (pV (fun M' => HI base M' ∧ Fr [(77, 38), (77, 39), (77, 40)] M M' ∧ (tok ≤ gi M' 77 37 ∧ gi M' 77 37 ≤ tk) ∧ (gi M' 77 39 = -1 → gi M 77 39 = -1 ∧ F (gi M' 77 37) = 2000 + 100 * p + 10 * q + s)))) {d : Nat} (hd : 5 + 3 * rr ≤ d) {M : mH} (H : HI base M) (deep : Int) (p : Int) (q : Int) (s : Int) (tk : Int) (tok : Int) (F : Int → Int) (C : Int → Int) (h0 : PC C M) (h1 : ∀ j : Int, 0 ≤ j → F (j + 1) = dl (F j) (C j)) (h2 : gi M 77 36 = tk) (h3 : C tk = 0) (h4 : 0 ≤ tk ∧ tk ≤ 400) (h5 : gi M 77 37 = tok) (h6 : 0 ≤ tok ∧ tok ≤ tk) (h7 : gi M 77 39 = -1 → F tok = 1000 + 100 * p + 10 * q + s ∨ (F tok = 10 + p ∧ q = 0 ∧ s = 0)) (h8 : 0 ≤ p ∧ 0 ≤ q ∧ p + q = deep) (h9 : 0 ≤ deep ∧ deep ≤ 8) (h10 : 0 ≤ s ∧ s ≤ 1) (h11 : 8 - deep < (rr : Int) + 1) : sOk base X G d T227 [vR 77, vI deep] M (pV (fun M' => HI base M' ∧ Fr [(77, 38), (77, 39), (77, 40)] M M' ∧ (tok ≤ gi M' 77 37 ∧ gi M' 77 37 ≤ tk) ∧ (gi M' 77 39 = -1 → gi M 77 39 = -1 ∧ F (gi M' 77 37) = 2000 + 100 * p + 10 * q + s))) := by
  have f0 : Fr [(77, 38), (77, 39), (77, 40)] M M := Fr.rf
  refine sOk.of (show sRn base X G d T227 0 [(0, vR 77), (1, vI deep)] [] M _ from ?_)
  refine s_blx (lv' := [(0, vR 77), (1, vI deep)]) (st' := [vI deep, vR 77]) B227_0_2 rfl ?_
  have g1 : gi M 77 36 = tk := h2
  have g2 : gi M 77 37 = tok := h5
  refine r_vV (c := 77) (args := [vI deep]) (rest := []) (pc' := 5) D227_2 rfl ck_11_virtual_362 TE228 rfl (Nat.le_of_ble_eq_true rfl) ⟨Nat.le_of_ble_eq_true rfl, Nat.le_of_ble_eq_true rfl⟩ sc_77 ⟨rfl, by decide⟩ H.1 (by omega) (k228x E ihr (by omega) H deep p q s tk tok F C (h0) (h1) (by omega) (by omega) (by omega) (by omega) (by omega) (by omega) (by omega) (by omega) (by omega) (by omega)) ?_
  intro M4 q9
  obtain ⟨H5, f6, q7, q8⟩ := q9
  have f10 := f0.tr (f6.up rfl)
  obtain ⟨t11, ht12⟩ : ∃ q, q = gi M4 77 37 := ⟨_, rfl⟩
  obtain ⟨t13, ht14⟩ : ∃ q, q = gi M4 77 39 := ⟨_, rfl⟩
  rw [← ht12] at q7
  rw [← ht12, ← ht14] at q8
  refine r_loc (lv' := [(0, vR 77), (1, vI deep)]) ⟨rfl, rfl, trivial⟩ rfl rfl ?_
  have g15 : gi M4 77 37 = t11 := ht12.symm
  have g16 : gi M4 77 36 = tk := (f6.g rfl).trans (h2)
  have g17 : gi M4 77 39 = t13 := ht14.symm
  exact (L_k227x E ihr hd H deep p q s tk tok F C h0 h1 h2 h3 h4 h5 h6 h7 h8 h9 h10 h11 (((400 - t11) * 1 + 0 : Int) + 1).toNat) t11 M4 H5 f10 (by omega) (by omega) (by omega) (by omega) (by omega)
set_option maxRecDepth 4000 in
theorem L_k226x {base : Nat} {X : Nat → Option mC} {G : Nat → Value} (E : EnvOK base X G) {rr : Nat} (ihr : ∀ {d : Nat} (_ : 3 + 3 * rr ≤ d) {M : mH} (_ : HI base M) (deep : Int) (p : Int) (q : Int) (s : Int) (tk : Int) (tok : Int) (F : Int → Int) (C : Int → Int), (PC C M) → (∀ j : Int, 0 ≤ j → F (j + 1) = dl (F j) (C j)) → (gi M 77 36 = tk) → (C tk = 0) → (0 ≤ tk ∧ tk ≤ 400) → (gi M 77 37 = tok) → (0 ≤ tok ∧ tok ≤ tk) → (gi M 77 39 = -1 → F tok = 1000 + 100 * p + 10 * q + s ∨ (F tok = 10 + p ∧ q = 0 ∧ s = 0)) → (0 ≤ p ∧ 0 ≤ q ∧ p + q = deep) → (0 ≤ deep ∧ deep ≤ 8) → (0 ≤ s ∧ s ≤ 1) → 8 - deep < ((rr : Nat) : Int) → sOk base X G d T226 [vR 77, vI deep] M (pV (fun M' => HI base M' ∧ Fr [(77, 38), (77, 39), (77, 40)] M M' ∧ (tok ≤ gi M' 77 37 ∧ gi M' 77 37 ≤ tk) ∧ (gi M' 77 39 = -1 → gi M 77 39 = -1 ∧ F (gi M' 77 37) = 2000 + 100 * p + 10 * q + s)))) {d : Nat} (hd : 3 + 3 * (rr + 1) ≤ d) {M : mH} (H : HI base M) (deep : Int) (p : Int) (q : Int) (s : Int) (tk : Int) (tok : Int) (F : Int → Int) (C : Int → Int) (h0 : PC C M) (h1 : ∀ j : Int, 0 ≤ j → F (j + 1) = dl (F j) (C j)) (h2 : gi M 77 36 = tk) (h3 : C tk = 0) (h4 : 0 ≤ tk ∧ tk ≤ 400) (h5 : gi M 77 37 = tok) (h6 : 0 ≤ tok ∧ tok ≤ tk) (h7 : gi M 77 39 = -1 → F tok = 1000 + 100 * p + 10 * q + s ∨ (F tok = 10 + p ∧ q = 0 ∧ s = 0)) (h8 : 0 ≤ p ∧ 0 ≤ q ∧ p + q = deep) (h9 : 0 ≤ deep ∧ deep ≤ 8) (h10 : 0 ≤ s ∧ s ≤ 1) (hrr : 8 - deep < ((rr + 1 : Nat) : Int)) : ∀ mz : Nat, (∀ (t0 : Int) (N : mH), HI base N → Fr [(77, 38), (77, 39), (77, 40)] M N → (gi N 77 37 = t0) → (tok ≤ t0 ∧ t0 ≤ tk) → (gi N 77 36 = tk) → (gi N 77 39 = -1 → gi M 77 39 = -1 ∧ F t0 = 2000 + 100 * p + 10 * q + s) → (400 - t0) * 1 + 0 < (mz : Int) → sRn base X G d T226 5 [(0, vR 77), (1, vI deep)] [] N (s_Q base (pV (fun M' => HI base M' ∧ Fr [(77, 38), (77, 39), (77, 40)] M M' ∧ (tok ≤ gi M' 77 37 ∧ gi M' 77 37 ≤ tk) ∧ (gi M' 77 39 = -1 → gi M 77 39 = -1 ∧ F (gi M' 77 37) = 2000 + 100 * p + 10 * q + s))))) := by
  have f0 : Fr [(77, 38), (77, 39), (77, 40)] M M := Fr.rf
  intro mz
  induction mz with
  | zero => exact fun t0 N _ _ z0 z1 z2 z3 z4 => by omega
  | succ mz ih =>
    intro t0 N HN fN i0 i1 i2 i3 hmu
    refine s_blx (lv' := [(0, vR 77), (1, vI deep)]) (st' := [vI 43, vR 77]) B226_5_8 rfl ?_
    refine r_sIp (args := [vI 43]) (rest := [vR 77]) (pc' := 11) D226_8 rfl ck_11_static_346 TE221 rfl (Nat.le_of_ble_eq_true rfl) ⟨Nat.le_of_ble_eq_true rfl, Nat.le_of_ble_eq_true rfl⟩ (by decide) (by omega) (k221 E (by omega) HN 43 (by omega)) ?_
    intro v18 q21
    have q20 := q21; clear q21
    have e22 : v18 = 143 := by omega
    subst e22
    have k1 := d_op (x := F t0) 143 (by decide)
    have g23 : gi N 77 36 = tk := i2
    have g24 : gi N 77 37 = t0 := i0
    refine r_vI (c := 77) (args := [vI 143]) (rest := []) (pc' := 14) D226_11 rfl ck_11_virtual_328 TE218 rfl (Nat.le_of_ble_eq_true rfl) ⟨Nat.le_of_ble_eq_true rfl, Nat.le_of_ble_eq_true rfl⟩ sc_77 ⟨rfl, by decide⟩ HN.1 (by omega) (k218x E (by omega) HN 143 tk t0 F C ((h0.fr fN rfl)) (h1) (by omega) (by omega) (by omega) (by omega) (by omega) (by omega) (by omega)) ?_
    intro v25 M26 q33
    obtain ⟨H27, f28, q29, q30, q31, q32⟩ := q33
    have f34 := fN.tr (f28.up rfl)
    obtain ⟨t35, ht36⟩ : ∃ q, q = gi M26 77 37 := ⟨_, rfl⟩
    rw [← ht36] at q30
    rw [← ht36] at q31
    rw [← ht36] at q32
    refine r_ifc (tgt := 29) (pc' := 17) D226_14 rfl rfl (by unfold inR; omega) (fun (c37 : v25 ≠ 0) => ?_) (fun (c37 : ¬ (v25 ≠ 0)) => ?_)
    · refine s_blx (lv' := [(0, vR 77), (1, vI deep)]) (st' := [vI deep, vR 77]) B226_29_31 rfl ?_
      have g38 : gi M26 77 36 = tk := (f28.g rfl).trans (i2)
      have g39 : gi M26 77 37 = t35 := ht36.symm
      have g40 : gi M26 77 39 = gi N 77 39 := (f28.g rfl).trans (rfl)
      refine r_vV (c := 77) (args := [vI deep]) (rest := []) (pc' := 34) D226_31 rfl ck_11_virtual_359 TE227 rfl (Nat.le_of_ble_eq_true rfl) ⟨Nat.le_of_ble_eq_true rfl, Nat.le_of_ble_eq_true rfl⟩ sc_77 ⟨rfl, by decide⟩ H27.1 (by omega) (k227x E ihr (by omega) H27 deep p q s tk t35 F C ((h0.fr f34 rfl)) (h1) (by omega) (by omega) (by omega) (by omega) (by omega) (by omega) (by omega) (by omega) (by omega) (by omega)) ?_
      intro M42 q47
      obtain ⟨H43, f44, q45, q46⟩ := q47
      have f48 := f34.tr (f44.up rfl)
      obtain ⟨t49, ht50⟩ : ∃ q, q = gi M42 77 37 := ⟨_, rfl⟩
      obtain ⟨t51, ht52⟩ : ∃ q, q = gi M42 77 39 := ⟨_, rfl⟩
      rw [← ht50] at q45
      rw [← ht50, ← ht52] at q46
      refine r_goto (tgt := 5) D226_34 rfl ?_
      refine r_loc (lv' := [(0, vR 77), (1, vI deep)]) ⟨rfl, rfl, trivial⟩ rfl rfl ?_
      have g53 : gi M42 77 37 = t49 := ht50.symm
      have g54 : gi M42 77 36 = tk := (f44.g rfl).trans ((f28.g rfl).trans (i2))
      have g55 : gi M42 77 39 = t51 := ht52.symm
      exact ih t49 M42 H43 f48 (by omega) (by omega) (by omega) (by omega) (by omega)
    · refine s_blx (lv' := [(0, vR 77), (1, vI deep)]) (st' := [vI 45, vR 77]) B226_17_20 rfl ?_
      refine r_sIp (args := [vI 45]) (rest := [vR 77]) (pc' := 23) D226_20 rfl ck_11_static_346 TE221 rfl (Nat.le_of_ble_eq_true rfl) ⟨Nat.le_of_ble_eq_true rfl, Nat.le_of_ble_eq_true rfl⟩ (by decide) (by omega) (k221 E (by omega) H27 45 (by omega)) ?_
      intro v56 q59
      have q58 := q59; clear q59
      have e60 : v56 = 145 := by omega
      subst e60
      have k2 := d_op (x := F t35) 145 (by decide)
      have g61 : gi M26 77 36 = tk := (f28.g rfl).trans (i2)
      have g62 : gi M26 77 37 = t35 := ht36.symm
      have g63 : gi M26 77 39 = gi N 77 39 := (f28.g rfl).trans (rfl)
      refine r_vI (c := 77) (args := [vI 145]) (rest := []) (pc' := 26) D226_23 rfl ck_11_virtual_328 TE218 rfl (Nat.le_of_ble_eq_true rfl) ⟨Nat.le_of_ble_eq_true rfl, Nat.le_of_ble_eq_true rfl⟩ sc_77 ⟨rfl, by decide⟩ H27.1 (by omega) (k218x E (by omega) H27 145 tk t35 F C ((h0.fr f34 rfl)) (h1) (by omega) (by omega) (by omega) (by omega) (by omega) (by omega) (by omega)) ?_
      intro v64 M65 q72
      obtain ⟨H66, f67, q68, q69, q70, q71⟩ := q72
      have f73 := f34.tr (f67.up rfl)
      obtain ⟨t74, ht75⟩ : ∃ q, q = gi M65 77 37 := ⟨_, rfl⟩
      rw [← ht75] at q69
      rw [← ht75] at q70
      rw [← ht75] at q71
      refine r_ifc (tgt := 37) (pc' := 29) D226_26 rfl rfl (by unfold inR; omega) (fun (c76 : v64 = 0) => ?_) (fun (c76 : ¬ (v64 = 0)) => ?_)
      · have g77 : gi M65 77 37 = t74 := ht75.symm
        have g78 : gi M65 77 39 = gi N 77 39 := (f67.g rfl).trans ((f28.g rfl).trans (rfl))
        exact r_retV D226_37 rfl (⟨H66, f73, by rw [g77]; omega, by rw [g77, g78]; omega⟩)
      · refine s_blx (lv' := [(0, vR 77), (1, vI deep)]) (st' := [vI deep, vR 77]) B226_29_31 rfl ?_
        have g79 : gi M65 77 36 = tk := (f67.g rfl).trans ((f28.g rfl).trans (i2))
        have g80 : gi M65 77 37 = t74 := ht75.symm
        have g81 : gi M65 77 39 = gi N 77 39 := (f67.g rfl).trans ((f28.g rfl).trans (rfl))
        refine r_vV (c := 77) (args := [vI deep]) (rest := []) (pc' := 34) D226_31 rfl ck_11_virtual_359 TE227 rfl (Nat.le_of_ble_eq_true rfl) ⟨Nat.le_of_ble_eq_true rfl, Nat.le_of_ble_eq_true rfl⟩ sc_77 ⟨rfl, by decide⟩ H66.1 (by omega) (k227x E ihr (by omega) H66 deep p q s tk t74 F C ((h0.fr f73 rfl)) (h1) (by omega) (by omega) (by omega) (by omega) (by omega) (by omega) (by omega) (by omega) (by omega) (by omega)) ?_
        intro M83 q88
        obtain ⟨H84, f85, q86, q87⟩ := q88
        have f89 := f73.tr (f85.up rfl)
        obtain ⟨t90, ht91⟩ : ∃ q, q = gi M83 77 37 := ⟨_, rfl⟩
        obtain ⟨t92, ht93⟩ : ∃ q, q = gi M83 77 39 := ⟨_, rfl⟩
        rw [← ht91] at q86
        rw [← ht91, ← ht93] at q87
        refine r_goto (tgt := 5) D226_34 rfl ?_
        refine r_loc (lv' := [(0, vR 77), (1, vI deep)]) ⟨rfl, rfl, trivial⟩ rfl rfl ?_
        have g94 : gi M83 77 37 = t90 := ht91.symm
        have g95 : gi M83 77 36 = tk := (f85.g rfl).trans ((f67.g rfl).trans ((f28.g rfl).trans (i2)))
        have g96 : gi M83 77 39 = t92 := ht93.symm
        exact ih t90 M83 H84 f89 (by omega) (by omega) (by omega) (by omega) (by omega)
set_option maxRecDepth 4000 in
theorem k226xr {base : Nat} {X : Nat → Option mC} {G : Nat → Value} (E : EnvOK base X G) : ∀ rr : Nat, ∀ {d : Nat} (_ : 3 + 3 * rr ≤ d) {M : mH} (_ : HI base M) (deep : Int) (p : Int) (q : Int) (s : Int) (tk : Int) (tok : Int) (F : Int → Int) (C : Int → Int), (PC C M) → (∀ j : Int, 0 ≤ j → F (j + 1) = dl (F j) (C j)) → (gi M 77 36 = tk) → (C tk = 0) → (0 ≤ tk ∧ tk ≤ 400) → (gi M 77 37 = tok) → (0 ≤ tok ∧ tok ≤ tk) → (gi M 77 39 = -1 → F tok = 1000 + 100 * p + 10 * q + s ∨ (F tok = 10 + p ∧ q = 0 ∧ s = 0)) → (0 ≤ p ∧ 0 ≤ q ∧ p + q = deep) → (0 ≤ deep ∧ deep ≤ 8) → (0 ≤ s ∧ s ≤ 1) → 8 - deep < ((rr : Nat) : Int) → sOk base X G d T226 [vR 77, vI deep] M (pV (fun M' => HI base M' ∧ Fr [(77, 38), (77, 39), (77, 40)] M M' ∧ (tok ≤ gi M' 77 37 ∧ gi M' 77 37 ≤ tk) ∧ (gi M' 77 39 = -1 → gi M 77 39 = -1 ∧ F (gi M' 77 37) = 2000 + 100 * p + 10 * q + s))) := by
  intro rr
  induction rr with
  | zero => intro d hd M H deep p q s tk tok F C h0 h1 h2 h3 h4 h5 h6 h7 h8 h9 h10 hrr; exfalso; omega
  | succ rr ihr =>
  intro d hd M H deep p q s tk tok F C h0 h1 h2 h3 h4 h5 h6 h7 h8 h9 h10 hrr
  have f0 : Fr [(77, 38), (77, 39), (77, 40)] M M := Fr.rf
  refine sOk.of (show sRn base X G d T226 0 [(0, vR 77), (1, vI deep)] [] M _ from ?_)
  refine s_blx (lv' := [(0, vR 77), (1, vI deep)]) (st' := [vI deep, vR 77]) B226_0_2 rfl ?_
  have g1 : gi M 77 36 = tk := h2
  have g2 : gi M 77 37 = tok := h5
  refine r_vV (c := 77) (args := [vI deep]) (rest := []) (pc' := 5) D226_2 rfl ck_11_virtual_359 TE227 rfl (Nat.le_of_ble_eq_true rfl) ⟨Nat.le_of_ble_eq_true rfl, Nat.le_of_ble_eq_true rfl⟩ sc_77 ⟨rfl, by decide⟩ H.1 (by omega) (k227x E ihr (by omega) H deep p q s tk tok F C (h0) (h1) (by omega) (by omega) (by omega) (by omega) (by omega) (by omega) (by omega) (by omega) (by omega) (by omega)) ?_
  intro M4 q9
  obtain ⟨H5, f6, q7, q8⟩ := q9
  have f10 := f0.tr (f6.up rfl)
  obtain ⟨t11, ht12⟩ : ∃ q, q = gi M4 77 37 := ⟨_, rfl⟩
  obtain ⟨t13, ht14⟩ : ∃ q, q = gi M4 77 39 := ⟨_, rfl⟩
  rw [← ht12] at q7
  rw [← ht12, ← ht14] at q8
  refine r_loc (lv' := [(0, vR 77), (1, vI deep)]) ⟨rfl, rfl, trivial⟩ rfl rfl ?_
  have g15 : gi M4 77 37 = t11 := ht12.symm
  have g16 : gi M4 77 36 = tk := (f6.g rfl).trans (h2)
  have g17 : gi M4 77 39 = t13 := ht14.symm
  exact (L_k226x E ihr hd H deep p q s tk tok F C h0 h1 h2 h3 h4 h5 h6 h7 h8 h9 h10 hrr (((400 - t11) * 1 + 0 : Int) + 1).toNat) t11 M4 H5 f10 (by omega) (by omega) (by omega) (by omega) (by omega)
theorem k226x {base : Nat} {X : Nat → Option mC} {G : Nat → Value} (E : EnvOK base X G) {d : Nat} (hd : 30 ≤ d) {M : mH} (H : HI base M) (deep : Int) (p : Int) (q : Int) (s : Int) (tk : Int) (tok : Int) (F : Int → Int) (C : Int → Int) (h0 : PC C M) (h1 : ∀ j : Int, 0 ≤ j → F (j + 1) = dl (F j) (C j)) (h2 : gi M 77 36 = tk) (h3 : C tk = 0) (h4 : 0 ≤ tk ∧ tk ≤ 400) (h5 : gi M 77 37 = tok) (h6 : 0 ≤ tok ∧ tok ≤ tk) (h7 : gi M 77 39 = -1 → F tok = 1000 + 100 * p + 10 * q + s ∨ (F tok = 10 + p ∧ q = 0 ∧ s = 0)) (h8 : 0 ≤ p ∧ 0 ≤ q ∧ p + q = deep) (h9 : 0 ≤ deep ∧ deep ≤ 8) (h10 : 0 ≤ s ∧ s ≤ 1) : sOk base X G d T226 [vR 77, vI deep] M (pV (fun M' => HI base M' ∧ Fr [(77, 38), (77, 39), (77, 40)] M M' ∧ (tok ≤ gi M' 77 37 ∧ gi M' 77 37 ≤ tk) ∧ (gi M' 77 39 = -1 → gi M 77 39 = -1 ∧ F (gi M' 77 37) = 2000 + 100 * p + 10 * q + s))) := k226xr E 9 (by omega) H deep p q s tk tok F C h0 h1 h2 h3 h4 h5 h6 h7 h8 h9 h10 (by omega)
