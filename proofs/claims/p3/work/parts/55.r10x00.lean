/-! The texts of habits, word by word: the states of a reader. 1 a clause begins, 2 its head is read, 10 + p a test begins below p brackets, 20 + p a plain test is read, 1000 + 100 p + 10 q + s a part begins below p brackets of one kind and q of the other, left or right of what compares, 2000 + .. it is read; 0 no text. -/
def dT (x c : Int) : Int := if c = 10 then x else if c = 140 ∧ x ≤ 17 then x + 1 else if c = 11 ∨ c = 12 then x + 10 else if c = 191 ∧ x ≤ 17 then 1010 + 100 * (x - 10) else if c = 50 ∨ (13 ≤ c ∧ c ≤ 21) then 2000 + 100 * (x - 10) else 0
def dB (x c : Int) : Int := if c = 8 ∨ c = 9 then x - 10 else if c = 141 ∧ 21 ≤ x then x - 1 else if c = 159 ∧ x = 20 then 1 else 0
def dS (x c : Int) : Int := if c = 191 ∧ x / 100 % 10 + x / 10 % 10 ≤ 7 then x + 10 else if c = 50 ∨ (13 ≤ c ∧ c ≤ 21) then x + 1000 else 0
def dA (x c : Int) : Int := if c = 142 ∨ c = 143 ∨ c = 145 ∨ c = 147 then x - 1000 else if c = 193 ∧ 1 ≤ x / 10 % 10 then x - 10 else if (c = 160 ∨ c = 161 ∨ c = 162) ∧ x % 100 = 0 then x - 999 else if x % 100 = 1 then (if c = 8 ∨ c = 9 then 10 + x / 100 % 10 else if c = 141 ∧ 1 ≤ x / 100 % 10 then 19 + x / 100 % 10 else if c = 159 ∧ x = 2001 then 1 else 0) else 0
def dl (x c : Int) : Int := if x = 1 then (if 1 ≤ c ∧ c ≤ 6 then 2 else 0) else if x = 2 then (if c = 7 then 10 else if c = 159 then 1 else 0) else if 10 ≤ x ∧ x ≤ 18 then dT x c else if 20 ≤ x ∧ x ≤ 28 then dB x c else if 1000 ≤ x ∧ x < 2000 then dS x c else if 2000 ≤ x ∧ x < 3000 then dA x c else 0
theorem dl_T {x c : Int} (h : 10 ≤ x ∧ x ≤ 18) : dl x c = dT x c := by
  unfold dl; rw [if_neg (by omega), if_neg (by omega), if_pos h]
theorem dl_B {x c : Int} (h : 20 ≤ x ∧ x ≤ 28) : dl x c = dB x c := by
  unfold dl; rw [if_neg (by omega), if_neg (by omega), if_neg (by omega), if_pos h]
theorem dl_S {x c : Int} (h : 1000 ≤ x ∧ x < 2000) : dl x c = dS x c := by
  unfold dl; rw [if_neg (by omega), if_neg (by omega), if_neg (by omega), if_neg (by omega), if_pos h]
theorem dl_A {x c : Int} (h : 2000 ≤ x ∧ x < 3000) : dl x c = dA x c := by
  unfold dl; rw [if_neg (by omega), if_neg (by omega), if_neg (by omega), if_neg (by omega), if_neg (by omega), if_pos h]
theorem dl_0 (c : Int) : dl 0 c = 0 := by
  unfold dl; rw [if_neg (by omega), if_neg (by omega), if_neg (by omega), if_neg (by omega), if_neg (by omega), if_neg (by omega)]
theorem dg {x k p q s : Int} (h : x = 1000 * k + 100 * p + 10 * q + s) (hp : 0 ≤ p) (hq : 0 ≤ q) (hpq : p + q ≤ 8) (hs : 0 ≤ s ∧ s ≤ 1) : x / 10 % 10 = q ∧ x / 100 % 10 = p ∧ x % 100 = 10 * q + s := by
  have h1 : x / 10 = 100 * k + 10 * p + q := by omega
  have h2 : x / 100 = 10 * k + p := by omega
  rw [h1, h2]
  exact ⟨by omega, by omega, by omega⟩
theorem d_h {x c : Int} : x = 1 → 1 ≤ c → c ≤ 6 → dl x c = 2 := by
  intro h a b; unfold dl; rw [if_pos h, if_pos ⟨a, b⟩]
theorem d_if {x : Int} : x = 2 → dl x 7 = 10 := by
  intro h; unfold dl; rw [if_neg (by omega), if_pos h, if_pos rfl]
theorem d_sc {x : Int} : x = 2 ∨ x = 20 ∨ x = 2001 → dl x 159 = 1 := by
  rintro (rfl | rfl | rfl) <;> decide
theorem d_not {x : Int} : 10 ≤ x → x ≤ 18 → dl x 10 = x := by
  intro a b; rw [dl_T ⟨a, b⟩]; unfold dT; rw [if_pos rfl]
theorem d_po {x : Int} : 10 ≤ x → x ≤ 17 → dl x 140 = x + 1 := by
  intro a b; rw [dl_T ⟨a, by omega⟩]; unfold dT; rw [if_neg (by omega), if_pos ⟨rfl, b⟩]
theorem d_kn {x c : Int} : 10 ≤ x → x ≤ 18 → c = 11 ∨ c = 12 → dl x c = x + 10 := by
  intro a b h; rw [dl_T ⟨a, b⟩]; unfold dT; rw [if_neg (by omega), if_neg (by omega), if_pos h]
theorem d_ob {x p q s : Int} : 0 ≤ p → 0 ≤ q → p + q ≤ 7 → 0 ≤ s → s ≤ 1 → (x = 1000 + 100 * p + 10 * q + s ∨ (x = 10 + p ∧ q = 0 ∧ s = 0)) → dl x 191 = 1010 + 100 * p + 10 * q + s := by
  intro a b c d e h
  rcases h with h | ⟨h, h1, h2⟩
  · rw [dl_S (by omega)]; unfold dS; rw [if_pos (by omega)]; omega
  · rw [dl_T (by omega)]; unfold dT; rw [if_neg (by omega), if_neg (by omega), if_neg (by omega), if_pos (by omega)]; omega
theorem d_lf {x p q s c : Int} : 0 ≤ p → 0 ≤ q → p + q ≤ 8 → 0 ≤ s → s ≤ 1 → (x = 1000 + 100 * p + 10 * q + s ∨ (x = 10 + p ∧ q = 0 ∧ s = 0)) → c = 50 ∨ (13 ≤ c ∧ c ≤ 21) → dl x c = 2000 + 100 * p + 10 * q + s := by
  intro a b c d e h k
  rcases h with h | ⟨h, h1, h2⟩
  · rw [dl_S (by omega)]; unfold dS; rw [if_neg (by omega), if_pos k]; omega
  · rw [dl_T (by omega)]; unfold dT; rw [if_neg (by omega), if_neg (by omega), if_neg (by omega), if_neg (by omega), if_pos k]; omega
theorem d_op {x : Int} (c : Int) (h : c = 142 ∨ c = 143 ∨ c = 145 ∨ c = 147) : 2000 ≤ x → x < 3000 → dl x c = x - 1000 := by
  intro a b; rw [dl_A ⟨a, b⟩]; unfold dA; rw [if_pos h]
theorem d_cb {x : Int} : 2000 ≤ x → x < 3000 → 1 ≤ x / 10 % 10 → dl x 193 = x - 10 := by
  intro a b h; rw [dl_A ⟨a, b⟩]; unfold dA; rw [if_neg (by omega), if_pos ⟨rfl, h⟩]
theorem d_cm {x : Int} (c : Int) (h : c = 160 ∨ c = 161 ∨ c = 162) : 2000 ≤ x → x < 3000 → x % 100 = 0 → dl x c = x - 999 := by
  intro a b k; rw [dl_A ⟨a, b⟩]; unfold dA; rw [if_neg (by omega), if_neg (by omega), if_pos ⟨h, k⟩]
theorem d_or {x p : Int} (c : Int) (h : c = 8 ∨ c = 9) : 0 ≤ p → p ≤ 8 → (x = 20 + p ∨ x = 2001 + 100 * p) → dl x c = 10 + p := by
  intro a b k
  rcases k with k | k
  · rw [dl_B (by omega)]; unfold dB; rw [if_pos h]; omega
  · rw [dl_A (by omega)]; unfold dA; rw [if_neg (by omega), if_neg (by omega), if_neg (by omega), if_pos (by omega), if_pos h]; omega
theorem d_cp {x p : Int} : 1 ≤ p → p ≤ 8 → (x = 20 + p ∨ x = 2001 + 100 * p) → dl x 141 = 19 + p := by
  intro a b k
  rcases k with k | k
  · rw [dl_B (by omega)]; unfold dB; rw [if_neg (by omega), if_pos (by omega)]; omega
  · rw [dl_A (by omega)]; unfold dA; rw [if_neg (by omega), if_neg (by omega), if_neg (by omega), if_pos (by omega), if_neg (by omega), if_pos (by omega)]; omega
/-- what can stand where a part begins -/
theorem e_S {x p q s c : Int} : 0 ≤ p → 0 ≤ q → p + q ≤ 8 → 0 ≤ s → s ≤ 1 → (x = 1000 + 100 * p + 10 * q + s ∨ (x = 10 + p ∧ q = 0 ∧ s = 0 ∧ c ≠ 10 ∧ c ≠ 140 ∧ c ≠ 11 ∧ c ≠ 12)) → dl x c ≠ 0 → (c = 191 ∧ p + q ≤ 7) ∨ c = 50 ∨ (13 ≤ c ∧ c ≤ 21) := by
  intro a b c d e h k
  rcases h with h | ⟨h, h1, h2, h3⟩
  · have kg := dg (k := 1) (p := p) (q := q) (s := s) (by omega) (by omega) (by omega) (by omega) (by omega) (x := x)
    rw [dl_S (by omega)] at k; unfold dS at k
    apply Classical.byContradiction
    intro hn
    rw [if_neg (by omega), if_neg (by omega)] at k; omega
  · rw [dl_T (by omega)] at k; unfold dT at k
    apply Classical.byContradiction
    intro hn
    rw [if_neg (by omega), if_neg (by omega), if_neg (by omega), if_neg (by omega), if_neg (by omega)] at k; omega
theorem e_T {x p c : Int} : 0 ≤ p → p ≤ 8 → x = 10 + p → dl x c ≠ 0 → c = 10 ∨ (c = 140 ∧ p ≤ 7) ∨ c = 11 ∨ c = 12 ∨ (c = 191 ∧ p ≤ 7) ∨ c = 50 ∨ (13 ≤ c ∧ c ≤ 21) := by
  intro a b h k
  rw [dl_T (by omega)] at k; unfold dT at k
  apply Classical.byContradiction
  intro hn
  rw [if_neg (by omega), if_neg (by omega), if_neg (by omega), if_neg (by omega), if_neg (by omega)] at k; omega
/-- what can stand behind a part that nothing follows -/
theorem e_A {x p q s c : Int} : 0 ≤ p → 0 ≤ q → p + q ≤ 8 → 0 ≤ s → s ≤ 1 → x = 2000 + 100 * p + 10 * q + s → c ≠ 142 → c ≠ 143 → c ≠ 145 → c ≠ 147 → dl x c ≠ 0 → (c = 193 ∧ 1 ≤ q) ∨ ((c = 160 ∨ c = 161 ∨ c = 162) ∧ q = 0 ∧ s = 0) ∨ (q = 0 ∧ s = 1) := by
  intro a b c d e h k1 k2 k3 k4 k
  rw [dl_A (by omega)] at k; unfold dA at k
  apply Classical.byContradiction
  intro hn
  rw [if_neg (by omega), if_neg (by omega), if_neg (by omega), if_neg (by omega)] at k; omega
/-- what can stand behind a test that neither "or" nor "and" follows -/
theorem e_B {x p c : Int} : 0 ≤ p → p ≤ 8 → (x = 20 + p ∨ (x = 2001 + 100 * p ∧ c ≠ 142 ∧ c ≠ 143 ∧ c ≠ 145 ∧ c ≠ 147)) → c ≠ 8 → c ≠ 9 → dl x c ≠ 0 → (c = 141 ∧ 1 ≤ p) ∨ (c = 159 ∧ p = 0) := by
  intro a b h h8 h9 k
  apply Classical.byContradiction
  intro hn
  rcases h with h | ⟨h, h1, h2, h3, h4⟩
  · rw [dl_B (by omega)] at k; unfold dB at k
    rw [if_neg (by omega), if_neg (by omega), if_neg (by omega)] at k; omega
  · rw [dl_A (by omega)] at k; unfold dA at k
    rw [if_neg (by omega), if_neg (by omega), if_neg (by omega), if_pos (by omega), if_neg (by omega), if_neg (by omega), if_neg (by omega)] at k; omega
theorem e_H {x c : Int} : x = 1 → dl x c ≠ 0 → 1 ≤ c ∧ c ≤ 6 := by
  intro h k; unfold dl at k; rw [if_pos h] at k
  apply Classical.byContradiction
  intro hn
  rw [if_neg (by omega)] at k; omega
theorem e_I {x c : Int} : x = 2 → dl x c ≠ 0 → c = 7 ∨ c = 159 := by
  intro h k; unfold dl at k; rw [if_neg (by omega), if_pos h] at k
  apply Classical.byContradiction
  intro hn
  rw [if_neg (by omega), if_neg (by omega)] at k; omega
/-- the states of a row of words -/
def dq (C : Int → Int) : Nat → Int
  | 0 => 1
  | n + 1 => dl (dq C n) (C n)
theorem dl_seq (C : Int → Int) : ∃ F : Int → Int, F 0 = 1 ∧ ∀ j : Int, 0 ≤ j → F (j + 1) = dl (F j) (C j) := by
  refine ⟨fun j => dq C j.toNat, rfl, fun j hj => ?_⟩
  show dq C (j + 1).toNat = dl (dq C j.toNat) (C j)
  rw [show (j + 1).toNat = j.toNat + 1 by omega]
  show dl (dq C j.toNat) (C ((j.toNat : Nat) : Int)) = _
  rw [show ((j.toNat : Nat) : Int) = j by omega]
theorem tk_lt {C : Int → Int} {t n : Int} (h : C n = 0) (ht : t ≤ n) : C t ≠ 0 → t < n := by
  intro hc
  have : t ≠ n := fun e => hc (by rw [e]; exact h)
  omega
/-- the words of the text that is read -/
def PC (C : Int → Int) (M : mH) : Prop := ∀ j : Int, gi M 97 j = C j
theorem PC.fr {C : Int → Int} {L : List (Nat × Nat)} {M M' : mH} (h : PC C M) (f : Fr L M M') (hc : s_al L (fun c => c != 97) = true) : PC C M' := fun j => (f.g (s_al_ok hc (by simp))).trans (h j)
theorem PC.wr {C : Int → Int} {M M' : mH} {c i : Nat} {v : Value} (h : PC C M) (u : Wr M c i v M') (hc : c ≠ 97) : PC C M' := fun j => by
  rw [← h j]; unfold gi; rw [u.ne (Or.inl (Ne.symm hc))]
/-- the words that are kept -/
def KC (C : Int → Int) (M : mH) : Prop := ∀ j : Int, gi M 78 (483 + j) = C j
theorem KC.fr {C : Int → Int} {L : List (Nat × Nat)} {M M' : mH} (h : KC C M) (f : Fr L M M') (hc : s_al L (fun c => c != 78) = true) : KC C M' := fun j => (f.g (s_al_ok hc (by simp))).trans (h j)
theorem KC.wr {C : Int → Int} {M M' : mH} {c i : Nat} {v : Value} (h : KC C M) (u : Wr M c i v M') (hc : c ≠ 78) : KC C M' := fun j => by
  rw [← h j]; unfold gi; rw [u.ne (Or.inl (Ne.symm hc))]
/-- a row of words is a text -/
def AC (c : Nat) (o n : Int) (M : mH) : Prop := ∃ F : Int → Int, F 0 = 1 ∧ (∀ j : Int, 0 ≤ j → j < n → F (j + 1) = dl (F j) (gi M c (o + j))) ∧ (F n = 2 ∨ F n = 20 ∨ F n = 2001)
/-- a long that isn't zero can divide -/
def nz (a : Int) : Prop := ¬ (Int64.ofInt a = 0)
theorem nz_1 : nz 1 := by unfold nz; decide
section
variable {base : Nat} {X : Nat → Option mC} {G : Nat → Value} {d : Nat} {t : mT} {pc pc' : Nat} {lv : sL} {st : List mV} {M : mH} {Q : Option Value → mH → Prop}
theorem r_lcmpz {a : Int} (hd : decode t.2.2.1 pc = .ok (.lcmp, 1)) (hn : pc + 1 = pc') (h : ∀ e, -1 ≤ e → e ≤ 1 → (e ≠ 0 → nz a) → sRn base X G d t pc' lv (vI e :: st) M Q) : sRn base X G d t pc lv (vL 0 :: vL a :: st) M Q := by
  subst hn
  refine r_B (st := st) (v := .int (lg_cmp (Int64.ofInt a) (Int64.ofInt 0))) hd rfl rfl rfl rfl rfl rfl rfl ?_
  by_cases hz : Int64.ofInt a = 0
  · have : lg_cmp (Int64.ofInt a) (Int64.ofInt 0) = 0 := by rw [hz]; decide
    rw [this]
    exact h 0 (by omega) (by omega) (fun q => absurd rfl q)
  · unfold lg_cmp
    split
    · exact h 1 (by omega) (by omega) (fun _ => hz)
    · split
      · exact h 0 (by omega) (by omega) (fun _ => hz)
      · exact h (-1) (by omega) (by omega) (fun _ => hz)
theorem r_ldivz {a b : Int} (hd : decode t.2.2.1 pc = .ok (.ldiv, 1)) (hn : pc + 1 = pc') (hb : nz b) (h : ∀ e, inJ e → sRn base X G d t pc' lv (vL e :: st) M Q) : sRn base X G d t pc lv (vL b :: vL a :: st) M Q := by
  subst hn
  refine r_B (st := st) (v := .long (Int64.ofInt a / Int64.ofInt b)) hd rfl rfl rfl rfl rfl rfl ?_ (s_anyL (fun e he _ => h e he))
  simp only [m_stB, em_s, List.map_cons, em, m_ll, if_neg hb]
end
def T218 : mT := (11, yX11_takes, cX11_takes, 3, (some .boolean))
set_option maxRecDepth 10000 in
theorem TE218 : sy_m[218]? = some T218 := rfl
theorem B218_0_1 : s_dk T218.2.2.1 0 [.aload_n 0] 1 = true := by decide +kernel
theorem D218_1 : decode T218.2.2.1 1 = .ok (.invokevirtual 321, 3) := by decide +kernel
theorem D218_4 : decode T218.2.2.1 4 = .ok (.ifCond .eq 20, 3) := by decide +kernel
theorem B218_24_27 : s_dk T218.2.2.1 24 [.iconst 0, .istore_n 2, .iload_n 2] 27 = true := by decide +kernel
theorem D218_27 : decode T218.2.2.1 27 = .ok (.ifCond .eq 13, 3) := by decide +kernel
theorem B218_40_41 : s_dk T218.2.2.1 40 [.iload_n 2] 41 = true := by decide +kernel
theorem D218_41 : decode T218.2.2.1 41 = .ok (.ireturn, 1) := by decide +kernel
theorem B218_7_8 : s_dk T218.2.2.1 7 [.aload_n 0] 8 = true := by decide +kernel
theorem D218_8 : decode T218.2.2.1 8 = .ok (.getfield 78, 3) := by decide +kernel
theorem B218_11_12 : s_dk T218.2.2.1 11 [.aload_n 0] 12 = true := by decide +kernel
theorem D218_12 : decode T218.2.2.1 12 = .ok (.getfield 325, 3) := by decide +kernel
theorem D218_15 : decode T218.2.2.1 15 = .ok (.iaload, 1) := by decide +kernel
theorem B218_16_17 : s_dk T218.2.2.1 16 [.iload_n 1] 17 = true := by decide +kernel
theorem D218_17 : decode T218.2.2.1 17 = .ok (.if_icmp .ne 7, 3) := by decide +kernel
theorem B218_20_21 : s_dk T218.2.2.1 20 [.iconst 1] 21 = true := by decide +kernel
theorem D218_21 : decode T218.2.2.1 21 = .ok (.goto 4, 3) := by decide +kernel
theorem B218_25_27 : s_dk T218.2.2.1 25 [.istore_n 2, .iload_n 2] 27 = true := by decide +kernel
theorem B218_30_32 : s_dk T218.2.2.1 30 [.aload_n 0, .dup] 32 = true := by decide +kernel
theorem D218_32 : decode T218.2.2.1 32 = .ok (.getfield 325, 3) := by decide +kernel
theorem B218_35_37 : s_dk T218.2.2.1 35 [.iconst 1, .iadd] 37 = true := by decide +kernel
theorem pf_11_325_77 : s_pf 11 325 77 = some (37, 1) := by decide +kernel
theorem D218_37 : decode T218.2.2.1 37 = .ok (.putfield 325, 3) := by decide +kernel
def T219 : mT := (11, yX11_must, cX11_must, 2, none)
set_option maxRecDepth 10000 in
theorem TE219 : sy_m[219]? = some T219 := rfl
theorem B219_0_2 : s_dk T219.2.2.1 0 [.aload_n 0, .iload_n 1] 2 = true := by decide +kernel
theorem D219_2 : decode T219.2.2.1 2 = .ok (.invokevirtual 328, 3) := by decide +kernel
theorem ck_11_virtual_328 : m_call 11 (.invokevirtual 328) = some (0, 218, 1) := by decide +kernel
theorem D219_5 : decode T219.2.2.1 5 = .ok (.ifCond .ne 7, 3) := by decide +kernel
theorem D219_12 : decode T219.2.2.1 12 = .ok (.return_, 1) := by decide +kernel
theorem B219_8_9 : s_dk T219.2.2.1 8 [.aload_n 0] 9 = true := by decide +kernel
theorem D219_9 : decode T219.2.2.1 9 = .ok (.invokevirtual 331, 3) := by decide +kernel
theorem ck_11_virtual_331 : m_call 11 (.invokevirtual 331) = some (0, 217, 0) := by decide +kernel
def T220 : mT := (11, yX11_leaf, cX11_leaf, 1, none)
set_option maxRecDepth 10000 in
theorem TE220 : sy_m[220]? = some T220 := rfl
theorem B220_0_1 : s_dk T220.2.2.1 0 [.aload_n 0] 1 = true := by decide +kernel
theorem gf_11_334_77 : s_gf 11 334 77 = some (38, 1) := by decide +kernel
theorem D220_1 : decode T220.2.2.1 1 = .ok (.getfield 334, 3) := by decide +kernel
theorem B220_4_6 : s_dk T220.2.2.1 4 [.bipush 50] 6 = true := by decide +kernel
theorem D220_6 : decode T220.2.2.1 6 = .ok (.if_icmp .ne 7, 3) := by decide +kernel
theorem B220_13_15 : s_dk T220.2.2.1 13 [.aload_n 0, .dup] 15 = true := by decide +kernel
theorem D220_15 : decode T220.2.2.1 15 = .ok (.getfield 334, 3) := by decide +kernel
theorem B220_18_20 : s_dk T220.2.2.1 18 [.iconst 1, .iadd] 20 = true := by decide +kernel
theorem pf_11_334_77 : s_pf 11 334 77 = some (38, 1) := by decide +kernel
theorem D220_20 : decode T220.2.2.1 20 = .ok (.putfield 334, 3) := by decide +kernel
theorem B220_23_24 : s_dk T220.2.2.1 23 [.aload_n 0] 24 = true := by decide +kernel
theorem D220_24 : decode T220.2.2.1 24 = .ok (.invokevirtual 321, 3) := by decide +kernel
theorem D220_27 : decode T220.2.2.1 27 = .ok (.ifCond .eq 13, 3) := by decide +kernel
theorem D220_40 : decode T220.2.2.1 40 = .ok (.return_, 1) := by decide +kernel
theorem B220_30_32 : s_dk T220.2.2.1 30 [.aload_n 0, .dup] 32 = true := by decide +kernel
theorem D220_32 : decode T220.2.2.1 32 = .ok (.getfield 325, 3) := by decide +kernel
theorem B220_35_37 : s_dk T220.2.2.1 35 [.iconst 1, .iadd] 37 = true := by decide +kernel
theorem D220_37 : decode T220.2.2.1 37 = .ok (.putfield 325, 3) := by decide +kernel
theorem B220_9_10 : s_dk T220.2.2.1 9 [.aload_n 0] 10 = true := by decide +kernel
theorem D220_10 : decode T220.2.2.1 10 = .ok (.invokevirtual 331, 3) := by decide +kernel
def T228 : mT := (11, yX11_readPart, cX11_readPart, 3, none)
set_option maxRecDepth 10000 in
theorem TE228 : sy_m[228]? = some T228 := rfl
theorem B228_0_1 : s_dk T228.2.2.1 0 [.aload_n 0] 1 = true := by decide +kernel
theorem D228_1 : decode T228.2.2.1 1 = .ok (.invokevirtual 321, 3) := by decide +kernel
theorem D228_4 : decode T228.2.2.1 4 = .ok (.ifCond .ne 4, 3) := by decide +kernel
theorem B228_8_9 : s_dk T228.2.2.1 8 [.aload_n 0] 9 = true := by decide +kernel
theorem D228_9 : decode T228.2.2.1 9 = .ok (.getfield 78, 3) := by decide +kernel
theorem B228_12_13 : s_dk T228.2.2.1 12 [.aload_n 0] 13 = true := by decide +kernel
theorem D228_13 : decode T228.2.2.1 13 = .ok (.getfield 325, 3) := by decide +kernel
theorem D228_16 : decode T228.2.2.1 16 = .ok (.iaload, 1) := by decide +kernel
theorem B228_17_21 : s_dk T228.2.2.1 17 [.istore_n 2, .iload_n 2, .bipush 91] 21 = true := by decide +kernel
theorem D228_21 : decode T228.2.2.1 21 = .ok (.invokestatic 346, 3) := by decide +kernel
theorem ck_11_static_346 : m_call 11 (.invokestatic 346) = some (1, 221, 1) := by decide +kernel
theorem D228_24 : decode T228.2.2.1 24 = .ok (.if_icmp .ne 50, 3) := by decide +kernel
theorem B228_74_77 : s_dk T228.2.2.1 74 [.iload_n 2, .bipush 50] 77 = true := by decide +kernel
theorem D228_77 : decode T228.2.2.1 77 = .ok (.if_icmp .ne 18, 3) := by decide +kernel
theorem B228_95_98 : s_dk T228.2.2.1 95 [.iload_n 2, .bipush 13] 98 = true := by decide +kernel
theorem D228_98 : decode T228.2.2.1 98 = .ok (.if_icmp .lt 16, 3) := by decide +kernel
theorem B228_114_115 : s_dk T228.2.2.1 114 [.aload_n 0] 115 = true := by decide +kernel
theorem D228_115 : decode T228.2.2.1 115 = .ok (.invokevirtual 331, 3) := by decide +kernel
theorem D228_118 : decode T228.2.2.1 118 = .ok (.return_, 1) := by decide +kernel
theorem B228_101_104 : s_dk T228.2.2.1 101 [.iload_n 2, .bipush 21] 104 = true := by decide +kernel
theorem D228_104 : decode T228.2.2.1 104 = .ok (.if_icmp .gt 10, 3) := by decide +kernel
theorem B228_107_108 : s_dk T228.2.2.1 107 [.aload_n 0] 108 = true := by decide +kernel
theorem D228_108 : decode T228.2.2.1 108 = .ok (.invokevirtual 353, 3) := by decide +kernel
theorem ck_11_virtual_353 : m_call 11 (.invokevirtual 353) = some (0, 220, 0) := by decide +kernel
theorem D228_111 : decode T228.2.2.1 111 = .ok (.goto 7, 3) := by decide +kernel
theorem B228_80_81 : s_dk T228.2.2.1 80 [.aload_n 0] 81 = true := by decide +kernel
theorem D228_81 : decode T228.2.2.1 81 = .ok (.getfield 81, 3) := by decide +kernel
theorem B228_84_85 : s_dk T228.2.2.1 84 [.aload_n 0] 85 = true := by decide +kernel
theorem D228_85 : decode T228.2.2.1 85 = .ok (.getfield 325, 3) := by decide +kernel
theorem D228_88 : decode T228.2.2.1 88 = .ok (.iaload, 1) := by decide +kernel
theorem ci_11_365 : m_ci 11 365 = some (100000) := by decide +kernel
theorem D228_89 : decode T228.2.2.1 89 = .ok (.ldc_w 365, 3) := by decide +kernel
theorem D228_92 : decode T228.2.2.1 92 = .ok (.if_icmp .le 15, 3) := by decide +kernel
theorem B228_27_30 : s_dk T228.2.2.1 27 [.iload_n 1, .bipush 8] 30 = true := by decide +kernel
theorem D228_30 : decode T228.2.2.1 30 = .ok (.if_icmp .ne 7, 3) := by decide +kernel
theorem B228_37_38 : s_dk T228.2.2.1 37 [.aload_n 0] 38 = true := by decide +kernel
theorem D228_38 : decode T228.2.2.1 38 = .ok (.invokevirtual 321, 3) := by decide +kernel
theorem D228_41 : decode T228.2.2.1 41 = .ok (.ifCond .ne 4, 3) := by decide +kernel
theorem B228_45_47 : s_dk T228.2.2.1 45 [.aload_n 0, .dup] 47 = true := by decide +kernel
theorem D228_47 : decode T228.2.2.1 47 = .ok (.getfield 325, 3) := by decide +kernel
theorem B228_50_52 : s_dk T228.2.2.1 50 [.iconst 1, .iadd] 52 = true := by decide +kernel
theorem D228_52 : decode T228.2.2.1 52 = .ok (.putfield 325, 3) := by decide +kernel
theorem B228_55_59 : s_dk T228.2.2.1 55 [.aload_n 0, .iload_n 1, .iconst 1, .iadd] 59 = true := by decide +kernel
theorem D228_59 : decode T228.2.2.1 59 = .ok (.invokevirtual 356, 3) := by decide +kernel
theorem ck_11_virtual_356 : m_call 11 (.invokevirtual 356) = some (0, 226, 1) := by decide +kernel
def T226 : mT := (11, yX11_readSum, cX11_readSum, 2, none)
set_option maxRecDepth 10000 in
theorem TE226 : sy_m[226]? = some T226 := rfl
theorem B228_62_65 : s_dk T228.2.2.1 62 [.aload_n 0, .bipush 93] 65 = true := by decide +kernel
theorem D228_65 : decode T228.2.2.1 65 = .ok (.invokestatic 346, 3) := by decide +kernel
theorem D228_68 : decode T228.2.2.1 68 = .ok (.invokevirtual 350, 3) := by decide +kernel
theorem ck_11_virtual_350 : m_call 11 (.invokevirtual 350) = some (0, 219, 1) := by decide +kernel
theorem D228_71 : decode T228.2.2.1 71 = .ok (.goto 47, 3) := by decide +kernel
theorem D228_44 : decode T228.2.2.1 44 = .ok (.return_, 1) := by decide +kernel
theorem B228_33_34 : s_dk T228.2.2.1 33 [.aload_n 0] 34 = true := by decide +kernel
theorem D228_34 : decode T228.2.2.1 34 = .ok (.invokevirtual 331, 3) := by decide +kernel
theorem D228_7 : decode T228.2.2.1 7 = .ok (.return_, 1) := by decide +kernel
def T227 : mT := (11, yX11_readTerm, cX11_readTerm, 2, none)
set_option maxRecDepth 10000 in
theorem TE227 : sy_m[227]? = some T227 := rfl
theorem B227_0_2 : s_dk T227.2.2.1 0 [.aload_n 0, .iload_n 1] 2 = true := by decide +kernel
theorem D227_2 : decode T227.2.2.1 2 = .ok (.invokevirtual 362, 3) := by decide +kernel
theorem ck_11_virtual_362 : m_call 11 (.invokevirtual 362) = some (0, 228, 1) := by decide +kernel
theorem B227_5_8 : s_dk T227.2.2.1 5 [.aload_n 0, .bipush 42] 8 = true := by decide +kernel
theorem D227_8 : decode T227.2.2.1 8 = .ok (.invokestatic 346, 3) := by decide +kernel
theorem D227_11 : decode T227.2.2.1 11 = .ok (.invokevirtual 328, 3) := by decide +kernel
theorem D227_14 : decode T227.2.2.1 14 = .ok (.ifCond .ne 15, 3) := by decide +kernel
theorem B227_29_31 : s_dk T227.2.2.1 29 [.aload_n 0, .iload_n 1] 31 = true := by decide +kernel
theorem D227_31 : decode T227.2.2.1 31 = .ok (.invokevirtual 362, 3) := by decide +kernel
theorem D227_34 : decode T227.2.2.1 34 = .ok (.goto (-29), 3) := by decide +kernel
theorem B227_17_20 : s_dk T227.2.2.1 17 [.aload_n 0, .bipush 47] 20 = true := by decide +kernel
theorem D227_20 : decode T227.2.2.1 20 = .ok (.invokestatic 346, 3) := by decide +kernel
theorem D227_23 : decode T227.2.2.1 23 = .ok (.invokevirtual 328, 3) := by decide +kernel
theorem D227_26 : decode T227.2.2.1 26 = .ok (.ifCond .eq 11, 3) := by decide +kernel
theorem D227_37 : decode T227.2.2.1 37 = .ok (.return_, 1) := by decide +kernel
theorem B226_0_2 : s_dk T226.2.2.1 0 [.aload_n 0, .iload_n 1] 2 = true := by decide +kernel
theorem D226_2 : decode T226.2.2.1 2 = .ok (.invokevirtual 359, 3) := by decide +kernel
theorem ck_11_virtual_359 : m_call 11 (.invokevirtual 359) = some (0, 227, 1) := by decide +kernel
theorem B226_5_8 : s_dk T226.2.2.1 5 [.aload_n 0, .bipush 43] 8 = true := by decide +kernel
theorem D226_8 : decode T226.2.2.1 8 = .ok (.invokestatic 346, 3) := by decide +kernel
theorem D226_11 : decode T226.2.2.1 11 = .ok (.invokevirtual 328, 3) := by decide +kernel
theorem D226_14 : decode T226.2.2.1 14 = .ok (.ifCond .ne 15, 3) := by decide +kernel
theorem B226_29_31 : s_dk T226.2.2.1 29 [.aload_n 0, .iload_n 1] 31 = true := by decide +kernel
theorem D226_31 : decode T226.2.2.1 31 = .ok (.invokevirtual 359, 3) := by decide +kernel
theorem D226_34 : decode T226.2.2.1 34 = .ok (.goto (-29), 3) := by decide +kernel
theorem B226_17_20 : s_dk T226.2.2.1 17 [.aload_n 0, .bipush 45] 20 = true := by decide +kernel
theorem D226_20 : decode T226.2.2.1 20 = .ok (.invokestatic 346, 3) := by decide +kernel
theorem D226_23 : decode T226.2.2.1 23 = .ok (.invokevirtual 328, 3) := by decide +kernel
theorem D226_26 : decode T226.2.2.1 26 = .ok (.ifCond .eq 11, 3) := by decide +kernel
theorem D226_37 : decode T226.2.2.1 37 = .ok (.return_, 1) := by decide +kernel
