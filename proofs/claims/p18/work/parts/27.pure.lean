/-! Calls that leave the heap as it is; masks; the static tables' bounds. -/
section
variable {base : Nat} {X : Nat → Option mC} {G : Nat → Value} {d : Nat} {t : mT} {pc pc' : Nat} {lv lv' : sL} {st st' : List mV} {M : mH} {Q : Option Value → mH → Prop} {ins : Instr} {k : Nat × Nat × Nat} {t' : mT} {c : Nat} {args rest : List mV} {q : sS} {P' : Int → Prop}
theorem r_sIp (hd : decode t.2.2.1 pc = .ok (ins, 3)) (hn : pc + 3 = pc') (hkk : m_call t.1 ins = some k) (ht : sy_m[k.2.1]? = some t') (ha : s_args k.1 k.2.2 st = some (args, rest)) (h1 : s_sz rest ≤ 8) (h2 : s_sz args ≤ t'.2.2.2.1 ∧ t'.2.2.2.1 ≤ 45) (h4 : ¬ (k.1 = 0 ∨ k.1 = 3)) (hd0 : 0 < d) (h : sOk base X G (d - 1) t' args M (pI (fun v M' => M' = M ∧ P' v))) (hh : ∀ v, P' v → sRn base X G d t pc' lv (vI v :: rest) M Q) : sRn base X G d t pc lv st M Q :=
  r_sI hd hn hkk ht ha h1 h2 h4 hd0 h (fun v M' p => by rw [p.1]; exact hh v p.2)
theorem r_sLp (hd : decode t.2.2.1 pc = .ok (ins, 3)) (hn : pc + 3 = pc') (hkk : m_call t.1 ins = some k) (ht : sy_m[k.2.1]? = some t') (ha : s_args k.1 k.2.2 st = some (args, rest)) (h1 : s_sz rest ≤ 8) (h2 : s_sz args ≤ t'.2.2.2.1 ∧ t'.2.2.2.1 ≤ 45) (h4 : ¬ (k.1 = 0 ∨ k.1 = 3)) (hd0 : 0 < d) (h : sOk base X G (d - 1) t' args M (pL (fun v M' => M' = M ∧ P' v))) (hh : ∀ v, P' v → sRn base X G d t pc' lv (vL v :: rest) M Q) : sRn base X G d t pc lv st M Q :=
  r_sL hd hn hkk ht ha h1 h2 h4 hd0 h (fun v M' p => by rw [p.1]; exact hh v p.2)
theorem r_vIp (hd : decode t.2.2.1 pc = .ok (ins, 3)) (hn : pc + 3 = pc') (hkk : m_call t.1 ins = some k) (ht : sy_m[k.2.1]? = some t') (ha : s_args k.1 k.2.2 st = some (vR c :: args, rest)) (h1 : s_sz rest ≤ 8) (h2 : s_sz (vR c :: args) ≤ t'.2.2.2.1 ∧ t'.2.2.2.1 ≤ 45) (hc : shL[c]? = some q) (h4 : q.1 = m_oc t'.1 ∧ t'.1 ≠ 13) (H : Sh base M) (hd0 : 0 < d) (h : sOk base X G (d - 1) t' (vR c :: args) M (pI (fun v M' => M' = M ∧ P' v))) (hh : ∀ v, P' v → sRn base X G d t pc' lv (vI v :: rest) M Q) : sRn base X G d t pc lv st M Q :=
  r_vI hd hn hkk ht ha h1 h2 hc h4 H hd0 h (fun v M' p => by rw [p.1]; exact hh v p.2)
theorem r_vLp (hd : decode t.2.2.1 pc = .ok (ins, 3)) (hn : pc + 3 = pc') (hkk : m_call t.1 ins = some k) (ht : sy_m[k.2.1]? = some t') (ha : s_args k.1 k.2.2 st = some (vR c :: args, rest)) (h1 : s_sz rest ≤ 8) (h2 : s_sz (vR c :: args) ≤ t'.2.2.2.1 ∧ t'.2.2.2.1 ≤ 45) (hc : shL[c]? = some q) (h4 : q.1 = m_oc t'.1 ∧ t'.1 ≠ 13) (H : Sh base M) (hd0 : 0 < d) (h : sOk base X G (d - 1) t' (vR c :: args) M (pL (fun v M' => M' = M ∧ P' v))) (hh : ∀ v, P' v → sRn base X G d t pc' lv (vL v :: rest) M Q) : sRn base X G d t pc lv st M Q :=
  r_vL hd hn hkk ht ha h1 h2 hc h4 H hd0 h (fun v M' p => by rw [p.1]; exact hh v p.2)
theorem r_minX {i : Nat} {a b : Int} (hd : decode t.2.2.1 pc = .ok (.invokestatic i, 3)) (hn : pc + 3 = pc') (hk : m_call t.1 (.invokestatic i) = none) (hs : m_sp t.1 i = some 4) (h1 : s_sz st ≤ 8) (h : ∀ e, sRn base X G d t pc' lv (vL e :: st) M Q) : sRn base X G d t pc lv (vL b :: vL a :: st) M Q := r_minL hd hn hk hs h1 (h a) (h b)
theorem s_and {a m : Int} {k : Nat} (hk : k < 31) (hm : (m % 4294967296).toNat = 2 ^ k - 1) : Int32.ofInt a &&& Int32.ofInt m = Int32.ofInt (a % (2 ^ k : Nat)) := by
  apply Int32.toBitVec.inj
  apply BitVec.eq_of_toNat_eq
  show ((BitVec.ofInt 32 a) &&& (BitVec.ofInt 32 m)).toNat = (BitVec.ofInt 32 (a % (2 ^ k : Nat))).toNat
  rw [BitVec.toNat_and, BitVec.toNat_ofInt, BitVec.toNat_ofInt, BitVec.toNat_ofInt]
  rw [show ((2 : Nat) ^ 32 : Nat) = 4294967296 from rfl]
  rw [show (m % ((4294967296 : Nat) : Int)).toNat = 2 ^ k - 1 from hm, Nat.and_two_pow_sub_one_eq_mod]
  have hp : (0 : Int) < ((2 ^ k : Nat) : Int) := by have := Nat.two_pow_pos k; omega
  have h1 := Int.emod_nonneg a (show ((2 ^ k : Nat) : Int) ≠ 0 by omega)
  have h2 := Int.emod_lt_of_pos a hp
  have h3 : (2 ^ k : Nat) < 4294967296 := by
    have : 2 ^ k < 2 ^ 32 := Nat.pow_lt_pow_right (by omega) (by omega)
    exact this
  rw [Int.emod_eq_of_lt h1 (by omega)]
  have h4 := Int.emod_nonneg a (show ((4294967296 : Nat) : Int) ≠ 0 by decide)
  have hd : ((2 ^ k : Nat) : Int) ∣ ((4294967296 : Nat) : Int) := by
    have : (2 ^ k : Nat) ∣ 2 ^ 32 := Nat.pow_dvd_pow 2 (by omega)
    exact Int.natCast_dvd_natCast.mpr this
  have e : a % ((4294967296 : Nat) : Int) % ((2 ^ k : Nat) : Int) = a % ((2 ^ k : Nat) : Int) := Int.emod_emod_of_dvd a hd
  rw [← e]
  have e2 : a % ((4294967296 : Nat) : Int) = (((a % ((4294967296 : Nat) : Int)).toNat : Nat) : Int) := by omega
  generalize (a % ((4294967296 : Nat) : Int)).toNat = n at e2
  rw [e2, ← Int.natCast_emod]
  rfl
theorem r_andk {a m : Int} (k : Nat) (hd : decode t.2.2.1 pc = .ok (.iand, 1)) (hn : pc + 1 = pc') (hk : k < 31) (hm : (m % 4294967296).toNat = 2 ^ k - 1) (h : sRn base X G d t pc' lv (vI (a % (2 ^ k : Nat)) :: st) M Q) : sRn base X G d t pc lv (vI m :: vI a :: st) M Q := by
  subst hn
  refine r_B (st := st) (v := .int (Int32.ofInt a &&& Int32.ofInt m)) hd rfl rfl rfl rfl rfl rfl rfl ?_
  rw [s_and hk hm]
  exact h
theorem r_and15 {a : Int} (hd : decode t.2.2.1 pc = .ok (.iand, 1)) (hn : pc + 1 = pc') (h : sRn base X G d t pc' lv (vI (a % 16) :: st) M Q) : sRn base X G d t pc lv (vI 15 :: vI a :: st) M Q := r_andk 4 hd hn (by decide) (by decide) h
theorem r_and255 {a : Int} (hd : decode t.2.2.1 pc = .ok (.iand, 1)) (hn : pc + 1 = pc') (h : sRn base X G d t pc' lv (vI (a % 256) :: st) M Q) : sRn base X G d t pc lv (vI 255 :: vI a :: st) M Q := r_andk 8 hd hn (by decide) (by decide) h
theorem r_and511 {a : Int} (hd : decode t.2.2.1 pc = .ok (.iand, 1)) (hn : pc + 1 = pc') (h : sRn base X G d t pc' lv (vI (a % 512) :: st) M Q) : sRn base X G d t pc lv (vI 511 :: vI a :: st) M Q := r_andk 9 hd hn (by decide) (by decide) h
theorem r_and1 {a : Int} (hd : decode t.2.2.1 pc = .ok (.iand, 1)) (hn : pc + 1 = pc') (h : sRn base X G d t pc' lv (vI (a % 2) :: st) M Q) : sRn base X G d t pc lv (vI 1 :: vI a :: st) M Q := r_andk 1 hd hn (by decide) (by decide) h
theorem r_and63 {a : Int} (hd : decode t.2.2.1 pc = .ok (.iand, 1)) (hn : pc + 1 = pc') (h : sRn base X G d t pc' lv (vI (a % 64) :: st) M Q) : sRn base X G d t pc lv (vI 63 :: vI a :: st) M Q := r_andk 6 hd hn (by decide) (by decide) h
end
theorem tb_0 : ∀ j : Nat, j < 3 → 0 ≤ (([0, 1, 0] : List Int32).getD j 0).toInt ∧ (([0, 1, 0] : List Int32).getD j 0).toInt ≤ 1 := by decide
theorem tb_1 : ∀ j : Nat, j < 3 → 9 ≤ (([9, 60, 9] : List Int32).getD j 0).toInt ∧ (([9, 60, 9] : List Int32).getD j 0).toInt ≤ 60 := by decide
theorem tb_2 : ∀ j : Nat, j < 9 → 60 ≤ (([60, 60, 100, 100, 1000, 1000, 1000, 100, 1000] : List Int32).getD j 0).toInt ∧ (([60, 60, 100, 100, 1000, 1000, 1000, 100, 1000] : List Int32).getD j 0).toInt ≤ 1000 := by decide
theorem tb_3 : ∀ j : Nat, j < 3 → 0 ≤ (([1, 5, 0] : List Int32).getD j 0).toInt ∧ (([1, 5, 0] : List Int32).getD j 0).toInt ≤ 5 := by decide
theorem tb_4 : ∀ j : Nat, j < 9 → 1 ≤ (([6, 3, 1, 1, 20, 10, 4, 2, 5] : List Int32).getD j 0).toInt ∧ (([6, 3, 1, 1, 20, 10, 4, 2, 5] : List Int32).getD j 0).toInt ≤ 20 := by decide
theorem tb_5 : ∀ j : Nat, j < 18 → 0 ≤ (([0, 1, 2, 0, 2, 1, 1, 0, 2, 1, 2, 0, 2, 0, 1, 2, 1, 0] : List Int32).getD j 0).toInt ∧ (([0, 1, 2, 0, 2, 1, 1, 0, 2, 1, 2, 0, 2, 0, 1, 2, 1, 0] : List Int32).getD j 0).toInt ≤ 2 := by decide
theorem tb_6 : ∀ j : Nat, j < 18 → 0 ≤ (([0, 1, 2, 0, 2, 1, 1, 0, 2, 2, 0, 1, 1, 2, 0, 2, 1, 0] : List Int32).getD j 0).toInt ∧ (([0, 1, 2, 0, 2, 1, 1, 0, 2, 2, 0, 1, 1, 2, 0, 2, 1, 0] : List Int32).getD j 0).toInt ≤ 2 := by decide
theorem IT.sin {M : mH} (h : IT M) (c : Nat) (i : Int) : s_in (rg c i) (gi M c i) := by
  unfold s_in
  split
  · next q hq => exact h c i q.1 q.2 hq
  · trivial
