/-! Bits of a set of sentences. -/
noncomputable def bt (z k : Int) : Prop := (Int32.ofInt z).toBitVec.getLsbD k.toNat = true
theorem bt_0 (k : Int) : ¬ bt 0 k := by
  unfold bt
  show ¬ (BitVec.ofInt 32 0).getLsbD k.toNat = true
  simp
theorem sh_amt {s : Int} (h : 0 ≤ s ∧ s ≤ 31) : ((Int32.ofInt s &&& 31).toBitVec.smod 32#32).toNat = s.toNat := by
  have e : Int32.ofInt s &&& 31 = Int32.ofInt s := by
    have := s_and (a := s) (m := 31) (k := 5) (by decide) (by decide)
    rw [show (31 : Int32) = Int32.ofInt 31 by decide, this]
    congr 1
    exact Int.emod_eq_of_lt h.1 (by omega)
  rw [e]
  have key : ∀ n : Nat, n ≤ 31 → ((Int32.ofInt (n : Int)).toBitVec.smod 32#32).toNat = n := by decide
  have := key s.toNat (by omega)
  rw [show ((s.toNat : Nat) : Int) = s by omega] at this
  exact this
theorem bt_shl {b s k : Int} (hb : Int32.ofInt b = Int32.ofInt 1 <<< (Int32.ofInt s &&& 31)) (hs : 0 ≤ s ∧ s ≤ 31) (hk : 0 ≤ k ∧ k ≤ 31) : bt b k ↔ k = s := by
  unfold bt
  rw [hb]
  show (((Int32.ofInt 1).toBitVec <<< (Int32.ofInt s &&& 31).toBitVec.smod 32#32).getLsbD k.toNat = true) ↔ _
  rw [BitVec.shiftLeft_eq', sh_amt hs, BitVec.getLsbD_shiftLeft]
  have e1 : (Int32.ofInt 1).toBitVec = 1#32 := by decide
  rw [e1, BitVec.getLsbD_one]
  simp only [Bool.and_eq_true, Bool.not_eq_true', decide_eq_true_eq, decide_eq_false_iff_not]
  omega
theorem bt_or {e a b k : Int} (h : Int32.ofInt e = Int32.ofInt a ||| Int32.ofInt b) : bt e k ↔ bt a k ∨ bt b k := by
  unfold bt
  rw [h]
  show ((Int32.ofInt a).toBitVec ||| (Int32.ofInt b).toBitVec).getLsbD k.toNat = true ↔ _
  rw [BitVec.getLsbD_or, Bool.or_eq_true]
theorem bt_test {e z s : Int} (h : Int32.ofInt e = Int32.ofInt z >>> (Int32.ofInt s &&& 31)) (hs : 0 ≤ s ∧ s ≤ 30) : (e % 2 = 1 ↔ bt z s) := by
  have hb : bt e 0 ↔ bt z s := by
    unfold bt
    rw [h]
    show (((Int32.ofInt z).toBitVec.sshiftRight' ((Int32.ofInt s &&& 31).toBitVec.smod 32#32)).getLsbD (0 : Int).toNat = true) ↔ _
    rw [BitVec.sshiftRight', sh_amt (by omega), BitVec.getLsbD_sshiftRight]
    have e1 : ¬ (32 ≤ (0 : Int).toNat) := by decide
    have e2 : s.toNat + (0 : Int).toNat < 32 := by show s.toNat + 0 < 32; omega
    simp only [e1, decide_false, Bool.not_false, Bool.true_and, if_pos e2]
    rfl
  rw [← hb]
  have e3 : Int32.ofInt e &&& Int32.ofInt 1 = Int32.ofInt (e % 2) := s_and (a := e) (m := 1) (k := 1) (by decide) (by decide)
  have h1 := Int.emod_nonneg e (show (2 : Int) ≠ 0 by decide)
  have h2 := Int.emod_lt_of_pos e (show (0 : Int) < 2 by decide)
  have e4 : ((Int32.ofInt e).toBitVec &&& 1#32) = (Int32.ofInt (e % 2)).toBitVec := by rw [← e3]; rfl
  have e5 : (Int32.ofInt e).toBitVec.getLsbD 0 = (Int32.ofInt (e % 2)).toBitVec.getLsbD 0 := by
    rw [← e4, BitVec.getLsbD_and]; simp
  unfold bt
  rw [show (0 : Int).toNat = 0 from rfl, e5]
  rcases (show e % 2 = 0 ∨ e % 2 = 1 by omega) with q | q <;> rw [q] <;> decide
/-- a sentence that can be spoken -/
noncomputable def SPK (s : Int) (M : mH) : Prop := 0 ≤ s ∧ s < gi M 1 10 ∧ 1 ≤ gi M 8 (s * 4 + gi M 1 5)
theorem TR.wr {a : Nat} {n : Int} {M M' : mH} {c i : Nat} {v : Value} (h : TR a n M) (u : Wr M c i v M') (hc : c ≠ a ∧ c ≠ a + 1) : TR a n M' := by
  have e : ∀ (b : Nat) (j : Int), b ≠ c → gi M' b j = gi M b j := fun b j hb => by
    unfold gi; rw [u.ne (Or.inl hb)]
  intro p h1 h2
  rw [e a p (fun q => hc.1 q.symm), e (a + 1) p (fun q => hc.2 q.symm)]
  exact h p h1 h2
theorem TR.fr {a : Nat} {n : Int} {L : List (Nat × Nat)} {M M' : mH} (h : TR a n M) (f : Fr L M M') (hc : s_al L (fun c => c != a && c != a + 1) = true) : TR a n M' := by
  have e1 : ∀ i : Int, gi M' a i = gi M a i := fun i => f.g (s_al_ok hc (by simp))
  have e2 : ∀ i : Int, gi M' (a + 1) i = gi M (a + 1) i := fun i => f.g (s_al_ok hc (by simp))
  intro p h1 h2
  rw [e1, e2]
  exact h p h1 h2
theorem TR.add {a : Nat} {n place parent w : Int} {M1 M2 M3 M4 : mH} (h : TR a n M1) (u2 : Wr M1 a place.toNat (.int (Int32.ofInt (-1))) M2) (u3 : Wr M2 (a + 1) place.toNat (.int (Int32.ofInt w)) M3) (u4 : Wr M3 a parent.toNat (.int (Int32.ofInt place)) M4) (hw : w = gi M2 a parent) (hwr : inR w) (hp : 0 ≤ parent ∧ parent < n) (hl : 1 ≤ place ∧ place ≤ n ∧ n ≤ place + 1 ∧ place ≤ 144) : TR a (place + 1) M4 := by
  have hm1 : inR (-1) := by unfold inR; omega
  have hpl : inR place := by unfold inR; omega
  have hne : a + 1 ≠ a := by omega
  have f4 : ∀ p : Int, gi M4 a p = if p = parent then place else if p = place then -1 else gi M1 a p := by
    intro p
    split
    · next e => subst e; rw [u4.gi_eq hp.1, vi_int hpl]
    · next e =>
      rw [u4.gi_ne hp.1 (Or.inr e), u3.gi_ne (by omega) (Or.inl (Ne.symm hne))]
      split
      · next e2 => subst e2; rw [u2.gi_eq (by omega), vi_int hm1]
      · next e2 => rw [u2.gi_ne (by omega) (Or.inr e2)]
  have g4 : ∀ p : Int, gi M4 (a + 1) p = if p = place then w else gi M1 (a + 1) p := by
    intro p
    rw [u4.gi_ne hp.1 (Or.inl hne)]
    split
    · next e => subst e; rw [u3.gi_eq (by omega), vi_int hwr]
    · next e => rw [u3.gi_ne (by omega) (Or.inr e), u2.gi_ne (by omega) (Or.inl hne)]
  have hw2 : w = -1 ∨ (1 ≤ w ∧ w < n) := by
    by_cases e : parent = place
    · left; rw [hw, e, u2.gi_eq (by omega), vi_int hm1]
    · rw [hw, u2.gi_ne (by omega) (Or.inr e)]
      exact (h parent hp.1 hp.2).1
  intro p h1 h2
  rw [f4, g4]
  refine ⟨?_, fun h3 => ?_⟩
  · split
    · omega
    · split
      · omega
      · have := (h p h1 (by omega)).1
        omega
  · split
    · omega
    · have := (h p h1 (by omega)).2 h3
      omega
/-- where the places of a sentence stand: of sentence s only those below k are sure -/
noncomputable def GP (a : Nat) (n s k : Int) (M : mH) : Prop := (∀ q : Int, 0 ≤ q → q ≤ 15 → q ≠ s → 1 ≤ gi M (a + 1) q → ∀ t : Int, 0 ≤ t → t ≤ gi M (a + 1) q → 1 ≤ gi M a (q * 9 + t) ∧ gi M a (q * 9 + t) < n) ∧ ∀ t : Int, 0 ≤ t → t < k → 1 ≤ gi M a (s * 9 + t) ∧ gi M a (s * 9 + t) < n
noncomputable def GT (a : Nat) (n : Int) (M : mH) : Prop := ∀ q : Int, 0 ≤ q → q ≤ 15 → 1 ≤ gi M (a + 1) q → ∀ t : Int, 0 ≤ t → t ≤ gi M (a + 1) q → 1 ≤ gi M a (q * 9 + t) ∧ gi M a (q * 9 + t) < n
theorem GP.wr {a : Nat} {n s k : Int} {M M' : mH} {c i : Nat} {v : Value} (h : GP a n s k M) (u : Wr M c i v M') (hc : c ≠ a ∧ c ≠ a + 1) : GP a n s k M' := by
  have e : ∀ (b : Nat) (j : Int), b ≠ c → gi M' b j = gi M b j := fun b j hb => by
    unfold gi; rw [u.ne (Or.inl hb)]
  have e1 := fun j => e a j (fun q => hc.1 q.symm)
  have e2 := fun j => e (a + 1) j (fun q => hc.2 q.symm)
  refine ⟨fun q h1 h2 h3 h4 t h5 h6 => ?_, fun t h5 h6 => ?_⟩
  · rw [e2] at h4 h6; rw [e1]; exact h.1 q h1 h2 h3 h4 t h5 h6
  · rw [e1]; exact h.2 t h5 h6
theorem GP.fr {a : Nat} {n s k : Int} {L : List (Nat × Nat)} {M M' : mH} (h : GP a n s k M) (f : Fr L M M') (hc : s_al L (fun c => c != a && c != a + 1) = true) : GP a n s k M' := by
  have e1 : ∀ i : Int, gi M' a i = gi M a i := fun i => f.g (s_al_ok hc (by simp))
  have e2 : ∀ i : Int, gi M' (a + 1) i = gi M (a + 1) i := fun i => f.g (s_al_ok hc (by simp))
  refine ⟨fun q h1 h2 h3 h4 t h5 h6 => ?_, fun t h5 h6 => ?_⟩
  · rw [e2] at h4 h6; rw [e1]; exact h.1 q h1 h2 h3 h4 t h5 h6
  · rw [e1]; exact h.2 t h5 h6
theorem GP.up {a : Nat} {n m s k : Int} {M : mH} (h : GP a n s k M) (hn : n ≤ m) : GP a m s k M :=
  ⟨fun q h1 h2 h3 h4 t h5 h6 => ⟨(h.1 q h1 h2 h3 h4 t h5 h6).1, by have := (h.1 q h1 h2 h3 h4 t h5 h6).2; omega⟩, fun t h5 h6 => ⟨(h.2 t h5 h6).1, by have := (h.2 t h5 h6).2; omega⟩⟩
/-- the sentence's length is written -/
theorem GT.begin {a : Nat} {n s : Int} {M M' : mH} {v : Value} (h : GT a n M) (u : Wr M (a + 1) s.toNat v M') (hs : 0 ≤ s) : GP a n s 0 M' := by
  refine ⟨fun q h1 h2 h3 h4 t h5 h6 => ?_, fun t h5 h6 => by omega⟩
  rw [u.gi_ne hs (Or.inr h3)] at h4 h6
  rw [u.gi_ne hs (Or.inl (by omega))]
  exact h q h1 h2 h4 t h5 h6
theorem GP.set {a : Nat} {n s k w : Int} {M M' : mH} (h : GP a n s k M) (u : Wr M a (s * 9 + k).toNat (.int (Int32.ofInt w)) M') (hs : 0 ≤ s ∧ s ≤ 15) (hk : 0 ≤ k ∧ k ≤ 8) (hw : 1 ≤ w ∧ w < n) (hn : n ≤ 145) (hb : ∀ q, 0 ≤ q → q ≤ 15 → gi M (a + 1) q ≤ 8) : GP a n s (k + 1) M' := by
  have hwr : inR w := by unfold inR; omega
  refine ⟨fun q h1 h2 h3 h4 t h5 h6 => ?_, fun t h5 h6 => ?_⟩
  · rw [u.gi_ne (by omega) (Or.inl (by omega))] at h4 h6
    have := hb q h1 h2
    rw [u.gi_ne (by omega) (Or.inr (by omega))]
    exact h.1 q h1 h2 h3 h4 t h5 h6
  · by_cases e : t = k
    · subst e; rw [u.gi_eq (by omega), vi_int hwr]; exact hw
    · rw [u.gi_ne (by omega) (Or.inr (by omega))]
      exact h.2 t h5 (by omega)
theorem GP.done {a : Nat} {n s k : Int} {M : mH} (h : GP a n s k M) (hk : gi M (a + 1) s < k) : GT a n M := by
  intro q h1 h2 h4 t h5 h6
  by_cases e : q = s
  · subst e; exact h.2 t h5 (by omega)
  · exact h.1 q h1 h2 e h4 t h5 h6
