/-! The state of both sides, as far as these rows ask: how long the tape is, whether there are images. -/
def CS1 (s a0 a1 : Int) (M : mH) : Prop := gi M 0 3 = s ∧ ((a0 = 0 ∧ hv M 12 0 = .null) ∨ (a0 = 1 ∧ hv M 12 0 ≠ .null)) ∧ ((a1 = 0 ∧ hv M 12 1 = .null) ∨ (a1 = 1 ∧ hv M 12 1 ≠ .null))
def RS1 (s a0 a1 : Int) (M : mH) : Prop := gi M 77 31 = s ∧ gi M 80 0 = a0 ∧ gi M 80 1 = a1
def fdS (s : Int) : Int := if s ≤ 380 then s + 20 else s
def fdV (s : Int) : Int := if s ≤ 380 then s + 20 else -1
def enS (s n : Int) : Int := if 0 ≤ n ∧ n ≤ s then n else s
def enV (s n : Int) : Int := if 0 ≤ n ∧ n ≤ s then n else -1
def imA (i k a : Int) : Int := if k = i then 1 else a
def imV (k : Int) : Int := if 0 ≤ k ∧ k ≤ 1 then 0 else -1
def bkV (k a0 a1 : Int) : Int := if k = 0 then (if a0 = 0 then -2 else 0) else if k = 1 then (if a1 = 0 then -2 else 0) else -1
section
variable {base : Nat} {s s' a0 a1 : Int} {M M' : mH} {L : List (Nat × Nat)}
theorem CS1.of (h : CS1 s a0 a1 M) (e : ∀ i, hv M' 12 i = hv M 12 i) (g : gi M' 0 3 = s') : CS1 s' a0 a1 M' := ⟨g, by rw [e]; exact h.2.1, by rw [e]; exact h.2.2⟩
theorem CS1.tp (h : CS1 s a0 a1 M) (hM : 111 ≤ M.1) (f : Fz L M M') (hc : s_al L (fun c => c != 12) = true) (g : gi M' 0 3 = s') : CS1 s' a0 a1 M' := h.of (fun i => (f.2.1 12 (by omega)).2.2 i (s_al_ok hc (by simp)) (Or.inl (by decide))) g
theorem CS1.fz (h : CS1 s a0 a1 M) (hM : 111 ≤ M.1) (f : Fz L M M') (hc : (s_al L (fun c => c != 12) && !s_md L 0 3) = true) : CS1 s a0 a1 M' := by
  rw [Bool.and_eq_true] at hc
  exact h.tp hM f hc.1 ((f.g hM (by rw [show ((3 : Int)).toNat = 3 from rfl]; rw [hc.2]; rfl)).trans h.1)
theorem RS1.of (h : RS1 s a0 a1 M) (e : ∀ c, 77 ≤ c → c < 111 → sameC c M M') : RS1 s a0 a1 M' := by
  unfold RS1 at h ⊢
  rw [(e 77 (by decide) (by decide)).gi, (e 80 (by decide) (by decide)).gi, (e 80 (by decide) (by decide)).gi]
  exact h
theorem RS1.tp (h : RS1 s a0 a1 M) (f : Fr L M M') (hc : s_al L (fun c => c != 80) = true) (g : gi M' 77 31 = s') : RS1 s' a0 a1 M' := ⟨g, (f.g (s_al_ok hc (by simp))).trans h.2.1, (f.g (s_al_ok hc (by simp))).trans h.2.2⟩
theorem RS1.fr (h : RS1 s a0 a1 M) (f : Fr L M M') (hc : (s_al L (fun c => c != 80) && !s_md L 77 31) = true) : RS1 s a0 a1 M' := by
  rw [Bool.and_eq_true] at hc
  exact h.tp f hc.1 ((f.g (i := 31) (by simpa using hc.2)).trans h.1)
theorem CS1.img {k : Int} (h : CS1 s a0 a1 M) (g : gi M' 0 3 = gi M 0 3) (h1 : 0 ≤ k ∧ k ≤ 1 → hv M' 12 k.toNat ≠ .null) (h2 : ∀ i : Nat, (i : Int) ≠ k → hv M' 12 i = hv M 12 i) : CS1 s (imA 0 k a0) (imA 1 k a1) M' := by
  refine ⟨g.trans h.1, ?_, ?_⟩
  · unfold imA
    split
    · next e => subst e; exact Or.inr ⟨rfl, h1 (by decide)⟩
    · next e => rw [h2 0 (fun z => e z.symm)]; exact h.2.1
  · unfold imA
    split
    · next e => subst e; exact Or.inr ⟨rfl, h1 (by decide)⟩
    · next e => rw [h2 1 (fun z => e z.symm)]; exact h.2.2
theorem RS1.img {k : Int} (h : RS1 s a0 a1 M) (g : gi M' 77 31 = gi M 77 31) (h1 : 0 ≤ k ∧ k ≤ 1 → gi M' 80 k = 1) (h2 : ∀ i : Int, i ≠ k → gi M' 80 i = gi M 80 i) : RS1 s (imA 0 k a0) (imA 1 k a1) M' := by
  refine ⟨g.trans h.1, ?_, ?_⟩
  · unfold imA
    split
    · next e => subst e; exact h1 (by decide)
    · next e => rw [h2 0 (fun z => e z.symm)]; exact h.2.1
  · unfold imA
    split
    · next e => subst e; exact h1 (by decide)
    · next e => rw [h2 1 (fun z => e z.symm)]; exact h.2.2
theorem imV.of {k v : Int} (h1 : 0 ≤ k ∧ k ≤ 1 → v = 0) (h2 : k < 0 ∨ 1 < k → v = -1) : v = imV k := by
  unfold imV
  split
  · next e => exact h1 e
  · exact h2 (by omega)
theorem bkV.cl {k v : Int} (h : CS1 s a0 a1 M) (h1 : k < 0 ∨ 1 < k → v = -1) (h2 : 0 ≤ k ∧ k ≤ 1 → hv M 12 k.toNat = .null → v = -2) (h3 : 0 ≤ k ∧ k ≤ 1 → hv M 12 k.toNat ≠ .null → v = 0) : v = bkV k a0 a1 := by
  unfold bkV
  by_cases e0 : k = 0
  · subst e0
    rw [if_pos rfl]
    rcases h.2.1 with ⟨a, b⟩ | ⟨a, b⟩
    · rw [if_pos a]; exact h2 (by decide) b
    · rw [if_neg (by omega)]; exact h3 (by decide) b
  rw [if_neg e0]
  by_cases e1 : k = 1
  · subst e1
    rw [if_pos rfl]
    rcases h.2.2 with ⟨a, b⟩ | ⟨a, b⟩
    · rw [if_pos a]; exact h2 (by decide) b
    · rw [if_neg (by omega)]; exact h3 (by decide) b
  rw [if_neg e1]
  exact h1 (by omega)
theorem bkV.rf {k v : Int} (h : RS1 s a0 a1 M) (b0 : a0 = 0 ∨ a0 = 1) (b1 : a1 = 0 ∨ a1 = 1) (h1 : k < 0 ∨ 1 < k → v = -1) (h2 : 0 ≤ k ∧ k ≤ 1 → gi M 80 k = 0 → v = -2) (h3 : 0 ≤ k ∧ k ≤ 1 → gi M 80 k = 1 → v = 0) : v = bkV k a0 a1 := by
  unfold bkV
  by_cases e0 : k = 0
  · subst e0
    rw [if_pos rfl]
    rcases b0 with a | a
    · rw [if_pos a]; exact h2 (by decide) (h.2.1.trans a)
    · rw [if_neg (by omega)]; exact h3 (by decide) (h.2.1.trans a)
  rw [if_neg e0]
  by_cases e1 : k = 1
  · subst e1
    rw [if_pos rfl]
    rcases b1 with a | a
    · rw [if_pos a]; exact h2 (by decide) (h.2.2.trans a)
    · rw [if_neg (by omega)]; exact h3 (by decide) (h.2.2.trans a)
  rw [if_neg e1]
  exact h1 (by omega)
theorem RS1.bits {base : Nat} (h : RS1 s a0 a1 M) (H : HI base M) : (a0 = 0 ∨ a0 = 1) ∧ (a1 = 0 ∨ a1 = 1) := by
  have q0 := H.2 80 0 0 1 rfl
  have q1 := H.2 80 1 0 1 rfl
  rw [h.2.1] at q0
  rw [h.2.2] at q1
  omega
end

theorem Q96 {base : Nat} {X : Nat → Option mC} {G : Nat → Value} (E : EnvOK base X G) {d : Nat} (hd : 1 ≤ d) {M : mH} (H : HI base M) (word : Int) (what : Int) (value : Int) (j : Int) (gs ga gb : Int) (h0 : INVl base j M) (h1 : CS1 gs ga gb M) (h2 : RS1 gs ga gb M) (b_word : -2147483648 ≤ word ∧ word ≤ 2147483647) (b_what : -2147483648 ≤ what ∧ what ≤ 2147483647) (b_value : -2147483648 ≤ value ∧ value ≤ 2147483647) : sOk base X G d T96 [vR 0, vI word, vI what, vI value] M (pI (fun v M' => HI base M' ∧ Ftr [(0, 0)] M M' ∧ (INVl base (j + 6) M') ∧ (CS1 gs ga gb M') ∧ (RS1 gs ga gb M'))) := by
  obtain ⟨wa, wb, hK, hR, r1, r2⟩ := h0
  have hK2 := hK
  obtain ⟨hH, hB, hN, hI, hA, hZ, hS, ⟨wn, hn, hT, hG⟩, ha, hb⟩ := hK2
  have hR2 := hR
  obtain ⟨hTB, hWD, hLN, hGK, hVT, hIM⟩ := hR2
  have hs := h1.1
  refine sOk.imp (k96s E (by omega) H word what value (by omega) (by omega) (by omega)) ?_
  rintro v M' ⟨v', e, H', f, q0⟩
  have z := (f.q rfl).z
  have rf := z.ref H.m rfl
  have kr := hR.of rf
  exact ⟨v', e, H', trivial, ⟨wa, wb, hK.st H' z rfl rfl q0, kr, by rw [f.1]; omega, by rw [f.2.1]; omega⟩, h1.fz H.m z rfl, h2.of rf⟩
theorem Q97 {base : Nat} {X : Nat → Option mC} {G : Nat → Value} (E : EnvOK base X G) {d : Nat} (hd : 1 ≤ d) {M : mH} (H : HI base M) (what : Int) (value : Int) (j : Int) (gs ga gb : Int) (h0 : INVl base j M) (h1 : CS1 gs ga gb M) (h2 : RS1 gs ga gb M) (b_what : -2147483648 ≤ what ∧ what ≤ 2147483647) (b_value : -2147483648 ≤ value ∧ value ≤ 2147483647) : sOk base X G d T97 [vR 0, vI what, vI value] M (pI (fun v M' => HI base M' ∧ Ftr [(0, 0)] M M' ∧ (INVl base (j + 6) M') ∧ (CS1 gs ga gb M') ∧ (RS1 gs ga gb M'))) := by
  obtain ⟨wa, wb, hK, hR, r1, r2⟩ := h0
  have hK2 := hK
  obtain ⟨hH, hB, hN, hI, hA, hZ, hS, ⟨wn, hn, hT, hG⟩, ha, hb⟩ := hK2
  have hR2 := hR
  obtain ⟨hTB, hWD, hLN, hGK, hVT, hIM⟩ := hR2
  have hs := h1.1
  refine sOk.imp (k97s E (by omega) H what value (by omega) (by omega)) ?_
  rintro v M' ⟨v', e, H', f, q0⟩
  have z := (f.q rfl).z
  have rf := z.ref H.m rfl
  have kr := hR.of rf
  exact ⟨v', e, H', trivial, ⟨wa, wb, hK.st H' z rfl rfl q0, kr, by rw [f.1]; omega, by rw [f.2.1]; omega⟩, h1.fz H.m z rfl, h2.of rf⟩
theorem Q98 {base : Nat} {X : Nat → Option mC} {G : Nat → Value} (E : EnvOK base X G) {d : Nat} (hd : 1 ≤ d) {M : mH} (H : HI base M) (order : Int) (j : Int) (gs ga gb : Int) (h0 : INVl base j M) (h1 : CS1 gs ga gb M) (h2 : RS1 gs ga gb M) (b_order : -2147483648 ≤ order ∧ order ≤ 2147483647) : sOk base X G d T98 [vR 0, vI order] M (pI (fun v M' => HI base M' ∧ Ftr [(0, 0)] M M' ∧ (INVl base (j + 6) M') ∧ (CS1 gs ga gb M') ∧ (RS1 gs ga gb M'))) := by
  obtain ⟨wa, wb, hK, hR, r1, r2⟩ := h0
  have hK2 := hK
  obtain ⟨hH, hB, hN, hI, hA, hZ, hS, ⟨wn, hn, hT, hG⟩, ha, hb⟩ := hK2
  have hR2 := hR
  obtain ⟨hTB, hWD, hLN, hGK, hVT, hIM⟩ := hR2
  have hs := h1.1
  refine sOk.imp (k98s E (by omega) H order (by omega)) ?_
  rintro v M' ⟨v', e, H', f, q0⟩
  have z := (f.q rfl).z
  have rf := z.ref H.m rfl
  have kr := hR.of rf
  exact ⟨v', e, H', trivial, ⟨wa, wb, hK.st H' z rfl rfl q0, kr, by rw [f.1]; omega, by rw [f.2.1]; omega⟩, h1.fz H.m z rfl, h2.of rf⟩
theorem Q99 {base : Nat} {X : Nat → Option mC} {G : Nat → Value} (E : EnvOK base X G) {d : Nat} (hd : 2 ≤ d) {M : mH} (H : HI base M) (slot : Int) (values : Int) (length : Int) (j : Int) (gs ga gb : Int) (h0 : INVl base j M) (h1 : CS1 gs ga gb M) (h2 : RS1 gs ga gb M) (b_slot : -2147483648 ≤ slot ∧ slot ≤ 2147483647) (b_values : -2147483648 ≤ values ∧ values ≤ 2147483647) (b_length : -2147483648 ≤ length ∧ length ≤ 2147483647) : sOk base X G d T99 [vR 0, vI slot, vI values, vI length] M (pI (fun v M' => HI base M' ∧ Ftr [(0, 0)] M M' ∧ (INVl base (j + 6) M') ∧ (CS1 gs ga gb M') ∧ (RS1 gs ga gb M'))) := by
  obtain ⟨wa, wb, hK, hR, r1, r2⟩ := h0
  have hK2 := hK
  obtain ⟨hH, hB, hN, hI, hA, hZ, hS, ⟨wn, hn, hT, hG⟩, ha, hb⟩ := hK2
  have hR2 := hR
  obtain ⟨hTB, hWD, hLN, hGK, hVT, hIM⟩ := hR2
  have hs := h1.1
  refine sOk.imp (k99s E (by omega) H slot values length (by omega) (by omega) (by omega)) ?_
  rintro v M' ⟨v', e, H', f, q0⟩
  have z := (f.q rfl).z
  have rf := z.ref H.m rfl
  have kr := hR.of rf
  exact ⟨v', e, H', trivial, ⟨wa, wb, hK.st H' z rfl rfl q0, kr, by rw [f.1]; omega, by rw [f.2.1]; omega⟩, h1.fz H.m z rfl, h2.of rf⟩
theorem Q100 {base : Nat} {X : Nat → Option mC} {G : Nat → Value} (E : EnvOK base X G) {d : Nat} (hd : 1 ≤ d) {M : mH} (H : HI base M) (speaker : Int) (j : Int) (gs ga gb : Int) (h0 : INVl base j M) (h1 : CS1 gs ga gb M) (h2 : RS1 gs ga gb M) (b_speaker : -2147483648 ≤ speaker ∧ speaker ≤ 2147483647) : sOk base X G d T100 [vR 0, vI speaker] M (pI (fun v M' => HI base M' ∧ Ftr [(0, 0)] M M' ∧ (INVl base (j + 6) M') ∧ (CS1 gs ga gb M') ∧ (RS1 gs ga gb M'))) := by
  obtain ⟨wa, wb, hK, hR, r1, r2⟩ := h0
  have hK2 := hK
  obtain ⟨hH, hB, hN, hI, hA, hZ, hS, ⟨wn, hn, hT, hG⟩, ha, hb⟩ := hK2
  have hR2 := hR
  obtain ⟨hTB, hWD, hLN, hGK, hVT, hIM⟩ := hR2
  have hs := h1.1
  refine sOk.imp (k100s E (by omega) H speaker (by omega)) ?_
  rintro v M' ⟨v', e, H', f, q0⟩
  have z := (f.q rfl).z
  have rf := z.ref H.m rfl
  have kr := hR.of rf
  exact ⟨v', e, H', trivial, ⟨wa, wb, hK.st H' z rfl rfl q0, kr, by rw [f.1]; omega, by rw [f.2.1]; omega⟩, h1.fz H.m z rfl, h2.of rf⟩
theorem Q101 {base : Nat} {X : Nat → Option mC} {G : Nat → Value} (E : EnvOK base X G) {d : Nat} (hd : 2 ≤ d) {M : mH} (H : HI base M) (a : Int) (b : Int) (c : Int) (j : Int) (gs ga gb : Int) (h0 : INVl base j M) (h1 : CS1 gs ga gb M) (h2 : RS1 gs ga gb M) (b_a : -2147483648 ≤ a ∧ a ≤ 2147483647) (b_b : -2147483648 ≤ b ∧ b ≤ 2147483647) (b_c : -2147483648 ≤ c ∧ c ≤ 2147483647) : sOk base X G d T101 [vR 0, vI a, vI b, vI c] M (pI (fun v M' => HI base M' ∧ Ftr [(0, 0)] M M' ∧ (INVl base (j + 6) M') ∧ (CS1 0 ga gb M') ∧ (RS1 gs ga gb M'))) := by
  obtain ⟨wa, wb, hK, hR, r1, r2⟩ := h0
  have hK2 := hK
  obtain ⟨hH, hB, hN, hI, hA, hZ, hS, ⟨wn, hn, hT, hG⟩, ha, hb⟩ := hK2
  have hR2 := hR
  obtain ⟨hTB, hWD, hLN, hGK, hVT, hIM⟩ := hR2
  have hs := h1.1
  refine sOk.imp (k101e E (by omega) H a b c (by omega) (by omega) (by omega)) ?_
  rintro v M' ⟨v', e, H', f, q0, q1, q2⟩
  have z := (f.q rfl).z
  have rf := z.ref H.m rfl
  have kr := hR.of rf
  exact ⟨v', e, H', trivial, ⟨wa, wb, hK.st H' z rfl rfl q1, kr, by rw [f.1]; omega, by rw [f.2.1]; omega⟩, h1.tp H.m z rfl q2, h2.of rf⟩
theorem Q102 {base : Nat} {X : Nat → Option mC} {G : Nat → Value} (E : EnvOK base X G) {d : Nat} (hd : 2 ≤ d) {M : mH} (H : HI base M) (sentence : Int) (speaker : Int) (weight : Int) (j : Int) (gs ga gb : Int) (h0 : INVl base j M) (h1 : CS1 gs ga gb M) (h2 : RS1 gs ga gb M) (b_sentence : -2147483648 ≤ sentence ∧ sentence ≤ 2147483647) (b_speaker : -2147483648 ≤ speaker ∧ speaker ≤ 2147483647) (b_weight : -2147483648 ≤ weight ∧ weight ≤ 2147483647) : sOk base X G d T102 [vR 0, vI sentence, vI speaker, vI weight] M (pI (fun v M' => HI base M' ∧ Ftr [(0, 0)] M M' ∧ (INVl base (j + 6) M') ∧ (CS1 gs ga gb M') ∧ (RS1 gs ga gb M'))) := by
  obtain ⟨wa, wb, hK, hR, r1, r2⟩ := h0
  have hK2 := hK
  obtain ⟨hH, hB, hN, hI, hA, hZ, hS, ⟨wn, hn, hT, hG⟩, ha, hb⟩ := hK2
  have hR2 := hR
  obtain ⟨hTB, hWD, hLN, hGK, hVT, hIM⟩ := hR2
  have hs := h1.1
  refine sOk.imp (k102s E (by omega) H sentence speaker weight (by omega) (by omega) (by omega)) ?_
  rintro v M' ⟨v', e, H', f, q0⟩
  have z := (f.q rfl).z
  have rf := z.ref H.m rfl
  have kr := hR.of rf
  exact ⟨v', e, H', trivial, ⟨wa, wb, hK.st H' z rfl rfl q0, kr, by rw [f.1]; omega, by rw [f.2.1]; omega⟩, h1.fz H.m z rfl, h2.of rf⟩
theorem Q103 {base : Nat} {X : Nat → Option mC} {G : Nat → Value} (E : EnvOK base X G) {d : Nat} (hd : 2 ≤ d) {M : mH} (H : HI base M) (sentence : Int) (i : Int) (j : Int) (gs ga gb : Int) (h0 : INVl base j M) (h1 : CS1 gs ga gb M) (h2 : RS1 gs ga gb M) (b_sentence : -2147483648 ≤ sentence ∧ sentence ≤ 2147483647) (b_i : -2147483648 ≤ i ∧ i ≤ 2147483647) : sOk base X G d T103 [vR 0, vI sentence, vI i] M (pI (fun v M' => HI base M' ∧ Ftr [(0, 0)] M M' ∧ (INVl base (j + 6) M') ∧ (CS1 gs ga gb M') ∧ (RS1 gs ga gb M'))) := by
  obtain ⟨wa, wb, hK, hR, r1, r2⟩ := h0
  have hK2 := hK
  obtain ⟨hH, hB, hN, hI, hA, hZ, hS, ⟨wn, hn, hT, hG⟩, ha, hb⟩ := hK2
  have hR2 := hR
  obtain ⟨hTB, hWD, hLN, hGK, hVT, hIM⟩ := hR2
  have hs := h1.1
  refine sOk.imp (k103 E (by omega) H sentence i (by omega) (by omega)) ?_
  rintro v M' ⟨v', e, rfl, -⟩
  exact ⟨v', e, H, trivial, ⟨wa, wb, hK, hR, by omega, by omega⟩, h1, h2⟩
theorem Q104 {base : Nat} {X : Nat → Option mC} {G : Nat → Value} (E : EnvOK base X G) {d : Nat} (hd : 2 ≤ d) {M : mH} (H : HI base M) (sentence : Int) (slot : Int) (j : Int) (gs ga gb : Int) (h0 : INVl base j M) (h1 : CS1 gs ga gb M) (h2 : RS1 gs ga gb M) (b_sentence : -2147483648 ≤ sentence ∧ sentence ≤ 2147483647) (b_slot : -2147483648 ≤ slot ∧ slot ≤ 2147483647) : sOk base X G d T104 [vR 0, vI sentence, vI slot] M (pI (fun v M' => HI base M' ∧ Ftr [(0, 0)] M M' ∧ (INVl base (j + 6) M') ∧ (CS1 gs ga gb M') ∧ (RS1 gs ga gb M'))) := by
  obtain ⟨wa, wb, hK, hR, r1, r2⟩ := h0
  have hK2 := hK
  obtain ⟨hH, hB, hN, hI, hA, hZ, hS, ⟨wn, hn, hT, hG⟩, ha, hb⟩ := hK2
  have hR2 := hR
  obtain ⟨hTB, hWD, hLN, hGK, hVT, hIM⟩ := hR2
  have hs := h1.1
  refine sOk.imp (k104 E (by omega) H sentence slot (by omega) (by omega)) ?_
  rintro v M' ⟨v', e, rfl, -⟩
  exact ⟨v', e, H, trivial, ⟨wa, wb, hK, hR, by omega, by omega⟩, h1, h2⟩
theorem Q105 {base : Nat} {X : Nat → Option mC} {G : Nat → Value} (E : EnvOK base X G) {d : Nat} (hd : 2 ≤ d) {M : mH} (H : HI base M) (sentence : Int) (n : Int) (slot : Int) (value : Int) (part : Int) (j : Int) (gs ga gb : Int) (h0 : INVl base j M) (h1 : CS1 gs ga gb M) (h2 : RS1 gs ga gb M) (b_sentence : -2147483648 ≤ sentence ∧ sentence ≤ 2147483647) (b_n : -2147483648 ≤ n ∧ n ≤ 2147483647) (b_slot : -2147483648 ≤ slot ∧ slot ≤ 2147483647) (b_value : -2147483648 ≤ value ∧ value ≤ 2147483647) (b_part : -2147483648 ≤ part ∧ part ≤ 2147483647) : sOk base X G d T105 [vR 0, vI sentence, vI n, vI slot, vI value, vI part] M (pI (fun v M' => HI base M' ∧ Ftr [(0, 0)] M M' ∧ (INVl base (j + 6) M') ∧ (CS1 gs ga gb M') ∧ (RS1 gs ga gb M'))) := by
  obtain ⟨wa, wb, hK, hR, r1, r2⟩ := h0
  have hK2 := hK
  obtain ⟨hH, hB, hN, hI, hA, hZ, hS, ⟨wn, hn, hT, hG⟩, ha, hb⟩ := hK2
  have hR2 := hR
  obtain ⟨hTB, hWD, hLN, hGK, hVT, hIM⟩ := hR2
  have hs := h1.1
  refine sOk.imp (k105 E (by omega) H sentence n slot value part (by omega) (by omega) (by omega) (by omega) (by omega)) ?_
  rintro v M' ⟨v', e, rfl, -⟩
  exact ⟨v', e, H, trivial, ⟨wa, wb, hK, hR, by omega, by omega⟩, h1, h2⟩
theorem Q106 {base : Nat} {X : Nat → Option mC} {G : Nat → Value} (E : EnvOK base X G) {d : Nat} (hd : 2 ≤ d) {M : mH} (H : HI base M) (sentence : Int) (n : Int) (slot : Int) (j : Int) (gs ga gb : Int) (h0 : INVl base j M) (h1 : CS1 gs ga gb M) (h2 : RS1 gs ga gb M) (b_sentence : -2147483648 ≤ sentence ∧ sentence ≤ 2147483647) (b_n : -2147483648 ≤ n ∧ n ≤ 2147483647) (b_slot : -2147483648 ≤ slot ∧ slot ≤ 2147483647) : sOk base X G d T106 [vR 0, vI sentence, vI n, vI slot] M (pI (fun v M' => HI base M' ∧ Ftr [(0, 0)] M M' ∧ (INVl base (j + 6) M') ∧ (CS1 gs ga gb M') ∧ (RS1 gs ga gb M'))) := by
  obtain ⟨wa, wb, hK, hR, r1, r2⟩ := h0
  have hK2 := hK
  obtain ⟨hH, hB, hN, hI, hA, hZ, hS, ⟨wn, hn, hT, hG⟩, ha, hb⟩ := hK2
  have hR2 := hR
  obtain ⟨hTB, hWD, hLN, hGK, hVT, hIM⟩ := hR2
  have hs := h1.1
  refine sOk.imp (k106 E (by omega) H sentence n slot (by omega) (by omega) (by omega)) ?_
  rintro v M' ⟨v', e, rfl, -⟩
  exact ⟨v', e, H, trivial, ⟨wa, wb, hK, hR, by omega, by omega⟩, h1, h2⟩
theorem Q107 {base : Nat} {X : Nat → Option mC} {G : Nat → Value} (E : EnvOK base X G) {d : Nat} (hd : 176 ≤ d) {M : mH} (H : HI base M) (j : Int) (gs ga gb : Int) (h0 : INVl base j M) (h1 : CS1 gs ga gb M) (h2 : RS1 gs ga gb M) : sOk base X G d T107 [vR 0] M (pL (fun v M' => HI base M' ∧ Ftr [(0, 0)] M M' ∧ (INVl base (j + 6) M') ∧ (CS1 gs ga gb M') ∧ (RS1 gs ga gb M'))) := by
  obtain ⟨wa, wb, hK, hR, r1, r2⟩ := h0
  have hK2 := hK
  obtain ⟨hH, hB, hN, hI, hA, hZ, hS, ⟨wn, hn, hT, hG⟩, ha, hb⟩ := hK2
  have hR2 := hR
  obtain ⟨hTB, hWD, hLN, hGK, hVT, hIM⟩ := hR2
  have hs := h1.1
  refine sOk.imp (k107k E (by omega) H wb hZ (by omega)) ?_
  rintro v M' ⟨v', e, H', f, q0⟩
  have z := f
  have rf := z.ref H.m rfl
  have kr := hR.of rf
  obtain ⟨w2, n2, hb2, hrn, htr, hgt, hrm⟩ := q0
  unfold RM at hrm
  exact ⟨v', e, H', trivial, ⟨wa, w2, hK.best H' z rfl hrn (by omega) (by omega) htr hgt, kr, by omega, by omega⟩, h1.fz H.m z rfl, h2.of rf⟩
theorem Q108 {base : Nat} {X : Nat → Option mC} {G : Nat → Value} (E : EnvOK base X G) {d : Nat} (hd : 178 ≤ d) {M : mH} (H : HI base M) (sentence : Int) (second : Int) (said : Int) (j : Int) (gs ga gb : Int) (h0 : INVl base j M) (h1 : CS1 gs ga gb M) (h2 : RS1 gs ga gb M) (b_sentence : -2147483648 ≤ sentence ∧ sentence ≤ 2147483647) (b_second : -2147483648 ≤ second ∧ second ≤ 2147483647) (b_said : -2147483648 ≤ said ∧ said ≤ 2147483647) : sOk base X G d T108 [vR 0, vI sentence, vI second, vI said] M (pI (fun v M' => HI base M' ∧ Ftr [(0, 0)] M M' ∧ (INVl base (j + 6) M') ∧ (CS1 gs ga gb M') ∧ (RS1 gs ga gb M'))) := by
  obtain ⟨wa, wb, hK, hR, r1, r2⟩ := h0
  have hK2 := hK
  obtain ⟨hH, hB, hN, hI, hA, hZ, hS, ⟨wn, hn, hT, hG⟩, ha, hb⟩ := hK2
  have hR2 := hR
  obtain ⟨hTB, hWD, hLN, hGK, hVT, hIM⟩ := hR2
  have hs := h1.1
  refine sOk.imp (k108z E (by omega) H sentence second said wn (hZ.rw hn.2) hT hG (by omega) (by omega) (by omega) (by omega)) ?_
  rintro v M' ⟨v', e, H', f, q0⟩
  have z := f.z
  have rf := z.ref H.m rfl
  have kr := hR.of rf
  exact ⟨v', e, H', trivial, ⟨wa, wb, hK.keep H' z rfl rfl, kr, by rw [f.1]; omega, by rw [f.2.1]; omega⟩, h1.fz H.m z rfl, h2.of rf⟩
theorem Q109 {base : Nat} {X : Nat → Option mC} {G : Nat → Value} (E : EnvOK base X G) {d : Nat} (hd : 178 ≤ d) {M : mH} (H : HI base M) (sentence : Int) (second : Int) (j : Int) (gs ga gb : Int) (h0 : INVl base j M) (h1 : CS1 gs ga gb M) (h2 : RS1 gs ga gb M) (b_sentence : -2147483648 ≤ sentence ∧ sentence ≤ 2147483647) (b_second : -2147483648 ≤ second ∧ second ≤ 2147483647) : sOk base X G d T109 [vR 0, vI sentence, vI second] M (pI (fun v M' => HI base M' ∧ Ftr [(0, 0)] M M' ∧ (INVl base (j + 6) M') ∧ (CS1 gs ga gb M') ∧ (RS1 gs ga gb M'))) := by
  obtain ⟨wa, wb, hK, hR, r1, r2⟩ := h0
  have hK2 := hK
  obtain ⟨hH, hB, hN, hI, hA, hZ, hS, ⟨wn, hn, hT, hG⟩, ha, hb⟩ := hK2
  have hR2 := hR
  obtain ⟨hTB, hWD, hLN, hGK, hVT, hIM⟩ := hR2
  have hs := h1.1
  refine sOk.imp (k109k E (by omega) H sentence second wn (hZ.rw hn.2) hT hG (by omega) (by omega) (by omega)) ?_
  rintro v M' ⟨v', e, H', f, q0⟩
  have z := f.z
  have rf := z.ref H.m rfl
  have kr := hR.of rf
  exact ⟨v', e, H', trivial, ⟨wa, wb, hK.keep H' z rfl rfl, kr, by rw [f.1]; omega, by rw [f.2.1]; omega⟩, h1.fz H.m z rfl, h2.of rf⟩
theorem Q110 {base : Nat} {X : Nat → Option mC} {G : Nat → Value} (E : EnvOK base X G) {d : Nat} (hd : 1 ≤ d) {M : mH} (H : HI base M) (a : Int) (b : Int) (c : Int) (d_ : Int) (e : Int) (j : Int) (gs ga gb : Int) (h0 : INVl base j M) (h1 : CS1 gs ga gb M) (h2 : RS1 gs ga gb M) (b_a : -2147483648 ≤ a ∧ a ≤ 2147483647) (b_b : -2147483648 ≤ b ∧ b ≤ 2147483647) (b_c : -2147483648 ≤ c ∧ c ≤ 2147483647) (b_d_ : -2147483648 ≤ d_ ∧ d_ ≤ 2147483647) (b_e : -2147483648 ≤ e ∧ e ≤ 2147483647) : sOk base X G d T110 [vR 0, vI a, vI b, vI c, vI d_, vI e] M (pI (fun v M' => HI base M' ∧ Ftr [(0, 0)] M M' ∧ (INVl base (j + 6) M') ∧ (CS1 (fdS gs) ga gb M') ∧ (RS1 gs ga gb M') ∧ (-2147483648 ≤ v ∧ v ≤ 2147483647) ∧ (v = fdV gs))) := by
  obtain ⟨wa, wb, hK, hR, r1, r2⟩ := h0
  have hK2 := hK
  obtain ⟨hH, hB, hN, hI, hA, hZ, hS, ⟨wn, hn, hT, hG⟩, ha, hb⟩ := hK2
  have hR2 := hR
  obtain ⟨hTB, hWD, hLN, hGK, hVT, hIM⟩ := hR2
  have hs := h1.1
  refine sOk.imp (k110e E (by omega) H a b c d_ e (by omega) (by omega) (by omega) (by omega) (by omega)) ?_
  rintro v M' ⟨v', e, H', f, q0, q1, q2⟩
  have z := (f.q rfl).z
  have rf := z.ref H.m rfl
  have kr := hR.of rf
  exact ⟨v', e, H', trivial, ⟨wa, wb, hK.keep H' z rfl rfl, kr, by rw [f.1]; omega, by rw [f.2.1]; omega⟩, h1.tp H.m z rfl (by unfold fdS; split <;> omega), h2.of rf, q0, (by unfold fdV; split <;> omega)⟩
theorem Q111 {base : Nat} {X : Nat → Option mC} {G : Nat → Value} (E : EnvOK base X G) {d : Nat} (hd : 1 ≤ d) {M : mH} (H : HI base M) (n : Int) (j : Int) (gs ga gb : Int) (h0 : INVl base j M) (h1 : CS1 gs ga gb M) (h2 : RS1 gs ga gb M) (b_n : -2147483648 ≤ n ∧ n ≤ 2147483647) : sOk base X G d T111 [vR 0, vI n] M (pI (fun v M' => HI base M' ∧ Ftr [(0, 0)] M M' ∧ (INVl base (j + 6) M') ∧ (CS1 (enS gs n) ga gb M') ∧ (RS1 gs ga gb M') ∧ (-2147483648 ≤ v ∧ v ≤ 2147483647) ∧ (v = enV gs n))) := by
  obtain ⟨wa, wb, hK, hR, r1, r2⟩ := h0
  have hK2 := hK
  obtain ⟨hH, hB, hN, hI, hA, hZ, hS, ⟨wn, hn, hT, hG⟩, ha, hb⟩ := hK2
  have hR2 := hR
  obtain ⟨hTB, hWD, hLN, hGK, hVT, hIM⟩ := hR2
  have hs := h1.1
  refine sOk.imp (k111e E (by omega) H n (by omega)) ?_
  rintro v M' ⟨v', e, H', f, q0, q1, q2⟩
  have z := (f.q rfl).z
  have rf := z.ref H.m rfl
  have kr := hR.of rf
  exact ⟨v', e, H', trivial, ⟨wa, wb, hK.keep H' z rfl rfl, kr, by rw [f.1]; omega, by rw [f.2.1]; omega⟩, h1.tp H.m z rfl (by unfold enS; split <;> omega), h2.of rf, q0, (by unfold enV; split <;> omega)⟩
theorem Q112 {base : Nat} {X : Nat → Option mC} {G : Nat → Value} (E : EnvOK base X G) {d : Nat} (hd : 60 ≤ d) {M : mH} (H : HI base M) (j : Int) (gs ga gb : Int) (h0 : INVl base j M) (h1 : CS1 gs ga gb M) (h2 : RS1 gs ga gb M) : sOk base X G d T112 [vR 0] M (pI (fun v M' => HI base M' ∧ Ftr [(0, 0)] M M' ∧ (INVl base (j + 6) M') ∧ (CS1 0 ga gb M') ∧ (RS1 gs ga gb M'))) := by
  obtain ⟨wa, wb, hK, hR, r1, r2⟩ := h0
  have hK2 := hK
  obtain ⟨hH, hB, hN, hI, hA, hZ, hS, ⟨wn, hn, hT, hG⟩, ha, hb⟩ := hK2
  have hR2 := hR
  obtain ⟨hTB, hWD, hLN, hGK, hVT, hIM⟩ := hR2
  have hs := h1.1
  refine sOk.imp (k112e E (by omega) H  hB hN) ?_
  rintro v M' ⟨v', e, H', B', N', f, s0, g3⟩
  have z := f.z rfl
  have f1 := f.1.2
  have f2 := f.2.1
  have rf := z.ref H.m rfl
  exact ⟨v', e, H', trivial, ⟨wa, wb, hK.hab H' B' N' z rfl s0, hR.of rf, by omega, by omega⟩, h1.tp H.m z rfl g3, h2.of rf⟩
theorem Q113 {base : Nat} {X : Nat → Option mC} {G : Nat → Value} (E : EnvOK base X G) {d : Nat} (hd : 0 ≤ d) {M : mH} (H : HI base M) (j : Int) (gs ga gb : Int) (h0 : INVl base j M) (h1 : CS1 gs ga gb M) (h2 : RS1 gs ga gb M) : sOk base X G d T113 [vR 0] M (pI (fun v M' => HI base M' ∧ Ftr [(0, 0)] M M' ∧ (INVl base (j + 6) M') ∧ (CS1 gs ga gb M') ∧ (RS1 gs ga gb M'))) := by
  obtain ⟨wa, wb, hK, hR, r1, r2⟩ := h0
  have hK2 := hK
  obtain ⟨hH, hB, hN, hI, hA, hZ, hS, ⟨wn, hn, hT, hG⟩, ha, hb⟩ := hK2
  have hR2 := hR
  obtain ⟨hTB, hWD, hLN, hGK, hVT, hIM⟩ := hR2
  have hs := h1.1
  refine sOk.imp (k113 E (by omega) H  ) ?_
  rintro v M' ⟨v', e, rfl, -⟩
  exact ⟨v', e, H, trivial, ⟨wa, wb, hK, hR, by omega, by omega⟩, h1, h2⟩
theorem Q114 {base : Nat} {X : Nat → Option mC} {G : Nat → Value} (E : EnvOK base X G) {d : Nat} (hd : 7 ≤ d) {M : mH} (H : HI base M) (text : Int) (sentence : Int) (j : Int) (gs ga gb : Int) (h0 : INVl base j M) (h1 : CS1 gs ga gb M) (h2 : RS1 gs ga gb M) (b_text : -2147483648 ≤ text ∧ text ≤ 2147483647) (b_sentence : -2147483648 ≤ sentence ∧ sentence ≤ 2147483647) : sOk base X G d T114 [vR 0, vI text, vI sentence] M (pI (fun v M' => HI base M' ∧ Ftr [(0, 0)] M M' ∧ (INVl base (j + 6) M') ∧ (CS1 gs ga gb M') ∧ (RS1 gs ga gb M'))) := by
  obtain ⟨wa, wb, hK, hR, r1, r2⟩ := h0
  have hK2 := hK
  obtain ⟨hH, hB, hN, hI, hA, hZ, hS, ⟨wn, hn, hT, hG⟩, ha, hb⟩ := hK2
  have hR2 := hR
  obtain ⟨hTB, hWD, hLN, hGK, hVT, hIM⟩ := hR2
  have hs := h1.1
  refine sOk.imp (k114s E (by omega) H text sentence hB hS (by omega) (by omega)) ?_
  rintro v M' ⟨v', e, H', f, q0, q1⟩
  have z := (f.q rfl).z
  have rf := z.ref H.m rfl
  have kr := hR.of rf
  exact ⟨v', e, H', trivial, ⟨wa, wb, hK.sf H' z rfl q1, kr, by rw [f.1]; omega, by rw [f.2.1]; omega⟩, h1.fz H.m z rfl, h2.of rf⟩
theorem Q115 {base : Nat} {X : Nat → Option mC} {G : Nat → Value} (E : EnvOK base X G) {d : Nat} (hd : 1 ≤ d) {M : mH} (H : HI base M) (second : Int) (j : Int) (gs ga gb : Int) (h0 : INVl base j M) (h1 : CS1 gs ga gb M) (h2 : RS1 gs ga gb M) (b_second : -2147483648 ≤ second ∧ second ≤ 2147483647) : sOk base X G d T115 [vR 0, vI second] M (pI (fun v M' => HI base M' ∧ Ftr [(0, 0)] M M' ∧ (INVl base (j + 6) M') ∧ (CS1 gs ga gb M') ∧ (RS1 gs ga gb M'))) := by
  obtain ⟨wa, wb, hK, hR, r1, r2⟩ := h0
  have hK2 := hK
  obtain ⟨hH, hB, hN, hI, hA, hZ, hS, ⟨wn, hn, hT, hG⟩, ha, hb⟩ := hK2
  have hR2 := hR
  obtain ⟨hTB, hWD, hLN, hGK, hVT, hIM⟩ := hR2
  have hs := h1.1
  refine sOk.imp (k115 E (by omega) H second (by omega)) ?_
  rintro v M' ⟨v', e, rfl, -⟩
  exact ⟨v', e, H, trivial, ⟨wa, wb, hK, hR, by omega, by omega⟩, h1, h2⟩
theorem Q116 {base : Nat} {X : Nat → Option mC} {G : Nat → Value} (E : EnvOK base X G) {d : Nat} (hd : 7 ≤ d) {M : mH} (H : HI base M) (text : Int) (j : Int) (gs ga gb : Int) (h0 : INVl base j M) (h1 : CS1 gs ga gb M) (h2 : RS1 gs ga gb M) (b_text : -2147483648 ≤ text ∧ text ≤ 2147483647) : sOk base X G d T116 [vR 0, vI text] M (pL (fun v M' => HI base M' ∧ Ftr [(0, 0)] M M' ∧ (INVl base (j + 6) M') ∧ (CS1 gs ga gb M') ∧ (RS1 gs ga gb M'))) := by
  obtain ⟨wa, wb, hK, hR, r1, r2⟩ := h0
  have hK2 := hK
  obtain ⟨hH, hB, hN, hI, hA, hZ, hS, ⟨wn, hn, hT, hG⟩, ha, hb⟩ := hK2
  have hR2 := hR
  obtain ⟨hTB, hWD, hLN, hGK, hVT, hIM⟩ := hR2
  have hs := h1.1
  refine sOk.imp (k116s E (by omega) H text hB hS (by omega)) ?_
  rintro v M' ⟨v', e, H', f, q0⟩
  have z := (f.q rfl).z
  have rf := z.ref H.m rfl
  have kr := hR.of rf
  exact ⟨v', e, H', trivial, ⟨wa, wb, hK.sf H' z rfl q0, kr, by rw [f.1]; omega, by rw [f.2.1]; omega⟩, h1.fz H.m z rfl, h2.of rf⟩
theorem Q117 {base : Nat} {X : Nat → Option mC} {G : Nat → Value} (E : EnvOK base X G) {d : Nat} (hd : 176 ≤ d) {M : mH} (H : HI base M) (j : Int) (gs ga gb : Int) (h0 : INVl base j M) (h1 : CS1 gs ga gb M) (h2 : RS1 gs ga gb M) : sOk base X G d T117 [vR 0] M (pL (fun v M' => HI base M' ∧ Ftr [(0, 0)] M M' ∧ (INVl base (j + 6) M') ∧ (CS1 gs ga gb M') ∧ (RS1 gs ga gb M'))) := by
  obtain ⟨wa, wb, hK, hR, r1, r2⟩ := h0
  have hK2 := hK
  obtain ⟨hH, hB, hN, hI, hA, hZ, hS, ⟨wn, hn, hT, hG⟩, ha, hb⟩ := hK2
  have hR2 := hR
  obtain ⟨hTB, hWD, hLN, hGK, hVT, hIM⟩ := hR2
  have hs := h1.1
  refine sOk.imp (k117k E (by omega) H wa hS hA (by omega)) ?_
  rintro v M' ⟨v', e, H', f, q0, q1⟩
  have z := f
  have rf := z.ref H.m rfl
  have kr := hR.of rf
  obtain ⟨w2, hb2, hrn, hrm⟩ := q0
  unfold RM at hrm
  exact ⟨v', e, H', trivial, ⟨w2, wb, hK.solv H' z rfl hrn (by omega) (fun _ => q1), kr, by omega, by omega⟩, h1.fz H.m z rfl, h2.of rf⟩
theorem Q118 {base : Nat} {X : Nat → Option mC} {G : Nat → Value} (E : EnvOK base X G) {d : Nat} (hd : 177 ≤ d) {M : mH} (H : HI base M) (word : Int) (j : Int) (gs ga gb : Int) (h0 : INVl base j M) (h1 : CS1 gs ga gb M) (h2 : RS1 gs ga gb M) (b_word : -2147483648 ≤ word ∧ word ≤ 2147483647) : sOk base X G d T118 [vR 0, vI word] M (pL (fun v M' => HI base M' ∧ Ftr [(0, 0)] M M' ∧ (INVl base (j + 6) M') ∧ (CS1 gs ga gb M') ∧ (RS1 gs ga gb M'))) := by
  obtain ⟨wa, wb, hK, hR, r1, r2⟩ := h0
  have hK2 := hK
  obtain ⟨hH, hB, hN, hI, hA, hZ, hS, ⟨wn, hn, hT, hG⟩, ha, hb⟩ := hK2
  have hR2 := hR
  obtain ⟨hTB, hWD, hLN, hGK, hVT, hIM⟩ := hR2
  have hs := h1.1
  refine sOk.imp (k118k E (by omega) H word wa hS hA (by omega) (by omega)) ?_
  rintro v M' ⟨v', e, H', f, q0, q1⟩
  have z := f
  have rf := z.ref H.m rfl
  have kr := hR.of rf
  obtain ⟨w2, hb2, hrn, hrm⟩ := q0
  unfold RM at hrm
  exact ⟨v', e, H', trivial, ⟨w2, wb, hK.solv H' z rfl hrn (by omega) q1, kr, by omega, by omega⟩, h1.fz H.m z rfl, h2.of rf⟩
theorem Q119 {base : Nat} {X : Nat → Option mC} {G : Nat → Value} (E : EnvOK base X G) {d : Nat} (hd : 1 ≤ d) {M : mH} (H : HI base M) (lag : Int) (keeps : Int) (limit : Int) (j : Int) (gs ga gb : Int) (h0 : INVl base j M) (h1 : CS1 gs ga gb M) (h2 : RS1 gs ga gb M) (b_lag : -2147483648 ≤ lag ∧ lag ≤ 2147483647) (b_keeps : -2147483648 ≤ keeps ∧ keeps ≤ 2147483647) (b_limit : -2147483648 ≤ limit ∧ limit ≤ 2147483647) : sOk base X G d T119 [vR 0, vI lag, vI keeps, vI limit] M (pI (fun v M' => HI base M' ∧ Ftr [(0, 0)] M M' ∧ (INVl base (j + 6) M') ∧ (CS1 gs ga gb M') ∧ (RS1 gs ga gb M'))) := by
  obtain ⟨wa, wb, hK, hR, r1, r2⟩ := h0
  have hK2 := hK
  obtain ⟨hH, hB, hN, hI, hA, hZ, hS, ⟨wn, hn, hT, hG⟩, ha, hb⟩ := hK2
  have hR2 := hR
  obtain ⟨hTB, hWD, hLN, hGK, hVT, hIM⟩ := hR2
  have hs := h1.1
  refine sOk.imp (k119s E (by omega) H lag keeps limit (by omega) (by omega) (by omega)) ?_
  rintro v M' ⟨v', e, H', f, q0⟩
  have z := (f.q rfl).z
  have rf := z.ref H.m rfl
  have kr := hR.of rf
  exact ⟨v', e, H', trivial, ⟨wa, wb, hK.st H' z rfl rfl q0, kr, by rw [f.1]; omega, by rw [f.2.1]; omega⟩, h1.fz H.m z rfl, h2.of rf⟩
theorem Q120 {base : Nat} {X : Nat → Option mC} {G : Nat → Value} (E : EnvOK base X G) {d : Nat} (hd : 9 ≤ d) {M : mH} (H : HI base M) (j : Int) (gs ga gb : Int) (h0 : INVl base j M) (h1 : CS1 gs ga gb M) (h2 : RS1 gs ga gb M) : sOk base X G d T120 [vR 0] M (pI (fun v M' => HI base M' ∧ Ftr [(0, 0)] M M' ∧ (INVl base (j + 6) M') ∧ (CS1 gs ga gb M') ∧ (RS1 gs ga gb M'))) := by
  obtain ⟨wa, wb, hK, hR, r1, r2⟩ := h0
  have hK2 := hK
  obtain ⟨hH, hB, hN, hI, hA, hZ, hS, ⟨wn, hn, hT, hG⟩, ha, hb⟩ := hK2
  have hR2 := hR
  obtain ⟨hTB, hWD, hLN, hGK, hVT, hIM⟩ := hR2
  have hs := h1.1
  refine sOk.imp (k120 E (by omega) H  ) ?_
  rintro v M' ⟨v', e, H', f⟩
  have z := (f.q rfl).z
  have rf := z.ref H.m rfl
  have kr := hR.of rf
  exact ⟨v', e, H', trivial, ⟨wa, wb, hK.keep H' z rfl rfl, kr, by rw [f.1]; omega, by rw [f.2.1]; omega⟩, h1.fz H.m z rfl, h2.of rf⟩
theorem Q121 {base : Nat} {X : Nat → Option mC} {G : Nat → Value} (E : EnvOK base X G) {d : Nat} (hd : 1 ≤ d) {M : mH} (H : HI base M) (i : Int) (j : Int) (gs ga gb : Int) (h0 : INVl base j M) (h1 : CS1 gs ga gb M) (h2 : RS1 gs ga gb M) (b_i : -2147483648 ≤ i ∧ i ≤ 2147483647) : sOk base X G d T121 [vR 0, vI i] M (pI (fun v M' => HI base M' ∧ Ftr [(0, 0)] M M' ∧ (INVl base (j + 6) M') ∧ (CS1 gs ga gb M') ∧ (RS1 gs ga gb M'))) := by
  obtain ⟨wa, wb, hK, hR, r1, r2⟩ := h0
  have hK2 := hK
  obtain ⟨hH, hB, hN, hI, hA, hZ, hS, ⟨wn, hn, hT, hG⟩, ha, hb⟩ := hK2
  have hR2 := hR
  obtain ⟨hTB, hWD, hLN, hGK, hVT, hIM⟩ := hR2
  have hs := h1.1
  refine sOk.imp (k121 E (by omega) H i (by omega)) ?_
  rintro v M' ⟨v', e, rfl, -⟩
  exact ⟨v', e, H, trivial, ⟨wa, wb, hK, hR, by omega, by omega⟩, h1, h2⟩
theorem Q122 {base : Nat} {X : Nat → Option mC} {G : Nat → Value} (E : EnvOK base X G) {d : Nat} (hd : 1 ≤ d) {M : mH} (H : HI base M) (minute : Int) (cost : Int) (j : Int) (gs ga gb : Int) (h0 : INVl base j M) (h1 : CS1 gs ga gb M) (h2 : RS1 gs ga gb M) (b_minute : -2147483648 ≤ minute ∧ minute ≤ 2147483647) (b_cost : -2147483648 ≤ cost ∧ cost ≤ 2147483647) : sOk base X G d T122 [vR 0, vI minute, vI cost] M (pI (fun v M' => HI base M' ∧ Ftr [(0, 0)] M M' ∧ (INVl base (j + 6) M') ∧ (CS1 gs ga gb M') ∧ (RS1 gs ga gb M'))) := by
  obtain ⟨wa, wb, hK, hR, r1, r2⟩ := h0
  have hK2 := hK
  obtain ⟨hH, hB, hN, hI, hA, hZ, hS, ⟨wn, hn, hT, hG⟩, ha, hb⟩ := hK2
  have hR2 := hR
  obtain ⟨hTB, hWD, hLN, hGK, hVT, hIM⟩ := hR2
  have hs := h1.1
  refine sOk.imp (k122s E (by omega) H minute cost (by omega) (by omega)) ?_
  rintro v M' ⟨v', e, H', f, q0⟩
  have z := (f.q rfl).z
  have rf := z.ref H.m rfl
  have kr := hR.of rf
  exact ⟨v', e, H', trivial, ⟨wa, wb, hK.st H' z rfl rfl q0, kr, by rw [f.1]; omega, by rw [f.2.1]; omega⟩, h1.fz H.m z rfl, h2.of rf⟩
theorem Q123 {base : Nat} {X : Nat → Option mC} {G : Nat → Value} (E : EnvOK base X G) {d : Nat} (hd : 2 ≤ d) {M : mH} (H : HI base M) (minutes : Int) (j : Int) (gs ga gb : Int) (h0 : INVl base j M) (h1 : CS1 gs ga gb M) (h2 : RS1 gs ga gb M) (b_minutes : -2147483648 ≤ minutes ∧ minutes ≤ 2147483647) : sOk base X G d T123 [vR 0, vI minutes] M (pI (fun v M' => HI base M' ∧ Ftr [(0, 0)] M M' ∧ (INVl base (j + 6) M') ∧ (CS1 gs ga gb M') ∧ (RS1 gs ga gb M'))) := by
  obtain ⟨wa, wb, hK, hR, r1, r2⟩ := h0
  have hK2 := hK
  obtain ⟨hH, hB, hN, hI, hA, hZ, hS, ⟨wn, hn, hT, hG⟩, ha, hb⟩ := hK2
  have hR2 := hR
  obtain ⟨hTB, hWD, hLN, hGK, hVT, hIM⟩ := hR2
  have hs := h1.1
  refine sOk.imp (k123 E (by omega) H minutes (by omega)) ?_
  rintro v M' ⟨v', e, H', f⟩
  have z := (f.q rfl).z
  have rf := z.ref H.m rfl
  have kr := hR.of rf
  exact ⟨v', e, H', trivial, ⟨wa, wb, hK.keep H' z rfl rfl, kr, by rw [f.1]; omega, by rw [f.2.1]; omega⟩, h1.fz H.m z rfl, h2.of rf⟩
theorem Q124 {base : Nat} {X : Nat → Option mC} {G : Nat → Value} (E : EnvOK base X G) {d : Nat} (hd : 1 ≤ d) {M : mH} (H : HI base M) (i : Int) (j : Int) (gs ga gb : Int) (h0 : INVl base j M) (h1 : CS1 gs ga gb M) (h2 : RS1 gs ga gb M) (b_i : -2147483648 ≤ i ∧ i ≤ 2147483647) : sOk base X G d T124 [vR 0, vI i] M (pI (fun v M' => HI base M' ∧ Ftr [(0, 0)] M M' ∧ (INVl base (j + 6) M') ∧ (CS1 gs ga gb M') ∧ (RS1 gs ga gb M'))) := by
  obtain ⟨wa, wb, hK, hR, r1, r2⟩ := h0
  have hK2 := hK
  obtain ⟨hH, hB, hN, hI, hA, hZ, hS, ⟨wn, hn, hT, hG⟩, ha, hb⟩ := hK2
  have hR2 := hR
  obtain ⟨hTB, hWD, hLN, hGK, hVT, hIM⟩ := hR2
  have hs := h1.1
  refine sOk.imp (k124 E (by omega) H i (by omega)) ?_
  rintro v M' ⟨v', e, rfl, -⟩
  exact ⟨v', e, H, trivial, ⟨wa, wb, hK, hR, by omega, by omega⟩, h1, h2⟩
theorem Q125 {base : Nat} {X : Nat → Option mC} {G : Nat → Value} (E : EnvOK base X G) {d : Nat} (hd : 3 ≤ d) {M : mH} (H : HI base M) (minutes : Int) (what : Int) (j : Int) (gs ga gb : Int) (h0 : INVl base j M) (h1 : CS1 gs ga gb M) (h2 : RS1 gs ga gb M) (b_minutes : -2147483648 ≤ minutes ∧ minutes ≤ 2147483647) (b_what : -2147483648 ≤ what ∧ what ≤ 2147483647) : sOk base X G d T125 [vR 0, vI minutes, vI what] M (pI (fun v M' => HI base M' ∧ Ftr [(0, 0)] M M' ∧ (INVl base (j + 6) M') ∧ (CS1 gs ga gb M') ∧ (RS1 gs ga gb M'))) := by
  obtain ⟨wa, wb, hK, hR, r1, r2⟩ := h0
  have hK2 := hK
  obtain ⟨hH, hB, hN, hI, hA, hZ, hS, ⟨wn, hn, hT, hG⟩, ha, hb⟩ := hK2
  have hR2 := hR
  obtain ⟨hTB, hWD, hLN, hGK, hVT, hIM⟩ := hR2
  have hs := h1.1
  refine sOk.imp (k125 E (by omega) H minutes what (by omega) (by omega)) ?_
  rintro v M' ⟨v', e, H', f⟩
  have z := (f.q rfl).z
  have rf := z.ref H.m rfl
  have kr := hR.of rf
  exact ⟨v', e, H', trivial, ⟨wa, wb, hK.keep H' z rfl rfl, kr, by rw [f.1]; omega, by rw [f.2.1]; omega⟩, h1.fz H.m z rfl, h2.of rf⟩
theorem Q126 {base : Nat} {X : Nat → Option mC} {G : Nat → Value} (E : EnvOK base X G) {d : Nat} (hd : 7 ≤ d) {M : mH} (H : HI base M) (text : Int) (sentence : Int) (slot : Int) (meant : Int) (third : Int) (j : Int) (gs ga gb : Int) (h0 : INVl base j M) (h1 : CS1 gs ga gb M) (h2 : RS1 gs ga gb M) (b_text : -2147483648 ≤ text ∧ text ≤ 2147483647) (b_sentence : -2147483648 ≤ sentence ∧ sentence ≤ 2147483647) (b_slot : -2147483648 ≤ slot ∧ slot ≤ 2147483647) (b_meant : -2147483648 ≤ meant ∧ meant ≤ 2147483647) (b_third : -2147483648 ≤ third ∧ third ≤ 2147483647) : sOk base X G d T126 [vR 0, vI text, vI sentence, vI slot, vI meant, vI third] M (pI (fun v M' => HI base M' ∧ Ftr [(0, 0)] M M' ∧ (INVl base (j + 6) M') ∧ (CS1 gs ga gb M') ∧ (RS1 gs ga gb M'))) := by
  obtain ⟨wa, wb, hK, hR, r1, r2⟩ := h0
  have hK2 := hK
  obtain ⟨hH, hB, hN, hI, hA, hZ, hS, ⟨wn, hn, hT, hG⟩, ha, hb⟩ := hK2
  have hR2 := hR
  obtain ⟨hTB, hWD, hLN, hGK, hVT, hIM⟩ := hR2
  have hs := h1.1
  refine sOk.imp (k126s E (by omega) H text sentence slot meant third hB hS (by omega) (by omega) (by omega) (by omega) (by omega)) ?_
  rintro v M' ⟨v', e, H', f, q0⟩
  have z := (f.q rfl).z
  have rf := z.ref H.m rfl
  have kr := hR.of rf
  exact ⟨v', e, H', trivial, ⟨wa, wb, hK.sf H' z rfl q0, kr, by rw [f.1]; omega, by rw [f.2.1]; omega⟩, h1.fz H.m z rfl, h2.of rf⟩
theorem Q127 {base : Nat} {X : Nat → Option mC} {G : Nat → Value} (E : EnvOK base X G) {d : Nat} (hd : 7 ≤ d) {M : mH} (H : HI base M) (sentence : Int) (j : Int) (gs ga gb : Int) (h0 : INVl base j M) (h1 : CS1 gs ga gb M) (h2 : RS1 gs ga gb M) (b_sentence : -2147483648 ≤ sentence ∧ sentence ≤ 2147483647) : sOk base X G d T127 [vR 0, vI sentence] M (pI (fun v M' => HI base M' ∧ Ftr [(0, 0)] M M' ∧ (INVl base (j + 6) M') ∧ (CS1 0 ga gb M') ∧ (RS1 gs ga gb M'))) := by
  obtain ⟨wa, wb, hK, hR, r1, r2⟩ := h0
  have hK2 := hK
  obtain ⟨hH, hB, hN, hI, hA, hZ, hS, ⟨wn, hn, hT, hG⟩, ha, hb⟩ := hK2
  have hR2 := hR
  obtain ⟨hTB, hWD, hLN, hGK, hVT, hIM⟩ := hR2
  have hs := h1.1
  refine sOk.imp (k127e E (by omega) H sentence hB hS (by omega)) ?_
  rintro v M' ⟨v', e, H', f, q0, q1, q2⟩
  have z := (f.q rfl).z
  have rf := z.ref H.m rfl
  have kr := hR.of rf
  exact ⟨v', e, H', trivial, ⟨wa, wb, hK.sf H' z rfl q1, kr, by rw [f.1]; omega, by rw [f.2.1]; omega⟩, h1.tp H.m z rfl q2, h2.of rf⟩
theorem Q128 {base : Nat} {X : Nat → Option mC} {G : Nat → Value} (E : EnvOK base X G) {d : Nat} (hd : 7 ≤ d) {M : mH} (H : HI base M) (what : Int) (j : Int) (gs ga gb : Int) (h0 : INVl base j M) (h1 : CS1 gs ga gb M) (h2 : RS1 gs ga gb M) (b_what : -2147483648 ≤ what ∧ what ≤ 2147483647) : sOk base X G d T128 [vR 0, vI what] M (pI (fun v M' => HI base M' ∧ Ftr [(0, 0)] M M' ∧ (INVl base (j + 6) M') ∧ (CS1 gs ga gb M') ∧ (RS1 gs ga gb M'))) := by
  obtain ⟨wa, wb, hK, hR, r1, r2⟩ := h0
  have hK2 := hK
  obtain ⟨hH, hB, hN, hI, hA, hZ, hS, ⟨wn, hn, hT, hG⟩, ha, hb⟩ := hK2
  have hR2 := hR
  obtain ⟨hTB, hWD, hLN, hGK, hVT, hIM⟩ := hR2
  have hs := h1.1
  refine sOk.imp (k128s E (by omega) H what hB hS (by omega)) ?_
  rintro v M' ⟨v', e, H', f, q0, q1⟩
  have z := (f.q rfl).z
  have rf := z.ref H.m rfl
  have kr := hR.of rf
  exact ⟨v', e, H', trivial, ⟨wa, wb, hK.sf H' z rfl q1, kr, by rw [f.1]; omega, by rw [f.2.1]; omega⟩, h1.fz H.m z rfl, h2.of rf⟩
theorem Q129 {base : Nat} {X : Nat → Option mC} {G : Nat → Value} (E : EnvOK base X G) {d : Nat} (hd : 3 ≤ d) {M : mH} (H : HI base M) (k : Int) (j : Int) (gs ga gb : Int) (h0 : INVl base j M) (h1 : CS1 gs ga gb M) (h2 : RS1 gs ga gb M) (b_k : -2147483648 ≤ k ∧ k ≤ 2147483647) : sOk base X G d T129 [vR 0, vI k] M (pI (fun v M' => HI base M' ∧ Ftr [(0, 0)] M M' ∧ (INVl base (j + 6) M') ∧ (CS1 gs (imA 0 k ga) (imA 1 k gb) M') ∧ (RS1 gs ga gb M') ∧ (-2147483648 ≤ v ∧ v ≤ 2147483647) ∧ (v = imV k))) := by
  obtain ⟨wa, wb, hK, hR, r1, r2⟩ := h0
  have hK2 := hK
  obtain ⟨hH, hB, hN, hI, hA, hZ, hS, ⟨wn, hn, hT, hG⟩, ha, hb⟩ := hK2
  have hR2 := hR
  obtain ⟨hTB, hWD, hLN, hGK, hVT, hIM⟩ := hR2
  have hs := h1.1
  refine sOk.imp (k129e E (by omega) H k (by omega) hB hN hI) ?_
  rintro v M' ⟨v', e, q, e0, e1, g3, n1, n2⟩
  have q1 := q.2.2.2.2.1.2
  have q2 := q.2.2.2.2.2.1
  have rf : ∀ c, 77 ≤ c → c < 111 → sameC c M M' := fun c x y => q.2.2.2.2.2.2.1 c (by omega) y
  have inv : INVl base (j + 6) M' := ⟨wa, wb, hK.img q, hR.of rf, by omega, by omega⟩
  have vv := imV.of e0 e1
  exact ⟨v', e, q.1, trivial, inv, h1.img g3 n1 n2, h2.of rf, (by rw [vv]; unfold imV; split <;> omega), vv⟩
theorem Q130 {base : Nat} {X : Nat → Option mC} {G : Nat → Value} (E : EnvOK base X G) {d : Nat} (hd : 3 ≤ d) {M : mH} (H : HI base M) (k : Int) (j : Int) (gs ga gb : Int) (h0 : INVl base j M) (h1 : CS1 gs ga gb M) (h2 : RS1 gs ga gb M) (b_k : -2147483648 ≤ k ∧ k ≤ 2147483647) : sOk base X G d T130 [vR 0, vI k] M (pI (fun v M' => HI base M' ∧ Ftr [(0, 0)] M M' ∧ (INVl base (j + 6) M') ∧ (CS1 gs ga gb M') ∧ (RS1 gs ga gb M') ∧ (-2147483648 ≤ v ∧ v ≤ 2147483647) ∧ (v = bkV k ga gb))) := by
  obtain ⟨wa, wb, hK, hR, r1, r2⟩ := h0
  have hK2 := hK
  obtain ⟨hH, hB, hN, hI, hA, hZ, hS, ⟨wn, hn, hT, hG⟩, ha, hb⟩ := hK2
  have hR2 := hR
  obtain ⟨hTB, hWD, hLN, hGK, hVT, hIM⟩ := hR2
  have hs := h1.1
  refine sOk.imp (k130e E (by omega) H k (by omega) hB hN hI) ?_
  rintro v M' ⟨v', e, q, g3, n0, e0, e1, e2⟩
  have q1 := q.2.2.2.2.1.2
  have q2 := q.2.2.2.2.2.1
  have rf : ∀ c, 77 ≤ c → c < 111 → sameC c M M' := fun c x y => q.2.2.2.2.2.2.1 c (by omega) y
  have inv : INVl base (j + 6) M' := ⟨wa, wb, hK.img q, hR.of rf, by omega, by omega⟩
  have vv := bkV.cl h1 e0 e1 e2
  exact ⟨v', e, q.1, trivial, inv, h1.of n0 (g3.trans hs), h2.of rf, (by rw [vv]; unfold bkV; split <;> (try split) <;> (try split) <;> omega), vv⟩
theorem Q131 {base : Nat} {X : Nat → Option mC} {G : Nat → Value} (E : EnvOK base X G) {d : Nat} (hd : 0 ≤ d) {M : mH} (H : HI base M) (what : Int) (j : Int) (gs ga gb : Int) (h0 : INVl base j M) (h1 : CS1 gs ga gb M) (h2 : RS1 gs ga gb M) (b_what : -2147483648 ≤ what ∧ what ≤ 2147483647) : sOk base X G d T131 [vR 0, vI what] M (pI (fun v M' => HI base M' ∧ Ftr [(0, 0)] M M' ∧ (INVl base (j + 6) M') ∧ (CS1 gs ga gb M') ∧ (RS1 gs ga gb M'))) := by
  obtain ⟨wa, wb, hK, hR, r1, r2⟩ := h0
  have hK2 := hK
  obtain ⟨hH, hB, hN, hI, hA, hZ, hS, ⟨wn, hn, hT, hG⟩, ha, hb⟩ := hK2
  have hR2 := hR
  obtain ⟨hTB, hWD, hLN, hGK, hVT, hIM⟩ := hR2
  have hs := h1.1
  refine sOk.imp (k131 E (by omega) H what (by omega)) ?_
  rintro v M' ⟨v', e, rfl, -⟩
  exact ⟨v', e, H, trivial, ⟨wa, wb, hK, hR, by omega, by omega⟩, h1, h2⟩
theorem Q132 {base : Nat} {X : Nat → Option mC} {G : Nat → Value} (E : EnvOK base X G) {d : Nat} (hd : 0 ≤ d) {M : mH} (H : HI base M) (j : Int) (gs ga gb : Int) (h0 : INVl base j M) (h1 : CS1 gs ga gb M) (h2 : RS1 gs ga gb M) : sOk base X G d T132 [vR 0] M (pI (fun v M' => HI base M' ∧ Ftr [(0, 0)] M M' ∧ (INVl base (j + 6) M') ∧ (CS1 gs ga gb M') ∧ (RS1 gs ga gb M'))) := by
  obtain ⟨wa, wb, hK, hR, r1, r2⟩ := h0
  have hK2 := hK
  obtain ⟨hH, hB, hN, hI, hA, hZ, hS, ⟨wn, hn, hT, hG⟩, ha, hb⟩ := hK2
  have hR2 := hR
  obtain ⟨hTB, hWD, hLN, hGK, hVT, hIM⟩ := hR2
  have hs := h1.1
  refine sOk.imp (k132 E (by omega) H  ) ?_
  rintro v M' ⟨v', e, rfl, -⟩
  exact ⟨v', e, H, trivial, ⟨wa, wb, hK, hR, by omega, by omega⟩, h1, h2⟩
theorem Q161 {base : Nat} {X : Nat → Option mC} {G : Nat → Value} (E : EnvOK base X G) {d : Nat} (hd : 1 ≤ d) {M : mH} (H : HI base M) (w : Int) (what : Int) (value : Int) (j : Int) (gs ga gb : Int) {gs2 ga2 gb2 : Int} (h0 : INVl base j M) (h1 : CS1 gs2 ga2 gb2 M) (h2 : RS1 gs ga gb M) (b_w : -2147483648 ≤ w ∧ w ≤ 2147483647) (b_what : -2147483648 ≤ what ∧ what ≤ 2147483647) (b_value : -2147483648 ≤ value ∧ value ≤ 2147483647) : sOk base X G d T161 [vR 77, vI w, vI what, vI value] M (pI (fun v M' => HI base M' ∧ Ftr [(0, 0)] M M' ∧ (INVl base j M') ∧ (CS1 gs2 ga2 gb2 M') ∧ (RS1 gs ga gb M'))) := by
  obtain ⟨wa, wb, hK, hR, r1, r2⟩ := h0
  have hK2 := hK
  obtain ⟨hH, hB, hN, hI, hA, hZ, hS, ⟨wn, hn, hT, hG⟩, ha, hb⟩ := hK2
  have hR2 := hR
  obtain ⟨hTB, hWD, hLN, hGK, hVT, hIM⟩ := hR2
  have hs := h2.1
  refine sOk.imp (k161k E (by omega) H w what value hLN hGK (by omega) (by omega) (by omega)) ?_
  rintro v M' ⟨v', e, H', f, q0, q1⟩
  have z := (f.q rfl).z
  exact ⟨v', e, H', trivial, ⟨wa, wb, hK.keep H' z rfl rfl, ⟨hTB.fr f rfl, hWD.fr f rfl, q0, q1, hVT.fr f rfl, hIM.fr f rfl⟩, by rw [f.1]; exact r1, by rw [f.2.1]; exact r2⟩, h1.fz H.m z rfl, h2.fr f rfl⟩
theorem Q162 {base : Nat} {X : Nat → Option mC} {G : Nat → Value} (E : EnvOK base X G) {d : Nat} (hd : 1 ≤ d) {M : mH} (H : HI base M) (what : Int) (value : Int) (j : Int) (gs ga gb : Int) {gs2 ga2 gb2 : Int} (h0 : INVl base j M) (h1 : CS1 gs2 ga2 gb2 M) (h2 : RS1 gs ga gb M) (b_what : -2147483648 ≤ what ∧ what ≤ 2147483647) (b_value : -2147483648 ≤ value ∧ value ≤ 2147483647) : sOk base X G d T162 [vR 77, vI what, vI value] M (pI (fun v M' => HI base M' ∧ Ftr [(0, 0)] M M' ∧ (INVl base j M') ∧ (CS1 gs2 ga2 gb2 M') ∧ (RS1 gs ga gb M'))) := by
  obtain ⟨wa, wb, hK, hR, r1, r2⟩ := h0
  have hK2 := hK
  obtain ⟨hH, hB, hN, hI, hA, hZ, hS, ⟨wn, hn, hT, hG⟩, ha, hb⟩ := hK2
  have hR2 := hR
  obtain ⟨hTB, hWD, hLN, hGK, hVT, hIM⟩ := hR2
  have hs := h2.1
  refine sOk.imp (k162k E (by omega) H what value hLN hGK (by omega) (by omega)) ?_
  rintro v M' ⟨v', e, H', f, q0, q1⟩
  have z := (f.q rfl).z
  exact ⟨v', e, H', trivial, ⟨wa, wb, hK.keep H' z rfl rfl, ⟨hTB.fr f rfl, hWD.fr f rfl, q0, q1, hVT.fr f rfl, hIM.fr f rfl⟩, by rw [f.1]; exact r1, by rw [f.2.1]; exact r2⟩, h1.fz H.m z rfl, h2.fr f rfl⟩
theorem Q163 {base : Nat} {X : Nat → Option mC} {G : Nat → Value} (E : EnvOK base X G) {d : Nat} (hd : 1 ≤ d) {M : mH} (H : HI base M) (order : Int) (j : Int) (gs ga gb : Int) {gs2 ga2 gb2 : Int} (h0 : INVl base j M) (h1 : CS1 gs2 ga2 gb2 M) (h2 : RS1 gs ga gb M) (b_order : -2147483648 ≤ order ∧ order ≤ 2147483647) : sOk base X G d T163 [vR 77, vI order] M (pI (fun v M' => HI base M' ∧ Ftr [(0, 0)] M M' ∧ (INVl base j M') ∧ (CS1 gs2 ga2 gb2 M') ∧ (RS1 gs ga gb M'))) := by
  obtain ⟨wa, wb, hK, hR, r1, r2⟩ := h0
  have hK2 := hK
  obtain ⟨hH, hB, hN, hI, hA, hZ, hS, ⟨wn, hn, hT, hG⟩, ha, hb⟩ := hK2
  have hR2 := hR
  obtain ⟨hTB, hWD, hLN, hGK, hVT, hIM⟩ := hR2
  have hs := h2.1
  refine sOk.imp (k163k E (by omega) H order hLN hGK (by omega)) ?_
  rintro v M' ⟨v', e, H', f, q0, q1⟩
  have z := (f.q rfl).z
  exact ⟨v', e, H', trivial, ⟨wa, wb, hK.keep H' z rfl rfl, ⟨hTB.fr f rfl, hWD.fr f rfl, q0, q1, hVT.fr f rfl, hIM.fr f rfl⟩, by rw [f.1]; exact r1, by rw [f.2.1]; exact r2⟩, h1.fz H.m z rfl, h2.fr f rfl⟩
theorem Q164 {base : Nat} {X : Nat → Option mC} {G : Nat → Value} (E : EnvOK base X G) {d : Nat} (hd : 1 ≤ d) {M : mH} (H : HI base M) (slot : Int) (values : Int) (length : Int) (j : Int) (gs ga gb : Int) {gs2 ga2 gb2 : Int} (h0 : INVl base j M) (h1 : CS1 gs2 ga2 gb2 M) (h2 : RS1 gs ga gb M) (b_slot : -2147483648 ≤ slot ∧ slot ≤ 2147483647) (b_values : -2147483648 ≤ values ∧ values ≤ 2147483647) (b_length : -2147483648 ≤ length ∧ length ≤ 2147483647) : sOk base X G d T164 [vR 77, vI slot, vI values, vI length] M (pI (fun v M' => HI base M' ∧ Ftr [(0, 0)] M M' ∧ (INVl base j M') ∧ (CS1 gs2 ga2 gb2 M') ∧ (RS1 gs ga gb M'))) := by
  obtain ⟨wa, wb, hK, hR, r1, r2⟩ := h0
  have hK2 := hK
  obtain ⟨hH, hB, hN, hI, hA, hZ, hS, ⟨wn, hn, hT, hG⟩, ha, hb⟩ := hK2
  have hR2 := hR
  obtain ⟨hTB, hWD, hLN, hGK, hVT, hIM⟩ := hR2
  have hs := h2.1
  refine sOk.imp (k164k E (by omega) H slot values length hLN hGK (by omega) (by omega) (by omega)) ?_
  rintro v M' ⟨v', e, H', f, q0, q1⟩
  have z := (f.q rfl).z
  exact ⟨v', e, H', trivial, ⟨wa, wb, hK.keep H' z rfl rfl, ⟨hTB.fr f rfl, hWD.fr f rfl, q0, q1, hVT.fr f rfl, hIM.fr f rfl⟩, by rw [f.1]; exact r1, by rw [f.2.1]; exact r2⟩, h1.fz H.m z rfl, h2.fr f rfl⟩
theorem Q165 {base : Nat} {X : Nat → Option mC} {G : Nat → Value} (E : EnvOK base X G) {d : Nat} (hd : 1 ≤ d) {M : mH} (H : HI base M) (speaker : Int) (j : Int) (gs ga gb : Int) {gs2 ga2 gb2 : Int} (h0 : INVl base j M) (h1 : CS1 gs2 ga2 gb2 M) (h2 : RS1 gs ga gb M) (b_speaker : -2147483648 ≤ speaker ∧ speaker ≤ 2147483647) : sOk base X G d T165 [vR 77, vI speaker] M (pI (fun v M' => HI base M' ∧ Ftr [(0, 0)] M M' ∧ (INVl base j M') ∧ (CS1 gs2 ga2 gb2 M') ∧ (RS1 gs ga gb M'))) := by
  obtain ⟨wa, wb, hK, hR, r1, r2⟩ := h0
  have hK2 := hK
  obtain ⟨hH, hB, hN, hI, hA, hZ, hS, ⟨wn, hn, hT, hG⟩, ha, hb⟩ := hK2
  have hR2 := hR
  obtain ⟨hTB, hWD, hLN, hGK, hVT, hIM⟩ := hR2
  have hs := h2.1
  refine sOk.imp (k165k E (by omega) H speaker hLN hGK (by omega)) ?_
  rintro v M' ⟨v', e, H', f, q0, q1⟩
  have z := (f.q rfl).z
  exact ⟨v', e, H', trivial, ⟨wa, wb, hK.keep H' z rfl rfl, ⟨hTB.fr f rfl, hWD.fr f rfl, q0, q1, hVT.fr f rfl, hIM.fr f rfl⟩, by rw [f.1]; exact r1, by rw [f.2.1]; exact r2⟩, h1.fz H.m z rfl, h2.fr f rfl⟩
theorem Q167 {base : Nat} {X : Nat → Option mC} {G : Nat → Value} (E : EnvOK base X G) {d : Nat} (hd : 2 ≤ d) {M : mH} (H : HI base M) (a : Int) (b : Int) (c : Int) (j : Int) (gs ga gb : Int) {gs2 ga2 gb2 : Int} (h0 : INVl base j M) (h1 : CS1 gs2 ga2 gb2 M) (h2 : RS1 gs ga gb M) (b_a : -2147483648 ≤ a ∧ a ≤ 2147483647) (b_b : -2147483648 ≤ b ∧ b ≤ 2147483647) (b_c : -2147483648 ≤ c ∧ c ≤ 2147483647) : sOk base X G d T167 [vR 77, vI a, vI b, vI c] M (pI (fun v M' => HI base M' ∧ Ftr [(0, 0)] M M' ∧ (INVl base j M') ∧ (CS1 gs2 ga2 gb2 M') ∧ (RS1 0 ga gb M'))) := by
  obtain ⟨wa, wb, hK, hR, r1, r2⟩ := h0
  have hK2 := hK
  obtain ⟨hH, hB, hN, hI, hA, hZ, hS, ⟨wn, hn, hT, hG⟩, ha, hb⟩ := hK2
  have hR2 := hR
  obtain ⟨hTB, hWD, hLN, hGK, hVT, hIM⟩ := hR2
  have hs := h2.1
  refine sOk.imp (k167e E (by omega) H a b c hLN hGK (by omega) (by omega) (by omega)) ?_
  rintro v M' ⟨v', e, H', f, q0, q1, q2⟩
  have z := (f.q rfl).z
  exact ⟨v', e, H', trivial, ⟨wa, wb, hK.keep H' z rfl rfl, ⟨hTB.fr f rfl, hWD.fr f rfl, q0, q1, hVT.fr f rfl, hIM.fr f rfl⟩, by rw [f.1]; exact r1, by rw [f.2.1]; exact r2⟩, h1.fz H.m z rfl, h2.tp f rfl q2⟩
theorem Q168 {base : Nat} {X : Nat → Option mC} {G : Nat → Value} (E : EnvOK base X G) {d : Nat} (hd : 2 ≤ d) {M : mH} (H : HI base M) (s : Int) (speaker : Int) (weight : Int) (j : Int) (gs ga gb : Int) {gs2 ga2 gb2 : Int} (h0 : INVl base j M) (h1 : CS1 gs2 ga2 gb2 M) (h2 : RS1 gs ga gb M) (b_s : -2147483648 ≤ s ∧ s ≤ 2147483647) (b_speaker : -2147483648 ≤ speaker ∧ speaker ≤ 2147483647) (b_weight : -2147483648 ≤ weight ∧ weight ≤ 2147483647) : sOk base X G d T168 [vR 77, vI s, vI speaker, vI weight] M (pI (fun v M' => HI base M' ∧ Ftr [(0, 0)] M M' ∧ (INVl base j M') ∧ (CS1 gs2 ga2 gb2 M') ∧ (RS1 gs ga gb M'))) := by
  obtain ⟨wa, wb, hK, hR, r1, r2⟩ := h0
  have hK2 := hK
  obtain ⟨hH, hB, hN, hI, hA, hZ, hS, ⟨wn, hn, hT, hG⟩, ha, hb⟩ := hK2
  have hR2 := hR
  obtain ⟨hTB, hWD, hLN, hGK, hVT, hIM⟩ := hR2
  have hs := h2.1
  refine sOk.imp (k168k E (by omega) H s speaker weight hLN hGK (by omega) (by omega) (by omega)) ?_
  rintro v M' ⟨v', e, H', f, q0, q1⟩
  have z := (f.q rfl).z
  exact ⟨v', e, H', trivial, ⟨wa, wb, hK.keep H' z rfl rfl, ⟨hTB.fr f rfl, hWD.fr f rfl, q0, q1, hVT.fr f rfl, hIM.fr f rfl⟩, by rw [f.1]; exact r1, by rw [f.2.1]; exact r2⟩, h1.fz H.m z rfl, h2.fr f rfl⟩
theorem Q169 {base : Nat} {X : Nat → Option mC} {G : Nat → Value} (E : EnvOK base X G) {d : Nat} (hd : 2 ≤ d) {M : mH} (H : HI base M) (s : Int) (i : Int) (j : Int) (gs ga gb : Int) {gs2 ga2 gb2 : Int} (h0 : INVl base j M) (h1 : CS1 gs2 ga2 gb2 M) (h2 : RS1 gs ga gb M) (b_s : -2147483648 ≤ s ∧ s ≤ 2147483647) (b_i : -2147483648 ≤ i ∧ i ≤ 2147483647) : sOk base X G d T169 [vR 77, vI s, vI i] M (pI (fun v M' => HI base M' ∧ Ftr [(0, 0)] M M' ∧ (INVl base j M') ∧ (CS1 gs2 ga2 gb2 M') ∧ (RS1 gs ga gb M'))) := by
  obtain ⟨wa, wb, hK, hR, r1, r2⟩ := h0
  have hK2 := hK
  obtain ⟨hH, hB, hN, hI, hA, hZ, hS, ⟨wn, hn, hT, hG⟩, ha, hb⟩ := hK2
  have hR2 := hR
  obtain ⟨hTB, hWD, hLN, hGK, hVT, hIM⟩ := hR2
  have hs := h2.1
  refine sOk.imp (k169 E (by omega) H s i (by omega) (by omega)) ?_
  rintro v M' ⟨v', e, rfl, -⟩
  exact ⟨v', e, H, trivial, ⟨wa, wb, hK, hR, by omega, by omega⟩, h1, h2⟩
theorem Q177 {base : Nat} {X : Nat → Option mC} {G : Nat → Value} (E : EnvOK base X G) {d : Nat} (hd : 3 ≤ d) {M : mH} (H : HI base M) (s : Int) (slot : Int) (j : Int) (gs ga gb : Int) {gs2 ga2 gb2 : Int} (h0 : INVl base j M) (h1 : CS1 gs2 ga2 gb2 M) (h2 : RS1 gs ga gb M) (b_s : -2147483648 ≤ s ∧ s ≤ 2147483647) (b_slot : -2147483648 ≤ slot ∧ slot ≤ 2147483647) : sOk base X G d T177 [vR 77, vI s, vI slot] M (pI (fun v M' => HI base M' ∧ Ftr [(0, 0)] M M' ∧ (INVl base j M') ∧ (CS1 gs2 ga2 gb2 M') ∧ (RS1 gs ga gb M'))) := by
  obtain ⟨wa, wb, hK, hR, r1, r2⟩ := h0
  have hK2 := hK
  obtain ⟨hH, hB, hN, hI, hA, hZ, hS, ⟨wn, hn, hT, hG⟩, ha, hb⟩ := hK2
  have hR2 := hR
  obtain ⟨hTB, hWD, hLN, hGK, hVT, hIM⟩ := hR2
  have hs := h2.1
  refine sOk.imp (k177 E (by omega) H s slot (by omega) (by omega)) ?_
  rintro v M' ⟨v', e, rfl, -⟩
  exact ⟨v', e, H, trivial, ⟨wa, wb, hK, hR, by omega, by omega⟩, h1, h2⟩
theorem Q179 {base : Nat} {X : Nat → Option mC} {G : Nat → Value} (E : EnvOK base X G) {d : Nat} (hd : 3 ≤ d) {M : mH} (H : HI base M) (s : Int) (n : Int) (slot : Int) (value : Int) (which : Int) (j : Int) (gs ga gb : Int) {gs2 ga2 gb2 : Int} (h0 : INVl base j M) (h1 : CS1 gs2 ga2 gb2 M) (h2 : RS1 gs ga gb M) (b_s : -2147483648 ≤ s ∧ s ≤ 2147483647) (b_n : -2147483648 ≤ n ∧ n ≤ 2147483647) (b_slot : -2147483648 ≤ slot ∧ slot ≤ 2147483647) (b_value : -2147483648 ≤ value ∧ value ≤ 2147483647) (b_which : -2147483648 ≤ which ∧ which ≤ 2147483647) : sOk base X G d T179 [vR 77, vI s, vI n, vI slot, vI value, vI which] M (pI (fun v M' => HI base M' ∧ Ftr [(0, 0)] M M' ∧ (INVl base j M') ∧ (CS1 gs2 ga2 gb2 M') ∧ (RS1 gs ga gb M'))) := by
  obtain ⟨wa, wb, hK, hR, r1, r2⟩ := h0
  have hK2 := hK
  obtain ⟨hH, hB, hN, hI, hA, hZ, hS, ⟨wn, hn, hT, hG⟩, ha, hb⟩ := hK2
  have hR2 := hR
  obtain ⟨hTB, hWD, hLN, hGK, hVT, hIM⟩ := hR2
  have hs := h2.1
  refine sOk.imp (k179x E (by omega) H s n slot value which (by omega) (by omega) (by omega) (by omega) (by omega)) ?_
  rintro v M' ⟨v', e, rfl, -⟩
  exact ⟨v', e, H, trivial, ⟨wa, wb, hK, hR, by omega, by omega⟩, h1, h2⟩
theorem Q181 {base : Nat} {X : Nat → Option mC} {G : Nat → Value} (E : EnvOK base X G) {d : Nat} (hd : 3 ≤ d) {M : mH} (H : HI base M) (s : Int) (n : Int) (slot : Int) (j : Int) (gs ga gb : Int) {gs2 ga2 gb2 : Int} (h0 : INVl base j M) (h1 : CS1 gs2 ga2 gb2 M) (h2 : RS1 gs ga gb M) (b_s : -2147483648 ≤ s ∧ s ≤ 2147483647) (b_n : -2147483648 ≤ n ∧ n ≤ 2147483647) (b_slot : -2147483648 ≤ slot ∧ slot ≤ 2147483647) : sOk base X G d T181 [vR 77, vI s, vI n, vI slot] M (pI (fun v M' => HI base M' ∧ Ftr [(0, 0)] M M' ∧ (INVl base j M') ∧ (CS1 gs2 ga2 gb2 M') ∧ (RS1 gs ga gb M'))) := by
  obtain ⟨wa, wb, hK, hR, r1, r2⟩ := h0
  have hK2 := hK
  obtain ⟨hH, hB, hN, hI, hA, hZ, hS, ⟨wn, hn, hT, hG⟩, ha, hb⟩ := hK2
  have hR2 := hR
  obtain ⟨hTB, hWD, hLN, hGK, hVT, hIM⟩ := hR2
  have hs := h2.1
  refine sOk.imp (k181 E (by omega) H s n slot (by omega) (by omega) (by omega)) ?_
  rintro v M' ⟨v', e, rfl, -⟩
  exact ⟨v', e, H, trivial, ⟨wa, wb, hK, hR, by omega, by omega⟩, h1, h2⟩
theorem Q202 {base : Nat} {X : Nat → Option mC} {G : Nat → Value} (E : EnvOK base X G) {d : Nat} (hd : 7 ≤ d) {M : mH} (H : HI base M) (j : Int) (gs ga gb : Int) {gs2 ga2 gb2 : Int} (h0 : INVl base j M) (h1 : CS1 gs2 ga2 gb2 M) (h2 : RS1 gs ga gb M) : sOk base X G d T202 [vR 77] M (pL (fun v M' => HI base M' ∧ Ftr [(0, 0)] M M' ∧ (INVl base j M') ∧ (CS1 gs2 ga2 gb2 M') ∧ (RS1 gs ga gb M'))) := by
  obtain ⟨wa, wb, hK, hR, r1, r2⟩ := h0
  have hK2 := hK
  obtain ⟨hH, hB, hN, hI, hA, hZ, hS, ⟨wn, hn, hT, hG⟩, ha, hb⟩ := hK2
  have hR2 := hR
  obtain ⟨hTB, hWD, hLN, hGK, hVT, hIM⟩ := hR2
  have hs := h2.1
  refine sOk.imp (k202k E (by omega) H (gi M 78) hTB hLN (fun _ => rfl) hVT) ?_
  rintro v M' ⟨v', e, H', f, q0⟩
  have z := (f.q rfl).z
  exact ⟨v', e, H', trivial, ⟨wa, wb, hK.keep H' z rfl rfl, ⟨hTB.fr f rfl, hWD.fr f rfl, hLN.fr f rfl, hGK.fr f rfl, q0, hIM.fr f rfl⟩, by rw [f.1]; exact r1, by rw [f.2.1]; exact r2⟩, h1.fz H.m z rfl, h2.fr f rfl⟩
theorem Q204 {base : Nat} {X : Nat → Option mC} {G : Nat → Value} (E : EnvOK base X G) {d : Nat} (hd : 2 ≤ d) {M : mH} (H : HI base M) (s : Int) (second : Int) (said : Int) (j : Int) (gs ga gb : Int) {gs2 ga2 gb2 : Int} (h0 : INVl base j M) (h1 : CS1 gs2 ga2 gb2 M) (h2 : RS1 gs ga gb M) (b_s : -2147483648 ≤ s ∧ s ≤ 2147483647) (b_second : -2147483648 ≤ second ∧ second ≤ 2147483647) (b_said : -2147483648 ≤ said ∧ said ≤ 2147483647) : sOk base X G d T204 [vR 77, vI s, vI second, vI said] M (pI (fun v M' => HI base M' ∧ Ftr [(0, 0)] M M' ∧ (INVl base j M') ∧ (CS1 gs2 ga2 gb2 M') ∧ (RS1 gs ga gb M'))) := by
  obtain ⟨wa, wb, hK, hR, r1, r2⟩ := h0
  have hK2 := hK
  obtain ⟨hH, hB, hN, hI, hA, hZ, hS, ⟨wn, hn, hT, hG⟩, ha, hb⟩ := hK2
  have hR2 := hR
  obtain ⟨hTB, hWD, hLN, hGK, hVT, hIM⟩ := hR2
  have hs := h2.1
  refine sOk.imp (k204 E (by omega) H s second said (by omega) (by omega) (by omega)) ?_
  rintro v M' ⟨v', e, rfl, -⟩
  exact ⟨v', e, H, trivial, ⟨wa, wb, hK, hR, by omega, by omega⟩, h1, h2⟩
theorem Q205 {base : Nat} {X : Nat → Option mC} {G : Nat → Value} (E : EnvOK base X G) {d : Nat} (hd : 2 ≤ d) {M : mH} (H : HI base M) (s : Int) (second : Int) (j : Int) (gs ga gb : Int) {gs2 ga2 gb2 : Int} (h0 : INVl base j M) (h1 : CS1 gs2 ga2 gb2 M) (h2 : RS1 gs ga gb M) (b_s : -2147483648 ≤ s ∧ s ≤ 2147483647) (b_second : -2147483648 ≤ second ∧ second ≤ 2147483647) : sOk base X G d T205 [vR 77, vI s, vI second] M (pI (fun v M' => HI base M' ∧ Ftr [(0, 0)] M M' ∧ (INVl base j M') ∧ (CS1 gs2 ga2 gb2 M') ∧ (RS1 gs ga gb M'))) := by
  obtain ⟨wa, wb, hK, hR, r1, r2⟩ := h0
  have hK2 := hK
  obtain ⟨hH, hB, hN, hI, hA, hZ, hS, ⟨wn, hn, hT, hG⟩, ha, hb⟩ := hK2
  have hR2 := hR
  obtain ⟨hTB, hWD, hLN, hGK, hVT, hIM⟩ := hR2
  have hs := h2.1
  refine sOk.imp (k205 E (by omega) H s second (by omega) (by omega)) ?_
  rintro v M' ⟨v', e, rfl, -⟩
  exact ⟨v', e, H, trivial, ⟨wa, wb, hK, hR, by omega, by omega⟩, h1, h2⟩
theorem Q210 {base : Nat} {X : Nat → Option mC} {G : Nat → Value} (E : EnvOK base X G) {d : Nat} (hd : 0 ≤ d) {M : mH} (H : HI base M) (a : Int) (b : Int) (c : Int) (d_ : Int) (e : Int) (j : Int) (gs ga gb : Int) {gs2 ga2 gb2 : Int} (h0 : INVl base j M) (h1 : CS1 gs2 ga2 gb2 M) (h2 : RS1 gs ga gb M) (b_a : -2147483648 ≤ a ∧ a ≤ 2147483647) (b_b : -2147483648 ≤ b ∧ b ≤ 2147483647) (b_c : -2147483648 ≤ c ∧ c ≤ 2147483647) (b_d_ : -2147483648 ≤ d_ ∧ d_ ≤ 2147483647) (b_e : -2147483648 ≤ e ∧ e ≤ 2147483647) : sOk base X G d T210 [vR 77, vI a, vI b, vI c, vI d_, vI e] M (pI (fun v M' => HI base M' ∧ Ftr [(0, 0)] M M' ∧ (INVl base j M') ∧ (CS1 gs2 ga2 gb2 M') ∧ (RS1 (fdS gs) ga gb M') ∧ (-2147483648 ≤ v ∧ v ≤ 2147483647) ∧ (v = fdV gs))) := by
  obtain ⟨wa, wb, hK, hR, r1, r2⟩ := h0
  have hK2 := hK
  obtain ⟨hH, hB, hN, hI, hA, hZ, hS, ⟨wn, hn, hT, hG⟩, ha, hb⟩ := hK2
  have hR2 := hR
  obtain ⟨hTB, hWD, hLN, hGK, hVT, hIM⟩ := hR2
  have hs := h2.1
  refine sOk.imp (k210e E (by omega) H a b c d_ e (by omega) (by omega) (by omega) (by omega) (by omega)) ?_
  rintro v M' ⟨v', e, H', f, q0, q1, q2⟩
  have z := (f.q rfl).z
  exact ⟨v', e, H', trivial, ⟨wa, wb, hK.keep H' z rfl rfl, ⟨hTB.fr f rfl, hWD.fr f rfl, hLN.fr f rfl, hGK.fr f rfl, hVT.fr f rfl, hIM.fr f rfl⟩, by rw [f.1]; exact r1, by rw [f.2.1]; exact r2⟩, h1.fz H.m z rfl, h2.tp f rfl (by unfold fdS; split <;> omega), q0, (by unfold fdV; split <;> omega)⟩
theorem Q211 {base : Nat} {X : Nat → Option mC} {G : Nat → Value} (E : EnvOK base X G) {d : Nat} (hd : 1 ≤ d) {M : mH} (H : HI base M) (n : Int) (j : Int) (gs ga gb : Int) {gs2 ga2 gb2 : Int} (h0 : INVl base j M) (h1 : CS1 gs2 ga2 gb2 M) (h2 : RS1 gs ga gb M) (b_n : -2147483648 ≤ n ∧ n ≤ 2147483647) : sOk base X G d T211 [vR 77, vI n] M (pI (fun v M' => HI base M' ∧ Ftr [(0, 0)] M M' ∧ (INVl base j M') ∧ (CS1 gs2 ga2 gb2 M') ∧ (RS1 (enS gs n) ga gb M') ∧ (-2147483648 ≤ v ∧ v ≤ 2147483647) ∧ (v = enV gs n))) := by
  obtain ⟨wa, wb, hK, hR, r1, r2⟩ := h0
  have hK2 := hK
  obtain ⟨hH, hB, hN, hI, hA, hZ, hS, ⟨wn, hn, hT, hG⟩, ha, hb⟩ := hK2
  have hR2 := hR
  obtain ⟨hTB, hWD, hLN, hGK, hVT, hIM⟩ := hR2
  have hs := h2.1
  refine sOk.imp (k211e E (by omega) H n (by omega)) ?_
  rintro v M' ⟨v', e, H', f, q0, q1, q2⟩
  have z := (f.q rfl).z
  exact ⟨v', e, H', trivial, ⟨wa, wb, hK.keep H' z rfl rfl, ⟨hTB.fr f rfl, hWD.fr f rfl, hLN.fr f rfl, hGK.fr f rfl, hVT.fr f rfl, hIM.fr f rfl⟩, by rw [f.1]; exact r1, by rw [f.2.1]; exact r2⟩, h1.fz H.m z rfl, h2.tp f rfl (by unfold enS; split <;> omega), q0, (by unfold enV; split <;> omega)⟩
theorem Q230 {base : Nat} {X : Nat → Option mC} {G : Nat → Value} (E : EnvOK base X G) {d : Nat} (hd : 60 ≤ d) {M : mH} (H : HI base M) (j : Int) (gs ga gb : Int) {gs2 ga2 gb2 : Int} (h0 : INVl base j M) (h1 : CS1 gs2 ga2 gb2 M) (h2 : RS1 gs ga gb M) : sOk base X G d T230 [vR 77] M (pI (fun v M' => HI base M' ∧ Ftr [(0, 0)] M M' ∧ (INVl base j M') ∧ (CS1 gs2 ga2 gb2 M') ∧ (RS1 0 ga gb M'))) := by
  obtain ⟨wa, wb, hK, hR, r1, r2⟩ := h0
  have hK2 := hK
  obtain ⟨hH, hB, hN, hI, hA, hZ, hS, ⟨wn, hn, hT, hG⟩, ha, hb⟩ := hK2
  have hR2 := hR
  obtain ⟨hTB, hWD, hLN, hGK, hVT, hIM⟩ := hR2
  have hs := h2.1
  refine sOk.imp (k230e E (by omega) H  hWD hLN hGK) ?_
  rintro v M' ⟨v', e, H', f, q0, q1, q2⟩
  have z := (f.q rfl).z
  exact ⟨v', e, H', trivial, ⟨wa, wb, hK.keep H' z rfl rfl, ⟨hTB.fr f rfl, hWD.fr f rfl, q0, q1, hVT.fr f rfl, hIM.fr f rfl⟩, by rw [f.1]; exact r1, by rw [f.2.1]; exact r2⟩, h1.fz H.m z rfl, h2.tp f rfl q2⟩
theorem Q231 {base : Nat} {X : Nat → Option mC} {G : Nat → Value} (E : EnvOK base X G) {d : Nat} (hd : 0 ≤ d) {M : mH} (H : HI base M) (j : Int) (gs ga gb : Int) {gs2 ga2 gb2 : Int} (h0 : INVl base j M) (h1 : CS1 gs2 ga2 gb2 M) (h2 : RS1 gs ga gb M) : sOk base X G d T231 [vR 77] M (pI (fun v M' => HI base M' ∧ Ftr [(0, 0)] M M' ∧ (INVl base j M') ∧ (CS1 gs2 ga2 gb2 M') ∧ (RS1 gs ga gb M'))) := by
  obtain ⟨wa, wb, hK, hR, r1, r2⟩ := h0
  have hK2 := hK
  obtain ⟨hH, hB, hN, hI, hA, hZ, hS, ⟨wn, hn, hT, hG⟩, ha, hb⟩ := hK2
  have hR2 := hR
  obtain ⟨hTB, hWD, hLN, hGK, hVT, hIM⟩ := hR2
  have hs := h2.1
  refine sOk.imp (k231 E (by omega) H  ) ?_
  rintro v M' ⟨v', e, rfl, -⟩
  exact ⟨v', e, H, trivial, ⟨wa, wb, hK, hR, by omega, by omega⟩, h1, h2⟩
theorem Q248 {base : Nat} {X : Nat → Option mC} {G : Nat → Value} (E : EnvOK base X G) {d : Nat} (hd : 70 ≤ d) {M : mH} (H : HI base M) (text : Int) (s : Int) (j : Int) (gs ga gb : Int) {gs2 ga2 gb2 : Int} (h0 : INVl base j M) (h1 : CS1 gs2 ga2 gb2 M) (h2 : RS1 gs ga gb M) (b_text : -2147483648 ≤ text ∧ text ≤ 2147483647) (b_s : -2147483648 ≤ s ∧ s ≤ 2147483647) : sOk base X G d T248 [vR 77, vI text, vI s] M (pI (fun v M' => HI base M' ∧ Ftr [(0, 0)] M M' ∧ (INVl base j M') ∧ (CS1 gs2 ga2 gb2 M') ∧ (RS1 gs ga gb M'))) := by
  obtain ⟨wa, wb, hK, hR, r1, r2⟩ := h0
  have hK2 := hK
  obtain ⟨hH, hB, hN, hI, hA, hZ, hS, ⟨wn, hn, hT, hG⟩, ha, hb⟩ := hK2
  have hR2 := hR
  obtain ⟨hTB, hWD, hLN, hGK, hVT, hIM⟩ := hR2
  have hs := h2.1
  refine sOk.imp (k248k E (by omega) H text s (gi M 78) hTB (fun _ => rfl) hGK (by omega) (by omega)) ?_
  rintro v M' ⟨v', e, H', f, q0⟩
  have z := (f.q rfl).z
  exact ⟨v', e, H', trivial, ⟨wa, wb, hK.keep H' z rfl rfl, ⟨hTB.fr f rfl, hWD.fr f rfl, hLN.fr f rfl, hGK.fr f rfl, hVT.fr f rfl, hIM.fr f rfl⟩, by rw [f.1]; exact r1, by rw [f.2.1]; exact r2⟩, h1.fz H.m z rfl, h2.fr f rfl⟩
theorem Q249 {base : Nat} {X : Nat → Option mC} {G : Nat → Value} (E : EnvOK base X G) {d : Nat} (hd : 1 ≤ d) {M : mH} (H : HI base M) (second : Int) (j : Int) (gs ga gb : Int) {gs2 ga2 gb2 : Int} (h0 : INVl base j M) (h1 : CS1 gs2 ga2 gb2 M) (h2 : RS1 gs ga gb M) (b_second : -2147483648 ≤ second ∧ second ≤ 2147483647) : sOk base X G d T249 [vR 77, vI second] M (pI (fun v M' => HI base M' ∧ Ftr [(0, 0)] M M' ∧ (INVl base j M') ∧ (CS1 gs2 ga2 gb2 M') ∧ (RS1 gs ga gb M'))) := by
  obtain ⟨wa, wb, hK, hR, r1, r2⟩ := h0
  have hK2 := hK
  obtain ⟨hH, hB, hN, hI, hA, hZ, hS, ⟨wn, hn, hT, hG⟩, ha, hb⟩ := hK2
  have hR2 := hR
  obtain ⟨hTB, hWD, hLN, hGK, hVT, hIM⟩ := hR2
  have hs := h2.1
  refine sOk.imp (k249 E (by omega) H second (by omega)) ?_
  rintro v M' ⟨v', e, rfl, -⟩
  exact ⟨v', e, H, trivial, ⟨wa, wb, hK, hR, by omega, by omega⟩, h1, h2⟩
theorem Q250 {base : Nat} {X : Nat → Option mC} {G : Nat → Value} (E : EnvOK base X G) {d : Nat} (hd : 70 ≤ d) {M : mH} (H : HI base M) (text : Int) (j : Int) (gs ga gb : Int) {gs2 ga2 gb2 : Int} (h0 : INVl base j M) (h1 : CS1 gs2 ga2 gb2 M) (h2 : RS1 gs ga gb M) (b_text : -2147483648 ≤ text ∧ text ≤ 2147483647) : sOk base X G d T250 [vR 77, vI text] M (pL (fun v M' => HI base M' ∧ Ftr [(0, 0)] M M' ∧ (INVl base j M') ∧ (CS1 gs2 ga2 gb2 M') ∧ (RS1 gs ga gb M'))) := by
  obtain ⟨wa, wb, hK, hR, r1, r2⟩ := h0
  have hK2 := hK
  obtain ⟨hH, hB, hN, hI, hA, hZ, hS, ⟨wn, hn, hT, hG⟩, ha, hb⟩ := hK2
  have hR2 := hR
  obtain ⟨hTB, hWD, hLN, hGK, hVT, hIM⟩ := hR2
  have hs := h2.1
  refine sOk.imp (k250k E (by omega) H text (gi M 78) hTB (fun _ => rfl) hGK (by omega)) ?_
  rintro v M' ⟨v', e, H', f⟩
  have z := (f.q rfl).z
  exact ⟨v', e, H', trivial, ⟨wa, wb, hK.keep H' z rfl rfl, ⟨hTB.fr f rfl, hWD.fr f rfl, hLN.fr f rfl, hGK.fr f rfl, hVT.fr f rfl, hIM.fr f rfl⟩, by rw [f.1]; exact r1, by rw [f.2.1]; exact r2⟩, h1.fz H.m z rfl, h2.fr f rfl⟩
theorem Q206 {base : Nat} {X : Nat → Option mC} {G : Nat → Value} (E : EnvOK base X G) {d : Nat} (hd : 7 ≤ d) {M : mH} (H : HI base M) (j : Int) (gs ga gb : Int) {gs2 ga2 gb2 : Int} (h0 : INVl base j M) (h1 : CS1 gs2 ga2 gb2 M) (h2 : RS1 gs ga gb M) : sOk base X G d T206 [vR 77] M (pL (fun v M' => HI base M' ∧ Ftr [(0, 0)] M M' ∧ (INVl base j M') ∧ (CS1 gs2 ga2 gb2 M') ∧ (RS1 gs ga gb M'))) := by
  obtain ⟨wa, wb, hK, hR, r1, r2⟩ := h0
  have hK2 := hK
  obtain ⟨hH, hB, hN, hI, hA, hZ, hS, ⟨wn, hn, hT, hG⟩, ha, hb⟩ := hK2
  have hR2 := hR
  obtain ⟨hTB, hWD, hLN, hGK, hVT, hIM⟩ := hR2
  have hs := h2.1
  refine sOk.imp (k206k E (by omega) H  hTB hLN hVT) ?_
  rintro v M' ⟨v', e, H', f, q0⟩
  have z := (f.q rfl).z
  exact ⟨v', e, H', trivial, ⟨wa, wb, hK.keep H' z rfl rfl, ⟨hTB.fr f rfl, hWD.fr f rfl, hLN.fr f rfl, hGK.fr f rfl, q0, hIM.fr f rfl⟩, by rw [f.1]; exact r1, by rw [f.2.1]; exact r2⟩, h1.fz H.m z rfl, h2.fr f rfl⟩
theorem Q209 {base : Nat} {X : Nat → Option mC} {G : Nat → Value} (E : EnvOK base X G) {d : Nat} (hd : 8 ≤ d) {M : mH} (H : HI base M) (w : Int) (j : Int) (gs ga gb : Int) {gs2 ga2 gb2 : Int} (h0 : INVl base j M) (h1 : CS1 gs2 ga2 gb2 M) (h2 : RS1 gs ga gb M) (b_w : -2147483648 ≤ w ∧ w ≤ 2147483647) : sOk base X G d T209 [vR 77, vI w] M (pL (fun v M' => HI base M' ∧ Ftr [(0, 0)] M M' ∧ (INVl base j M') ∧ (CS1 gs2 ga2 gb2 M') ∧ (RS1 gs ga gb M'))) := by
  obtain ⟨wa, wb, hK, hR, r1, r2⟩ := h0
  have hK2 := hK
  obtain ⟨hH, hB, hN, hI, hA, hZ, hS, ⟨wn, hn, hT, hG⟩, ha, hb⟩ := hK2
  have hR2 := hR
  obtain ⟨hTB, hWD, hLN, hGK, hVT, hIM⟩ := hR2
  have hs := h2.1
  refine sOk.imp (k209k E (by omega) H w hTB hLN hVT hGK (by omega)) ?_
  rintro v M' ⟨v', e, H', f, q0, q1, q2⟩
  have z := (f.q rfl).z
  exact ⟨v', e, H', trivial, ⟨wa, wb, hK.keep H' z rfl rfl, ⟨hTB.fr f rfl, hWD.fr f rfl, q0, q2, q1, hIM.fr f rfl⟩, by rw [f.1]; exact r1, by rw [f.2.1]; exact r2⟩, h1.fz H.m z rfl, h2.fr f rfl⟩
theorem Q251 {base : Nat} {X : Nat → Option mC} {G : Nat → Value} (E : EnvOK base X G) {d : Nat} (hd : 1 ≤ d) {M : mH} (H : HI base M) (lag : Int) (keeps0 : Int) (limit : Int) (j : Int) (gs ga gb : Int) {gs2 ga2 gb2 : Int} (h0 : INVl base j M) (h1 : CS1 gs2 ga2 gb2 M) (h2 : RS1 gs ga gb M) (b_lag : -2147483648 ≤ lag ∧ lag ≤ 2147483647) (b_keeps0 : -2147483648 ≤ keeps0 ∧ keeps0 ≤ 2147483647) (b_limit : -2147483648 ≤ limit ∧ limit ≤ 2147483647) : sOk base X G d T251 [vR 77, vI lag, vI keeps0, vI limit] M (pI (fun v M' => HI base M' ∧ Ftr [(0, 0)] M M' ∧ (INVl base j M') ∧ (CS1 gs2 ga2 gb2 M') ∧ (RS1 gs ga gb M'))) := by
  obtain ⟨wa, wb, hK, hR, r1, r2⟩ := h0
  have hK2 := hK
  obtain ⟨hH, hB, hN, hI, hA, hZ, hS, ⟨wn, hn, hT, hG⟩, ha, hb⟩ := hK2
  have hR2 := hR
  obtain ⟨hTB, hWD, hLN, hGK, hVT, hIM⟩ := hR2
  have hs := h2.1
  refine sOk.imp (k251k E (by omega) H lag keeps0 limit hLN hGK (by omega) (by omega) (by omega)) ?_
  rintro v M' ⟨v', e, H', f, q0, q1⟩
  have z := (f.q rfl).z
  exact ⟨v', e, H', trivial, ⟨wa, wb, hK.keep H' z rfl rfl, ⟨hTB.fr f rfl, hWD.fr f rfl, q0, q1, hVT.fr f rfl, hIM.fr f rfl⟩, by rw [f.1]; exact r1, by rw [f.2.1]; exact r2⟩, h1.fz H.m z rfl, h2.fr f rfl⟩
theorem Q254 {base : Nat} {X : Nat → Option mC} {G : Nat → Value} (E : EnvOK base X G) {d : Nat} (hd : 1 ≤ d) {M : mH} (H : HI base M) (j : Int) (gs ga gb : Int) {gs2 ga2 gb2 : Int} (h0 : INVl base j M) (h1 : CS1 gs2 ga2 gb2 M) (h2 : RS1 gs ga gb M) : sOk base X G d T254 [vR 77] M (pI (fun v M' => HI base M' ∧ Ftr [(0, 0)] M M' ∧ (INVl base j M') ∧ (CS1 gs2 ga2 gb2 M') ∧ (RS1 gs ga gb M'))) := by
  obtain ⟨wa, wb, hK, hR, r1, r2⟩ := h0
  have hK2 := hK
  obtain ⟨hH, hB, hN, hI, hA, hZ, hS, ⟨wn, hn, hT, hG⟩, ha, hb⟩ := hK2
  have hR2 := hR
  obtain ⟨hTB, hWD, hLN, hGK, hVT, hIM⟩ := hR2
  have hs := h2.1
  refine sOk.imp (k254x E (by omega) H  ) ?_
  rintro v M' ⟨v', e, H', f⟩
  have z := (f.q rfl).z
  exact ⟨v', e, H', trivial, ⟨wa, wb, hK.keep H' z rfl rfl, ⟨hTB.fr f rfl, hWD.fr f rfl, hLN.fr f rfl, hGK.fr f rfl, hVT.fr f rfl, hIM.fr f rfl⟩, by rw [f.1]; exact r1, by rw [f.2.1]; exact r2⟩, h1.fz H.m z rfl, h2.fr f rfl⟩
theorem Q255 {base : Nat} {X : Nat → Option mC} {G : Nat → Value} (E : EnvOK base X G) {d : Nat} (hd : 1 ≤ d) {M : mH} (H : HI base M) (i : Int) (j : Int) (gs ga gb : Int) {gs2 ga2 gb2 : Int} (h0 : INVl base j M) (h1 : CS1 gs2 ga2 gb2 M) (h2 : RS1 gs ga gb M) (b_i : -2147483648 ≤ i ∧ i ≤ 2147483647) : sOk base X G d T255 [vR 77, vI i] M (pI (fun v M' => HI base M' ∧ Ftr [(0, 0)] M M' ∧ (INVl base j M') ∧ (CS1 gs2 ga2 gb2 M') ∧ (RS1 gs ga gb M'))) := by
  obtain ⟨wa, wb, hK, hR, r1, r2⟩ := h0
  have hK2 := hK
  obtain ⟨hH, hB, hN, hI, hA, hZ, hS, ⟨wn, hn, hT, hG⟩, ha, hb⟩ := hK2
  have hR2 := hR
  obtain ⟨hTB, hWD, hLN, hGK, hVT, hIM⟩ := hR2
  have hs := h2.1
  refine sOk.imp (k255 E (by omega) H i (by omega)) ?_
  rintro v M' ⟨v', e, rfl, -⟩
  exact ⟨v', e, H, trivial, ⟨wa, wb, hK, hR, by omega, by omega⟩, h1, h2⟩
theorem Q256 {base : Nat} {X : Nat → Option mC} {G : Nat → Value} (E : EnvOK base X G) {d : Nat} (hd : 1 ≤ d) {M : mH} (H : HI base M) (minute : Int) (cost : Int) (j : Int) (gs ga gb : Int) {gs2 ga2 gb2 : Int} (h0 : INVl base j M) (h1 : CS1 gs2 ga2 gb2 M) (h2 : RS1 gs ga gb M) (b_minute : -2147483648 ≤ minute ∧ minute ≤ 2147483647) (b_cost : -2147483648 ≤ cost ∧ cost ≤ 2147483647) : sOk base X G d T256 [vR 77, vI minute, vI cost] M (pI (fun v M' => HI base M' ∧ Ftr [(0, 0)] M M' ∧ (INVl base j M') ∧ (CS1 gs2 ga2 gb2 M') ∧ (RS1 gs ga gb M'))) := by
  obtain ⟨wa, wb, hK, hR, r1, r2⟩ := h0
  have hK2 := hK
  obtain ⟨hH, hB, hN, hI, hA, hZ, hS, ⟨wn, hn, hT, hG⟩, ha, hb⟩ := hK2
  have hR2 := hR
  obtain ⟨hTB, hWD, hLN, hGK, hVT, hIM⟩ := hR2
  have hs := h2.1
  refine sOk.imp (k256k E (by omega) H minute cost hLN hGK (by omega) (by omega)) ?_
  rintro v M' ⟨v', e, H', f, q0, q1⟩
  have z := (f.q rfl).z
  exact ⟨v', e, H', trivial, ⟨wa, wb, hK.keep H' z rfl rfl, ⟨hTB.fr f rfl, hWD.fr f rfl, q0, q1, hVT.fr f rfl, hIM.fr f rfl⟩, by rw [f.1]; exact r1, by rw [f.2.1]; exact r2⟩, h1.fz H.m z rfl, h2.fr f rfl⟩
theorem Q257 {base : Nat} {X : Nat → Option mC} {G : Nat → Value} (E : EnvOK base X G) {d : Nat} (hd : 1 ≤ d) {M : mH} (H : HI base M) (minutes : Int) (j : Int) (gs ga gb : Int) {gs2 ga2 gb2 : Int} (h0 : INVl base j M) (h1 : CS1 gs2 ga2 gb2 M) (h2 : RS1 gs ga gb M) (b_minutes : -2147483648 ≤ minutes ∧ minutes ≤ 2147483647) : sOk base X G d T257 [vR 77, vI minutes] M (pI (fun v M' => HI base M' ∧ Ftr [(0, 0)] M M' ∧ (INVl base j M') ∧ (CS1 gs2 ga2 gb2 M') ∧ (RS1 gs ga gb M'))) := by
  obtain ⟨wa, wb, hK, hR, r1, r2⟩ := h0
  have hK2 := hK
  obtain ⟨hH, hB, hN, hI, hA, hZ, hS, ⟨wn, hn, hT, hG⟩, ha, hb⟩ := hK2
  have hR2 := hR
  obtain ⟨hTB, hWD, hLN, hGK, hVT, hIM⟩ := hR2
  have hs := h2.1
  refine sOk.imp (k257x E (by omega) H minutes (by omega)) ?_
  rintro v M' ⟨v', e, H', f⟩
  have z := (f.q rfl).z
  exact ⟨v', e, H', trivial, ⟨wa, wb, hK.keep H' z rfl rfl, ⟨hTB.fr f rfl, hWD.fr f rfl, hLN.fr f rfl, hGK.fr f rfl, hVT.fr f rfl, hIM.fr f rfl⟩, by rw [f.1]; exact r1, by rw [f.2.1]; exact r2⟩, h1.fz H.m z rfl, h2.fr f rfl⟩
theorem Q258 {base : Nat} {X : Nat → Option mC} {G : Nat → Value} (E : EnvOK base X G) {d : Nat} (hd : 1 ≤ d) {M : mH} (H : HI base M) (i : Int) (j : Int) (gs ga gb : Int) {gs2 ga2 gb2 : Int} (h0 : INVl base j M) (h1 : CS1 gs2 ga2 gb2 M) (h2 : RS1 gs ga gb M) (b_i : -2147483648 ≤ i ∧ i ≤ 2147483647) : sOk base X G d T258 [vR 77, vI i] M (pI (fun v M' => HI base M' ∧ Ftr [(0, 0)] M M' ∧ (INVl base j M') ∧ (CS1 gs2 ga2 gb2 M') ∧ (RS1 gs ga gb M'))) := by
  obtain ⟨wa, wb, hK, hR, r1, r2⟩ := h0
  have hK2 := hK
  obtain ⟨hH, hB, hN, hI, hA, hZ, hS, ⟨wn, hn, hT, hG⟩, ha, hb⟩ := hK2
  have hR2 := hR
  obtain ⟨hTB, hWD, hLN, hGK, hVT, hIM⟩ := hR2
  have hs := h2.1
  refine sOk.imp (k258 E (by omega) H i (by omega)) ?_
  rintro v M' ⟨v', e, rfl, -⟩
  exact ⟨v', e, H, trivial, ⟨wa, wb, hK, hR, by omega, by omega⟩, h1, h2⟩
theorem Q260 {base : Nat} {X : Nat → Option mC} {G : Nat → Value} (E : EnvOK base X G) {d : Nat} (hd : 2 ≤ d) {M : mH} (H : HI base M) (minutes : Int) (what : Int) (j : Int) (gs ga gb : Int) {gs2 ga2 gb2 : Int} (h0 : INVl base j M) (h1 : CS1 gs2 ga2 gb2 M) (h2 : RS1 gs ga gb M) (b_minutes : -2147483648 ≤ minutes ∧ minutes ≤ 2147483647) (b_what : -2147483648 ≤ what ∧ what ≤ 2147483647) : sOk base X G d T260 [vR 77, vI minutes, vI what] M (pI (fun v M' => HI base M' ∧ Ftr [(0, 0)] M M' ∧ (INVl base j M') ∧ (CS1 gs2 ga2 gb2 M') ∧ (RS1 gs ga gb M'))) := by
  obtain ⟨wa, wb, hK, hR, r1, r2⟩ := h0
  have hK2 := hK
  obtain ⟨hH, hB, hN, hI, hA, hZ, hS, ⟨wn, hn, hT, hG⟩, ha, hb⟩ := hK2
  have hR2 := hR
  obtain ⟨hTB, hWD, hLN, hGK, hVT, hIM⟩ := hR2
  have hs := h2.1
  refine sOk.imp (k260 E (by omega) H minutes what (by omega) (by omega)) ?_
  rintro v M' ⟨v', e, H', f⟩
  have z := (f.q rfl).z
  exact ⟨v', e, H', trivial, ⟨wa, wb, hK.keep H' z rfl rfl, ⟨hTB.fr f rfl, hWD.fr f rfl, hLN.fr f rfl, hGK.fr f rfl, hVT.fr f rfl, hIM.fr f rfl⟩, by rw [f.1]; exact r1, by rw [f.2.1]; exact r2⟩, h1.fz H.m z rfl, h2.fr f rfl⟩
theorem Q261 {base : Nat} {X : Nat → Option mC} {G : Nat → Value} (E : EnvOK base X G) {d : Nat} (hd : 70 ≤ d) {M : mH} (H : HI base M) (text : Int) (s : Int) (slot : Int) (meant : Int) (third : Int) (j : Int) (gs ga gb : Int) {gs2 ga2 gb2 : Int} (h0 : INVl base j M) (h1 : CS1 gs2 ga2 gb2 M) (h2 : RS1 gs ga gb M) (b_text : -2147483648 ≤ text ∧ text ≤ 2147483647) (b_s : -2147483648 ≤ s ∧ s ≤ 2147483647) (b_slot : -2147483648 ≤ slot ∧ slot ≤ 2147483647) (b_meant : -2147483648 ≤ meant ∧ meant ≤ 2147483647) (b_third : -2147483648 ≤ third ∧ third ≤ 2147483647) : sOk base X G d T261 [vR 77, vI text, vI s, vI slot, vI meant, vI third] M (pI (fun v M' => HI base M' ∧ Ftr [(0, 0)] M M' ∧ (INVl base j M') ∧ (CS1 gs2 ga2 gb2 M') ∧ (RS1 gs ga gb M'))) := by
  obtain ⟨wa, wb, hK, hR, r1, r2⟩ := h0
  have hK2 := hK
  obtain ⟨hH, hB, hN, hI, hA, hZ, hS, ⟨wn, hn, hT, hG⟩, ha, hb⟩ := hK2
  have hR2 := hR
  obtain ⟨hTB, hWD, hLN, hGK, hVT, hIM⟩ := hR2
  have hs := h2.1
  refine sOk.imp (k261k E (by omega) H text s slot meant third (gi M 78) hTB (fun _ => rfl) hGK (by omega) (by omega) (by omega) (by omega) (by omega)) ?_
  rintro v M' ⟨v', e, H', f⟩
  have z := (f.q rfl).z
  exact ⟨v', e, H', trivial, ⟨wa, wb, hK.keep H' z rfl rfl, ⟨hTB.fr f rfl, hWD.fr f rfl, hLN.fr f rfl, hGK.fr f rfl, hVT.fr f rfl, hIM.fr f rfl⟩, by rw [f.1]; exact r1, by rw [f.2.1]; exact r2⟩, h1.fz H.m z rfl, h2.fr f rfl⟩
theorem Q262 {base : Nat} {X : Nat → Option mC} {G : Nat → Value} (E : EnvOK base X G) {d : Nat} (hd : 70 ≤ d) {M : mH} (H : HI base M) (s : Int) (j : Int) (gs ga gb : Int) {gs2 ga2 gb2 : Int} (h0 : INVl base j M) (h1 : CS1 gs2 ga2 gb2 M) (h2 : RS1 gs ga gb M) (b_s : -2147483648 ≤ s ∧ s ≤ 2147483647) : sOk base X G d T262 [vR 77, vI s] M (pI (fun v M' => HI base M' ∧ Ftr [(0, 0)] M M' ∧ (INVl base j M') ∧ (CS1 gs2 ga2 gb2 M') ∧ (RS1 0 ga gb M'))) := by
  obtain ⟨wa, wb, hK, hR, r1, r2⟩ := h0
  have hK2 := hK
  obtain ⟨hH, hB, hN, hI, hA, hZ, hS, ⟨wn, hn, hT, hG⟩, ha, hb⟩ := hK2
  have hR2 := hR
  obtain ⟨hTB, hWD, hLN, hGK, hVT, hIM⟩ := hR2
  have hs := h2.1
  refine sOk.imp (k262e E (by omega) H s (gi M 78) hTB (fun _ => rfl) hGK (by omega)) ?_
  rintro v M' ⟨v', e, H', f, q0, q1⟩
  have z := (f.q rfl).z
  exact ⟨v', e, H', trivial, ⟨wa, wb, hK.keep H' z rfl rfl, ⟨hTB.fr f rfl, hWD.fr f rfl, hLN.fr f rfl, hGK.fr f rfl, hVT.fr f rfl, hIM.fr f rfl⟩, by rw [f.1]; exact r1, by rw [f.2.1]; exact r2⟩, h1.fz H.m z rfl, h2.tp f rfl q1⟩
theorem Q264 {base : Nat} {X : Nat → Option mC} {G : Nat → Value} (E : EnvOK base X G) {d : Nat} (hd : 70 ≤ d) {M : mH} (H : HI base M) (what : Int) (j : Int) (gs ga gb : Int) {gs2 ga2 gb2 : Int} (h0 : INVl base j M) (h1 : CS1 gs2 ga2 gb2 M) (h2 : RS1 gs ga gb M) (b_what : -2147483648 ≤ what ∧ what ≤ 2147483647) : sOk base X G d T264 [vR 77, vI what] M (pI (fun v M' => HI base M' ∧ Ftr [(0, 0)] M M' ∧ (INVl base j M') ∧ (CS1 gs2 ga2 gb2 M') ∧ (RS1 gs ga gb M'))) := by
  obtain ⟨wa, wb, hK, hR, r1, r2⟩ := h0
  have hK2 := hK
  obtain ⟨hH, hB, hN, hI, hA, hZ, hS, ⟨wn, hn, hT, hG⟩, ha, hb⟩ := hK2
  have hR2 := hR
  obtain ⟨hTB, hWD, hLN, hGK, hVT, hIM⟩ := hR2
  have hs := h2.1
  refine sOk.imp (k264k E (by omega) H what (gi M 78) hTB (fun _ => rfl) hGK (by omega)) ?_
  rintro v M' ⟨v', e, H', f, q0⟩
  have z := (f.q rfl).z
  exact ⟨v', e, H', trivial, ⟨wa, wb, hK.keep H' z rfl rfl, ⟨hTB.fr f rfl, hWD.fr f rfl, hLN.fr f rfl, hGK.fr f rfl, hVT.fr f rfl, hIM.fr f rfl⟩, by rw [f.1]; exact r1, by rw [f.2.1]; exact r2⟩, h1.fz H.m z rfl, h2.fr f rfl⟩
theorem Q151 {base : Nat} {X : Nat → Option mC} {G : Nat → Value} (E : EnvOK base X G) {d : Nat} (hd : 1 ≤ d) {M : mH} (H : HI base M) (k : Int) (j : Int) (gs ga gb : Int) {gs2 ga2 gb2 : Int} (h0 : INVl base j M) (h1 : CS1 gs2 ga2 gb2 M) (h2 : RS1 gs ga gb M) (b_k : -2147483648 ≤ k ∧ k ≤ 2147483647) : sOk base X G d T151 [vR 77, vI k] M (pI (fun v M' => HI base M' ∧ Ftr [(0, 0)] M M' ∧ (INVl base j M') ∧ (CS1 gs2 ga2 gb2 M') ∧ (RS1 gs (imA 0 k ga) (imA 1 k gb) M') ∧ (-2147483648 ≤ v ∧ v ≤ 2147483647) ∧ (v = imV k))) := by
  obtain ⟨wa, wb, hK, hR, r1, r2⟩ := h0
  have hK2 := hK
  obtain ⟨hH, hB, hN, hI, hA, hZ, hS, ⟨wn, hn, hT, hG⟩, ha, hb⟩ := hK2
  have hR2 := hR
  obtain ⟨hTB, hWD, hLN, hGK, hVT, hIM⟩ := hR2
  have hs := h2.1
  refine sOk.imp (k151e E (by omega) H k (by omega) hLN hGK hIM) ?_
  rintro v M' ⟨v', e, H', f, q0, q1, q2, q3, q4, q5, q6, q7⟩
  have z := (f.q rfl).z
  have vv := imV.of q3 q4
  exact ⟨v', e, H', trivial, ⟨wa, wb, hK.keep H' z rfl rfl, ⟨hTB.fr f rfl, hWD.fr f rfl, q0, q1, hVT.fr f rfl, q2⟩, by rw [f.1]; exact r1, by rw [f.2.1]; exact r2⟩, h1.fz H.m z rfl, h2.img (f.g rfl) q5 q6, (by rw [vv]; unfold imV; split <;> omega), vv⟩
theorem Q152 {base : Nat} {X : Nat → Option mC} {G : Nat → Value} (E : EnvOK base X G) {d : Nat} (hd : 1 ≤ d) {M : mH} (H : HI base M) (k : Int) (j : Int) (gs ga gb : Int) {gs2 ga2 gb2 : Int} (h0 : INVl base j M) (h1 : CS1 gs2 ga2 gb2 M) (h2 : RS1 gs ga gb M) (b_k : -2147483648 ≤ k ∧ k ≤ 2147483647) : sOk base X G d T152 [vR 77, vI k] M (pI (fun v M' => HI base M' ∧ Ftr [(0, 0)] M M' ∧ (INVl base j M') ∧ (CS1 gs2 ga2 gb2 M') ∧ (RS1 gs ga gb M') ∧ (-2147483648 ≤ v ∧ v ≤ 2147483647) ∧ (v = bkV k ga gb))) := by
  obtain ⟨wa, wb, hK, hR, r1, r2⟩ := h0
  have hK2 := hK
  obtain ⟨hH, hB, hN, hI, hA, hZ, hS, ⟨wn, hn, hT, hG⟩, ha, hb⟩ := hK2
  have hR2 := hR
  obtain ⟨hTB, hWD, hLN, hGK, hVT, hIM⟩ := hR2
  have hs := h2.1
  refine sOk.imp (k152e E (by omega) H k (by omega) hLN hGK hIM) ?_
  rintro v M' ⟨v', e, H', f, q0, q1, q2, q3, q4, q5⟩
  have z := (f.q rfl).z
  have bb := h2.bits H
  have vv := bkV.rf h2 bb.1 bb.2 q3 q4 q5
  exact ⟨v', e, H', trivial, ⟨wa, wb, hK.keep H' z rfl rfl, ⟨hTB.fr f rfl, hWD.fr f rfl, q0, q1, hVT.fr f rfl, hIM.fr f rfl⟩, by rw [f.1]; exact r1, by rw [f.2.1]; exact r2⟩, h1.fz H.m z rfl, h2.fr f rfl, q2, vv⟩
theorem Q265 {base : Nat} {X : Nat → Option mC} {G : Nat → Value} (E : EnvOK base X G) {d : Nat} (hd : 0 ≤ d) {M : mH} (H : HI base M) (what : Int) (j : Int) (gs ga gb : Int) {gs2 ga2 gb2 : Int} (h0 : INVl base j M) (h1 : CS1 gs2 ga2 gb2 M) (h2 : RS1 gs ga gb M) (b_what : -2147483648 ≤ what ∧ what ≤ 2147483647) : sOk base X G d T265 [vR 77, vI what] M (pI (fun v M' => HI base M' ∧ Ftr [(0, 0)] M M' ∧ (INVl base j M') ∧ (CS1 gs2 ga2 gb2 M') ∧ (RS1 gs ga gb M'))) := by
  obtain ⟨wa, wb, hK, hR, r1, r2⟩ := h0
  have hK2 := hK
  obtain ⟨hH, hB, hN, hI, hA, hZ, hS, ⟨wn, hn, hT, hG⟩, ha, hb⟩ := hK2
  have hR2 := hR
  obtain ⟨hTB, hWD, hLN, hGK, hVT, hIM⟩ := hR2
  have hs := h2.1
  refine sOk.imp (k265 E (by omega) H what (by omega)) ?_
  rintro v M' ⟨v', e, rfl, -⟩
  exact ⟨v', e, H, trivial, ⟨wa, wb, hK, hR, by omega, by omega⟩, h1, h2⟩
theorem Q266 {base : Nat} {X : Nat → Option mC} {G : Nat → Value} (E : EnvOK base X G) {d : Nat} (hd : 0 ≤ d) {M : mH} (H : HI base M) (j : Int) (gs ga gb : Int) {gs2 ga2 gb2 : Int} (h0 : INVl base j M) (h1 : CS1 gs2 ga2 gb2 M) (h2 : RS1 gs ga gb M) : sOk base X G d T266 [vR 77] M (pI (fun v M' => HI base M' ∧ Ftr [(0, 0)] M M' ∧ (INVl base j M') ∧ (CS1 gs2 ga2 gb2 M') ∧ (RS1 gs ga gb M'))) := by
  obtain ⟨wa, wb, hK, hR, r1, r2⟩ := h0
  have hK2 := hK
  obtain ⟨hH, hB, hN, hI, hA, hZ, hS, ⟨wn, hn, hT, hG⟩, ha, hb⟩ := hK2
  have hR2 := hR
  obtain ⟨hTB, hWD, hLN, hGK, hVT, hIM⟩ := hR2
  have hs := h2.1
  refine sOk.imp (k266 E (by omega) H  ) ?_
  rintro v M' ⟨v', e, rfl, -⟩
  exact ⟨v', e, H, trivial, ⟨wa, wb, hK, hR, by omega, by omega⟩, h1, h2⟩
