/-! Arrays are written, cells are made. -/
section
variable {p : Program} {l : Launch} {e : Env} {R : Room} {s : State} {m : MethodId} {args : Array Value} {below : List Frame} {meth : Method} {c : Code} {H : Heap} {locs : List Loc} {cells slots : Nat} {Q : State → Prop}
variable {cc : ByteArray} {o pc : Nat} {ls : Array Slot} {rest : List Value} {M : mH} {base : Nat} {X : Nat → Option mC} {G : Nat → Value} {D : va_G}
/-- an array that was made, and what it is behind a write -/
theorem m_arrW (hW : m_Wd D base s H M locs) {a : Nat} {x : mC} (ha : m_own base M a = some x) (hk : 1000 ≤ x.1) : ∃ cA : ClassId, H[a]? = some (arrV cA x.2.1 x.2.2) ∧ m_RA s cA (m_ty (x.1 - 1000)) ∧
    ∀ (H' : Heap) (i : Nat) (w : Value) (L : List Loc), fits (m_ty (x.1 - 1000)) w = true → H'[a]? = some ((arrV cA x.2.1 x.2.2).setSlot i w) → H'.size = H.size → (∀ q, q ≠ a → H'[q]? = H[q]?) → (∀ q ∈ L, q.base = a) → m_Wd D base s H' (m_put base M a (x.1, x.2.1, updV x.2.2 i w)) (locs ++ L) := by
  rcases hW.at ha with ⟨h0, -⟩ | ⟨h0, cA, h1, h2, h3⟩
  · omega
  · refine ⟨cA, h1, h2, fun H' i w L hw e1 e2 e3 hL => hW.put ha e2 e3 (Or.inr ⟨h0, cA, ?_, h2, fun j hj => ?_⟩) hL⟩
    · rw [e1, arrV_store]
    · show fits _ (updV x.2.2 i w j) = true
      unfold updV
      split
      · exact hw
      · exact h3 j hj
theorem m_notin {cA : ClassId} {n : Nat} {f : Nat → Value} {i : Int32} (h : m_in i n = true) : ¬ (i < 0 ∨ (arrV cA n f).slots.size ≤ i.toNatClampNeg) := by
  rw [arrV_size]
  obtain ⟨h1, h2⟩ := m_in_ok h
  rintro (q | q)
  · exact h1 q
  · omega
theorem m_fit_z (x : Int32) : fits .boolean (narrow .boolean (.int x)) = true := by
  have h : x &&& 1 = 0 ∨ x &&& 1 = 1 := by
    obtain ⟨j, hj, e⟩ := pk_andE x (m := 1) 1 (by decide)
    have : j = 0 ∨ j = 1 := by omega
    rcases this with rfl | rfl
    · left; rw [e]; rfl
    · right; rw [e]; rfl
  show fits .boolean (.int (x &&& 1)) = true
  rcases h with h | h <;> rw [h] <;> rfl
theorem m_fit_b (x : Int32) : fits .byte (narrow .byte (.int x)) = true := pk_fb x
set_option maxHeartbeats 1000000 in
theorem m_okStore (hx : p.tables.exec = Jvm.exec) (hb : c.code = cc) (hE : m_E base X G D s s.heap) (hW : m_Wd D base s H M locs) {ins : Instr} {kd : Nat → Bool} {v w : Value} {i : Int32} {a : Nat} {x : mC} (hins : (ins = .iastore ∧ kd = (fun k => k == 1000)) ∨ (ins = .lastore ∧ kd = (fun k => k == 1001)) ∨ (ins = .bastore ∧ kd = (fun k => k == 1002 || k == 1003)) ∨ (ins = .aastore ∧ kd = (fun k => decide (1005 ≤ k)))) (ha : m_own base M a = some x) (hok : m_okA base M x.1 v = some w) (hkd : kd x.1 = true) (hi : m_in i x.2.1 = true) (hd : decode cc pc = .ok (ins, 1))
    (kk : ∀ (H' : Heap) (locs' : List Loc), m_Wd D base s H' (m_put base M a (x.1, x.2.1, updV x.2.2 i.toNatClampNeg w)) locs' → W p l e R s m args below meth c H' locs' cells slots Q (F0 m (pc + 1) ls rest)) : W p l e R s m args below meth c H locs cells slots Q (F0 m pc ls (v :: .int i :: .ref a :: rest)) := by
  have one : ∀ {j : Nat}, ∀ q ∈ [(⟨a, j⟩ : Loc)], q.base = a := fun q hq => by rw [List.mem_singleton.mp hq]
  rcases hins with ⟨rfl, rfl⟩ | ⟨rfl, rfl⟩ | ⟨rfl, rfl⟩ | ⟨rfl, rfl⟩
  · have hk : x.1 = 1000 := by simpa using hkd
    obtain ⟨cA, h1, h2, h3⟩ := m_arrW hW ha (by omega)
    rw [hk] at hok h2 h3
    unfold m_okA at hok
    cases v <;> cases hok
    exact W.iast hx hb h1 (h2.1 _ _) (fun q => by cases q) (m_notin hi) rfl rfl hd fun H' e1 e2 e3 => kk H' _ (by rw [hk]; exact h3 H' _ _ _ rfl e1 e2 e3 one)
  · have hk : x.1 = 1001 := by simpa using hkd
    obtain ⟨cA, h1, h2, h3⟩ := m_arrW hW ha (by omega)
    rw [hk] at hok h2 h3
    unfold m_okA at hok
    cases v <;> cases hok
    exact W.last hx hb h1 (h2.1 _ _) (fun q => by cases q) (m_notin hi) rfl rfl hd fun H' e1 e2 e3 => kk H' _ (by rw [hk]; exact h3 H' _ _ _ rfl e1 e2 e3 one)
  · have hk : x.1 = 1002 ∨ x.1 = 1003 := by simpa using hkd
    obtain ⟨cA, h1, h2, h3⟩ := m_arrW hW ha (by omega)
    rcases hk with hk | hk
    · rw [hk] at hok h2 h3
      unfold m_okA at hok
      cases v <;> cases hok
      exact W.zast hx hb h1 (h2.1 _ _) (fun q => by cases q) (m_notin hi) rfl rfl hd fun H' e1 e2 e3 => kk H' _ (by rw [hk]; exact h3 H' _ _ _ (m_fit_z _) e1 e2 e3 one)
    · rw [hk] at hok h2 h3
      unfold m_okA at hok
      cases v <;> cases hok
      exact W.bast hx hb h1 (h2.1 _ _) (fun q => by cases q) (m_notin hi) rfl rfl hd fun H' e1 e2 e3 => kk H' _ (by rw [hk]; exact h3 H' _ _ _ (m_fit_b _) e1 e2 e3 one)
  · have hk : 1005 ≤ x.1 := by simpa using hkd
    obtain ⟨cA, h1, h2, h3⟩ := m_arrW hW ha (by omega)
    have obj : ∀ (ci : Nat) (r : vw_C), vwCl[ci]? = some r → m_ty (x.1 - 1000) = .object r.1 → ∀ (b : Nat) (y : mC), v = .ref b → w = .ref b → m_own base M b = some y → y.1 = ci → W p l e R s m args below meth c H locs cells slots Q (F0 m pc ls (v :: .int i :: .ref a :: rest)) := by
      intro ci r hc hty b y hv hw hy hyk
      subst hv; subst hw; subst hyk
      obtain ⟨g1, g2, kA, comp, g3, g4, g5, -⟩ := h2
      rcases hW.at hy with ⟨-, r', hc', -, cv, q1, q2, q3, -⟩ | ⟨h0, -⟩
      · cases hc.symm.trans hc'
        obtain ⟨-, hfc, kC, hkC, -⟩ := hE.1 _ r hc
        have hcomp : comp = D.1 y.1 := Option.some.inj ((g5 _ hty).symm.trans hfc)
        subst hcomp
        exact W.aast hx hb h1 (fun q h => by cases h) (fun h => by cases h) g3 g4 (by rw [hty]; rfl) hkC ⟨(m_in_ok hi).1, by rw [arrV_size]; exact (m_in_ok hi).2⟩ q1 (fun q h => by rw [q3] at h; cases h) (by rw [q2]; exact hkC) (by rw [q2]; exact va_asg _ _) rfl rfl hd fun H' e1 e2 e3 => kk H' _ (h3 H' _ _ _ (by rw [hty]; rfl) e1 e2 e3 one)
      · have := m_cl_lt hc
        omega
    have nul : ∀ C : String, m_ty (x.1 - 1000) = .object C → v = .null → w = .null → W p l e R s m args below meth c H locs cells slots Q (F0 m pc ls (v :: .int i :: .ref a :: rest)) := by
      intro C hty hv hw
      subst hv; subst hw
      exact va_WaastN (C := C) hx hb h1 (by have := h2.1 x.2.1 x.2.2; rw [hty] at this; exact this) (fun q => by cases q) (m_notin hi) rfl rfl hd fun H' e1 e2 e3 => kk H' _ (h3 H' _ _ _ (by rw [hty]; rfl) e1 e2 e3 one)
    unfold m_okA at hok
    split at hok
    · next q _ => omega
    · next q _ => omega
    · next q _ => omega
    · next q _ => omega
    · next q => exact nul RX8 (by rw [q]; rfl) rfl (Option.some.inj hok).symm
    · next q => exact nul RX3 (by rw [q]; rfl) rfl (Option.some.inj hok).symm
    · next b q =>
      split at hok
      · next y hy =>
        split at hok
        · next hyk =>
          have hw := (Option.some.inj hok).symm
          subst hw
          obtain ⟨g1, g2, kA, comp, g3, g4, -, g6⟩ := h2
          have hty : m_ty (x.1 - 1000) = .array .long := by rw [q]; rfl
          rcases hW.at hy with ⟨h0, -⟩ | ⟨h0, cB, q1, ⟨-, f2, kB, compB, f3, f4, -⟩, -⟩
          · omega
          · have hcomp : comp = cB := by
              have e1 := g6 .long hty
              rw [hyk] at f2
              exact Option.some.inj (e1.symm.trans f2)
            subst hcomp
            exact W.aast hx hb h1 (fun q h => by cases h) (fun h => by cases h) g3 g4 (by rw [hty]; rfl) f3 ⟨(m_in_ok hi).1, by rw [arrV_size]; exact (m_in_ok hi).2⟩ q1 (fun q h => by cases h) f3 (va_asg _ _) rfl rfl hd fun H' e1 e2 e3 => kk H' _ (h3 H' _ _ _ (by rw [hty]; rfl) e1 e2 e3 one)
        · cases hok
      · cases hok
    · next b q =>
      split at hok
      · next y hy =>
        split at hok
        · next hyk => exact obj 7 _ rfl (by rw [q]; rfl) b y rfl (Option.some.inj hok).symm hy hyk
        · cases hok
      · cases hok
    · next b q =>
      split at hok
      · next y hy =>
        split at hok
        · next hyk => exact obj 3 _ rfl (by rw [q]; rfl) b y rfl (Option.some.inj hok).symm hy hyk
        · cases hok
      · cases hok
    · cases hok
end
