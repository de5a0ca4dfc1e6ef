/-! THE PURE MACHINE IS THE MACHINE: a run's answer is what the frame comes to. -/
section
variable {p : Program} {l : Launch} {e : Env} {R : Room} {s : State} {m : MethodId} {args : Array Value} {below : List Frame} {meth : Method} {c : Code} {H : Heap} {locs : List Loc} {Q : State → Prop}
variable {pc d : Nat} {ls : Array Slot} {lv : mL} {st : List Value} {M M0 : mH} {ins : Instr} {base : Nat} {X : Nat → Option mC} {G : Nat → Value} {D : va_G} {t : mT} {r : Option Value}
set_option maxHeartbeats 1000000 in
theorem m_okStep (hC : m_Cx base X G D t p s m args meth c) (hW : m_Wd D base s H M locs) (hl : lv_has ls t.2.2.2.1 lv) (h0 : M0.1 ≤ M.1 ∧ M0.2.1 ≤ M.2.1) (hF : 1 ≤ R.frames) (hL : 64 ≤ R.locals) {len : Nat} {z : mR} (hd : decode t.2.2.1 pc = .ok (ins, len)) (h : m_step base X G t pc lv st M ins len = some z) (hc : z.2.2.2.1 - M0.1 ≤ R.cells) (hs : z.2.2.2.2.1 - M0.2.1 ≤ R.slots)
    (kk : ∀ (H' : Heap) (locs' : List Loc) (ls' : Array Slot), m_Wd D base s H' z.2.2.2 locs' → lv_has ls' t.2.2.2.1 z.2.1 → W p l e R s m args below meth c H' locs' (z.2.2.2.1 - M0.1) (z.2.2.2.2.1 - M0.2.1) Q (F0 m z.1 ls' z.2.2.1)) : W p l e R s m args below meth c H locs (M.1 - M0.1) (M.2.1 - M0.2.1) Q (F0 m pc ls st) := by
  obtain ⟨hx, hb, hml, hret, hlocks, hname, hown, hts, hE⟩ := hC
  obtain ⟨pc', lv', st', M'⟩ := z
  unfold m_step at h
  split at h
  · next z hz =>
    split at h
    · next hlen =>
      cases h
      have key := m_okK (M0 := M0) (Q := Q) (below := below) (l := l) (e := e) (meth := meth) hx hb hd hlen (by rw [hml]; exact hl.1.symm) hown hts hE hW hF hL h0 hc hs hz
      by_cases hlv : lv' = lv
      · subst hlv
        exact (key (fun H' locs' hw => kk H' locs' ls hw hl)).2.2.2
      · exfalso
        revert hlv
        have hz2 := hz
        unfold m_spc at hz2
        split at hz2 <;> (try simp only [m_r, m_cp, m_ii, m_ll] at hz2) <;> (repeat' split at hz2) <;> first | (cases hz2; done) | (cases hz2; exact fun q => q rfl)
    · cases h
  · split at h
    · next z hz =>
      split at h
      · next hlen =>
        cases h
        have hlen' : len = m_len ins ∨ (∃ a b d f, ins = .tableswitch a b d f) ∨ (∃ a b, ins = .lookupswitch a b) := by
          rcases hlen with q | q
          · exact Or.inl q
          · unfold m_sw at q
            split at q
            · exact Or.inr (Or.inl ⟨_, _, _, _, rfl⟩)
            · exact Or.inr (Or.inr ⟨_, _, rfl⟩)
            · cases q
        obtain ⟨e1, e2, key⟩ := m_okC (H := H) (locs := locs) (cells := M.1 - M0.1) (slots := M.2.1 - M0.2.1) (Q := Q) (below := below) (l := l) (e := e) (R := R) (s := s) (m := m) (args := args) (meth := meth) (ls := ls) hx hb hd hlen' hz
        subst e1; subst e2
        exact key (kk H locs ls hW hl)
      · cases h
    · split at h
      · next hlen =>
        subst hlen
        split at h
        · next z hz =>
          cases h
          have e2 := m_stA_heap hz
          subst e2
          exact (m_okS hx hb hd hown hts hl hz (fun ls' hl' => kk H locs ls' hW hl')).2
        · split at h
          · next z hz =>
            cases h
            obtain ⟨e1, e2, key⟩ := m_okB (H := H) (locs := locs) (cells := M.1 - M0.1) (slots := M.2.1 - M0.2.1) (Q := Q) (below := below) (l := l) (e := e) (R := R) (s := s) (m := m) (args := args) (meth := meth) (ls := ls) hx hb hd hz
            subst e1; subst e2
            exact key (kk H locs ls hW hl)
          · have key := m_okD (M0 := M0) (Q := Q) (below := below) (l := l) (e := e) (ls := ls) hx hb hd hown hts (fun q => hname (by simpa using q)) hE hW h0 hc hs h
            by_cases hlv : lv' = lv
            · subst hlv
              exact (key (fun H' locs' hw => kk H' locs' ls hw hl)).2.2.2
            · exfalso
              revert hlv
              have hz2 := h
              unfold m_stD at hz2
              split at hz2 <;> (try simp only [m_r, m_vr, m_i, m_ald, m_ast, m_ir, m_vir] at hz2) <;> (repeat' split at hz2) <;> first | (cases hz2; done) | (cases hz2; exact fun q => q rfl)
      · cases h
end
set_option maxHeartbeats 1000000 in
theorem m_walk (l : Launch) (base : Nat) (X : Nat → Option mC) (G : Nat → Value) (D : va_G) : ∀ (n d : Nat) (t : mT) (pc : Nat) (lv : mL) (st : List Value) (M : mH) (r : Option Value) (M' : mH), m_run base X G n d t pc lv st M = some (r, M') → (M.1 ≤ M'.1 ∧ M.2.1 ≤ M'.2.1) ∧ m_Go l base X G D d t pc lv st M r M' := by
  intro n
  induction n with
  | zero => intro d t pc lv st M r M' h; cases h
  | succ n ih =>
    intro d t pc lv st M r M' h
    unfold m_run at h
    split at h
    · cases h
    · next q hq =>
      obtain ⟨ins, len⟩ := q
      simp only at h
      split at h
      · next r0 hr =>
        split at h
        · next hlen =>
          cases h
          refine ⟨⟨Nat.le_refl _, Nat.le_refl _⟩, ?_⟩
          intro p e R s m args below meth c H locs ls M0 hC hW hl h0 hF hL hc hs
          obtain ⟨hx, hb, hml, hret, hlocks, hname, hown, hts, hE⟩ := hC
          subst hlen
          have hq' : ∀ (rv : Option Value) (u : State), u.heap = H → s.WarmedH u.vm → m_Q base D rv M args s (.returned rv) u := by
            intro rv u hu hWm
            refine ⟨rfl, ⟨by rw [hu]; exact hW.1, fun k hk => ?_⟩, hW.2.2.1.F hu⟩
            rw [hu]
            exact (hW.2.1 k hk).moved hWm.alike
          unfold m_ret at hr
          split at hr
          · split at hr
            · next hcond =>
              cases hr
              obtain ⟨c1, rfl⟩ := hcond
              exact W.vret hx hb (by rw [hret]; exact c1) (hq' none) hW.2.2.1.2.2 hq hlocks
            · cases hr
          · split at hr
            · next v =>
              split at hr
              · next ty hty =>
                split at hr
                · next hn =>
                  cases hr
                  exact W.zret hx hb (by rw [hret]; exact hty) hn (hq' _) hW.2.2.1.2.2 hq hlocks
                · cases hr
              · cases hr
            · cases hr
          · split at hr
            · next v =>
              split at hr
              · next hty =>
                cases hr
                exact W.lret hx hb (by rw [hret]; exact hty) (hq' _) hW.2.2.1.2.2 hq hlocks
              · cases hr
            · cases hr
          · have href : ∀ {b : Bool}, m_isR t.2.2.2.2 = true → ∃ rt, t.2.2.2.2 = some rt ∧ ((∃ n, rt = .object n) ∨ ∃ u, rt = .array u) := by
              intro _ hb2
              unfold m_isR at hb2
              split at hb2
              · next n hn => exact ⟨_, hn, Or.inl ⟨n, rfl⟩⟩
              · next n hn => exact ⟨_, hn, Or.inr ⟨n, rfl⟩⟩
              · cases hb2
            split at hr
            · split at hr
              · next hty =>
                cases hr
                obtain ⟨rt, e1, e2⟩ := href (b := true) hty
                exact W.aret hx hb (by rw [hret]; exact e1) e2 (Or.inl rfl) (hq' _) hW.2.2.1.2.2 hq hlocks
              · cases hr
            · next b =>
              split at hr
              · next hty =>
                cases hr
                obtain ⟨rt, e1, e2⟩ := href (b := true) hty
                exact W.aret hx hb (by rw [hret]; exact e1) e2 (Or.inr ⟨_, rfl⟩) (hq' _) hW.2.2.1.2.2 hq hlocks
              · cases hr
            · cases hr
          · cases hr
        · cases h
      · split at h
        · next k hk =>
          split at h
          · cases h
          · next d' =>
            split at h
            · next t' a ht ha =>
              split at h
              · next hcond =>
                obtain ⟨c1, c2, c3, c4, c5⟩ := hcond
                split at h
                · next z hz =>
                  obtain ⟨rv, M1⟩ := z
                  obtain ⟨m1, g1⟩ := ih d' t' 0 (lv_args 0 a.1) [] M rv M1 hz
                  obtain ⟨m2, g2⟩ := ih (d' + 1) t (pc + 3) lv (rv.toList ++ a.2) M1 r M' h
                  refine ⟨⟨Nat.le_trans m1.1 m2.1, Nat.le_trans m1.2 m2.2⟩, ?_⟩
                  intro p e R s m args below meth c H locs ls M0 hC hW hl h0 hF hL hc hs
                  subst c1
                  have met := m_met (l := l) ht c3 g1
                  refine m_okCall (mc := M1.1 - M.1) (ms := M1.2.1 - M.2.1) hC hW hl hF hL hq hk ht ha c2 c4 c5 met ⟨by omega, by omega⟩ ?_
                  intro H1 locs1 hw
                  have e1 : M.1 - M0.1 + (M1.1 - M.1) = M1.1 - M0.1 := by omega
                  have e2 : M.2.1 - M0.2.1 + (M1.2.1 - M.2.1) = M1.2.1 - M0.2.1 := by omega
                  rw [e1, e2]
                  exact g2 p e R s m args below meth c H1 locs1 ls M0 hC hw hl ⟨by omega, by omega⟩ hF hL hc hs
                · cases h
              · cases h
            · cases h
        · split at h
          · next z hz =>
            have mz := m_step_heap hz
            obtain ⟨m2, g2⟩ := ih d t z.1 z.2.1 z.2.2.1 z.2.2.2 r M' h
            refine ⟨⟨Nat.le_trans mz.1 m2.1, Nat.le_trans mz.2 m2.2⟩, ?_⟩
            intro p e R s m args below meth c H locs ls M0 hC hW hl h0 hF hL hc hs
            refine m_okStep hC hW hl h0 (by omega) (by omega) hq hz (by omega) (by omega) ?_
            intro H' locs' ls' hw hl'
            exact g2 p e R s m args below meth c H' locs' ls' M0 hC hw hl' ⟨by omega, by omega⟩ hF hL hc hs
          · cases h
