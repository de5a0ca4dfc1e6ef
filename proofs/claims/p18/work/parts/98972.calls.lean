/-! Calls of the pure machine. -/
section
variable {p : Program} {l : Launch} {e : Env} {R : Room} {s : State} {m : MethodId} {args : Array Value} {below : List Frame} {meth : Method} {c : Code} {H : Heap} {locs : List Loc} {cells slots mc ms : Nat} {Q : State → Prop}
variable {pc d' : Nat} {ls : Array Slot} {lv : mL} {st rest : List Value} {M M1 : mH} {ins : Instr} {base : Nat} {X : Nat → Option mC} {G : Nat → Value} {D : va_G} {t t' : mT} {r : Option Value}
theorem m_after {av : Array Value} {st0 : List Value} (hr : va_Run p l e R s m args below meth c H locs cells slots mc ms (F0 m pc ls st0) rest (m_Q base D r M1 av) (fun q => base ≤ q)) (hW : m_Wd D base s H M locs) (kk : ∀ (H1 : Heap) (locs1 : List Loc), m_Wd D base s H1 M1 locs1 → W p l e R s m args below meth c H1 locs1 (cells + mc) (slots + ms) Q (F0 m (pc + 3) ls (r.toList ++ rest))) : W p l e R s m args below meth c H locs cells slots Q (F0 m pc ls st0) := by
  intro T hT X0
  obtain ⟨v, st₀, u, T', L, h0, X', hL, e1, e2, ⟨hv, hC, hF⟩, go⟩ := hr T hT X0
  cases hv
  have al : u.vm.Alike s.vm := by rw [← e2]; exact X'.warmed.alike.symm
  have hw : m_Wd D base s T'.heap M1 (locs ++ L) := by
    refine ⟨by rw [e1]; exact hC.1, fun k hk => by rw [e1]; exact (hC.2 k hk).moved al, ⟨?_, ?_, ?_⟩, hW.2.2.2⟩
    · rw [e1]; exact Nat.le_trans hW.2.2.1.1 (by rw [← h0]; exact hF.1)
    · intro q g1 g2
      rw [e1, hF.2 q (by rw [h0]; exact Nat.lt_of_lt_of_le g1 hW.2.2.1.1) g2, h0]
      exact hW.2.2.1.2.1 q g1 g2
    · intro q hq
      rcases List.mem_append.mp hq with g | g
      · exact hW.2.2.1.2.2 q g
      · exact hL q g
  obtain ⟨t2, a1, b1⟩ := kk T'.heap (locs ++ L) hw T' rfl X'
  exact ⟨t2, go t2 a1, b1⟩
theorem m_pre (hE : m_E base X G D s s.heap) (hW : m_Wd D base s H M locs) (vs : List Value) : ∀ U : State, U.heap = H → s.WarmedH U.vm → m_P base X G D vs M vs.toArray U := by
  intro U hU hWm
  refine ⟨rfl, ?_, ?_, fun k hk => ?_⟩
  · rw [hU]; exact hE.go hWm (fun a h1 h2 => hW.2.2.1.2.1 a h1 h2)
  · rw [hU]; exact hW.1
  · rw [hU]; exact (hW.2.1 k hk).moved hWm.alike
theorem m_oc_le (o : Nat) : m_oc o ≤ 100 := by
  have key : ∀ o, o < 12 → m_oc o ≤ 100 := by decide
  by_cases ho : o < 12
  · exact key o ho
  · unfold m_oc
    rw [List.getD_eq_getElem?_getD, List.getElem?_eq_none (by show 12 ≤ o; omega)]
    exact Nat.le_refl _
set_option maxHeartbeats 4000000 in
theorem m_okCall (hC : m_Cx base X G D t p s m args meth c) (hW : m_Wd D base s H M locs) (hl : lv_has ls t.2.2.2.1 lv) (hF : d' + 2 ≤ R.frames) (hL : 64 * (d' + 2) ≤ R.locals) (hd : decode t.2.2.1 pc = .ok (ins, 3)) {k : Nat × Nat × Nat} (hk : m_call t.1 ins = some k) (ht : sy_m[k.2.1]? = some t') {a : List Value × List Value} (ha : m_args k.1 k.2.2 st = some a) (hsm : m_sm a.2 = true) (h45 : t'.2.2.2.1 ≤ 45) (hrecv : m_recv base G M k.1 t'.1 a.1 = true) (hM : Met l t'.2.1 (m_ws t') (m_rm d' mc ms) (m_P base X G D a.1 M) (m_Q base D r M1) mc ms (fun q => base ≤ q)) (hf : cells + mc ≤ R.cells ∧ slots + ms ≤ R.slots)
    (kk : ∀ (H1 : Heap) (locs1 : List Loc), m_Wd D base s H1 M1 locs1 → W p l e R s m args below meth c H1 locs1 (cells + mc) (slots + ms) Q (F0 m (pc + 3) ls (r.toList ++ a.2))) : W p l e R s m args below meth c H locs cells slots Q (F0 m pc ls st) := by
  obtain ⟨hx, hb, hml, -, -, -, hown, hts, hE⟩ := hC
  have hroom : (m_rm d' mc ms).frames + 1 ≤ R.frames ∧ 8 + (t'.2.2.2.1 + 11) + (m_rm d' mc ms).locals ≤ R.locals := by
    show d' + 1 + 1 ≤ R.frames ∧ 8 + (t'.2.2.2.1 + 11) + 64 * (d' + 1) ≤ R.locals
    omega
  have hm := List.all_eq_true.mp sy_m_all _ (List.mem_of_getElem? ht)
  unfold sy_mc at hm
  simp only [Bool.and_eq_true, decide_eq_true_eq] at hm
  obtain ⟨⟨⟨hcn, -⟩, hn1⟩, hn2⟩ := hm
  have hrest : 2 * (F0 m pc ls st).monitorRoom + (a.2.map fun v => v.category).sum ≤ 8 := by
    have : (a.2.map fun v => v.category).sum ≤ 8 := of_decide_eq_true hsm
    show 2 * 0 + _ ≤ 8
    omega
  have hin : ∀ {i : Nat}, m_ca t.1 i = some k → (t.1, i, k) ∈ sy_c := fun h => m_fd h
  have hchk : ∀ {i : Nat}, m_ca t.1 i = some k → sy_cc (t.1, i, k) = true := fun h => List.all_eq_true.mp sy_c_all _ (hin h)
  have hdesc : ∀ {i : Nat}, m_ca t.1 i = some k → (parseMethodDescriptor t'.2.1.desc).map (fun d => d.parameters.length) = some k.2.2 := by
    intro i h
    have := hchk h
    unfold sy_cc at this
    simp only [ht, Bool.and_eq_true, decide_eq_true_eq] at this
    exact this.1
  have hlink : ∀ {i : Nat}, m_ca t.1 i = some k → k.1 < 3 → Cond.methodLink (sy_cn t.1) i t'.2.1 ∈ wsL_law := fun h hlt => sy_cok (hin h) (by unfold sy_cw; simp only [ht]; rw [if_pos hlt])
  have hnest : ∀ {i : Nat}, m_ca t.1 i = some k → 3 ≤ k.1 → va_Nw (.methodLinkNest (sy_cn t.1) i t'.2.1 RX10) s := fun h hle => hE.2.2.2.2.1 _ (hin h) t' ht hle
  have hinit : Cond.initialized t'.2.1.cls ∈ wsL_law := sy_t4 (sy_mi_of ht) (by unfold sy_w4; rw [ht])
  have hwsin := m_ws_in ht
  have hdrop : ¬ (k.1 = 1 ∨ k.1 = 4) → ∃ b As, a = (.ref b :: As, a.2) ∧ As.length = k.2.2 ∧ st = As.reverse ++ .ref b :: a.2 := by
    intro hns
    unfold m_args at ha
    rw [if_neg hns] at ha
    split at ha
    · next b q hq =>
      cases ha
      have hlen : k.2.2 ≤ st.length := by
        by_cases hh : k.2.2 ≤ st.length
        · exact hh
        · rw [List.drop_eq_nil_of_le (by omega)] at hq; cases hq
      refine ⟨b, (st.take k.2.2).reverse, rfl, by rw [List.length_reverse, List.length_take]; omega, ?_⟩
      rw [List.reverse_reverse, ← hq, List.take_append_drop]
    · cases ha
  cases ins
  case invokevirtual i =>
    simp only [m_call] at hk
    split at hk
    · next q hq =>
      split at hk
      · next hkind =>
        cases hk
        have hns : ¬ (k.1 = 1 ∨ k.1 = 4) := by omega
        obtain ⟨b, As, hae, hAs, hst⟩ := hdrop hns
        have hmk : sy_mk[k.2.1]? = some 0 := by
          have := hchk hq
          unfold sy_cc at this
          simp only [ht, Bool.and_eq_true] at this
          have h2 := this.2
          rw [if_neg hns, if_neg (by omega)] at h2
          exact of_decide_eq_true h2
        have hinst : Cond.instanceMethod t'.2.1 ∈ wsL_law := sy_t2 (sy_mi_of ht) (by unfold sy_w2; rw [ht]; simp [hmk])
        have hsel : Cond.selects t'.2.1.cls t'.2.1 t'.2.1 ∈ wsL_law := sy_t3 (sy_mi_of ht) (by unfold sy_w3; rw [ht]; simp [hmk])
        have hpre : PreV s H t'.2.1.cls b (m_P base X G D a.1 M) As := by
          refine ⟨m_P.blind, ?_, ?_⟩
          · unfold m_recv at hrecv
            rw [if_pos hkind, hae] at hrecv
            simp only at hrecv
            split at hrecv
            · next ho =>
              obtain ⟨tx, a', v, h1, -, -, h4, -⟩ := hE.2.2.2.2.2.2.2.2.2
              have hb' : G 9 = .ref b := of_decide_eq_true hrecv
              cases h1.symm.trans hb'
              rw [ho] at hcn
              rw [← hcn]
              exact va_Orecv h4 hW.2.2.1
            split at hrecv
            · next x hxo =>
              have hxk : x.1 = m_oc t'.1 := by simpa using hrecv
              have hle := m_oc_le t'.1
              rcases hW.at hxo with ⟨-, r', hc', -, cell, q1, q2, q3, -⟩ | ⟨g0, -⟩
              · obtain ⟨-, hfc, -⟩ := hE.1 _ r' hc'
                refine ⟨cell, q1, by rw [q3]; rfl, ?_⟩
                rw [q2, ← hcn, m_oc_ok hxk.symm hc']
                exact hfc
              · omega
            · cases hrecv
          · intro U hU hWm
            have := m_pre hE hW a.1 U hU hWm
            rw [hae] at this ⊢
            exact this
        subst hst
        rcases hkind with h0 | h3
        · have hG : GoodIn wsL_law (wsV (sy_cn t.1) i t'.2.1.cls t'.2.1 (m_ws t')) := m_good (by
            intro w hw
            unfold wsV at hw
            rcases List.mem_append.mp hw with hw | hw
            · simp only [List.mem_cons, List.not_mem_nil, or_false] at hw
              rcases hw with rfl | rfl | rfl | rfl
              · exact hlink hq (by omega)
              · exact hinst
              · exact hsel
              · exact hinit
            · exact hwsin w hw)
          exact m_after (va_runV (As := As) (rest := a.2) ⟨hx, hb, hml, hown, hts⟩ hM (cwV k.2.2 hts hG rfl rfl rfl ⟨rfl, hn1, hn2, hdesc hq⟩ hroom) hpre rfl hAs hl.1 rfl hrest hd hf) hW kk
        · exact m_after (va_runVN (As := As) (rest := a.2) (C := t'.2.1.cls) ⟨hx, hb, hml, hown, hts⟩ hM ⟨va_cnB k.2.2 hts (m_good hwsin) rfl rfl rfl (hnest hq (by omega)) (hts _ hinit) ⟨hn1, hn2, hdesc hq⟩ hroom, hts _ hinst, hts _ hsel⟩ hpre rfl hAs hl.1 rfl hrest hd hf) hW kk
      · cases hk
    · cases hk
  case invokestatic i =>
    simp only [m_call] at hk
    split at hk
    · next q hq =>
      split at hk
      · next hkind =>
        cases hk
        unfold m_args at ha
        rw [if_pos hkind] at ha
        split at ha
        · next hlen =>
          cases ha
          have hmk : sy_mk[k.2.1]? = some 1 := by
            have := hchk hq
            unfold sy_cc at this
            simp only [ht, Bool.and_eq_true] at this
            have h2 := this.2
            rw [if_pos hkind] at h2
            exact of_decide_eq_true h2
          have hstat : Cond.static t'.2.1 ∈ wsL_law := sy_t2 (sy_mi_of ht) (by unfold sy_w2; rw [ht]; simp [hmk])
          have hAs : ((st.take k.2.2).reverse).length = k.2.2 := by rw [List.length_reverse, List.length_take]; omega
          have hst : (F0 m pc ls st).stack = ((st.take k.2.2).reverse).reverse ++ st.drop k.2.2 := by
            show st = _
            rw [List.reverse_reverse, List.take_append_drop]
          have hpre : PreS s H (m_P base X G D (st.take k.2.2).reverse M) (st.take k.2.2).reverse := ⟨m_P.blind, m_pre hE hW _⟩
          rcases hkind with h0 | h3
          · have hG : GoodIn wsL_law (va_wsS (sy_cn t.1) i t'.2.1 (m_ws t')) := m_good (by
              intro w hw
              unfold va_wsS at hw
              rcases List.mem_append.mp hw with hw | hw
              · simp only [List.mem_cons, List.not_mem_nil, or_false] at hw
                rcases hw with rfl | rfl | rfl
                · exact hlink hq (by omega)
                · exact hstat
                · exact hinit
              · exact hwsin w hw)
            exact m_after (va_runS (As := (st.take k.2.2).reverse) (rest := st.drop k.2.2) ⟨hx, hb, hml, hown, hts⟩ hM (va_cwS k.2.2 hts hG rfl rfl rfl ⟨hn1, hn2, hdesc hq⟩ hroom) hpre rfl hAs hl.1 hst hrest hd hf) hW kk
          · exact m_after (va_runSN (As := (st.take k.2.2).reverse) (rest := st.drop k.2.2) ⟨hx, hb, hml, hown, hts⟩ hM ⟨va_cnB k.2.2 hts (m_good hwsin) rfl rfl rfl (hnest hq (by omega)) (hts _ hinit) ⟨hn1, hn2, hdesc hq⟩ hroom, hts _ hstat, trivial⟩ hpre rfl hAs hl.1 hst hrest hd hf) hW kk
        · cases ha
      · cases hk
    · cases hk
  case invokespecial i =>
    simp only [m_call] at hk
    split at hk
    · next q hq =>
      split at hk
      · next hkind =>
        cases hk
        have hns : ¬ (k.1 = 1 ∨ k.1 = 4) := by omega
        obtain ⟨b, As, hae, hAs, hst⟩ := hdrop hns
        have hchk2 : sy_mk[k.2.1]? = some 2 ∧ t'.2.1.name = "<init>" ∧ t'.2.2.2.2 = none := by
          have := hchk hq
          unfold sy_cc at this
          simp only [ht, Bool.and_eq_true] at this
          have h2 := this.2
          rw [if_neg hns, if_pos hkind] at h2
          simp only [Bool.and_eq_true, decide_eq_true_eq] at h2
          exact ⟨h2.1.1, h2.1.2, h2.2⟩
        have hinst : Cond.instanceMethod t'.2.1 ∈ wsL_law := sy_t2 (sy_mi_of ht) (by unfold sy_w2; rw [ht]; simp [hchk2.1])
        have hpre : PreS s H (m_P base X G D a.1 M) (.ref b :: As) := by
          refine ⟨m_P.blind, ?_⟩
          intro U hU hWm
          have := m_pre hE hW a.1 U hU hWm
          rw [hae] at this ⊢
          exact this
        have hws : m_ws t' = Cond.code t'.2.1 t'.2.2.1 t'.2.2.2.1 none :: wsL_law := by unfold m_ws; rw [hchk2.2.2]
        subst hst
        rcases hkind with h0 | h3
        · exact m_after (va_runI (As := As) (rest := a.2) ⟨hx, hb, hml, hown, hts⟩ hM (cwI k.2.2 hts (m_good hwsin) hws rfl rfl (hts _ hinit) (hts _ (hlink hq (by omega))) (hts _ hinst) hchk2.2.1 ⟨hn1, hn2, hdesc hq⟩ hroom) hpre rfl hAs hl.1 rfl hrest hd hf) hW kk
        · exact m_after (va_runIN (As := As) (rest := a.2) ⟨hx, hb, hml, hown, hts⟩ hM ⟨va_cnB k.2.2 hts (m_good hwsin) hws rfl rfl (hnest hq (by omega)) (hts _ hinit) ⟨hn1, hn2, hdesc hq⟩ hroom, hchk2.2.1, hts _ hinst⟩ hpre rfl hAs hl.1 rfl hrest hd hf) hW kk
      · cases hk
    · cases hk
  all_goals cases hk
end
