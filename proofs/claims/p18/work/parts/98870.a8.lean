section
variable {base : Nat} {X : Nat → Option mC} {G : Nat → Value}
theorem w112p (E : EnvOK base X G) {d : Nat} (hd : 60 ≤ d) {M : mH} (H : HI base M) (hB : HB base M) (hN : HN base M) {len : Int} (hlen : 0 ≤ len ∧ len ≤ 400) {T : Int → Int} (hT : ∀ j : Int, 0 ≤ j → j < len → gi M 13 j = T j) {n0 : Int} (hn : gi M 1 12 = n0) (hn7 : 0 ≤ n0 ∧ n0 ≤ 7) {P : Int → mH → Prop} (hP : ∀ v M', HAx T len n0 v (gi M' 0 4) (gi M' 1 12) → P v M') : sRn base X G d T112 33 [(0, vR 0), (1, vI len)] [vI len, vR 13, vR 14] M (s_Q base (pI P)) := by
  have hl : shL.length = 111 := rfl
  have hM := H.1.1
  refine r_callv (c := 14) (args := [vR 13, vI len]) (rest := []) (pc' := 36) D112_33 rfl ck_10_virtual_240 TE17 rfl (Nat.le_of_ble_eq_true rfl) ⟨Nat.le_of_ble_eq_true rfl, Nat.le_of_ble_eq_true rfl⟩ sc_14 ⟨rfl, by decide⟩ H.1 (dp_0 hd rfl) (k17_14_13p E (dp_n hd rfl) H len T hlen hT) ?_
  intro v M1 p
  obtain ⟨q, hq, hor⟩ := p
  subst hq
  rcases hor with ⟨hv, H1, f1, hx⟩ | ⟨M2, f2, H2, hR, hx, h10⟩
  · subst hv
    refine m_Rn.imp (k112unp E (by omega) H1 len (gi M1 14 10) hlen rfl (H1.1.int sc_14 (i := 10) (by decide) (by decide) rfl).2) ?_
    rintro r M' ⟨v', e1, v, e2, H', f', hv6, hf, hc⟩
    exact ⟨v', e1, v, e2, hP v M' (Or.inl ⟨by rw [hf]; exact hx, hv6, hc.trans ((f1.g rfl).trans hn)⟩)⟩
  · obtain ⟨H1, hv, m1, l1, s1, n, u, ih, hn12, hu⟩ := hR
    subst hv
    have hB2 := hB.fr f2 rfl
    have hN2 := hN.fr f2 rfl
    have hM2 := H2.1.1
    have hB1 := hB2.alloc (by omega) (by omega) s1
    have hN1 := hN2.alloc (by omega) (by omega) s1
    have g : gi M1 1 12 = n0 := by rw [(s1 1 (by omega)).gi, f2.g rfl, hn]
    have g14 : gi M1 14 10 = -1 := by rw [(s1 14 (by omega)).gi, h10]
    refine m_Rn.imp (k112urp E (by omega) H1 len M2.1 n u n0 (-1) hB1 hN1 hlen ih g hn7 hn12 g14 (by decide)) ?_
    rintro r M' ⟨v', e1, v, e2, H', f', hv6, hf, hc⟩
    exact ⟨v', e1, v, e2, hP v M' (Or.inr ⟨hx, hv6, hf, hc⟩)⟩
end

set_option maxRecDepth 4000 in
theorem k112p {base : Nat} {X : Nat → Option mC} {G : Nat → Value} (E : EnvOK base X G) {d : Nat} (hd : 60 ≤ d) {M : mH} (H : HI base M) (gs : Int) (T : Int → Int) (h0 : HB base M) (h1 : HN base M) (h2 : gi M 0 3 = gs) (h3 : ∀ j : Int, 0 ≤ j → j < gs → gi M 13 j = T j) : sOk base X G d T112 [vR 0] M (pI (fun v M' => (8 ≤ gi M 1 12 → v = -5 ∧ gi M' 0 4 = gi M 0 4 ∧ gi M' 1 12 = gi M 1 12) ∧ (gi M 1 12 < 8 → HAx T gs (gi M 1 12) v (gi M' 0 4) (gi M' 1 12)))) := by
  have f0 : Fr [(0, 4), (0, 5), (0, 6), (0, 10), (1, 13), (9, 0), (14, 3), (14, 4), (14, 5), (14, 8), (14, 10), (14, 11), (15, 0), (16, 0), (17, 0), (18, 0), (19, 0)] M M := Fr.rf
  refine sOk.of (show sRn base X G d T112 0 [(0, vR 0)] [] M _ from ?_)
  refine s_blx (lv' := [(0, vR 0)]) (st' := [vR 0]) B112_0_1 rfl ?_
  refine r_vI (c := 0) (args := []) (rest := []) (pc' := 4) D112_1 rfl ck_10_virtual_149 TE135 rfl (Nat.le_of_ble_eq_true rfl) ⟨Nat.le_of_ble_eq_true rfl, Nat.le_of_ble_eq_true rfl⟩ sc_0 ⟨rfl, by decide⟩ H.1 (dp_0 hd rfl) (k135e E (dp_n hd rfl) H ) ?_
  intro v1 M2 q8
  obtain ⟨H3, f4, q5, q6, q7⟩ := q8
  have f9 := f0.tr (f4.up rfl)
  have hp10 := h0.fr f4 (by decide)
  have hp11 := h1.fr f4 (by decide)
  have kf4 := f4
  refine s_blx (lv' := [(1, vI v1), (0, vR 0)]) (st' := [vR 0]) B112_4_6 rfl ?_
  refine r_gfix (r := 1) (pc' := 9) D112_6 rfl gf_10_10_0 H3.1 ?_
  refine r_gint (ki := 12) (pc' := 12) D112_9 rfl gf_10_237_1 rfl H3.1 ?_
  intro w12 e13 r14
  have b_w12 := H3.2 1 (12) 0 8 rfl
  rw [← e13] at b_w12; clear r14
  have kc : gi M 1 12 = w12 := by rw [e13]; exact (kf4.g rfl).symm
  refine s_blx (lv' := [(1, vI v1), (0, vR 0)]) (st' := [vI 8, vI w12]) B112_12_14 rfl ?_
  refine r_icmp (tgt := 24) (pc' := 17) D112_14 rfl rfl (by unfold inR; omega) (fun (c15 : w12 < 8) => ?_) (fun (c15 : ¬ (w12 < 8)) => ?_)
  · refine s_blx (lv' := [(1, vI v1), (0, vR 0)]) (st' := [vR 0]) B112_24_25 rfl ?_
    refine r_gfix (r := 14) (pc' := 28) D112_25 rfl gf_10_37_0 H3.1 ?_
    refine s_blx (lv' := [(1, vI v1), (0, vR 0)]) (st' := [vR 0, vR 14]) B112_28_29 rfl ?_
    refine r_gfix (r := 13) (pc' := 32) D112_29 rfl gf_10_20_0 H3.1 ?_
    refine s_blx (lv' := [(1, vI v1), (0, vR 0)]) (st' := [vI v1, vR 13, vR 14]) B112_32_33 rfl ?_
    refine r_loc (lv' := [(0, vR 0), (1, vI v1)]) ⟨rfl, rfl, trivial⟩ rfl rfl ?_
    exact w112p E (by omega) H3 (hp10) (hp11) (by omega) (fun j a b => (f9.g rfl).trans (h3 j a (by omega))) ((e13.symm)) (by omega) (fun v M' z => ⟨fun c => absurd c (by omega), fun _ => by rw [kc, show gs = v1 by omega]; exact z⟩)
  · refine s_blx (lv' := [(1, vI v1), (0, vR 0)]) (st' := [vI (-5), vR 0]) B112_17_20 rfl ?_
    refine r_vI (c := 0) (args := [vI (-5)]) (rest := []) (pc' := 23) D112_20 rfl ck_10_virtual_106 TE133 rfl (Nat.le_of_ble_eq_true rfl) ⟨Nat.le_of_ble_eq_true rfl, Nat.le_of_ble_eq_true rfl⟩ sc_0 ⟨rfl, by decide⟩ H3.1 (dp_0 hd rfl) (k133 E (dp_n hd rfl) H3 (-5) (by omega)) ?_
    intro v16 M17 q21
    obtain ⟨H18, f19, q20⟩ := q21
    have f22 := f9.tr (f19.up rfl)
    have hp23 := hp10.fr f19 (by decide)
    have hp24 := hp11.fr f19 (by decide)
    exact r_iretI D112_23 rfl (⟨fun _ => ⟨by omega, ((f19.g rfl).trans ((f4.g rfl).trans (rfl))), by rw [kc]; exact ((f19.g rfl).trans (e13.symm))⟩, fun h => by omega⟩)
