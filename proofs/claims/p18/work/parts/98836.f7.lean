
theorem Y96 {base : Nat} {X : Nat → Option mC} {G : Nat → Value} (E : EnvOK base X G) {d : Nat} (hd : 1 ≤ d) {M : mH} (H : HI base M) (w : Int) (what : Int) (value : Int) (j : Int) (gs : Int) (gT : Int → Int) (gN : Int → Int) (ga : Int) (g0 : Int → Int) (gb : Int) (g1 : Int → Int) (h0 : INVl base j M) (h1 : CSx base gs gT gN ga g0 gb g1 M) (h2 : RSx gs gT gN ga g0 gb g1 M) (b_w : -2147483648 ≤ w ∧ w ≤ 2147483647) (b_what : -2147483648 ≤ what ∧ what ≤ 2147483647) (b_value : -2147483648 ≤ value ∧ value ≤ 2147483647) : sOk base X G d T96 [vR 0, vI w, vI what, vI value] M (pI (fun v M' => HI base M' ∧ Ftr [(0, 0)] M M' ∧ (INVl base (j + 6) M') ∧ (CSx base gs gT (stN (WV w what value) gN (30 * what + w) value) ga g0 gb g1 M') ∧ (RSx gs gT gN ga g0 gb g1 M') ∧ (-2147483648 ≤ v ∧ v ≤ 2147483647) ∧ (v = stV (WV w what value) gN (30 * what + w)))) := by
  obtain ⟨wa, wb, hK, hR, r1, r2⟩ := h0
  have hK2 := hK
  obtain ⟨hH, hB, hN, hI, hA, hZ, hS, ⟨wn, hn, hT, hG⟩, ha, hb⟩ := hK2
  have hR2 := hR
  obtain ⟨hTB, hWD, hLN, hGK, hVT, hIM⟩ := hR2
  have hs := h1.1
  refine sOk.imp (k96n E (by omega) H w what value (by omega) (by omega) (by omega)) ?_
  rintro v M' ⟨v', e, H', f, q0, q1⟩
  have z := (f.q rfl).z
  have rf := z.ref H.m rfl
  have kr := hR.of rf
  have cs : CSx base gs gT (stN (WV w what value) gN (30 * what + w) value) ga g0 gb g1 M' ∧ (-2147483648 ≤ v' ∧ v' ≤ 2147483647) ∧ v' = stV (WV w what value) gN (30 * what + w) := by
    rcases q1 with ⟨hp, hvv, M1, u, fa⟩ | ⟨hp, hvv, fr⟩
    · have hp2 := hp
      unfold WV at hp2
      have dj : dAs (30 * what + w) := by unfold dAs; omega
      have zn := h1.2.2.2.2.2.2.1
      have bv := H.2 2 (what * 30 + w) 0 60 rfl
      have es : slA (30 * what + w) = (1, 30 * what + w) := slA_w (by omega)
      rw [stN_pos hp, stV_pos hp]
      have ww := h1.wr u dj es rfl (by omega) (by unfold inR; omega) (zn.upd (by omega) (by omega))
      have ww2 := ww.fz (by rw [u.n1]; exact H.m) (fa.q rfl).z rfl
      refine ⟨ww2, by omega, ?_⟩
      have o := h1.2.2.1 _ dj
      rw [cS_at es] at o
      rw [hvv, ← o]
      show gi M 2 (what * 30 + w) = gi M 2 (30 * what + w)
      congr 1
      omega
    · rw [stN_neg hp, stV_neg hp]
      have ww := h1.fz H.m (fr.q rfl).z rfl
      exact ⟨ww, by omega, hvv⟩
  exact ⟨v', e, H', trivial, ⟨wa, wb, hK.st H' z rfl rfl q0, kr, by rw [f.1]; omega, by rw [f.2.1]; omega⟩, cs.1, h2.of rf, cs.2.1, cs.2.2⟩
theorem Y97 {base : Nat} {X : Nat → Option mC} {G : Nat → Value} (E : EnvOK base X G) {d : Nat} (hd : 1 ≤ d) {M : mH} (H : HI base M) (what : Int) (value : Int) (j : Int) (gs : Int) (gT : Int → Int) (gN : Int → Int) (ga : Int) (g0 : Int → Int) (gb : Int) (g1 : Int → Int) (h0 : INVl base j M) (h1 : CSx base gs gT gN ga g0 gb g1 M) (h2 : RSx gs gT gN ga g0 gb g1 M) (b_what : -2147483648 ≤ what ∧ what ≤ 2147483647) (b_value : -2147483648 ≤ value ∧ value ≤ 2147483647) : sOk base X G d T97 [vR 0, vI what, vI value] M (pI (fun v M' => HI base M' ∧ Ftr [(0, 0)] M M' ∧ (INVl base (j + 6) M') ∧ (CSx base gs gT (stN (TV what value) gN (90 + what) value) ga g0 gb g1 M') ∧ (RSx gs gT gN ga g0 gb g1 M') ∧ (-2147483648 ≤ v ∧ v ≤ 2147483647) ∧ (v = stV (TV what value) gN (90 + what)))) := by
  obtain ⟨wa, wb, hK, hR, r1, r2⟩ := h0
  have hK2 := hK
  obtain ⟨hH, hB, hN, hI, hA, hZ, hS, ⟨wn, hn, hT, hG⟩, ha, hb⟩ := hK2
  have hR2 := hR
  obtain ⟨hTB, hWD, hLN, hGK, hVT, hIM⟩ := hR2
  have hs := h1.1
  refine sOk.imp (k97n E (by omega) H what value (by omega) (by omega)) ?_
  rintro v M' ⟨v', e, H', f, q0, q1⟩
  have z := (f.q rfl).z
  have rf := z.ref H.m rfl
  have kr := hR.of rf
  have cs : CSx base gs gT (stN (TV what value) gN (90 + what) value) ga g0 gb g1 M' ∧ (-2147483648 ≤ v' ∧ v' ≤ 2147483647) ∧ v' = stV (TV what value) gN (90 + what) := by
    rcases q1 with ⟨hp, hvv, M1, u, fa⟩ | ⟨hp, hvv, fr⟩
    · have hp2 := hp
      unfold TV at hp2
      have dj : dAs (90 + what) := by unfold dAs; omega
      have zn := h1.2.2.2.2.2.2.1
      have bv := H.2 3 (what) 0 1000 rfl
      have es : slA (90 + what) = (2, 90 + what - 90) := slA_t (by omega)
      rw [stN_pos hp, stV_pos hp]
      have ww := h1.wr u dj es rfl (by omega) (by unfold inR; omega) (zn.upd (by omega) (by omega))
      have ww2 := ww.fz (by rw [u.n1]; exact H.m) (fa.q rfl).z rfl
      refine ⟨ww2, by omega, ?_⟩
      have o := h1.2.2.1 _ dj
      rw [cS_at es] at o
      rw [hvv, ← o]
      show gi M 3 (what) = gi M 3 (90 + what - 90)
      congr 1
      omega
    · rw [stN_neg hp, stV_neg hp]
      have ww := h1.fz H.m (fr.q rfl).z rfl
      exact ⟨ww, by omega, hvv⟩
  exact ⟨v', e, H', trivial, ⟨wa, wb, hK.st H' z rfl rfl q0, kr, by rw [f.1]; omega, by rw [f.2.1]; omega⟩, cs.1, h2.of rf, cs.2.1, cs.2.2⟩
theorem Y98 {base : Nat} {X : Nat → Option mC} {G : Nat → Value} (E : EnvOK base X G) {d : Nat} (hd : 1 ≤ d) {M : mH} (H : HI base M) (x : Int) (j : Int) (gs : Int) (gT : Int → Int) (gN : Int → Int) (ga : Int) (g0 : Int → Int) (gb : Int) (g1 : Int → Int) (h0 : INVl base j M) (h1 : CSx base gs gT gN ga g0 gb g1 M) (h2 : RSx gs gT gN ga g0 gb g1 M) (b_x : -2147483648 ≤ x ∧ x ≤ 2147483647) : sOk base X G d T98 [vR 0, vI x] M (pI (fun v M' => HI base M' ∧ Ftr [(0, 0)] M M' ∧ (INVl base (j + 6) M') ∧ (CSx base gs gT (stN (OV x) gN 473 x) ga g0 gb g1 M') ∧ (RSx gs gT gN ga g0 gb g1 M') ∧ (-2147483648 ≤ v ∧ v ≤ 2147483647) ∧ (v = stV (OV x) gN 473))) := by
  obtain ⟨wa, wb, hK, hR, r1, r2⟩ := h0
  have hK2 := hK
  obtain ⟨hH, hB, hN, hI, hA, hZ, hS, ⟨wn, hn, hT, hG⟩, ha, hb⟩ := hK2
  have hR2 := hR
  obtain ⟨hTB, hWD, hLN, hGK, hVT, hIM⟩ := hR2
  have hs := h1.1
  refine sOk.imp (k98n E (by omega) H x (by omega)) ?_
  rintro v M' ⟨v', e, H', f, q0, q1⟩
  have z := (f.q rfl).z
  have rf := z.ref H.m rfl
  have kr := hR.of rf
  have cs : CSx base gs gT (stN (OV x) gN 473 x) ga g0 gb g1 M' ∧ (-2147483648 ≤ v' ∧ v' ≤ 2147483647) ∧ v' = stV (OV x) gN 473 := by
    rcases q1 with ⟨hp, hvv, M1, u, fa⟩ | ⟨hp, hvv, fr⟩
    · have hp2 := hp
      unfold OV at hp2
      have dj : dAs (473) := by unfold dAs; omega
      have zn := h1.2.2.2.2.2.2.1
      have bv := H.2 1 ((2 : Int)) 0 5 rfl
      have es : slA (473) = (0, 2) := slA_473
      rw [stN_pos hp, stV_pos hp]
      have ww := h1.wr u dj es rfl (by omega) (by unfold inR; omega) (zn.upd (by omega) (by omega))
      have ww2 := ww.fz (by rw [u.n1]; exact H.m) (fa.q rfl).z rfl
      refine ⟨ww2, by omega, ?_⟩
      have o := h1.2.2.1 _ dj
      rw [cS_at es] at o
      rw [hvv, ← o]
    · rw [stN_neg hp, stV_neg hp]
      have ww := h1.fz H.m (fr.q rfl).z rfl
      exact ⟨ww, by omega, hvv⟩
  exact ⟨v', e, H', trivial, ⟨wa, wb, hK.st H' z rfl rfl q0, kr, by rw [f.1]; omega, by rw [f.2.1]; omega⟩, cs.1, h2.of rf, cs.2.1, cs.2.2⟩
theorem Y99 {base : Nat} {X : Nat → Option mC} {G : Nat → Value} (E : EnvOK base X G) {d : Nat} (hd : 2 ≤ d) {M : mH} (H : HI base M) (slot : Int) (values : Int) (length : Int) (j : Int) (gs : Int) (gT : Int → Int) (gN : Int → Int) (ga : Int) (g0 : Int → Int) (gb : Int) (g1 : Int → Int) (h0 : INVl base j M) (h1 : CSx base gs gT gN ga g0 gb g1 M) (h2 : RSx gs gT gN ga g0 gb g1 M) (b_slot : -2147483648 ≤ slot ∧ slot ≤ 2147483647) (b_values : -2147483648 ≤ values ∧ values ≤ 2147483647) (b_length : -2147483648 ≤ length ∧ length ≤ 2147483647) : sOk base X G d T99 [vR 0, vI slot, vI values, vI length] M (pI (fun v M' => HI base M' ∧ Ftr [(0, 0)] M M' ∧ (INVl base (j + 6) M') ∧ (CSx base gs gT (ctN (NV slot values length) gN 99 470 12 slot values length) ga g0 gb g1 M') ∧ (RSx gs gT gN ga g0 gb g1 M') ∧ (-2147483648 ≤ v ∧ v ≤ 2147483647) ∧ (v = ctV (NV slot values length) gN 470 12))) := by
  obtain ⟨wa, wb, hK, hR, r1, r2⟩ := h0
  have hK2 := hK
  obtain ⟨hH, hB, hN, hI, hA, hZ, hS, ⟨wn, hn, hT, hG⟩, ha, hb⟩ := hK2
  have hR2 := hR
  obtain ⟨hTB, hWD, hLN, hGK, hVT, hIM⟩ := hR2
  have hs := h1.1
  refine sOk.imp (k99n E (by omega) H slot values length (by omega) (by omega) (by omega)) ?_
  rintro v M' ⟨v', e, H', f, q0, q1⟩
  have z := (f.q rfl).z
  have rf := z.ref H.m rfl
  have kr := hR.of rf
  have dj : dAs 470 := by unfold dAs; omega
  have cn : gi M 1 4 = gN 470 := by
    have o := h1.2.2.1 470 dj
    rw [cS_at slA_470] at o
    exact o
  have bv := H.2 1 4 0 12 rfl
  have cs : CSx base gs gT (ctN (NV slot values length) gN 99 470 12 slot values length) ga g0 gb g1 M' ∧ (-2147483648 ≤ v' ∧ v' ≤ 2147483647) ∧ v' = ctV (NV slot values length) gN 470 12 := by
    unfold ctN ctV
    rcases q1 with ⟨hp, hl, hvv, M1, u, fa⟩ | ⟨hp, hl, hvv, fr⟩ | ⟨hp, hvv, fr⟩
    · have hp2 := hp
      unfold NV at hp2
      rw [if_pos hp, if_pos hp, if_pos (show gN 470 < 12 by omega), if_pos (show gN 470 < 12 by omega)]
      have w := h1.w4 (c := 3) (f := 4) (b := 99) (i := 470) (lim := 12) (fun k k1 k2 => by rw [slA_o ⟨by omega, by omega⟩]; exact Prod.ext rfl (by dsimp only; omega)) slA_470 dj (fun k k1 k2 => by unfold dAs; omega) (by omega) (by omega) (by omega) (by omega) (show 0 ≤ gi M 1 4 ∧ gi M 1 4 < 12 from ⟨by omega, by omega⟩) (by omega) (by unfold inR; omega) (by unfold inR; omega) (by unfold inR; omega) u
      exact ⟨w.fz (by obtain ⟨A, B, C, u1, u2, u3, u4⟩ := u; rw [u4.n1, u3.n1, u2.n1, u1.n1]; exact H.m) (fa.q rfl).z rfl, by omega, by rw [hvv]; exact cn⟩
    · rw [if_pos hp, if_pos hp, if_neg (show ¬ gN 470 < 12 by omega), if_neg (show ¬ gN 470 < 12 by omega)]
      exact ⟨h1.fz H.m (fr.q rfl).z rfl, by omega, hvv⟩
    · rw [if_neg hp, if_neg hp]
      exact ⟨h1.fz H.m (fr.q rfl).z rfl, by omega, hvv⟩
  exact ⟨v', e, H', trivial, ⟨wa, wb, hK.st H' z rfl rfl q0, kr, by rw [f.1]; omega, by rw [f.2.1]; omega⟩, cs.1, h2.of rf, cs.2.1, cs.2.2⟩
theorem Y100 {base : Nat} {X : Nat → Option mC} {G : Nat → Value} (E : EnvOK base X G) {d : Nat} (hd : 1 ≤ d) {M : mH} (H : HI base M) (x : Int) (j : Int) (gs : Int) (gT : Int → Int) (gN : Int → Int) (ga : Int) (g0 : Int → Int) (gb : Int) (g1 : Int → Int) (h0 : INVl base j M) (h1 : CSx base gs gT gN ga g0 gb g1 M) (h2 : RSx gs gT gN ga g0 gb g1 M) (b_x : -2147483648 ≤ x ∧ x ≤ 2147483647) : sOk base X G d T100 [vR 0, vI x] M (pI (fun v M' => HI base M' ∧ Ftr [(0, 0)] M M' ∧ (INVl base (j + 6) M') ∧ (CSx base gs gT (stN (PV x) gN 474 x) ga g0 gb g1 M') ∧ (RSx gs gT gN ga g0 gb g1 M') ∧ (-2147483648 ≤ v ∧ v ≤ 2147483647) ∧ (v = stV (PV x) gN 474))) := by
  obtain ⟨wa, wb, hK, hR, r1, r2⟩ := h0
  have hK2 := hK
  obtain ⟨hH, hB, hN, hI, hA, hZ, hS, ⟨wn, hn, hT, hG⟩, ha, hb⟩ := hK2
  have hR2 := hR
  obtain ⟨hTB, hWD, hLN, hGK, hVT, hIM⟩ := hR2
  have hs := h1.1
  refine sOk.imp (k100n E (by omega) H x (by omega)) ?_
  rintro v M' ⟨v', e, H', f, q0, q1⟩
  have z := (f.q rfl).z
  have rf := z.ref H.m rfl
  have kr := hR.of rf
  have cs : CSx base gs gT (stN (PV x) gN 474 x) ga g0 gb g1 M' ∧ (-2147483648 ≤ v' ∧ v' ≤ 2147483647) ∧ v' = stV (PV x) gN 474 := by
    rcases q1 with ⟨hp, hvv, M1, u, fa⟩ | ⟨hp, hvv, fr⟩
    · have hp2 := hp
      unfold PV at hp2
      have dj : dAs (474) := by unfold dAs; omega
      have zn := h1.2.2.2.2.2.2.1
      have bv := H.2 1 ((5 : Int)) 0 3 rfl
      have es : slA (474) = (0, 5) := slA_474
      rw [stN_pos hp, stV_pos hp]
      have ww := h1.wr u dj es rfl (by omega) (by unfold inR; omega) (zn.upd (by omega) (by omega))
      have ww2 := ww.fz (by rw [u.n1]; exact H.m) (fa.q rfl).z rfl
      refine ⟨ww2, by omega, ?_⟩
      have o := h1.2.2.1 _ dj
      rw [cS_at es] at o
      rw [hvv, ← o]
    · rw [stN_neg hp, stV_neg hp]
      have ww := h1.fz H.m (fr.q rfl).z rfl
      exact ⟨ww, by omega, hvv⟩
  exact ⟨v', e, H', trivial, ⟨wa, wb, hK.st H' z rfl rfl q0, kr, by rw [f.1]; omega, by rw [f.2.1]; omega⟩, cs.1, h2.of rf, cs.2.1, cs.2.2⟩
theorem Y101 {base : Nat} {X : Nat → Option mC} {G : Nat → Value} (E : EnvOK base X G) {d : Nat} (hd : 2 ≤ d) {M : mH} (H : HI base M) (xa : Int) (xb : Int) (xc : Int) (j : Int) (gs : Int) (gT : Int → Int) (gN : Int → Int) (ga : Int) (g0 : Int → Int) (gb : Int) (g1 : Int → Int) (h0 : INVl base j M) (h1 : CSx base gs gT gN ga g0 gb g1 M) (h2 : RSx gs gT gN ga g0 gb g1 M) (b_xa : -2147483648 ≤ xa ∧ xa ≤ 2147483647) (b_xb : -2147483648 ≤ xb ∧ xb ≤ 2147483647) (b_xc : -2147483648 ≤ xc ∧ xc ≤ 2147483647) : sOk base X G d T101 [vR 0, vI xa, vI xb, vI xc] M (pI (fun v M' => HI base M' ∧ Ftr [(0, 0)] M M' ∧ (INVl base (j + 6) M') ∧ (CSx base 0 gT (seN gT gN gs xa xb xc) ga g0 gb g1 M') ∧ (RSx gs gT gN ga g0 gb g1 M') ∧ (-2147483648 ≤ v ∧ v ≤ 2147483647) ∧ (v = seV gT gN gs xa xb xc))) := by
  obtain ⟨wa, wb, hK, hR, r1, r2⟩ := h0
  have hK2 := hK
  obtain ⟨hH, hB, hN, hI, hA, hZ, hS, ⟨wn, hn, hT, hG⟩, ha, hb⟩ := hK2
  have hR2 := hR
  obtain ⟨hTB, hWD, hLN, hGK, hVT, hIM⟩ := hR2
  have hs := h1.1
  refine sOk.imp (k101n E (by omega) H xa xb xc (by omega) (by omega) (by omega)) ?_
  rintro v M' ⟨v', e, H', f, q0, q1, q2, q3⟩
  have z := (f.q rfl).z
  have rf := z.ref H.m rfl
  have kr := hR.of rf
  have cs := h1.sen H f q2 q3
  exact ⟨v', e, H', trivial, ⟨wa, wb, hK.st H' z rfl rfl q1, kr, by rw [f.1]; omega, by rw [f.2.1]; omega⟩, cs.1, h2.of rf, cs.2.1, cs.2.2⟩
theorem Y102 {base : Nat} {X : Nat → Option mC} {G : Nat → Value} (E : EnvOK base X G) {d : Nat} (hd : 2 ≤ d) {M : mH} (H : HI base M) (xs : Int) (xp : Int) (xw : Int) (j : Int) (gs : Int) (gT : Int → Int) (gN : Int → Int) (ga : Int) (g0 : Int → Int) (gb : Int) (g1 : Int → Int) (h0 : INVl base j M) (h1 : CSx base gs gT gN ga g0 gb g1 M) (h2 : RSx gs gT gN ga g0 gb g1 M) (b_xs : -2147483648 ≤ xs ∧ xs ≤ 2147483647) (b_xp : -2147483648 ≤ xp ∧ xp ≤ 2147483647) (b_xw : -2147483648 ≤ xw ∧ xw ≤ 2147483647) : sOk base X G d T102 [vR 0, vI xs, vI xp, vI xw] M (pI (fun v M' => HI base M' ∧ Ftr [(0, 0)] M M' ∧ (INVl base (j + 6) M') ∧ (CSx base gs gT (stN (GV (gN 469) xs xp xw) gN (147 + 16 * xs + xp) xw) ga g0 gb g1 M') ∧ (RSx gs gT gN ga g0 gb g1 M'))) := by
  obtain ⟨wa, wb, hK, hR, r1, r2⟩ := h0
  have hK2 := hK
  obtain ⟨hH, hB, hN, hI, hA, hZ, hS, ⟨wn, hn, hT, hG⟩, ha, hb⟩ := hK2
  have hR2 := hR
  obtain ⟨hTB, hWD, hLN, hGK, hVT, hIM⟩ := hR2
  have hs := h1.1
  refine sOk.imp (k102n E (by omega) H xs xp xw (by omega) (by omega) (by omega)) ?_
  rintro v M' ⟨v', e, H', f, q0, q1⟩
  have z := (f.q rfl).z
  have rf := z.ref H.m rfl
  have kr := hR.of rf
  have cs : CSx base gs gT (stN (GV (gN 469) xs xp xw) gN (147 + 16 * xs + xp) xw) ga g0 gb g1 M' := by
    have en : gi M 1 10 = gN 469 := h1.n
    rw [en] at q1
    have bn : 0 ≤ gi M 1 10 ∧ gi M 1 10 ≤ 16 := H.2 1 10 0 16 rfl
    rw [en] at bn
    rcases q1 with ⟨hp, hvv, M1, u, fa⟩ | ⟨hp, hvv, fr⟩
    · have hp2 := hp
      unfold GV at hp2
      have dj : dAs (147 + 16 * xs + xp) := by unfold dAs; omega
      have zn := h1.2.2.2.2.2.2.1
      have bv := H.2 8 (xs * 4 + xp) 0 100 rfl
      have es : slA (147 + 16 * xs + xp) = (7, 4 * xs + xp) := slA_g (q := xs) (i := xp) ⟨by omega, by omega⟩ (by omega)
      rw [stN_pos hp]
      have ww := h1.wr u dj es rfl (by omega) (by unfold inR; omega) (zn.upd (by omega) (by omega))
      have ww2 := ww.fz (by rw [u.n1]; exact H.m) (fa.q rfl).z rfl
      exact ww2
    · rw [stN_neg hp]
      have ww := h1.fz H.m (fr.q rfl).z rfl
      exact ww
  exact ⟨v', e, H', trivial, ⟨wa, wb, hK.st H' z rfl rfl q0, kr, by rw [f.1]; omega, by rw [f.2.1]; omega⟩, cs, h2.of rf⟩
theorem Y103 {base : Nat} {X : Nat → Option mC} {G : Nat → Value} (E : EnvOK base X G) {d : Nat} (hd : 2 ≤ d) {M : mH} (H : HI base M) (xs : Int) (xi : Int) (j : Int) (gs : Int) (gT : Int → Int) (gN : Int → Int) (ga : Int) (g0 : Int → Int) (gb : Int) (g1 : Int → Int) (h0 : INVl base j M) (h1 : CSx base gs gT gN ga g0 gb g1 M) (h2 : RSx gs gT gN ga g0 gb g1 M) (b_xs : -2147483648 ≤ xs ∧ xs ≤ 2147483647) (b_xi : -2147483648 ≤ xi ∧ xi ≤ 2147483647) : sOk base X G d T103 [vR 0, vI xs, vI xi] M (pI (fun v M' => HI base M' ∧ Ftr [(0, 0)] M M' ∧ (INVl base (j + 6) M') ∧ (CSx base gs gT gN ga g0 gb g1 M') ∧ (RSx gs gT gN ga g0 gb g1 M') ∧ (-2147483648 ≤ v ∧ v ≤ 2147483647) ∧ (v = rwV gN xs xi))) := by
  obtain ⟨wa, wb, hK, hR, r1, r2⟩ := h0
  have hK2 := hK
  obtain ⟨hH, hB, hN, hI, hA, hZ, hS, ⟨wn, hn, hT, hG⟩, ha, hb⟩ := hK2
  have hR2 := hR
  obtain ⟨hTB, hWD, hLN, hGK, hVT, hIM⟩ := hR2
  have hs := h1.1
  refine sOk.imp (k103n E (by omega) H xs xi (by omega) (by omega)) ?_
  rintro v M' ⟨v', e, rfl, q0, q1, q2, q3⟩
  have vv := (⟨q0, h1.row (by have := H.2 1 10 0 16 rfl; omega) (by have := H.2 6 xs 0 8 rfl; omega) q1 q2 q3⟩ : _ ∧ v' = rwV gN xs xi)
  exact ⟨v', e, H, trivial, ⟨wa, wb, hK, hR, by omega, by omega⟩, h1, h2, vv⟩
theorem Y104 {base : Nat} {X : Nat → Option mC} {G : Nat → Value} (E : EnvOK base X G) {d : Nat} (hd : 2 ≤ d) {M : mH} (H : HI base M) (sentence : Int) (slot : Int) (j : Int) (gs : Int) (gT : Int → Int) (gN : Int → Int) (ga : Int) (g0 : Int → Int) (gb : Int) (g1 : Int → Int) (h0 : INVl base j M) (h1 : CSx base gs gT gN ga g0 gb g1 M) (h2 : RSx gs gT gN ga g0 gb g1 M) (b_sentence : -2147483648 ≤ sentence ∧ sentence ≤ 2147483647) (b_slot : -2147483648 ≤ slot ∧ slot ≤ 2147483647) : sOk base X G d T104 [vR 0, vI sentence, vI slot] M (pI (fun v M' => HI base M' ∧ Ftr [(0, 0)] M M' ∧ (INVl base (j + 6) M') ∧ (CSx base gs gT gN ga g0 gb g1 M') ∧ (RSx gs gT gN ga g0 gb g1 M'))) := by
  obtain ⟨wa, wb, hK, hR, r1, r2⟩ := h0
  have hK2 := hK
  obtain ⟨hH, hB, hN, hI, hA, hZ, hS, ⟨wn, hn, hT, hG⟩, ha, hb⟩ := hK2
  have hR2 := hR
  obtain ⟨hTB, hWD, hLN, hGK, hVT, hIM⟩ := hR2
  have hs := h1.1
  refine sOk.imp (k104 E (by omega) H sentence slot (by omega) (by omega)) ?_
  rintro v M' ⟨v', e, rfl, -⟩
  exact ⟨v', e, H, trivial, ⟨wa, wb, hK, hR, by omega, by omega⟩, h1, h2⟩
theorem Y105 {base : Nat} {X : Nat → Option mC} {G : Nat → Value} (E : EnvOK base X G) {d : Nat} (hd : 2 ≤ d) {M : mH} (H : HI base M) (sentence : Int) (n : Int) (slot : Int) (value : Int) (part : Int) (j : Int) (gs : Int) (gT : Int → Int) (gN : Int → Int) (ga : Int) (g0 : Int → Int) (gb : Int) (g1 : Int → Int) (h0 : INVl base j M) (h1 : CSx base gs gT gN ga g0 gb g1 M) (h2 : RSx gs gT gN ga g0 gb g1 M) (b_sentence : -2147483648 ≤ sentence ∧ sentence ≤ 2147483647) (b_n : -2147483648 ≤ n ∧ n ≤ 2147483647) (b_slot : -2147483648 ≤ slot ∧ slot ≤ 2147483647) (b_value : -2147483648 ≤ value ∧ value ≤ 2147483647) (b_part : -2147483648 ≤ part ∧ part ≤ 2147483647) : sOk base X G d T105 [vR 0, vI sentence, vI n, vI slot, vI value, vI part] M (pI (fun v M' => HI base M' ∧ Ftr [(0, 0)] M M' ∧ (INVl base (j + 6) M') ∧ (CSx base gs gT gN ga g0 gb g1 M') ∧ (RSx gs gT gN ga g0 gb g1 M'))) := by
  obtain ⟨wa, wb, hK, hR, r1, r2⟩ := h0
  have hK2 := hK
  obtain ⟨hH, hB, hN, hI, hA, hZ, hS, ⟨wn, hn, hT, hG⟩, ha, hb⟩ := hK2
  have hR2 := hR
  obtain ⟨hTB, hWD, hLN, hGK, hVT, hIM⟩ := hR2
  have hs := h1.1
  refine sOk.imp (k105 E (by omega) H sentence n slot value part (by omega) (by omega) (by omega) (by omega) (by omega)) ?_
  rintro v M' ⟨v', e, rfl, -⟩
  exact ⟨v', e, H, trivial, ⟨wa, wb, hK, hR, by omega, by omega⟩, h1, h2⟩
theorem Y106 {base : Nat} {X : Nat → Option mC} {G : Nat → Value} (E : EnvOK base X G) {d : Nat} (hd : 2 ≤ d) {M : mH} (H : HI base M) (sentence : Int) (n : Int) (slot : Int) (j : Int) (gs : Int) (gT : Int → Int) (gN : Int → Int) (ga : Int) (g0 : Int → Int) (gb : Int) (g1 : Int → Int) (h0 : INVl base j M) (h1 : CSx base gs gT gN ga g0 gb g1 M) (h2 : RSx gs gT gN ga g0 gb g1 M) (b_sentence : -2147483648 ≤ sentence ∧ sentence ≤ 2147483647) (b_n : -2147483648 ≤ n ∧ n ≤ 2147483647) (b_slot : -2147483648 ≤ slot ∧ slot ≤ 2147483647) : sOk base X G d T106 [vR 0, vI sentence, vI n, vI slot] M (pI (fun v M' => HI base M' ∧ Ftr [(0, 0)] M M' ∧ (INVl base (j + 6) M') ∧ (CSx base gs gT gN ga g0 gb g1 M') ∧ (RSx gs gT gN ga g0 gb g1 M'))) := by
  obtain ⟨wa, wb, hK, hR, r1, r2⟩ := h0
  have hK2 := hK
  obtain ⟨hH, hB, hN, hI, hA, hZ, hS, ⟨wn, hn, hT, hG⟩, ha, hb⟩ := hK2
  have hR2 := hR
  obtain ⟨hTB, hWD, hLN, hGK, hVT, hIM⟩ := hR2
  have hs := h1.1
  refine sOk.imp (k106 E (by omega) H sentence n slot (by omega) (by omega) (by omega)) ?_
  rintro v M' ⟨v', e, rfl, -⟩
  exact ⟨v', e, H, trivial, ⟨wa, wb, hK, hR, by omega, by omega⟩, h1, h2⟩
theorem Y107 {base : Nat} {X : Nat → Option mC} {G : Nat → Value} (E : EnvOK base X G) {d : Nat} (hd : 176 ≤ d) {M : mH} (H : HI base M) (j : Int) (gs : Int) (gT : Int → Int) (gN : Int → Int) (ga : Int) (g0 : Int → Int) (gb : Int) (g1 : Int → Int) (h0 : INVl base j M) (h1 : CSx base gs gT gN ga g0 gb g1 M) (h2 : RSx gs gT gN ga g0 gb g1 M) : sOk base X G d T107 [vR 0] M (pL (fun v M' => HI base M' ∧ Ftr [(0, 0)] M M' ∧ (INVl base (j + 6) M') ∧ (CSx base gs gT gN ga g0 gb g1 M') ∧ (RSx gs gT gN ga g0 gb g1 M'))) := by
  obtain ⟨wa, wb, hK, hR, r1, r2⟩ := h0
  have hK2 := hK
  obtain ⟨hH, hB, hN, hI, hA, hZ, hS, ⟨wn, hn, hT, hG⟩, ha, hb⟩ := hK2
  have hR2 := hR
  obtain ⟨hTB, hWD, hLN, hGK, hVT, hIM⟩ := hR2
  have hs := h1.1
  refine sOk.imp (k107k E (by omega) H wb hZ (by omega)) ?_
  rintro v M' ⟨v', e, H', f, q0⟩
  have z := f
  have rf := z.ref H.m rfl
  have kr := hR.of rf
  obtain ⟨w2, n2, hb2, hrn, htr, hgt, hrm⟩ := q0
  unfold RM at hrm
  exact ⟨v', e, H', trivial, ⟨wa, w2, hK.best H' z rfl hrn (by omega) (by omega) htr hgt, kr, by omega, by omega⟩, h1.fz H.m z rfl, h2.of rf⟩
theorem Y108 {base : Nat} {X : Nat → Option mC} {G : Nat → Value} (E : EnvOK base X G) {d : Nat} (hd : 178 ≤ d) {M : mH} (H : HI base M) (sentence : Int) (second : Int) (said : Int) (j : Int) (gs : Int) (gT : Int → Int) (gN : Int → Int) (ga : Int) (g0 : Int → Int) (gb : Int) (g1 : Int → Int) (h0 : INVl base j M) (h1 : CSx base gs gT gN ga g0 gb g1 M) (h2 : RSx gs gT gN ga g0 gb g1 M) (b_sentence : -2147483648 ≤ sentence ∧ sentence ≤ 2147483647) (b_second : -2147483648 ≤ second ∧ second ≤ 2147483647) (b_said : -2147483648 ≤ said ∧ said ≤ 2147483647) : sOk base X G d T108 [vR 0, vI sentence, vI second, vI said] M (pI (fun v M' => HI base M' ∧ Ftr [(0, 0)] M M' ∧ (INVl base (j + 6) M') ∧ (CSx base gs gT gN ga g0 gb g1 M') ∧ (RSx gs gT gN ga g0 gb g1 M'))) := by
  obtain ⟨wa, wb, hK, hR, r1, r2⟩ := h0
  have hK2 := hK
  obtain ⟨hH, hB, hN, hI, hA, hZ, hS, ⟨wn, hn, hT, hG⟩, ha, hb⟩ := hK2
  have hR2 := hR
  obtain ⟨hTB, hWD, hLN, hGK, hVT, hIM⟩ := hR2
  have hs := h1.1
  refine sOk.imp (k108z E (by omega) H sentence second said wn (hZ.rw hn.2) hT hG (by omega) (by omega) (by omega) (by omega)) ?_
  rintro v M' ⟨v', e, H', f, q0⟩
  have z := f.z
  have rf := z.ref H.m rfl
  have kr := hR.of rf
  exact ⟨v', e, H', trivial, ⟨wa, wb, hK.keep H' z rfl rfl, kr, by rw [f.1]; omega, by rw [f.2.1]; omega⟩, h1.fz H.m z rfl, h2.of rf⟩
theorem Y109 {base : Nat} {X : Nat → Option mC} {G : Nat → Value} (E : EnvOK base X G) {d : Nat} (hd : 178 ≤ d) {M : mH} (H : HI base M) (sentence : Int) (second : Int) (j : Int) (gs : Int) (gT : Int → Int) (gN : Int → Int) (ga : Int) (g0 : Int → Int) (gb : Int) (g1 : Int → Int) (h0 : INVl base j M) (h1 : CSx base gs gT gN ga g0 gb g1 M) (h2 : RSx gs gT gN ga g0 gb g1 M) (b_sentence : -2147483648 ≤ sentence ∧ sentence ≤ 2147483647) (b_second : -2147483648 ≤ second ∧ second ≤ 2147483647) : sOk base X G d T109 [vR 0, vI sentence, vI second] M (pI (fun v M' => HI base M' ∧ Ftr [(0, 0)] M M' ∧ (INVl base (j + 6) M') ∧ (CSx base gs gT gN ga g0 gb g1 M') ∧ (RSx gs gT gN ga g0 gb g1 M'))) := by
  obtain ⟨wa, wb, hK, hR, r1, r2⟩ := h0
  have hK2 := hK
  obtain ⟨hH, hB, hN, hI, hA, hZ, hS, ⟨wn, hn, hT, hG⟩, ha, hb⟩ := hK2
  have hR2 := hR
  obtain ⟨hTB, hWD, hLN, hGK, hVT, hIM⟩ := hR2
  have hs := h1.1
  refine sOk.imp (k109k E (by omega) H sentence second wn (hZ.rw hn.2) hT hG (by omega) (by omega) (by omega)) ?_
  rintro v M' ⟨v', e, H', f, q0⟩
  have z := f.z
  have rf := z.ref H.m rfl
  have kr := hR.of rf
  exact ⟨v', e, H', trivial, ⟨wa, wb, hK.keep H' z rfl rfl, kr, by rw [f.1]; omega, by rw [f.2.1]; omega⟩, h1.fz H.m z rfl, h2.of rf⟩
theorem Y110 {base : Nat} {X : Nat → Option mC} {G : Nat → Value} (E : EnvOK base X G) {d : Nat} (hd : 1 ≤ d) {M : mH} (H : HI base M) (xa : Int) (xb : Int) (xc : Int) (xd : Int) (xe : Int) (j : Int) (gs : Int) (gT : Int → Int) (gN : Int → Int) (ga : Int) (g0 : Int → Int) (gb : Int) (g1 : Int → Int) (h0 : INVl base j M) (h1 : CSx base gs gT gN ga g0 gb g1 M) (h2 : RSx gs gT gN ga g0 gb g1 M) (b_xa : -2147483648 ≤ xa ∧ xa ≤ 2147483647) (b_xb : -2147483648 ≤ xb ∧ xb ≤ 2147483647) (b_xc : -2147483648 ≤ xc ∧ xc ≤ 2147483647) (b_xd : -2147483648 ≤ xd ∧ xd ≤ 2147483647) (b_xe : -2147483648 ≤ xe ∧ xe ≤ 2147483647) : sOk base X G d T110 [vR 0, vI xa, vI xb, vI xc, vI xd, vI xe] M (pI (fun v M' => HI base M' ∧ Ftr [(0, 0)] M M' ∧ (INVl base (j + 6) M') ∧ (CSx base (fdS gs) (fdT gT gs xa xb xc xd xe) gN ga g0 gb g1 M') ∧ (RSx gs gT gN ga g0 gb g1 M') ∧ (-2147483648 ≤ v ∧ v ≤ 2147483647) ∧ (v = fdV gs))) := by
  obtain ⟨wa, wb, hK, hR, r1, r2⟩ := h0
  have hK2 := hK
  obtain ⟨hH, hB, hN, hI, hA, hZ, hS, ⟨wn, hn, hT, hG⟩, ha, hb⟩ := hK2
  have hR2 := hR
  obtain ⟨hTB, hWD, hLN, hGK, hVT, hIM⟩ := hR2
  have hs := h1.1
  refine sOk.imp (k110n E (by omega) H xa xb xc xd xe (by omega) (by omega) (by omega) (by omega) (by omega)) ?_
  rintro v M' ⟨v', e, H', f, q0, q1, q2, q3, q4⟩
  have z := (f.q rfl).z
  have rf := z.ref H.m rfl
  have kr := hR.of rf
  have cs : CSx base (fdS gs) (fdT gT gs xa xb xc xd xe) gN ga g0 gb g1 M' := by
    unfold fdS fdT
    by_cases c : gs ≤ 380
    · rw [if_pos c, if_pos c]
      refine h1.fed H.m z rfl (by omega) (fun i p q => ?_)
      rw [q3 (by omega) i p, hs]
      exact fdN_cong (h1.2.1 i p q)
    · rw [if_neg c, if_neg c]
      exact h1.tape H.m (((q4) (by omega)).q rfl).z rfl (by omega)
  exact ⟨v', e, H', trivial, ⟨wa, wb, hK.keep H' z rfl rfl, kr, by rw [f.1]; omega, by rw [f.2.1]; omega⟩, cs, h2.of rf, q0, (by unfold fdV; split <;> omega)⟩
theorem Y111 {base : Nat} {X : Nat → Option mC} {G : Nat → Value} (E : EnvOK base X G) {d : Nat} (hd : 1 ≤ d) {M : mH} (H : HI base M) (n : Int) (j : Int) (gs : Int) (gT : Int → Int) (gN : Int → Int) (ga : Int) (g0 : Int → Int) (gb : Int) (g1 : Int → Int) (h0 : INVl base j M) (h1 : CSx base gs gT gN ga g0 gb g1 M) (h2 : RSx gs gT gN ga g0 gb g1 M) (b_n : -2147483648 ≤ n ∧ n ≤ 2147483647) : sOk base X G d T111 [vR 0, vI n] M (pI (fun v M' => HI base M' ∧ Ftr [(0, 0)] M M' ∧ (INVl base (j + 6) M') ∧ (CSx base (enS gs n) gT gN ga g0 gb g1 M') ∧ (RSx gs gT gN ga g0 gb g1 M') ∧ (-2147483648 ≤ v ∧ v ≤ 2147483647) ∧ (v = enV gs n))) := by
  obtain ⟨wa, wb, hK, hR, r1, r2⟩ := h0
  have hK2 := hK
  obtain ⟨hH, hB, hN, hI, hA, hZ, hS, ⟨wn, hn, hT, hG⟩, ha, hb⟩ := hK2
  have hR2 := hR
  obtain ⟨hTB, hWD, hLN, hGK, hVT, hIM⟩ := hR2
  have hs := h1.1
  refine sOk.imp (k111e E (by omega) H n (by omega)) ?_
  rintro v M' ⟨v', e, H', f, q0, q1, q2⟩
  have z := (f.q rfl).z
  have rf := z.ref H.m rfl
  have kr := hR.of rf
  exact ⟨v', e, H', trivial, ⟨wa, wb, hK.keep H' z rfl rfl, kr, by rw [f.1]; omega, by rw [f.2.1]; omega⟩, h1.tape H.m z rfl (by unfold enS; split <;> omega), h2.of rf, q0, (by unfold enV; split <;> omega)⟩
theorem Y112 {base : Nat} {X : Nat → Option mC} {G : Nat → Value} (E : EnvOK base X G) {d : Nat} (hd : 60 ≤ d) {M : mH} (H : HI base M) (j : Int) (gs : Int) (gT : Int → Int) (gN : Int → Int) (ga : Int) (g0 : Int → Int) (gb : Int) (g1 : Int → Int) (h0 : INVl base j M) (h1 : CSx base gs gT gN ga g0 gb g1 M) (h2 : RSx gs gT gN ga g0 gb g1 M) : sOk base X G d T112 [vR 0] M (pI (fun v M' => HI base M' ∧ Ftr [(0, 0)] M M' ∧ (INVl base (j + 6) M') ∧ (CSx base 0 gT gN ga g0 gb g1 M') ∧ (RSx gs gT gN ga g0 gb g1 M'))) := by
  obtain ⟨wa, wb, hK, hR, r1, r2⟩ := h0
  have hK2 := hK
  obtain ⟨hH, hB, hN, hI, hA, hZ, hS, ⟨wn, hn, hT, hG⟩, ha, hb⟩ := hK2
  have hR2 := hR
  obtain ⟨hTB, hWD, hLN, hGK, hVT, hIM⟩ := hR2
  have hs := h1.1
  refine sOk.imp (k112e E (by omega) H  hB hN) ?_
  rintro v M' ⟨v', e, H', B', N', f, s0, g3⟩
  have z := f.z rfl
  have f1 := f.1.2
  have f2 := f.2.1
  have rf := z.ref H.m rfl
  exact ⟨v', e, H', trivial, ⟨wa, wb, hK.hab H' B' N' z rfl s0, hR.of rf, by omega, by omega⟩, h1.tape H.m z rfl g3, h2.of rf⟩
theorem Y113 {base : Nat} {X : Nat → Option mC} {G : Nat → Value} (E : EnvOK base X G) {d : Nat} (hd : 0 ≤ d) {M : mH} (H : HI base M) (j : Int) (gs : Int) (gT : Int → Int) (gN : Int → Int) (ga : Int) (g0 : Int → Int) (gb : Int) (g1 : Int → Int) (h0 : INVl base j M) (h1 : CSx base gs gT gN ga g0 gb g1 M) (h2 : RSx gs gT gN ga g0 gb g1 M) : sOk base X G d T113 [vR 0] M (pI (fun v M' => HI base M' ∧ Ftr [(0, 0)] M M' ∧ (INVl base (j + 6) M') ∧ (CSx base gs gT gN ga g0 gb g1 M') ∧ (RSx gs gT gN ga g0 gb g1 M'))) := by
  obtain ⟨wa, wb, hK, hR, r1, r2⟩ := h0
  have hK2 := hK
  obtain ⟨hH, hB, hN, hI, hA, hZ, hS, ⟨wn, hn, hT, hG⟩, ha, hb⟩ := hK2
  have hR2 := hR
  obtain ⟨hTB, hWD, hLN, hGK, hVT, hIM⟩ := hR2
  have hs := h1.1
  refine sOk.imp (k113 E (by omega) H  ) ?_
  rintro v M' ⟨v', e, rfl, -⟩
  exact ⟨v', e, H, trivial, ⟨wa, wb, hK, hR, by omega, by omega⟩, h1, h2⟩
theorem Y114 {base : Nat} {X : Nat → Option mC} {G : Nat → Value} (E : EnvOK base X G) {d : Nat} (hd : 7 ≤ d) {M : mH} (H : HI base M) (text : Int) (sentence : Int) (j : Int) (gs : Int) (gT : Int → Int) (gN : Int → Int) (ga : Int) (g0 : Int → Int) (gb : Int) (g1 : Int → Int) (h0 : INVl base j M) (h1 : CSx base gs gT gN ga g0 gb g1 M) (h2 : RSx gs gT gN ga g0 gb g1 M) (b_text : -2147483648 ≤ text ∧ text ≤ 2147483647) (b_sentence : -2147483648 ≤ sentence ∧ sentence ≤ 2147483647) : sOk base X G d T114 [vR 0, vI text, vI sentence] M (pI (fun v M' => HI base M' ∧ Ftr [(0, 0)] M M' ∧ (INVl base (j + 6) M') ∧ (CSx base gs gT gN ga g0 gb g1 M') ∧ (RSx gs gT gN ga g0 gb g1 M'))) := by
  obtain ⟨wa, wb, hK, hR, r1, r2⟩ := h0
  have hK2 := hK
  obtain ⟨hH, hB, hN, hI, hA, hZ, hS, ⟨wn, hn, hT, hG⟩, ha, hb⟩ := hK2
  have hR2 := hR
  obtain ⟨hTB, hWD, hLN, hGK, hVT, hIM⟩ := hR2
  have hs := h1.1
  refine sOk.imp (k114s E (by omega) H text sentence hB hS (by omega) (by omega)) ?_
  rintro v M' ⟨v', e, H', f, q0, q1⟩
  have z := (f.q rfl).z
  have rf := z.ref H.m rfl
  have kr := hR.of rf
  exact ⟨v', e, H', trivial, ⟨wa, wb, hK.sf H' z rfl q1, kr, by rw [f.1]; omega, by rw [f.2.1]; omega⟩, h1.fz H.m z rfl, h2.of rf⟩
theorem Y115 {base : Nat} {X : Nat → Option mC} {G : Nat → Value} (E : EnvOK base X G) {d : Nat} (hd : 1 ≤ d) {M : mH} (H : HI base M) (second : Int) (j : Int) (gs : Int) (gT : Int → Int) (gN : Int → Int) (ga : Int) (g0 : Int → Int) (gb : Int) (g1 : Int → Int) (h0 : INVl base j M) (h1 : CSx base gs gT gN ga g0 gb g1 M) (h2 : RSx gs gT gN ga g0 gb g1 M) (b_second : -2147483648 ≤ second ∧ second ≤ 2147483647) : sOk base X G d T115 [vR 0, vI second] M (pI (fun v M' => HI base M' ∧ Ftr [(0, 0)] M M' ∧ (INVl base (j + 6) M') ∧ (CSx base gs gT gN ga g0 gb g1 M') ∧ (RSx gs gT gN ga g0 gb g1 M'))) := by
  obtain ⟨wa, wb, hK, hR, r1, r2⟩ := h0
  have hK2 := hK
  obtain ⟨hH, hB, hN, hI, hA, hZ, hS, ⟨wn, hn, hT, hG⟩, ha, hb⟩ := hK2
  have hR2 := hR
  obtain ⟨hTB, hWD, hLN, hGK, hVT, hIM⟩ := hR2
  have hs := h1.1
  refine sOk.imp (k115 E (by omega) H second (by omega)) ?_
  rintro v M' ⟨v', e, rfl, -⟩
  exact ⟨v', e, H, trivial, ⟨wa, wb, hK, hR, by omega, by omega⟩, h1, h2⟩
theorem Y116 {base : Nat} {X : Nat → Option mC} {G : Nat → Value} (E : EnvOK base X G) {d : Nat} (hd : 7 ≤ d) {M : mH} (H : HI base M) (text : Int) (j : Int) (gs : Int) (gT : Int → Int) (gN : Int → Int) (ga : Int) (g0 : Int → Int) (gb : Int) (g1 : Int → Int) (h0 : INVl base j M) (h1 : CSx base gs gT gN ga g0 gb g1 M) (h2 : RSx gs gT gN ga g0 gb g1 M) (b_text : -2147483648 ≤ text ∧ text ≤ 2147483647) : sOk base X G d T116 [vR 0, vI text] M (pL (fun v M' => HI base M' ∧ Ftr [(0, 0)] M M' ∧ (INVl base (j + 6) M') ∧ (CSx base gs gT gN ga g0 gb g1 M') ∧ (RSx gs gT gN ga g0 gb g1 M'))) := by
  obtain ⟨wa, wb, hK, hR, r1, r2⟩ := h0
  have hK2 := hK
  obtain ⟨hH, hB, hN, hI, hA, hZ, hS, ⟨wn, hn, hT, hG⟩, ha, hb⟩ := hK2
  have hR2 := hR
  obtain ⟨hTB, hWD, hLN, hGK, hVT, hIM⟩ := hR2
  have hs := h1.1
  refine sOk.imp (k116s E (by omega) H text hB hS (by omega)) ?_
  rintro v M' ⟨v', e, H', f, q0⟩
  have z := (f.q rfl).z
  have rf := z.ref H.m rfl
  have kr := hR.of rf
  exact ⟨v', e, H', trivial, ⟨wa, wb, hK.sf H' z rfl q0, kr, by rw [f.1]; omega, by rw [f.2.1]; omega⟩, h1.fz H.m z rfl, h2.of rf⟩
theorem Y117 {base : Nat} {X : Nat → Option mC} {G : Nat → Value} (E : EnvOK base X G) {d : Nat} (hd : 176 ≤ d) {M : mH} (H : HI base M) (j : Int) (gs : Int) (gT : Int → Int) (gN : Int → Int) (ga : Int) (g0 : Int → Int) (gb : Int) (g1 : Int → Int) (h0 : INVl base j M) (h1 : CSx base gs gT gN ga g0 gb g1 M) (h2 : RSx gs gT gN ga g0 gb g1 M) : sOk base X G d T117 [vR 0] M (pL (fun v M' => HI base M' ∧ Ftr [(0, 0)] M M' ∧ (INVl base (j + 6) M') ∧ (CSx base gs gT gN ga g0 gb g1 M') ∧ (RSx gs gT gN ga g0 gb g1 M'))) := by
  obtain ⟨wa, wb, hK, hR, r1, r2⟩ := h0
  have hK2 := hK
  obtain ⟨hH, hB, hN, hI, hA, hZ, hS, ⟨wn, hn, hT, hG⟩, ha, hb⟩ := hK2
  have hR2 := hR
  obtain ⟨hTB, hWD, hLN, hGK, hVT, hIM⟩ := hR2
  have hs := h1.1
  refine sOk.imp (k117k E (by omega) H wa hS hA (by omega)) ?_
  rintro v M' ⟨v', e, H', f, q0, q1⟩
  have z := f
  have rf := z.ref H.m rfl
  have kr := hR.of rf
  obtain ⟨w2, hb2, hrn, hrm⟩ := q0
  unfold RM at hrm
  exact ⟨v', e, H', trivial, ⟨w2, wb, hK.solv H' z rfl hrn (by omega) (fun _ => q1), kr, by omega, by omega⟩, h1.fz H.m z rfl, h2.of rf⟩
theorem Y118 {base : Nat} {X : Nat → Option mC} {G : Nat → Value} (E : EnvOK base X G) {d : Nat} (hd : 177 ≤ d) {M : mH} (H : HI base M) (word : Int) (j : Int) (gs : Int) (gT : Int → Int) (gN : Int → Int) (ga : Int) (g0 : Int → Int) (gb : Int) (g1 : Int → Int) (h0 : INVl base j M) (h1 : CSx base gs gT gN ga g0 gb g1 M) (h2 : RSx gs gT gN ga g0 gb g1 M) (b_word : -2147483648 ≤ word ∧ word ≤ 2147483647) : sOk base X G d T118 [vR 0, vI word] M (pL (fun v M' => HI base M' ∧ Ftr [(0, 0)] M M' ∧ (INVl base (j + 6) M') ∧ (CSx base gs gT gN ga g0 gb g1 M') ∧ (RSx gs gT gN ga g0 gb g1 M'))) := by
  obtain ⟨wa, wb, hK, hR, r1, r2⟩ := h0
  have hK2 := hK
  obtain ⟨hH, hB, hN, hI, hA, hZ, hS, ⟨wn, hn, hT, hG⟩, ha, hb⟩ := hK2
  have hR2 := hR
  obtain ⟨hTB, hWD, hLN, hGK, hVT, hIM⟩ := hR2
  have hs := h1.1
  refine sOk.imp (k118k E (by omega) H word wa hS hA (by omega) (by omega)) ?_
  rintro v M' ⟨v', e, H', f, q0, q1⟩
  have z := f
  have rf := z.ref H.m rfl
  have kr := hR.of rf
  obtain ⟨w2, hb2, hrn, hrm⟩ := q0
  unfold RM at hrm
  exact ⟨v', e, H', trivial, ⟨w2, wb, hK.solv H' z rfl hrn (by omega) q1, kr, by omega, by omega⟩, h1.fz H.m z rfl, h2.of rf⟩
theorem Y119 {base : Nat} {X : Nat → Option mC} {G : Nat → Value} (E : EnvOK base X G) {d : Nat} (hd : 1 ≤ d) {M : mH} (H : HI base M) (lag : Int) (keeps : Int) (limit : Int) (j : Int) (gs : Int) (gT : Int → Int) (gN : Int → Int) (ga : Int) (g0 : Int → Int) (gb : Int) (g1 : Int → Int) (h0 : INVl base j M) (h1 : CSx base gs gT gN ga g0 gb g1 M) (h2 : RSx gs gT gN ga g0 gb g1 M) (b_lag : -2147483648 ≤ lag ∧ lag ≤ 2147483647) (b_keeps : -2147483648 ≤ keeps ∧ keeps ≤ 2147483647) (b_limit : -2147483648 ≤ limit ∧ limit ≤ 2147483647) : sOk base X G d T119 [vR 0, vI lag, vI keeps, vI limit] M (pI (fun v M' => HI base M' ∧ Ftr [(0, 0)] M M' ∧ (INVl base (j + 6) M') ∧ (CSx base gs gT (ctN (BV lag keeps limit) gN 391 472 6 lag keeps limit) ga g0 gb g1 M') ∧ (RSx gs gT gN ga g0 gb g1 M') ∧ (-2147483648 ≤ v ∧ v ≤ 2147483647) ∧ (v = ctV (BV lag keeps limit) gN 472 6))) := by
  obtain ⟨wa, wb, hK, hR, r1, r2⟩ := h0
  have hK2 := hK
  obtain ⟨hH, hB, hN, hI, hA, hZ, hS, ⟨wn, hn, hT, hG⟩, ha, hb⟩ := hK2
  have hR2 := hR
  obtain ⟨hTB, hWD, hLN, hGK, hVT, hIM⟩ := hR2
  have hs := h1.1
  refine sOk.imp (k119n E (by omega) H lag keeps limit (by omega) (by omega) (by omega)) ?_
  rintro v M' ⟨v', e, H', f, q0, q1⟩
  have z := (f.q rfl).z
  have rf := z.ref H.m rfl
  have kr := hR.of rf
  have dj : dAs 472 := by unfold dAs; omega
  have cn : gi M 1 14 = gN 472 := by
    have o := h1.2.2.1 472 dj
    rw [cS_at slA_472] at o
    exact o
  have bv := H.2 1 14 0 6 rfl
  have cs : CSx base gs gT (ctN (BV lag keeps limit) gN 391 472 6 lag keeps limit) ga g0 gb g1 M' ∧ (-2147483648 ≤ v' ∧ v' ≤ 2147483647) ∧ v' = ctV (BV lag keeps limit) gN 472 6 := by
    unfold ctN ctV
    rcases q1 with ⟨hp, hl, hvv, M1, u, fa⟩ | ⟨hp, hl, hvv, fr⟩ | ⟨hp, hvv, fr⟩
    · have hp2 := hp
      unfold BV at hp2
      rw [if_pos hp, if_pos hp, if_pos (show gN 472 < 6 by omega), if_pos (show gN 472 < 6 by omega)]
      have w := h1.w4 (c := 9) (f := 14) (b := 391) (i := 472) (lim := 6) (fun k k1 k2 => by rw [slA_b ⟨by omega, by omega⟩]; exact Prod.ext rfl (by dsimp only; omega)) slA_472 dj (fun k k1 k2 => by unfold dAs; omega) (by omega) (by omega) (by omega) (by omega) (show 0 ≤ gi M 1 14 ∧ gi M 1 14 < 6 from ⟨by omega, by omega⟩) (by omega) (by unfold inR; omega) (by unfold inR; omega) (by unfold inR; omega) u
      exact ⟨w.fz (by obtain ⟨A, B, C, u1, u2, u3, u4⟩ := u; rw [u4.n1, u3.n1, u2.n1, u1.n1]; exact H.m) (fa.q rfl).z rfl, by omega, by rw [hvv]; exact cn⟩
    · rw [if_pos hp, if_pos hp, if_neg (show ¬ gN 472 < 6 by omega), if_neg (show ¬ gN 472 < 6 by omega)]
      exact ⟨h1.fz H.m (fr.q rfl).z rfl, by omega, hvv⟩
    · rw [if_neg hp, if_neg hp]
      exact ⟨h1.fz H.m (fr.q rfl).z rfl, by omega, hvv⟩
  exact ⟨v', e, H', trivial, ⟨wa, wb, hK.st H' z rfl rfl q0, kr, by rw [f.1]; omega, by rw [f.2.1]; omega⟩, cs.1, h2.of rf, cs.2.1, cs.2.2⟩
theorem Y120 {base : Nat} {X : Nat → Option mC} {G : Nat → Value} (E : EnvOK base X G) {d : Nat} (hd : 9 ≤ d) {M : mH} (H : HI base M) (j : Int) (gs : Int) (gT : Int → Int) (gN : Int → Int) (ga : Int) (g0 : Int → Int) (gb : Int) (g1 : Int → Int) (h0 : INVl base j M) (h1 : CSx base gs gT gN ga g0 gb g1 M) (h2 : RSx gs gT gN ga g0 gb g1 M) : sOk base X G d T120 [vR 0] M (pI (fun v M' => HI base M' ∧ Ftr [(0, 0)] M M' ∧ (INVl base (j + 6) M') ∧ (CSx base gs gT gN ga g0 gb g1 M') ∧ (RSx gs gT gN ga g0 gb g1 M'))) := by
  obtain ⟨wa, wb, hK, hR, r1, r2⟩ := h0
  have hK2 := hK
  obtain ⟨hH, hB, hN, hI, hA, hZ, hS, ⟨wn, hn, hT, hG⟩, ha, hb⟩ := hK2
  have hR2 := hR
  obtain ⟨hTB, hWD, hLN, hGK, hVT, hIM⟩ := hR2
  have hs := h1.1
  refine sOk.imp (k120 E (by omega) H  ) ?_
  rintro v M' ⟨v', e, H', f⟩
  have z := (f.q rfl).z
  have rf := z.ref H.m rfl
  have kr := hR.of rf
  exact ⟨v', e, H', trivial, ⟨wa, wb, hK.keep H' z rfl rfl, kr, by rw [f.1]; omega, by rw [f.2.1]; omega⟩, h1.fz H.m z rfl, h2.of rf⟩
theorem Y121 {base : Nat} {X : Nat → Option mC} {G : Nat → Value} (E : EnvOK base X G) {d : Nat} (hd : 1 ≤ d) {M : mH} (H : HI base M) (i : Int) (j : Int) (gs : Int) (gT : Int → Int) (gN : Int → Int) (ga : Int) (g0 : Int → Int) (gb : Int) (g1 : Int → Int) (h0 : INVl base j M) (h1 : CSx base gs gT gN ga g0 gb g1 M) (h2 : RSx gs gT gN ga g0 gb g1 M) (b_i : -2147483648 ≤ i ∧ i ≤ 2147483647) : sOk base X G d T121 [vR 0, vI i] M (pI (fun v M' => HI base M' ∧ Ftr [(0, 0)] M M' ∧ (INVl base (j + 6) M') ∧ (CSx base gs gT gN ga g0 gb g1 M') ∧ (RSx gs gT gN ga g0 gb g1 M'))) := by
  obtain ⟨wa, wb, hK, hR, r1, r2⟩ := h0
  have hK2 := hK
  obtain ⟨hH, hB, hN, hI, hA, hZ, hS, ⟨wn, hn, hT, hG⟩, ha, hb⟩ := hK2
  have hR2 := hR
  obtain ⟨hTB, hWD, hLN, hGK, hVT, hIM⟩ := hR2
  have hs := h1.1
  refine sOk.imp (k121 E (by omega) H i (by omega)) ?_
  rintro v M' ⟨v', e, rfl, -⟩
  exact ⟨v', e, H, trivial, ⟨wa, wb, hK, hR, by omega, by omega⟩, h1, h2⟩
theorem Y122 {base : Nat} {X : Nat → Option mC} {G : Nat → Value} (E : EnvOK base X G) {d : Nat} (hd : 1 ≤ d) {M : mH} (H : HI base M) (minute : Int) (cost : Int) (j : Int) (gs : Int) (gT : Int → Int) (gN : Int → Int) (ga : Int) (g0 : Int → Int) (gb : Int) (g1 : Int → Int) (h0 : INVl base j M) (h1 : CSx base gs gT gN ga g0 gb g1 M) (h2 : RSx gs gT gN ga g0 gb g1 M) (b_minute : -2147483648 ≤ minute ∧ minute ≤ 2147483647) (b_cost : -2147483648 ≤ cost ∧ cost ≤ 2147483647) : sOk base X G d T122 [vR 0, vI minute, vI cost] M (pI (fun v M' => HI base M' ∧ Ftr [(0, 0)] M M' ∧ (INVl base (j + 6) M') ∧ (CSx base gs gT (stN (MV minute cost) gN (409 + minute) cost) ga g0 gb g1 M') ∧ (RSx gs gT gN ga g0 gb g1 M') ∧ (-2147483648 ≤ v ∧ v ≤ 2147483647) ∧ (v = stV (MV minute cost) gN (409 + minute)))) := by
  obtain ⟨wa, wb, hK, hR, r1, r2⟩ := h0
  have hK2 := hK
  obtain ⟨hH, hB, hN, hI, hA, hZ, hS, ⟨wn, hn, hT, hG⟩, ha, hb⟩ := hK2
  have hR2 := hR
  obtain ⟨hTB, hWD, hLN, hGK, hVT, hIM⟩ := hR2
  have hs := h1.1
  refine sOk.imp (k122n E (by omega) H minute cost (by omega) (by omega)) ?_
  rintro v M' ⟨v', e, H', f, q0, q1⟩
  have z := (f.q rfl).z
  have rf := z.ref H.m rfl
  have kr := hR.of rf
  have cs : CSx base gs gT (stN (MV minute cost) gN (409 + minute) cost) ga g0 gb g1 M' ∧ (-2147483648 ≤ v' ∧ v' ≤ 2147483647) ∧ v' = stV (MV minute cost) gN (409 + minute) := by
    rcases q1 with ⟨hp, hvv, M1, u, fa⟩ | ⟨hp, hvv, fr⟩
    · have hp2 := hp
      unfold MV at hp2
      have dj : dAs (409 + minute) := by unfold dAs; omega
      have zn := h1.2.2.2.2.2.2.1
      have bv := H.2 11 (minute) 0 1000 rfl
      have es : slA (409 + minute) = (10, 409 + minute - 409) := slA_c (by omega)
      rw [stN_pos hp, stV_pos hp]
      have ww := h1.wr u dj es rfl (by omega) (by unfold inR; omega) (zn.upd (by omega) (by omega))
      have ww2 := ww.fz (by rw [u.n1]; exact H.m) (fa.q rfl).z rfl
      refine ⟨ww2, by omega, ?_⟩
      have o := h1.2.2.1 _ dj
      rw [cS_at es] at o
      rw [hvv, ← o]
      show gi M 11 (minute) = gi M 11 (409 + minute - 409)
      congr 1
      omega
    · rw [stN_neg hp, stV_neg hp]
      have ww := h1.fz H.m (fr.q rfl).z rfl
      exact ⟨ww, by omega, hvv⟩
  exact ⟨v', e, H', trivial, ⟨wa, wb, hK.st H' z rfl rfl q0, kr, by rw [f.1]; omega, by rw [f.2.1]; omega⟩, cs.1, h2.of rf, cs.2.1, cs.2.2⟩
theorem Y123 {base : Nat} {X : Nat → Option mC} {G : Nat → Value} (E : EnvOK base X G) {d : Nat} (hd : 2 ≤ d) {M : mH} (H : HI base M) (minutes : Int) (j : Int) (gs : Int) (gT : Int → Int) (gN : Int → Int) (ga : Int) (g0 : Int → Int) (gb : Int) (g1 : Int → Int) (h0 : INVl base j M) (h1 : CSx base gs gT gN ga g0 gb g1 M) (h2 : RSx gs gT gN ga g0 gb g1 M) (b_minutes : -2147483648 ≤ minutes ∧ minutes ≤ 2147483647) : sOk base X G d T123 [vR 0, vI minutes] M (pI (fun v M' => HI base M' ∧ Ftr [(0, 0)] M M' ∧ (INVl base (j + 6) M') ∧ (CSx base gs gT gN ga g0 gb g1 M') ∧ (RSx gs gT gN ga g0 gb g1 M'))) := by
  obtain ⟨wa, wb, hK, hR, r1, r2⟩ := h0
  have hK2 := hK
  obtain ⟨hH, hB, hN, hI, hA, hZ, hS, ⟨wn, hn, hT, hG⟩, ha, hb⟩ := hK2
  have hR2 := hR
  obtain ⟨hTB, hWD, hLN, hGK, hVT, hIM⟩ := hR2
  have hs := h1.1
  refine sOk.imp (k123 E (by omega) H minutes (by omega)) ?_
  rintro v M' ⟨v', e, H', f⟩
  have z := (f.q rfl).z
  have rf := z.ref H.m rfl
  have kr := hR.of rf
  exact ⟨v', e, H', trivial, ⟨wa, wb, hK.keep H' z rfl rfl, kr, by rw [f.1]; omega, by rw [f.2.1]; omega⟩, h1.fz H.m z rfl, h2.of rf⟩
theorem Y124 {base : Nat} {X : Nat → Option mC} {G : Nat → Value} (E : EnvOK base X G) {d : Nat} (hd : 1 ≤ d) {M : mH} (H : HI base M) (i : Int) (j : Int) (gs : Int) (gT : Int → Int) (gN : Int → Int) (ga : Int) (g0 : Int → Int) (gb : Int) (g1 : Int → Int) (h0 : INVl base j M) (h1 : CSx base gs gT gN ga g0 gb g1 M) (h2 : RSx gs gT gN ga g0 gb g1 M) (b_i : -2147483648 ≤ i ∧ i ≤ 2147483647) : sOk base X G d T124 [vR 0, vI i] M (pI (fun v M' => HI base M' ∧ Ftr [(0, 0)] M M' ∧ (INVl base (j + 6) M') ∧ (CSx base gs gT gN ga g0 gb g1 M') ∧ (RSx gs gT gN ga g0 gb g1 M'))) := by
  obtain ⟨wa, wb, hK, hR, r1, r2⟩ := h0
  have hK2 := hK
  obtain ⟨hH, hB, hN, hI, hA, hZ, hS, ⟨wn, hn, hT, hG⟩, ha, hb⟩ := hK2
  have hR2 := hR
  obtain ⟨hTB, hWD, hLN, hGK, hVT, hIM⟩ := hR2
  have hs := h1.1
  refine sOk.imp (k124 E (by omega) H i (by omega)) ?_
  rintro v M' ⟨v', e, rfl, -⟩
  exact ⟨v', e, H, trivial, ⟨wa, wb, hK, hR, by omega, by omega⟩, h1, h2⟩
theorem Y125 {base : Nat} {X : Nat → Option mC} {G : Nat → Value} (E : EnvOK base X G) {d : Nat} (hd : 3 ≤ d) {M : mH} (H : HI base M) (minutes : Int) (what : Int) (j : Int) (gs : Int) (gT : Int → Int) (gN : Int → Int) (ga : Int) (g0 : Int → Int) (gb : Int) (g1 : Int → Int) (h0 : INVl base j M) (h1 : CSx base gs gT gN ga g0 gb g1 M) (h2 : RSx gs gT gN ga g0 gb g1 M) (b_minutes : -2147483648 ≤ minutes ∧ minutes ≤ 2147483647) (b_what : -2147483648 ≤ what ∧ what ≤ 2147483647) : sOk base X G d T125 [vR 0, vI minutes, vI what] M (pI (fun v M' => HI base M' ∧ Ftr [(0, 0)] M M' ∧ (INVl base (j + 6) M') ∧ (CSx base gs gT gN ga g0 gb g1 M') ∧ (RSx gs gT gN ga g0 gb g1 M'))) := by
  obtain ⟨wa, wb, hK, hR, r1, r2⟩ := h0
  have hK2 := hK
  obtain ⟨hH, hB, hN, hI, hA, hZ, hS, ⟨wn, hn, hT, hG⟩, ha, hb⟩ := hK2
  have hR2 := hR
  obtain ⟨hTB, hWD, hLN, hGK, hVT, hIM⟩ := hR2
  have hs := h1.1
  refine sOk.imp (k125 E (by omega) H minutes what (by omega) (by omega)) ?_
  rintro v M' ⟨v', e, H', f⟩
  have z := (f.q rfl).z
  have rf := z.ref H.m rfl
  have kr := hR.of rf
  exact ⟨v', e, H', trivial, ⟨wa, wb, hK.keep H' z rfl rfl, kr, by rw [f.1]; omega, by rw [f.2.1]; omega⟩, h1.fz H.m z rfl, h2.of rf⟩
theorem Y126 {base : Nat} {X : Nat → Option mC} {G : Nat → Value} (E : EnvOK base X G) {d : Nat} (hd : 7 ≤ d) {M : mH} (H : HI base M) (text : Int) (sentence : Int) (slot : Int) (meant : Int) (third : Int) (j : Int) (gs : Int) (gT : Int → Int) (gN : Int → Int) (ga : Int) (g0 : Int → Int) (gb : Int) (g1 : Int → Int) (h0 : INVl base j M) (h1 : CSx base gs gT gN ga g0 gb g1 M) (h2 : RSx gs gT gN ga g0 gb g1 M) (b_text : -2147483648 ≤ text ∧ text ≤ 2147483647) (b_sentence : -2147483648 ≤ sentence ∧ sentence ≤ 2147483647) (b_slot : -2147483648 ≤ slot ∧ slot ≤ 2147483647) (b_meant : -2147483648 ≤ meant ∧ meant ≤ 2147483647) (b_third : -2147483648 ≤ third ∧ third ≤ 2147483647) : sOk base X G d T126 [vR 0, vI text, vI sentence, vI slot, vI meant, vI third] M (pI (fun v M' => HI base M' ∧ Ftr [(0, 0)] M M' ∧ (INVl base (j + 6) M') ∧ (CSx base gs gT gN ga g0 gb g1 M') ∧ (RSx gs gT gN ga g0 gb g1 M'))) := by
  obtain ⟨wa, wb, hK, hR, r1, r2⟩ := h0
  have hK2 := hK
  obtain ⟨hH, hB, hN, hI, hA, hZ, hS, ⟨wn, hn, hT, hG⟩, ha, hb⟩ := hK2
  have hR2 := hR
  obtain ⟨hTB, hWD, hLN, hGK, hVT, hIM⟩ := hR2
  have hs := h1.1
  refine sOk.imp (k126s E (by omega) H text sentence slot meant third hB hS (by omega) (by omega) (by omega) (by omega) (by omega)) ?_
  rintro v M' ⟨v', e, H', f, q0⟩
  have z := (f.q rfl).z
  have rf := z.ref H.m rfl
  have kr := hR.of rf
  exact ⟨v', e, H', trivial, ⟨wa, wb, hK.sf H' z rfl q0, kr, by rw [f.1]; omega, by rw [f.2.1]; omega⟩, h1.fz H.m z rfl, h2.of rf⟩
theorem Y127 {base : Nat} {X : Nat → Option mC} {G : Nat → Value} (E : EnvOK base X G) {d : Nat} (hd : 7 ≤ d) {M : mH} (H : HI base M) (sentence : Int) (j : Int) (gs : Int) (gT : Int → Int) (gN : Int → Int) (ga : Int) (g0 : Int → Int) (gb : Int) (g1 : Int → Int) (h0 : INVl base j M) (h1 : CSx base gs gT gN ga g0 gb g1 M) (h2 : RSx gs gT gN ga g0 gb g1 M) (b_sentence : -2147483648 ≤ sentence ∧ sentence ≤ 2147483647) : sOk base X G d T127 [vR 0, vI sentence] M (pI (fun v M' => HI base M' ∧ Ftr [(0, 0)] M M' ∧ (INVl base (j + 6) M') ∧ (CSx base 0 gT gN ga g0 gb g1 M') ∧ (RSx gs gT gN ga g0 gb g1 M'))) := by
  obtain ⟨wa, wb, hK, hR, r1, r2⟩ := h0
  have hK2 := hK
  obtain ⟨hH, hB, hN, hI, hA, hZ, hS, ⟨wn, hn, hT, hG⟩, ha, hb⟩ := hK2
  have hR2 := hR
  obtain ⟨hTB, hWD, hLN, hGK, hVT, hIM⟩ := hR2
  have hs := h1.1
  refine sOk.imp (k127e E (by omega) H sentence hB hS (by omega)) ?_
  rintro v M' ⟨v', e, H', f, q0, q1, q2⟩
  have z := (f.q rfl).z
  have rf := z.ref H.m rfl
  have kr := hR.of rf
  exact ⟨v', e, H', trivial, ⟨wa, wb, hK.sf H' z rfl q1, kr, by rw [f.1]; omega, by rw [f.2.1]; omega⟩, h1.tape H.m z rfl q2, h2.of rf⟩
theorem Y128 {base : Nat} {X : Nat → Option mC} {G : Nat → Value} (E : EnvOK base X G) {d : Nat} (hd : 7 ≤ d) {M : mH} (H : HI base M) (what : Int) (j : Int) (gs : Int) (gT : Int → Int) (gN : Int → Int) (ga : Int) (g0 : Int → Int) (gb : Int) (g1 : Int → Int) (h0 : INVl base j M) (h1 : CSx base gs gT gN ga g0 gb g1 M) (h2 : RSx gs gT gN ga g0 gb g1 M) (b_what : -2147483648 ≤ what ∧ what ≤ 2147483647) : sOk base X G d T128 [vR 0, vI what] M (pI (fun v M' => HI base M' ∧ Ftr [(0, 0)] M M' ∧ (INVl base (j + 6) M') ∧ (CSx base gs gT gN ga g0 gb g1 M') ∧ (RSx gs gT gN ga g0 gb g1 M'))) := by
  obtain ⟨wa, wb, hK, hR, r1, r2⟩ := h0
  have hK2 := hK
  obtain ⟨hH, hB, hN, hI, hA, hZ, hS, ⟨wn, hn, hT, hG⟩, ha, hb⟩ := hK2
  have hR2 := hR
  obtain ⟨hTB, hWD, hLN, hGK, hVT, hIM⟩ := hR2
  have hs := h1.1
  refine sOk.imp (k128s E (by omega) H what hB hS (by omega)) ?_
  rintro v M' ⟨v', e, H', f, q0, q1⟩
  have z := (f.q rfl).z
  have rf := z.ref H.m rfl
  have kr := hR.of rf
  exact ⟨v', e, H', trivial, ⟨wa, wb, hK.sf H' z rfl q1, kr, by rw [f.1]; omega, by rw [f.2.1]; omega⟩, h1.fz H.m z rfl, h2.of rf⟩
theorem Y129 {base : Nat} {X : Nat → Option mC} {G : Nat → Value} (E : EnvOK base X G) {d : Nat} (hd : 3 ≤ d) {M : mH} (H : HI base M) (k : Int) (j : Int) (gs : Int) (gT : Int → Int) (gN : Int → Int) (ga : Int) (g0 : Int → Int) (gb : Int) (g1 : Int → Int) (h0 : INVl base j M) (h1 : CSx base gs gT gN ga g0 gb g1 M) (h2 : RSx gs gT gN ga g0 gb g1 M) (b_k : -2147483648 ≤ k ∧ k ≤ 2147483647) : sOk base X G d T129 [vR 0, vI k] M (pI (fun v M' => HI base M' ∧ Ftr [(0, 0)] M M' ∧ (INVl base (j + 6) M') ∧ (CSx base gs gT gN (imA 0 k ga) (imF 0 k gN g0) (imA 1 k gb) (imF 1 k gN g1) M') ∧ (RSx gs gT gN ga g0 gb g1 M') ∧ (-2147483648 ≤ v ∧ v ≤ 2147483647) ∧ (v = imV k))) := by
  obtain ⟨wa, wb, hK, hR, r1, r2⟩ := h0
  have hK2 := hK
  obtain ⟨hH, hB, hN, hI, hA, hZ, hS, ⟨wn, hn, hT, hG⟩, ha, hb⟩ := hK2
  have hR2 := hR
  obtain ⟨hTB, hWD, hLN, hGK, hVT, hIM⟩ := hR2
  have hs := h1.1
  refine sOk.imp (k129n E (by omega) H k (by omega) hB hN hI) ?_
  rintro v M' ⟨v', e, q, e0, e1, g3, n1, n2, kd⟩
  have q1 := q.2.2.2.2.1.2
  have q2 := q.2.2.2.2.2.1
  have rf : ∀ c, 77 ≤ c → c < 111 → sameC c M M' := fun c x y => q.2.2.2.2.2.2.1 c (by omega) y
  have inv : INVl base (j + 6) M' := ⟨wa, wb, hK.img q, hR.of rf, by omega, by omega⟩
  have hkk : ∀ r, r < M.1 → hk M r = 3 → hk M' r = 3 := fun r hr a => (kd r hr).trans a
  have vv := imV.of e0 e1
  have cs : CSx base gs gT gN (imA 0 k ga) (imF 0 k gN g0) (imA 1 k gb) (imF 1 k gN g1) M' := by
    unfold imA imF
    by_cases k0 : k = 0
    · subst k0
      rw [if_pos rfl, if_pos rfl, if_neg (by decide), if_neg (by decide)]
      exact h1.img0 (n1 (by decide)) q.2.2.2.2.1.1 hkk g3
    · rw [if_neg k0, if_neg k0]
      by_cases k1 : k = 1
      · subst k1
        rw [if_pos rfl, if_pos rfl]
        exact h1.img1 (n1 (by decide)) q.2.2.2.2.1.1 hkk g3
      · rw [if_neg k1, if_neg k1]
        exact h1.fz H.m ((n2 (by omega)).q rfl).z rfl
  exact ⟨v', e, q.1, trivial, inv, cs, h2.of rf, (by rw [vv]; unfold imV; split <;> omega), vv⟩
theorem Y130 {base : Nat} {X : Nat → Option mC} {G : Nat → Value} (E : EnvOK base X G) {d : Nat} (hd : 3 ≤ d) {M : mH} (H : HI base M) (k : Int) (j : Int) (gs : Int) (gT : Int → Int) (gN : Int → Int) (ga : Int) (g0 : Int → Int) (gb : Int) (g1 : Int → Int) (h0 : INVl base j M) (h1 : CSx base gs gT gN ga g0 gb g1 M) (h2 : RSx gs gT gN ga g0 gb g1 M) (b_k : -2147483648 ≤ k ∧ k ≤ 2147483647) : sOk base X G d T130 [vR 0, vI k] M (pI (fun v M' => HI base M' ∧ Ftr [(0, 0)] M M' ∧ (INVl base (j + 6) M') ∧ (CSx base gs gT (bkN k ga gb g0 g1 gN) ga g0 gb g1 M') ∧ (RSx gs gT gN ga g0 gb g1 M') ∧ (-2147483648 ≤ v ∧ v ≤ 2147483647) ∧ (v = bkV k ga gb))) := by
  obtain ⟨wa, wb, hK, hR, r1, r2⟩ := h0
  have hK2 := hK
  obtain ⟨hH, hB, hN, hI, hA, hZ, hS, ⟨wn, hn, hT, hG⟩, ha, hb⟩ := hK2
  have hR2 := hR
  obtain ⟨hTB, hWD, hLN, hGK, hVT, hIM⟩ := hR2
  have hs := h1.1
  refine sOk.imp (k130n E (by omega) H k (by omega) hB hN hI) ?_
  rintro v M' ⟨v', e, q, g3, n0, e0, e1, e2, kd⟩
  have q1 := q.2.2.2.2.1.2
  have q2 := q.2.2.2.2.2.1
  have rf : ∀ c, 77 ≤ c → c < 111 → sameC c M M' := fun c x y => q.2.2.2.2.2.2.1 c (by omega) y
  have inv : INVl base (j + 6) M' := ⟨wa, wb, hK.img q, hR.of rf, by omega, by omega⟩
  have vv : v' = bkV k ga gb := by
    refine bkV.cx h1 (fun h => (e0 h).1) (fun h a => (e1 h a).1) (fun h c a => (e2 h c a).1)
  have cs : CSx base gs gT (bkN k ga gb g0 g1 gN) ga g0 gb g1 M' := by
    by_cases kb : k < 0 ∨ 1 < k
    · have e : bkN k ga gb g0 g1 gN = gN := by unfold bkN; rw [if_neg (by omega), if_neg (by omega)]
      rw [e]
      exact h1.fz H.m ((e0 kb).2.q rfl).z rfl
    · exact h1.back (by omega) n0 (g3.trans hs) q.2.2.2.2.1.1 (fun r _ a => (kd r).trans a) (fun a => (e1 (by omega) a).2) (fun c a => (e2 (by omega) c a).2)
  exact ⟨v', e, q.1, trivial, inv, cs, h2.of rf, (by rw [vv]; unfold bkV; split <;> (try split) <;> (try split) <;> omega), vv⟩
theorem Y131 {base : Nat} {X : Nat → Option mC} {G : Nat → Value} (E : EnvOK base X G) {d : Nat} (hd : 0 ≤ d) {M : mH} (H : HI base M) (what : Int) (j : Int) (gs : Int) (gT : Int → Int) (gN : Int → Int) (ga : Int) (g0 : Int → Int) (gb : Int) (g1 : Int → Int) (h0 : INVl base j M) (h1 : CSx base gs gT gN ga g0 gb g1 M) (h2 : RSx gs gT gN ga g0 gb g1 M) (b_what : -2147483648 ≤ what ∧ what ≤ 2147483647) : sOk base X G d T131 [vR 0, vI what] M (pI (fun v M' => HI base M' ∧ Ftr [(0, 0)] M M' ∧ (INVl base (j + 6) M') ∧ (CSx base gs gT gN ga g0 gb g1 M') ∧ (RSx gs gT gN ga g0 gb g1 M'))) := by
  obtain ⟨wa, wb, hK, hR, r1, r2⟩ := h0
  have hK2 := hK
  obtain ⟨hH, hB, hN, hI, hA, hZ, hS, ⟨wn, hn, hT, hG⟩, ha, hb⟩ := hK2
  have hR2 := hR
  obtain ⟨hTB, hWD, hLN, hGK, hVT, hIM⟩ := hR2
  have hs := h1.1
  refine sOk.imp (k131 E (by omega) H what (by omega)) ?_
  rintro v M' ⟨v', e, rfl, -⟩
  exact ⟨v', e, H, trivial, ⟨wa, wb, hK, hR, by omega, by omega⟩, h1, h2⟩
theorem Y132 {base : Nat} {X : Nat → Option mC} {G : Nat → Value} (E : EnvOK base X G) {d : Nat} (hd : 0 ≤ d) {M : mH} (H : HI base M) (j : Int) (gs : Int) (gT : Int → Int) (gN : Int → Int) (ga : Int) (g0 : Int → Int) (gb : Int) (g1 : Int → Int) (h0 : INVl base j M) (h1 : CSx base gs gT gN ga g0 gb g1 M) (h2 : RSx gs gT gN ga g0 gb g1 M) : sOk base X G d T132 [vR 0] M (pI (fun v M' => HI base M' ∧ Ftr [(0, 0)] M M' ∧ (INVl base (j + 6) M') ∧ (CSx base gs gT gN ga g0 gb g1 M') ∧ (RSx gs gT gN ga g0 gb g1 M'))) := by
  obtain ⟨wa, wb, hK, hR, r1, r2⟩ := h0
  have hK2 := hK
  obtain ⟨hH, hB, hN, hI, hA, hZ, hS, ⟨wn, hn, hT, hG⟩, ha, hb⟩ := hK2
  have hR2 := hR
  obtain ⟨hTB, hWD, hLN, hGK, hVT, hIM⟩ := hR2
  have hs := h1.1
  refine sOk.imp (k132 E (by omega) H  ) ?_
  rintro v M' ⟨v', e, rfl, -⟩
  exact ⟨v', e, H, trivial, ⟨wa, wb, hK, hR, by omega, by omega⟩, h1, h2⟩
theorem Y161 {base : Nat} {X : Nat → Option mC} {G : Nat → Value} (E : EnvOK base X G) {d : Nat} (hd : 1 ≤ d) {M : mH} (H : HI base M) (w : Int) (what : Int) (value : Int) (j : Int) (gs : Int) (gT : Int → Int) (gN : Int → Int) (ga : Int) (g0 : Int → Int) (gb : Int) (g1 : Int → Int) {es : Int} {eT eN : Int → Int} {ea : Int} {e0 : Int → Int} {eb : Int} {e1 : Int → Int} (h0 : INVl base j M) (h1 : CSx base es eT eN ea e0 eb e1 M) (h2 : RSx gs gT gN ga g0 gb g1 M) (b_w : -2147483648 ≤ w ∧ w ≤ 2147483647) (b_what : -2147483648 ≤ what ∧ what ≤ 2147483647) (b_value : -2147483648 ≤ value ∧ value ≤ 2147483647) : sOk base X G d T161 [vR 77, vI w, vI what, vI value] M (pI (fun v M' => HI base M' ∧ Ftr [(0, 0)] M M' ∧ (INVl base j M') ∧ (CSx base es eT eN ea e0 eb e1 M') ∧ (RSx gs gT (stN (WV w what value) gN (30 * what + w) value) ga g0 gb g1 M') ∧ (-2147483648 ≤ v ∧ v ≤ 2147483647) ∧ (v = stV (WV w what value) gN (30 * what + w)))) := by
  obtain ⟨wa, wb, hK, hR, r1, r2⟩ := h0
  have hK2 := hK
  obtain ⟨hH, hB, hN, hI, hA, hZ, hS, ⟨wn, hn, hT, hG⟩, ha, hb⟩ := hK2
  have hR2 := hR
  obtain ⟨hTB, hWD, hLN, hGK, hVT, hIM⟩ := hR2
  have hs := h2.1
  refine sOk.imp (k161n E (by omega) H w what value hLN hGK (by omega) (by omega) (by omega)) ?_
  rintro v M' ⟨v', e, H', f, q0, q1, q2⟩
  have z := (f.q rfl).z
  have cs : RSx gs gT (stN (WV w what value) gN (30 * what + w) value) ga g0 gb g1 M' ∧ (-2147483648 ≤ v' ∧ v' ≤ 2147483647) ∧ v' = stV (WV w what value) gN (30 * what + w) := by
    rcases q2 with ⟨hp, hvv, M1, u, fa⟩ | ⟨hp, hvv, fr⟩
    · have hp2 := hp
      unfold WV at hp2
      have dj : dAs (30 * what + w) := by unfold dAs; omega
      have bv := (H.1.int sc_78 (i := 30 * what + w) (by omega) (by show _ < (6883 : Int); omega) rfl).2
      unfold inR at bv
      rw [stN_pos hp, stV_pos hp]
      have ww := (h2.wr u (by omega) rfl (by unfold inR; omega)).fr fa rfl
      exact ⟨ww, by omega, by rw [hvv]; exact h2.2.2.1 _ dj⟩
    · rw [stN_neg hp, stV_neg hp]
      have ww := h2.fr fr rfl
      exact ⟨ww, by omega, hvv⟩
  exact ⟨v', e, H', trivial, ⟨wa, wb, hK.keep H' z rfl rfl, ⟨hTB.fr f rfl, hWD.fr f rfl, q0, q1, hVT.fr f rfl, hIM.fr f rfl⟩, by rw [f.1]; exact r1, by rw [f.2.1]; exact r2⟩, h1.fz H.m z rfl, cs.1, cs.2.1, cs.2.2⟩
theorem Y162 {base : Nat} {X : Nat → Option mC} {G : Nat → Value} (E : EnvOK base X G) {d : Nat} (hd : 1 ≤ d) {M : mH} (H : HI base M) (what : Int) (value : Int) (j : Int) (gs : Int) (gT : Int → Int) (gN : Int → Int) (ga : Int) (g0 : Int → Int) (gb : Int) (g1 : Int → Int) {es : Int} {eT eN : Int → Int} {ea : Int} {e0 : Int → Int} {eb : Int} {e1 : Int → Int} (h0 : INVl base j M) (h1 : CSx base es eT eN ea e0 eb e1 M) (h2 : RSx gs gT gN ga g0 gb g1 M) (b_what : -2147483648 ≤ what ∧ what ≤ 2147483647) (b_value : -2147483648 ≤ value ∧ value ≤ 2147483647) : sOk base X G d T162 [vR 77, vI what, vI value] M (pI (fun v M' => HI base M' ∧ Ftr [(0, 0)] M M' ∧ (INVl base j M') ∧ (CSx base es eT eN ea e0 eb e1 M') ∧ (RSx gs gT (stN (TV what value) gN (90 + what) value) ga g0 gb g1 M') ∧ (-2147483648 ≤ v ∧ v ≤ 2147483647) ∧ (v = stV (TV what value) gN (90 + what)))) := by
  obtain ⟨wa, wb, hK, hR, r1, r2⟩ := h0
  have hK2 := hK
  obtain ⟨hH, hB, hN, hI, hA, hZ, hS, ⟨wn, hn, hT, hG⟩, ha, hb⟩ := hK2
  have hR2 := hR
  obtain ⟨hTB, hWD, hLN, hGK, hVT, hIM⟩ := hR2
  have hs := h2.1
  refine sOk.imp (k162n E (by omega) H what value hLN hGK (by omega) (by omega)) ?_
  rintro v M' ⟨v', e, H', f, q0, q1, q2⟩
  have z := (f.q rfl).z
  have cs : RSx gs gT (stN (TV what value) gN (90 + what) value) ga g0 gb g1 M' ∧ (-2147483648 ≤ v' ∧ v' ≤ 2147483647) ∧ v' = stV (TV what value) gN (90 + what) := by
    rcases q2 with ⟨hp, hvv, M1, u, fa⟩ | ⟨hp, hvv, fr⟩
    · have hp2 := hp
      unfold TV at hp2
      have dj : dAs (90 + what) := by unfold dAs; omega
      have bv := (H.1.int sc_78 (i := 90 + what) (by omega) (by show _ < (6883 : Int); omega) rfl).2
      unfold inR at bv
      rw [stN_pos hp, stV_pos hp]
      have ww := (h2.wr u (by omega) rfl (by unfold inR; omega)).fr fa rfl
      exact ⟨ww, by omega, by rw [hvv]; exact h2.2.2.1 _ dj⟩
    · rw [stN_neg hp, stV_neg hp]
      have ww := h2.fr fr rfl
      exact ⟨ww, by omega, hvv⟩
  exact ⟨v', e, H', trivial, ⟨wa, wb, hK.keep H' z rfl rfl, ⟨hTB.fr f rfl, hWD.fr f rfl, q0, q1, hVT.fr f rfl, hIM.fr f rfl⟩, by rw [f.1]; exact r1, by rw [f.2.1]; exact r2⟩, h1.fz H.m z rfl, cs.1, cs.2.1, cs.2.2⟩
theorem Y163 {base : Nat} {X : Nat → Option mC} {G : Nat → Value} (E : EnvOK base X G) {d : Nat} (hd : 1 ≤ d) {M : mH} (H : HI base M) (x : Int) (j : Int) (gs : Int) (gT : Int → Int) (gN : Int → Int) (ga : Int) (g0 : Int → Int) (gb : Int) (g1 : Int → Int) {es : Int} {eT eN : Int → Int} {ea : Int} {e0 : Int → Int} {eb : Int} {e1 : Int → Int} (h0 : INVl base j M) (h1 : CSx base es eT eN ea e0 eb e1 M) (h2 : RSx gs gT gN ga g0 gb g1 M) (b_x : -2147483648 ≤ x ∧ x ≤ 2147483647) : sOk base X G d T163 [vR 77, vI x] M (pI (fun v M' => HI base M' ∧ Ftr [(0, 0)] M M' ∧ (INVl base j M') ∧ (CSx base es eT eN ea e0 eb e1 M') ∧ (RSx gs gT (stN (OV x) gN 473 x) ga g0 gb g1 M') ∧ (-2147483648 ≤ v ∧ v ≤ 2147483647) ∧ (v = stV (OV x) gN 473))) := by
  obtain ⟨wa, wb, hK, hR, r1, r2⟩ := h0
  have hK2 := hK
  obtain ⟨hH, hB, hN, hI, hA, hZ, hS, ⟨wn, hn, hT, hG⟩, ha, hb⟩ := hK2
  have hR2 := hR
  obtain ⟨hTB, hWD, hLN, hGK, hVT, hIM⟩ := hR2
  have hs := h2.1
  refine sOk.imp (k163n E (by omega) H x hLN hGK (by omega)) ?_
  rintro v M' ⟨v', e, H', f, q0, q1, q2⟩
  have z := (f.q rfl).z
  have cs : RSx gs gT (stN (OV x) gN 473 x) ga g0 gb g1 M' ∧ (-2147483648 ≤ v' ∧ v' ≤ 2147483647) ∧ v' = stV (OV x) gN 473 := by
    rcases q2 with ⟨hp, hvv, M1, u, fa⟩ | ⟨hp, hvv, fr⟩
    · have hp2 := hp
      unfold OV at hp2
      have dj : dAs (473) := by unfold dAs; omega
      have bv := (H.1.int sc_78 (i := 473) (by omega) (by show _ < (6883 : Int); omega) rfl).2
      unfold inR at bv
      rw [stN_pos hp, stV_pos hp]
      have ww := (h2.wr u (by omega) rfl (by unfold inR; omega)).fr fa rfl
      exact ⟨ww, by omega, by rw [hvv]; exact h2.2.2.1 _ dj⟩
    · rw [stN_neg hp, stV_neg hp]
      have ww := h2.fr fr rfl
      exact ⟨ww, by omega, hvv⟩
  exact ⟨v', e, H', trivial, ⟨wa, wb, hK.keep H' z rfl rfl, ⟨hTB.fr f rfl, hWD.fr f rfl, q0, q1, hVT.fr f rfl, hIM.fr f rfl⟩, by rw [f.1]; exact r1, by rw [f.2.1]; exact r2⟩, h1.fz H.m z rfl, cs.1, cs.2.1, cs.2.2⟩
theorem Y164 {base : Nat} {X : Nat → Option mC} {G : Nat → Value} (E : EnvOK base X G) {d : Nat} (hd : 1 ≤ d) {M : mH} (H : HI base M) (slot : Int) (values : Int) (length : Int) (j : Int) (gs : Int) (gT : Int → Int) (gN : Int → Int) (ga : Int) (g0 : Int → Int) (gb : Int) (g1 : Int → Int) {es : Int} {eT eN : Int → Int} {ea : Int} {e0 : Int → Int} {eb : Int} {e1 : Int → Int} (h0 : INVl base j M) (h1 : CSx base es eT eN ea e0 eb e1 M) (h2 : RSx gs gT gN ga g0 gb g1 M) (b_slot : -2147483648 ≤ slot ∧ slot ≤ 2147483647) (b_values : -2147483648 ≤ values ∧ values ≤ 2147483647) (b_length : -2147483648 ≤ length ∧ length ≤ 2147483647) : sOk base X G d T164 [vR 77, vI slot, vI values, vI length] M (pI (fun v M' => HI base M' ∧ Ftr [(0, 0)] M M' ∧ (INVl base j M') ∧ (CSx base es eT eN ea e0 eb e1 M') ∧ (RSx gs gT (ctN (NV slot values length) gN 99 470 12 slot values length) ga g0 gb g1 M') ∧ (-2147483648 ≤ v ∧ v ≤ 2147483647) ∧ (v = ctV (NV slot values length) gN 470 12))) := by
  obtain ⟨wa, wb, hK, hR, r1, r2⟩ := h0
  have hK2 := hK
  obtain ⟨hH, hB, hN, hI, hA, hZ, hS, ⟨wn, hn, hT, hG⟩, ha, hb⟩ := hK2
  have hR2 := hR
  obtain ⟨hTB, hWD, hLN, hGK, hVT, hIM⟩ := hR2
  have hs := h2.1
  refine sOk.imp (k164n E (by omega) H slot values length hLN hGK (by omega) (by omega) (by omega)) ?_
  rintro v M' ⟨v', e, H', f, q0, q1, q2⟩
  have z := (f.q rfl).z
  have dj : dAs 470 := by unfold dAs; omega
  have cn : gi M 78 470 = gN 470 := h2.2.2.1 470 dj
  have bv := H.2 78 470 0 12 (rk_openmany (by omega))
  have cs : RSx gs gT (ctN (NV slot values length) gN 99 470 12 slot values length) ga g0 gb g1 M' ∧ (-2147483648 ≤ v' ∧ v' ≤ 2147483647) ∧ v' = ctV (NV slot values length) gN 470 12 := by
    unfold ctN ctV
    rcases q2 with ⟨hp, hl, hvv, M1, u, fa⟩ | ⟨hp, hl, hvv, fr⟩ | ⟨hp, hvv, fr⟩
    · have hp2 := hp
      unfold NV at hp2
      rw [if_pos hp, if_pos hp, if_pos (show gN 470 < 12 by omega), if_pos (show gN 470 < 12 by omega)]
      have w := h2.w4 (b := 99) (i := 470) (lim := 12) ⟨by omega, dj⟩ (by omega) ⟨by omega, by omega⟩ (by omega) (by unfold inR; omega) (by unfold inR; omega) (by unfold inR; omega) u
      exact ⟨w.fr fa rfl, by omega, by rw [hvv]; exact cn⟩
    · rw [if_pos hp, if_pos hp, if_neg (show ¬ gN 470 < 12 by omega), if_neg (show ¬ gN 470 < 12 by omega)]
      exact ⟨h2.fr fr rfl, by omega, hvv⟩
    · rw [if_neg hp, if_neg hp]
      exact ⟨h2.fr fr rfl, by omega, hvv⟩
  exact ⟨v', e, H', trivial, ⟨wa, wb, hK.keep H' z rfl rfl, ⟨hTB.fr f rfl, hWD.fr f rfl, q0, q1, hVT.fr f rfl, hIM.fr f rfl⟩, by rw [f.1]; exact r1, by rw [f.2.1]; exact r2⟩, h1.fz H.m z rfl, cs.1, cs.2.1, cs.2.2⟩
theorem Y165 {base : Nat} {X : Nat → Option mC} {G : Nat → Value} (E : EnvOK base X G) {d : Nat} (hd : 1 ≤ d) {M : mH} (H : HI base M) (x : Int) (j : Int) (gs : Int) (gT : Int → Int) (gN : Int → Int) (ga : Int) (g0 : Int → Int) (gb : Int) (g1 : Int → Int) {es : Int} {eT eN : Int → Int} {ea : Int} {e0 : Int → Int} {eb : Int} {e1 : Int → Int} (h0 : INVl base j M) (h1 : CSx base es eT eN ea e0 eb e1 M) (h2 : RSx gs gT gN ga g0 gb g1 M) (b_x : -2147483648 ≤ x ∧ x ≤ 2147483647) : sOk base X G d T165 [vR 77, vI x] M (pI (fun v M' => HI base M' ∧ Ftr [(0, 0)] M M' ∧ (INVl base j M') ∧ (CSx base es eT eN ea e0 eb e1 M') ∧ (RSx gs gT (stN (PV x) gN 474 x) ga g0 gb g1 M') ∧ (-2147483648 ≤ v ∧ v ≤ 2147483647) ∧ (v = stV (PV x) gN 474))) := by
  obtain ⟨wa, wb, hK, hR, r1, r2⟩ := h0
  have hK2 := hK
  obtain ⟨hH, hB, hN, hI, hA, hZ, hS, ⟨wn, hn, hT, hG⟩, ha, hb⟩ := hK2
  have hR2 := hR
  obtain ⟨hTB, hWD, hLN, hGK, hVT, hIM⟩ := hR2
  have hs := h2.1
  refine sOk.imp (k165n E (by omega) H x hLN hGK (by omega)) ?_
  rintro v M' ⟨v', e, H', f, q0, q1, q2⟩
  have z := (f.q rfl).z
  have cs : RSx gs gT (stN (PV x) gN 474 x) ga g0 gb g1 M' ∧ (-2147483648 ≤ v' ∧ v' ≤ 2147483647) ∧ v' = stV (PV x) gN 474 := by
    rcases q2 with ⟨hp, hvv, M1, u, fa⟩ | ⟨hp, hvv, fr⟩
    · have hp2 := hp
      unfold PV at hp2
      have dj : dAs (474) := by unfold dAs; omega
      have bv := (H.1.int sc_78 (i := 474) (by omega) (by show _ < (6883 : Int); omega) rfl).2
      unfold inR at bv
      rw [stN_pos hp, stV_pos hp]
      have ww := (h2.wr u (by omega) rfl (by unfold inR; omega)).fr fa rfl
      exact ⟨ww, by omega, by rw [hvv]; exact h2.2.2.1 _ dj⟩
    · rw [stN_neg hp, stV_neg hp]
      have ww := h2.fr fr rfl
      exact ⟨ww, by omega, hvv⟩
  exact ⟨v', e, H', trivial, ⟨wa, wb, hK.keep H' z rfl rfl, ⟨hTB.fr f rfl, hWD.fr f rfl, q0, q1, hVT.fr f rfl, hIM.fr f rfl⟩, by rw [f.1]; exact r1, by rw [f.2.1]; exact r2⟩, h1.fz H.m z rfl, cs.1, cs.2.1, cs.2.2⟩
theorem Y167 {base : Nat} {X : Nat → Option mC} {G : Nat → Value} (E : EnvOK base X G) {d : Nat} (hd : 2 ≤ d) {M : mH} (H : HI base M) (xa : Int) (xb : Int) (xc : Int) (j : Int) (gs : Int) (gT : Int → Int) (gN : Int → Int) (ga : Int) (g0 : Int → Int) (gb : Int) (g1 : Int → Int) {es : Int} {eT eN : Int → Int} {ea : Int} {e0 : Int → Int} {eb : Int} {e1 : Int → Int} (h0 : INVl base j M) (h1 : CSx base es eT eN ea e0 eb e1 M) (h2 : RSx gs gT gN ga g0 gb g1 M) (b_xa : -2147483648 ≤ xa ∧ xa ≤ 2147483647) (b_xb : -2147483648 ≤ xb ∧ xb ≤ 2147483647) (b_xc : -2147483648 ≤ xc ∧ xc ≤ 2147483647) : sOk base X G d T167 [vR 77, vI xa, vI xb, vI xc] M (pI (fun v M' => HI base M' ∧ Ftr [(0, 0)] M M' ∧ (INVl base j M') ∧ (CSx base es eT eN ea e0 eb e1 M') ∧ (RSx 0 gT (seN gT gN gs xa xb xc) ga g0 gb g1 M') ∧ (-2147483648 ≤ v ∧ v ≤ 2147483647) ∧ (v = seV gT gN gs xa xb xc))) := by
  obtain ⟨wa, wb, hK, hR, r1, r2⟩ := h0
  have hK2 := hK
  obtain ⟨hH, hB, hN, hI, hA, hZ, hS, ⟨wn, hn, hT, hG⟩, ha, hb⟩ := hK2
  have hR2 := hR
  obtain ⟨hTB, hWD, hLN, hGK, hVT, hIM⟩ := hR2
  have hs := h2.1
  refine sOk.imp (k167n E (by omega) H xa xb xc hLN hGK (by omega) (by omega) (by omega)) ?_
  rintro v M' ⟨v', e, H', f, q0, q1, q2, q3⟩
  have z := (f.q rfl).z
  have cs := h2.sen H f rfl q2 q3
  exact ⟨v', e, H', trivial, ⟨wa, wb, hK.keep H' z rfl rfl, ⟨hTB.fr f rfl, hWD.fr f rfl, q0, q1, hVT.fr f rfl, hIM.fr f rfl⟩, by rw [f.1]; exact r1, by rw [f.2.1]; exact r2⟩, h1.fz H.m z rfl, cs.1, cs.2.1, cs.2.2⟩
theorem Y168 {base : Nat} {X : Nat → Option mC} {G : Nat → Value} (E : EnvOK base X G) {d : Nat} (hd : 2 ≤ d) {M : mH} (H : HI base M) (xs : Int) (xp : Int) (xw : Int) (j : Int) (gs : Int) (gT : Int → Int) (gN : Int → Int) (ga : Int) (g0 : Int → Int) (gb : Int) (g1 : Int → Int) {es : Int} {eT eN : Int → Int} {ea : Int} {e0 : Int → Int} {eb : Int} {e1 : Int → Int} (h0 : INVl base j M) (h1 : CSx base es eT eN ea e0 eb e1 M) (h2 : RSx gs gT gN ga g0 gb g1 M) (b_xs : -2147483648 ≤ xs ∧ xs ≤ 2147483647) (b_xp : -2147483648 ≤ xp ∧ xp ≤ 2147483647) (b_xw : -2147483648 ≤ xw ∧ xw ≤ 2147483647) : sOk base X G d T168 [vR 77, vI xs, vI xp, vI xw] M (pI (fun v M' => HI base M' ∧ Ftr [(0, 0)] M M' ∧ (INVl base j M') ∧ (CSx base es eT eN ea e0 eb e1 M') ∧ (RSx gs gT (stN (GV (gN 469) xs xp xw) gN (147 + 16 * xs + xp) xw) ga g0 gb g1 M'))) := by
  obtain ⟨wa, wb, hK, hR, r1, r2⟩ := h0
  have hK2 := hK
  obtain ⟨hH, hB, hN, hI, hA, hZ, hS, ⟨wn, hn, hT, hG⟩, ha, hb⟩ := hK2
  have hR2 := hR
  obtain ⟨hTB, hWD, hLN, hGK, hVT, hIM⟩ := hR2
  have hs := h2.1
  refine sOk.imp (k168n E (by omega) H xs xp xw hLN hGK (by omega) (by omega) (by omega)) ?_
  rintro v M' ⟨v', e, H', f, q0, q1, q2⟩
  have z := (f.q rfl).z
  have cs : RSx gs gT (stN (GV (gN 469) xs xp xw) gN (147 + 16 * xs + xp) xw) ga g0 gb g1 M' := by
    have en : gi M 78 469 = gN 469 := h2.2.2.1 469 (by unfold dAs; omega)
    rw [en] at q2
    have bn : 0 ≤ gi M 78 469 ∧ gi M 78 469 ≤ 16 := H.2 78 469 0 16 (rk_many (by omega))
    rw [en] at bn
    rcases q2 with ⟨hp, hvv, M1, u, fa⟩ | ⟨hp, hvv, fr⟩
    · have hp2 := hp
      unfold GV at hp2
      have dj : dAs (147 + 16 * xs + xp) := by unfold dAs; omega
      have bv := (H.1.int sc_78 (i := 147 + 16 * xs + xp) (by omega) (by show _ < (6883 : Int); omega) rfl).2
      unfold inR at bv
      rw [stN_pos hp]
      have ww := (h2.wr u (by omega) rfl (by unfold inR; omega)).fr fa rfl
      exact ww
    · rw [stN_neg hp]
      have ww := h2.fr fr rfl
      exact ww
  exact ⟨v', e, H', trivial, ⟨wa, wb, hK.keep H' z rfl rfl, ⟨hTB.fr f rfl, hWD.fr f rfl, q0, q1, hVT.fr f rfl, hIM.fr f rfl⟩, by rw [f.1]; exact r1, by rw [f.2.1]; exact r2⟩, h1.fz H.m z rfl, cs⟩
theorem Y169 {base : Nat} {X : Nat → Option mC} {G : Nat → Value} (E : EnvOK base X G) {d : Nat} (hd : 2 ≤ d) {M : mH} (H : HI base M) (xs : Int) (xi : Int) (j : Int) (gs : Int) (gT : Int → Int) (gN : Int → Int) (ga : Int) (g0 : Int → Int) (gb : Int) (g1 : Int → Int) {es : Int} {eT eN : Int → Int} {ea : Int} {e0 : Int → Int} {eb : Int} {e1 : Int → Int} (h0 : INVl base j M) (h1 : CSx base es eT eN ea e0 eb e1 M) (h2 : RSx gs gT gN ga g0 gb g1 M) (b_xs : -2147483648 ≤ xs ∧ xs ≤ 2147483647) (b_xi : -2147483648 ≤ xi ∧ xi ≤ 2147483647) : sOk base X G d T169 [vR 77, vI xs, vI xi] M (pI (fun v M' => HI base M' ∧ Ftr [(0, 0)] M M' ∧ (INVl base j M') ∧ (CSx base es eT eN ea e0 eb e1 M') ∧ (RSx gs gT gN ga g0 gb g1 M') ∧ (-2147483648 ≤ v ∧ v ≤ 2147483647) ∧ (v = rwV gN xs xi))) := by
  obtain ⟨wa, wb, hK, hR, r1, r2⟩ := h0
  have hK2 := hK
  obtain ⟨hH, hB, hN, hI, hA, hZ, hS, ⟨wn, hn, hT, hG⟩, ha, hb⟩ := hK2
  have hR2 := hR
  obtain ⟨hTB, hWD, hLN, hGK, hVT, hIM⟩ := hR2
  have hs := h2.1
  refine sOk.imp (k169n E (by omega) H xs xi (gi M 78) (fun _ => rfl) (by omega) (by omega)) ?_
  rintro v M' ⟨v', e, rfl, q0, q1, q2, q3⟩
  have vv := (⟨q0, h2.row (by have := H.2 78 469 0 16 (rk_many (by omega)); omega) (fun a b => (H.2 78 (135 + 16 * xs) 0 8 (rk_len (by omega))).2) q1 q2 q3⟩ : _ ∧ v' = rwV gN xs xi)
  exact ⟨v', e, H, trivial, ⟨wa, wb, hK, hR, by omega, by omega⟩, h1, h2, vv⟩
theorem Y177 {base : Nat} {X : Nat → Option mC} {G : Nat → Value} (E : EnvOK base X G) {d : Nat} (hd : 3 ≤ d) {M : mH} (H : HI base M) (s : Int) (slot : Int) (j : Int) (gs : Int) (gT : Int → Int) (gN : Int → Int) (ga : Int) (g0 : Int → Int) (gb : Int) (g1 : Int → Int) {es : Int} {eT eN : Int → Int} {ea : Int} {e0 : Int → Int} {eb : Int} {e1 : Int → Int} (h0 : INVl base j M) (h1 : CSx base es eT eN ea e0 eb e1 M) (h2 : RSx gs gT gN ga g0 gb g1 M) (b_s : -2147483648 ≤ s ∧ s ≤ 2147483647) (b_slot : -2147483648 ≤ slot ∧ slot ≤ 2147483647) : sOk base X G d T177 [vR 77, vI s, vI slot] M (pI (fun v M' => HI base M' ∧ Ftr [(0, 0)] M M' ∧ (INVl base j M') ∧ (CSx base es eT eN ea e0 eb e1 M') ∧ (RSx gs gT gN ga g0 gb g1 M'))) := by
  obtain ⟨wa, wb, hK, hR, r1, r2⟩ := h0
  have hK2 := hK
  obtain ⟨hH, hB, hN, hI, hA, hZ, hS, ⟨wn, hn, hT, hG⟩, ha, hb⟩ := hK2
  have hR2 := hR
  obtain ⟨hTB, hWD, hLN, hGK, hVT, hIM⟩ := hR2
  have hs := h2.1
  refine sOk.imp (k177 E (by omega) H s slot (by omega) (by omega)) ?_
  rintro v M' ⟨v', e, rfl, -⟩
  exact ⟨v', e, H, trivial, ⟨wa, wb, hK, hR, by omega, by omega⟩, h1, h2⟩
theorem Y179 {base : Nat} {X : Nat → Option mC} {G : Nat → Value} (E : EnvOK base X G) {d : Nat} (hd : 3 ≤ d) {M : mH} (H : HI base M) (s : Int) (n : Int) (slot : Int) (value : Int) (which : Int) (j : Int) (gs : Int) (gT : Int → Int) (gN : Int → Int) (ga : Int) (g0 : Int → Int) (gb : Int) (g1 : Int → Int) {es : Int} {eT eN : Int → Int} {ea : Int} {e0 : Int → Int} {eb : Int} {e1 : Int → Int} (h0 : INVl base j M) (h1 : CSx base es eT eN ea e0 eb e1 M) (h2 : RSx gs gT gN ga g0 gb g1 M) (b_s : -2147483648 ≤ s ∧ s ≤ 2147483647) (b_n : -2147483648 ≤ n ∧ n ≤ 2147483647) (b_slot : -2147483648 ≤ slot ∧ slot ≤ 2147483647) (b_value : -2147483648 ≤ value ∧ value ≤ 2147483647) (b_which : -2147483648 ≤ which ∧ which ≤ 2147483647) : sOk base X G d T179 [vR 77, vI s, vI n, vI slot, vI value, vI which] M (pI (fun v M' => HI base M' ∧ Ftr [(0, 0)] M M' ∧ (INVl base j M') ∧ (CSx base es eT eN ea e0 eb e1 M') ∧ (RSx gs gT gN ga g0 gb g1 M'))) := by
  obtain ⟨wa, wb, hK, hR, r1, r2⟩ := h0
  have hK2 := hK
  obtain ⟨hH, hB, hN, hI, hA, hZ, hS, ⟨wn, hn, hT, hG⟩, ha, hb⟩ := hK2
  have hR2 := hR
  obtain ⟨hTB, hWD, hLN, hGK, hVT, hIM⟩ := hR2
  have hs := h2.1
  refine sOk.imp (k179x E (by omega) H s n slot value which (by omega) (by omega) (by omega) (by omega) (by omega)) ?_
  rintro v M' ⟨v', e, rfl, -⟩
  exact ⟨v', e, H, trivial, ⟨wa, wb, hK, hR, by omega, by omega⟩, h1, h2⟩
theorem Y181 {base : Nat} {X : Nat → Option mC} {G : Nat → Value} (E : EnvOK base X G) {d : Nat} (hd : 3 ≤ d) {M : mH} (H : HI base M) (s : Int) (n : Int) (slot : Int) (j : Int) (gs : Int) (gT : Int → Int) (gN : Int → Int) (ga : Int) (g0 : Int → Int) (gb : Int) (g1 : Int → Int) {es : Int} {eT eN : Int → Int} {ea : Int} {e0 : Int → Int} {eb : Int} {e1 : Int → Int} (h0 : INVl base j M) (h1 : CSx base es eT eN ea e0 eb e1 M) (h2 : RSx gs gT gN ga g0 gb g1 M) (b_s : -2147483648 ≤ s ∧ s ≤ 2147483647) (b_n : -2147483648 ≤ n ∧ n ≤ 2147483647) (b_slot : -2147483648 ≤ slot ∧ slot ≤ 2147483647) : sOk base X G d T181 [vR 77, vI s, vI n, vI slot] M (pI (fun v M' => HI base M' ∧ Ftr [(0, 0)] M M' ∧ (INVl base j M') ∧ (CSx base es eT eN ea e0 eb e1 M') ∧ (RSx gs gT gN ga g0 gb g1 M'))) := by
  obtain ⟨wa, wb, hK, hR, r1, r2⟩ := h0
  have hK2 := hK
  obtain ⟨hH, hB, hN, hI, hA, hZ, hS, ⟨wn, hn, hT, hG⟩, ha, hb⟩ := hK2
  have hR2 := hR
  obtain ⟨hTB, hWD, hLN, hGK, hVT, hIM⟩ := hR2
  have hs := h2.1
  refine sOk.imp (k181 E (by omega) H s n slot (by omega) (by omega) (by omega)) ?_
  rintro v M' ⟨v', e, rfl, -⟩
  exact ⟨v', e, H, trivial, ⟨wa, wb, hK, hR, by omega, by omega⟩, h1, h2⟩
theorem Y202 {base : Nat} {X : Nat → Option mC} {G : Nat → Value} (E : EnvOK base X G) {d : Nat} (hd : 7 ≤ d) {M : mH} (H : HI base M) (j : Int) (gs : Int) (gT : Int → Int) (gN : Int → Int) (ga : Int) (g0 : Int → Int) (gb : Int) (g1 : Int → Int) {es : Int} {eT eN : Int → Int} {ea : Int} {e0 : Int → Int} {eb : Int} {e1 : Int → Int} (h0 : INVl base j M) (h1 : CSx base es eT eN ea e0 eb e1 M) (h2 : RSx gs gT gN ga g0 gb g1 M) : sOk base X G d T202 [vR 77] M (pL (fun v M' => HI base M' ∧ Ftr [(0, 0)] M M' ∧ (INVl base j M') ∧ (CSx base es eT eN ea e0 eb e1 M') ∧ (RSx gs gT gN ga g0 gb g1 M'))) := by
  obtain ⟨wa, wb, hK, hR, r1, r2⟩ := h0
  have hK2 := hK
  obtain ⟨hH, hB, hN, hI, hA, hZ, hS, ⟨wn, hn, hT, hG⟩, ha, hb⟩ := hK2
  have hR2 := hR
  obtain ⟨hTB, hWD, hLN, hGK, hVT, hIM⟩ := hR2
  have hs := h2.1
  refine sOk.imp (k202k E (by omega) H (gi M 78) hTB hLN (fun _ => rfl) hVT) ?_
  rintro v M' ⟨v', e, H', f, q0⟩
  have z := (f.q rfl).z
  exact ⟨v', e, H', trivial, ⟨wa, wb, hK.keep H' z rfl rfl, ⟨hTB.fr f rfl, hWD.fr f rfl, hLN.fr f rfl, hGK.fr f rfl, q0, hIM.fr f rfl⟩, by rw [f.1]; exact r1, by rw [f.2.1]; exact r2⟩, h1.fz H.m z rfl, h2.fr f rfl⟩
theorem Y204 {base : Nat} {X : Nat → Option mC} {G : Nat → Value} (E : EnvOK base X G) {d : Nat} (hd : 2 ≤ d) {M : mH} (H : HI base M) (s : Int) (second : Int) (said : Int) (j : Int) (gs : Int) (gT : Int → Int) (gN : Int → Int) (ga : Int) (g0 : Int → Int) (gb : Int) (g1 : Int → Int) {es : Int} {eT eN : Int → Int} {ea : Int} {e0 : Int → Int} {eb : Int} {e1 : Int → Int} (h0 : INVl base j M) (h1 : CSx base es eT eN ea e0 eb e1 M) (h2 : RSx gs gT gN ga g0 gb g1 M) (b_s : -2147483648 ≤ s ∧ s ≤ 2147483647) (b_second : -2147483648 ≤ second ∧ second ≤ 2147483647) (b_said : -2147483648 ≤ said ∧ said ≤ 2147483647) : sOk base X G d T204 [vR 77, vI s, vI second, vI said] M (pI (fun v M' => HI base M' ∧ Ftr [(0, 0)] M M' ∧ (INVl base j M') ∧ (CSx base es eT eN ea e0 eb e1 M') ∧ (RSx gs gT gN ga g0 gb g1 M'))) := by
  obtain ⟨wa, wb, hK, hR, r1, r2⟩ := h0
  have hK2 := hK
  obtain ⟨hH, hB, hN, hI, hA, hZ, hS, ⟨wn, hn, hT, hG⟩, ha, hb⟩ := hK2
  have hR2 := hR
  obtain ⟨hTB, hWD, hLN, hGK, hVT, hIM⟩ := hR2
  have hs := h2.1
  refine sOk.imp (k204 E (by omega) H s second said (by omega) (by omega) (by omega)) ?_
  rintro v M' ⟨v', e, rfl, -⟩
  exact ⟨v', e, H, trivial, ⟨wa, wb, hK, hR, by omega, by omega⟩, h1, h2⟩
theorem Y205 {base : Nat} {X : Nat → Option mC} {G : Nat → Value} (E : EnvOK base X G) {d : Nat} (hd : 2 ≤ d) {M : mH} (H : HI base M) (s : Int) (second : Int) (j : Int) (gs : Int) (gT : Int → Int) (gN : Int → Int) (ga : Int) (g0 : Int → Int) (gb : Int) (g1 : Int → Int) {es : Int} {eT eN : Int → Int} {ea : Int} {e0 : Int → Int} {eb : Int} {e1 : Int → Int} (h0 : INVl base j M) (h1 : CSx base es eT eN ea e0 eb e1 M) (h2 : RSx gs gT gN ga g0 gb g1 M) (b_s : -2147483648 ≤ s ∧ s ≤ 2147483647) (b_second : -2147483648 ≤ second ∧ second ≤ 2147483647) : sOk base X G d T205 [vR 77, vI s, vI second] M (pI (fun v M' => HI base M' ∧ Ftr [(0, 0)] M M' ∧ (INVl base j M') ∧ (CSx base es eT eN ea e0 eb e1 M') ∧ (RSx gs gT gN ga g0 gb g1 M'))) := by
  obtain ⟨wa, wb, hK, hR, r1, r2⟩ := h0
  have hK2 := hK
  obtain ⟨hH, hB, hN, hI, hA, hZ, hS, ⟨wn, hn, hT, hG⟩, ha, hb⟩ := hK2
  have hR2 := hR
  obtain ⟨hTB, hWD, hLN, hGK, hVT, hIM⟩ := hR2
  have hs := h2.1
  refine sOk.imp (k205 E (by omega) H s second (by omega) (by omega)) ?_
  rintro v M' ⟨v', e, rfl, -⟩
  exact ⟨v', e, H, trivial, ⟨wa, wb, hK, hR, by omega, by omega⟩, h1, h2⟩
theorem Y210 {base : Nat} {X : Nat → Option mC} {G : Nat → Value} (E : EnvOK base X G) {d : Nat} (hd : 0 ≤ d) {M : mH} (H : HI base M) (xa : Int) (xb : Int) (xc : Int) (xd : Int) (xe : Int) (j : Int) (gs : Int) (gT : Int → Int) (gN : Int → Int) (ga : Int) (g0 : Int → Int) (gb : Int) (g1 : Int → Int) {es : Int} {eT eN : Int → Int} {ea : Int} {e0 : Int → Int} {eb : Int} {e1 : Int → Int} (h0 : INVl base j M) (h1 : CSx base es eT eN ea e0 eb e1 M) (h2 : RSx gs gT gN ga g0 gb g1 M) (b_xa : -2147483648 ≤ xa ∧ xa ≤ 2147483647) (b_xb : -2147483648 ≤ xb ∧ xb ≤ 2147483647) (b_xc : -2147483648 ≤ xc ∧ xc ≤ 2147483647) (b_xd : -2147483648 ≤ xd ∧ xd ≤ 2147483647) (b_xe : -2147483648 ≤ xe ∧ xe ≤ 2147483647) : sOk base X G d T210 [vR 77, vI xa, vI xb, vI xc, vI xd, vI xe] M (pI (fun v M' => HI base M' ∧ Ftr [(0, 0)] M M' ∧ (INVl base j M') ∧ (CSx base es eT eN ea e0 eb e1 M') ∧ (RSx (fdS gs) (fdT gT gs xa xb xc xd xe) gN ga g0 gb g1 M') ∧ (-2147483648 ≤ v ∧ v ≤ 2147483647) ∧ (v = fdV gs))) := by
  obtain ⟨wa, wb, hK, hR, r1, r2⟩ := h0
  have hK2 := hK
  obtain ⟨hH, hB, hN, hI, hA, hZ, hS, ⟨wn, hn, hT, hG⟩, ha, hb⟩ := hK2
  have hR2 := hR
  obtain ⟨hTB, hWD, hLN, hGK, hVT, hIM⟩ := hR2
  have hs := h2.1
  refine sOk.imp (k210n E (by omega) H xa xb xc xd xe (by omega) (by omega) (by omega) (by omega) (by omega)) ?_
  rintro v M' ⟨v', e, H', f, q0, q1, q2, q3, q4⟩
  have z := (f.q rfl).z
  have cs : RSx (fdS gs) (fdT gT gs xa xb xc xd xe) gN ga g0 gb g1 M' := by
    unfold fdS fdT
    by_cases c : gs ≤ 380
    · rw [if_pos c, if_pos c]
      refine h2.fed f rfl (by omega) (fun i p q => ?_)
      rw [q3 (by omega) i p, hs]
      exact fdN_cong (h2.2.1 i p q)
    · rw [if_neg c, if_neg c]
      exact h2.fed f rfl (by omega) (fun i p q => by rw [q4 (by omega) i]; exact h2.2.1 i p q)
  exact ⟨v', e, H', trivial, ⟨wa, wb, hK.keep H' z rfl rfl, ⟨hTB.fr f rfl, hWD.fr f rfl, hLN.fr f rfl, hGK.fr f rfl, hVT.fr f rfl, hIM.fr f rfl⟩, by rw [f.1]; exact r1, by rw [f.2.1]; exact r2⟩, h1.fz H.m z rfl, cs, q0, (by unfold fdV; split <;> omega)⟩
theorem Y211 {base : Nat} {X : Nat → Option mC} {G : Nat → Value} (E : EnvOK base X G) {d : Nat} (hd : 1 ≤ d) {M : mH} (H : HI base M) (n : Int) (j : Int) (gs : Int) (gT : Int → Int) (gN : Int → Int) (ga : Int) (g0 : Int → Int) (gb : Int) (g1 : Int → Int) {es : Int} {eT eN : Int → Int} {ea : Int} {e0 : Int → Int} {eb : Int} {e1 : Int → Int} (h0 : INVl base j M) (h1 : CSx base es eT eN ea e0 eb e1 M) (h2 : RSx gs gT gN ga g0 gb g1 M) (b_n : -2147483648 ≤ n ∧ n ≤ 2147483647) : sOk base X G d T211 [vR 77, vI n] M (pI (fun v M' => HI base M' ∧ Ftr [(0, 0)] M M' ∧ (INVl base j M') ∧ (CSx base es eT eN ea e0 eb e1 M') ∧ (RSx (enS gs n) gT gN ga g0 gb g1 M') ∧ (-2147483648 ≤ v ∧ v ≤ 2147483647) ∧ (v = enV gs n))) := by
  obtain ⟨wa, wb, hK, hR, r1, r2⟩ := h0
  have hK2 := hK
  obtain ⟨hH, hB, hN, hI, hA, hZ, hS, ⟨wn, hn, hT, hG⟩, ha, hb⟩ := hK2
  have hR2 := hR
  obtain ⟨hTB, hWD, hLN, hGK, hVT, hIM⟩ := hR2
  have hs := h2.1
  refine sOk.imp (k211e E (by omega) H n (by omega)) ?_
  rintro v M' ⟨v', e, H', f, q0, q1, q2⟩
  have z := (f.q rfl).z
  exact ⟨v', e, H', trivial, ⟨wa, wb, hK.keep H' z rfl rfl, ⟨hTB.fr f rfl, hWD.fr f rfl, hLN.fr f rfl, hGK.fr f rfl, hVT.fr f rfl, hIM.fr f rfl⟩, by rw [f.1]; exact r1, by rw [f.2.1]; exact r2⟩, h1.fz H.m z rfl, h2.tape f rfl (by unfold enS; split <;> omega), q0, (by unfold enV; split <;> omega)⟩
theorem Y230 {base : Nat} {X : Nat → Option mC} {G : Nat → Value} (E : EnvOK base X G) {d : Nat} (hd : 60 ≤ d) {M : mH} (H : HI base M) (j : Int) (gs : Int) (gT : Int → Int) (gN : Int → Int) (ga : Int) (g0 : Int → Int) (gb : Int) (g1 : Int → Int) {es : Int} {eT eN : Int → Int} {ea : Int} {e0 : Int → Int} {eb : Int} {e1 : Int → Int} (h0 : INVl base j M) (h1 : CSx base es eT eN ea e0 eb e1 M) (h2 : RSx gs gT gN ga g0 gb g1 M) : sOk base X G d T230 [vR 77] M (pI (fun v M' => HI base M' ∧ Ftr [(0, 0)] M M' ∧ (INVl base j M') ∧ (CSx base es eT eN ea e0 eb e1 M') ∧ (RSx 0 gT gN ga g0 gb g1 M'))) := by
  obtain ⟨wa, wb, hK, hR, r1, r2⟩ := h0
  have hK2 := hK
  obtain ⟨hH, hB, hN, hI, hA, hZ, hS, ⟨wn, hn, hT, hG⟩, ha, hb⟩ := hK2
  have hR2 := hR
  obtain ⟨hTB, hWD, hLN, hGK, hVT, hIM⟩ := hR2
  have hs := h2.1
  refine sOk.imp (k230n E (by omega) H  hWD hLN hGK) ?_
  rintro v M' ⟨v', e, H', f, q0, q1, q2, q3⟩
  have z := (f.q rfl).z
  exact ⟨v', e, H', trivial, ⟨wa, wb, hK.keep H' z rfl rfl, ⟨hTB.fr f rfl, hWD.fr f rfl, q0, q1, hVT.fr f rfl, hIM.fr f rfl⟩, by rw [f.1]; exact r1, by rw [f.2.1]; exact r2⟩, h1.fz H.m z rfl, h2.kn f rfl q2 (fun j hj => (q3 j hj).trans (h2.2.2.1 j hj))⟩
theorem Y231 {base : Nat} {X : Nat → Option mC} {G : Nat → Value} (E : EnvOK base X G) {d : Nat} (hd : 0 ≤ d) {M : mH} (H : HI base M) (j : Int) (gs : Int) (gT : Int → Int) (gN : Int → Int) (ga : Int) (g0 : Int → Int) (gb : Int) (g1 : Int → Int) {es : Int} {eT eN : Int → Int} {ea : Int} {e0 : Int → Int} {eb : Int} {e1 : Int → Int} (h0 : INVl base j M) (h1 : CSx base es eT eN ea e0 eb e1 M) (h2 : RSx gs gT gN ga g0 gb g1 M) : sOk base X G d T231 [vR 77] M (pI (fun v M' => HI base M' ∧ Ftr [(0, 0)] M M' ∧ (INVl base j M') ∧ (CSx base es eT eN ea e0 eb e1 M') ∧ (RSx gs gT gN ga g0 gb g1 M'))) := by
  obtain ⟨wa, wb, hK, hR, r1, r2⟩ := h0
  have hK2 := hK
  obtain ⟨hH, hB, hN, hI, hA, hZ, hS, ⟨wn, hn, hT, hG⟩, ha, hb⟩ := hK2
  have hR2 := hR
  obtain ⟨hTB, hWD, hLN, hGK, hVT, hIM⟩ := hR2
  have hs := h2.1
  refine sOk.imp (k231 E (by omega) H  ) ?_
  rintro v M' ⟨v', e, rfl, -⟩
  exact ⟨v', e, H, trivial, ⟨wa, wb, hK, hR, by omega, by omega⟩, h1, h2⟩
theorem Y248 {base : Nat} {X : Nat → Option mC} {G : Nat → Value} (E : EnvOK base X G) {d : Nat} (hd : 70 ≤ d) {M : mH} (H : HI base M) (text : Int) (s : Int) (j : Int) (gs : Int) (gT : Int → Int) (gN : Int → Int) (ga : Int) (g0 : Int → Int) (gb : Int) (g1 : Int → Int) {es : Int} {eT eN : Int → Int} {ea : Int} {e0 : Int → Int} {eb : Int} {e1 : Int → Int} (h0 : INVl base j M) (h1 : CSx base es eT eN ea e0 eb e1 M) (h2 : RSx gs gT gN ga g0 gb g1 M) (b_text : -2147483648 ≤ text ∧ text ≤ 2147483647) (b_s : -2147483648 ≤ s ∧ s ≤ 2147483647) : sOk base X G d T248 [vR 77, vI text, vI s] M (pI (fun v M' => HI base M' ∧ Ftr [(0, 0)] M M' ∧ (INVl base j M') ∧ (CSx base es eT eN ea e0 eb e1 M') ∧ (RSx gs gT gN ga g0 gb g1 M'))) := by
  obtain ⟨wa, wb, hK, hR, r1, r2⟩ := h0
  have hK2 := hK
  obtain ⟨hH, hB, hN, hI, hA, hZ, hS, ⟨wn, hn, hT, hG⟩, ha, hb⟩ := hK2
  have hR2 := hR
  obtain ⟨hTB, hWD, hLN, hGK, hVT, hIM⟩ := hR2
  have hs := h2.1
  refine sOk.imp (k248k E (by omega) H text s (gi M 78) hTB (fun _ => rfl) hGK (by omega) (by omega)) ?_
  rintro v M' ⟨v', e, H', f, q0⟩
  have z := (f.q rfl).z
  exact ⟨v', e, H', trivial, ⟨wa, wb, hK.keep H' z rfl rfl, ⟨hTB.fr f rfl, hWD.fr f rfl, hLN.fr f rfl, hGK.fr f rfl, hVT.fr f rfl, hIM.fr f rfl⟩, by rw [f.1]; exact r1, by rw [f.2.1]; exact r2⟩, h1.fz H.m z rfl, h2.fr f rfl⟩
theorem Y249 {base : Nat} {X : Nat → Option mC} {G : Nat → Value} (E : EnvOK base X G) {d : Nat} (hd : 1 ≤ d) {M : mH} (H : HI base M) (second : Int) (j : Int) (gs : Int) (gT : Int → Int) (gN : Int → Int) (ga : Int) (g0 : Int → Int) (gb : Int) (g1 : Int → Int) {es : Int} {eT eN : Int → Int} {ea : Int} {e0 : Int → Int} {eb : Int} {e1 : Int → Int} (h0 : INVl base j M) (h1 : CSx base es eT eN ea e0 eb e1 M) (h2 : RSx gs gT gN ga g0 gb g1 M) (b_second : -2147483648 ≤ second ∧ second ≤ 2147483647) : sOk base X G d T249 [vR 77, vI second] M (pI (fun v M' => HI base M' ∧ Ftr [(0, 0)] M M' ∧ (INVl base j M') ∧ (CSx base es eT eN ea e0 eb e1 M') ∧ (RSx gs gT gN ga g0 gb g1 M'))) := by
  obtain ⟨wa, wb, hK, hR, r1, r2⟩ := h0
  have hK2 := hK
  obtain ⟨hH, hB, hN, hI, hA, hZ, hS, ⟨wn, hn, hT, hG⟩, ha, hb⟩ := hK2
  have hR2 := hR
  obtain ⟨hTB, hWD, hLN, hGK, hVT, hIM⟩ := hR2
  have hs := h2.1
  refine sOk.imp (k249 E (by omega) H second (by omega)) ?_
  rintro v M' ⟨v', e, rfl, -⟩
  exact ⟨v', e, H, trivial, ⟨wa, wb, hK, hR, by omega, by omega⟩, h1, h2⟩
theorem Y250 {base : Nat} {X : Nat → Option mC} {G : Nat → Value} (E : EnvOK base X G) {d : Nat} (hd : 70 ≤ d) {M : mH} (H : HI base M) (text : Int) (j : Int) (gs : Int) (gT : Int → Int) (gN : Int → Int) (ga : Int) (g0 : Int → Int) (gb : Int) (g1 : Int → Int) {es : Int} {eT eN : Int → Int} {ea : Int} {e0 : Int → Int} {eb : Int} {e1 : Int → Int} (h0 : INVl base j M) (h1 : CSx base es eT eN ea e0 eb e1 M) (h2 : RSx gs gT gN ga g0 gb g1 M) (b_text : -2147483648 ≤ text ∧ text ≤ 2147483647) : sOk base X G d T250 [vR 77, vI text] M (pL (fun v M' => HI base M' ∧ Ftr [(0, 0)] M M' ∧ (INVl base j M') ∧ (CSx base es eT eN ea e0 eb e1 M') ∧ (RSx gs gT gN ga g0 gb g1 M'))) := by
  obtain ⟨wa, wb, hK, hR, r1, r2⟩ := h0
  have hK2 := hK
  obtain ⟨hH, hB, hN, hI, hA, hZ, hS, ⟨wn, hn, hT, hG⟩, ha, hb⟩ := hK2
  have hR2 := hR
  obtain ⟨hTB, hWD, hLN, hGK, hVT, hIM⟩ := hR2
  have hs := h2.1
  refine sOk.imp (k250k E (by omega) H text (gi M 78) hTB (fun _ => rfl) hGK (by omega)) ?_
  rintro v M' ⟨v', e, H', f⟩
  have z := (f.q rfl).z
  exact ⟨v', e, H', trivial, ⟨wa, wb, hK.keep H' z rfl rfl, ⟨hTB.fr f rfl, hWD.fr f rfl, hLN.fr f rfl, hGK.fr f rfl, hVT.fr f rfl, hIM.fr f rfl⟩, by rw [f.1]; exact r1, by rw [f.2.1]; exact r2⟩, h1.fz H.m z rfl, h2.fr f rfl⟩
theorem Y206 {base : Nat} {X : Nat → Option mC} {G : Nat → Value} (E : EnvOK base X G) {d : Nat} (hd : 7 ≤ d) {M : mH} (H : HI base M) (j : Int) (gs : Int) (gT : Int → Int) (gN : Int → Int) (ga : Int) (g0 : Int → Int) (gb : Int) (g1 : Int → Int) {es : Int} {eT eN : Int → Int} {ea : Int} {e0 : Int → Int} {eb : Int} {e1 : Int → Int} (h0 : INVl base j M) (h1 : CSx base es eT eN ea e0 eb e1 M) (h2 : RSx gs gT gN ga g0 gb g1 M) : sOk base X G d T206 [vR 77] M (pL (fun v M' => HI base M' ∧ Ftr [(0, 0)] M M' ∧ (INVl base j M') ∧ (CSx base es eT eN ea e0 eb e1 M') ∧ (RSx gs gT gN ga g0 gb g1 M'))) := by
  obtain ⟨wa, wb, hK, hR, r1, r2⟩ := h0
  have hK2 := hK
  obtain ⟨hH, hB, hN, hI, hA, hZ, hS, ⟨wn, hn, hT, hG⟩, ha, hb⟩ := hK2
  have hR2 := hR
  obtain ⟨hTB, hWD, hLN, hGK, hVT, hIM⟩ := hR2
  have hs := h2.1
  refine sOk.imp (k206k E (by omega) H  hTB hLN hVT) ?_
  rintro v M' ⟨v', e, H', f, q0⟩
  have z := (f.q rfl).z
  exact ⟨v', e, H', trivial, ⟨wa, wb, hK.keep H' z rfl rfl, ⟨hTB.fr f rfl, hWD.fr f rfl, hLN.fr f rfl, hGK.fr f rfl, q0, hIM.fr f rfl⟩, by rw [f.1]; exact r1, by rw [f.2.1]; exact r2⟩, h1.fz H.m z rfl, h2.fr f rfl⟩
theorem Y209 {base : Nat} {X : Nat → Option mC} {G : Nat → Value} (E : EnvOK base X G) {d : Nat} (hd : 8 ≤ d) {M : mH} (H : HI base M) (w : Int) (j : Int) (gs : Int) (gT : Int → Int) (gN : Int → Int) (ga : Int) (g0 : Int → Int) (gb : Int) (g1 : Int → Int) {es : Int} {eT eN : Int → Int} {ea : Int} {e0 : Int → Int} {eb : Int} {e1 : Int → Int} (h0 : INVl base j M) (h1 : CSx base es eT eN ea e0 eb e1 M) (h2 : RSx gs gT gN ga g0 gb g1 M) (b_w : -2147483648 ≤ w ∧ w ≤ 2147483647) : sOk base X G d T209 [vR 77, vI w] M (pL (fun v M' => HI base M' ∧ Ftr [(0, 0)] M M' ∧ (INVl base j M') ∧ (CSx base es eT eN ea e0 eb e1 M') ∧ (RSx gs gT gN ga g0 gb g1 M'))) := by
  obtain ⟨wa, wb, hK, hR, r1, r2⟩ := h0
  have hK2 := hK
  obtain ⟨hH, hB, hN, hI, hA, hZ, hS, ⟨wn, hn, hT, hG⟩, ha, hb⟩ := hK2
  have hR2 := hR
  obtain ⟨hTB, hWD, hLN, hGK, hVT, hIM⟩ := hR2
  have hs := h2.1
  refine sOk.imp (k209n E (by omega) H w hTB hLN hVT hGK (by omega)) ?_
  rintro v M' ⟨v', e, H', f, q0, q1, q2, q3⟩
  have z := (f.q rfl).z
  exact ⟨v', e, H', trivial, ⟨wa, wb, hK.keep H' z rfl rfl, ⟨hTB.fr f rfl, hWD.fr f rfl, q0, q2, q1, hIM.fr f rfl⟩, by rw [f.1]; exact r1, by rw [f.2.1]; exact r2⟩, h1.fz H.m z rfl, h2.kn f rfl ((f.g rfl).trans hs) (fun j hj => (q3 j hj).trans (h2.2.2.1 j hj))⟩
theorem Y251 {base : Nat} {X : Nat → Option mC} {G : Nat → Value} (E : EnvOK base X G) {d : Nat} (hd : 1 ≤ d) {M : mH} (H : HI base M) (lag : Int) (keeps : Int) (limit : Int) (j : Int) (gs : Int) (gT : Int → Int) (gN : Int → Int) (ga : Int) (g0 : Int → Int) (gb : Int) (g1 : Int → Int) {es : Int} {eT eN : Int → Int} {ea : Int} {e0 : Int → Int} {eb : Int} {e1 : Int → Int} (h0 : INVl base j M) (h1 : CSx base es eT eN ea e0 eb e1 M) (h2 : RSx gs gT gN ga g0 gb g1 M) (b_lag : -2147483648 ≤ lag ∧ lag ≤ 2147483647) (b_keeps : -2147483648 ≤ keeps ∧ keeps ≤ 2147483647) (b_limit : -2147483648 ≤ limit ∧ limit ≤ 2147483647) : sOk base X G d T251 [vR 77, vI lag, vI keeps, vI limit] M (pI (fun v M' => HI base M' ∧ Ftr [(0, 0)] M M' ∧ (INVl base j M') ∧ (CSx base es eT eN ea e0 eb e1 M') ∧ (RSx gs gT (ctN (BV lag keeps limit) gN 391 472 6 lag keeps limit) ga g0 gb g1 M') ∧ (-2147483648 ≤ v ∧ v ≤ 2147483647) ∧ (v = ctV (BV lag keeps limit) gN 472 6))) := by
  obtain ⟨wa, wb, hK, hR, r1, r2⟩ := h0
  have hK2 := hK
  obtain ⟨hH, hB, hN, hI, hA, hZ, hS, ⟨wn, hn, hT, hG⟩, ha, hb⟩ := hK2
  have hR2 := hR
  obtain ⟨hTB, hWD, hLN, hGK, hVT, hIM⟩ := hR2
  have hs := h2.1
  refine sOk.imp (k251n E (by omega) H lag keeps limit hLN hGK (by omega) (by omega) (by omega)) ?_
  rintro v M' ⟨v', e, H', f, q0, q1, q2⟩
  have z := (f.q rfl).z
  have dj : dAs 472 := by unfold dAs; omega
  have cn : gi M 78 472 = gN 472 := h2.2.2.1 472 dj
  have bv := H.2 78 472 0 6 (rk_boxmany (by omega))
  have cs : RSx gs gT (ctN (BV lag keeps limit) gN 391 472 6 lag keeps limit) ga g0 gb g1 M' ∧ (-2147483648 ≤ v' ∧ v' ≤ 2147483647) ∧ v' = ctV (BV lag keeps limit) gN 472 6 := by
    unfold ctN ctV
    rcases q2 with ⟨hp, hl, hvv, M1, u, fa⟩ | ⟨hp, hl, hvv, fr⟩ | ⟨hp, hvv, fr⟩
    · have hp2 := hp
      unfold BV at hp2
      rw [if_pos hp, if_pos hp, if_pos (show gN 472 < 6 by omega), if_pos (show gN 472 < 6 by omega)]
      have w := h2.w4 (b := 391) (i := 472) (lim := 6) ⟨by omega, dj⟩ (by omega) ⟨by omega, by omega⟩ (by omega) (by unfold inR; omega) (by unfold inR; omega) (by unfold inR; omega) u
      exact ⟨w.fr fa rfl, by omega, by rw [hvv]; exact cn⟩
    · rw [if_pos hp, if_pos hp, if_neg (show ¬ gN 472 < 6 by omega), if_neg (show ¬ gN 472 < 6 by omega)]
      exact ⟨h2.fr fr rfl, by omega, hvv⟩
    · rw [if_neg hp, if_neg hp]
      exact ⟨h2.fr fr rfl, by omega, hvv⟩
  exact ⟨v', e, H', trivial, ⟨wa, wb, hK.keep H' z rfl rfl, ⟨hTB.fr f rfl, hWD.fr f rfl, q0, q1, hVT.fr f rfl, hIM.fr f rfl⟩, by rw [f.1]; exact r1, by rw [f.2.1]; exact r2⟩, h1.fz H.m z rfl, cs.1, cs.2.1, cs.2.2⟩
theorem Y254 {base : Nat} {X : Nat → Option mC} {G : Nat → Value} (E : EnvOK base X G) {d : Nat} (hd : 1 ≤ d) {M : mH} (H : HI base M) (j : Int) (gs : Int) (gT : Int → Int) (gN : Int → Int) (ga : Int) (g0 : Int → Int) (gb : Int) (g1 : Int → Int) {es : Int} {eT eN : Int → Int} {ea : Int} {e0 : Int → Int} {eb : Int} {e1 : Int → Int} (h0 : INVl base j M) (h1 : CSx base es eT eN ea e0 eb e1 M) (h2 : RSx gs gT gN ga g0 gb g1 M) : sOk base X G d T254 [vR 77] M (pI (fun v M' => HI base M' ∧ Ftr [(0, 0)] M M' ∧ (INVl base j M') ∧ (CSx base es eT eN ea e0 eb e1 M') ∧ (RSx gs gT gN ga g0 gb g1 M'))) := by
  obtain ⟨wa, wb, hK, hR, r1, r2⟩ := h0
  have hK2 := hK
  obtain ⟨hH, hB, hN, hI, hA, hZ, hS, ⟨wn, hn, hT, hG⟩, ha, hb⟩ := hK2
  have hR2 := hR
  obtain ⟨hTB, hWD, hLN, hGK, hVT, hIM⟩ := hR2
  have hs := h2.1
  refine sOk.imp (k254x E (by omega) H  ) ?_
  rintro v M' ⟨v', e, H', f⟩
  have z := (f.q rfl).z
  exact ⟨v', e, H', trivial, ⟨wa, wb, hK.keep H' z rfl rfl, ⟨hTB.fr f rfl, hWD.fr f rfl, hLN.fr f rfl, hGK.fr f rfl, hVT.fr f rfl, hIM.fr f rfl⟩, by rw [f.1]; exact r1, by rw [f.2.1]; exact r2⟩, h1.fz H.m z rfl, h2.fr f rfl⟩
theorem Y255 {base : Nat} {X : Nat → Option mC} {G : Nat → Value} (E : EnvOK base X G) {d : Nat} (hd : 1 ≤ d) {M : mH} (H : HI base M) (i : Int) (j : Int) (gs : Int) (gT : Int → Int) (gN : Int → Int) (ga : Int) (g0 : Int → Int) (gb : Int) (g1 : Int → Int) {es : Int} {eT eN : Int → Int} {ea : Int} {e0 : Int → Int} {eb : Int} {e1 : Int → Int} (h0 : INVl base j M) (h1 : CSx base es eT eN ea e0 eb e1 M) (h2 : RSx gs gT gN ga g0 gb g1 M) (b_i : -2147483648 ≤ i ∧ i ≤ 2147483647) : sOk base X G d T255 [vR 77, vI i] M (pI (fun v M' => HI base M' ∧ Ftr [(0, 0)] M M' ∧ (INVl base j M') ∧ (CSx base es eT eN ea e0 eb e1 M') ∧ (RSx gs gT gN ga g0 gb g1 M'))) := by
  obtain ⟨wa, wb, hK, hR, r1, r2⟩ := h0
  have hK2 := hK
  obtain ⟨hH, hB, hN, hI, hA, hZ, hS, ⟨wn, hn, hT, hG⟩, ha, hb⟩ := hK2
  have hR2 := hR
  obtain ⟨hTB, hWD, hLN, hGK, hVT, hIM⟩ := hR2
  have hs := h2.1
  refine sOk.imp (k255 E (by omega) H i (by omega)) ?_
  rintro v M' ⟨v', e, rfl, -⟩
  exact ⟨v', e, H, trivial, ⟨wa, wb, hK, hR, by omega, by omega⟩, h1, h2⟩
theorem Y256 {base : Nat} {X : Nat → Option mC} {G : Nat → Value} (E : EnvOK base X G) {d : Nat} (hd : 1 ≤ d) {M : mH} (H : HI base M) (minute : Int) (cost : Int) (j : Int) (gs : Int) (gT : Int → Int) (gN : Int → Int) (ga : Int) (g0 : Int → Int) (gb : Int) (g1 : Int → Int) {es : Int} {eT eN : Int → Int} {ea : Int} {e0 : Int → Int} {eb : Int} {e1 : Int → Int} (h0 : INVl base j M) (h1 : CSx base es eT eN ea e0 eb e1 M) (h2 : RSx gs gT gN ga g0 gb g1 M) (b_minute : -2147483648 ≤ minute ∧ minute ≤ 2147483647) (b_cost : -2147483648 ≤ cost ∧ cost ≤ 2147483647) : sOk base X G d T256 [vR 77, vI minute, vI cost] M (pI (fun v M' => HI base M' ∧ Ftr [(0, 0)] M M' ∧ (INVl base j M') ∧ (CSx base es eT eN ea e0 eb e1 M') ∧ (RSx gs gT (stN (MV minute cost) gN (409 + minute) cost) ga g0 gb g1 M') ∧ (-2147483648 ≤ v ∧ v ≤ 2147483647) ∧ (v = stV (MV minute cost) gN (409 + minute)))) := by
  obtain ⟨wa, wb, hK, hR, r1, r2⟩ := h0
  have hK2 := hK
  obtain ⟨hH, hB, hN, hI, hA, hZ, hS, ⟨wn, hn, hT, hG⟩, ha, hb⟩ := hK2
  have hR2 := hR
  obtain ⟨hTB, hWD, hLN, hGK, hVT, hIM⟩ := hR2
  have hs := h2.1
  refine sOk.imp (k256n E (by omega) H minute cost hLN hGK (by omega) (by omega)) ?_
  rintro v M' ⟨v', e, H', f, q0, q1, q2⟩
  have z := (f.q rfl).z
  have cs : RSx gs gT (stN (MV minute cost) gN (409 + minute) cost) ga g0 gb g1 M' ∧ (-2147483648 ≤ v' ∧ v' ≤ 2147483647) ∧ v' = stV (MV minute cost) gN (409 + minute) := by
    rcases q2 with ⟨hp, hvv, M1, u, fa⟩ | ⟨hp, hvv, fr⟩
    · have hp2 := hp
      unfold MV at hp2
      have dj : dAs (409 + minute) := by unfold dAs; omega
      have bv := (H.1.int sc_78 (i := 409 + minute) (by omega) (by show _ < (6883 : Int); omega) rfl).2
      unfold inR at bv
      rw [stN_pos hp, stV_pos hp]
      have ww := (h2.wr u (by omega) rfl (by unfold inR; omega)).fr fa rfl
      exact ⟨ww, by omega, by rw [hvv]; exact h2.2.2.1 _ dj⟩
    · rw [stN_neg hp, stV_neg hp]
      have ww := h2.fr fr rfl
      exact ⟨ww, by omega, hvv⟩
  exact ⟨v', e, H', trivial, ⟨wa, wb, hK.keep H' z rfl rfl, ⟨hTB.fr f rfl, hWD.fr f rfl, q0, q1, hVT.fr f rfl, hIM.fr f rfl⟩, by rw [f.1]; exact r1, by rw [f.2.1]; exact r2⟩, h1.fz H.m z rfl, cs.1, cs.2.1, cs.2.2⟩
theorem Y257 {base : Nat} {X : Nat → Option mC} {G : Nat → Value} (E : EnvOK base X G) {d : Nat} (hd : 1 ≤ d) {M : mH} (H : HI base M) (minutes : Int) (j : Int) (gs : Int) (gT : Int → Int) (gN : Int → Int) (ga : Int) (g0 : Int → Int) (gb : Int) (g1 : Int → Int) {es : Int} {eT eN : Int → Int} {ea : Int} {e0 : Int → Int} {eb : Int} {e1 : Int → Int} (h0 : INVl base j M) (h1 : CSx base es eT eN ea e0 eb e1 M) (h2 : RSx gs gT gN ga g0 gb g1 M) (b_minutes : -2147483648 ≤ minutes ∧ minutes ≤ 2147483647) : sOk base X G d T257 [vR 77, vI minutes] M (pI (fun v M' => HI base M' ∧ Ftr [(0, 0)] M M' ∧ (INVl base j M') ∧ (CSx base es eT eN ea e0 eb e1 M') ∧ (RSx gs gT gN ga g0 gb g1 M'))) := by
  obtain ⟨wa, wb, hK, hR, r1, r2⟩ := h0
  have hK2 := hK
  obtain ⟨hH, hB, hN, hI, hA, hZ, hS, ⟨wn, hn, hT, hG⟩, ha, hb⟩ := hK2
  have hR2 := hR
  obtain ⟨hTB, hWD, hLN, hGK, hVT, hIM⟩ := hR2
  have hs := h2.1
  refine sOk.imp (k257x E (by omega) H minutes (by omega)) ?_
  rintro v M' ⟨v', e, H', f⟩
  have z := (f.q rfl).z
  exact ⟨v', e, H', trivial, ⟨wa, wb, hK.keep H' z rfl rfl, ⟨hTB.fr f rfl, hWD.fr f rfl, hLN.fr f rfl, hGK.fr f rfl, hVT.fr f rfl, hIM.fr f rfl⟩, by rw [f.1]; exact r1, by rw [f.2.1]; exact r2⟩, h1.fz H.m z rfl, h2.fr f rfl⟩
theorem Y258 {base : Nat} {X : Nat → Option mC} {G : Nat → Value} (E : EnvOK base X G) {d : Nat} (hd : 1 ≤ d) {M : mH} (H : HI base M) (i : Int) (j : Int) (gs : Int) (gT : Int → Int) (gN : Int → Int) (ga : Int) (g0 : Int → Int) (gb : Int) (g1 : Int → Int) {es : Int} {eT eN : Int → Int} {ea : Int} {e0 : Int → Int} {eb : Int} {e1 : Int → Int} (h0 : INVl base j M) (h1 : CSx base es eT eN ea e0 eb e1 M) (h2 : RSx gs gT gN ga g0 gb g1 M) (b_i : -2147483648 ≤ i ∧ i ≤ 2147483647) : sOk base X G d T258 [vR 77, vI i] M (pI (fun v M' => HI base M' ∧ Ftr [(0, 0)] M M' ∧ (INVl base j M') ∧ (CSx base es eT eN ea e0 eb e1 M') ∧ (RSx gs gT gN ga g0 gb g1 M'))) := by
  obtain ⟨wa, wb, hK, hR, r1, r2⟩ := h0
  have hK2 := hK
  obtain ⟨hH, hB, hN, hI, hA, hZ, hS, ⟨wn, hn, hT, hG⟩, ha, hb⟩ := hK2
  have hR2 := hR
  obtain ⟨hTB, hWD, hLN, hGK, hVT, hIM⟩ := hR2
  have hs := h2.1
  refine sOk.imp (k258 E (by omega) H i (by omega)) ?_
  rintro v M' ⟨v', e, rfl, -⟩
  exact ⟨v', e, H, trivial, ⟨wa, wb, hK, hR, by omega, by omega⟩, h1, h2⟩
theorem Y260 {base : Nat} {X : Nat → Option mC} {G : Nat → Value} (E : EnvOK base X G) {d : Nat} (hd : 2 ≤ d) {M : mH} (H : HI base M) (minutes : Int) (what : Int) (j : Int) (gs : Int) (gT : Int → Int) (gN : Int → Int) (ga : Int) (g0 : Int → Int) (gb : Int) (g1 : Int → Int) {es : Int} {eT eN : Int → Int} {ea : Int} {e0 : Int → Int} {eb : Int} {e1 : Int → Int} (h0 : INVl base j M) (h1 : CSx base es eT eN ea e0 eb e1 M) (h2 : RSx gs gT gN ga g0 gb g1 M) (b_minutes : -2147483648 ≤ minutes ∧ minutes ≤ 2147483647) (b_what : -2147483648 ≤ what ∧ what ≤ 2147483647) : sOk base X G d T260 [vR 77, vI minutes, vI what] M (pI (fun v M' => HI base M' ∧ Ftr [(0, 0)] M M' ∧ (INVl base j M') ∧ (CSx base es eT eN ea e0 eb e1 M') ∧ (RSx gs gT gN ga g0 gb g1 M'))) := by
  obtain ⟨wa, wb, hK, hR, r1, r2⟩ := h0
  have hK2 := hK
  obtain ⟨hH, hB, hN, hI, hA, hZ, hS, ⟨wn, hn, hT, hG⟩, ha, hb⟩ := hK2
  have hR2 := hR
  obtain ⟨hTB, hWD, hLN, hGK, hVT, hIM⟩ := hR2
  have hs := h2.1
  refine sOk.imp (k260 E (by omega) H minutes what (by omega) (by omega)) ?_
  rintro v M' ⟨v', e, H', f⟩
  have z := (f.q rfl).z
  exact ⟨v', e, H', trivial, ⟨wa, wb, hK.keep H' z rfl rfl, ⟨hTB.fr f rfl, hWD.fr f rfl, hLN.fr f rfl, hGK.fr f rfl, hVT.fr f rfl, hIM.fr f rfl⟩, by rw [f.1]; exact r1, by rw [f.2.1]; exact r2⟩, h1.fz H.m z rfl, h2.fr f rfl⟩
theorem Y261 {base : Nat} {X : Nat → Option mC} {G : Nat → Value} (E : EnvOK base X G) {d : Nat} (hd : 70 ≤ d) {M : mH} (H : HI base M) (text : Int) (s : Int) (slot : Int) (meant : Int) (third : Int) (j : Int) (gs : Int) (gT : Int → Int) (gN : Int → Int) (ga : Int) (g0 : Int → Int) (gb : Int) (g1 : Int → Int) {es : Int} {eT eN : Int → Int} {ea : Int} {e0 : Int → Int} {eb : Int} {e1 : Int → Int} (h0 : INVl base j M) (h1 : CSx base es eT eN ea e0 eb e1 M) (h2 : RSx gs gT gN ga g0 gb g1 M) (b_text : -2147483648 ≤ text ∧ text ≤ 2147483647) (b_s : -2147483648 ≤ s ∧ s ≤ 2147483647) (b_slot : -2147483648 ≤ slot ∧ slot ≤ 2147483647) (b_meant : -2147483648 ≤ meant ∧ meant ≤ 2147483647) (b_third : -2147483648 ≤ third ∧ third ≤ 2147483647) : sOk base X G d T261 [vR 77, vI text, vI s, vI slot, vI meant, vI third] M (pI (fun v M' => HI base M' ∧ Ftr [(0, 0)] M M' ∧ (INVl base j M') ∧ (CSx base es eT eN ea e0 eb e1 M') ∧ (RSx gs gT gN ga g0 gb g1 M'))) := by
  obtain ⟨wa, wb, hK, hR, r1, r2⟩ := h0
  have hK2 := hK
  obtain ⟨hH, hB, hN, hI, hA, hZ, hS, ⟨wn, hn, hT, hG⟩, ha, hb⟩ := hK2
  have hR2 := hR
  obtain ⟨hTB, hWD, hLN, hGK, hVT, hIM⟩ := hR2
  have hs := h2.1
  refine sOk.imp (k261k E (by omega) H text s slot meant third (gi M 78) hTB (fun _ => rfl) hGK (by omega) (by omega) (by omega) (by omega) (by omega)) ?_
  rintro v M' ⟨v', e, H', f⟩
  have z := (f.q rfl).z
  exact ⟨v', e, H', trivial, ⟨wa, wb, hK.keep H' z rfl rfl, ⟨hTB.fr f rfl, hWD.fr f rfl, hLN.fr f rfl, hGK.fr f rfl, hVT.fr f rfl, hIM.fr f rfl⟩, by rw [f.1]; exact r1, by rw [f.2.1]; exact r2⟩, h1.fz H.m z rfl, h2.fr f rfl⟩
theorem Y262 {base : Nat} {X : Nat → Option mC} {G : Nat → Value} (E : EnvOK base X G) {d : Nat} (hd : 70 ≤ d) {M : mH} (H : HI base M) (s : Int) (j : Int) (gs : Int) (gT : Int → Int) (gN : Int → Int) (ga : Int) (g0 : Int → Int) (gb : Int) (g1 : Int → Int) {es : Int} {eT eN : Int → Int} {ea : Int} {e0 : Int → Int} {eb : Int} {e1 : Int → Int} (h0 : INVl base j M) (h1 : CSx base es eT eN ea e0 eb e1 M) (h2 : RSx gs gT gN ga g0 gb g1 M) (b_s : -2147483648 ≤ s ∧ s ≤ 2147483647) : sOk base X G d T262 [vR 77, vI s] M (pI (fun v M' => HI base M' ∧ Ftr [(0, 0)] M M' ∧ (INVl base j M') ∧ (CSx base es eT eN ea e0 eb e1 M') ∧ (RSx 0 gT gN ga g0 gb g1 M'))) := by
  obtain ⟨wa, wb, hK, hR, r1, r2⟩ := h0
  have hK2 := hK
  obtain ⟨hH, hB, hN, hI, hA, hZ, hS, ⟨wn, hn, hT, hG⟩, ha, hb⟩ := hK2
  have hR2 := hR
  obtain ⟨hTB, hWD, hLN, hGK, hVT, hIM⟩ := hR2
  have hs := h2.1
  refine sOk.imp (k262e E (by omega) H s (gi M 78) hTB (fun _ => rfl) hGK (by omega)) ?_
  rintro v M' ⟨v', e, H', f, q0, q1⟩
  have z := (f.q rfl).z
  exact ⟨v', e, H', trivial, ⟨wa, wb, hK.keep H' z rfl rfl, ⟨hTB.fr f rfl, hWD.fr f rfl, hLN.fr f rfl, hGK.fr f rfl, hVT.fr f rfl, hIM.fr f rfl⟩, by rw [f.1]; exact r1, by rw [f.2.1]; exact r2⟩, h1.fz H.m z rfl, h2.tape f rfl q1⟩
theorem Y264 {base : Nat} {X : Nat → Option mC} {G : Nat → Value} (E : EnvOK base X G) {d : Nat} (hd : 70 ≤ d) {M : mH} (H : HI base M) (what : Int) (j : Int) (gs : Int) (gT : Int → Int) (gN : Int → Int) (ga : Int) (g0 : Int → Int) (gb : Int) (g1 : Int → Int) {es : Int} {eT eN : Int → Int} {ea : Int} {e0 : Int → Int} {eb : Int} {e1 : Int → Int} (h0 : INVl base j M) (h1 : CSx base es eT eN ea e0 eb e1 M) (h2 : RSx gs gT gN ga g0 gb g1 M) (b_what : -2147483648 ≤ what ∧ what ≤ 2147483647) : sOk base X G d T264 [vR 77, vI what] M (pI (fun v M' => HI base M' ∧ Ftr [(0, 0)] M M' ∧ (INVl base j M') ∧ (CSx base es eT eN ea e0 eb e1 M') ∧ (RSx gs gT gN ga g0 gb g1 M'))) := by
  obtain ⟨wa, wb, hK, hR, r1, r2⟩ := h0
  have hK2 := hK
  obtain ⟨hH, hB, hN, hI, hA, hZ, hS, ⟨wn, hn, hT, hG⟩, ha, hb⟩ := hK2
  have hR2 := hR
  obtain ⟨hTB, hWD, hLN, hGK, hVT, hIM⟩ := hR2
  have hs := h2.1
  refine sOk.imp (k264k E (by omega) H what (gi M 78) hTB (fun _ => rfl) hGK (by omega)) ?_
  rintro v M' ⟨v', e, H', f, q0⟩
  have z := (f.q rfl).z
  exact ⟨v', e, H', trivial, ⟨wa, wb, hK.keep H' z rfl rfl, ⟨hTB.fr f rfl, hWD.fr f rfl, hLN.fr f rfl, hGK.fr f rfl, hVT.fr f rfl, hIM.fr f rfl⟩, by rw [f.1]; exact r1, by rw [f.2.1]; exact r2⟩, h1.fz H.m z rfl, h2.fr f rfl⟩
theorem Y151 {base : Nat} {X : Nat → Option mC} {G : Nat → Value} (E : EnvOK base X G) {d : Nat} (hd : 1 ≤ d) {M : mH} (H : HI base M) (k : Int) (j : Int) (gs : Int) (gT : Int → Int) (gN : Int → Int) (ga : Int) (g0 : Int → Int) (gb : Int) (g1 : Int → Int) {es : Int} {eT eN : Int → Int} {ea : Int} {e0 : Int → Int} {eb : Int} {e1 : Int → Int} (h0 : INVl base j M) (h1 : CSx base es eT eN ea e0 eb e1 M) (h2 : RSx gs gT gN ga g0 gb g1 M) (b_k : -2147483648 ≤ k ∧ k ≤ 2147483647) : sOk base X G d T151 [vR 77, vI k] M (pI (fun v M' => HI base M' ∧ Ftr [(0, 0)] M M' ∧ (INVl base j M') ∧ (CSx base es eT eN ea e0 eb e1 M') ∧ (RSx gs gT gN (imA 0 k ga) (imF 0 k gN g0) (imA 1 k gb) (imF 1 k gN g1) M') ∧ (-2147483648 ≤ v ∧ v ≤ 2147483647) ∧ (v = imV k))) := by
  obtain ⟨wa, wb, hK, hR, r1, r2⟩ := h0
  have hK2 := hK
  obtain ⟨hH, hB, hN, hI, hA, hZ, hS, ⟨wn, hn, hT, hG⟩, ha, hb⟩ := hK2
  have hR2 := hR
  obtain ⟨hTB, hWD, hLN, hGK, hVT, hIM⟩ := hR2
  have hs := h2.1
  refine sOk.imp (k151n E (by omega) H k (by omega) hLN hGK hIM) ?_
  rintro v M' ⟨v', e, H', f, q0, q1, q2, q3, q4, q5, q6, q7, q8, q9, q10⟩
  have z := (f.q rfl).z
  have vv := imV.of q3 q4
  have cs : RSx gs gT gN (imA 0 k ga) (imF 0 k gN g0) (imA 1 k gb) (imF 1 k gN g1) M' := by
    unfold imA imF
    by_cases k0 : k = 0
    · subst k0
      rw [if_pos rfl, if_pos rfl, if_neg (by decide), if_neg (by decide)]
      exact h2.img0 (f.g rfl) (fun j => f.g rfl) (fun j => f.g rfl) (q5 (by decide)) (q6 1 (by decide)) (q8 (by decide)) (q9 (by decide))
    · rw [if_neg k0, if_neg k0]
      by_cases k1 : k = 1
      · subst k1
        rw [if_pos rfl, if_pos rfl]
        exact h2.img1 (f.g rfl) (fun j => f.g rfl) (fun j => f.g rfl) (q5 (by decide)) (q6 0 (by decide)) (q8 (by decide)) (q9 (by decide))
      · rw [if_neg k1, if_neg k1]
        obtain ⟨x1, xT, x2, x3, x4, x5, x6⟩ := h2
        have z9 := q10 (by omega)
        have z0 := q7 (by omega)
        exact ⟨(f.g rfl).trans x1, fun i a b => by rw [show gi M' 95 i = gi M 95 i from f.g rfl]; exact xT i a b, fun j hj => (f.g rfl).trans (x2 j hj), (z0 0).trans x3, fun a j hj => (z9 j).trans (x4 a j hj), (z0 1).trans x5, fun a j hj => (z9 _).trans (x6 a j hj)⟩
  exact ⟨v', e, H', trivial, ⟨wa, wb, hK.keep H' z rfl rfl, ⟨hTB.fr f rfl, hWD.fr f rfl, q0, q1, hVT.fr f rfl, q2⟩, by rw [f.1]; exact r1, by rw [f.2.1]; exact r2⟩, h1.fz H.m z rfl, cs, (by rw [vv]; unfold imV; split <;> omega), vv⟩
theorem Y152 {base : Nat} {X : Nat → Option mC} {G : Nat → Value} (E : EnvOK base X G) {d : Nat} (hd : 1 ≤ d) {M : mH} (H : HI base M) (k : Int) (j : Int) (gs : Int) (gT : Int → Int) (gN : Int → Int) (ga : Int) (g0 : Int → Int) (gb : Int) (g1 : Int → Int) {es : Int} {eT eN : Int → Int} {ea : Int} {e0 : Int → Int} {eb : Int} {e1 : Int → Int} (h0 : INVl base j M) (h1 : CSx base es eT eN ea e0 eb e1 M) (h2 : RSx gs gT gN ga g0 gb g1 M) (b_k : -2147483648 ≤ k ∧ k ≤ 2147483647) : sOk base X G d T152 [vR 77, vI k] M (pI (fun v M' => HI base M' ∧ Ftr [(0, 0)] M M' ∧ (INVl base j M') ∧ (CSx base es eT eN ea e0 eb e1 M') ∧ (RSx gs gT (bkN k ga gb g0 g1 gN) ga g0 gb g1 M') ∧ (-2147483648 ≤ v ∧ v ≤ 2147483647) ∧ (v = bkV k ga gb))) := by
  obtain ⟨wa, wb, hK, hR, r1, r2⟩ := h0
  have hK2 := hK
  obtain ⟨hH, hB, hN, hI, hA, hZ, hS, ⟨wn, hn, hT, hG⟩, ha, hb⟩ := hK2
  have hR2 := hR
  obtain ⟨hTB, hWD, hLN, hGK, hVT, hIM⟩ := hR2
  have hs := h2.1
  refine sOk.imp (k152n E (by omega) H k (by omega) hLN hGK hIM) ?_
  rintro v M' ⟨v', e, H', f, q0, q1, q2, q3, q4, q5, q6, q7⟩
  have z := (f.q rfl).z
  have bb := h2.bits2 H
  have vv := bkV.rx h2 bb.1 bb.2 q3 q4 q5
  have cs : RSx gs gT (bkN k ga gb g0 g1 gN) ga g0 gb g1 M' := h2.back H f rfl ((f.g rfl).trans hs) q6 q7
  exact ⟨v', e, H', trivial, ⟨wa, wb, hK.keep H' z rfl rfl, ⟨hTB.fr f rfl, hWD.fr f rfl, q0, q1, hVT.fr f rfl, hIM.fr f rfl⟩, by rw [f.1]; exact r1, by rw [f.2.1]; exact r2⟩, h1.fz H.m z rfl, cs, q2, vv⟩
theorem Y265 {base : Nat} {X : Nat → Option mC} {G : Nat → Value} (E : EnvOK base X G) {d : Nat} (hd : 0 ≤ d) {M : mH} (H : HI base M) (what : Int) (j : Int) (gs : Int) (gT : Int → Int) (gN : Int → Int) (ga : Int) (g0 : Int → Int) (gb : Int) (g1 : Int → Int) {es : Int} {eT eN : Int → Int} {ea : Int} {e0 : Int → Int} {eb : Int} {e1 : Int → Int} (h0 : INVl base j M) (h1 : CSx base es eT eN ea e0 eb e1 M) (h2 : RSx gs gT gN ga g0 gb g1 M) (b_what : -2147483648 ≤ what ∧ what ≤ 2147483647) : sOk base X G d T265 [vR 77, vI what] M (pI (fun v M' => HI base M' ∧ Ftr [(0, 0)] M M' ∧ (INVl base j M') ∧ (CSx base es eT eN ea e0 eb e1 M') ∧ (RSx gs gT gN ga g0 gb g1 M'))) := by
  obtain ⟨wa, wb, hK, hR, r1, r2⟩ := h0
  have hK2 := hK
  obtain ⟨hH, hB, hN, hI, hA, hZ, hS, ⟨wn, hn, hT, hG⟩, ha, hb⟩ := hK2
  have hR2 := hR
  obtain ⟨hTB, hWD, hLN, hGK, hVT, hIM⟩ := hR2
  have hs := h2.1
  refine sOk.imp (k265 E (by omega) H what (by omega)) ?_
  rintro v M' ⟨v', e, rfl, -⟩
  exact ⟨v', e, H, trivial, ⟨wa, wb, hK, hR, by omega, by omega⟩, h1, h2⟩
theorem Y266 {base : Nat} {X : Nat → Option mC} {G : Nat → Value} (E : EnvOK base X G) {d : Nat} (hd : 0 ≤ d) {M : mH} (H : HI base M) (j : Int) (gs : Int) (gT : Int → Int) (gN : Int → Int) (ga : Int) (g0 : Int → Int) (gb : Int) (g1 : Int → Int) {es : Int} {eT eN : Int → Int} {ea : Int} {e0 : Int → Int} {eb : Int} {e1 : Int → Int} (h0 : INVl base j M) (h1 : CSx base es eT eN ea e0 eb e1 M) (h2 : RSx gs gT gN ga g0 gb g1 M) : sOk base X G d T266 [vR 77] M (pI (fun v M' => HI base M' ∧ Ftr [(0, 0)] M M' ∧ (INVl base j M') ∧ (CSx base es eT eN ea e0 eb e1 M') ∧ (RSx gs gT gN ga g0 gb g1 M'))) := by
  obtain ⟨wa, wb, hK, hR, r1, r2⟩ := h0
  have hK2 := hK
  obtain ⟨hH, hB, hN, hI, hA, hZ, hS, ⟨wn, hn, hT, hG⟩, ha, hb⟩ := hK2
  have hR2 := hR
  obtain ⟨hTB, hWD, hLN, hGK, hVT, hIM⟩ := hR2
  have hs := h2.1
  refine sOk.imp (k266 E (by omega) H  ) ?_
  rintro v M' ⟨v', e, rfl, -⟩
  exact ⟨v', e, H, trivial, ⟨wa, wb, hK, hR, by omega, by omega⟩, h1, h2⟩
