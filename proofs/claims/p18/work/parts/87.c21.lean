
set_option maxRecDepth 4000 in
theorem k138k {base : Nat} {X : Nat → Option mC} {G : Nat → Value} (E : EnvOK base X G) {d : Nat} (hd : 6 ≤ d) {M : mH} (H : HI base M) (h0 : gi M 0 9 = 0 → ((1 ≤ gi M 20 15 ∧ gi M 20 15 ≤ 145) ∧ TR 21 (gi M 20 15) M ∧ GT 32 (gi M 20 15) M)) : sOk base X G d T138 [vR 0] M (pV (fun M' => HI base M' ∧ Fr [(0, 10), (20, 16), (20, 17), (20, 18), (21, 0), (22, 0), (23, 0), (24, 0), (25, 0), (26, 0), (27, 0), (28, 0), (29, 0), (30, 0), (31, 0), (32, 0), (33, 0), (34, 0), (35, 0)] M M' ∧ ((1 ≤ gi M' 20 15 ∧ gi M' 20 15 ≤ 145) ∧ TR 21 (gi M' 20 15) M' ∧ GT 32 (gi M' 20 15) M'))) := by
  have f0 : Fr [(0, 10), (20, 16), (20, 17), (20, 18), (21, 0), (22, 0), (23, 0), (24, 0), (25, 0), (26, 0), (27, 0), (28, 0), (29, 0), (30, 0), (31, 0), (32, 0), (33, 0), (34, 0), (35, 0)] M M := Fr.rf
  refine sOk.of (show sRn base X G d T138 0 [(0, vR 0)] [] M _ from ?_)
  refine s_blx (lv' := [(0, vR 0)]) (st' := [vR 0]) B138_0_1 rfl ?_
  refine r_gint (ki := 9) (pc' := 4) D138_1 rfl gf_10_57_0 rfl H.1 ?_
  intro w1 e2 r3
  have b_w1 := H.2 0 (9) 0 1 rfl
  rw [← e2] at b_w1; clear r3
  refine r_ifc (tgt := 24) (pc' := 7) D138_4 rfl rfl (by unfold inR; omega) (fun (c4 : w1 = 0) => ?_) (fun (c4 : ¬ (w1 = 0)) => ?_)
  · exact r_retV D138_24 rfl (⟨H, f0, by first | exact h0 (by omega) | exact ⟨⟨by rw [kg]; exact kq0.1, by rw [kg]; exact kq0.2⟩, by rw [kg]; exact kq1.wr ku (by decide), by rw [kg]; exact kq2.wr ku (by decide)⟩⟩)
  · refine s_blx (lv' := [(0, vR 0)]) (st' := [vR 0]) B138_7_8 rfl ?_
    refine r_gfix (r := 20) (pc' := 11) D138_8 rfl gf_10_44_0 H.1 ?_
    refine s_blx (lv' := [(0, vR 0)]) (st' := [vR 0, vR 20]) B138_11_12 rfl ?_
    refine r_gfix (r := 1) (pc' := 15) D138_12 rfl gf_10_10_0 H.1 ?_
    refine s_blx (lv' := [(0, vR 0)]) (st' := [vI (-1), vR 1, vR 20]) B138_15_16 rfl ?_
    refine r_vV (c := 20) (args := [vR 1, vI (-1)]) (rest := []) (pc' := 19) D138_16 rfl ck_10_virtual_213 TE79 rfl (Nat.le_of_ble_eq_true rfl) ⟨Nat.le_of_ble_eq_true rfl, Nat.le_of_ble_eq_true rfl⟩ sc_20 ⟨rfl, by decide⟩ H.1 (dp_0 hd rfl) (k79_20x E (dp_n hd rfl) H (-1) (by omega)) ?_
    intro M6 q12
    obtain ⟨H7, f8, q9, q10, q11⟩ := q12
    have f13 := f0.tr (f8.up rfl)
    have kq0 := q9; clear q9
    have kq1 := q10; clear q10
    have kq2 := q11; clear q11
    refine s_blx (lv' := [(0, vR 0)]) (st' := [vI 0, vR 0]) B138_19_21 rfl ?_
    refine r_pbool (ki := 9) (pc' := 24) D138_21 rfl pf_10_57_0 rfl H7 (by omega) (show 0 ≤ 0 ∧ 0 ≤ 1 by omega) ?_
    intro M14 u15 H16 p17
    have f18 := f13.wr u15 rfl
    have ku := u15
    have kg : gi M14 20 15 = gi M6 20 15 := ku.gi_ne (by decide) (Or.inl (by decide))
    exact r_retV D138_24 rfl (⟨H16, f18, by first | exact h0 (by omega) | exact ⟨⟨by rw [kg]; exact kq0.1, by rw [kg]; exact kq0.2⟩, by rw [kg]; exact kq1.wr ku (by decide), by rw [kg]; exact kq2.wr ku (by decide)⟩⟩)
