set_option maxRecDepth 4000 in
theorem k232x {base : Nat} {X : Nat → Option mC} {G : Nat → Value} (E : EnvOK base X G) {d : Nat} (hd : 0 ≤ d) {M : mH} (H : HI base M) (k : Int) (e : Int) (C : Int → Int) (h0 : KC C M) (h1 : gi M 77 41 = e) (h2 : 0 ≤ k ∧ k ≤ 3200) (h3 : 0 ≤ e ∧ e ≤ 3200) : sOk base X G d T232 [vR 77, vI k] M (pI (fun v M' => M' = M ∧ (-2147483648 ≤ v ∧ v ≤ 2147483647) ∧ (k < e → v = C k) ∧ (e ≤ k → v = 0))) := by
  refine sOk.of (show sRn base X G d T232 0 [(0, vR 77), (1, vI k)] [] M _ from ?_)
  refine s_blx (lv' := [(0, vR 77), (1, vI k)]) (st' := [vR 77, vI k]) B232_0_2 rfl ?_
  refine r_gint (ki := 41) (pc' := 5) D232_2 rfl gf_11_375_77 rfl H.1 ?_
  intro w1 e2 r3
  have e4 : e = w1 := (e2.trans (h1)).symm
  subst e4
  refine r_icmp (tgt := 21) (pc' := 8) D232_5 rfl rfl (by unfold inR; omega) (fun (c5 : e ≤ k) => ?_) (fun (c5 : ¬ (e ≤ k)) => ?_)
  · refine s_blx (lv' := [(0, vR 77), (1, vI k)]) (st' := [vI 0]) B232_21_22 rfl ?_
    exact r_iretI D232_22 rfl (⟨rfl, by omega, by omega, by omega⟩)
  · refine s_blx (lv' := [(0, vR 77), (1, vI k)]) (st' := [vR 77]) B232_8_9 rfl ?_
    refine r_gfix (r := 78) (pc' := 12) D232_9 rfl gf_11_13_77 H.1 ?_
    refine s_blx (lv' := [(0, vR 77), (1, vI k)]) (st' := [vI (483 + k), vR 78]) B232_12_17 rfl ?_
    refine r_iald (pc' := 18) D232_17 rfl sc_78 H.1 (by omega) ?_
    intro w6 e7 r8
    unfold inR at r8
    have kc := h0 k
    refine r_goto (tgt := 22) D232_18 rfl ?_
    exact r_iretI D232_22 rfl (⟨rfl, by omega, by omega, by omega⟩)
