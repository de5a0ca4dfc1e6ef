/-- what the reference answers to a TEXT: all is well, or where the fault lies -/
noncomputable def DRx (T : Int → Int) (s v fa : Int) : Prop := (v = 1 ∧ fa = -1 ∧ HRx T s (-1) 0) ∨ (v = 0 ∧ HRx T s 0 fa)
theorem DRx.of {T : Int → Int} {s v b' a' : Int} (h : (b' = -1 → ∃ u w, RR (tkE T s).2.2.1 10 0 0 0 (u, w, -1)) ∧ (b' ≠ -1 → b' = (tkE T s).2.1 a' ∧ ∃ z, RR (tkE T s).2.2.1 10 0 0 0 (a', z, 0))) (hv : (v = 1 ∧ b' = -1) ∨ (v = 0 ∧ b' ≠ -1)) : DRx T s v b' := by
  rcases hv with ⟨rfl, rfl⟩ | ⟨rfl, y⟩
  · obtain ⟨u, w, g⟩ := h.1 rfl
    exact Or.inl ⟨rfl, rfl, u, w, g, fun c => absurd c (by decide)⟩
  · obtain ⟨e, z, g⟩ := h.2 y
    exact Or.inr ⟨rfl, a', z, g, fun _ => e⟩
theorem CRx.at {K st : Int → Int} {a q a' q' b' a0 q0 : Int} (h : CRx K st a q a' q' b') (ea : a = a0) (eq : q = q0) : CRx K st a0 q0 a' q' b' := by subst ea eq; exact h

set_option maxRecDepth 4000 in
theorem L_k229p {base : Nat} {X : Nat → Option mC} {G : Nat → Value} (E : EnvOK base X G) {d : Nat} (hd : 59 ≤ d) {M : mH} (H : HI base M) (sz : Int) (T : Int → Int) (h0 : WX M) (h1 : gi M 77 31 = sz) (h2 : 0 ≤ sz ∧ sz ≤ 400) (h3 : ∀ i : Int, 0 ≤ i → i < sz → gi M 95 i % 256 = T i) : ∀ mz : Nat, (∀ (x1 n0 t0 l0 b0 : Int) (C V : Int → Int) (N : mH), HI base N → Fr [(77, 32), (77, 33), (77, 37), (77, 38), (77, 39), (77, 40), (97, 0), (98, 0), (99, 0)] M N → (RTx C V (tkE T sz).2.1 n0 N) → (KQ (tkE T sz).2.2.1 C V n0) → (gi N 77 36 = n0) → (0 ≤ n0 ∧ n0 ≤ 400) → (gi N 77 37 = t0) → (gi N 77 38 = l0) → (gi N 77 39 = b0) → (0 ≤ t0 ∧ t0 ≤ n0) → (0 ≤ l0 ∧ l0 ≤ 51) → (b0 = -1 → l0 ≤ 50) → (QRx (tkE T sz).2.2.1 (tkE T sz).2.1 x1 t0 l0 b0) → (1 ≤ x1 ∧ x1 ≤ 13) → (b0 = -1 → x1 ≤ 12) → (gi N 77 31 = 0) → (-2147483648 ≤ b0 ∧ b0 ≤ 2147483647) → (1 ≤ x1) → (x1 ≤ 14) → (400 - t0) * 1 + 0 < (mz : Int) → sRn base X G d T229 34 [(0, vR 77), (1, vI x1)] [] N (s_Q base (pI (fun v M' => HI base M' ∧ Fr [(77, 32), (77, 33), (77, 37), (77, 38), (77, 39), (77, 40), (97, 0), (98, 0), (99, 0)] M M' ∧ (v = 0 ∨ v = 1) ∧ (DRx T sz v (gi M' 77 32)) ∧ (gi M' 77 31 = 0))))) := by
  have f0 : Fr [(77, 32), (77, 33), (77, 37), (77, 38), (77, 39), (77, 40), (97, 0), (98, 0), (99, 0)] M M := Fr.rf
  intro mz
  induction mz with
  | zero => exact fun x1 n0 t0 l0 b0 C V N _ _ z0 z1 z2 z3 z4 z5 z6 z7 z8 z9 z10 z11 z12 z13 z14 z15 z16 z17 => by omega
  | succ mz ih =>
    intro x1 n0 t0 l0 b0 C V N HN fN i0 i1 i2 i3 i4 i5 i6 i7 i8 i9 i10 i11 i12 i13 i14 i15 i16 hmu
    have kN : t0 = n0 → (tkE T sz).2.2.1 t0 = 22 := fun e_ => by rw [e_]; have w_ := i1 n0 (by omega) (by omega); unfold KOK at w_; omega
    have kn22 : t0 < n0 → (tkE T sz).2.2.1 t0 ≠ 22 := fun e_ => by have w_ := i1 t0 (by omega) (by omega); unfold KOK at w_; omega
    refine s_blx (lv' := [(0, vR 77), (1, vI x1)]) (st' := [vI 59, vR 77]) B229_34_37 rfl ?_
    refine r_sIp (args := [vI 59]) (rest := [vR 77]) (pc' := 40) D229_37 rfl ck_11_static_346 TE221 rfl (Nat.le_of_ble_eq_true rfl) ⟨Nat.le_of_ble_eq_true rfl, Nat.le_of_ble_eq_true rfl⟩ (by decide) (dp_0 hd rfl) (k221 E (dp_n hd rfl) HN 59 (by omega)) ?_
    intro v66 q69
    have q68 := q69; clear q69
    have e70 : v66 = 159 := by omega
    subst e70
    have g71 : gi N 77 36 = n0 := i2
    have g72 : gi N 77 37 = t0 := i4
    have g73 : gi N 77 38 = l0 := i5
    have g74 : gi N 77 39 = b0 := i6
    refine r_vI (c := 77) (args := [vI 159]) (rest := []) (pc' := 43) D229_40 rfl ck_11_virtual_328 TE218 rfl (Nat.le_of_ble_eq_true rfl) ⟨Nat.le_of_ble_eq_true rfl, Nat.le_of_ble_eq_true rfl⟩ sc_77 ⟨rfl, by decide⟩ HN.1 (dp_0 hd rfl) (k218p E (dp_n hd rfl) HN 159 159 n0 t0 b0 l0 (tkE T sz).2.2.1 C V (tkE T sz).2.1 (i0) (i1) (by omega) (by omega) (by omega) (by omega) (by omega) (by omega) (by omega) (by omega) (by first | assumption | (unfold isC; omega)) (by omega)) ?_
    intro v75 M76 q84
    obtain ⟨H77, f78, q79, q80, q81, q82, q83⟩ := q84
    have f85 := fN.tr (f78.up rfl)
    have hp86 := i0.fr f78 (by decide)
    obtain ⟨t87, ht88⟩ : ∃ q, q = gi M76 77 37 := ⟨_, rfl⟩
    have b_t87 := H77.2 77 37 0 400 rfl
    rw [← ht88] at b_t87
    rw [← ht88] at q80
    rw [← ht88] at q81
    refine r_ifc (tgt := 73) (pc' := 46) D229_43 rfl rfl (by unfold inR; omega) (fun (c89 : v75 = 0) => ?_) (fun (c89 : ¬ (v75 = 0)) => ?_)
    · refine s_blx (lv' := [(0, vR 77), (1, vI x1)]) (st' := [vR 77]) B229_73_74 rfl ?_
      have g90 : gi M76 77 39 = b0 := (f78.g rfl).trans (i6)
      refine r_vIp (c := 77) (args := []) (rest := []) (pc' := 77) D229_74 rfl ck_11_virtual_321 TE216 rfl (Nat.le_of_ble_eq_true rfl) ⟨Nat.le_of_ble_eq_true rfl, Nat.le_of_ble_eq_true rfl⟩ sc_77 ⟨rfl, by decide⟩ H77.1 (dp_0 hd rfl) (k216x E (dp_n hd rfl) H77 ) ?_
      intro v91 q96
      obtain ⟨q93, q94, q95⟩ := q96
      refine r_ifc (tgt := 95) (pc' := 80) D229_77 rfl rfl (by unfold inR; omega) (fun (c97 : v91 = 0) => ?_) (fun (c97 : ¬ (v91 = 0)) => ?_)
      · refine s_blx (lv' := [(0, vR 77), (1, vI x1)]) (st' := [vR 77, vR 77]) B229_95_97 rfl ?_
        have khf : (b0 ≠ -1 ∧ t87 = t0 ∧ b0 = b0) ∨ (b0 = -1 ∧ (tkE T sz).2.2.1 t0 = 22 ∧ t87 = t0 ∧ b0 = -1) ∨ (b0 = -1 ∧ (tkE T sz).2.2.1 t0 ≠ 22 ∧ (tkE T sz).2.2.1 t0 ≠ 159 ∧ t87 = t0 ∧ b0 = (tkE T sz).2.1 t0 ∧ b0 ≠ -1) := by omega
        have kfin := QRx.fin i10 khf
        refine r_gint (ki := 39) (pc' := 100) D229_97 rfl gf_11_318_77 rfl H77.1 ?_
        intro w98 e99 r100
        have e101 : b0 = w98 := (e99.trans ((f78.g rfl).trans (i6))).symm
        subst e101
        refine r_pint (ki := 32) (pc' := 103) D229_100 rfl pf_11_75_77 rfl H77 (by unfold inR; omega) trivial ?_
        intro M102 u103 H104 p105
        have f106 := f85.wr u103 rfl
        have hp107 := hp86.wr u103 (by decide)
        refine s_blx (lv' := [(0, vR 77), (1, vI x1)]) (st' := [vR 77]) B229_103_104 rfl ?_
        have g108 : gi M102 77 39 = b0 := (u103.gi_ne (by decide) (Or.inr (by decide))).trans ((f78.g rfl).trans (i6))
        refine r_vIp (c := 77) (args := []) (rest := []) (pc' := 107) D229_104 rfl ck_11_virtual_321 TE216 rfl (Nat.le_of_ble_eq_true rfl) ⟨Nat.le_of_ble_eq_true rfl, Nat.le_of_ble_eq_true rfl⟩ sc_77 ⟨rfl, by decide⟩ H104.1 (dp_0 hd rfl) (k216x E (dp_n hd rfl) H104 ) ?_
        intro v109 q114
        obtain ⟨q111, q112, q113⟩ := q114
        have g115 : gi M102 77 32 = b0 := p105
        have g116 : gi M102 77 31 = gi N 77 31 := (u103.gi_ne (by decide) (Or.inr (by decide))).trans ((f78.g rfl).trans (rfl))
        exact r_zretI D229_107 rfl (by omega) (⟨H104, f106, by omega, by rw [(p105)]; exact DRx.of kfin (by omega), by first | (rw [g116]; omega) | rw [g116]⟩)
      · refine s_blx (lv' := [(0, vR 77), (1, vI x1)]) (st' := [vR 77]) B229_80_81 rfl ?_
        refine r_gint (ki := 37) (pc' := 84) D229_81 rfl gf_11_325_77 rfl H77.1 ?_
        intro w117 e118 r119
        have e120 : t87 = w117 := (e118.trans (ht88.symm)).symm
        subst e120
        refine s_blx (lv' := [(0, vR 77), (1, vI x1)]) (st' := [vR 77, vI t87]) B229_84_85 rfl ?_
        refine r_gint (ki := 36) (pc' := 88) D229_85 rfl gf_11_305_77 rfl H77.1 ?_
        intro w121 e122 r123
        have e124 : n0 = w121 := (e122.trans ((f78.g rfl).trans (i2))).symm
        subst e124
        refine r_icmp (tgt := 95) (pc' := 91) D229_88 rfl rfl (by unfold inR; omega) (fun (c125 : n0 ≤ t87) => ?_) (fun (c125 : ¬ (n0 ≤ t87)) => ?_)
        · refine s_blx (lv' := [(0, vR 77), (1, vI x1)]) (st' := [vR 77, vR 77]) B229_95_97 rfl ?_
          have khf : (b0 ≠ -1 ∧ t87 = t0 ∧ b0 = b0) ∨ (b0 = -1 ∧ (tkE T sz).2.2.1 t0 = 22 ∧ t87 = t0 ∧ b0 = -1) ∨ (b0 = -1 ∧ (tkE T sz).2.2.1 t0 ≠ 22 ∧ (tkE T sz).2.2.1 t0 ≠ 159 ∧ t87 = t0 ∧ b0 = (tkE T sz).2.1 t0 ∧ b0 ≠ -1) := by omega
          have kfin := QRx.fin i10 khf
          refine r_gint (ki := 39) (pc' := 100) D229_97 rfl gf_11_318_77 rfl H77.1 ?_
          intro w126 e127 r128
          have e129 : b0 = w126 := (e127.trans ((f78.g rfl).trans (i6))).symm
          subst e129
          refine r_pint (ki := 32) (pc' := 103) D229_100 rfl pf_11_75_77 rfl H77 (by unfold inR; omega) trivial ?_
          intro M130 u131 H132 p133
          have f134 := f85.wr u131 rfl
          have hp135 := hp86.wr u131 (by decide)
          refine s_blx (lv' := [(0, vR 77), (1, vI x1)]) (st' := [vR 77]) B229_103_104 rfl ?_
          have g136 : gi M130 77 39 = b0 := (u131.gi_ne (by decide) (Or.inr (by decide))).trans ((f78.g rfl).trans (i6))
          refine r_vIp (c := 77) (args := []) (rest := []) (pc' := 107) D229_104 rfl ck_11_virtual_321 TE216 rfl (Nat.le_of_ble_eq_true rfl) ⟨Nat.le_of_ble_eq_true rfl, Nat.le_of_ble_eq_true rfl⟩ sc_77 ⟨rfl, by decide⟩ H132.1 (dp_0 hd rfl) (k216x E (dp_n hd rfl) H132 ) ?_
          intro v137 q142
          obtain ⟨q139, q140, q141⟩ := q142
          have g143 : gi M130 77 32 = b0 := p133
          have g144 : gi M130 77 31 = gi N 77 31 := (u131.gi_ne (by decide) (Or.inr (by decide))).trans ((f78.g rfl).trans (rfl))
          exact r_zretI D229_107 rfl (by omega) (⟨H132, f134, by omega, by rw [(p133)]; exact DRx.of kfin (by omega), by first | (rw [g144]; omega) | rw [g144]⟩)
        · refine s_blx (lv' := [(0, vR 77), (1, vI x1)]) (st' := [vR 77]) B229_91_92 rfl ?_
          have g145 : gi M76 77 36 = n0 := (f78.g rfl).trans (i2)
          have g146 : gi M76 77 37 = t87 := ht88.symm
          have g147 : gi M76 77 39 = b0 := (f78.g rfl).trans (i6)
          refine r_vV (c := 77) (args := []) (rest := []) (pc' := 95) D229_92 rfl ck_11_virtual_331 TE217 rfl (Nat.le_of_ble_eq_true rfl) ⟨Nat.le_of_ble_eq_true rfl, Nat.le_of_ble_eq_true rfl⟩ sc_77 ⟨rfl, by decide⟩ H77.1 (dp_0 hd rfl) (k217p E (dp_n hd rfl) H77 n0 t87 b0 C V (tkE T sz).2.1 (hp86) (by omega) (by omega) (by omega) (by omega) (by omega)) ?_
          intro M149 q155
          obtain ⟨H150, f151, q152, q153, q154⟩ := q155
          have f156 := f85.tr (f151.up rfl)
          have hp157 := hp86.fr f151 (by decide)
          obtain ⟨t158, ht159⟩ : ∃ q, q = gi M149 77 39 := ⟨_, rfl⟩
          have b_t158 := (H150.1.int sc_77 (i := 39) (by decide) (by decide) rfl).2
          unfold inR at b_t158; rw [← ht159] at b_t158
          rw [← ht159] at q152
          rw [← ht159] at q153
          rw [← ht159] at q154
          have kst : (tkE T sz).2.1 t87 = (tkE T sz).2.1 t0 := by rw [show t87 = t0 by omega]
          refine s_blx (lv' := [(0, vR 77), (1, vI x1)]) (st' := [vR 77, vR 77]) B229_95_97 rfl ?_
          have khf : (b0 ≠ -1 ∧ t87 = t0 ∧ t158 = b0) ∨ (b0 = -1 ∧ (tkE T sz).2.2.1 t0 = 22 ∧ t87 = t0 ∧ t158 = -1) ∨ (b0 = -1 ∧ (tkE T sz).2.2.1 t0 ≠ 22 ∧ (tkE T sz).2.2.1 t0 ≠ 159 ∧ t87 = t0 ∧ t158 = (tkE T sz).2.1 t0 ∧ t158 ≠ -1) := by omega
          have kfin := QRx.fin i10 khf
          refine r_gint (ki := 39) (pc' := 100) D229_97 rfl gf_11_318_77 rfl H150.1 ?_
          intro w160 e161 r162
          have e163 : t158 = w160 := (e161.trans (ht159.symm)).symm
          subst e163
          refine r_pint (ki := 32) (pc' := 103) D229_100 rfl pf_11_75_77 rfl H150 (by unfold inR; omega) trivial ?_
          intro M164 u165 H166 p167
          have f168 := f156.wr u165 rfl
          have hp169 := hp157.wr u165 (by decide)
          refine s_blx (lv' := [(0, vR 77), (1, vI x1)]) (st' := [vR 77]) B229_103_104 rfl ?_
          have g170 : gi M164 77 39 = t158 := (u165.gi_ne (by decide) (Or.inr (by decide))).trans (ht159.symm)
          refine r_vIp (c := 77) (args := []) (rest := []) (pc' := 107) D229_104 rfl ck_11_virtual_321 TE216 rfl (Nat.le_of_ble_eq_true rfl) ⟨Nat.le_of_ble_eq_true rfl, Nat.le_of_ble_eq_true rfl⟩ sc_77 ⟨rfl, by decide⟩ H166.1 (dp_0 hd rfl) (k216x E (dp_n hd rfl) H166 ) ?_
          intro v171 q176
          obtain ⟨q173, q174, q175⟩ := q176
          have g177 : gi M164 77 32 = t158 := p167
          have g178 : gi M164 77 31 = gi N 77 31 := (u165.gi_ne (by decide) (Or.inr (by decide))).trans ((f151.g rfl).trans ((f78.g rfl).trans (rfl)))
          exact r_zretI D229_107 rfl (by omega) (⟨H166, f168, by omega, by rw [(p167)]; exact DRx.of kfin (by omega), by first | (rw [g178]; omega) | rw [g178]⟩)
    · refine s_blx (lv' := [(0, vR 77), (1, vI x1)]) (st' := [vI 12, vI x1]) B229_46_49 rfl ?_
      refine r_icmp (tgt := 56) (pc' := 52) D229_49 rfl rfl (by unfold inR; omega) (fun (c179 : x1 ≠ 12) => ?_) (fun (c179 : ¬ (x1 ≠ 12)) => ?_)
      · refine s_blx (lv' := [(0, vR 77), (1, vI x1)]) (st' := [vR 77]) B229_56_57 rfl ?_
        have g180 : gi M76 77 39 = b0 := (f78.g rfl).trans (i6)
        refine r_vIp (c := 77) (args := []) (rest := []) (pc' := 60) D229_57 rfl ck_11_virtual_321 TE216 rfl (Nat.le_of_ble_eq_true rfl) ⟨Nat.le_of_ble_eq_true rfl, Nat.le_of_ble_eq_true rfl⟩ sc_77 ⟨rfl, by decide⟩ H77.1 (dp_0 hd rfl) (k216x E (dp_n hd rfl) H77 ) ?_
        intro v181 q186
        obtain ⟨q183, q184, q185⟩ := q186
        refine r_ifc (tgt := 67) (pc' := 63) D229_60 rfl rfl (by unfold inR; omega) (fun (c187 : v181 = 0) => ?_) (fun (c187 : ¬ (v181 = 0)) => ?_)
        · refine s_blx (lv' := [(1, vI (x1 + 1)), (0, vR 77)]) (st' := []) B229_67_70 rfl ?_
          refine r_goto (tgt := 34) D229_70 rfl ?_
          refine r_loc (lv' := [(0, vR 77), (1, vI (x1 + 1))]) ⟨rfl, rfl, trivial⟩ rfl rfl ?_
          have g188 : gi M76 77 36 = n0 := (f78.g rfl).trans (i2)
          have g189 : gi M76 77 37 = t87 := ht88.symm
          have g190 : gi M76 77 38 = l0 := (f78.g rfl).trans (i5)
          have g191 : gi M76 77 39 = b0 := (f78.g rfl).trans (i6)
          have g192 : gi M76 77 31 = gi N 77 31 := (f78.g rfl).trans (rfl)
          exact ih (x1 + 1) n0 t87 l0 b0 C V M76 H77 f85 (hp86) (i1) (by omega) (by omega) (by omega) (by omega) (by omega) (by omega) (by omega) (by omega) (by first | exact QRx.next i10 (by omega) (by omega) (by omega) (kC.at (by omega) (by omega)) | exact QRx.full i10 (by omega) (by omega) (by omega) (by omega) (by omega) (by omega) | (exfalso; omega)) (by omega) (by omega) (by omega) (by omega) (by omega) (by omega) (by omega)
        · refine s_blx (lv' := [(0, vR 77), (1, vI x1)]) (st' := [vR 77]) B229_63_64 rfl ?_
          have g193 : gi M76 77 36 = n0 := (f78.g rfl).trans (i2)
          have g194 : gi M76 77 37 = t87 := ht88.symm
          have g195 : gi M76 77 38 = l0 := (f78.g rfl).trans (i5)
          have g196 : gi M76 77 39 = b0 := (f78.g rfl).trans (i6)
          refine r_vV (c := 77) (args := []) (rest := []) (pc' := 67) D229_64 rfl ck_11_virtual_369 TE222 rfl (Nat.le_of_ble_eq_true rfl) ⟨Nat.le_of_ble_eq_true rfl, Nat.le_of_ble_eq_true rfl⟩ sc_77 ⟨rfl, by decide⟩ H77.1 (dp_0 hd rfl) (k222p E (dp_n hd rfl) H77 n0 t87 b0 l0 (tkE T sz).2.2.1 C V (tkE T sz).2.1 (hp86) (i1) (by omega) (by omega) (by omega) (by omega) (by omega) (by omega) (by omega) (by omega) (by omega)) ?_
          intro M198 q205
          obtain ⟨H199, f200, q201, q202, q203, q204⟩ := q205
          have f206 := f85.tr (f200.up rfl)
          have hp207 := hp86.fr f200 (by decide)
          obtain ⟨t208, ht209⟩ : ∃ q, q = gi M198 77 37 := ⟨_, rfl⟩
          have b_t208 := H199.2 77 37 0 400 rfl
          rw [← ht209] at b_t208
          obtain ⟨t210, ht211⟩ : ∃ q, q = gi M198 77 38 := ⟨_, rfl⟩
          have b_t210 := (H199.1.int sc_77 (i := 38) (by decide) (by decide) rfl).2
          unfold inR at b_t210; rw [← ht211] at b_t210
          obtain ⟨t212, ht213⟩ : ∃ q, q = gi M198 77 39 := ⟨_, rfl⟩
          have b_t212 := (H199.1.int sc_77 (i := 39) (by decide) (by decide) rfl).2
          unfold inR at b_t212; rw [← ht213] at b_t212
          rw [← ht209] at q201
          rw [← ht211] at q202
          rw [← ht211, ← ht213] at q203
          rw [← ht209, ← ht211, ← ht213] at q204
          have kC := q204; clear q204
          refine s_blx (lv' := [(1, vI (x1 + 1)), (0, vR 77)]) (st' := []) B229_67_70 rfl ?_
          refine r_goto (tgt := 34) D229_70 rfl ?_
          refine r_loc (lv' := [(0, vR 77), (1, vI (x1 + 1))]) ⟨rfl, rfl, trivial⟩ rfl rfl ?_
          have g214 : gi M198 77 36 = n0 := (f200.g rfl).trans ((f78.g rfl).trans (i2))
          have g215 : gi M198 77 37 = t208 := ht209.symm
          have g216 : gi M198 77 38 = t210 := ht211.symm
          have g217 : gi M198 77 39 = t212 := ht213.symm
          have g218 : gi M198 77 31 = gi N 77 31 := (f200.g rfl).trans ((f78.g rfl).trans (rfl))
          exact ih (x1 + 1) n0 t208 t210 t212 C V M198 H199 f206 (hp207) (i1) (by omega) (by omega) (by omega) (by omega) (by omega) (by omega) (by omega) (by omega) (by first | exact QRx.next i10 (by omega) (by omega) (by omega) (kC.at (by omega) (by omega)) | exact QRx.full i10 (by omega) (by omega) (by omega) (by omega) (by omega) (by omega) | (exfalso; omega)) (by omega) (by omega) (by omega) (by omega) (by omega) (by omega) (by omega)
      · refine s_blx (lv' := [(0, vR 77), (1, vI x1)]) (st' := [vR 77]) B229_52_53 rfl ?_
        have g219 : gi M76 77 36 = n0 := (f78.g rfl).trans (i2)
        have g220 : gi M76 77 37 = t87 := ht88.symm
        have g221 : gi M76 77 39 = b0 := (f78.g rfl).trans (i6)
        refine r_vV (c := 77) (args := []) (rest := []) (pc' := 56) D229_53 rfl ck_11_virtual_331 TE217 rfl (Nat.le_of_ble_eq_true rfl) ⟨Nat.le_of_ble_eq_true rfl, Nat.le_of_ble_eq_true rfl⟩ sc_77 ⟨rfl, by decide⟩ H77.1 (dp_0 hd rfl) (k217p E (dp_n hd rfl) H77 n0 t87 b0 C V (tkE T sz).2.1 (hp86) (by omega) (by omega) (by omega) (by omega) (by omega)) ?_
        intro M223 q229
        obtain ⟨H224, f225, q226, q227, q228⟩ := q229
        have f230 := f85.tr (f225.up rfl)
        have hp231 := hp86.fr f225 (by decide)
        obtain ⟨t232, ht233⟩ : ∃ q, q = gi M223 77 39 := ⟨_, rfl⟩
        have b_t232 := (H224.1.int sc_77 (i := 39) (by decide) (by decide) rfl).2
        unfold inR at b_t232; rw [← ht233] at b_t232
        rw [← ht233] at q226
        rw [← ht233] at q227
        rw [← ht233] at q228
        refine s_blx (lv' := [(0, vR 77), (1, vI x1)]) (st' := [vR 77]) B229_56_57 rfl ?_
        have g234 : gi M223 77 39 = t232 := ht233.symm
        refine r_vIp (c := 77) (args := []) (rest := []) (pc' := 60) D229_57 rfl ck_11_virtual_321 TE216 rfl (Nat.le_of_ble_eq_true rfl) ⟨Nat.le_of_ble_eq_true rfl, Nat.le_of_ble_eq_true rfl⟩ sc_77 ⟨rfl, by decide⟩ H224.1 (dp_0 hd rfl) (k216x E (dp_n hd rfl) H224 ) ?_
        intro v235 q240
        obtain ⟨q237, q238, q239⟩ := q240
        refine r_ifc (tgt := 67) (pc' := 63) D229_60 rfl rfl (by unfold inR; omega) (fun (c241 : v235 = 0) => ?_) (fun (c241 : ¬ (v235 = 0)) => ?_)
        · refine s_blx (lv' := [(1, vI (x1 + 1)), (0, vR 77)]) (st' := []) B229_67_70 rfl ?_
          refine r_goto (tgt := 34) D229_70 rfl ?_
          refine r_loc (lv' := [(0, vR 77), (1, vI (x1 + 1))]) ⟨rfl, rfl, trivial⟩ rfl rfl ?_
          have g242 : gi M223 77 36 = n0 := (f225.g rfl).trans ((f78.g rfl).trans (i2))
          have g243 : gi M223 77 37 = t87 := (f225.g rfl).trans (ht88.symm)
          have g244 : gi M223 77 38 = l0 := (f225.g rfl).trans ((f78.g rfl).trans (i5))
          have g245 : gi M223 77 39 = t232 := ht233.symm
          have g246 : gi M223 77 31 = gi N 77 31 := (f225.g rfl).trans ((f78.g rfl).trans (rfl))
          exact ih (x1 + 1) n0 t87 l0 t232 C V M223 H224 f230 (hp231) (i1) (by omega) (by omega) (by omega) (by omega) (by omega) (by omega) (by omega) (by omega) (by first | exact QRx.next i10 (by omega) (by omega) (by omega) (kC.at (by omega) (by omega)) | exact QRx.full i10 (by omega) (by omega) (by omega) (by omega) (by omega) (by omega) | (exfalso; omega)) (by omega) (by omega) (by omega) (by omega) (by omega) (by omega) (by omega)
        · refine s_blx (lv' := [(0, vR 77), (1, vI x1)]) (st' := [vR 77]) B229_63_64 rfl ?_
          have g247 : gi M223 77 36 = n0 := (f225.g rfl).trans ((f78.g rfl).trans (i2))
          have g248 : gi M223 77 37 = t87 := (f225.g rfl).trans (ht88.symm)
          have g249 : gi M223 77 38 = l0 := (f225.g rfl).trans ((f78.g rfl).trans (i5))
          have g250 : gi M223 77 39 = t232 := ht233.symm
          refine r_vV (c := 77) (args := []) (rest := []) (pc' := 67) D229_64 rfl ck_11_virtual_369 TE222 rfl (Nat.le_of_ble_eq_true rfl) ⟨Nat.le_of_ble_eq_true rfl, Nat.le_of_ble_eq_true rfl⟩ sc_77 ⟨rfl, by decide⟩ H224.1 (dp_0 hd rfl) (k222p E (dp_n hd rfl) H224 n0 t87 t232 l0 (tkE T sz).2.2.1 C V (tkE T sz).2.1 (hp231) (i1) (by omega) (by omega) (by omega) (by omega) (by omega) (by omega) (by omega) (by omega) (by omega)) ?_
          intro M252 q259
          obtain ⟨H253, f254, q255, q256, q257, q258⟩ := q259
          have f260 := f230.tr (f254.up rfl)
          have hp261 := hp231.fr f254 (by decide)
          obtain ⟨t262, ht263⟩ : ∃ q, q = gi M252 77 37 := ⟨_, rfl⟩
          have b_t262 := H253.2 77 37 0 400 rfl
          rw [← ht263] at b_t262
          obtain ⟨t264, ht265⟩ : ∃ q, q = gi M252 77 38 := ⟨_, rfl⟩
          have b_t264 := (H253.1.int sc_77 (i := 38) (by decide) (by decide) rfl).2
          unfold inR at b_t264; rw [← ht265] at b_t264
          obtain ⟨t266, ht267⟩ : ∃ q, q = gi M252 77 39 := ⟨_, rfl⟩
          have b_t266 := (H253.1.int sc_77 (i := 39) (by decide) (by decide) rfl).2
          unfold inR at b_t266; rw [← ht267] at b_t266
          rw [← ht263] at q255
          rw [← ht265] at q256
          rw [← ht265, ← ht267] at q257
          rw [← ht263, ← ht265, ← ht267] at q258
          have kC := q258; clear q258
          refine s_blx (lv' := [(1, vI (x1 + 1)), (0, vR 77)]) (st' := []) B229_67_70 rfl ?_
          refine r_goto (tgt := 34) D229_70 rfl ?_
          refine r_loc (lv' := [(0, vR 77), (1, vI (x1 + 1))]) ⟨rfl, rfl, trivial⟩ rfl rfl ?_
          have g268 : gi M252 77 36 = n0 := (f254.g rfl).trans ((f225.g rfl).trans ((f78.g rfl).trans (i2)))
          have g269 : gi M252 77 37 = t262 := ht263.symm
          have g270 : gi M252 77 38 = t264 := ht265.symm
          have g271 : gi M252 77 39 = t266 := ht267.symm
          have g272 : gi M252 77 31 = gi N 77 31 := (f254.g rfl).trans ((f225.g rfl).trans ((f78.g rfl).trans (rfl)))
          exact ih (x1 + 1) n0 t262 t264 t266 C V M252 H253 f260 (hp261) (i1) (by omega) (by omega) (by omega) (by omega) (by omega) (by omega) (by omega) (by omega) (by first | exact QRx.next i10 (by omega) (by omega) (by omega) (kC.at (by omega) (by omega)) | exact QRx.full i10 (by omega) (by omega) (by omega) (by omega) (by omega) (by omega) | (exfalso; omega)) (by omega) (by omega) (by omega) (by omega) (by omega) (by omega) (by omega)
set_option maxRecDepth 4000 in
theorem k229p {base : Nat} {X : Nat → Option mC} {G : Nat → Value} (E : EnvOK base X G) {d : Nat} (hd : 59 ≤ d) {M : mH} (H : HI base M) (sz : Int) (T : Int → Int) (h0 : WX M) (h1 : gi M 77 31 = sz) (h2 : 0 ≤ sz ∧ sz ≤ 400) (h3 : ∀ i : Int, 0 ≤ i → i < sz → gi M 95 i % 256 = T i) : sOk base X G d T229 [vR 77] M (pI (fun v M' => HI base M' ∧ Fr [(77, 32), (77, 33), (77, 37), (77, 38), (77, 39), (77, 40), (97, 0), (98, 0), (99, 0)] M M' ∧ (v = 0 ∨ v = 1) ∧ (DRx T sz v (gi M' 77 32)) ∧ (gi M' 77 31 = 0))) := by
  have f0 : Fr [(77, 32), (77, 33), (77, 37), (77, 38), (77, 39), (77, 40), (97, 0), (98, 0), (99, 0)] M M := Fr.rf
  refine sOk.of (show sRn base X G d T229 0 [(0, vR 77)] [] M _ from ?_)
  refine s_blx (lv' := [(0, vR 77)]) (st' := [vR 77, vR 77]) B229_0_2 rfl ?_
  refine r_gint (ki := 31) (pc' := 5) D229_2 rfl gf_11_151_77 rfl H.1 ?_
  intro w1 e2 r3
  have e4 : sz = w1 := (e2.trans (h1)).symm
  subst e4
  refine r_vV (c := 77) (args := [vI sz]) (rest := []) (pc' := 8) D229_5 rfl ck_11_virtual_366 TE215 rfl (Nat.le_of_ble_eq_true rfl) ⟨Nat.le_of_ble_eq_true rfl, Nat.le_of_ble_eq_true rfl⟩ sc_77 ⟨rfl, by decide⟩ H.1 (dp_0 hd rfl) (k215a E (dp_n hd rfl) H sz (h0) (by omega)) ?_
  intro M6 q12
  obtain ⟨H7, f8, q9, q10, q11⟩ := q12
  have f13 := f0.tr (f8.up rfl)
  obtain ⟨t14, ht15⟩ : ∃ q, q = gi M6 77 36 := ⟨_, rfl⟩
  have b_t14 := H7.2 77 36 0 400 rfl
  rw [← ht15] at b_t14
  rw [← ht15] at q9
  rw [← ht15] at q10
  rw [← ht15] at q11
  have kz := q10; clear q10
  have kt := q11; clear q11
  have kte := tkE_ok (kt.cong (fun j a b => h3 j a b)) (fun i a b => by rw [← h3 i a b]; exact Int.emod_nonneg _ (by decide))
  obtain ⟨C, V, kKQ, kRT⟩ : ∃ C V : Int → Int, KQ (tkE T sz).2.2.1 C V t14 ∧ RTx C V (tkE T sz).2.1 t14 M6 := ⟨gi M6 97, gi M6 98, KQ.of kt (fun i _ _ => ⟨Int.emod_nonneg _ (by decide), by have w_ := Int.emod_lt_of_pos (gi M 95 i) (show (0 : Int) < 256 by decide); show gi M 95 i % 256 ≤ 255; omega⟩) kz kte.2.2.1, fun _ => rfl, fun _ => rfl, kte.2.1⟩
  refine s_blx (lv' := [(0, vR 77)]) (st' := [vI 0, vR 77]) B229_8_10 rfl ?_
  refine r_pint (ki := 31) (pc' := 13) D229_10 rfl pf_11_151_77 rfl H7 (by unfold inR; omega) (show 0 ≤ 0 ∧ 0 ≤ 400 by omega) ?_
  intro M16 u17 H18 p19
  have f20 := f13.wr u17 rfl
  have hp21 := kRT.wr u17 (by decide)
  refine s_blx (lv' := [(0, vR 77)]) (st' := [vI 0, vR 77]) B229_13_15 rfl ?_
  refine r_pint (ki := 37) (pc' := 18) D229_15 rfl pf_11_325_77 rfl H18 (by unfold inR; omega) (show 0 ≤ 0 ∧ 0 ≤ 400 by omega) ?_
  intro M22 u23 H24 p25
  have f26 := f20.wr u23 rfl
  have hp27 := hp21.wr u23 (by decide)
  refine s_blx (lv' := [(0, vR 77)]) (st' := [vI 0, vR 77]) B229_18_20 rfl ?_
  refine r_pint (ki := 38) (pc' := 23) D229_20 rfl pf_11_334_77 rfl H24 (by unfold inR; omega) trivial ?_
  intro M28 u29 H30 p31
  have f32 := f26.wr u29 rfl
  have hp33 := hp27.wr u29 (by decide)
  refine s_blx (lv' := [(0, vR 77)]) (st' := [vI (-1), vR 77]) B229_23_25 rfl ?_
  refine r_pint (ki := 39) (pc' := 28) D229_25 rfl pf_11_318_77 rfl H30 (by unfold inR; omega) trivial ?_
  intro M34 u35 H36 p37
  have f38 := f32.wr u35 rfl
  have hp39 := hp33.wr u35 (by decide)
  refine s_blx (lv' := [(0, vR 77)]) (st' := [vR 77]) B229_28_29 rfl ?_
  have g40 : gi M34 77 36 = t14 := (u35.gi_ne (by decide) (Or.inr (by decide))).trans ((u29.gi_ne (by decide) (Or.inr (by decide))).trans ((u23.gi_ne (by decide) (Or.inr (by decide))).trans ((u17.gi_ne (by decide) (Or.inr (by decide))).trans (ht15.symm))))
  have g41 : gi M34 77 37 = 0 := (u35.gi_ne (by decide) (Or.inr (by decide))).trans ((u29.gi_ne (by decide) (Or.inr (by decide))).trans (p25))
  have g42 : gi M34 77 38 = 0 := (u35.gi_ne (by decide) (Or.inr (by decide))).trans (p31)
  have g43 : gi M34 77 39 = -1 := p37
  refine r_vV (c := 77) (args := []) (rest := []) (pc' := 32) D229_29 rfl ck_11_virtual_369 TE222 rfl (Nat.le_of_ble_eq_true rfl) ⟨Nat.le_of_ble_eq_true rfl, Nat.le_of_ble_eq_true rfl⟩ sc_77 ⟨rfl, by decide⟩ H36.1 (dp_0 hd rfl) (k222p E (dp_n hd rfl) H36 t14 0 (-1) 0 (tkE T sz).2.2.1 C V (tkE T sz).2.1 (hp39) (kKQ) (by omega) (by omega) (by omega) (by omega) (by omega) (by omega) (by omega) (by omega) (by omega)) ?_
  intro M45 q52
  obtain ⟨H46, f47, q48, q49, q50, q51⟩ := q52
  have f53 := f38.tr (f47.up rfl)
  have hp54 := hp39.fr f47 (by decide)
  obtain ⟨t55, ht56⟩ : ∃ q, q = gi M45 77 37 := ⟨_, rfl⟩
  have b_t55 := H46.2 77 37 0 400 rfl
  rw [← ht56] at b_t55
  obtain ⟨t57, ht58⟩ : ∃ q, q = gi M45 77 38 := ⟨_, rfl⟩
  have b_t57 := (H46.1.int sc_77 (i := 38) (by decide) (by decide) rfl).2
  unfold inR at b_t57; rw [← ht58] at b_t57
  obtain ⟨t59, ht60⟩ : ∃ q, q = gi M45 77 39 := ⟨_, rfl⟩
  have b_t59 := (H46.1.int sc_77 (i := 39) (by decide) (by decide) rfl).2
  unfold inR at b_t59; rw [← ht60] at b_t59
  rw [← ht56] at q48
  rw [← ht58] at q49
  rw [← ht58, ← ht60] at q50
  rw [← ht56, ← ht58, ← ht60] at q51
  have kC := q51; clear q51
  refine s_blx (lv' := [(1, vI 1), (0, vR 77)]) (st' := []) B229_32_34 rfl ?_
  refine r_loc (lv' := [(0, vR 77), (1, vI 1)]) ⟨rfl, rfl, trivial⟩ rfl rfl ?_
  have g61 : gi M45 77 36 = t14 := (f47.g rfl).trans ((u35.gi_ne (by decide) (Or.inr (by decide))).trans ((u29.gi_ne (by decide) (Or.inr (by decide))).trans ((u23.gi_ne (by decide) (Or.inr (by decide))).trans ((u17.gi_ne (by decide) (Or.inr (by decide))).trans (ht15.symm)))))
  have g62 : gi M45 77 37 = t55 := ht56.symm
  have g63 : gi M45 77 38 = t57 := ht58.symm
  have g64 : gi M45 77 39 = t59 := ht60.symm
  have g65 : gi M45 77 31 = 0 := (f47.g rfl).trans ((u35.gi_ne (by decide) (Or.inr (by decide))).trans ((u29.gi_ne (by decide) (Or.inr (by decide))).trans ((u23.gi_ne (by decide) (Or.inr (by decide))).trans (p19))))
  exact (L_k229p E hd H sz T h0 h1 h2 h3 (((400 - t55) * 1 + 0 : Int) + 1).toNat) 1 t14 t55 t57 t59 C V M45 H46 f53 (hp54) (kKQ) (by omega) (by omega) (by omega) (by omega) (by omega) (by omega) (by omega) (by omega) (QRx.one kC) (by omega) (by omega) (by omega) (by omega) (by omega) (by omega) (by omega)
