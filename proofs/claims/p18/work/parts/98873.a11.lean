
set_option maxRecDepth 4000 in
theorem k222p {base : Nat} {X : Nat → Option mC} {G : Nat → Value} (E : EnvOK base X G) {d : Nat} (hd : 58 ≤ d) {M : mH} (H : HI base M) (n : Int) (tok : Int) (bd : Int) (lq : Int) (K : Int → Int) (C : Int → Int) (V : Int → Int) (st : Int → Int) (h0 : RTx C V st n M) (h1 : KQ K C V n) (h2 : 0 ≤ n ∧ n ≤ 400) (h3 : gi M 77 36 = n) (h4 : gi M 77 37 = tok) (h5 : 0 ≤ tok ∧ tok ≤ n) (h6 : gi M 77 38 = lq) (h7 : gi M 77 39 = bd) (h8 : 0 ≤ lq ∧ lq ≤ 51) (h9 : bd = -1 → lq ≤ 50) (h10 : bd = -1) : sOk base X G d T222 [vR 77] M (pV (fun M' => HI base M' ∧ Fr [(77, 38), (77, 39), (77, 40)] M M' ∧ (tok ≤ gi M' 77 37 ∧ gi M' 77 37 ≤ n) ∧ (0 ≤ gi M' 77 38 ∧ gi M' 77 38 ≤ 51) ∧ (gi M' 77 39 = -1 → gi M' 77 38 ≤ 50) ∧ (CRx K st tok lq (gi M' 77 37) (gi M' 77 38) (gi M' 77 39)))) := by
  have f0 : Fr [(77, 38), (77, 39), (77, 40)] M M := Fr.rf
  refine sOk.of (show sRn base X G d T222 0 [(0, vR 77)] [] M _ from ?_)
  refine s_blx (lv' := [(0, vR 77)]) (st' := [vR 77]) B222_0_1 rfl ?_
  have g1 : gi M 77 39 = bd := h7
  refine r_vIp (c := 77) (args := []) (rest := []) (pc' := 4) D222_1 rfl ck_11_virtual_321 TE216 rfl (Nat.le_of_ble_eq_true rfl) ⟨Nat.le_of_ble_eq_true rfl, Nat.le_of_ble_eq_true rfl⟩ sc_77 ⟨rfl, by decide⟩ H.1 (dp_0 hd rfl) (k216x E (dp_n hd rfl) H ) ?_
  intro v2 q7
  obtain ⟨q4, q5, q6⟩ := q7
  refine r_ifc (tgt := 38) (pc' := 7) D222_4 rfl rfl (by unfold inR; omega) (fun (c8 : v2 = 0) => ?_) (fun (c8 : ¬ (v2 = 0)) => ?_)
  · refine s_blx (lv' := [(0, vR 77)]) (st' := [vR 77]) B222_38_39 rfl ?_
    have g9 : gi M 77 39 = bd := h7
    refine r_vIp (c := 77) (args := []) (rest := []) (pc' := 42) D222_39 rfl ck_11_virtual_321 TE216 rfl (Nat.le_of_ble_eq_true rfl) ⟨Nat.le_of_ble_eq_true rfl, Nat.le_of_ble_eq_true rfl⟩ sc_77 ⟨rfl, by decide⟩ H.1 (dp_0 hd rfl) (k216x E (dp_n hd rfl) H ) ?_
    intro v10 q15
    obtain ⟨q12, q13, q14⟩ := q15
    refine r_ifc (tgt := 55) (pc' := 45) D222_42 rfl rfl (by unfold inR; omega) (fun (c16 : v10 = 0) => ?_) (fun (c16 : ¬ (v10 = 0)) => ?_)
    · refine s_blx (lv' := [(0, vR 77)]) (st' := [vI 7, vR 77]) B222_55_58 rfl ?_
      have kt6 : tok = tok + 1 → K tok = K (tok + 1) := fun e_ => congrArg K e_
      have g17 : gi M 77 36 = n := h3
      have g18 : gi M 77 37 = tok := h4
      have g19 : gi M 77 38 = lq := h6
      have g20 : gi M 77 39 = bd := h7
      refine r_vI (c := 77) (args := [vI 7]) (rest := []) (pc' := 61) D222_58 rfl ck_11_virtual_328 TE218 rfl (Nat.le_of_ble_eq_true rfl) ⟨Nat.le_of_ble_eq_true rfl, Nat.le_of_ble_eq_true rfl⟩ sc_77 ⟨rfl, by decide⟩ H.1 (dp_0 hd rfl) (k218p E (dp_n hd rfl) H 7 6 n tok bd lq K C V st (h0) (h1) (by omega) (by omega) (by omega) (by omega) (by omega) (by omega) (by omega) (by omega) (by first | assumption | (unfold isC; omega)) (by omega)) ?_
      intro v21 M22 q30
      obtain ⟨H23, f24, q25, q26, q27, q28, q29⟩ := q30
      have f31 := f0.tr (f24.up rfl)
      obtain ⟨t32, ht33⟩ : ∃ q, q = gi M22 77 37 := ⟨_, rfl⟩
      have b_t32 := H23.2 77 37 0 400 rfl
      rw [← ht33] at b_t32
      rw [← ht33] at q26
      rw [← ht33] at q27
      refine r_ifc (tgt := 69) (pc' := 64) D222_61 rfl rfl (by unfold inR; omega) (fun (c34 : v21 = 0) => ?_) (fun (c34 : ¬ (v21 = 0)) => ?_)
      · have g35 : gi M22 77 37 = t32 := ht33.symm
        have g36 : gi M22 77 38 = lq := (f24.g rfl).trans (h6)
        have g37 : gi M22 77 39 = bd := (f24.g rfl).trans (h7)
        exact r_retV D222_69 rfl (⟨H23, f31, by first | (rw [g35]; omega) | rw [g35], by first | (rw [g36]; omega) | rw [g36], by first | (rw [g36, g37]; omega) | rw [g36, g37], by rw [(ht33.symm), ((f24.g rfl).trans (h6)), ((f24.g rfl).trans (h7))]; first | exact CRx.t (by omega) (by omega) (kS.at (by omega) (by omega) (by omega)) | exact CRx.h (by omega) (by omega) (by omega) (by omega) (by omega) (by omega) | exact CRx.f (by omega) (by omega) (by omega) (by omega) | (exfalso; omega)⟩)
      · refine s_blx (lv' := [(0, vR 77)]) (st' := [vI 0, vR 77]) B222_64_66 rfl ?_
        have g38 : gi M22 77 36 = n := (f24.g rfl).trans (h3)
        have g39 : gi M22 77 37 = t32 := ht33.symm
        have g40 : gi M22 77 38 = lq := (f24.g rfl).trans (h6)
        have g41 : gi M22 77 39 = bd := (f24.g rfl).trans (h7)
        refine r_vV (c := 77) (args := [vI 0]) (rest := []) (pc' := 69) D222_66 rfl ck_11_virtual_337 TE223 rfl (Nat.le_of_ble_eq_true rfl) ⟨Nat.le_of_ble_eq_true rfl, Nat.le_of_ble_eq_true rfl⟩ sc_77 ⟨rfl, by decide⟩ H23.1 (dp_0 hd rfl) (k223p E (dp_n hd rfl) H23 0 n t32 bd lq K C V st ((h0.fr f31 rfl)) (h1) (by omega) (by omega) (by omega) (by omega) (by omega) (by omega) (by omega) (by omega) (by omega)) ?_
        intro M43 q50
        obtain ⟨H44, f45, q46, q47, q48, q49⟩ := q50
        have f51 := f31.tr (f45.up rfl)
        obtain ⟨t52, ht53⟩ : ∃ q, q = gi M43 77 37 := ⟨_, rfl⟩
        have b_t52 := H44.2 77 37 0 400 rfl
        rw [← ht53] at b_t52
        obtain ⟨t54, ht55⟩ : ∃ q, q = gi M43 77 38 := ⟨_, rfl⟩
        have b_t54 := (H44.1.int sc_77 (i := 38) (by decide) (by decide) rfl).2
        unfold inR at b_t54; rw [← ht55] at b_t54
        obtain ⟨t56, ht57⟩ : ∃ q, q = gi M43 77 39 := ⟨_, rfl⟩
        have b_t56 := (H44.1.int sc_77 (i := 39) (by decide) (by decide) rfl).2
        unfold inR at b_t56; rw [← ht57] at b_t56
        rw [← ht53] at q46
        rw [← ht55] at q47
        rw [← ht55, ← ht57] at q48
        rw [← ht53, ← ht55, ← ht57] at q49
        have kS := q49; clear q49
        have g58 : gi M43 77 37 = t52 := ht53.symm
        have g59 : gi M43 77 38 = t54 := ht55.symm
        have g60 : gi M43 77 39 = t56 := ht57.symm
        exact r_retV D222_69 rfl (⟨H44, f51, by first | (rw [g58]; omega) | rw [g58], by first | (rw [g59]; omega) | rw [g59], by first | (rw [g59, g60]; omega) | rw [g59, g60], by rw [(ht53.symm), (ht55.symm), (ht57.symm)]; first | exact CRx.t (by omega) (by omega) (kS.at (by omega) (by omega) (by omega)) | exact CRx.h (by omega) (by omega) (by omega) (by omega) (by omega) (by omega) | exact CRx.f (by omega) (by omega) (by omega) (by omega) | (exfalso; omega)⟩)
    · refine s_blx (lv' := [(0, vR 77)]) (st' := [vR 77, vR 77]) B222_45_47 rfl ?_
      refine r_gint (ki := 37) (pc' := 50) D222_47 rfl gf_11_325_77 rfl H.1 ?_
      intro w61 e62 r63
      have e64 : tok = w61 := (e62.trans (h4)).symm
      subst e64
      refine s_blx (lv' := [(0, vR 77)]) (st' := [vI (tok + 1), vR 77]) B222_50_52 rfl ?_
      refine r_pint (ki := 37) (pc' := 55) D222_52 rfl pf_11_325_77 rfl H (by unfold inR; omega) (show 0 ≤ (tok + 1) ∧ (tok + 1) ≤ 400 by omega) ?_
      intro M65 u66 H67 p68
      have f69 := f0.wr u66 rfl
      refine s_blx (lv' := [(0, vR 77)]) (st' := [vI 7, vR 77]) B222_55_58 rfl ?_
      have kt6 : (tok + 1) = tok + 1 → K (tok + 1) = K (tok + 1) := fun e_ => congrArg K e_
      have g70 : gi M65 77 36 = n := (u66.gi_ne (by decide) (Or.inr (by decide))).trans (h3)
      have g71 : gi M65 77 37 = tok + 1 := p68
      have g72 : gi M65 77 38 = lq := (u66.gi_ne (by decide) (Or.inr (by decide))).trans (h6)
      have g73 : gi M65 77 39 = bd := (u66.gi_ne (by decide) (Or.inr (by decide))).trans (h7)
      refine r_vI (c := 77) (args := [vI 7]) (rest := []) (pc' := 61) D222_58 rfl ck_11_virtual_328 TE218 rfl (Nat.le_of_ble_eq_true rfl) ⟨Nat.le_of_ble_eq_true rfl, Nat.le_of_ble_eq_true rfl⟩ sc_77 ⟨rfl, by decide⟩ H67.1 (dp_0 hd rfl) (k218p E (dp_n hd rfl) H67 7 6 n (tok + 1) bd lq K C V st ((h0.fr f69 rfl)) (h1) (by omega) (by omega) (by omega) (by omega) (by omega) (by omega) (by omega) (by omega) (by first | assumption | (unfold isC; omega)) (by omega)) ?_
      intro v74 M75 q83
      obtain ⟨H76, f77, q78, q79, q80, q81, q82⟩ := q83
      have f84 := f69.tr (f77.up rfl)
      obtain ⟨t85, ht86⟩ : ∃ q, q = gi M75 77 37 := ⟨_, rfl⟩
      have b_t85 := H76.2 77 37 0 400 rfl
      rw [← ht86] at b_t85
      rw [← ht86] at q79
      rw [← ht86] at q80
      refine r_ifc (tgt := 69) (pc' := 64) D222_61 rfl rfl (by unfold inR; omega) (fun (c87 : v74 = 0) => ?_) (fun (c87 : ¬ (v74 = 0)) => ?_)
      · have g88 : gi M75 77 37 = t85 := ht86.symm
        have g89 : gi M75 77 38 = lq := (f77.g rfl).trans ((u66.gi_ne (by decide) (Or.inr (by decide))).trans (h6))
        have g90 : gi M75 77 39 = bd := (f77.g rfl).trans ((u66.gi_ne (by decide) (Or.inr (by decide))).trans (h7))
        exact r_retV D222_69 rfl (⟨H76, f84, by first | (rw [g88]; omega) | rw [g88], by first | (rw [g89]; omega) | rw [g89], by first | (rw [g89, g90]; omega) | rw [g89, g90], by rw [(ht86.symm), ((f77.g rfl).trans ((u66.gi_ne (by decide) (Or.inr (by decide))).trans (h6))), ((f77.g rfl).trans ((u66.gi_ne (by decide) (Or.inr (by decide))).trans (h7)))]; first | exact CRx.t (by omega) (by omega) (kS.at (by omega) (by omega) (by omega)) | exact CRx.h (by omega) (by omega) (by omega) (by omega) (by omega) (by omega) | exact CRx.f (by omega) (by omega) (by omega) (by omega) | (exfalso; omega)⟩)
      · refine s_blx (lv' := [(0, vR 77)]) (st' := [vI 0, vR 77]) B222_64_66 rfl ?_
        have g91 : gi M75 77 36 = n := (f77.g rfl).trans ((u66.gi_ne (by decide) (Or.inr (by decide))).trans (h3))
        have g92 : gi M75 77 37 = t85 := ht86.symm
        have g93 : gi M75 77 38 = lq := (f77.g rfl).trans ((u66.gi_ne (by decide) (Or.inr (by decide))).trans (h6))
        have g94 : gi M75 77 39 = bd := (f77.g rfl).trans ((u66.gi_ne (by decide) (Or.inr (by decide))).trans (h7))
        refine r_vV (c := 77) (args := [vI 0]) (rest := []) (pc' := 69) D222_66 rfl ck_11_virtual_337 TE223 rfl (Nat.le_of_ble_eq_true rfl) ⟨Nat.le_of_ble_eq_true rfl, Nat.le_of_ble_eq_true rfl⟩ sc_77 ⟨rfl, by decide⟩ H76.1 (dp_0 hd rfl) (k223p E (dp_n hd rfl) H76 0 n t85 bd lq K C V st ((h0.fr f84 rfl)) (h1) (by omega) (by omega) (by omega) (by omega) (by omega) (by omega) (by omega) (by omega) (by omega)) ?_
        intro M96 q103
        obtain ⟨H97, f98, q99, q100, q101, q102⟩ := q103
        have f104 := f84.tr (f98.up rfl)
        obtain ⟨t105, ht106⟩ : ∃ q, q = gi M96 77 37 := ⟨_, rfl⟩
        have b_t105 := H97.2 77 37 0 400 rfl
        rw [← ht106] at b_t105
        obtain ⟨t107, ht108⟩ : ∃ q, q = gi M96 77 38 := ⟨_, rfl⟩
        have b_t107 := (H97.1.int sc_77 (i := 38) (by decide) (by decide) rfl).2
        unfold inR at b_t107; rw [← ht108] at b_t107
        obtain ⟨t109, ht110⟩ : ∃ q, q = gi M96 77 39 := ⟨_, rfl⟩
        have b_t109 := (H97.1.int sc_77 (i := 39) (by decide) (by decide) rfl).2
        unfold inR at b_t109; rw [← ht110] at b_t109
        rw [← ht106] at q99
        rw [← ht108] at q100
        rw [← ht108, ← ht110] at q101
        rw [← ht106, ← ht108, ← ht110] at q102
        have kS := q102; clear q102
        have g111 : gi M96 77 37 = t105 := ht106.symm
        have g112 : gi M96 77 38 = t107 := ht108.symm
        have g113 : gi M96 77 39 = t109 := ht110.symm
        exact r_retV D222_69 rfl (⟨H97, f104, by first | (rw [g111]; omega) | rw [g111], by first | (rw [g112]; omega) | rw [g112], by first | (rw [g112, g113]; omega) | rw [g112, g113], by rw [(ht106.symm), (ht108.symm), (ht110.symm)]; first | exact CRx.t (by omega) (by omega) (kS.at (by omega) (by omega) (by omega)) | exact CRx.h (by omega) (by omega) (by omega) (by omega) (by omega) (by omega) | exact CRx.f (by omega) (by omega) (by omega) (by omega) | (exfalso; omega)⟩)
  · refine s_blx (lv' := [(0, vR 77)]) (st' := [vR 77]) B222_7_8 rfl ?_
    refine r_gfix (r := 97) (pc' := 11) D222_8 rfl gf_11_78_77 H.1 ?_
    refine s_blx (lv' := [(0, vR 77)]) (st' := [vR 77, vR 97]) B222_11_12 rfl ?_
    refine r_gint (ki := 37) (pc' := 15) D222_12 rfl gf_11_325_77 rfl H.1 ?_
    intro w114 e115 r116
    have e117 : tok = w114 := (e115.trans (h4)).symm
    subst e117
    refine r_iald (pc' := 16) D222_15 rfl sc_97 H.1 (by omega) ?_
    intro w118 e119 r120
    unfold inR at r120
    have kc : w118 = C tok := by rw [e119]; exact (h0).1 tok
    have ka : (1 ≤ C tok ∧ C tok ≤ 6) → K tok ≤ 5 ∧ tok < n := fun e_ => by have w_ := h1 tok (by omega) (by omega); unfold KOK at w_; omega
    have kf : ¬ (1 ≤ C tok ∧ C tok ≤ 6) → 5 < K tok := fun e_ => by have w_ := h1 tok (by omega) (by omega); unfold KOK at w_; omega
    refine s_blx (lv' := [(0, vR 77)]) (st' := [vI 1, vI w118]) B222_16_17 rfl ?_
    refine r_icmp (tgt := 34) (pc' := 20) D222_17 rfl rfl (by unfold inR; omega) (fun (c121 : w118 < 1) => ?_) (fun (c121 : ¬ (w118 < 1)) => ?_)
    · refine s_blx (lv' := [(0, vR 77)]) (st' := [vR 77]) B222_34_35 rfl ?_
      have g122 : gi M 77 36 = n := h3
      have g123 : gi M 77 37 = tok := h4
      have g124 : gi M 77 39 = bd := h7
      refine r_vV (c := 77) (args := []) (rest := []) (pc' := 38) D222_35 rfl ck_11_virtual_331 TE217 rfl (Nat.le_of_ble_eq_true rfl) ⟨Nat.le_of_ble_eq_true rfl, Nat.le_of_ble_eq_true rfl⟩ sc_77 ⟨rfl, by decide⟩ H.1 (dp_0 hd rfl) (k217p E (dp_n hd rfl) H n tok bd C V st (h0) (by omega) (by omega) (by omega) (by omega) (by omega)) ?_
      intro M126 q132
      obtain ⟨H127, f128, q129, q130, q131⟩ := q132
      have f133 := f0.tr (f128.up rfl)
      obtain ⟨t134, ht135⟩ : ∃ q, q = gi M126 77 39 := ⟨_, rfl⟩
      have b_t134 := (H127.1.int sc_77 (i := 39) (by decide) (by decide) rfl).2
      unfold inR at b_t134; rw [← ht135] at b_t134
      rw [← ht135] at q129
      rw [← ht135] at q130
      rw [← ht135] at q131
      refine s_blx (lv' := [(0, vR 77)]) (st' := [vR 77]) B222_38_39 rfl ?_
      have g136 : gi M126 77 39 = t134 := ht135.symm
      refine r_vIp (c := 77) (args := []) (rest := []) (pc' := 42) D222_39 rfl ck_11_virtual_321 TE216 rfl (Nat.le_of_ble_eq_true rfl) ⟨Nat.le_of_ble_eq_true rfl, Nat.le_of_ble_eq_true rfl⟩ sc_77 ⟨rfl, by decide⟩ H127.1 (dp_0 hd rfl) (k216x E (dp_n hd rfl) H127 ) ?_
      intro v137 q142
      obtain ⟨q139, q140, q141⟩ := q142
      refine r_ifc (tgt := 55) (pc' := 45) D222_42 rfl rfl (by unfold inR; omega) (fun (c143 : v137 = 0) => ?_) (fun (c143 : ¬ (v137 = 0)) => ?_)
      · refine s_blx (lv' := [(0, vR 77)]) (st' := [vI 7, vR 77]) B222_55_58 rfl ?_
        have kt6 : tok = tok + 1 → K tok = K (tok + 1) := fun e_ => congrArg K e_
        have g144 : gi M126 77 36 = n := (f128.g rfl).trans (h3)
        have g145 : gi M126 77 37 = tok := (f128.g rfl).trans (h4)
        have g146 : gi M126 77 38 = lq := (f128.g rfl).trans (h6)
        have g147 : gi M126 77 39 = t134 := ht135.symm
        refine r_vI (c := 77) (args := [vI 7]) (rest := []) (pc' := 61) D222_58 rfl ck_11_virtual_328 TE218 rfl (Nat.le_of_ble_eq_true rfl) ⟨Nat.le_of_ble_eq_true rfl, Nat.le_of_ble_eq_true rfl⟩ sc_77 ⟨rfl, by decide⟩ H127.1 (dp_0 hd rfl) (k218p E (dp_n hd rfl) H127 7 6 n tok t134 lq K C V st ((h0.fr f133 rfl)) (h1) (by omega) (by omega) (by omega) (by omega) (by omega) (by omega) (by omega) (by omega) (by first | assumption | (unfold isC; omega)) (by omega)) ?_
        intro v148 M149 q157
        obtain ⟨H150, f151, q152, q153, q154, q155, q156⟩ := q157
        have f158 := f133.tr (f151.up rfl)
        obtain ⟨t159, ht160⟩ : ∃ q, q = gi M149 77 37 := ⟨_, rfl⟩
        have b_t159 := H150.2 77 37 0 400 rfl
        rw [← ht160] at b_t159
        rw [← ht160] at q153
        rw [← ht160] at q154
        refine r_ifc (tgt := 69) (pc' := 64) D222_61 rfl rfl (by unfold inR; omega) (fun (c161 : v148 = 0) => ?_) (fun (c161 : ¬ (v148 = 0)) => ?_)
        · have g162 : gi M149 77 37 = t159 := ht160.symm
          have g163 : gi M149 77 38 = lq := (f151.g rfl).trans ((f128.g rfl).trans (h6))
          have g164 : gi M149 77 39 = t134 := (f151.g rfl).trans (ht135.symm)
          exact r_retV D222_69 rfl (⟨H150, f158, by first | (rw [g162]; omega) | rw [g162], by first | (rw [g163]; omega) | rw [g163], by first | (rw [g163, g164]; omega) | rw [g163, g164], by rw [(ht160.symm), ((f151.g rfl).trans ((f128.g rfl).trans (h6))), ((f151.g rfl).trans (ht135.symm))]; first | exact CRx.t (by omega) (by omega) (kS.at (by omega) (by omega) (by omega)) | exact CRx.h (by omega) (by omega) (by omega) (by omega) (by omega) (by omega) | exact CRx.f (by omega) (by omega) (by omega) (by omega) | (exfalso; omega)⟩)
        · refine s_blx (lv' := [(0, vR 77)]) (st' := [vI 0, vR 77]) B222_64_66 rfl ?_
          have g165 : gi M149 77 36 = n := (f151.g rfl).trans ((f128.g rfl).trans (h3))
          have g166 : gi M149 77 37 = t159 := ht160.symm
          have g167 : gi M149 77 38 = lq := (f151.g rfl).trans ((f128.g rfl).trans (h6))
          have g168 : gi M149 77 39 = t134 := (f151.g rfl).trans (ht135.symm)
          refine r_vV (c := 77) (args := [vI 0]) (rest := []) (pc' := 69) D222_66 rfl ck_11_virtual_337 TE223 rfl (Nat.le_of_ble_eq_true rfl) ⟨Nat.le_of_ble_eq_true rfl, Nat.le_of_ble_eq_true rfl⟩ sc_77 ⟨rfl, by decide⟩ H150.1 (dp_0 hd rfl) (k223p E (dp_n hd rfl) H150 0 n t159 t134 lq K C V st ((h0.fr f158 rfl)) (h1) (by omega) (by omega) (by omega) (by omega) (by omega) (by omega) (by omega) (by omega) (by omega)) ?_
          intro M170 q177
          obtain ⟨H171, f172, q173, q174, q175, q176⟩ := q177
          have f178 := f158.tr (f172.up rfl)
          obtain ⟨t179, ht180⟩ : ∃ q, q = gi M170 77 37 := ⟨_, rfl⟩
          have b_t179 := H171.2 77 37 0 400 rfl
          rw [← ht180] at b_t179
          obtain ⟨t181, ht182⟩ : ∃ q, q = gi M170 77 38 := ⟨_, rfl⟩
          have b_t181 := (H171.1.int sc_77 (i := 38) (by decide) (by decide) rfl).2
          unfold inR at b_t181; rw [← ht182] at b_t181
          obtain ⟨t183, ht184⟩ : ∃ q, q = gi M170 77 39 := ⟨_, rfl⟩
          have b_t183 := (H171.1.int sc_77 (i := 39) (by decide) (by decide) rfl).2
          unfold inR at b_t183; rw [← ht184] at b_t183
          rw [← ht180] at q173
          rw [← ht182] at q174
          rw [← ht182, ← ht184] at q175
          rw [← ht180, ← ht182, ← ht184] at q176
          have kS := q176; clear q176
          have g185 : gi M170 77 37 = t179 := ht180.symm
          have g186 : gi M170 77 38 = t181 := ht182.symm
          have g187 : gi M170 77 39 = t183 := ht184.symm
          exact r_retV D222_69 rfl (⟨H171, f178, by first | (rw [g185]; omega) | rw [g185], by first | (rw [g186]; omega) | rw [g186], by first | (rw [g186, g187]; omega) | rw [g186, g187], by rw [(ht180.symm), (ht182.symm), (ht184.symm)]; first | exact CRx.t (by omega) (by omega) (kS.at (by omega) (by omega) (by omega)) | exact CRx.h (by omega) (by omega) (by omega) (by omega) (by omega) (by omega) | exact CRx.f (by omega) (by omega) (by omega) (by omega) | (exfalso; omega)⟩)
      · refine s_blx (lv' := [(0, vR 77)]) (st' := [vR 77, vR 77]) B222_45_47 rfl ?_
        refine r_gint (ki := 37) (pc' := 50) D222_47 rfl gf_11_325_77 rfl H127.1 ?_
        intro w188 e189 r190
        have e191 : tok = w188 := (e189.trans ((f128.g rfl).trans (h4))).symm
        subst e191
        refine s_blx (lv' := [(0, vR 77)]) (st' := [vI (tok + 1), vR 77]) B222_50_52 rfl ?_
        refine r_pint (ki := 37) (pc' := 55) D222_52 rfl pf_11_325_77 rfl H127 (by unfold inR; omega) (show 0 ≤ (tok + 1) ∧ (tok + 1) ≤ 400 by omega) ?_
        intro M192 u193 H194 p195
        have f196 := f133.wr u193 rfl
        refine s_blx (lv' := [(0, vR 77)]) (st' := [vI 7, vR 77]) B222_55_58 rfl ?_
        have kt6 : (tok + 1) = tok + 1 → K (tok + 1) = K (tok + 1) := fun e_ => congrArg K e_
        have g197 : gi M192 77 36 = n := (u193.gi_ne (by decide) (Or.inr (by decide))).trans ((f128.g rfl).trans (h3))
        have g198 : gi M192 77 37 = tok + 1 := p195
        have g199 : gi M192 77 38 = lq := (u193.gi_ne (by decide) (Or.inr (by decide))).trans ((f128.g rfl).trans (h6))
        have g200 : gi M192 77 39 = t134 := (u193.gi_ne (by decide) (Or.inr (by decide))).trans (ht135.symm)
        refine r_vI (c := 77) (args := [vI 7]) (rest := []) (pc' := 61) D222_58 rfl ck_11_virtual_328 TE218 rfl (Nat.le_of_ble_eq_true rfl) ⟨Nat.le_of_ble_eq_true rfl, Nat.le_of_ble_eq_true rfl⟩ sc_77 ⟨rfl, by decide⟩ H194.1 (dp_0 hd rfl) (k218p E (dp_n hd rfl) H194 7 6 n (tok + 1) t134 lq K C V st ((h0.fr f196 rfl)) (h1) (by omega) (by omega) (by omega) (by omega) (by omega) (by omega) (by omega) (by omega) (by first | assumption | (unfold isC; omega)) (by omega)) ?_
        intro v201 M202 q210
        obtain ⟨H203, f204, q205, q206, q207, q208, q209⟩ := q210
        have f211 := f196.tr (f204.up rfl)
        obtain ⟨t212, ht213⟩ : ∃ q, q = gi M202 77 37 := ⟨_, rfl⟩
        have b_t212 := H203.2 77 37 0 400 rfl
        rw [← ht213] at b_t212
        rw [← ht213] at q206
        rw [← ht213] at q207
        refine r_ifc (tgt := 69) (pc' := 64) D222_61 rfl rfl (by unfold inR; omega) (fun (c214 : v201 = 0) => ?_) (fun (c214 : ¬ (v201 = 0)) => ?_)
        · have g215 : gi M202 77 37 = t212 := ht213.symm
          have g216 : gi M202 77 38 = lq := (f204.g rfl).trans ((u193.gi_ne (by decide) (Or.inr (by decide))).trans ((f128.g rfl).trans (h6)))
          have g217 : gi M202 77 39 = t134 := (f204.g rfl).trans ((u193.gi_ne (by decide) (Or.inr (by decide))).trans (ht135.symm))
          exact r_retV D222_69 rfl (⟨H203, f211, by first | (rw [g215]; omega) | rw [g215], by first | (rw [g216]; omega) | rw [g216], by first | (rw [g216, g217]; omega) | rw [g216, g217], by rw [(ht213.symm), ((f204.g rfl).trans ((u193.gi_ne (by decide) (Or.inr (by decide))).trans ((f128.g rfl).trans (h6)))), ((f204.g rfl).trans ((u193.gi_ne (by decide) (Or.inr (by decide))).trans (ht135.symm)))]; first | exact CRx.t (by omega) (by omega) (kS.at (by omega) (by omega) (by omega)) | exact CRx.h (by omega) (by omega) (by omega) (by omega) (by omega) (by omega) | exact CRx.f (by omega) (by omega) (by omega) (by omega) | (exfalso; omega)⟩)
        · refine s_blx (lv' := [(0, vR 77)]) (st' := [vI 0, vR 77]) B222_64_66 rfl ?_
          have g218 : gi M202 77 36 = n := (f204.g rfl).trans ((u193.gi_ne (by decide) (Or.inr (by decide))).trans ((f128.g rfl).trans (h3)))
          have g219 : gi M202 77 37 = t212 := ht213.symm
          have g220 : gi M202 77 38 = lq := (f204.g rfl).trans ((u193.gi_ne (by decide) (Or.inr (by decide))).trans ((f128.g rfl).trans (h6)))
          have g221 : gi M202 77 39 = t134 := (f204.g rfl).trans ((u193.gi_ne (by decide) (Or.inr (by decide))).trans (ht135.symm))
          refine r_vV (c := 77) (args := [vI 0]) (rest := []) (pc' := 69) D222_66 rfl ck_11_virtual_337 TE223 rfl (Nat.le_of_ble_eq_true rfl) ⟨Nat.le_of_ble_eq_true rfl, Nat.le_of_ble_eq_true rfl⟩ sc_77 ⟨rfl, by decide⟩ H203.1 (dp_0 hd rfl) (k223p E (dp_n hd rfl) H203 0 n t212 t134 lq K C V st ((h0.fr f211 rfl)) (h1) (by omega) (by omega) (by omega) (by omega) (by omega) (by omega) (by omega) (by omega) (by omega)) ?_
          intro M223 q230
          obtain ⟨H224, f225, q226, q227, q228, q229⟩ := q230
          have f231 := f211.tr (f225.up rfl)
          obtain ⟨t232, ht233⟩ : ∃ q, q = gi M223 77 37 := ⟨_, rfl⟩
          have b_t232 := H224.2 77 37 0 400 rfl
          rw [← ht233] at b_t232
          obtain ⟨t234, ht235⟩ : ∃ q, q = gi M223 77 38 := ⟨_, rfl⟩
          have b_t234 := (H224.1.int sc_77 (i := 38) (by decide) (by decide) rfl).2
          unfold inR at b_t234; rw [← ht235] at b_t234
          obtain ⟨t236, ht237⟩ : ∃ q, q = gi M223 77 39 := ⟨_, rfl⟩
          have b_t236 := (H224.1.int sc_77 (i := 39) (by decide) (by decide) rfl).2
          unfold inR at b_t236; rw [← ht237] at b_t236
          rw [← ht233] at q226
          rw [← ht235] at q227
          rw [← ht235, ← ht237] at q228
          rw [← ht233, ← ht235, ← ht237] at q229
          have kS := q229; clear q229
          have g238 : gi M223 77 37 = t232 := ht233.symm
          have g239 : gi M223 77 38 = t234 := ht235.symm
          have g240 : gi M223 77 39 = t236 := ht237.symm
          exact r_retV D222_69 rfl (⟨H224, f231, by first | (rw [g238]; omega) | rw [g238], by first | (rw [g239]; omega) | rw [g239], by first | (rw [g239, g240]; omega) | rw [g239, g240], by rw [(ht233.symm), (ht235.symm), (ht237.symm)]; first | exact CRx.t (by omega) (by omega) (kS.at (by omega) (by omega) (by omega)) | exact CRx.h (by omega) (by omega) (by omega) (by omega) (by omega) (by omega) | exact CRx.f (by omega) (by omega) (by omega) (by omega) | (exfalso; omega)⟩)
    · refine s_blx (lv' := [(0, vR 77)]) (st' := [vR 77]) B222_20_21 rfl ?_
      refine r_gfix (r := 97) (pc' := 24) D222_21 rfl gf_11_78_77 H.1 ?_
      refine s_blx (lv' := [(0, vR 77)]) (st' := [vR 77, vR 97]) B222_24_25 rfl ?_
      refine r_gint (ki := 37) (pc' := 28) D222_25 rfl gf_11_325_77 rfl H.1 ?_
      intro w241 e242 r243
      have e244 : tok = w241 := (e242.trans (h4)).symm
      subst e244
      refine r_iald (pc' := 29) D222_28 rfl sc_97 H.1 (by omega) ?_
      intro w245 e246 r247
      have e248 : w118 = w245 := (e246.trans (e119.symm)).symm
      subst e248
      refine s_blx (lv' := [(0, vR 77)]) (st' := [vI 6, vI w118]) B222_29_31 rfl ?_
      refine r_icmp (tgt := 38) (pc' := 34) D222_31 rfl rfl (by unfold inR; omega) (fun (c249 : w118 ≤ 6) => ?_) (fun (c249 : ¬ (w118 ≤ 6)) => ?_)
      · refine s_blx (lv' := [(0, vR 77)]) (st' := [vR 77]) B222_38_39 rfl ?_
        have g250 : gi M 77 39 = bd := h7
        refine r_vIp (c := 77) (args := []) (rest := []) (pc' := 42) D222_39 rfl ck_11_virtual_321 TE216 rfl (Nat.le_of_ble_eq_true rfl) ⟨Nat.le_of_ble_eq_true rfl, Nat.le_of_ble_eq_true rfl⟩ sc_77 ⟨rfl, by decide⟩ H.1 (dp_0 hd rfl) (k216x E (dp_n hd rfl) H ) ?_
        intro v251 q256
        obtain ⟨q253, q254, q255⟩ := q256
        refine r_ifc (tgt := 55) (pc' := 45) D222_42 rfl rfl (by unfold inR; omega) (fun (c257 : v251 = 0) => ?_) (fun (c257 : ¬ (v251 = 0)) => ?_)
        · refine s_blx (lv' := [(0, vR 77)]) (st' := [vI 7, vR 77]) B222_55_58 rfl ?_
          have kt6 : tok = tok + 1 → K tok = K (tok + 1) := fun e_ => congrArg K e_
          have g258 : gi M 77 36 = n := h3
          have g259 : gi M 77 37 = tok := h4
          have g260 : gi M 77 38 = lq := h6
          have g261 : gi M 77 39 = bd := h7
          refine r_vI (c := 77) (args := [vI 7]) (rest := []) (pc' := 61) D222_58 rfl ck_11_virtual_328 TE218 rfl (Nat.le_of_ble_eq_true rfl) ⟨Nat.le_of_ble_eq_true rfl, Nat.le_of_ble_eq_true rfl⟩ sc_77 ⟨rfl, by decide⟩ H.1 (dp_0 hd rfl) (k218p E (dp_n hd rfl) H 7 6 n tok bd lq K C V st (h0) (h1) (by omega) (by omega) (by omega) (by omega) (by omega) (by omega) (by omega) (by omega) (by first | assumption | (unfold isC; omega)) (by omega)) ?_
          intro v262 M263 q271
          obtain ⟨H264, f265, q266, q267, q268, q269, q270⟩ := q271
          have f272 := f0.tr (f265.up rfl)
          obtain ⟨t273, ht274⟩ : ∃ q, q = gi M263 77 37 := ⟨_, rfl⟩
          have b_t273 := H264.2 77 37 0 400 rfl
          rw [← ht274] at b_t273
          rw [← ht274] at q267
          rw [← ht274] at q268
          refine r_ifc (tgt := 69) (pc' := 64) D222_61 rfl rfl (by unfold inR; omega) (fun (c275 : v262 = 0) => ?_) (fun (c275 : ¬ (v262 = 0)) => ?_)
          · have g276 : gi M263 77 37 = t273 := ht274.symm
            have g277 : gi M263 77 38 = lq := (f265.g rfl).trans (h6)
            have g278 : gi M263 77 39 = bd := (f265.g rfl).trans (h7)
            exact r_retV D222_69 rfl (⟨H264, f272, by first | (rw [g276]; omega) | rw [g276], by first | (rw [g277]; omega) | rw [g277], by first | (rw [g277, g278]; omega) | rw [g277, g278], by rw [(ht274.symm), ((f265.g rfl).trans (h6)), ((f265.g rfl).trans (h7))]; first | exact CRx.t (by omega) (by omega) (kS.at (by omega) (by omega) (by omega)) | exact CRx.h (by omega) (by omega) (by omega) (by omega) (by omega) (by omega) | exact CRx.f (by omega) (by omega) (by omega) (by omega) | (exfalso; omega)⟩)
          · refine s_blx (lv' := [(0, vR 77)]) (st' := [vI 0, vR 77]) B222_64_66 rfl ?_
            have g279 : gi M263 77 36 = n := (f265.g rfl).trans (h3)
            have g280 : gi M263 77 37 = t273 := ht274.symm
            have g281 : gi M263 77 38 = lq := (f265.g rfl).trans (h6)
            have g282 : gi M263 77 39 = bd := (f265.g rfl).trans (h7)
            refine r_vV (c := 77) (args := [vI 0]) (rest := []) (pc' := 69) D222_66 rfl ck_11_virtual_337 TE223 rfl (Nat.le_of_ble_eq_true rfl) ⟨Nat.le_of_ble_eq_true rfl, Nat.le_of_ble_eq_true rfl⟩ sc_77 ⟨rfl, by decide⟩ H264.1 (dp_0 hd rfl) (k223p E (dp_n hd rfl) H264 0 n t273 bd lq K C V st ((h0.fr f272 rfl)) (h1) (by omega) (by omega) (by omega) (by omega) (by omega) (by omega) (by omega) (by omega) (by omega)) ?_
            intro M284 q291
            obtain ⟨H285, f286, q287, q288, q289, q290⟩ := q291
            have f292 := f272.tr (f286.up rfl)
            obtain ⟨t293, ht294⟩ : ∃ q, q = gi M284 77 37 := ⟨_, rfl⟩
            have b_t293 := H285.2 77 37 0 400 rfl
            rw [← ht294] at b_t293
            obtain ⟨t295, ht296⟩ : ∃ q, q = gi M284 77 38 := ⟨_, rfl⟩
            have b_t295 := (H285.1.int sc_77 (i := 38) (by decide) (by decide) rfl).2
            unfold inR at b_t295; rw [← ht296] at b_t295
            obtain ⟨t297, ht298⟩ : ∃ q, q = gi M284 77 39 := ⟨_, rfl⟩
            have b_t297 := (H285.1.int sc_77 (i := 39) (by decide) (by decide) rfl).2
            unfold inR at b_t297; rw [← ht298] at b_t297
            rw [← ht294] at q287
            rw [← ht296] at q288
            rw [← ht296, ← ht298] at q289
            rw [← ht294, ← ht296, ← ht298] at q290
            have kS := q290; clear q290
            have g299 : gi M284 77 37 = t293 := ht294.symm
            have g300 : gi M284 77 38 = t295 := ht296.symm
            have g301 : gi M284 77 39 = t297 := ht298.symm
            exact r_retV D222_69 rfl (⟨H285, f292, by first | (rw [g299]; omega) | rw [g299], by first | (rw [g300]; omega) | rw [g300], by first | (rw [g300, g301]; omega) | rw [g300, g301], by rw [(ht294.symm), (ht296.symm), (ht298.symm)]; first | exact CRx.t (by omega) (by omega) (kS.at (by omega) (by omega) (by omega)) | exact CRx.h (by omega) (by omega) (by omega) (by omega) (by omega) (by omega) | exact CRx.f (by omega) (by omega) (by omega) (by omega) | (exfalso; omega)⟩)
        · refine s_blx (lv' := [(0, vR 77)]) (st' := [vR 77, vR 77]) B222_45_47 rfl ?_
          refine r_gint (ki := 37) (pc' := 50) D222_47 rfl gf_11_325_77 rfl H.1 ?_
          intro w302 e303 r304
          have e305 : tok = w302 := (e303.trans (h4)).symm
          subst e305
          refine s_blx (lv' := [(0, vR 77)]) (st' := [vI (tok + 1), vR 77]) B222_50_52 rfl ?_
          refine r_pint (ki := 37) (pc' := 55) D222_52 rfl pf_11_325_77 rfl H (by unfold inR; omega) (show 0 ≤ (tok + 1) ∧ (tok + 1) ≤ 400 by omega) ?_
          intro M306 u307 H308 p309
          have f310 := f0.wr u307 rfl
          refine s_blx (lv' := [(0, vR 77)]) (st' := [vI 7, vR 77]) B222_55_58 rfl ?_
          have kt6 : (tok + 1) = tok + 1 → K (tok + 1) = K (tok + 1) := fun e_ => congrArg K e_
          have g311 : gi M306 77 36 = n := (u307.gi_ne (by decide) (Or.inr (by decide))).trans (h3)
          have g312 : gi M306 77 37 = tok + 1 := p309
          have g313 : gi M306 77 38 = lq := (u307.gi_ne (by decide) (Or.inr (by decide))).trans (h6)
          have g314 : gi M306 77 39 = bd := (u307.gi_ne (by decide) (Or.inr (by decide))).trans (h7)
          refine r_vI (c := 77) (args := [vI 7]) (rest := []) (pc' := 61) D222_58 rfl ck_11_virtual_328 TE218 rfl (Nat.le_of_ble_eq_true rfl) ⟨Nat.le_of_ble_eq_true rfl, Nat.le_of_ble_eq_true rfl⟩ sc_77 ⟨rfl, by decide⟩ H308.1 (dp_0 hd rfl) (k218p E (dp_n hd rfl) H308 7 6 n (tok + 1) bd lq K C V st ((h0.fr f310 rfl)) (h1) (by omega) (by omega) (by omega) (by omega) (by omega) (by omega) (by omega) (by omega) (by first | assumption | (unfold isC; omega)) (by omega)) ?_
          intro v315 M316 q324
          obtain ⟨H317, f318, q319, q320, q321, q322, q323⟩ := q324
          have f325 := f310.tr (f318.up rfl)
          obtain ⟨t326, ht327⟩ : ∃ q, q = gi M316 77 37 := ⟨_, rfl⟩
          have b_t326 := H317.2 77 37 0 400 rfl
          rw [← ht327] at b_t326
          rw [← ht327] at q320
          rw [← ht327] at q321
          refine r_ifc (tgt := 69) (pc' := 64) D222_61 rfl rfl (by unfold inR; omega) (fun (c328 : v315 = 0) => ?_) (fun (c328 : ¬ (v315 = 0)) => ?_)
          · have g329 : gi M316 77 37 = t326 := ht327.symm
            have g330 : gi M316 77 38 = lq := (f318.g rfl).trans ((u307.gi_ne (by decide) (Or.inr (by decide))).trans (h6))
            have g331 : gi M316 77 39 = bd := (f318.g rfl).trans ((u307.gi_ne (by decide) (Or.inr (by decide))).trans (h7))
            exact r_retV D222_69 rfl (⟨H317, f325, by first | (rw [g329]; omega) | rw [g329], by first | (rw [g330]; omega) | rw [g330], by first | (rw [g330, g331]; omega) | rw [g330, g331], by rw [(ht327.symm), ((f318.g rfl).trans ((u307.gi_ne (by decide) (Or.inr (by decide))).trans (h6))), ((f318.g rfl).trans ((u307.gi_ne (by decide) (Or.inr (by decide))).trans (h7)))]; first | exact CRx.t (by omega) (by omega) (kS.at (by omega) (by omega) (by omega)) | exact CRx.h (by omega) (by omega) (by omega) (by omega) (by omega) (by omega) | exact CRx.f (by omega) (by omega) (by omega) (by omega) | (exfalso; omega)⟩)
          · refine s_blx (lv' := [(0, vR 77)]) (st' := [vI 0, vR 77]) B222_64_66 rfl ?_
            have g332 : gi M316 77 36 = n := (f318.g rfl).trans ((u307.gi_ne (by decide) (Or.inr (by decide))).trans (h3))
            have g333 : gi M316 77 37 = t326 := ht327.symm
            have g334 : gi M316 77 38 = lq := (f318.g rfl).trans ((u307.gi_ne (by decide) (Or.inr (by decide))).trans (h6))
            have g335 : gi M316 77 39 = bd := (f318.g rfl).trans ((u307.gi_ne (by decide) (Or.inr (by decide))).trans (h7))
            refine r_vV (c := 77) (args := [vI 0]) (rest := []) (pc' := 69) D222_66 rfl ck_11_virtual_337 TE223 rfl (Nat.le_of_ble_eq_true rfl) ⟨Nat.le_of_ble_eq_true rfl, Nat.le_of_ble_eq_true rfl⟩ sc_77 ⟨rfl, by decide⟩ H317.1 (dp_0 hd rfl) (k223p E (dp_n hd rfl) H317 0 n t326 bd lq K C V st ((h0.fr f325 rfl)) (h1) (by omega) (by omega) (by omega) (by omega) (by omega) (by omega) (by omega) (by omega) (by omega)) ?_
            intro M337 q344
            obtain ⟨H338, f339, q340, q341, q342, q343⟩ := q344
            have f345 := f325.tr (f339.up rfl)
            obtain ⟨t346, ht347⟩ : ∃ q, q = gi M337 77 37 := ⟨_, rfl⟩
            have b_t346 := H338.2 77 37 0 400 rfl
            rw [← ht347] at b_t346
            obtain ⟨t348, ht349⟩ : ∃ q, q = gi M337 77 38 := ⟨_, rfl⟩
            have b_t348 := (H338.1.int sc_77 (i := 38) (by decide) (by decide) rfl).2
            unfold inR at b_t348; rw [← ht349] at b_t348
            obtain ⟨t350, ht351⟩ : ∃ q, q = gi M337 77 39 := ⟨_, rfl⟩
            have b_t350 := (H338.1.int sc_77 (i := 39) (by decide) (by decide) rfl).2
            unfold inR at b_t350; rw [← ht351] at b_t350
            rw [← ht347] at q340
            rw [← ht349] at q341
            rw [← ht349, ← ht351] at q342
            rw [← ht347, ← ht349, ← ht351] at q343
            have kS := q343; clear q343
            have g352 : gi M337 77 37 = t346 := ht347.symm
            have g353 : gi M337 77 38 = t348 := ht349.symm
            have g354 : gi M337 77 39 = t350 := ht351.symm
            exact r_retV D222_69 rfl (⟨H338, f345, by first | (rw [g352]; omega) | rw [g352], by first | (rw [g353]; omega) | rw [g353], by first | (rw [g353, g354]; omega) | rw [g353, g354], by rw [(ht347.symm), (ht349.symm), (ht351.symm)]; first | exact CRx.t (by omega) (by omega) (kS.at (by omega) (by omega) (by omega)) | exact CRx.h (by omega) (by omega) (by omega) (by omega) (by omega) (by omega) | exact CRx.f (by omega) (by omega) (by omega) (by omega) | (exfalso; omega)⟩)
      · refine s_blx (lv' := [(0, vR 77)]) (st' := [vR 77]) B222_34_35 rfl ?_
        have g355 : gi M 77 36 = n := h3
        have g356 : gi M 77 37 = tok := h4
        have g357 : gi M 77 39 = bd := h7
        refine r_vV (c := 77) (args := []) (rest := []) (pc' := 38) D222_35 rfl ck_11_virtual_331 TE217 rfl (Nat.le_of_ble_eq_true rfl) ⟨Nat.le_of_ble_eq_true rfl, Nat.le_of_ble_eq_true rfl⟩ sc_77 ⟨rfl, by decide⟩ H.1 (dp_0 hd rfl) (k217p E (dp_n hd rfl) H n tok bd C V st (h0) (by omega) (by omega) (by omega) (by omega) (by omega)) ?_
        intro M359 q365
        obtain ⟨H360, f361, q362, q363, q364⟩ := q365
        have f366 := f0.tr (f361.up rfl)
        obtain ⟨t367, ht368⟩ : ∃ q, q = gi M359 77 39 := ⟨_, rfl⟩
        have b_t367 := (H360.1.int sc_77 (i := 39) (by decide) (by decide) rfl).2
        unfold inR at b_t367; rw [← ht368] at b_t367
        rw [← ht368] at q362
        rw [← ht368] at q363
        rw [← ht368] at q364
        refine s_blx (lv' := [(0, vR 77)]) (st' := [vR 77]) B222_38_39 rfl ?_
        have g369 : gi M359 77 39 = t367 := ht368.symm
        refine r_vIp (c := 77) (args := []) (rest := []) (pc' := 42) D222_39 rfl ck_11_virtual_321 TE216 rfl (Nat.le_of_ble_eq_true rfl) ⟨Nat.le_of_ble_eq_true rfl, Nat.le_of_ble_eq_true rfl⟩ sc_77 ⟨rfl, by decide⟩ H360.1 (dp_0 hd rfl) (k216x E (dp_n hd rfl) H360 ) ?_
        intro v370 q375
        obtain ⟨q372, q373, q374⟩ := q375
        refine r_ifc (tgt := 55) (pc' := 45) D222_42 rfl rfl (by unfold inR; omega) (fun (c376 : v370 = 0) => ?_) (fun (c376 : ¬ (v370 = 0)) => ?_)
        · refine s_blx (lv' := [(0, vR 77)]) (st' := [vI 7, vR 77]) B222_55_58 rfl ?_
          have kt6 : tok = tok + 1 → K tok = K (tok + 1) := fun e_ => congrArg K e_
          have g377 : gi M359 77 36 = n := (f361.g rfl).trans (h3)
          have g378 : gi M359 77 37 = tok := (f361.g rfl).trans (h4)
          have g379 : gi M359 77 38 = lq := (f361.g rfl).trans (h6)
          have g380 : gi M359 77 39 = t367 := ht368.symm
          refine r_vI (c := 77) (args := [vI 7]) (rest := []) (pc' := 61) D222_58 rfl ck_11_virtual_328 TE218 rfl (Nat.le_of_ble_eq_true rfl) ⟨Nat.le_of_ble_eq_true rfl, Nat.le_of_ble_eq_true rfl⟩ sc_77 ⟨rfl, by decide⟩ H360.1 (dp_0 hd rfl) (k218p E (dp_n hd rfl) H360 7 6 n tok t367 lq K C V st ((h0.fr f366 rfl)) (h1) (by omega) (by omega) (by omega) (by omega) (by omega) (by omega) (by omega) (by omega) (by first | assumption | (unfold isC; omega)) (by omega)) ?_
          intro v381 M382 q390
          obtain ⟨H383, f384, q385, q386, q387, q388, q389⟩ := q390
          have f391 := f366.tr (f384.up rfl)
          obtain ⟨t392, ht393⟩ : ∃ q, q = gi M382 77 37 := ⟨_, rfl⟩
          have b_t392 := H383.2 77 37 0 400 rfl
          rw [← ht393] at b_t392
          rw [← ht393] at q386
          rw [← ht393] at q387
          refine r_ifc (tgt := 69) (pc' := 64) D222_61 rfl rfl (by unfold inR; omega) (fun (c394 : v381 = 0) => ?_) (fun (c394 : ¬ (v381 = 0)) => ?_)
          · have g395 : gi M382 77 37 = t392 := ht393.symm
            have g396 : gi M382 77 38 = lq := (f384.g rfl).trans ((f361.g rfl).trans (h6))
            have g397 : gi M382 77 39 = t367 := (f384.g rfl).trans (ht368.symm)
            exact r_retV D222_69 rfl (⟨H383, f391, by first | (rw [g395]; omega) | rw [g395], by first | (rw [g396]; omega) | rw [g396], by first | (rw [g396, g397]; omega) | rw [g396, g397], by rw [(ht393.symm), ((f384.g rfl).trans ((f361.g rfl).trans (h6))), ((f384.g rfl).trans (ht368.symm))]; first | exact CRx.t (by omega) (by omega) (kS.at (by omega) (by omega) (by omega)) | exact CRx.h (by omega) (by omega) (by omega) (by omega) (by omega) (by omega) | exact CRx.f (by omega) (by omega) (by omega) (by omega) | (exfalso; omega)⟩)
          · refine s_blx (lv' := [(0, vR 77)]) (st' := [vI 0, vR 77]) B222_64_66 rfl ?_
            have g398 : gi M382 77 36 = n := (f384.g rfl).trans ((f361.g rfl).trans (h3))
            have g399 : gi M382 77 37 = t392 := ht393.symm
            have g400 : gi M382 77 38 = lq := (f384.g rfl).trans ((f361.g rfl).trans (h6))
            have g401 : gi M382 77 39 = t367 := (f384.g rfl).trans (ht368.symm)
            refine r_vV (c := 77) (args := [vI 0]) (rest := []) (pc' := 69) D222_66 rfl ck_11_virtual_337 TE223 rfl (Nat.le_of_ble_eq_true rfl) ⟨Nat.le_of_ble_eq_true rfl, Nat.le_of_ble_eq_true rfl⟩ sc_77 ⟨rfl, by decide⟩ H383.1 (dp_0 hd rfl) (k223p E (dp_n hd rfl) H383 0 n t392 t367 lq K C V st ((h0.fr f391 rfl)) (h1) (by omega) (by omega) (by omega) (by omega) (by omega) (by omega) (by omega) (by omega) (by omega)) ?_
            intro M403 q410
            obtain ⟨H404, f405, q406, q407, q408, q409⟩ := q410
            have f411 := f391.tr (f405.up rfl)
            obtain ⟨t412, ht413⟩ : ∃ q, q = gi M403 77 37 := ⟨_, rfl⟩
            have b_t412 := H404.2 77 37 0 400 rfl
            rw [← ht413] at b_t412
            obtain ⟨t414, ht415⟩ : ∃ q, q = gi M403 77 38 := ⟨_, rfl⟩
            have b_t414 := (H404.1.int sc_77 (i := 38) (by decide) (by decide) rfl).2
            unfold inR at b_t414; rw [← ht415] at b_t414
            obtain ⟨t416, ht417⟩ : ∃ q, q = gi M403 77 39 := ⟨_, rfl⟩
            have b_t416 := (H404.1.int sc_77 (i := 39) (by decide) (by decide) rfl).2
            unfold inR at b_t416; rw [← ht417] at b_t416
            rw [← ht413] at q406
            rw [← ht415] at q407
            rw [← ht415, ← ht417] at q408
            rw [← ht413, ← ht415, ← ht417] at q409
            have kS := q409; clear q409
            have g418 : gi M403 77 37 = t412 := ht413.symm
            have g419 : gi M403 77 38 = t414 := ht415.symm
            have g420 : gi M403 77 39 = t416 := ht417.symm
            exact r_retV D222_69 rfl (⟨H404, f411, by first | (rw [g418]; omega) | rw [g418], by first | (rw [g419]; omega) | rw [g419], by first | (rw [g419, g420]; omega) | rw [g419, g420], by rw [(ht413.symm), (ht415.symm), (ht417.symm)]; first | exact CRx.t (by omega) (by omega) (kS.at (by omega) (by omega) (by omega)) | exact CRx.h (by omega) (by omega) (by omega) (by omega) (by omega) (by omega) | exact CRx.f (by omega) (by omega) (by omega) (by omega) | (exfalso; omega)⟩)
        · refine s_blx (lv' := [(0, vR 77)]) (st' := [vR 77, vR 77]) B222_45_47 rfl ?_
          refine r_gint (ki := 37) (pc' := 50) D222_47 rfl gf_11_325_77 rfl H360.1 ?_
          intro w421 e422 r423
          have e424 : tok = w421 := (e422.trans ((f361.g rfl).trans (h4))).symm
          subst e424
          refine s_blx (lv' := [(0, vR 77)]) (st' := [vI (tok + 1), vR 77]) B222_50_52 rfl ?_
          refine r_pint (ki := 37) (pc' := 55) D222_52 rfl pf_11_325_77 rfl H360 (by unfold inR; omega) (show 0 ≤ (tok + 1) ∧ (tok + 1) ≤ 400 by omega) ?_
          intro M425 u426 H427 p428
          have f429 := f366.wr u426 rfl
          refine s_blx (lv' := [(0, vR 77)]) (st' := [vI 7, vR 77]) B222_55_58 rfl ?_
          have kt6 : (tok + 1) = tok + 1 → K (tok + 1) = K (tok + 1) := fun e_ => congrArg K e_
          have g430 : gi M425 77 36 = n := (u426.gi_ne (by decide) (Or.inr (by decide))).trans ((f361.g rfl).trans (h3))
          have g431 : gi M425 77 37 = tok + 1 := p428
          have g432 : gi M425 77 38 = lq := (u426.gi_ne (by decide) (Or.inr (by decide))).trans ((f361.g rfl).trans (h6))
          have g433 : gi M425 77 39 = t367 := (u426.gi_ne (by decide) (Or.inr (by decide))).trans (ht368.symm)
          refine r_vI (c := 77) (args := [vI 7]) (rest := []) (pc' := 61) D222_58 rfl ck_11_virtual_328 TE218 rfl (Nat.le_of_ble_eq_true rfl) ⟨Nat.le_of_ble_eq_true rfl, Nat.le_of_ble_eq_true rfl⟩ sc_77 ⟨rfl, by decide⟩ H427.1 (dp_0 hd rfl) (k218p E (dp_n hd rfl) H427 7 6 n (tok + 1) t367 lq K C V st ((h0.fr f429 rfl)) (h1) (by omega) (by omega) (by omega) (by omega) (by omega) (by omega) (by omega) (by omega) (by first | assumption | (unfold isC; omega)) (by omega)) ?_
          intro v434 M435 q443
          obtain ⟨H436, f437, q438, q439, q440, q441, q442⟩ := q443
          have f444 := f429.tr (f437.up rfl)
          obtain ⟨t445, ht446⟩ : ∃ q, q = gi M435 77 37 := ⟨_, rfl⟩
          have b_t445 := H436.2 77 37 0 400 rfl
          rw [← ht446] at b_t445
          rw [← ht446] at q439
          rw [← ht446] at q440
          refine r_ifc (tgt := 69) (pc' := 64) D222_61 rfl rfl (by unfold inR; omega) (fun (c447 : v434 = 0) => ?_) (fun (c447 : ¬ (v434 = 0)) => ?_)
          · have g448 : gi M435 77 37 = t445 := ht446.symm
            have g449 : gi M435 77 38 = lq := (f437.g rfl).trans ((u426.gi_ne (by decide) (Or.inr (by decide))).trans ((f361.g rfl).trans (h6)))
            have g450 : gi M435 77 39 = t367 := (f437.g rfl).trans ((u426.gi_ne (by decide) (Or.inr (by decide))).trans (ht368.symm))
            exact r_retV D222_69 rfl (⟨H436, f444, by first | (rw [g448]; omega) | rw [g448], by first | (rw [g449]; omega) | rw [g449], by first | (rw [g449, g450]; omega) | rw [g449, g450], by rw [(ht446.symm), ((f437.g rfl).trans ((u426.gi_ne (by decide) (Or.inr (by decide))).trans ((f361.g rfl).trans (h6)))), ((f437.g rfl).trans ((u426.gi_ne (by decide) (Or.inr (by decide))).trans (ht368.symm)))]; first | exact CRx.t (by omega) (by omega) (kS.at (by omega) (by omega) (by omega)) | exact CRx.h (by omega) (by omega) (by omega) (by omega) (by omega) (by omega) | exact CRx.f (by omega) (by omega) (by omega) (by omega) | (exfalso; omega)⟩)
          · refine s_blx (lv' := [(0, vR 77)]) (st' := [vI 0, vR 77]) B222_64_66 rfl ?_
            have g451 : gi M435 77 36 = n := (f437.g rfl).trans ((u426.gi_ne (by decide) (Or.inr (by decide))).trans ((f361.g rfl).trans (h3)))
            have g452 : gi M435 77 37 = t445 := ht446.symm
            have g453 : gi M435 77 38 = lq := (f437.g rfl).trans ((u426.gi_ne (by decide) (Or.inr (by decide))).trans ((f361.g rfl).trans (h6)))
            have g454 : gi M435 77 39 = t367 := (f437.g rfl).trans ((u426.gi_ne (by decide) (Or.inr (by decide))).trans (ht368.symm))
            refine r_vV (c := 77) (args := [vI 0]) (rest := []) (pc' := 69) D222_66 rfl ck_11_virtual_337 TE223 rfl (Nat.le_of_ble_eq_true rfl) ⟨Nat.le_of_ble_eq_true rfl, Nat.le_of_ble_eq_true rfl⟩ sc_77 ⟨rfl, by decide⟩ H436.1 (dp_0 hd rfl) (k223p E (dp_n hd rfl) H436 0 n t445 t367 lq K C V st ((h0.fr f444 rfl)) (h1) (by omega) (by omega) (by omega) (by omega) (by omega) (by omega) (by omega) (by omega) (by omega)) ?_
            intro M456 q463
            obtain ⟨H457, f458, q459, q460, q461, q462⟩ := q463
            have f464 := f444.tr (f458.up rfl)
            obtain ⟨t465, ht466⟩ : ∃ q, q = gi M456 77 37 := ⟨_, rfl⟩
            have b_t465 := H457.2 77 37 0 400 rfl
            rw [← ht466] at b_t465
            obtain ⟨t467, ht468⟩ : ∃ q, q = gi M456 77 38 := ⟨_, rfl⟩
            have b_t467 := (H457.1.int sc_77 (i := 38) (by decide) (by decide) rfl).2
            unfold inR at b_t467; rw [← ht468] at b_t467
            obtain ⟨t469, ht470⟩ : ∃ q, q = gi M456 77 39 := ⟨_, rfl⟩
            have b_t469 := (H457.1.int sc_77 (i := 39) (by decide) (by decide) rfl).2
            unfold inR at b_t469; rw [← ht470] at b_t469
            rw [← ht466] at q459
            rw [← ht468] at q460
            rw [← ht468, ← ht470] at q461
            rw [← ht466, ← ht468, ← ht470] at q462
            have kS := q462; clear q462
            have g471 : gi M456 77 37 = t465 := ht466.symm
            have g472 : gi M456 77 38 = t467 := ht468.symm
            have g473 : gi M456 77 39 = t469 := ht470.symm
            exact r_retV D222_69 rfl (⟨H457, f464, by first | (rw [g471]; omega) | rw [g471], by first | (rw [g472]; omega) | rw [g472], by first | (rw [g472, g473]; omega) | rw [g472, g473], by rw [(ht466.symm), (ht468.symm), (ht470.symm)]; first | exact CRx.t (by omega) (by omega) (kS.at (by omega) (by omega) (by omega)) | exact CRx.h (by omega) (by omega) (by omega) (by omega) (by omega) (by omega) | exact CRx.f (by omega) (by omega) (by omega) (by omega) | (exfalso; omega)⟩)
