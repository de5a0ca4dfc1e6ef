set_option maxRecDepth 4000 in
set_option maxHeartbeats 4000000 in
theorem k261k {base : Nat} {X : Nat → Option mC} {G : Nat → Value} (E : EnvOK base X G) {d : Nat} (hd : 70 ≤ d) {M : mH} (H : HI base M) (text : Int) (s : Int) (slot : Int) (meant : Int) (third : Int) (K : Int → Int) (h0 : TB M) (h1 : KK K M) (h2 : GK M) (h3 : -2147483648 ≤ text ∧ text ≤ 2147483647) (h4 : -2147483648 ≤ s ∧ s ≤ 2147483647) (h5 : -2147483648 ≤ slot ∧ slot ≤ 2147483647) (h6 : -2147483648 ≤ meant ∧ meant ≤ 2147483647) (h7 : -2147483648 ≤ third ∧ third ≤ 2147483647) : sOk base X G d T261 [vR 77, vI text, vI s, vI slot, vI meant, vI third] M (pI (fun v M' => HI base M' ∧ Fr [(77, 7), (77, 8), (77, 9), (77, 10), (77, 14), (77, 15), (77, 16), (77, 41), (77, 42), (77, 43), (77, 46), (77, 47), (83, 0), (84, 0), (85, 0), (100, 0), (101, 0)] M M')) := by
  have f0 : Fr [(77, 7), (77, 8), (77, 9), (77, 10), (77, 14), (77, 15), (77, 16), (77, 41), (77, 42), (77, 43), (77, 46), (77, 47), (83, 0), (84, 0), (85, 0), (100, 0), (101, 0)] M M := Fr.rf
  refine sOk.of (show sRn base X G d T261 0 [(0, vR 77), (1, vI text), (2, vI s), (3, vI slot), (4, vI meant), (5, vI third)] [] M _ from ?_)
  refine s_blx (lv' := [(0, vR 77), (1, vI text), (2, vI s), (3, vI slot), (4, vI meant), (5, vI third)]) (st' := [vI text, vR 77]) B261_0_2 rfl ?_
  refine r_vIp (c := 77) (args := [vI text]) (rest := []) (pc' := 5) D261_2 rfl ck_11_virtual_443 TE155 rfl (Nat.le_of_ble_eq_true rfl) ⟨Nat.le_of_ble_eq_true rfl, Nat.le_of_ble_eq_true rfl⟩ sc_77 ⟨rfl, by decide⟩ H.1 (dp_0 hd rfl) (k155k E (dp_n hd rfl) H text K (h1) (by omega)) ?_
  intro v1 q5
  obtain ⟨q3, q4⟩ := q5
  refine r_ifc (tgt := 47) (pc' := 8) D261_5 rfl rfl (by unfold inR; omega) (fun (c6 : v1 = 0) => ?_) (fun (c6 : ¬ (v1 = 0)) => ?_)
  · refine s_blx (lv' := [(0, vR 77), (1, vI text), (2, vI s), (3, vI slot), (4, vI meant), (5, vI third)]) (st' := [vI (-1)]) B261_47_48 rfl ?_
    exact r_iretI D261_48 rfl (⟨H, f0⟩)
  · refine s_blx (lv' := [(0, vR 77), (1, vI text), (2, vI s), (3, vI slot), (4, vI meant), (5, vI third)]) (st' := [vI s, vR 77]) B261_8_10 rfl ?_
    refine r_vIp (c := 77) (args := [vI s]) (rest := []) (pc' := 13) D261_10 rfl ck_11_virtual_164 TE160 rfl (Nat.le_of_ble_eq_true rfl) ⟨Nat.le_of_ble_eq_true rfl, Nat.le_of_ble_eq_true rfl⟩ sc_77 ⟨rfl, by decide⟩ H.1 (dp_0 hd rfl) (k160k E (dp_n hd rfl) H s K (h1) (by omega)) ?_
    intro v7 q11
    obtain ⟨q9, q10⟩ := q11
    refine r_ifc (tgt := 47) (pc' := 16) D261_13 rfl rfl (by unfold inR; omega) (fun (c12 : v7 = 0) => ?_) (fun (c12 : ¬ (v7 = 0)) => ?_)
    · refine s_blx (lv' := [(0, vR 77), (1, vI text), (2, vI s), (3, vI slot), (4, vI meant), (5, vI third)]) (st' := [vI (-1)]) B261_47_48 rfl ?_
      exact r_iretI D261_48 rfl (⟨H, f0⟩)
    · refine s_blx (lv' := [(0, vR 77), (1, vI text), (2, vI s), (3, vI slot), (4, vI meant), (5, vI third)]) (st' := [vI 2, vI 0, vI slot]) B261_16_19 rfl ?_
      refine r_sIp (args := [vI slot, vI 0, vI 2]) (rest := []) (pc' := 22) D261_19 rfl ck_11_static_123 TE147 rfl (Nat.le_of_ble_eq_true rfl) ⟨Nat.le_of_ble_eq_true rfl, Nat.le_of_ble_eq_true rfl⟩ (by decide) (dp_0 hd rfl) (k147 E (dp_n hd rfl) H slot 0 2 (by omega) (by omega) (by omega)) ?_
      intro v13 q18
      obtain ⟨q15, q16, q17⟩ := q18
      refine r_ifc (tgt := 47) (pc' := 25) D261_22 rfl rfl (by unfold inR; omega) (fun (c19 : v13 = 0) => ?_) (fun (c19 : ¬ (v13 = 0)) => ?_)
      · refine s_blx (lv' := [(0, vR 77), (1, vI text), (2, vI s), (3, vI slot), (4, vI meant), (5, vI third)]) (st' := [vI (-1)]) B261_47_48 rfl ?_
        exact r_iretI D261_48 rfl (⟨H, f0⟩)
      · refine s_blx (lv' := [(0, vR 77), (1, vI text), (2, vI s), (3, vI slot), (4, vI meant), (5, vI third)]) (st' := [vI 7, vI 0, vI meant]) B261_25_30 rfl ?_
        refine r_sIp (args := [vI meant, vI 0, vI 7]) (rest := []) (pc' := 33) D261_30 rfl ck_11_static_123 TE147 rfl (Nat.le_of_ble_eq_true rfl) ⟨Nat.le_of_ble_eq_true rfl, Nat.le_of_ble_eq_true rfl⟩ (by decide) (dp_0 hd rfl) (k147 E (dp_n hd rfl) H meant 0 7 (by omega) (by omega) (by omega)) ?_
        intro v20 q25
        obtain ⟨q22, q23, q24⟩ := q25
        refine r_ifc (tgt := 47) (pc' := 36) D261_33 rfl rfl (by unfold inR; omega) (fun (c26 : v20 = 0) => ?_) (fun (c26 : ¬ (v20 = 0)) => ?_)
        · refine s_blx (lv' := [(0, vR 77), (1, vI text), (2, vI s), (3, vI slot), (4, vI meant), (5, vI third)]) (st' := [vI (-1)]) B261_47_48 rfl ?_
          exact r_iretI D261_48 rfl (⟨H, f0⟩)
        · refine s_blx (lv' := [(0, vR 77), (1, vI text), (2, vI s), (3, vI slot), (4, vI meant), (5, vI third)]) (st' := [vI 7, vI 0, vI third]) B261_36_41 rfl ?_
          refine r_sIp (args := [vI third, vI 0, vI 7]) (rest := []) (pc' := 44) D261_41 rfl ck_11_static_123 TE147 rfl (Nat.le_of_ble_eq_true rfl) ⟨Nat.le_of_ble_eq_true rfl, Nat.le_of_ble_eq_true rfl⟩ (by decide) (dp_0 hd rfl) (k147 E (dp_n hd rfl) H third 0 7 (by omega) (by omega) (by omega)) ?_
          intro v27 q32
          obtain ⟨q29, q30, q31⟩ := q32
          refine r_ifc (tgt := 49) (pc' := 47) D261_44 rfl rfl (by unfold inR; omega) (fun (c33 : v27 ≠ 0) => ?_) (fun (c33 : ¬ (v27 ≠ 0)) => ?_)
          · refine s_blx (lv' := [(0, vR 77), (1, vI text), (2, vI s), (3, vI slot), (4, vI meant), (5, vI third)]) (st' := [vI s, vI text, vR 77]) B261_49_52 rfl ?_
            refine r_vL (c := 77) (args := [vI text, vI s]) (rest := []) (pc' := 55) D261_52 rfl ck_11_virtual_446 TE247 rfl (Nat.le_of_ble_eq_true rfl) ⟨Nat.le_of_ble_eq_true rfl, Nat.le_of_ble_eq_true rfl⟩ sc_77 ⟨rfl, by decide⟩ H.1 (dp_0 hd rfl) (k247k E (dp_n hd rfl) H text s K (h0) (h1) (h2) (by omega) (by omega) (by omega) (by omega) (by omega)) ?_
            intro v34 M35 q38
            obtain ⟨H36, f37⟩ := q38
            have f39 := f0.tr (f37.up rfl)
            refine s_blx (lv' := [(0, vR 77), (1, vI text), (2, vI s), (3, vI slot), (4, vI meant), (5, vI third)]) (st' := [vR 77]) B261_55_57 rfl ?_
            refine r_gfix (r := 82) (pc' := 60) D261_57 rfl gf_11_27_77 H36.1 ?_
            refine s_blx (lv' := [(0, vR 77), (1, vI text), (2, vI s), (3, vI slot), (4, vI meant), (5, vI third)]) (st' := [vR 77, vI 3, vR 82]) B261_60_62 rfl ?_
            refine r_gint (ki := 46) (pc' := 65) D261_62 rfl gf_11_440_77 rfl H36.1 ?_
            intro w40 e41 r42
            have b_w40 := H36.2 77 (46) 0 1110 rfl
            rw [← e41] at b_w40; clear r42
            refine s_blx (lv' := [(0, vR 77), (1, vI text), (2, vI s), (3, vI slot), (4, vI meant), (5, vI third)]) (st' := [vI slot, vR 77, vI (3 * w40), vR 82]) B261_65_68 rfl ?_
            obtain ⟨t43, ht44⟩ : ∃ q, q = gi M35 78 473 := ⟨_, rfl⟩
            have g45 : gi M35 78 473 = t43 := ht44.symm
            refine r_vIp (c := 77) (args := [vI slot]) (rest := [vI (3 * w40), vR 82]) (pc' := 71) D261_68 rfl ck_11_virtual_209 TE185 rfl (Nat.le_of_ble_eq_true rfl) ⟨Nat.le_of_ble_eq_true rfl, Nat.le_of_ble_eq_true rfl⟩ sc_77 ⟨rfl, by decide⟩ H36.1 (dp_0 hd rfl) (k185f E (dp_n hd rfl) H36 slot t43 (by omega) (by omega)) ?_
            intro v46 q50
            obtain ⟨q48, q49⟩ := q50
            refine s_blx (lv' := [(0, vR 77), (1, vI text), (2, vI s), (3, vI slot), (4, vI meant), (5, vI third)]) (st' := [vI ((3 * w40) + v46), vR 82]) B261_71_72 rfl ?_
            refine r_iald (pc' := 73) D261_72 rfl sc_82 H36.1 (by omega) ?_
            intro w51 e52 r53
            have b_w51 := H36.2 82 ((3 * w40) + v46) 0 9 rfl
            rw [← e52] at b_w51; clear r53
            refine s_blx (lv' := [(6, vI w51), (0, vR 77), (1, vI text), (2, vI s), (3, vI slot), (4, vI meant), (5, vI third)]) (st' := [vI slot, vI s, vR 77, vI meant]) B261_73_80 rfl ?_
            refine r_vIp (c := 77) (args := [vI s, vI slot]) (rest := [vI meant]) (pc' := 83) D261_80 rfl ck_11_virtual_161 TE158 rfl (Nat.le_of_ble_eq_true rfl) ⟨Nat.le_of_ble_eq_true rfl, Nat.le_of_ble_eq_true rfl⟩ sc_77 ⟨rfl, by decide⟩ H36.1 (dp_0 hd rfl) (k158f E (dp_n hd rfl) H36 s slot K ((h1.fr f39 rfl)) (by omega) (by omega)) ?_
            intro v54 q58
            obtain ⟨q56, q57⟩ := q58
            refine r_icmp (tgt := 90) (pc' := 86) D261_83 rfl rfl (by unfold inR; omega) (fun (c59 : meant = v54) => ?_) (fun (c59 : ¬ (meant = v54)) => ?_)
            · refine s_blx (lv' := [(6, vI w51), (0, vR 77), (1, vI text), (2, vI s), (3, vI slot), (4, vI meant), (5, vI third)]) (st' := [vI slot, vI s, vR 77, vI w51, vI 0]) B261_90_96 rfl ?_
              refine r_vIp (c := 77) (args := [vI s, vI slot]) (rest := [vI w51, vI 0]) (pc' := 99) D261_96 rfl ck_11_virtual_161 TE158 rfl (Nat.le_of_ble_eq_true rfl) ⟨Nat.le_of_ble_eq_true rfl, Nat.le_of_ble_eq_true rfl⟩ sc_77 ⟨rfl, by decide⟩ H36.1 (dp_0 hd rfl) (k158f E (dp_n hd rfl) H36 s slot K ((h1.fr f39 rfl)) (by omega) (by omega)) ?_
              intro v60 q64
              obtain ⟨q62, q63⟩ := q64
              refine r_icmp (tgt := 106) (pc' := 102) D261_99 rfl rfl (by unfold inR; omega) (fun (c65 : w51 = v60) => ?_) (fun (c65 : ¬ (w51 = v60)) => ?_)
              · refine s_blx (lv' := [(6, vI w51), (0, vR 77), (1, vI text), (2, vI s), (3, vI slot), (4, vI meant), (5, vI third)]) (st' := [vI w51, vI third, vI (0 + 0)]) B261_106_112 rfl ?_
                refine r_icmp (tgt := 119) (pc' := 115) D261_112 rfl rfl (by unfold inR; omega) (fun (c66 : third = w51) => ?_) (fun (c66 : ¬ (third = w51)) => ?_)
                · refine s_blx (lv' := [(6, vI w51), (0, vR 77), (1, vI text), (2, vI s), (3, vI slot), (4, vI meant), (5, vI third)]) (st' := [vI ((0 + 0) + 0)]) B261_119_121 rfl ?_
                  exact r_iretI D261_121 rfl (⟨H36, f39⟩)
                · refine s_blx (lv' := [(6, vI w51), (0, vR 77), (1, vI text), (2, vI s), (3, vI slot), (4, vI meant), (5, vI third)]) (st' := [vI 4, vI (0 + 0)]) B261_115_116 rfl ?_
                  refine r_goto (tgt := 120) D261_116 rfl ?_
                  refine s_blx (lv' := [(6, vI w51), (0, vR 77), (1, vI text), (2, vI s), (3, vI slot), (4, vI meant), (5, vI third)]) (st' := [vI ((0 + 0) + 4)]) B261_120_121 rfl ?_
                  exact r_iretI D261_121 rfl (⟨H36, f39⟩)
              · refine s_blx (lv' := [(6, vI w51), (0, vR 77), (1, vI text), (2, vI s), (3, vI slot), (4, vI meant), (5, vI third)]) (st' := [vI 2, vI 0]) B261_102_103 rfl ?_
                refine r_goto (tgt := 107) D261_103 rfl ?_
                refine s_blx (lv' := [(6, vI w51), (0, vR 77), (1, vI text), (2, vI s), (3, vI slot), (4, vI meant), (5, vI third)]) (st' := [vI w51, vI third, vI (0 + 2)]) B261_107_112 rfl ?_
                refine r_icmp (tgt := 119) (pc' := 115) D261_112 rfl rfl (by unfold inR; omega) (fun (c67 : third = w51) => ?_) (fun (c67 : ¬ (third = w51)) => ?_)
                · refine s_blx (lv' := [(6, vI w51), (0, vR 77), (1, vI text), (2, vI s), (3, vI slot), (4, vI meant), (5, vI third)]) (st' := [vI ((0 + 2) + 0)]) B261_119_121 rfl ?_
                  exact r_iretI D261_121 rfl (⟨H36, f39⟩)
                · refine s_blx (lv' := [(6, vI w51), (0, vR 77), (1, vI text), (2, vI s), (3, vI slot), (4, vI meant), (5, vI third)]) (st' := [vI 4, vI (0 + 2)]) B261_115_116 rfl ?_
                  refine r_goto (tgt := 120) D261_116 rfl ?_
                  refine s_blx (lv' := [(6, vI w51), (0, vR 77), (1, vI text), (2, vI s), (3, vI slot), (4, vI meant), (5, vI third)]) (st' := [vI ((0 + 2) + 4)]) B261_120_121 rfl ?_
                  exact r_iretI D261_121 rfl (⟨H36, f39⟩)
            · refine s_blx (lv' := [(6, vI w51), (0, vR 77), (1, vI text), (2, vI s), (3, vI slot), (4, vI meant), (5, vI third)]) (st' := [vI 1]) B261_86_87 rfl ?_
              refine r_goto (tgt := 91) D261_87 rfl ?_
              refine s_blx (lv' := [(6, vI w51), (0, vR 77), (1, vI text), (2, vI s), (3, vI slot), (4, vI meant), (5, vI third)]) (st' := [vI slot, vI s, vR 77, vI w51, vI 1]) B261_91_96 rfl ?_
              refine r_vIp (c := 77) (args := [vI s, vI slot]) (rest := [vI w51, vI 1]) (pc' := 99) D261_96 rfl ck_11_virtual_161 TE158 rfl (Nat.le_of_ble_eq_true rfl) ⟨Nat.le_of_ble_eq_true rfl, Nat.le_of_ble_eq_true rfl⟩ sc_77 ⟨rfl, by decide⟩ H36.1 (dp_0 hd rfl) (k158f E (dp_n hd rfl) H36 s slot K ((h1.fr f39 rfl)) (by omega) (by omega)) ?_
              intro v68 q72
              obtain ⟨q70, q71⟩ := q72
              refine r_icmp (tgt := 106) (pc' := 102) D261_99 rfl rfl (by unfold inR; omega) (fun (c73 : w51 = v68) => ?_) (fun (c73 : ¬ (w51 = v68)) => ?_)
              · refine s_blx (lv' := [(6, vI w51), (0, vR 77), (1, vI text), (2, vI s), (3, vI slot), (4, vI meant), (5, vI third)]) (st' := [vI w51, vI third, vI (1 + 0)]) B261_106_112 rfl ?_
                refine r_icmp (tgt := 119) (pc' := 115) D261_112 rfl rfl (by unfold inR; omega) (fun (c74 : third = w51) => ?_) (fun (c74 : ¬ (third = w51)) => ?_)
                · refine s_blx (lv' := [(6, vI w51), (0, vR 77), (1, vI text), (2, vI s), (3, vI slot), (4, vI meant), (5, vI third)]) (st' := [vI ((1 + 0) + 0)]) B261_119_121 rfl ?_
                  exact r_iretI D261_121 rfl (⟨H36, f39⟩)
                · refine s_blx (lv' := [(6, vI w51), (0, vR 77), (1, vI text), (2, vI s), (3, vI slot), (4, vI meant), (5, vI third)]) (st' := [vI 4, vI (1 + 0)]) B261_115_116 rfl ?_
                  refine r_goto (tgt := 120) D261_116 rfl ?_
                  refine s_blx (lv' := [(6, vI w51), (0, vR 77), (1, vI text), (2, vI s), (3, vI slot), (4, vI meant), (5, vI third)]) (st' := [vI ((1 + 0) + 4)]) B261_120_121 rfl ?_
                  exact r_iretI D261_121 rfl (⟨H36, f39⟩)
              · refine s_blx (lv' := [(6, vI w51), (0, vR 77), (1, vI text), (2, vI s), (3, vI slot), (4, vI meant), (5, vI third)]) (st' := [vI 2, vI 1]) B261_102_103 rfl ?_
                refine r_goto (tgt := 107) D261_103 rfl ?_
                refine s_blx (lv' := [(6, vI w51), (0, vR 77), (1, vI text), (2, vI s), (3, vI slot), (4, vI meant), (5, vI third)]) (st' := [vI w51, vI third, vI (1 + 2)]) B261_107_112 rfl ?_
                refine r_icmp (tgt := 119) (pc' := 115) D261_112 rfl rfl (by unfold inR; omega) (fun (c75 : third = w51) => ?_) (fun (c75 : ¬ (third = w51)) => ?_)
                · refine s_blx (lv' := [(6, vI w51), (0, vR 77), (1, vI text), (2, vI s), (3, vI slot), (4, vI meant), (5, vI third)]) (st' := [vI ((1 + 2) + 0)]) B261_119_121 rfl ?_
                  exact r_iretI D261_121 rfl (⟨H36, f39⟩)
                · refine s_blx (lv' := [(6, vI w51), (0, vR 77), (1, vI text), (2, vI s), (3, vI slot), (4, vI meant), (5, vI third)]) (st' := [vI 4, vI (1 + 2)]) B261_115_116 rfl ?_
                  refine r_goto (tgt := 120) D261_116 rfl ?_
                  refine s_blx (lv' := [(6, vI w51), (0, vR 77), (1, vI text), (2, vI s), (3, vI slot), (4, vI meant), (5, vI third)]) (st' := [vI ((1 + 2) + 4)]) B261_120_121 rfl ?_
                  exact r_iretI D261_121 rfl (⟨H36, f39⟩)
          · refine s_blx (lv' := [(0, vR 77), (1, vI text), (2, vI s), (3, vI slot), (4, vI meant), (5, vI third)]) (st' := [vI (-1)]) B261_47_48 rfl ?_
            exact r_iretI D261_48 rfl (⟨H, f0⟩)
