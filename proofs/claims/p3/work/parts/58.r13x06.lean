set_option maxRecDepth 4000 in
theorem k236x {base : Nat} {X : Nat → Option mC} {G : Nat → Value} (E : EnvOK base X G) {rr : Nat} (ihr : ∀ {d : Nat} (_ : 4 + 3 * rr ≤ d) {M : mH} (_ : HI base M) (live : Int) (p : Int) (q : Int) (s : Int) (a : Int) (e : Int) (gg : Int) (F : Int → Int) (C : Int → Int), ((live = 0 ∨ live = 1)) → (KC C M) → (∀ j : Int, a ≤ j → j < e → F (j + 1) = dl (F j) (C j) ∧ F (j + 1) ≠ 0) → (F e = 2 ∨ F e = 20 ∨ F e = 2001) → (gi M 77 41 = e) → (0 ≤ a ∧ e ≤ 3200) → (gi M 77 40 = gg) → (a ≤ gg ∧ gg ≤ e) → (F gg = 1000 + 100 * p + 10 * q + s ∨ (F gg = 10 + p ∧ q = 0 ∧ s = 0 ∧ C gg ≠ 10 ∧ C gg ≠ 140 ∧ C gg ≠ 11 ∧ C gg ≠ 12)) → (0 ≤ p ∧ 0 ≤ q ∧ p + q ≤ 8) → (0 ≤ s ∧ s ≤ 1) → 8 - p - q < ((rr : Nat) : Int) → sOk base X G d T235 [vR 77, vI live] M (pL (fun v M' => HI base M' ∧ Fr [(77, 41), (77, 43)] M M' ∧ (gg < gi M' 77 40 ∧ gi M' 77 40 ≤ e) ∧ (F (gi M' 77 40) = 2000 + 100 * p + 10 * q + s) ∧ (gi M' 77 40 < e → C (gi M' 77 40) ≠ 142 ∧ C (gi M' 77 40) ≠ 147) ∧ (gi M' 77 40 < e → C (gi M' 77 40) ≠ 143 ∧ C (gi M' 77 40) ≠ 145)))) {d : Nat} (hd : 6 + 3 * rr ≤ d) {M : mH} (H : HI base M) (live : Int) (p : Int) (q : Int) (s : Int) (a : Int) (e : Int) (gg : Int) (F : Int → Int) (C : Int → Int) (h0 : (live = 0 ∨ live = 1)) (h1 : KC C M) (h2 : ∀ j : Int, a ≤ j → j < e → F (j + 1) = dl (F j) (C j) ∧ F (j + 1) ≠ 0) (h3 : F e = 2 ∨ F e = 20 ∨ F e = 2001) (h4 : gi M 77 41 = e) (h5 : 0 ≤ a ∧ e ≤ 3200) (h6 : gi M 77 40 = gg) (h7 : a ≤ gg ∧ gg ≤ e) (h8 : F gg = 1000 + 100 * p + 10 * q + s ∨ (F gg = 10 + p ∧ q = 0 ∧ s = 0 ∧ C gg ≠ 10 ∧ C gg ≠ 140 ∧ C gg ≠ 11 ∧ C gg ≠ 12)) (h9 : 0 ≤ p ∧ 0 ≤ q ∧ p + q ≤ 8) (h10 : 0 ≤ s ∧ s ≤ 1) (h11 : 8 - p - q < (rr : Int) + 1) : sOk base X G d T236 [vR 77, vI live] M (pL (fun v M' => HI base M' ∧ Fr [(77, 41), (77, 43)] M M' ∧ (gg < gi M' 77 40 ∧ gi M' 77 40 ≤ e) ∧ (F (gi M' 77 40) = 2000 + 100 * p + 10 * q + s) ∧ (gi M' 77 40 < e → C (gi M' 77 40) ≠ 142 ∧ C (gi M' 77 40) ≠ 147))) := by
  have f0 : Fr [(77, 41), (77, 43)] M M := Fr.rf
  refine sOk.of (show sRn base X G d T236 0 [(0, vR 77), (1, vI live)] [] M _ from ?_)
  refine s_blx (lv' := [(0, vR 77), (1, vI live)]) (st' := [vI live, vR 77]) B236_0_2 rfl ?_
  have g1 : gi M 77 41 = e := h4
  have g2 : gi M 77 40 = gg := h6
  refine r_vL (c := 77) (args := [vI live]) (rest := []) (pc' := 5) D236_2 rfl ck_11_virtual_399 TE237 rfl (Nat.le_of_ble_eq_true rfl) ⟨Nat.le_of_ble_eq_true rfl, Nat.le_of_ble_eq_true rfl⟩ sc_77 ⟨rfl, by decide⟩ H.1 (by omega) (k237x E ihr (by omega) H live p q s a e gg F C (by omega) (h1) (h2) (by omega) (by omega) (by omega) (by omega) (by omega) (by omega) (by omega) (by omega) (by omega)) ?_
  intro v3 M4 q9
  obtain ⟨H5, f6, q7, q8⟩ := q9
  have f10 := f0.tr (f6.up rfl)
  obtain ⟨t11, ht12⟩ : ∃ q, q = gi M4 77 40 := ⟨_, rfl⟩
  rw [← ht12] at q7
  rw [← ht12] at q8
  refine s_blx (lv' := [(2, vL v3), (0, vR 77), (1, vI live)]) (st' := []) B236_5_6 rfl ?_
  refine r_loc (lv' := [(0, vR 77), (1, vI live), (2, vL v3)]) ⟨rfl, rfl, rfl, trivial⟩ rfl rfl ?_
  have g13 : gi M4 77 40 = t11 := ht12.symm
  have g14 : gi M4 77 41 = e := (f6.g rfl).trans (h4)
  exact (L_k236x E ihr hd H live p q s a e gg F C h0 h1 h2 h3 h4 h5 h6 h7 h8 h9 h10 h11 (((3200 - t11) * 1 + 0 : Int) + 1).toNat) v3 t11 M4 H5 f10 (by omega) (by omega) (by omega) (by omega) (by omega)
