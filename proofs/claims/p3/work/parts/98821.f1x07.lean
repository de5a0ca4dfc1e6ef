set_option maxRecDepth 4000 in
theorem k143n {base : Nat} {X : Nat → Option mC} {G : Nat → Value} (E : EnvOK base X G) {d : Nat} (hd : 1 ≤ d) {M : mH} (H : HI base M) (slot : Int) (h0 : -2147483648 ≤ slot ∧ slot ≤ 2147483647) : sOk base X G d T143 [vI slot] M (pI (fun v M' => M' = M ∧ (v = 0 ∨ v = 1) ∧ (v = 1 → 0 ≤ slot ∧ slot ≤ 2) ∧ (v = 0 → slot < 0 ∨ 2 < slot))) := by
  refine sOk.of (show sRn base X G d T143 0 [(0, vI slot)] [] M _ from ?_)
  refine s_blx (lv' := [(0, vI slot)]) (st' := [vI 2, vI 0, vI slot]) B143_0_3 rfl ?_
  refine r_sIp (args := [vI slot, vI 0, vI 2]) (rest := []) (pc' := 6) D143_3 rfl ck_10_static_102 TE142 rfl (Nat.le_of_ble_eq_true rfl) ⟨Nat.le_of_ble_eq_true rfl, Nat.le_of_ble_eq_true rfl⟩ (by decide) (dp_0 hd rfl) (k142 E (dp_n hd rfl) H slot 0 2 (by omega) (by omega) (by omega)) ?_
  intro v1 q6
  obtain ⟨q3, q4, q5⟩ := q6
  exact r_zretI D143_6 rfl (by omega) (⟨rfl, by omega, by omega, by omega⟩)
