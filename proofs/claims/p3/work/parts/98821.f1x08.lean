set_option maxRecDepth 4000 in
theorem k144n {base : Nat} {X : Nat → Option mC} {G : Nat → Value} (E : EnvOK base X G) {d : Nat} (hd : 1 ≤ d) {M : mH} (H : HI base M) (value : Int) (h0 : -2147483648 ≤ value ∧ value ≤ 2147483647) : sOk base X G d T144 [vI value] M (pI (fun v M' => M' = M ∧ (v = 0 ∨ v = 1) ∧ (v = 1 → 0 ≤ value ∧ value ≤ 7) ∧ (v = 0 → value < 0 ∨ 7 < value))) := by
  refine sOk.of (show sRn base X G d T144 0 [(0, vI value)] [] M _ from ?_)
  refine s_blx (lv' := [(0, vI value)]) (st' := [vI 7, vI 0, vI value]) B144_0_4 rfl ?_
  refine r_sIp (args := [vI value, vI 0, vI 7]) (rest := []) (pc' := 7) D144_4 rfl ck_10_static_102 TE142 rfl (Nat.le_of_ble_eq_true rfl) ⟨Nat.le_of_ble_eq_true rfl, Nat.le_of_ble_eq_true rfl⟩ (by decide) (dp_0 hd rfl) (k142 E (dp_n hd rfl) H value 0 7 (by omega) (by omega) (by omega)) ?_
  intro v1 q6
  obtain ⟨q3, q4, q5⟩ := q6
  exact r_zretI D144_7 rfl (by omega) (⟨rfl, by omega, by omega, by omega⟩)
