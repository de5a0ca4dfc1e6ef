theorem B281_3_4 : s_dk T281.2.2.1 3 [.dup] 4 = true := by decide +kernel
theorem B281_7_8 : s_dk T281.2.2.1 7 [.astore_n 1] 8 = true := by decide +kernel
theorem B281_11_12 : s_dk T281.2.2.1 11 [.dup] 12 = true := by decide +kernel
theorem B281_15_16 : s_dk T281.2.2.1 15 [.astore_n 2] 16 = true := by decide +kernel
theorem D281_0 : decode T281.2.2.1 0 = .ok (.new 7, 3) := by decide +kernel
theorem D281_4 : decode T281.2.2.1 4 = .ok (.invokespecial 9, 3) := by decide +kernel
theorem D281_8 : decode T281.2.2.1 8 = .ok (.new 10, 3) := by decide +kernel
theorem D281_12 : decode T281.2.2.1 12 = .ok (.invokespecial 12, 3) := by decide +kernel
theorem ck_12_special_9 : m_call 12 (.invokespecial 9) = some (2, 95, 0) := by decide +kernel
theorem ck_12_special_12 : m_call 12 (.invokespecial 12) = some (2, 150, 0) := by decide +kernel
theorem nw_12_7 : m_nw 12 7 = some 9 := by decide +kernel
theorem nw_12_10 : m_nw 12 10 = some 10 := by decide +kernel
set_option maxRecDepth 100000 in
theorem sumA : 0 + (shA.map (fun q => q.2.1)).sum = 366690 := by decide +kernel
/-! From the empty heap: both constructors, then the law's loop. -/
noncomputable def Z0 : mH := (0, 0, fun _ => (0, 0, fun _ => .null))
/-- the start between calls -/
theorem INVl.start {base : Nat} {M' M4 : mH} (P : Ps base shA Z0 M') (H4 : HI base M4) (f : Fr [(78, 0), (81, 0), (82, 0)] M' M4) (tb : TB M4) (g1 : gi M4 78 469 = 0) (g2 : gi M4 78 471 = 0) (ki : KI M4) (wk : ∀ k, k < 104 → ∃ y : Int32, hv M' 94 k = .int y ∧ y.toInt = kwB k) : INVl base 0 M4 ∧ CSx base 0 z_T i_N 0 i_N 0 i_N M4 ∧ RSx 0 z_T i_N 0 i_N 0 i_N M4 ∧ HXc base (-1) 0 0 0 M4 ∧ HXr (-1) 0 0 0 M4 := by
  have h0 : Z0.1 = 0 := rfl
  have cel : ∀ (c : Nat) (q : dC), shA[c]? = some q → ∀ i, i < q.2.1 → tK base 0 (kc q i) (hv M' c i) := fun c q hq i hi => by
    have := (((P.2.2.2 c q hq).2.2) i).1 hi
    rw [h0, Nat.zero_add] at this
    exact this
  have hv4 : ∀ (c : Nat), c ≠ 78 → c ≠ 81 → c ≠ 82 → ∀ i, hv M4 c i = hv M' c i := fun c a b e i => (f.2.2 c).2.2 i (by simp [s_md]; omega)
  have gi4 : ∀ (c : Nat), c ≠ 78 → c ≠ 81 → c ≠ 82 → ∀ i : Int, gi M4 c i = gi M' c i := fun c a b e i => by unfold gi; rw [hv4 c a b e]
  have n9 : ∀ i, i < 8 → hv M4 9 i = .null := fun i hi => by rw [hv4 9 (by decide) (by decide) (by decide)]; exact cel 9 (1007, 8, [(4, 0, 0)]) rfl i hi
  have n12 : ∀ i, i < 2 → hv M4 12 i = .null := fun i hi => by rw [hv4 12 (by decide) (by decide) (by decide)]; exact cel 12 (1006, 2, [(4, 0, 0)]) rfl i hi
  have n37 : ∀ i, i < 145 → hv M4 37 i = .null := fun i hi => by rw [hv4 37 (by decide) (by decide) (by decide)]; exact cel 37 (1005, 145, [(4, 0, 0)]) rfl i hi
  have n56 : ∀ i, i < 145 → hv M4 56 i = .null := fun i hi => by rw [hv4 56 (by decide) (by decide) (by decide)]; exact cel 56 (1005, 145, [(4, 0, 0)]) rfl i hi
  have hc0 : gi M4 1 12 = 0 := by
    have := P.gi1 (c := 1) (k := 12) (7, 16, [(3, 2, 0), (3, 3, 0), (1, 0, 0), (3, 4, 0), (1, 0, 0), (1, 0, 0), (3, 5, 0), (3, 6, 0), (3, 7, 0), (3, 8, 0), (1, 0, 0), (3, 9, 0), (1, 0, 0), (3, 10, 0), (1, 0, 0), (3, 11, 0)]) rfl h0 (by decide) (a := 0) (b := 0) rfl
    rw [gi4 1 (by decide) (by decide) (by decide)]
    have e : gi M' 1 ((12 : Nat) : Int) = gi M' 1 12 := rfl
    omega
  have hst : gi M4 0 9 = 1 := by
    have := P.gi1 (c := 0) (k := 9) (9, 18, [(3, 1, 0), (3, 12, 0), (3, 13, 0), (1, 0, 0), (1, (-1), (-1)), (1, 0, 0), (3, 14, 0), (3, 20, 0), (3, 36, 0), (1, 1, 1), (3, 39, 0), (3, 55, 0), (3, 58, 0), (3, 62, 0), (3, 66, 0), (3, 69, 0), (3, 73, 0), (3, 76, 0)]) rfl h0 (by decide) (a := 1) (b := 1) rfl
    rw [gi4 0 (by decide) (by decide) (by decide)]
    have e : gi M' 0 ((9 : Nat) : Int) = gi M' 0 9 := rfl
    omega
  have z52 : ∀ i : Int, gi M4 52 i = 0 := fun i => by
    have := P.giA (c := 52) (1000, 16, [(1, 0, 0)]) rfl h0 (a := 0) (b := 0) (fun k _ => rfl) (by decide) i
    rw [gi4 52 (by decide) (by decide) (by decide)]; omega
  have z80 : ∀ i : Int, gi M4 80 i = 0 := fun i => by
    have := P.giA (c := 80) (1002, 2, [(1, 0, 0)]) rfl h0 (a := 0) (b := 0) (fun k _ => rfl) (by decide) i
    rw [gi4 80 (by decide) (by decide) (by decide)]; omega
  have z87 : ∀ i : Int, gi M4 87 i = 0 := fun i => by
    have := P.giA (c := 87) (1000, 159984, [(1, 0, 0)]) rfl h0 (a := 0) (b := 0) (fun k _ => rfl) (by decide) i
    rw [gi4 87 (by decide) (by decide) (by decide)]; omega
  have wd : gi M4 94 103 = 32 := by
    have := P.gi1 (c := 94) (k := 103) w94 rfl h0 (by decide) (a := 32) (b := 32) rfl
    rw [gi4 94 (by decide) (by decide) (by decide)]
    have e : gi M' 94 ((103 : Nat) : Int) = gi M' 94 103 := rfl
    omega
  have m1 : M4.1 = 111 := by rw [f.1, P.1]; rfl
  have m2 : M4.2.1 = 366690 := by rw [f.2.1, P.2.1]; exact sumA
  have hRN : ∀ Lc, (∀ i, i < 145 → hv M4 Lc i = .null) → RN base Lc 1 M4 := fun Lc hn => ⟨fun p a b => by omega, fun p a b => hn p.toNat (by omega)⟩
  have t0 : gi M4 0 3 = 0 := by
    have := P.gi1 (c := 0) (k := 3) (9, 18, [(3, 1, 0), (3, 12, 0), (3, 13, 0), (1, 0, 0), (1, (-1), (-1)), (1, 0, 0), (3, 14, 0), (3, 20, 0), (3, 36, 0), (1, 1, 1), (3, 39, 0), (3, 55, 0), (3, 58, 0), (3, 62, 0), (3, 66, 0), (3, 69, 0), (3, 73, 0), (3, 76, 0)]) rfl h0 (by decide) (a := 0) (b := 0) rfl
    rw [gi4 0 (by decide) (by decide) (by decide)]
    have e : gi M' 0 ((3 : Nat) : Int) = gi M' 0 3 := rfl
    omega
  have t1 : gi M4 77 31 = 0 := by
    have := P.gi1 (c := 77) (k := 31) (10, 59, [(1, 0, 0), (3, 78, 0), (3, 79, 0), (3, 80, 0), (3, 81, 0), (3, 82, 0), (1, 0, 0), (1, 0, 0), (1, 0, 0), (1, 0, 0), (3, 83, 0), (3, 84, 0), (3, 85, 0), (1, 0, 0), (1, 0, 0), (1, 0, 0), (3, 86, 0), (3, 87, 0), (3, 88, 0), (3, 89, 0), (3, 90, 0), (3, 91, 0), (3, 92, 0), (1, 0, 0), (1, 0, 0), (1, 0, 0), (3, 93, 0), (1, 0, 0), (3, 94, 0), (3, 95, 0), (3, 96, 0), (1, 0, 0), (1, (-1), (-1)), (3, 97, 0), (3, 98, 0), (3, 99, 0), (1, 0, 0), (1, 0, 0), (1, 0, 0), (1, 0, 0), (1, 0, 0), (1, 0, 0), (1, 0, 0), (3, 100, 0), (3, 101, 0), (1, 0, 0), (1, 0, 0), (3, 102, 0), (1, 0, 0), (3, 103, 0), (3, 104, 0), (1, 0, 0), (3, 105, 0), (3, 106, 0), (3, 107, 0), (1, (-1), (-1)), (3, 108, 0), (3, 109, 0), (3, 110, 0)]) rfl h0 (by decide) (a := 0) (b := 0) rfl
    rw [gi4 77 (by decide) (by decide) (by decide)]
    have e : gi M' 77 ((31 : Nat) : Int) = gi M' 77 31 := rfl
    omega
  have z4 : ∀ i : Int, gi M4 4 i = 0 := fun i => by
    have := P.giA (c := 4) (1000, 36, [(1, 0, 0)]) rfl h0 (a := 0) (b := 0) (fun k _ => rfl) (by decide) i
    rw [gi4 4 (by decide) (by decide) (by decide)]; omega
  have z5 : ∀ i : Int, gi M4 5 i = 0 := fun i => by
    have := P.giA (c := 5) (1000, 128, [(1, 0, 0)]) rfl h0 (a := 0) (b := 0) (fun k _ => rfl) (by decide) i
    rw [gi4 5 (by decide) (by decide) (by decide)]; omega
  have z6 : ∀ i : Int, gi M4 6 i = 0 := fun i => by
    have := P.giA (c := 6) (1000, 16, [(1, 0, 0)]) rfl h0 (a := 0) (b := 0) (fun k _ => rfl) (by decide) i
    rw [gi4 6 (by decide) (by decide) (by decide)]; omega
  have z7 : ∀ i : Int, gi M4 7 i = 0 := fun i => by
    have := P.giA (c := 7) (1000, 48, [(1, 0, 0)]) rfl h0 (a := 0) (b := 0) (fun k _ => rfl) (by decide) i
    rw [gi4 7 (by decide) (by decide) (by decide)]; omega
  have z8 : ∀ i : Int, gi M4 8 i = 0 := fun i => by
    have := P.giA (c := 8) (1000, 64, [(1, 0, 0)]) rfl h0 (a := 0) (b := 0) (fun k _ => rfl) (by decide) i
    rw [gi4 8 (by decide) (by decide) (by decide)]; omega
  have z10 : ∀ i : Int, gi M4 10 i = 0 := fun i => by
    have := P.giA (c := 10) (1000, 18, [(1, 0, 0)]) rfl h0 (a := 0) (b := 0) (fun k _ => rfl) (by decide) i
    rw [gi4 10 (by decide) (by decide) (by decide)]; omega
  have z11 : ∀ i : Int, gi M4 11 i = 0 := fun i => by
    have := P.giA (c := 11) (1000, 60, [(1, 0, 0)]) rfl h0 (a := 0) (b := 0) (fun k _ => rfl) (by decide) i
    rw [gi4 11 (by decide) (by decide) (by decide)]; omega
  have z13 : ∀ i : Int, gi M4 13 i = 0 := fun i => by
    have := P.giA (c := 13) (1000, 400, [(1, 0, 0)]) rfl h0 (a := 0) (b := 0) (fun k _ => rfl) (by decide) i
    rw [gi4 13 (by decide) (by decide) (by decide)]; omega
  have z95 : ∀ i : Int, gi M4 95 i = 0 := fun i => by
    have := P.giA (c := 95) (1003, 400, [(1, 0, 0)]) rfl h0 (a := 0) (b := 0) (fun k _ => rfl) (by decide) i
    rw [gi4 95 (by decide) (by decide) (by decide)]; omega
  have f2 : gi M4 1 2 = 0 := by
    have := P.gi1 (c := 1) (k := 2) (7, 16, [(3, 2, 0), (3, 3, 0), (1, 0, 0), (3, 4, 0), (1, 0, 0), (1, 0, 0), (3, 5, 0), (3, 6, 0), (3, 7, 0), (3, 8, 0), (1, 0, 0), (3, 9, 0), (1, 0, 0), (3, 10, 0), (1, 0, 0), (3, 11, 0)]) rfl h0 (by decide) (a := 0) (b := 0) rfl
    rw [gi4 1 (by decide) (by decide) (by decide)]
    have e : gi M' 1 ((2 : Nat) : Int) = gi M' 1 2 := rfl
    omega
  have f4 : gi M4 1 4 = 0 := by
    have := P.gi1 (c := 1) (k := 4) (7, 16, [(3, 2, 0), (3, 3, 0), (1, 0, 0), (3, 4, 0), (1, 0, 0), (1, 0, 0), (3, 5, 0), (3, 6, 0), (3, 7, 0), (3, 8, 0), (1, 0, 0), (3, 9, 0), (1, 0, 0), (3, 10, 0), (1, 0, 0), (3, 11, 0)]) rfl h0 (by decide) (a := 0) (b := 0) rfl
    rw [gi4 1 (by decide) (by decide) (by decide)]
    have e : gi M' 1 ((4 : Nat) : Int) = gi M' 1 4 := rfl
    omega
  have f5 : gi M4 1 5 = 0 := by
    have := P.gi1 (c := 1) (k := 5) (7, 16, [(3, 2, 0), (3, 3, 0), (1, 0, 0), (3, 4, 0), (1, 0, 0), (1, 0, 0), (3, 5, 0), (3, 6, 0), (3, 7, 0), (3, 8, 0), (1, 0, 0), (3, 9, 0), (1, 0, 0), (3, 10, 0), (1, 0, 0), (3, 11, 0)]) rfl h0 (by decide) (a := 0) (b := 0) rfl
    rw [gi4 1 (by decide) (by decide) (by decide)]
    have e : gi M' 1 ((5 : Nat) : Int) = gi M' 1 5 := rfl
    omega
  have f10 : gi M4 1 10 = 0 := by
    have := P.gi1 (c := 1) (k := 10) (7, 16, [(3, 2, 0), (3, 3, 0), (1, 0, 0), (3, 4, 0), (1, 0, 0), (1, 0, 0), (3, 5, 0), (3, 6, 0), (3, 7, 0), (3, 8, 0), (1, 0, 0), (3, 9, 0), (1, 0, 0), (3, 10, 0), (1, 0, 0), (3, 11, 0)]) rfl h0 (by decide) (a := 0) (b := 0) rfl
    rw [gi4 1 (by decide) (by decide) (by decide)]
    have e : gi M' 1 ((10 : Nat) : Int) = gi M' 1 10 := rfl
    omega
  have f14 : gi M4 1 14 = 0 := by
    have := P.gi1 (c := 1) (k := 14) (7, 16, [(3, 2, 0), (3, 3, 0), (1, 0, 0), (3, 4, 0), (1, 0, 0), (1, 0, 0), (3, 5, 0), (3, 6, 0), (3, 7, 0), (3, 8, 0), (1, 0, 0), (3, 9, 0), (1, 0, 0), (3, 10, 0), (1, 0, 0), (3, 11, 0)]) rfl h0 (by decide) (a := 0) (b := 0) rfl
    rw [gi4 1 (by decide) (by decide) (by decide)]
    have e : gi M' 1 ((14 : Nat) : Int) = gi M' 1 14 := rfl
    omega
  have w2 : ∀ j : Int, 0 ≤ j → j < 90 → gi M4 2 j = wF j.toNat := fun j a b => by
    have q : (0 ≤ j ∧ j < (90 : Int) ∧ gi M' 2 j = wF j.toNat) ∨ ((j < 0 ∨ (90 : Int) ≤ j) ∧ gi M' 2 j = 0) := P.giX (c := 2) (q := (1000, 90, wC)) rfl h0 (F := wF) kcW j
    rw [gi4 2 (by decide) (by decide) (by decide)]
    omega
  have w3 : ∀ j : Int, 0 ≤ j → j < 9 → gi M4 3 j = tF j.toNat := fun j a b => by
    have q : (0 ≤ j ∧ j < (9 : Int) ∧ gi M' 3 j = tF j.toNat) ∨ ((j < 0 ∨ (9 : Int) ≤ j) ∧ gi M' 3 j = 0) := P.giX (c := 3) (q := (1000, 9, tC)) rfl h0 (F := tF) kcT j
    rw [gi4 3 (by decide) (by decide) (by decide)]
    omega
  have cs : ∀ j, dAs j → cS 1 M4 j = i_N j := by
    intro j hj
    rcases slA_in hj with ⟨a, b, e⟩ | ⟨a, b, e⟩ | ⟨a, b, e⟩ | ⟨q, a, b, f, e⟩ | ⟨q, i, a, b, c, d, f, e⟩ | ⟨q, i, a, b, c, d, f, e⟩ | ⟨q, i, a, b, c, d, f, e⟩ | ⟨a, b, e⟩ | ⟨a, b, e⟩ | ⟨a, e⟩ | ⟨a, e⟩ | ⟨a, e⟩ | ⟨a, e⟩ | ⟨a, e⟩ <;> rw [cS_at e]
    · rw [i_N_w ⟨a, b⟩]; exact w2 j a b
    · rw [i_N_t ⟨a, b⟩]; exact w3 (j - 90) (by omega) (by omega)
    · rw [i_N_z (by omega)]; exact z4 _
    · rw [i_N_z (by omega)]; exact z6 _
    · rw [i_N_z (by omega)]; exact z5 _
    · rw [i_N_z (by omega)]; exact z7 _
    · rw [i_N_z (by omega)]; exact z8 _
    · rw [i_N_z (by omega)]; exact z10 _
    · rw [i_N_z (by omega)]; exact z11 _
    · rw [i_N_z (by omega)]; exact f10
    · rw [i_N_z (by omega)]; exact f4
    · rw [i_N_z (by omega)]; exact f14
    · rw [i_N_z (by omega)]; exact f2
    · rw [i_N_z (by omega)]; exact f5
  have zn : ZN i_N := fun j a b c => i_N_z (by omega)
  have u0_4 : gi M4 0 4 = (-1) := by
    have := P.gi1 (c := 0) (k := 4) (9, 18, [(3, 1, 0), (3, 12, 0), (3, 13, 0), (1, 0, 0), (1, (-1), (-1)), (1, 0, 0), (3, 14, 0), (3, 20, 0), (3, 36, 0), (1, 1, 1), (3, 39, 0), (3, 55, 0), (3, 58, 0), (3, 62, 0), (3, 66, 0), (3, 69, 0), (3, 73, 0), (3, 76, 0)]) rfl h0 (by decide) (a := (-1)) (b := (-1)) rfl
    rw [gi4 0 (by decide) (by decide) (by decide)]
    have e : gi M' 0 ((4 : Nat) : Int) = gi M' 0 4 := rfl
    omega
  have u1_12 : gi M4 1 12 = 0 := by
    have := P.gi1 (c := 1) (k := 12) (7, 16, [(3, 2, 0), (3, 3, 0), (1, 0, 0), (3, 4, 0), (1, 0, 0), (1, 0, 0), (3, 5, 0), (3, 6, 0), (3, 7, 0), (3, 8, 0), (1, 0, 0), (3, 9, 0), (1, 0, 0), (3, 10, 0), (1, 0, 0), (3, 11, 0)]) rfl h0 (by decide) (a := 0) (b := 0) rfl
    rw [gi4 1 (by decide) (by decide) (by decide)]
    have e : gi M' 1 ((12 : Nat) : Int) = gi M' 1 12 := rfl
    omega
  have u77_32 : gi M4 77 32 = (-1) := by
    have := P.gi1 (c := 77) (k := 32) (10, 59, [(1, 0, 0), (3, 78, 0), (3, 79, 0), (3, 80, 0), (3, 81, 0), (3, 82, 0), (1, 0, 0), (1, 0, 0), (1, 0, 0), (1, 0, 0), (3, 83, 0), (3, 84, 0), (3, 85, 0), (1, 0, 0), (1, 0, 0), (1, 0, 0), (3, 86, 0), (3, 87, 0), (3, 88, 0), (3, 89, 0), (3, 90, 0), (3, 91, 0), (3, 92, 0), (1, 0, 0), (1, 0, 0), (1, 0, 0), (3, 93, 0), (1, 0, 0), (3, 94, 0), (3, 95, 0), (3, 96, 0), (1, 0, 0), (1, (-1), (-1)), (3, 97, 0), (3, 98, 0), (3, 99, 0), (1, 0, 0), (1, 0, 0), (1, 0, 0), (1, 0, 0), (1, 0, 0), (1, 0, 0), (1, 0, 0), (3, 100, 0), (3, 101, 0), (1, 0, 0), (1, 0, 0), (3, 102, 0), (1, 0, 0), (3, 103, 0), (3, 104, 0), (1, 0, 0), (3, 105, 0), (3, 106, 0), (3, 107, 0), (1, (-1), (-1)), (3, 108, 0), (3, 109, 0), (3, 110, 0)]) rfl h0 (by decide) (a := (-1)) (b := (-1)) rfl
    rw [gi4 77 (by decide) (by decide) (by decide)]
    have e : gi M' 77 ((32 : Nat) : Int) = gi M' 77 32 := rfl
    omega
  have wx : WX M4 := fun j a b => by
    obtain ⟨y, p, q⟩ := wk j.toNat (by omega)
    rw [gi4 94 (by decide) (by decide) (by decide)]
    unfold gi
    rw [if_pos a, p]
    show y.toInt = kwL j
    rw [q, kwB_L _ (by omega), Int.toNat_of_nonneg a]
  refine ⟨?_, ⟨t0, fun i _ _ => z13 i, cs, Or.inl ⟨rfl, n12 0 (by decide)⟩, Or.inl ⟨rfl, n12 1 (by decide)⟩, (fun c e _ => by rw [n12 0 (by decide)] at e; cases e), zn, zn, zn⟩, ⟨t1, fun i _ _ => by rw [z95]; rfl, fun j hj => ki j (by unfold dAs at hj; omega), z80 0, fun h => absurd h (by decide), z80 1, fun h => absurd h (by decide)⟩, ⟨u0_4, u1_12, (fun c e => by rw [n12 0 (by decide)] at e; cases e), (fun c e => by rw [n12 1 (by decide)] at e; cases e)⟩, ⟨u77_32, g2, fun h => by exfalso; rw [z80 0] at h; exact absurd h (by decide), fun h => by exfalso; rw [z80 1] at h; exact absurd h (by decide), wx⟩⟩
  refine ⟨1, 1, ⟨H4, fun t a b => by omega, fun i hi => Or.inl (n9 i hi), fun k hk => Or.inl (n12 k hk), hRN 37 n37, hRN 56 n56, SF.stale hst, ⟨0, by omega, fun p a b => by omega, GT.zero (fun i _ _ => z52 i)⟩, by omega, by omega⟩, ⟨tb, wd, fun s a b => by omega, fun t a b => by omega, fun j _ _ => Or.inl (by rw [z87]; decide), fun k _ hk => by rw [z80] at hk; cases hk⟩, by omega, by omega⟩
set_option maxRecDepth 4000 in
theorem law_run {base : Nat} {X : Nat → Option mC} {G : Nat → Value} (E : EnvOK base X G) {b L : Nat} {f_ : Nat → Value} (ihr : SCR base X b L f_) : sRn base X G 1300 T281 0 [(0, vA b)] [] Z0 (s_Q base (pI (fun v M' => v = 1 ∧ M'.1 ≤ 600000 ∧ M'.2.1 ≤ 7302250))) := by
  refine p_new [(4, 0, 0), (4, 0, 0), (4, 0, 0), (1, 0, 0), (1, 0, 0), (1, 0, 0), (4, 0, 0), (4, 0, 0), (4, 0, 0), (1, 0, 0), (4, 0, 0), (4, 0, 0), (4, 0, 0), (4, 0, 0), (4, 0, 0), (4, 0, 0), (4, 0, 0), (4, 0, 0)] (pc' := 3) D281_0 rfl nw_12_7 rfl (Ps.nil (base := base) (M := Z0)) pd_9 0 rfl (fun M1 P1 => ?_)
  show sRn _ _ _ _ _ 3 _ [vR 0] _ _
  refine s_blx (lv' := [(0, vA b)]) (st' := [vR 0, vR 0]) B281_3_4 rfl ?_
  refine r_calls (args := [vR 0]) (rest := [vR 0]) (pc' := 7) D281_4 rfl ck_12_special_9 TE95 rfl (Nat.le_of_ble_eq_true rfl) ⟨Nat.le_of_ble_eq_true rfl, Nat.le_of_ble_eq_true rfl⟩ (by decide) (by omega) (c95 E (by omega) P1 rfl) ?_
  rintro v M2 ⟨rfl, P2⟩
  show sRn _ _ _ _ _ 7 [(0, vA b)] [vR 0] _ _
  have e2 : M2.1 = 77 := P2.1
  refine s_blx (lv' := [(1, vR 0), (0, vA b)]) (st' := []) B281_7_8 rfl ?_
  refine p_new [(1, 0, 0), (4, 0, 0), (4, 0, 0), (4, 0, 0), (4, 0, 0), (4, 0, 0), (1, 0, 0), (1, 0, 0), (1, 0, 0), (1, 0, 0), (4, 0, 0), (4, 0, 0), (4, 0, 0), (1, 0, 0), (1, 0, 0), (1, 0, 0), (4, 0, 0), (4, 0, 0), (4, 0, 0), (4, 0, 0), (4, 0, 0), (4, 0, 0), (4, 0, 0), (1, 0, 0), (1, 0, 0), (1, 0, 0), (4, 0, 0), (1, 0, 0), (4, 0, 0), (4, 0, 0), (4, 0, 0), (1, 0, 0), (1, 0, 0), (4, 0, 0), (4, 0, 0), (4, 0, 0), (1, 0, 0), (1, 0, 0), (1, 0, 0), (1, 0, 0), (1, 0, 0), (1, 0, 0), (1, 0, 0), (4, 0, 0), (4, 0, 0), (1, 0, 0), (1, 0, 0), (4, 0, 0), (1, 0, 0), (4, 0, 0), (4, 0, 0), (1, 0, 0), (4, 0, 0), (4, 0, 0), (4, 0, 0), (1, 0, 0), (4, 0, 0), (4, 0, 0), (4, 0, 0)] (pc' := 11) D281_8 rfl nw_12_10 rfl P2 pd_10 77 rfl (fun M3 P3 => ?_)
  show sRn _ _ _ _ _ 11 _ [vR (0 + 77)] _ _
  refine s_blx (lv' := [(1, vR 0), (0, vA b)]) (st' := [vR 77, vR 77]) B281_11_12 rfl ?_
  refine r_calls (P := pV (fun M => INVl base 0 M ∧ CSx base 0 z_T i_N 0 i_N 0 i_N M ∧ RSx 0 z_T i_N 0 i_N 0 i_N M ∧ HXc base (-1) 0 0 0 M ∧ HXr (-1) 0 0 0 M)) (args := [vR 77]) (rest := [vR 77]) (pc' := 15) D281_12 rfl ck_12_special_12 TE150 rfl (Nat.le_of_ble_eq_true rfl) ⟨Nat.le_of_ble_eq_true rfl, Nat.le_of_ble_eq_true rfl⟩ (by decide) (by omega) (sOk.of ?_) ?_
  · show sRn base X G 1299 T150 0 [(0, vR 77)] [] M3 _
    rw [← e2]
    refine c150x P3 (fun M4 P4 WK => ?_)
    rw [e2]
    have PA : Ps base shA Z0 M4 := Ps.app P2 P4 rfl
    have H4 := HI.ofPs PA rfl
    have z78 : ∀ i : Int, gi M4 78 i = 0 := fun i => by
      have := PA.giA (c := 78) (1000, 6883, [(1, 0, 0)]) rfl rfl (a := 0) (b := 0) (fun k _ => rfl) (by decide) i
      omega
    refine m_Rn.imp (k150p E (by omega) H4 (z78 _) (z78 _) z78) ?_
    rintro r M5 ⟨v', e1, e3, H5, f5, tb, g1, g2, ki⟩
    exact ⟨v', e1, e3, INVl.start PA H5 f5 tb g1 g2 ki (fun k hk => by rw [e2] at WK; exact WK k hk)⟩
  · rintro v M5 ⟨rfl, I5, Xc5, Xr5, Lc5, Lr5⟩
    show sRn _ _ _ _ _ 15 [(1, vR 0), (0, vA b)] [vR 77] _ _
    refine s_blx (lv' := [(2, vR 77), (1, vR 0), (0, vA b)]) (st' := []) B281_15_16 rfl ?_
    refine r_loc (lv' := [(0, vA b), (1, vR 0), (2, vR 77)]) ⟨rfl, rfl, rfl, trivial⟩ rfl rfl ?_
    have H5 : HI base M5 := by obtain ⟨a, b, hK, -⟩ := I5; exact hK.1
    refine m_Rn.imp (k281p E ihr (by omega) H5 I5 Xc5 Xr5 Lc5 Lr5) ?_
    rintro r M6 ⟨v', e1, v, e3, -, -, -, e4, e5⟩
    exact ⟨v', e1, v, e3, e4, e5⟩
/-- the pure machine answers 1 for the law, within the room -/
theorem law_pure (base : Nat) (X : Nat → Option mC) (G : Nat → Value) (b L : Nat) (xs : Nat → Int32) (hL : L ≤ 3072) (hb : b < base) (hX : ∃ f : Nat → Value, X b = some (1000, L, f) ∧ ∀ j, j < L → f j = .int (xs j)) (E : EnvOK base X G) : ∃ (n : Nat) (M' : mH), m_run base X G n 1300 T281 0 (lv_args 0 [.ref b]) [] Z0 = some (some (.int 1), M') ∧ M'.1 ≤ 600000 ∧ M'.2.1 ≤ 7302250 := by
  obtain ⟨f, h1, h2⟩ := hX
  obtain ⟨n, r, M', hr, v, e1, w, e2, e3, e4, e5⟩ := law_run E (b := b) (L := L) (f_ := f) ⟨hb, h1, hL, fun j hj => ⟨_, h2 j hj⟩⟩
  subst e2
  subst e3
  subst e1
  exact ⟨n, M', hr, e4, e5⟩
