noncomputable def sy_wV : List (List Cond) := [wsL_law_r1, wsL_law_r2, wsL_law_r3, wsL_law_r4, wsL_law_r5, wsL_law_r6, wsL_law_r7, wsL_law_r8, wsL_law_r9, wsL_law_r10, wsL_law_r11, wsL_law_r12, wsL_law_r13, wsL_law_r14, wsL_law_r15, wsL_law_r16, wsL_law_r17, wsL_law_r18, wsL_law_r19, wsL_law_r20, wsL_law_r21, wsL_law_r22, wsL_law_r23, wsL_law_r24, wsL_law_r25, wsL_law_r26, wsL_law_r27, wsL_law_r28, wsL_law_r29, wsL_law_r30, wsL_law_r31, wsL_law_r32, wsL_law_r33, wsL_law_r34, wsL_law_r35, wsL_law_r36, wsL_law_r37, wsL_law_r38, wsL_law_r39, wsL_law_r40, wsL_law_r41, wsL_law_r42, wsL_law_r43, wsL_law_r44, wsL_law_r45, wsL_law_r46, wsL_law_r47, wsL_law_r48, wsL_law_r49, wsL_law_r50, wsL_law_r51, wsL_law_r52, wsL_law_r53, wsL_law_r54, wsL_law_r55, wsL_law_r56, wsL_law_r57, wsL_law_r58, wsL_law_r59, wsX100, wsX110, wsX80, wsX40, wsX90, wsX70, wsX00, wsX10, wsX50, wsX20, wsX30]
theorem sy_wV_in : ∀ L ∈ sy_wV, ∀ w ∈ L, w ∈ wsL_law := by
  have e : wsL_law = sy_wV.flatten := by
    unfold wsL_law sy_wV
    simp only [List.flatten_cons, List.flatten_nil, List.append_nil, List.append_assoc, List.nil_append]
  intro L hL w hw
  rw [e]
  exact List.mem_flatten.mpr ⟨L, hL, hw⟩
theorem sy_mm {β : Type} {L : List β} {P : List (Nat × Nat)} {f : β → Option Cond} (h : L.map f = P.map (fun p => (sy_wV[p.1]?).bind (fun L => L[p.2]?))) {q : β} (hq : q ∈ L) {w : Cond} (hw : f q = some w) : w ∈ wsL_law := by
  have h1 : some w ∈ L.map f := List.mem_map.mpr ⟨q, hq, hw⟩
  rw [h] at h1
  obtain ⟨p, -, hp⟩ := List.mem_map.mp h1
  obtain ⟨L, a, b⟩ := Option.bind_eq_some_iff.mp hp
  exact sy_wV_in L (List.mem_of_getElem? a) w (List.mem_of_getElem? b)
noncomputable def sy_fw (q : Nat × Nat × Nat × Nat) : Option Cond := match vwCl[q.2.2.1]? with
  | some r => some (.fieldLink (sy_cn q.1) q.2.1 r.1 (r.2.1 q.2.2.2).2.1 (r.2.1 q.2.2.2).2.2.1)
  | none => none
set_option maxRecDepth 20000 in
theorem sy_fok_0 : ((sy_f.drop 0).take 24).map sy_fw = [(42, 22), (42, 23), (43, 0), (43, 22), (43, 23), (5, 10), (44, 0), (44, 5), (44, 6), (5, 11), (5, 12), (5, 13), (5, 14), (5, 15), (5, 16), (42, 16), (42, 18), (42, 19), (42, 20), (42, 21), (5, 21), (5, 22), (5, 23), (5, 20)].map (fun p => (sy_wV[p.1]?).bind (fun L => L[p.2]?)) := rfl
set_option maxRecDepth 20000 in
theorem sy_fok_1 : ((sy_f.drop 24).take 24).map sy_fw = [(0, 15), (8, 11), (9, 23), (10, 12), (10, 21), (11, 13), (0, 16), (11, 22), (13, 23), (14, 16), (14, 17), (0, 18), (31, 9), (0, 19), (31, 10), (41, 22), (48, 18), (48, 19), (51, 6), (0, 20), (51, 19), (53, 0), (53, 1), (53, 10)].map (fun p => (sy_wV[p.1]?).bind (fun L => L[p.2]?)) := rfl
set_option maxRecDepth 20000 in
theorem sy_fok_2 : ((sy_f.drop 48).take 24).map sy_fw = [(54, 12), (54, 13), (0, 21), (54, 22), (54, 23), (56, 0), (56, 1), (57, 3), (1, 1), (1, 5), (1, 9), (1, 10), (1, 11), (1, 12), (1, 16), (1, 17), (1, 21), (2, 1), (2, 5), (2, 7), (7, 22), (7, 23), (8, 0), (8, 1)].map (fun p => (sy_wV[p.1]?).bind (fun L => L[p.2]?)) := rfl
set_option maxRecDepth 20000 in
theorem sy_fok_3 : ((sy_f.drop 72).take 24).map sy_fw = [(8, 2), (8, 3), (8, 4), (6, 16), (13, 6), (6, 17), (24, 21), (24, 22), (24, 23), (6, 18), (25, 0), (26, 1), (25, 17), (25, 16), (24, 7), (6, 19), (27, 17), (6, 20), (27, 16), (24, 8), (9, 13), (6, 21), (38, 7), (38, 14)].map (fun p => (sy_wV[p.1]?).bind (fun L => L[p.2]?)) := rfl
set_option maxRecDepth 20000 in
theorem sy_fok_4 : ((sy_f.drop 96).take 24).map sy_fw = [(38, 12), (6, 22), (38, 13), (6, 23), (46, 2), (46, 1), (46, 3), (7, 1), (45, 10), (7, 2), (45, 20), (45, 11), (52, 11), (7, 3), (7, 4), (7, 5), (7, 6), (7, 7), (7, 8), (7, 10), (7, 11), (7, 12), (7, 13), (7, 14)].map (fun p => (sy_wV[p.1]?).bind (fun L => L[p.2]?)) := rfl
set_option maxRecDepth 20000 in
theorem sy_fok_5 : ((sy_f.drop 120).take 24).map sy_fw = [(7, 15), (7, 16), (7, 17), (7, 18), (7, 19), (7, 20), (7, 21), (6, 11), (55, 4), (55, 9), (6, 10), (37, 21), (37, 22), (37, 20), (3, 13), (3, 14), (3, 15), (3, 16), (3, 17), (3, 18), (3, 19), (3, 20), (3, 21), (3, 22)].map (fun p => (sy_wV[p.1]?).bind (fun L => L[p.2]?)) := rfl
set_option maxRecDepth 20000 in
theorem sy_fok_6 : ((sy_f.drop 144).take 24).map sy_fw = [(3, 12), (6, 4), (6, 5), (6, 6), (6, 3), (23, 5), (23, 20), (22, 3), (22, 4), (22, 5), (5, 2), (5, 3), (5, 4), (5, 5), (5, 6), (21, 12), (21, 13), (22, 18), (22, 19), (23, 0), (2, 13), (2, 14), (2, 15), (2, 16)].map (fun p => (sy_wV[p.1]?).bind (fun L => L[p.2]?)) := rfl
set_option maxRecDepth 20000 in
theorem sy_fok_7 : ((sy_f.drop 168).take 24).map sy_fw = [(2, 17), (2, 18), (2, 19), (2, 20), (2, 21), (2, 22), (3, 0), (3, 1), (3, 2), (3, 3), (3, 4), (2, 12), (20, 6), (4, 2), (20, 7), (21, 0), (4, 3), (4, 4), (4, 5), (4, 7), (4, 8), (4, 9), (4, 10), (4, 11)].map (fun p => (sy_wV[p.1]?).bind (fun L => L[p.2]?)) := rfl
set_option maxRecDepth 20000 in
theorem sy_fok_8 : ((sy_f.drop 192).take 24).map sy_fw = [(4, 12), (4, 13), (4, 14), (4, 15), (4, 16), (4, 17), (4, 18), (4, 19), (4, 20), (19, 15), (19, 17), (19, 18), (19, 19), (20, 5)].map (fun p => (sy_wV[p.1]?).bind (fun L => L[p.2]?)) := rfl
set_option maxRecDepth 100000 in
theorem sy_fok_cut (q : Nat × Nat × Nat × Nat) (hq : q ∈ sy_f) : q ∈ (sy_f.drop 0).take 24 ∨ q ∈ (sy_f.drop 24).take 24 ∨ q ∈ (sy_f.drop 48).take 24 ∨ q ∈ (sy_f.drop 72).take 24 ∨ q ∈ (sy_f.drop 96).take 24 ∨ q ∈ (sy_f.drop 120).take 24 ∨ q ∈ (sy_f.drop 144).take 24 ∨ q ∈ (sy_f.drop 168).take 24 ∨ q ∈ (sy_f.drop 192).take 24 := by
  have e : sy_f = (sy_f.drop 0).take 24 ++ (sy_f.drop 24).take 24 ++ (sy_f.drop 48).take 24 ++ (sy_f.drop 72).take 24 ++ (sy_f.drop 96).take 24 ++ (sy_f.drop 120).take 24 ++ (sy_f.drop 144).take 24 ++ (sy_f.drop 168).take 24 ++ (sy_f.drop 192).take 24 := by decide +kernel
  rw [e] at hq
  simpa only [List.mem_append, or_assoc] using hq
theorem sy_fok {q : Nat × Nat × Nat × Nat} (hq : q ∈ sy_f) {w : Cond} (hw : sy_fw q = some w) : w ∈ wsL_law := by
  rcases sy_fok_cut q hq with h | h | h | h | h | h | h | h | h
  · exact sy_mm sy_fok_0 h hw
  · exact sy_mm sy_fok_1 h hw
  · exact sy_mm sy_fok_2 h hw
  · exact sy_mm sy_fok_3 h hw
  · exact sy_mm sy_fok_4 h hw
  · exact sy_mm sy_fok_5 h hw
  · exact sy_mm sy_fok_6 h hw
  · exact sy_mm sy_fok_7 h hw
  · exact sy_mm sy_fok_8 h hw
