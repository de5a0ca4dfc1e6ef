noncomputable def sy_mk : List Nat := [2, 0, 0, 0, 0, 0, 0, 0, 1, 2, 0, 0, 2, 0, 1, 2, 2, 0, 0, 1, 1, 1, 1, 1, 0, 0, 0, 0, 0, 0, 0, 0, 0, 0, 0, 0, 0, 0, 0, 2, 0, 0, 1, 1, 1, 1, 2, 0, 0, 0, 0, 1, 0, 0, 0, 0, 0, 2, 0, 0, 0, 0, 0, 0, 0, 0, 0, 0, 0, 0, 0, 0, 0, 0, 0, 0, 0, 0, 2, 0, 0, 0, 0, 0, 0, 0, 0, 0, 0, 0, 0, 0, 0, 0, 0, 2, 0, 0, 0, 0, 0, 0, 0, 0, 0, 0, 0, 0, 0, 0, 0, 0, 0, 0, 0, 0, 0, 0, 0, 0, 0, 0, 0, 0, 0, 0, 0, 0, 0, 0, 0, 0, 0, 0, 0, 0, 0, 0, 0, 0, 0, 0, 1, 1, 1, 1, 1, 1, 0, 0, 2, 0, 0, 0, 0, 0, 0, 0, 0, 0, 0, 0, 0, 0, 0, 0, 0, 0, 0, 0, 0, 0, 0, 0, 0, 1, 1, 0, 1, 0, 0, 0, 0, 0, 1, 0, 0, 1, 0, 0, 0, 0, 1, 0, 0, 0, 0, 0, 0, 0, 0, 0, 0, 0, 0, 0, 0, 0, 0, 0, 0, 0, 1, 1, 0, 0, 0, 0, 0, 0, 0, 1, 0, 0, 0, 0, 0, 0, 0, 0, 0, 0, 0, 0, 0, 0, 0, 0, 0, 0, 0, 0, 0, 0, 0, 0, 0, 0, 0, 0, 0, 0, 0, 0, 0, 0, 0, 0, 0, 0, 0, 0, 0, 0, 0, 0, 0, 1, 0, 0, 0, 0, 1, 1, 1, 1, 1, 1, 1, 1, 1]
noncomputable def sy_mi : List Nat := List.range 281
noncomputable def sy_w1 (k : Nat) : Option Cond := match sy_m[k]? with
  | some t => some (.code t.2.1 t.2.2.1 t.2.2.2.1 t.2.2.2.2)
  | none => none
noncomputable def sy_w2 (k : Nat) : Option Cond := match sy_m[k]? with
  | some t => if sy_mk[k]? = some 1 then some (.static t.2.1) else some (.instanceMethod t.2.1)
  | none => none
noncomputable def sy_w3 (k : Nat) : Option Cond := match sy_m[k]? with
  | some t => if sy_mk[k]? = some 0 then some (.selects t.2.1.cls t.2.1 t.2.1) else some (.code t.2.1 t.2.2.1 t.2.2.2.1 t.2.2.2.2)
  | none => none
noncomputable def sy_w4 (k : Nat) : Option Cond := match sy_m[k]? with
  | some t => some (.initialized t.2.1.cls)
  | none => none
noncomputable def sy_cw (q : Nat × Nat × Nat × Nat × Nat) : Option Cond := match sy_m[q.2.2.2.1]? with
  | some t => if q.2.2.1 < 3 then some (.methodLink (sy_cn q.1) q.2.1 t.2.1) else some (.code t.2.1 t.2.2.1 t.2.2.2.1 t.2.2.2.2)
  | none => none
set_option maxRecDepth 20000 in
theorem sy_t1_0 : ((sy_mi.drop 0).take 24).map sy_w1 = [(5, 8), (42, 10), (42, 15), (43, 8), (43, 21), (44, 4), (44, 10), (44, 14), (44, 19), (5, 18), (51, 23), (52, 4), (6, 8), (55, 3), (55, 8), (37, 18), (3, 10), (31, 14), (31, 22), (32, 1), (32, 10), (32, 15), (32, 4), (32, 7)].map (fun p => (sy_wV[p.1]?).bind (fun L => L[p.2]?)) := rfl
set_option maxRecDepth 20000 in
theorem sy_t1_1 : ((sy_mi.drop 24).take 24).map sy_w1 = [(34, 20), (35, 8), (35, 20), (36, 0), (36, 16), (36, 20), (37, 1), (37, 0), (36, 4), (36, 12), (36, 8), (35, 4), (35, 0), (35, 15), (35, 19), (6, 1), (53, 22), (54, 2), (28, 21), (24, 0), (29, 0), (29, 3), (4, 23), (21, 11)].map (fun p => (sy_wV[p.1]?).bind (fun L => L[p.2]?)) := rfl
set_option maxRecDepth 20000 in
theorem sy_t1_2 : ((sy_mi.drop 48).take 24).map sy_w1 = [(28, 17), (22, 9), (22, 17), (23, 11), (22, 23), (23, 19), (23, 18), (24, 1), (22, 2), (2, 10), (57, 19), (11, 4), (12, 21), (13, 1), (38, 2), (51, 10), (12, 13), (14, 3), (42, 2), (15, 5), (50, 9), (50, 13), (15, 9), (12, 17)].map (fun p => (sy_wV[p.1]?).bind (fun L => L[p.2]?)) := rfl
set_option maxRecDepth 20000 in
theorem sy_t1_3 : ((sy_mi.drop 72).take 24).map sy_w1 = [(20, 12), (15, 14), (17, 16), (21, 5), (17, 12), (18, 22), (4, 0), (19, 14), (20, 4), (20, 16), (20, 23), (28, 9), (28, 13), (22, 13), (43, 16), (43, 12), (30, 0), (29, 20), (21, 22), (50, 1), (21, 17), (45, 3), (44, 23), (0, 8)].map (fun p => (sy_wV[p.1]?).bind (fun L => L[p.2]?)) := rfl
set_option maxRecDepth 20000 in
theorem sy_t1_4 : ((sy_mi.drop 96).take 24).map sy_w1 = [(8, 8), (9, 21), (10, 11), (10, 20), (11, 12), (11, 21), (13, 22), (14, 15), (15, 1), (17, 8), (18, 18), (19, 10), (28, 5), (29, 16), (30, 12), (31, 0), (31, 8), (41, 13), (41, 21), (48, 17), (49, 3), (49, 13), (49, 21), (51, 5)].map (fun p => (sy_wV[p.1]?).bind (fun L => L[p.2]?)) := rfl
set_option maxRecDepth 20000 in
theorem sy_t1_5 : ((sy_mi.drop 120).take 24).map sy_w1 = [(51, 18), (52, 23), (53, 9), (53, 18), (54, 11), (54, 21), (55, 23), (56, 10), (56, 22), (57, 15), (58, 3), (58, 11), (58, 19), (8, 18), (9, 1), (12, 2), (30, 16), (12, 9), (42, 6), (50, 5), (56, 14), (57, 2), (8, 14), (11, 0)].map (fun p => (sy_wV[p.1]?).bind (fun L => L[p.2]?)) := rfl
set_option maxRecDepth 20000 in
theorem sy_t1_6 : ((sy_mi.drop 144).take 24).map sy_w1 = [(12, 5), (8, 21), (17, 19), (9, 8), (9, 12), (9, 17), (6, 14), (57, 23), (58, 7), (10, 7), (14, 11), (45, 15), (13, 14), (13, 18), (17, 1), (16, 9), (16, 5), (9, 5), (10, 3), (10, 16), (11, 8), (11, 17), (13, 10), (13, 5)].map (fun p => (sy_wV[p.1]?).bind (fun L => L[p.2]?)) := rfl
set_option maxRecDepth 20000 in
theorem sy_t1_7 : ((sy_mi.drop 168).take 24).map sy_w1 = [(14, 7), (14, 21), (16, 17), (16, 13), (16, 21), (18, 11), (18, 7), (17, 4), (25, 3), (16, 1), (18, 14), (18, 3), (19, 6), (19, 2), (25, 11), (24, 20), (26, 15), (26, 9), (26, 5), (26, 12), (26, 0), (27, 3), (26, 23), (26, 19)].map (fun p => (sy_wV[p.1]?).bind (fun L => L[p.2]?)) := rfl
set_option maxRecDepth 20000 in
theorem sy_t1_8 : ((sy_mi.drop 192).take 24).map sy_w1 = [(25, 20), (27, 11), (27, 7), (25, 7), (25, 15), (24, 16), (27, 21), (27, 15), (24, 12), (28, 1), (24, 6), (29, 12), (29, 8), (30, 8), (49, 17), (50, 21), (51, 1), (50, 17), (30, 20), (31, 4), (38, 22), (39, 1), (39, 5), (38, 18)].map (fun p => (sy_wV[p.1]?).bind (fun L => L[p.2]?)) := rfl
set_option maxRecDepth 20000 in
theorem sy_t1_9 : ((sy_mi.drop 216).take 24).map sy_w1 = [(39, 13), (39, 17), (39, 21), (40, 16), (40, 20), (40, 12), (39, 9), (40, 1), (40, 5), (40, 9), (41, 0), (41, 6), (41, 4), (38, 11), (38, 6), (41, 17), (46, 15), (46, 19), (47, 22), (47, 15), (48, 2), (48, 1), (46, 23), (47, 3)].map (fun p => (sy_wV[p.1]?).bind (fun L => L[p.2]?)) := rfl
set_option maxRecDepth 20000 in
theorem sy_t1_10 : ((sy_mi.drop 240).take 24).map sy_w1 = [(47, 7), (47, 11), (46, 11), (48, 13), (46, 7), (48, 9), (46, 0), (45, 19), (45, 9), (48, 23), (49, 8), (51, 14), (52, 19), (52, 15), (52, 10), (53, 5), (53, 14), (54, 7), (54, 17), (55, 19), (55, 15), (56, 6), (56, 18), (57, 11)].map (fun p => (sy_wV[p.1]?).bind (fun L => L[p.2]?)) := rfl
set_option maxRecDepth 20000 in
theorem sy_t1_11 : ((sy_mi.drop 264).take 24).map sy_w1 = [(57, 7), (58, 15), (58, 23), (15, 18), (32, 20), (33, 7), (33, 1), (33, 11), (33, 18), (33, 15), (34, 13), (34, 9), (34, 3), (34, 6), (19, 23), (37, 7), (33, 23)].map (fun p => (sy_wV[p.1]?).bind (fun L => L[p.2]?)) := rfl
set_option maxRecDepth 100000 in
theorem sy_t1_cut (q : Nat) (hq : q ∈ sy_mi) : q ∈ (sy_mi.drop 0).take 24 ∨ q ∈ (sy_mi.drop 24).take 24 ∨ q ∈ (sy_mi.drop 48).take 24 ∨ q ∈ (sy_mi.drop 72).take 24 ∨ q ∈ (sy_mi.drop 96).take 24 ∨ q ∈ (sy_mi.drop 120).take 24 ∨ q ∈ (sy_mi.drop 144).take 24 ∨ q ∈ (sy_mi.drop 168).take 24 ∨ q ∈ (sy_mi.drop 192).take 24 ∨ q ∈ (sy_mi.drop 216).take 24 ∨ q ∈ (sy_mi.drop 240).take 24 ∨ q ∈ (sy_mi.drop 264).take 24 := by
  have e : sy_mi = (sy_mi.drop 0).take 24 ++ (sy_mi.drop 24).take 24 ++ (sy_mi.drop 48).take 24 ++ (sy_mi.drop 72).take 24 ++ (sy_mi.drop 96).take 24 ++ (sy_mi.drop 120).take 24 ++ (sy_mi.drop 144).take 24 ++ (sy_mi.drop 168).take 24 ++ (sy_mi.drop 192).take 24 ++ (sy_mi.drop 216).take 24 ++ (sy_mi.drop 240).take 24 ++ (sy_mi.drop 264).take 24 := by decide +kernel
  rw [e] at hq
  simpa only [List.mem_append, or_assoc] using hq
theorem sy_t1 {q : Nat} (hq : q ∈ sy_mi) {w : Cond} (hw : sy_w1 q = some w) : w ∈ wsL_law := by
  rcases sy_t1_cut q hq with h | h | h | h | h | h | h | h | h | h | h | h
  · exact sy_mm sy_t1_0 h hw
  · exact sy_mm sy_t1_1 h hw
  · exact sy_mm sy_t1_2 h hw
  · exact sy_mm sy_t1_3 h hw
  · exact sy_mm sy_t1_4 h hw
  · exact sy_mm sy_t1_5 h hw
  · exact sy_mm sy_t1_6 h hw
  · exact sy_mm sy_t1_7 h hw
  · exact sy_mm sy_t1_8 h hw
  · exact sy_mm sy_t1_9 h hw
  · exact sy_mm sy_t1_10 h hw
  · exact sy_mm sy_t1_11 h hw
set_option maxRecDepth 20000 in
theorem sy_t2_0 : ((sy_mi.drop 0).take 24).map sy_w2 = [(5, 7), (42, 8), (42, 13), (43, 6), (43, 19), (44, 2), (44, 8), (44, 12), (44, 18), (5, 17), (51, 21), (52, 2), (6, 7), (55, 1), (55, 7), (37, 17), (3, 9), (31, 12), (31, 20), (32, 0), (32, 9), (32, 14), (32, 3), (32, 6)].map (fun p => (sy_wV[p.1]?).bind (fun L => L[p.2]?)) := rfl
set_option maxRecDepth 20000 in
theorem sy_t2_1 : ((sy_mi.drop 24).take 24).map sy_w2 = [(34, 18), (35, 6), (35, 10), (35, 22), (36, 14), (36, 18), (36, 22), (37, 3), (36, 2), (36, 10), (36, 6), (35, 2), (34, 22), (35, 13), (35, 17), (6, 0), (53, 20), (54, 0), (28, 20), (23, 22), (28, 23), (29, 2), (4, 22), (21, 9)].map (fun p => (sy_wV[p.1]?).bind (fun L => L[p.2]?)) := rfl
set_option maxRecDepth 20000 in
theorem sy_t2_2 : ((sy_mi.drop 48).take 24).map sy_w2 = [(28, 15), (22, 7), (22, 15), (23, 10), (22, 21), (23, 13), (23, 16), (23, 7), (22, 0), (2, 9), (57, 17), (11, 2), (12, 19), (12, 23), (38, 0), (51, 8), (12, 11), (14, 1), (42, 0), (15, 3), (50, 7), (50, 11), (15, 7), (12, 15)].map (fun p => (sy_wV[p.1]?).bind (fun L => L[p.2]?)) := rfl
set_option maxRecDepth 20000 in
theorem sy_t2_3 : ((sy_mi.drop 72).take 24).map sy_w2 = [(20, 10), (15, 12), (17, 14), (21, 3), (17, 10), (18, 20), (3, 23), (19, 12), (20, 2), (20, 14), (20, 21), (28, 7), (28, 11), (22, 11), (43, 14), (43, 10), (29, 22), (29, 18), (21, 20), (49, 23), (21, 15), (45, 1), (44, 21), (0, 7)].map (fun p => (sy_wV[p.1]?).bind (fun L => L[p.2]?)) := rfl
set_option maxRecDepth 20000 in
theorem sy_t2_4 : ((sy_mi.drop 96).take 24).map sy_w2 = [(8, 6), (9, 19), (10, 9), (10, 18), (11, 10), (11, 19), (13, 20), (14, 13), (14, 23), (17, 6), (18, 16), (19, 8), (28, 3), (29, 14), (30, 10), (30, 22), (31, 6), (41, 11), (41, 19), (48, 15), (49, 1), (49, 11), (49, 19), (51, 3)].map (fun p => (sy_wV[p.1]?).bind (fun L => L[p.2]?)) := rfl
set_option maxRecDepth 20000 in
theorem sy_t2_5 : ((sy_mi.drop 120).take 24).map sy_w2 = [(51, 16), (52, 21), (53, 7), (53, 16), (54, 9), (54, 19), (55, 21), (56, 8), (56, 20), (57, 13), (58, 1), (58, 9), (58, 17), (8, 16), (8, 23), (12, 0), (30, 14), (12, 7), (42, 4), (50, 3), (56, 12), (57, 0), (8, 13), (10, 23)].map (fun p => (sy_wV[p.1]?).bind (fun L => L[p.2]?)) := rfl
set_option maxRecDepth 20000 in
theorem sy_t2_6 : ((sy_mi.drop 144).take 24).map sy_w2 = [(12, 4), (8, 20), (17, 18), (9, 7), (9, 10), (9, 15), (6, 13), (57, 21), (58, 5), (10, 5), (14, 9), (45, 13), (13, 12), (13, 16), (16, 23), (16, 7), (16, 3), (9, 3), (10, 1), (10, 14), (11, 6), (11, 15), (13, 8), (13, 3)].map (fun p => (sy_wV[p.1]?).bind (fun L => L[p.2]?)) := rfl
set_option maxRecDepth 20000 in
theorem sy_t2_7 : ((sy_mi.drop 168).take 24).map sy_w2 = [(14, 5), (14, 19), (16, 15), (16, 11), (16, 19), (18, 9), (18, 5), (17, 3), (25, 2), (15, 23), (18, 13), (18, 1), (19, 4), (19, 0), (25, 9), (24, 18), (26, 14), (26, 7), (26, 3), (26, 11), (25, 22), (27, 1), (26, 21), (26, 17)].map (fun p => (sy_wV[p.1]?).bind (fun L => L[p.2]?)) := rfl
set_option maxRecDepth 20000 in
theorem sy_t2_8 : ((sy_mi.drop 192).take 24).map sy_w2 = [(25, 19), (27, 9), (27, 5), (25, 5), (25, 13), (24, 14), (27, 19), (27, 13), (24, 10), (27, 23), (24, 4), (29, 10), (29, 6), (30, 6), (49, 15), (50, 19), (50, 23), (50, 15), (30, 18), (31, 2), (38, 21), (39, 0), (39, 3), (38, 16)].map (fun p => (sy_wV[p.1]?).bind (fun L => L[p.2]?)) := rfl
set_option maxRecDepth 20000 in
theorem sy_t2_9 : ((sy_mi.drop 216).take 24).map sy_w2 = [(39, 11), (39, 15), (39, 19), (40, 14), (40, 18), (40, 11), (39, 7), (39, 23), (40, 3), (40, 7), (40, 22), (41, 2), (41, 8), (38, 9), (38, 4), (41, 15), (46, 13), (46, 17), (47, 20), (47, 13), (47, 17), (48, 4), (46, 21), (47, 1)].map (fun p => (sy_wV[p.1]?).bind (fun L => L[p.2]?)) := rfl
set_option maxRecDepth 20000 in
theorem sy_t2_10 : ((sy_mi.drop 240).take 24).map sy_w2 = [(47, 5), (47, 9), (46, 9), (48, 11), (46, 5), (48, 7), (45, 22), (45, 17), (45, 7), (48, 21), (49, 6), (51, 12), (52, 17), (52, 13), (52, 8), (53, 3), (53, 12), (54, 5), (54, 15), (55, 17), (55, 13), (56, 4), (56, 16), (57, 9)].map (fun p => (sy_wV[p.1]?).bind (fun L => L[p.2]?)) := rfl
set_option maxRecDepth 20000 in
theorem sy_t2_11 : ((sy_mi.drop 264).take 24).map sy_w2 = [(57, 5), (58, 13), (58, 21), (15, 16), (32, 17), (33, 5), (32, 23), (33, 9), (33, 17), (33, 13), (34, 12), (34, 8), (34, 1), (34, 5), (19, 21), (37, 6), (33, 21)].map (fun p => (sy_wV[p.1]?).bind (fun L => L[p.2]?)) := rfl
set_option maxRecDepth 100000 in
theorem sy_t2_cut (q : Nat) (hq : q ∈ sy_mi) : q ∈ (sy_mi.drop 0).take 24 ∨ q ∈ (sy_mi.drop 24).take 24 ∨ q ∈ (sy_mi.drop 48).take 24 ∨ q ∈ (sy_mi.drop 72).take 24 ∨ q ∈ (sy_mi.drop 96).take 24 ∨ q ∈ (sy_mi.drop 120).take 24 ∨ q ∈ (sy_mi.drop 144).take 24 ∨ q ∈ (sy_mi.drop 168).take 24 ∨ q ∈ (sy_mi.drop 192).take 24 ∨ q ∈ (sy_mi.drop 216).take 24 ∨ q ∈ (sy_mi.drop 240).take 24 ∨ q ∈ (sy_mi.drop 264).take 24 := by
  have e : sy_mi = (sy_mi.drop 0).take 24 ++ (sy_mi.drop 24).take 24 ++ (sy_mi.drop 48).take 24 ++ (sy_mi.drop 72).take 24 ++ (sy_mi.drop 96).take 24 ++ (sy_mi.drop 120).take 24 ++ (sy_mi.drop 144).take 24 ++ (sy_mi.drop 168).take 24 ++ (sy_mi.drop 192).take 24 ++ (sy_mi.drop 216).take 24 ++ (sy_mi.drop 240).take 24 ++ (sy_mi.drop 264).take 24 := by decide +kernel
  rw [e] at hq
  simpa only [List.mem_append, or_assoc] using hq
theorem sy_t2 {q : Nat} (hq : q ∈ sy_mi) {w : Cond} (hw : sy_w2 q = some w) : w ∈ wsL_law := by
  rcases sy_t2_cut q hq with h | h | h | h | h | h | h | h | h | h | h | h
  · exact sy_mm sy_t2_0 h hw
  · exact sy_mm sy_t2_1 h hw
  · exact sy_mm sy_t2_2 h hw
  · exact sy_mm sy_t2_3 h hw
  · exact sy_mm sy_t2_4 h hw
  · exact sy_mm sy_t2_5 h hw
  · exact sy_mm sy_t2_6 h hw
  · exact sy_mm sy_t2_7 h hw
  · exact sy_mm sy_t2_8 h hw
  · exact sy_mm sy_t2_9 h hw
  · exact sy_mm sy_t2_10 h hw
  · exact sy_mm sy_t2_11 h hw
set_option maxRecDepth 20000 in
theorem sy_t3_0 : ((sy_mi.drop 0).take 24).map sy_w3 = [(5, 8), (42, 9), (42, 14), (43, 7), (43, 20), (44, 3), (44, 9), (44, 13), (44, 19), (5, 18), (51, 22), (52, 3), (6, 8), (55, 2), (55, 8), (37, 18), (3, 10), (31, 13), (31, 21), (32, 1), (32, 10), (32, 15), (32, 4), (32, 7)].map (fun p => (sy_wV[p.1]?).bind (fun L => L[p.2]?)) := rfl
set_option maxRecDepth 20000 in
theorem sy_t3_1 : ((sy_mi.drop 24).take 24).map sy_w3 = [(34, 19), (35, 7), (35, 11), (35, 23), (36, 15), (36, 19), (36, 23), (37, 4), (36, 3), (36, 11), (36, 7), (35, 3), (34, 23), (35, 14), (35, 18), (6, 1), (53, 21), (54, 1), (28, 21), (24, 0), (29, 0), (29, 3), (4, 23), (21, 10)].map (fun p => (sy_wV[p.1]?).bind (fun L => L[p.2]?)) := rfl
set_option maxRecDepth 20000 in
theorem sy_t3_2 : ((sy_mi.drop 48).take 24).map sy_w3 = [(28, 16), (22, 8), (22, 16), (23, 11), (22, 22), (23, 14), (23, 17), (23, 8), (22, 1), (2, 10), (57, 18), (11, 3), (12, 20), (13, 0), (38, 1), (51, 9), (12, 12), (14, 2), (42, 1), (15, 4), (50, 8), (50, 12), (15, 8), (12, 16)].map (fun p => (sy_wV[p.1]?).bind (fun L => L[p.2]?)) := rfl
set_option maxRecDepth 20000 in
theorem sy_t3_3 : ((sy_mi.drop 72).take 24).map sy_w3 = [(20, 11), (15, 13), (17, 15), (21, 4), (17, 11), (18, 21), (4, 0), (19, 13), (20, 3), (20, 15), (20, 22), (28, 8), (28, 12), (22, 12), (43, 15), (43, 11), (29, 23), (29, 19), (21, 21), (50, 0), (21, 16), (45, 2), (44, 22), (0, 8)].map (fun p => (sy_wV[p.1]?).bind (fun L => L[p.2]?)) := rfl
set_option maxRecDepth 20000 in
theorem sy_t3_4 : ((sy_mi.drop 96).take 24).map sy_w3 = [(8, 7), (9, 20), (10, 10), (10, 19), (11, 11), (11, 20), (13, 21), (14, 14), (15, 0), (17, 7), (18, 17), (19, 9), (28, 4), (29, 15), (30, 11), (30, 23), (31, 7), (41, 12), (41, 20), (48, 16), (49, 2), (49, 12), (49, 20), (51, 4)].map (fun p => (sy_wV[p.1]?).bind (fun L => L[p.2]?)) := rfl
set_option maxRecDepth 20000 in
theorem sy_t3_5 : ((sy_mi.drop 120).take 24).map sy_w3 = [(51, 17), (52, 22), (53, 8), (53, 17), (54, 10), (54, 20), (55, 22), (56, 9), (56, 21), (57, 14), (58, 2), (58, 10), (58, 18), (8, 17), (9, 0), (12, 1), (30, 15), (12, 8), (42, 5), (50, 4), (56, 13), (57, 1), (8, 14), (11, 0)].map (fun p => (sy_wV[p.1]?).bind (fun L => L[p.2]?)) := rfl
set_option maxRecDepth 20000 in
theorem sy_t3_6 : ((sy_mi.drop 144).take 24).map sy_w3 = [(12, 5), (8, 21), (17, 19), (9, 8), (9, 11), (9, 16), (6, 14), (57, 22), (58, 6), (10, 6), (14, 10), (45, 14), (13, 13), (13, 17), (17, 0), (16, 8), (16, 4), (9, 4), (10, 2), (10, 15), (11, 7), (11, 16), (13, 9), (13, 4)].map (fun p => (sy_wV[p.1]?).bind (fun L => L[p.2]?)) := rfl
set_option maxRecDepth 20000 in
theorem sy_t3_7 : ((sy_mi.drop 168).take 24).map sy_w3 = [(14, 6), (14, 20), (16, 16), (16, 12), (16, 20), (18, 10), (18, 6), (17, 4), (25, 3), (16, 0), (18, 14), (18, 2), (19, 5), (19, 1), (25, 10), (24, 19), (26, 15), (26, 8), (26, 4), (26, 12), (25, 23), (27, 2), (26, 22), (26, 18)].map (fun p => (sy_wV[p.1]?).bind (fun L => L[p.2]?)) := rfl
set_option maxRecDepth 20000 in
theorem sy_t3_8 : ((sy_mi.drop 192).take 24).map sy_w3 = [(25, 20), (27, 10), (27, 6), (25, 6), (25, 14), (24, 15), (27, 20), (27, 14), (24, 11), (28, 0), (24, 5), (29, 11), (29, 7), (30, 7), (49, 16), (50, 20), (51, 0), (50, 16), (30, 19), (31, 3), (38, 22), (39, 1), (39, 4), (38, 17)].map (fun p => (sy_wV[p.1]?).bind (fun L => L[p.2]?)) := rfl
set_option maxRecDepth 20000 in
theorem sy_t3_9 : ((sy_mi.drop 216).take 24).map sy_w3 = [(39, 12), (39, 16), (39, 20), (40, 15), (40, 19), (40, 12), (39, 8), (40, 0), (40, 4), (40, 8), (40, 23), (41, 3), (41, 9), (38, 10), (38, 5), (41, 16), (46, 14), (46, 18), (47, 21), (47, 14), (47, 18), (48, 5), (46, 22), (47, 2)].map (fun p => (sy_wV[p.1]?).bind (fun L => L[p.2]?)) := rfl
set_option maxRecDepth 20000 in
theorem sy_t3_10 : ((sy_mi.drop 240).take 24).map sy_w3 = [(47, 6), (47, 10), (46, 10), (48, 12), (46, 6), (48, 8), (45, 23), (45, 18), (45, 8), (48, 22), (49, 7), (51, 13), (52, 18), (52, 14), (52, 9), (53, 4), (53, 13), (54, 6), (54, 16), (55, 18), (55, 14), (56, 5), (56, 17), (57, 10)].map (fun p => (sy_wV[p.1]?).bind (fun L => L[p.2]?)) := rfl
set_option maxRecDepth 20000 in
theorem sy_t3_11 : ((sy_mi.drop 264).take 24).map sy_w3 = [(57, 6), (58, 14), (58, 22), (15, 18), (32, 18), (33, 6), (33, 0), (33, 10), (33, 18), (33, 15), (34, 13), (34, 9), (34, 3), (34, 6), (19, 23), (37, 7), (33, 23)].map (fun p => (sy_wV[p.1]?).bind (fun L => L[p.2]?)) := rfl
set_option maxRecDepth 100000 in
theorem sy_t3_cut (q : Nat) (hq : q ∈ sy_mi) : q ∈ (sy_mi.drop 0).take 24 ∨ q ∈ (sy_mi.drop 24).take 24 ∨ q ∈ (sy_mi.drop 48).take 24 ∨ q ∈ (sy_mi.drop 72).take 24 ∨ q ∈ (sy_mi.drop 96).take 24 ∨ q ∈ (sy_mi.drop 120).take 24 ∨ q ∈ (sy_mi.drop 144).take 24 ∨ q ∈ (sy_mi.drop 168).take 24 ∨ q ∈ (sy_mi.drop 192).take 24 ∨ q ∈ (sy_mi.drop 216).take 24 ∨ q ∈ (sy_mi.drop 240).take 24 ∨ q ∈ (sy_mi.drop 264).take 24 := by
  have e : sy_mi = (sy_mi.drop 0).take 24 ++ (sy_mi.drop 24).take 24 ++ (sy_mi.drop 48).take 24 ++ (sy_mi.drop 72).take 24 ++ (sy_mi.drop 96).take 24 ++ (sy_mi.drop 120).take 24 ++ (sy_mi.drop 144).take 24 ++ (sy_mi.drop 168).take 24 ++ (sy_mi.drop 192).take 24 ++ (sy_mi.drop 216).take 24 ++ (sy_mi.drop 240).take 24 ++ (sy_mi.drop 264).take 24 := by decide +kernel
  rw [e] at hq
  simpa only [List.mem_append, or_assoc] using hq
theorem sy_t3 {q : Nat} (hq : q ∈ sy_mi) {w : Cond} (hw : sy_w3 q = some w) : w ∈ wsL_law := by
  rcases sy_t3_cut q hq with h | h | h | h | h | h | h | h | h | h | h | h
  · exact sy_mm sy_t3_0 h hw
  · exact sy_mm sy_t3_1 h hw
  · exact sy_mm sy_t3_2 h hw
  · exact sy_mm sy_t3_3 h hw
  · exact sy_mm sy_t3_4 h hw
  · exact sy_mm sy_t3_5 h hw
  · exact sy_mm sy_t3_6 h hw
  · exact sy_mm sy_t3_7 h hw
  · exact sy_mm sy_t3_8 h hw
  · exact sy_mm sy_t3_9 h hw
  · exact sy_mm sy_t3_10 h hw
  · exact sy_mm sy_t3_11 h hw
set_option maxRecDepth 20000 in
theorem sy_t4_0 : ((sy_mi.drop 0).take 24).map sy_w4 = [(1, 15), (1, 15), (1, 15), (1, 15), (1, 15), (1, 15), (1, 15), (1, 15), (1, 15), (1, 20), (1, 20), (1, 20), (2, 4), (2, 4), (2, 4), (31, 18), (1, 0), (1, 0), (1, 0), (1, 0), (1, 0), (1, 0), (1, 0), (1, 0)].map (fun p => (sy_wV[p.1]?).bind (fun L => L[p.2]?)) := rfl
set_option maxRecDepth 20000 in
theorem sy_t4_1 : ((sy_mi.drop 24).take 24).map sy_w4 = [(1, 0), (1, 0), (1, 0), (1, 0), (1, 0), (1, 0), (1, 0), (1, 0), (1, 0), (1, 0), (1, 0), (1, 0), (1, 0), (1, 0), (1, 0), (2, 0), (2, 0), (2, 0), (23, 23), (23, 23), (23, 23), (23, 23), (1, 8), (1, 8)].map (fun p => (sy_wV[p.1]?).bind (fun L => L[p.2]?)) := rfl
set_option maxRecDepth 20000 in
theorem sy_t4_2 : ((sy_mi.drop 48).take 24).map sy_w4 = [(1, 8), (1, 8), (1, 8), (1, 8), (1, 8), (1, 8), (1, 8), (1, 8), (1, 8), (0, 14), (0, 14), (0, 14), (0, 14), (0, 14), (0, 14), (0, 14), (0, 14), (0, 14), (0, 14), (0, 14), (0, 14), (0, 14), (0, 14), (0, 14)].map (fun p => (sy_wV[p.1]?).bind (fun L => L[p.2]?)) := rfl
set_option maxRecDepth 20000 in
theorem sy_t4_3 : ((sy_mi.drop 72).take 24).map sy_w4 = [(0, 14), (0, 14), (0, 14), (0, 14), (0, 14), (0, 14), (1, 4), (1, 4), (1, 4), (1, 4), (1, 4), (1, 4), (1, 4), (1, 4), (1, 4), (1, 4), (1, 4), (1, 4), (1, 4), (1, 4), (1, 4), (1, 4), (1, 4), (0, 2)].map (fun p => (sy_wV[p.1]?).bind (fun L => L[p.2]?)) := rfl
set_option maxRecDepth 20000 in
theorem sy_t4_4 : ((sy_mi.drop 96).take 24).map sy_w4 = [(0, 2), (0, 2), (0, 2), (0, 2), (0, 2), (0, 2), (0, 2), (0, 2), (0, 2), (0, 2), (0, 2), (0, 2), (0, 2), (0, 2), (0, 2), (0, 2), (0, 2), (0, 2), (0, 2), (0, 2), (0, 2), (0, 2), (0, 2), (0, 2)].map (fun p => (sy_wV[p.1]?).bind (fun L => L[p.2]?)) := rfl
set_option maxRecDepth 20000 in
theorem sy_t4_5 : ((sy_mi.drop 120).take 24).map sy_w4 = [(0, 2), (0, 2), (0, 2), (0, 2), (0, 2), (0, 2), (0, 2), (0, 2), (0, 2), (0, 2), (0, 2), (0, 2), (0, 2), (0, 2), (0, 2), (0, 2), (0, 2), (0, 2), (0, 2), (0, 2), (0, 2), (0, 2), (0, 2), (0, 2)].map (fun p => (sy_wV[p.1]?).bind (fun L => L[p.2]?)) := rfl
set_option maxRecDepth 20000 in
theorem sy_t4_6 : ((sy_mi.drop 144).take 24).map sy_w4 = [(0, 2), (0, 2), (0, 2), (0, 5), (0, 5), (0, 5), (0, 5), (0, 5), (0, 5), (0, 5), (0, 5), (0, 5), (0, 5), (0, 5), (0, 5), (0, 5), (0, 5), (0, 5), (0, 5), (0, 5), (0, 5), (0, 5), (0, 5), (0, 5)].map (fun p => (sy_wV[p.1]?).bind (fun L => L[p.2]?)) := rfl
set_option maxRecDepth 20000 in
theorem sy_t4_7 : ((sy_mi.drop 168).take 24).map sy_w4 = [(0, 5), (0, 5), (0, 5), (0, 5), (0, 5), (0, 5), (0, 5), (0, 5), (0, 5), (0, 5), (0, 5), (0, 5), (0, 5), (0, 5), (0, 5), (0, 5), (0, 5), (0, 5), (0, 5), (0, 5), (0, 5), (0, 5), (0, 5), (0, 5)].map (fun p => (sy_wV[p.1]?).bind (fun L => L[p.2]?)) := rfl
set_option maxRecDepth 20000 in
theorem sy_t4_8 : ((sy_mi.drop 192).take 24).map sy_w4 = [(0, 5), (0, 5), (0, 5), (0, 5), (0, 5), (0, 5), (0, 5), (0, 5), (0, 5), (0, 5), (0, 5), (0, 5), (0, 5), (0, 5), (0, 5), (0, 5), (0, 5), (0, 5), (0, 5), (0, 5), (0, 5), (0, 5), (0, 5), (0, 5)].map (fun p => (sy_wV[p.1]?).bind (fun L => L[p.2]?)) := rfl
set_option maxRecDepth 20000 in
theorem sy_t4_9 : ((sy_mi.drop 216).take 24).map sy_w4 = [(0, 5), (0, 5), (0, 5), (0, 5), (0, 5), (0, 5), (0, 5), (0, 5), (0, 5), (0, 5), (0, 5), (0, 5), (0, 5), (0, 5), (0, 5), (0, 5), (0, 5), (0, 5), (0, 5), (0, 5), (0, 5), (0, 5), (0, 5), (0, 5)].map (fun p => (sy_wV[p.1]?).bind (fun L => L[p.2]?)) := rfl
set_option maxRecDepth 20000 in
theorem sy_t4_10 : ((sy_mi.drop 240).take 24).map sy_w4 = [(0, 5), (0, 5), (0, 5), (0, 5), (0, 5), (0, 5), (0, 5), (0, 5), (0, 5), (0, 5), (0, 5), (0, 5), (0, 5), (0, 5), (0, 5), (0, 5), (0, 5), (0, 5), (0, 5), (0, 5), (0, 5), (0, 5), (0, 5), (0, 5)].map (fun p => (sy_wV[p.1]?).bind (fun L => L[p.2]?)) := rfl
set_option maxRecDepth 20000 in
theorem sy_t4_11 : ((sy_mi.drop 264).take 24).map sy_w4 = [(0, 5), (0, 5), (0, 5), (15, 17), (32, 19), (32, 19), (32, 19), (32, 19), (32, 19), (33, 14), (34, 2), (34, 2), (34, 2), (34, 2), (19, 22), (19, 22), (33, 22)].map (fun p => (sy_wV[p.1]?).bind (fun L => L[p.2]?)) := rfl
set_option maxRecDepth 100000 in
theorem sy_t4_cut (q : Nat) (hq : q ∈ sy_mi) : q ∈ (sy_mi.drop 0).take 24 ∨ q ∈ (sy_mi.drop 24).take 24 ∨ q ∈ (sy_mi.drop 48).take 24 ∨ q ∈ (sy_mi.drop 72).take 24 ∨ q ∈ (sy_mi.drop 96).take 24 ∨ q ∈ (sy_mi.drop 120).take 24 ∨ q ∈ (sy_mi.drop 144).take 24 ∨ q ∈ (sy_mi.drop 168).take 24 ∨ q ∈ (sy_mi.drop 192).take 24 ∨ q ∈ (sy_mi.drop 216).take 24 ∨ q ∈ (sy_mi.drop 240).take 24 ∨ q ∈ (sy_mi.drop 264).take 24 := by
  have e : sy_mi = (sy_mi.drop 0).take 24 ++ (sy_mi.drop 24).take 24 ++ (sy_mi.drop 48).take 24 ++ (sy_mi.drop 72).take 24 ++ (sy_mi.drop 96).take 24 ++ (sy_mi.drop 120).take 24 ++ (sy_mi.drop 144).take 24 ++ (sy_mi.drop 168).take 24 ++ (sy_mi.drop 192).take 24 ++ (sy_mi.drop 216).take 24 ++ (sy_mi.drop 240).take 24 ++ (sy_mi.drop 264).take 24 := by decide +kernel
  rw [e] at hq
  simpa only [List.mem_append, or_assoc] using hq
theorem sy_t4 {q : Nat} (hq : q ∈ sy_mi) {w : Cond} (hw : sy_w4 q = some w) : w ∈ wsL_law := by
  rcases sy_t4_cut q hq with h | h | h | h | h | h | h | h | h | h | h | h
  · exact sy_mm sy_t4_0 h hw
  · exact sy_mm sy_t4_1 h hw
  · exact sy_mm sy_t4_2 h hw
  · exact sy_mm sy_t4_3 h hw
  · exact sy_mm sy_t4_4 h hw
  · exact sy_mm sy_t4_5 h hw
  · exact sy_mm sy_t4_6 h hw
  · exact sy_mm sy_t4_7 h hw
  · exact sy_mm sy_t4_8 h hw
  · exact sy_mm sy_t4_9 h hw
  · exact sy_mm sy_t4_10 h hw
  · exact sy_mm sy_t4_11 h hw
set_option maxRecDepth 20000 in
theorem sy_cok_0 : ((sy_c.drop 0).take 24).map sy_cw = [(33, 20), (32, 22), (33, 8), (33, 12), (34, 0), (33, 16), (34, 10), (34, 7), (34, 4), (34, 11), (49, 5), (49, 10), (49, 14), (49, 18), (50, 14), (51, 2), (51, 11), (51, 15), (52, 7), (6, 12), (52, 20), (53, 2), (53, 6), (53, 11)].map (fun p => (sy_wV[p.1]?).bind (fun L => L[p.2]?)) := rfl
set_option maxRecDepth 20000 in
theorem sy_cok_1 : ((sy_c.drop 24).take 24).map sy_cw = [(53, 15), (8, 5), (54, 4), (54, 8), (54, 14), (54, 18), (55, 12), (55, 20), (56, 3), (56, 7), (56, 15), (56, 19), (57, 4), (57, 12), (57, 20), (58, 0), (58, 4), (58, 8), (58, 12), (58, 16), (58, 20), (9, 2), (9, 18), (10, 0)].map (fun p => (sy_wV[p.1]?).bind (fun L => L[p.2]?)) := rfl
set_option maxRecDepth 20000 in
theorem sy_cok_2 : ((sy_c.drop 48).take 24).map sy_cw = [(10, 8), (10, 13), (10, 17), (11, 5), (11, 9), (11, 14), (11, 18), (13, 2), (13, 19), (14, 4), (14, 12), (14, 18), (14, 22), (15, 22), (17, 5), (18, 0), (18, 15), (18, 23), (19, 7), (24, 3), (28, 2), (29, 5), (29, 13), (30, 5)].map (fun p => (sy_wV[p.1]?).bind (fun L => L[p.2]?)) := rfl
set_option maxRecDepth 20000 in
theorem sy_cok_3 : ((sy_c.drop 72).take 24).map sy_cw = [(30, 9), (30, 17), (30, 21), (31, 1), (31, 5), (38, 3), (41, 10), (0, 6), (41, 14), (41, 18), (45, 6), (48, 14), (48, 20), (49, 0), (43, 4), (43, 5), (43, 9), (44, 1), (44, 7), (44, 11), (44, 17), (42, 11), (42, 12), (43, 18)].map (fun p => (sy_wV[p.1]?).bind (fun L => L[p.2]?)) := rfl
set_option maxRecDepth 20000 in
theorem sy_cok_4 : ((sy_c.drop 96).take 24).map sy_cw = [(44, 20), (45, 0), (45, 4), (43, 1), (45, 5), (43, 2), (43, 3), (52, 1), (8, 12), (8, 15), (8, 19), (8, 22), (10, 22), (11, 1), (11, 23), (12, 3), (12, 6), (12, 10), (12, 18), (12, 22), (14, 0), (15, 2), (15, 6), (15, 11)].map (fun p => (sy_wV[p.1]?).bind (fun L => L[p.2]?)) := rfl
set_option maxRecDepth 20000 in
theorem sy_cok_5 : ((sy_c.drop 120).take 24).map sy_cw = [(15, 15), (17, 9), (17, 13), (17, 17), (18, 19), (19, 11), (21, 8), (28, 6), (28, 10), (28, 14), (29, 17), (30, 13), (31, 11), (37, 23), (41, 23), (42, 3), (42, 7), (49, 22), (50, 2), (51, 7), (51, 20), (53, 19), (55, 0), (56, 2)].map (fun p => (sy_wV[p.1]?).bind (fun L => L[p.2]?)) := rfl
set_option maxRecDepth 20000 in
theorem sy_cok_6 : ((sy_c.drop 144).take 24).map sy_cw = [(56, 11), (56, 23), (57, 16), (50, 6), (4, 21), (2, 8), (9, 6), (9, 9), (9, 14), (14, 8), (16, 6), (10, 4), (13, 11), (13, 15), (13, 7), (16, 14), (16, 22), (16, 2), (16, 10), (16, 18), (17, 2), (18, 4), (18, 8), (18, 12)].map (fun p => (sy_wV[p.1]?).bind (fun L => L[p.2]?)) := rfl
set_option maxRecDepth 20000 in
theorem sy_cok_7 : ((sy_c.drop 168).take 24).map sy_cw = [(19, 3), (25, 1), (25, 8), (26, 6), (26, 2), (26, 10), (26, 13), (27, 0), (25, 18), (25, 21), (26, 16), (26, 20), (27, 4), (24, 17), (25, 4), (25, 12), (27, 8), (27, 18), (24, 13), (27, 12), (24, 9), (27, 22), (29, 9), (50, 18)].map (fun p => (sy_wV[p.1]?).bind (fun L => L[p.2]?)) := rfl
set_option maxRecDepth 20000 in
theorem sy_cok_8 : ((sy_c.drop 192).take 24).map sy_cw = [(50, 22), (38, 20), (38, 23), (39, 2), (39, 10), (39, 18), (39, 14), (39, 22), (40, 2), (40, 6), (40, 10), (40, 13), (40, 17), (40, 21), (41, 1), (41, 7), (38, 15), (39, 6), (38, 8), (46, 12), (47, 16), (47, 19), (48, 3), (46, 16)].map (fun p => (sy_wV[p.1]?).bind (fun L => L[p.2]?)) := rfl
set_option maxRecDepth 20000 in
theorem sy_cok_9 : ((sy_c.drop 216).take 24).map sy_cw = [(47, 12), (47, 0), (47, 4), (47, 8), (46, 20), (46, 8), (48, 10), (46, 4), (48, 6), (45, 21), (45, 12), (45, 16), (52, 12), (52, 16), (55, 16), (57, 8), (55, 5), (55, 6), (55, 10), (55, 11), (34, 21), (35, 1), (35, 5), (36, 5)].map (fun p => (sy_wV[p.1]?).bind (fun L => L[p.2]?)) := rfl
set_option maxRecDepth 20000 in
theorem sy_cok_10 : ((sy_c.drop 240).take 24).map sy_cw = [(35, 9), (35, 12), (35, 16), (35, 21), (36, 1), (36, 9), (36, 13), (36, 17), (36, 21), (37, 2), (31, 19), (34, 17), (37, 5), (37, 16), (31, 23), (32, 8), (32, 2), (32, 5), (32, 13), (32, 16), (33, 4), (53, 23), (29, 4), (23, 15)].map (fun p => (sy_wV[p.1]?).bind (fun L => L[p.2]?)) := rfl
set_option maxRecDepth 20000 in
theorem sy_cok_11 : ((sy_c.drop 264).take 24).map sy_cw = [(23, 21), (21, 14), (21, 23), (28, 19), (28, 22), (29, 1), (22, 6), (22, 20), (22, 10), (22, 14), (23, 6), (23, 9), (23, 12), (12, 14), (15, 10), (50, 10), (21, 6), (20, 9), (20, 13), (20, 20), (21, 1), (21, 2), (21, 7), (30, 1)].map (fun p => (sy_wV[p.1]?).bind (fun L => L[p.2]?)) := rfl
set_option maxRecDepth 20000 in
theorem sy_cok_12 : ((sy_c.drop 288).take 24).map sy_cw = [(43, 17), (43, 13), (30, 2), (29, 21), (30, 3), (30, 4), (21, 19), (19, 20), (20, 0), (20, 1), (20, 8), (3, 10), (4, 0), (5, 8), (5, 18), (6, 1), (6, 8), (8, 14), (8, 14), (12, 5)].map (fun p => (sy_wV[p.1]?).bind (fun L => L[p.2]?)) := rfl
set_option maxRecDepth 100000 in
theorem sy_cok_cut (q : Nat × Nat × Nat × Nat × Nat) (hq : q ∈ sy_c) : q ∈ (sy_c.drop 0).take 24 ∨ q ∈ (sy_c.drop 24).take 24 ∨ q ∈ (sy_c.drop 48).take 24 ∨ q ∈ (sy_c.drop 72).take 24 ∨ q ∈ (sy_c.drop 96).take 24 ∨ q ∈ (sy_c.drop 120).take 24 ∨ q ∈ (sy_c.drop 144).take 24 ∨ q ∈ (sy_c.drop 168).take 24 ∨ q ∈ (sy_c.drop 192).take 24 ∨ q ∈ (sy_c.drop 216).take 24 ∨ q ∈ (sy_c.drop 240).take 24 ∨ q ∈ (sy_c.drop 264).take 24 ∨ q ∈ (sy_c.drop 288).take 24 := by
  have e : sy_c = (sy_c.drop 0).take 24 ++ (sy_c.drop 24).take 24 ++ (sy_c.drop 48).take 24 ++ (sy_c.drop 72).take 24 ++ (sy_c.drop 96).take 24 ++ (sy_c.drop 120).take 24 ++ (sy_c.drop 144).take 24 ++ (sy_c.drop 168).take 24 ++ (sy_c.drop 192).take 24 ++ (sy_c.drop 216).take 24 ++ (sy_c.drop 240).take 24 ++ (sy_c.drop 264).take 24 ++ (sy_c.drop 288).take 24 := by decide +kernel
  rw [e] at hq
  simpa only [List.mem_append, or_assoc] using hq
theorem sy_cok {q : Nat × Nat × Nat × Nat × Nat} (hq : q ∈ sy_c) {w : Cond} (hw : sy_cw q = some w) : w ∈ wsL_law := by
  rcases sy_cok_cut q hq with h | h | h | h | h | h | h | h | h | h | h | h | h
  · exact sy_mm sy_cok_0 h hw
  · exact sy_mm sy_cok_1 h hw
  · exact sy_mm sy_cok_2 h hw
  · exact sy_mm sy_cok_3 h hw
  · exact sy_mm sy_cok_4 h hw
  · exact sy_mm sy_cok_5 h hw
  · exact sy_mm sy_cok_6 h hw
  · exact sy_mm sy_cok_7 h hw
  · exact sy_mm sy_cok_8 h hw
  · exact sy_mm sy_cok_9 h hw
  · exact sy_mm sy_cok_10 h hw
  · exact sy_mm sy_cok_11 h hw
  · exact sy_mm sy_cok_12 h hw
