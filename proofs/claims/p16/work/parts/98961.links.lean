theorem sy_mm {β : Type} {big : List Cond} {L : List β} {P : List Nat} {f : β → Option Cond} (h : L.map f = P.map (fun i => big[i]?)) {q : β} (hq : q ∈ L) {w : Cond} (hw : f q = some w) : w ∈ big := by
  have h1 : some w ∈ L.map f := List.mem_map.mpr ⟨q, hq, hw⟩
  rw [h] at h1
  obtain ⟨i, -, hi⟩ := List.mem_map.mp h1
  exact List.mem_of_getElem? hi
def sy_fw (q : Nat × Nat × Nat × Nat) : Option Cond := match vwCl[q.2.2.1]? with
  | some r => some (.fieldLink (sy_cn q.1) q.2.1 r.1 (r.2.1 q.2.2.2).2.1 (r.2.1 q.2.2.2).2.2.1)
  | none => none
set_option maxRecDepth 20000 in
theorem sy_fok_0 : ((sy_f.drop 0).take 24).map sy_fw = [1030, 1031, 1032, 1054, 1055, 130, 1056, 1061, 1062, 131, 132, 133, 134, 135, 136, 1024, 1026, 1027, 1028, 1029, 141, 142, 143, 140].map (fun i => wsL_law[i]?) := rfl
set_option maxRecDepth 20000 in
theorem sy_fok_1 : ((sy_f.drop 24).take 24).map sy_fw = [15, 203, 239, 252, 261, 277, 16, 286, 335, 352, 353, 18, 753, 19, 754, 1006, 1170, 1171, 1230, 20, 1243, 1272, 1273, 1282].map (fun i => wsL_law[i]?) := rfl
set_option maxRecDepth 20000 in
theorem sy_fok_2 : ((sy_f.drop 48).take 24).map sy_fw = [1308, 1309, 21, 1318, 1319, 1344, 1345, 1371, 25, 29, 33, 34, 35, 36, 40, 41, 45, 49, 53, 55, 190, 191, 192, 193].map (fun i => wsL_law[i]?) := rfl
set_option maxRecDepth 20000 in
theorem sy_fok_3 : ((sy_f.drop 72).take 24).map sy_fw = [194, 195, 196, 160, 318, 161, 597, 598, 599, 162, 600, 625, 617, 616, 583, 163, 665, 164, 664, 584, 229, 165, 919, 926].map (fun i => wsL_law[i]?) := rfl
set_option maxRecDepth 20000 in
theorem sy_fok_4 : ((sy_f.drop 96).take 24).map sy_fw = [924, 166, 925, 167, 1106, 1105, 1107, 169, 1090, 170, 1100, 1091, 1259, 171, 172, 173, 174, 175, 176, 178, 179, 180, 181, 182].map (fun i => wsL_law[i]?) := rfl
set_option maxRecDepth 20000 in
theorem sy_fok_5 : ((sy_f.drop 120).take 24).map sy_fw = [183, 184, 185, 186, 187, 188, 189, 155, 1324, 1329, 154, 909, 910, 908, 85, 86, 87, 88, 89, 90, 91, 92, 93, 94].map (fun i => wsL_law[i]?) := rfl
set_option maxRecDepth 20000 in
theorem sy_fok_6 : ((sy_f.drop 144).take 24).map sy_fw = [84, 148, 149, 150, 147, 557, 572, 531, 532, 533, 122, 123, 124, 125, 126, 516, 517, 546, 547, 552, 61, 62, 63, 64].map (fun i => wsL_law[i]?) := rfl
set_option maxRecDepth 20000 in
theorem sy_fok_7 : ((sy_f.drop 168).take 24).map sy_fw = [65, 66, 67, 68, 69, 70, 72, 73, 74, 75, 76, 60, 486, 98, 487, 504, 99, 100, 101, 103, 104, 105, 106, 107].map (fun i => wsL_law[i]?) := rfl
set_option maxRecDepth 20000 in
theorem sy_fok_8 : ((sy_f.drop 192).take 24).map sy_fw = [108, 109, 110, 111, 112, 113, 114, 115, 116, 471, 473, 474, 475, 485].map (fun i => wsL_law[i]?) := rfl
set_option maxRecDepth 100000 in
theorem sy_fok_cut (q : Nat × Nat × Nat × Nat) (hq : q ∈ sy_f) : q ∈ (sy_f.drop 0).take 24 ∨ q ∈ (sy_f.drop 24).take 24 ∨ q ∈ (sy_f.drop 48).take 24 ∨ q ∈ (sy_f.drop 72).take 24 ∨ q ∈ (sy_f.drop 96).take 24 ∨ q ∈ (sy_f.drop 120).take 24 ∨ q ∈ (sy_f.drop 144).take 24 ∨ q ∈ (sy_f.drop 168).take 24 ∨ q ∈ (sy_f.drop 192).take 24 := by
  have e : sy_f = (sy_f.drop 0).take 24 ++ (sy_f.drop 24).take 24 ++ (sy_f.drop 48).take 24 ++ (sy_f.drop 72).take 24 ++ (sy_f.drop 96).take 24 ++ (sy_f.drop 120).take 24 ++ (sy_f.drop 144).take 24 ++ (sy_f.drop 168).take 24 ++ (sy_f.drop 192).take 24 := by decide +kernel
  rw [e] at hq
  simpa only [List.mem_append, or_assoc] using hq
theorem sy_fok {q : Nat × Nat × Nat × Nat} (hq : q ∈ sy_f) {w : Cond} (hw : sy_fw q = some w) : w ∈ wsL_law := by
  rcases sy_fok_cut q hq with h | h | h | h | h | h | h | h | h
  · exact sy_mm sy_fok_0 h hw
  · exact sy_mm sy_fok_1 h hw
  · exact sy_mm sy_fok_2 h hw
  · exact sy_mm sy_fok_3 h hw
  · exact sy_mm sy_fok_4 h hw
  · exact sy_mm sy_fok_5 h hw
  · exact sy_mm sy_fok_6 h hw
  · exact sy_mm sy_fok_7 h hw
  · exact sy_mm sy_fok_8 h hw
