noncomputable def lwV : List (List Cond) := [k2_sels lw_privs, tables_1_1, tables_1_2, tables_1_3, tables_1_4, tables_1_5, tables_1_6, tables_1_7, tables_1_8]
theorem lwV_in : ∀ L ∈ lwV, ∀ w ∈ L, w ∈ lw_tbl := by
  have e : lw_tbl = lwV.flatten := by
    unfold lw_tbl tables_1 lwV
    simp only [List.flatten_cons, List.flatten_nil, List.append_nil]
  intro L hL w hw
  rw [e]
  exact List.mem_flatten.mpr ⟨L, hL, hw⟩
theorem goodIn_v {big : List Cond} {V : List (List Cond)} (hV : ∀ L ∈ V, ∀ w ∈ L, w ∈ big) (ws : List Cond) (ps : List (Nat × Nat)) (hp : ws = ps.filterMap (fun p => (V[p.1]?).bind (fun L => L[p.2]?))) (h : ws.all goodWord = true) : GoodIn big ws := by
  refine goodIn_sub (fun w hw => ?_) h
  rw [hp] at hw
  obtain ⟨p, -, hq⟩ := List.mem_filterMap.mp hw
  obtain ⟨L, h1, h2⟩ := Option.bind_eq_some_iff.mp hq
  exact hV L (List.mem_of_getElem? h1) w (List.mem_of_getElem? h2)
set_option maxRecDepth 20000 in
theorem sy_g_1 : GoodIn lw_tbl wsL_law_r1 := goodIn_v lwV_in _ [(1, 21), (1, 22), (1, 1), (5, 134), (5, 135), (1, 11), (1, 23), (1, 24), (1, 25), (1, 26), (1, 27), (1, 28), (1, 29), (1, 30), (1, 2), (2, 117), (2, 118), (1, 118), (2, 119), (2, 120), (2, 121), (2, 122), (1, 120), (1, 121)] rfl (by decide +kernel)
set_option maxRecDepth 20000 in
theorem sy_g_2 : GoodIn lw_tbl wsL_law_r2 := goodIn_v lwV_in _ [(1, 4), (2, 123), (1, 161), (1, 162), (1, 5), (2, 124), (2, 3), (2, 4), (1, 6), (2, 125), (2, 126), (2, 127), (2, 128), (2, 27), (2, 28), (1, 7), (2, 129), (2, 130), (2, 60), (2, 61), (1, 8), (2, 131), (2, 81), (2, 82)] rfl (by decide +kernel)
set_option maxRecDepth 20000 in
theorem sy_g_3 : GoodIn lw_tbl wsL_law_r3 := goodIn_v lwV_in _ [(1, 9), (2, 132), (2, 102), (2, 103), (1, 10), (2, 133), (2, 59), (2, 134), (1, 31), (1, 32), (1, 33), (1, 34), (1, 44), (1, 48), (1, 51), (1, 54), (1, 56), (1, 58), (1, 61), (1, 64), (1, 67), (1, 69), (1, 71), (1, 35)] rfl (by decide +kernel)
set_option maxRecDepth 20000 in
theorem sy_g_4 : GoodIn lw_tbl wsL_law_r4 := goodIn_v lwV_in _ [(1, 75), (1, 77), (1, 79), (1, 81), (1, 83), (1, 41), (1, 43), (1, 42), (1, 3), (1, 123), (1, 124), (1, 125), (1, 126), (1, 127), (1, 128), (1, 129), (1, 130), (1, 131), (1, 132), (1, 133), (1, 134), (1, 135), (1, 136), (1, 164)] rfl (by decide +kernel)
set_option maxRecDepth 20000 in
theorem sy_g_5 : GoodIn lw_tbl wsL_law_r5 := goodIn_v lwV_in _ [(1, 165), (1, 166), (1, 167), (1, 169), (1, 171), (1, 174), (2, 2), (1, 176), (1, 179), (1, 181), (1, 184), (1, 187), (1, 189), (1, 191), (1, 194), (1, 195), (1, 196), (1, 199), (1, 200), (1, 202), (1, 203), (2, 5), (2, 6), (2, 7)] rfl (by decide +kernel)
set_option maxRecDepth 20000 in
theorem sy_g_6 : GoodIn lw_tbl wsL_law_r6 := goodIn_v lwV_in _ [(2, 8), (2, 9), (2, 12), (2, 13), (2, 14), (2, 15), (2, 11), (2, 30), (2, 31), (2, 32), (2, 33), (2, 35), (2, 37), (2, 39), (2, 41), (2, 42), (2, 43), (2, 63), (2, 64), (2, 65), (2, 66), (2, 68), (2, 70), (2, 71)] rfl (by decide +kernel)
set_option maxRecDepth 20000 in
theorem sy_g_7 : GoodIn lw_tbl wsL_law_r7 := goodIn_v lwV_in _ [(2, 84), (2, 85), (2, 86), (2, 87), (2, 89), (2, 91), (2, 92), (2, 105), (2, 106), (2, 107), (2, 108), (2, 110), (5, 136), (5, 137), (5, 138), (5, 139), (5, 142), (5, 143), (5, 144), (5, 145), (5, 146), (5, 151), (5, 152), (5, 153)] rfl (by decide +kernel)
set_option maxRecDepth 20000 in
theorem sy_g_8 : GoodIn lw_tbl wsL_law_r8 := goodIn_v lwV_in _ [(5, 140), (5, 157), (5, 158), (5, 159), (5, 160), (5, 161), (5, 162), (5, 163), (5, 167), (4, 158), (5, 169), (5, 170), (5, 171), (5, 173), (5, 174), (5, 175), (5, 176), (5, 184), (5, 185), (5, 188), (5, 190), (5, 191), (5, 193), (5, 194)] rfl (by decide +kernel)
set_option maxRecDepth 20000 in
theorem sy_g_9 : GoodIn lw_tbl wsL_law_r9 := goodIn_v lwV_in _ [(5, 195), (5, 196), (5, 197), (5, 198), (5, 199), (2, 172), (2, 173), (2, 174), (2, 175), (2, 183), (2, 185), (1, 46), (2, 176), (2, 177), (2, 178), (2, 179), (2, 181), (0, 0), (2, 182), (2, 187), (2, 188), (2, 189), (2, 190), (2, 192)] rfl (by decide +kernel)
set_option maxRecDepth 20000 in
theorem sy_g_10 : GoodIn lw_tbl wsL_law_r10 := goodIn_v lwV_in _ [(0, 1), (2, 193), (6, 98), (6, 99), (6, 100), (6, 101), (6, 83), (6, 84), (6, 85), (6, 86), (6, 88), (0, 44), (6, 89), (5, 141), (6, 90), (6, 92), (0, 45), (6, 93), (2, 194), (2, 195), (2, 196), (2, 197), (2, 198), (1, 50)] rfl (by decide +kernel)
set_option maxRecDepth 20000 in
theorem sy_g_11 : GoodIn lw_tbl wsL_law_r11 := goodIn_v lwV_in _ [(6, 102), (6, 103), (6, 104), (6, 105), (6, 106), (6, 108), (0, 46), (6, 109), (2, 200), (2, 201), (2, 202), (2, 203), (1, 53), (6, 110), (6, 111), (6, 112), (6, 113), (2, 204), (2, 205), (2, 206), (2, 207), (1, 57), (2, 208), (2, 209)] rfl (by decide +kernel)
set_option maxRecDepth 20000 in
theorem sy_g_12 : GoodIn lw_tbl wsL_law_r12 := goodIn_v lwV_in _ [(2, 210), (2, 211), (2, 212), (2, 213), (2, 214), (6, 114), (6, 115), (6, 116), (6, 117), (2, 215), (2, 216), (2, 217), (2, 218), (1, 60), (6, 118), (6, 119), (6, 120), (6, 121), (2, 219), (2, 220), (2, 221), (2, 222), (1, 74), (2, 223)] rfl (by decide +kernel)
set_option maxRecDepth 20000 in
theorem sy_g_13 : GoodIn lw_tbl wsL_law_r13 := goodIn_v lwV_in _ [(2, 225), (0, 2), (2, 226), (2, 227), (2, 228), (2, 229), (2, 230), (2, 232), (0, 3), (2, 233), (2, 234), (2, 235), (2, 236), (2, 237), (2, 238), (3, 0), (0, 4), (3, 1), (3, 2), (3, 3), (3, 4), (3, 5), (3, 6), (3, 7)] rfl (by decide +kernel)
set_option maxRecDepth 20000 in
theorem sy_g_14 : GoodIn lw_tbl wsL_law_r14 := goodIn_v lwV_in _ [(3, 8), (3, 9), (6, 122), (6, 123), (6, 124), (6, 125), (5, 172), (6, 126), (6, 128), (0, 47), (6, 129), (6, 130), (6, 132), (0, 48), (6, 133), (6, 134), (6, 136), (0, 49), (6, 137), (3, 10), (3, 11), (3, 12), (3, 13), (1, 70)] rfl (by decide +kernel)
set_option maxRecDepth 20000 in
theorem sy_g_15 : GoodIn lw_tbl wsL_law_r15 := goodIn_v lwV_in _ [(3, 14), (3, 15), (3, 16), (3, 17), (6, 138), (6, 139), (6, 140), (6, 141), (6, 142), (6, 144), (0, 50), (6, 145), (3, 19), (3, 20), (3, 21), (3, 22), (1, 66), (1, 63), (6, 146), (6, 147), (6, 148), (6, 149), (3, 23), (3, 24)] rfl (by decide +kernel)
set_option maxRecDepth 20000 in
theorem sy_g_16 : GoodIn lw_tbl wsL_law_r16 := goodIn_v lwV_in _ [(3, 25), (3, 26), (3, 27), (3, 28), (3, 29), (3, 30), (3, 31), (3, 32), (3, 33), (3, 34), (3, 35), (3, 36), (3, 37), (3, 38), (3, 39), (3, 40), (3, 41), (1, 12), (3, 42), (3, 43), (3, 44), (3, 45), (6, 150), (6, 151)] rfl (by decide +kernel)
set_option maxRecDepth 20000 in
theorem sy_g_17 : GoodIn lw_tbl wsL_law_r17 := goodIn_v lwV_in _ [(6, 152), (6, 153), (6, 154), (6, 156), (0, 51), (6, 157), (6, 158), (6, 160), (0, 52), (6, 161), (6, 162), (6, 164), (0, 53), (6, 165), (6, 166), (6, 168), (0, 54), (6, 169), (6, 170), (6, 172), (0, 55), (6, 173), (6, 174), (6, 176)] rfl (by decide +kernel)
set_option maxRecDepth 20000 in
theorem sy_g_18 : GoodIn lw_tbl wsL_law_r18 := goodIn_v lwV_in _ [(0, 56), (6, 177), (6, 178), (6, 179), (6, 180), (3, 46), (3, 47), (3, 48), (3, 49), (3, 50), (3, 51), (3, 52), (3, 53), (3, 54), (3, 55), (3, 56), (3, 57), (3, 58), (3, 59), (3, 60), (3, 61), (3, 62), (1, 13), (3, 63)] rfl (by decide +kernel)
set_option maxRecDepth 20000 in
theorem sy_g_19 : GoodIn lw_tbl wsL_law_r19 := goodIn_v lwV_in _ [(6, 181), (6, 182), (6, 183), (6, 184), (6, 185), (6, 187), (0, 57), (6, 188), (6, 189), (6, 191), (0, 58), (6, 192), (6, 193), (6, 194), (6, 195), (3, 64), (3, 65), (3, 66), (3, 67), (3, 68), (3, 69), (3, 70), (3, 71), (6, 196)] rfl (by decide +kernel)
set_option maxRecDepth 20000 in
theorem sy_g_20 : GoodIn lw_tbl wsL_law_r20 := goodIn_v lwV_in _ [(6, 197), (6, 198), (6, 199), (6, 200), (6, 202), (0, 59), (6, 203), (3, 72), (3, 73), (3, 74), (3, 75), (3, 76), (3, 77), (3, 78), (3, 79), (1, 49), (3, 80), (1, 52), (1, 59), (1, 72), (3, 81), (3, 82), (1, 14), (3, 83)] rfl (by decide +kernel)
set_option maxRecDepth 20000 in
theorem sy_g_21 : GoodIn lw_tbl wsL_law_r21 := goodIn_v lwV_in _ [(3, 84), (3, 85), (3, 87), (0, 5), (3, 88), (1, 65), (1, 62), (1, 47), (3, 89), (3, 90), (3, 91), (3, 92), (3, 93), (3, 94), (3, 96), (0, 6), (3, 97), (3, 98), (3, 99), (3, 100), (3, 101), (3, 103), (0, 7), (3, 104)] rfl (by decide +kernel)
set_option maxRecDepth 20000 in
theorem sy_g_22 : GoodIn lw_tbl wsL_law_r22 := goodIn_v lwV_in _ [(1, 55), (3, 105), (3, 106), (3, 107), (3, 108), (3, 109), (3, 110), (3, 111), (3, 112), (3, 113), (3, 114), (3, 115), (1, 201), (1, 172), (3, 116), (3, 117), (3, 118), (3, 119), (3, 124), (3, 120), (3, 121), (3, 122), (3, 123), (3, 125)] rfl (by decide +kernel)
set_option maxRecDepth 20000 in
theorem sy_g_23 : GoodIn lw_tbl wsL_law_r23 := goodIn_v lwV_in _ [(3, 127), (0, 8), (3, 128), (1, 168), (1, 180), (1, 170), (3, 129), (3, 131), (0, 9), (3, 132), (3, 133), (3, 134), (3, 135), (3, 136), (3, 139), (3, 141), (0, 10), (3, 142), (1, 183), (1, 186), (3, 143), (3, 145), (0, 11), (3, 146)] rfl (by decide +kernel)
set_option maxRecDepth 20000 in
theorem sy_g_24 : GoodIn lw_tbl wsL_law_r24 := goodIn_v lwV_in _ [(1, 178), (3, 147), (3, 163), (3, 164), (3, 165), (1, 198), (3, 148), (3, 150), (0, 12), (3, 153), (3, 154), (3, 155), (3, 156), (3, 158), (0, 13), (3, 166), (3, 168), (0, 14), (3, 169), (3, 159), (1, 193), (3, 160), (3, 161), (1, 15)] rfl (by decide +kernel)
set_option maxRecDepth 20000 in
theorem sy_g_25 : GoodIn lw_tbl wsL_law_r25 := goodIn_v lwV_in _ [(3, 162), (3, 151), (3, 152), (6, 204), (6, 205), (6, 206), (6, 207), (5, 165), (5, 164), (6, 208), (6, 210), (0, 60), (6, 211), (6, 212), (6, 214), (0, 61), (6, 215), (6, 216), (6, 218), (0, 62), (6, 219), (5, 150), (5, 147), (5, 149)] rfl (by decide +kernel)
set_option maxRecDepth 20000 in
theorem sy_g_26 : GoodIn lw_tbl wsL_law_r26 := goodIn_v lwV_in _ [(5, 148), (6, 220), (6, 221), (6, 222), (6, 223), (6, 225), (0, 63), (6, 226), (6, 227), (6, 229), (0, 64), (6, 230), (6, 231), (6, 233), (0, 65), (6, 234), (5, 156), (5, 155), (6, 235), (6, 236), (6, 237), (6, 238), (7, 0), (0, 66)] rfl (by decide +kernel)
set_option maxRecDepth 20000 in
theorem sy_g_27 : GoodIn lw_tbl wsL_law_r27 := goodIn_v lwV_in _ [(7, 1), (5, 154), (7, 2), (7, 4), (0, 67), (7, 5), (7, 6), (7, 8), (0, 68), (7, 9), (7, 10), (7, 11), (7, 12), (7, 13), (7, 14), (7, 15), (7, 16), (7, 18), (0, 69), (7, 19), (7, 20), (7, 22), (0, 70), (7, 23)] rfl (by decide +kernel)
set_option maxRecDepth 20000 in
theorem sy_g_28 : GoodIn lw_tbl wsL_law_r28 := goodIn_v lwV_in _ [(7, 24), (7, 26), (0, 71), (7, 27), (7, 28), (7, 30), (0, 72), (7, 31), (7, 32), (7, 34), (0, 73), (7, 35), (7, 36), (7, 38), (0, 74), (7, 39), (5, 166), (5, 168), (7, 40), (7, 42), (0, 75), (7, 43), (7, 44), (7, 46)] rfl (by decide +kernel)
set_option maxRecDepth 20000 in
theorem sy_g_29 : GoodIn lw_tbl wsL_law_r29 := goodIn_v lwV_in _ [(0, 76), (7, 47), (3, 170), (3, 171), (3, 172), (3, 173), (3, 174), (3, 175), (3, 176), (3, 177), (3, 179), (3, 180), (3, 181), (3, 182), (3, 183), (3, 184), (3, 185), (3, 186), (3, 197), (3, 187), (3, 188), (3, 189), (3, 190), (3, 191)] rfl (by decide +kernel)
set_option maxRecDepth 20000 in
theorem sy_g_30 : GoodIn lw_tbl wsL_law_r30 := goodIn_v lwV_in _ [(3, 192), (3, 193), (3, 194), (3, 195), (3, 196), (7, 48), (7, 49), (7, 50), (7, 51), (7, 52), (7, 54), (0, 77), (7, 55), (3, 198), (3, 199), (3, 200), (3, 201), (3, 202), (3, 203), (3, 204), (3, 205), (3, 206), (3, 207), (3, 208)] rfl (by decide +kernel)
set_option maxRecDepth 20000 in
theorem sy_g_31 : GoodIn lw_tbl wsL_law_r31 := goodIn_v lwV_in _ [(3, 209), (3, 210), (3, 213), (3, 214), (3, 215), (7, 56), (7, 57), (7, 58), (7, 59), (3, 216), (3, 217), (3, 218), (3, 219), (3, 220), (3, 222), (0, 15), (3, 223), (7, 77), (7, 78), (7, 79), (7, 80), (3, 224), (3, 225), (3, 226)] rfl (by decide +kernel)
set_option maxRecDepth 20000 in
theorem sy_g_32 : GoodIn lw_tbl wsL_law_r32 := goodIn_v lwV_in _ [(3, 227), (7, 81), (7, 82), (7, 83), (7, 84), (3, 228), (3, 229), (3, 230), (3, 231), (1, 78), (1, 137), (3, 232), (3, 233), (3, 234), (3, 235), (3, 236), (4, 127), (4, 128), (1, 20), (3, 237), (3, 239), (0, 16), (4, 0), (4, 1)] rfl (by decide +kernel)
set_option maxRecDepth 20000 in
theorem sy_g_33 : GoodIn lw_tbl wsL_law_r33 := goodIn_v lwV_in _ [(4, 2), (4, 3), (4, 4), (4, 5), (4, 6), (4, 7), (4, 8), (4, 9), (4, 10), (4, 11), (4, 12), (4, 65), (4, 66), (4, 13), (4, 14), (4, 15), (4, 17), (4, 18), (4, 19), (1, 16), (4, 20), (8, 70), (4, 21), (4, 22)] rfl (by decide +kernel)
set_option maxRecDepth 20000 in
theorem sy_g_34 : GoodIn lw_tbl wsL_law_r34 := goodIn_v lwV_in _ [(4, 23), (4, 24), (4, 25), (8, 71), (4, 27), (4, 28), (4, 29), (4, 30), (4, 31), (4, 32), (4, 33), (4, 34), (4, 35), (4, 36), (1, 17), (4, 37), (4, 38), (4, 39), (4, 40), (4, 41), (4, 43), (4, 44), (1, 18), (4, 45)] rfl (by decide +kernel)
set_option maxRecDepth 20000 in
theorem sy_g_35 : GoodIn lw_tbl wsL_law_r35 := goodIn_v lwV_in _ [(4, 46), (4, 47), (1, 19), (4, 48), (4, 49), (4, 50), (4, 51), (4, 52), (4, 53), (4, 54), (4, 55), (4, 56), (4, 57), (4, 58), (4, 59), (4, 61), (4, 63), (4, 67), (4, 69), (0, 17), (4, 70), (4, 71), (4, 73), (0, 18)] rfl (by decide +kernel)
set_option maxRecDepth 20000 in
theorem sy_g_36 : GoodIn lw_tbl wsL_law_r36 := goodIn_v lwV_in _ [(4, 74), (4, 75), (4, 77), (0, 19), (4, 78), (4, 79), (4, 81), (0, 20), (4, 82), (4, 83), (4, 85), (0, 21), (4, 103), (4, 105), (0, 26), (4, 106), (4, 123), (4, 125), (0, 31), (4, 126), (4, 86), (4, 87), (4, 89), (0, 22)] rfl (by decide +kernel)
set_option maxRecDepth 20000 in
theorem sy_g_37 : GoodIn lw_tbl wsL_law_r37 := goodIn_v lwV_in _ [(4, 90), (4, 91), (4, 93), (0, 23), (4, 94), (4, 95), (4, 97), (0, 24), (4, 98), (4, 99), (4, 101), (0, 25), (4, 102), (4, 107), (4, 109), (0, 27), (4, 110), (4, 111), (4, 113), (0, 28), (4, 114), (4, 115), (4, 117), (0, 29)] rfl (by decide +kernel)
set_option maxRecDepth 20000 in
theorem sy_g_38 : GoodIn lw_tbl wsL_law_r38 := goodIn_v lwV_in _ [(4, 122), (4, 118), (4, 119), (4, 121), (0, 30), (4, 129), (4, 130), (4, 131), (4, 132), (4, 133), (4, 134), (4, 135), (4, 136), (4, 138), (4, 139), (4, 140), (4, 141), (4, 142), (4, 143), (4, 144), (4, 145), (4, 147), (4, 149), (4, 159)] rfl (by decide +kernel)
set_option maxRecDepth 20000 in
theorem sy_g_39 : GoodIn lw_tbl wsL_law_r39 := goodIn_v lwV_in _ [(4, 160), (4, 161), (4, 162), (7, 85), (7, 86), (7, 87), (7, 88), (5, 177), (7, 89), (7, 91), (0, 80), (7, 92), (5, 178), (5, 179), (5, 180), (7, 93), (7, 95), (0, 81), (7, 96), (7, 107), (7, 97), (7, 98), (7, 99), (7, 100)] rfl (by decide +kernel)
set_option maxRecDepth 20000 in
theorem sy_g_40 : GoodIn lw_tbl wsL_law_r40 := goodIn_v lwV_in _ [(7, 101), (7, 102), (7, 103), (7, 105), (0, 82), (7, 106), (7, 108), (7, 110), (0, 83), (7, 111), (7, 112), (7, 114), (0, 84), (7, 115), (7, 116), (7, 118), (0, 85), (7, 119), (7, 120), (7, 122), (0, 86), (7, 123), (7, 124), (7, 126)] rfl (by decide +kernel)
set_option maxRecDepth 20000 in
theorem sy_g_41 : GoodIn lw_tbl wsL_law_r41 := goodIn_v lwV_in _ [(0, 87), (7, 127), (7, 128), (7, 130), (0, 88), (7, 131), (7, 132), (7, 134), (0, 89), (7, 135), (7, 136), (7, 137), (7, 138), (7, 139), (7, 141), (0, 90), (7, 142), (7, 143), (7, 145), (0, 91), (7, 146), (7, 147), (7, 149), (0, 92)] rfl (by decide +kernel)
set_option maxRecDepth 20000 in
theorem sy_g_42 : GoodIn lw_tbl wsL_law_r42 := goodIn_v lwV_in _ [(7, 150), (7, 151), (7, 153), (0, 93), (7, 158), (7, 159), (7, 154), (7, 155), (7, 157), (0, 94), (4, 163), (4, 164), (4, 165), (4, 166), (7, 160), (7, 161), (7, 162), (7, 163), (4, 167), (4, 168), (4, 169), (4, 170), (1, 76), (4, 171)] rfl (by decide +kernel)
set_option maxRecDepth 20000 in
theorem sy_g_43 : GoodIn lw_tbl wsL_law_r43 := goodIn_v lwV_in _ [(4, 172), (4, 173), (4, 174), (4, 175), (4, 177), (0, 32), (4, 178), (4, 179), (4, 180), (4, 181), (4, 182), (4, 183), (4, 184), (4, 186), (0, 33), (4, 187), (1, 173), (4, 190), (1, 185), (1, 177), (1, 197), (1, 190), (1, 182), (1, 204)] rfl (by decide +kernel)
set_option maxRecDepth 20000 in
theorem sy_g_44 : GoodIn lw_tbl wsL_law_r44 := goodIn_v lwV_in _ [(1, 175), (4, 188), (4, 189), (4, 191), (4, 192), (4, 193), (4, 195), (0, 34), (4, 196), (4, 197), (4, 198), (4, 199), (4, 200), (4, 201), (4, 202), (4, 203), (4, 204), (4, 205), (4, 207), (4, 209), (0, 35), (4, 210), (4, 146), (4, 148)] rfl (by decide +kernel)
set_option maxRecDepth 20000 in
theorem sy_g_45 : GoodIn lw_tbl wsL_law_r45 := goodIn_v lwV_in _ [(4, 150), (4, 211), (4, 213), (0, 36), (4, 214), (1, 192), (1, 188), (4, 215), (4, 217), (0, 37), (4, 218), (4, 219), (4, 221), (0, 38), (4, 222), (4, 226), (4, 227), (4, 223), (4, 224), (4, 225), (4, 228), (4, 229), (4, 230), (4, 231)] rfl (by decide +kernel)
set_option maxRecDepth 20000 in
theorem sy_g_46 : GoodIn lw_tbl wsL_law_r46 := goodIn_v lwV_in _ [(4, 232), (4, 233), (4, 234), (4, 235), (4, 236), (4, 237), (7, 164), (7, 165), (7, 166), (7, 167), (5, 186), (5, 189), (7, 168), (7, 170), (0, 95), (7, 171), (7, 172), (7, 174), (0, 96), (7, 175), (5, 187), (7, 176), (7, 178), (0, 97)] rfl (by decide +kernel)
set_option maxRecDepth 20000 in
theorem sy_g_47 : GoodIn lw_tbl wsL_law_r47 := goodIn_v lwV_in _ [(7, 179), (5, 181), (5, 182), (5, 183), (7, 180), (7, 182), (0, 98), (7, 183), (7, 184), (7, 186), (0, 99), (7, 187), (7, 188), (7, 190), (0, 100), (7, 191), (7, 192), (7, 194), (0, 101), (7, 195), (7, 196), (7, 198), (0, 102), (7, 199)] rfl (by decide +kernel)
set_option maxRecDepth 20000 in
theorem sy_g_48 : GoodIn lw_tbl wsL_law_r48 := goodIn_v lwV_in _ [(7, 200), (7, 202), (0, 103), (7, 203), (7, 204), (7, 206), (0, 104), (7, 207), (7, 208), (7, 210), (0, 105), (7, 211), (7, 212), (7, 214), (0, 106), (7, 215), (7, 216), (7, 218), (0, 107), (7, 224), (7, 226), (0, 109), (7, 227), (7, 228)] rfl (by decide +kernel)
set_option maxRecDepth 20000 in
theorem sy_g_49 : GoodIn lw_tbl wsL_law_r49 := goodIn_v lwV_in _ [(7, 229), (7, 223), (7, 219), (7, 220), (7, 222), (0, 108), (7, 230), (7, 232), (0, 110), (7, 233), (7, 234), (7, 236), (0, 111), (7, 237), (4, 238), (4, 239), (5, 0), (5, 1), (2, 36), (2, 34), (7, 238), (7, 239), (8, 0), (8, 1)] rfl (by decide +kernel)
set_option maxRecDepth 20000 in
theorem sy_g_50 : GoodIn lw_tbl wsL_law_r50 := goodIn_v lwV_in _ [(5, 2), (5, 3), (5, 4), (5, 5), (5, 6), (8, 2), (8, 3), (8, 4), (8, 5), (7, 68), (5, 7), (5, 8), (5, 9), (5, 10), (7, 60), (7, 61), (7, 62), (7, 63), (5, 11), (5, 12), (5, 13), (5, 14), (5, 15), (5, 16)] rfl (by decide +kernel)
set_option maxRecDepth 20000 in
theorem sy_g_51 : GoodIn lw_tbl wsL_law_r51 := goodIn_v lwV_in _ [(5, 17), (5, 18), (5, 19), (5, 21), (0, 39), (5, 22), (5, 23), (5, 24), (5, 25), (5, 26), (5, 27), (5, 28), (5, 29), (5, 30), (7, 64), (7, 65), (7, 66), (7, 67), (7, 69), (7, 71), (0, 78), (7, 72), (7, 73), (7, 75)] rfl (by decide +kernel)
set_option maxRecDepth 20000 in
theorem sy_g_52 : GoodIn lw_tbl wsL_law_r52 := goodIn_v lwV_in _ [(0, 79), (7, 76), (5, 31), (5, 32), (5, 33), (5, 34), (1, 82), (5, 35), (5, 36), (5, 37), (5, 38), (8, 6), (8, 7), (8, 8), (8, 9), (5, 39), (5, 40), (5, 41), (5, 42), (1, 80), (5, 43), (5, 44), (5, 45), (5, 46)] rfl (by decide +kernel)
set_option maxRecDepth 20000 in
theorem sy_g_53 : GoodIn lw_tbl wsL_law_r53 := goodIn_v lwV_in _ [(5, 47), (5, 48), (5, 50), (0, 40), (5, 51), (5, 52), (5, 53), (8, 10), (8, 11), (8, 12), (8, 13), (5, 192), (8, 14), (8, 16), (0, 112), (8, 17), (8, 18), (8, 20), (0, 113), (8, 21), (5, 54), (5, 55), (5, 56), (5, 57)] rfl (by decide +kernel)
set_option maxRecDepth 20000 in
theorem sy_g_54 : GoodIn lw_tbl wsL_law_r54 := goodIn_v lwV_in _ [(2, 69), (2, 67), (8, 22), (8, 23), (8, 24), (8, 25), (5, 58), (5, 59), (5, 60), (5, 61), (1, 84), (8, 26), (8, 27), (8, 28), (8, 29), (5, 62), (5, 63), (5, 64), (5, 65), (5, 66), (5, 67), (5, 68), (5, 69), (5, 70)] rfl (by decide +kernel)
set_option maxRecDepth 20000 in
theorem sy_g_55 : GoodIn lw_tbl wsL_law_r55 := goodIn_v lwV_in _ [(5, 72), (0, 41), (5, 73), (5, 74), (8, 30), (8, 31), (8, 32), (8, 33), (5, 75), (5, 76), (5, 77), (5, 78), (2, 90), (2, 88), (8, 34), (8, 35), (8, 36), (8, 37), (5, 79), (5, 80), (5, 81), (5, 82), (2, 109), (2, 111)] rfl (by decide +kernel)
set_option maxRecDepth 20000 in
theorem sy_g_56 : GoodIn lw_tbl wsL_law_r56 := goodIn_v lwV_in _ [(5, 83), (5, 84), (5, 85), (5, 86), (1, 45), (5, 87), (5, 88), (5, 89), (5, 90), (1, 73), (5, 91), (5, 92), (8, 38), (8, 39), (8, 40), (8, 41), (8, 42), (8, 44), (0, 114), (8, 45), (5, 93), (5, 94), (5, 95), (5, 96)] rfl (by decide +kernel)
set_option maxRecDepth 20000 in
theorem sy_g_57 : GoodIn lw_tbl wsL_law_r57 := goodIn_v lwV_in _ [(1, 68), (2, 40), (5, 97), (8, 46), (8, 47), (8, 48), (8, 49), (5, 98), (5, 99), (5, 100), (5, 101), (5, 102), (5, 104), (0, 42), (5, 105), (8, 50), (8, 51), (8, 52), (8, 53), (5, 106), (5, 107), (5, 108), (5, 109), (5, 110)] rfl (by decide +kernel)
set_option maxRecDepth 20000 in
theorem sy_g_58 : GoodIn lw_tbl wsL_law_r58 := goodIn_v lwV_in _ [(5, 112), (0, 43), (5, 113), (2, 38), (8, 54), (8, 55), (8, 56), (8, 57), (8, 58), (8, 60), (0, 115), (8, 61), (5, 114), (5, 115), (5, 116), (5, 117), (5, 118), (5, 119), (5, 120), (5, 121), (6, 79), (6, 80), (6, 81), (6, 82)] rfl (by decide +kernel)
set_option maxRecDepth 20000 in
theorem sy_g_59 : GoodIn lw_tbl wsL_law_r59 := goodIn_v lwV_in _ [(5, 122), (5, 123), (5, 124), (5, 125), (6, 94), (6, 95), (6, 96), (6, 97), (5, 126), (5, 127), (5, 128), (5, 129), (8, 62), (8, 63), (8, 64), (8, 65), (5, 130), (5, 131), (5, 132), (5, 133), (8, 66), (8, 67), (8, 68), (8, 69)] rfl (by decide +kernel)
set_option maxRecDepth 20000 in
theorem sy_g_wsX100 : GoodIn lw_tbl wsX100 := goodIn_v lwV_in _ [(2, 135), (2, 137), (2, 139), (2, 141), (2, 143), (2, 145), (2, 147), (2, 149), (2, 151), (2, 153), (2, 155), (2, 157), (2, 159), (2, 161), (2, 163), (2, 165), (2, 167), (2, 169)] (by decide +kernel) (by decide +kernel)
set_option maxRecDepth 20000 in
theorem sy_g_wsX110 : GoodIn lw_tbl wsX110 := goodIn_v lwV_in _ [(5, 200), (5, 202), (5, 204), (5, 206), (5, 208), (5, 210), (5, 212), (5, 214), (5, 216), (5, 218), (5, 220), (5, 222), (5, 224), (5, 226), (5, 228), (5, 230), (5, 232), (5, 234), (5, 236), (5, 238), (6, 0), (6, 2), (6, 4), (6, 6), (6, 8), (6, 10), (6, 12), (6, 14), (6, 16), (6, 18), (6, 20), (6, 22), (6, 24), (6, 26), (6, 28), (6, 30), (6, 32), (6, 34), (6, 36), (6, 38), (6, 40), (6, 42), (6, 44), (6, 46), (6, 48), (6, 50), (6, 52), (6, 54), (6, 56), (6, 58), (6, 60), (6, 62), (6, 64), (6, 66), (6, 68), (6, 70), (6, 72), (6, 74), (6, 76)] (by decide +kernel) (by decide +kernel)
set_option maxRecDepth 20000 in
theorem sy_g_wsX80 : GoodIn lw_tbl wsX80 := goodIn_v lwV_in _ [(1, 85), (1, 87), (1, 89), (1, 91), (1, 93), (1, 95), (1, 97), (1, 99), (1, 101), (1, 103), (1, 105), (1, 107), (1, 109), (1, 111), (1, 113), (1, 115)] (by decide +kernel) (by decide +kernel)
set_option maxRecDepth 20000 in
theorem sy_g_wsX40 : GoodIn lw_tbl wsX40 := goodIn_v lwV_in _ [(1, 138), (1, 140), (1, 142), (1, 144), (1, 146), (1, 148), (1, 150), (1, 152), (1, 154), (1, 156), (1, 158)] (by decide +kernel) (by decide +kernel)
set_option maxRecDepth 20000 in
theorem sy_g_wsX90 : GoodIn lw_tbl wsX90 := goodIn_v lwV_in _ [(1, 205), (1, 207), (1, 209), (1, 211), (1, 213), (1, 215), (1, 217), (1, 219), (1, 221), (1, 223), (1, 225), (1, 227), (1, 229), (1, 231), (1, 233), (1, 235), (1, 237), (1, 239)] (by decide +kernel) (by decide +kernel)
set_option maxRecDepth 20000 in
theorem sy_g_wsX70 : GoodIn lw_tbl wsX70 := goodIn_v lwV_in _ [(2, 16), (2, 18), (2, 20), (2, 22), (2, 24)] (by decide +kernel) (by decide +kernel)
set_option maxRecDepth 20000 in
theorem sy_g_wsX00 : GoodIn lw_tbl wsX00 := goodIn_v lwV_in _ [(2, 44), (2, 46), (2, 48), (2, 50), (2, 52), (2, 54), (2, 56)] (by decide +kernel) (by decide +kernel)
set_option maxRecDepth 20000 in
theorem sy_g_wsX10 : GoodIn lw_tbl wsX10 := goodIn_v lwV_in _ [(2, 72), (2, 74), (2, 76), (2, 78)] (by decide +kernel) (by decide +kernel)
set_option maxRecDepth 20000 in
theorem sy_g_wsX50 : GoodIn lw_tbl wsX50 := goodIn_v lwV_in _ [(2, 93), (2, 95), (2, 97), (2, 99)] (by decide +kernel) (by decide +kernel)
set_option maxRecDepth 20000 in
theorem sy_g_wsX20 : GoodIn lw_tbl wsX20 := goodIn_v lwV_in _ [(2, 112), (2, 114)] (by decide +kernel) (by decide +kernel)
set_option maxRecDepth 20000 in
theorem sy_g_wsX30 : GoodIn lw_tbl wsX30 := goodIn_v lwV_in _ [(4, 151), (4, 153), (4, 155)] (by decide +kernel) (by decide +kernel)
theorem sy_good : GoodIn lw_tbl wsL_law := (goodIn_app (goodIn_app (goodIn_app (goodIn_app (goodIn_app (goodIn_app (goodIn_app (goodIn_app (goodIn_app (goodIn_app (goodIn_app (goodIn_app (goodIn_app sy_g_1 (goodIn_app sy_g_2 (goodIn_app sy_g_3 (goodIn_app sy_g_4 (goodIn_app sy_g_5 (goodIn_app sy_g_6 (goodIn_app sy_g_7 (goodIn_app sy_g_8 (goodIn_app sy_g_9 (goodIn_app sy_g_10 (goodIn_app sy_g_11 (goodIn_app sy_g_12 (goodIn_app sy_g_13 (goodIn_app sy_g_14 (goodIn_app sy_g_15 (goodIn_app sy_g_16 (goodIn_app sy_g_17 (goodIn_app sy_g_18 (goodIn_app sy_g_19 (goodIn_app sy_g_20 (goodIn_app sy_g_21 (goodIn_app sy_g_22 (goodIn_app sy_g_23 (goodIn_app sy_g_24 (goodIn_app sy_g_25 (goodIn_app sy_g_26 (goodIn_app sy_g_27 (goodIn_app sy_g_28 (goodIn_app sy_g_29 (goodIn_app sy_g_30 (goodIn_app sy_g_31 (goodIn_app sy_g_32 (goodIn_app sy_g_33 (goodIn_app sy_g_34 (goodIn_app sy_g_35 (goodIn_app sy_g_36 (goodIn_app sy_g_37 (goodIn_app sy_g_38 (goodIn_app sy_g_39 (goodIn_app sy_g_40 (goodIn_app sy_g_41 (goodIn_app sy_g_42 (goodIn_app sy_g_43 (goodIn_app sy_g_44 (goodIn_app sy_g_45 (goodIn_app sy_g_46 (goodIn_app sy_g_47 (goodIn_app sy_g_48 (goodIn_app sy_g_49 (goodIn_app sy_g_50 (goodIn_app sy_g_51 (goodIn_app sy_g_52 (goodIn_app sy_g_53 (goodIn_app sy_g_54 (goodIn_app sy_g_55 (goodIn_app sy_g_56 (goodIn_app sy_g_57 (goodIn_app sy_g_58 sy_g_59)))))))))))))))))))))))))))))))))))))))))))))))))))))))))) sy_g_wsX100) sy_g_wsX110) sy_g_wsX80) sy_g_wsX40) sy_g_wsX90) sy_g_wsX70) sy_g_wsX00) sy_g_wsX10) sy_g_wsX50) sy_g_wsX20) sy_g_wsX30) (fun _ h => absurd h List.not_mem_nil))
