/-! THE FIXED CELLS, as the two constructors make them: kind, size, what the slots hold (0 a reference, 1 an int, 2 a long, r + 3 the cell r; of an array one word for all). -/
noncomputable def shL0 : List (Nat × Nat × List Nat) := [(9, 18, [4, 15, 16, 1, 1, 1, 17, 23, 39, 1, 42, 58, 61, 65, 69, 72, 76, 79]), (7, 16, [5, 6, 1, 7, 1, 1, 8, 9, 10, 11, 1, 12, 1, 13, 1, 14]), (1000, 90, [1]), (1000, 9, [1]), (1000, 36, [1]), (1000, 128, [1]), (1000, 16, [1]), (1000, 48, [1]), (1000, 64, [1]), (1007, 8, [0]), (1000, 18, [1]), (1000, 60, [1]), (1006, 2, [0]), (1000, 400, [1]), (4, 11, [18, 19, 1, 1, 1, 20, 21, 1, 22, 1, 1]), (1000, 401, [1]), (1000, 401, [1]), (1000, 12, [1]), (1000, 12, [1]), (1000, 400, [1])]
noncomputable def shL1 : List (Nat × Nat × List Nat) := [(8, 18, [24, 25, 26, 27, 28, 29, 30, 31, 32, 33, 34, 35, 36, 37, 38, 1, 1, 1]), (1000, 145, [1]), (1000, 145, [1]), (1000, 145, [1]), (1000, 145, [1]), (1002, 145, [1]), (1002, 145, [1]), (1000, 435, [1]), (1000, 435, [1]), (1000, 435, [1]), (1000, 435, [1]), (1000, 435, [1]), (1000, 144, [1]), (1000, 16, [1]), (1000, 9, [1]), (1000, 8, [1]), (6, 5, [23, 40, 41, 2, 1]), (1005, 145, [0]), (1000, 580, [1]), (8, 18, [43, 44, 45, 46, 47, 48, 49, 50, 51, 52, 53, 54, 55, 56, 57, 1, 1, 1])]
noncomputable def shL2 : List (Nat × Nat × List Nat) := [(1000, 145, [1]), (1000, 145, [1]), (1000, 145, [1]), (1000, 145, [1]), (1002, 145, [1]), (1002, 145, [1]), (1000, 435, [1]), (1000, 435, [1]), (1000, 435, [1]), (1000, 435, [1]), (1000, 435, [1]), (1000, 144, [1]), (1000, 16, [1]), (1000, 9, [1]), (1000, 8, [1]), (6, 5, [42, 59, 60, 2, 1]), (1005, 145, [0]), (1000, 580, [1]), (0, 7, [62, 1, 2, 1, 63, 1, 64]), (1000, 12, [1])]
noncomputable def shL3 : List (Nat × Nat × List Nat) := [(1001, 11, [2]), (1001, 64, [2]), (0, 7, [66, 1, 2, 1, 67, 1, 68]), (1000, 12, [1]), (1001, 11, [2]), (1001, 64, [2]), (1, 4, [70, 1, 71, 1]), (1000, 6, [1]), (1000, 6, [1]), (5, 4, [73, 1, 74, 75]), (1000, 120, [1]), (1000, 121, [1]), (1000, 121, [1]), (2, 2, [77, 78]), (1000, 241, [1]), (1000, 241, [1]), (1001, 8, [2]), (10, 59, [1, 81, 82, 83, 84, 85, 1, 1, 1, 1, 86, 87, 88, 1, 1, 1, 89, 90, 91, 92, 93, 94, 95, 1, 1, 1, 96, 1, 97, 98, 99, 1, 1, 100, 101, 102, 1, 1, 1, 1, 1, 1, 1, 103, 104, 1, 1, 105, 1, 106, 107, 1, 108, 109, 110, 1, 111, 112, 113]), (1000, 6883, [1]), (1000, 13766, [1])]
noncomputable def shL4 : List (Nat × Nat × List Nat) := [(1002, 2, [1]), (1000, 1111, [1]), (1000, 3333, [1]), (1000, 3, [1]), (1000, 3, [1]), (1000, 3, [1]), (1001, 159984, [2]), (1000, 159984, [1]), (1002, 16, [1]), (1000, 16, [1]), (1000, 144, [1]), (1000, 384, [1]), (1000, 16, [1]), (1000, 17, [1]), (1003, 104, [1]), (1003, 400, [1]), (1000, 5, [1]), (1000, 401, [1]), (1000, 401, [1]), (1000, 401, [1])]
noncomputable def shL5 : List (Nat × Nat × List Nat) := [(1000, 9, [1]), (1000, 24, [1]), (1000, 24, [1]), (1000, 6, [1]), (1000, 6, [1]), (1000, 121, [1]), (1000, 121, [1]), (1000, 120, [1]), (1000, 7471, [1]), (1000, 192, [1]), (1000, 8, [1])]
noncomputable def shL : List (Nat × Nat × List Nat) := shL0 ++ shL1 ++ shL2 ++ shL3 ++ shL4 ++ shL5
theorem sc_0 : shL[0]? = some (9, 18, [4, 15, 16, 1, 1, 1, 17, 23, 39, 1, 42, 58, 61, 65, 69, 72, 76, 79]) := rfl
theorem sc_1 : shL[1]? = some (7, 16, [5, 6, 1, 7, 1, 1, 8, 9, 10, 11, 1, 12, 1, 13, 1, 14]) := rfl
theorem sc_2 : shL[2]? = some (1000, 90, [1]) := rfl
theorem sc_3 : shL[3]? = some (1000, 9, [1]) := rfl
theorem sc_4 : shL[4]? = some (1000, 36, [1]) := rfl
theorem sc_5 : shL[5]? = some (1000, 128, [1]) := rfl
theorem sc_6 : shL[6]? = some (1000, 16, [1]) := rfl
theorem sc_7 : shL[7]? = some (1000, 48, [1]) := rfl
theorem sc_8 : shL[8]? = some (1000, 64, [1]) := rfl
theorem sc_9 : shL[9]? = some (1007, 8, [0]) := rfl
theorem sc_10 : shL[10]? = some (1000, 18, [1]) := rfl
theorem sc_11 : shL[11]? = some (1000, 60, [1]) := rfl
theorem sc_12 : shL[12]? = some (1006, 2, [0]) := rfl
theorem sc_13 : shL[13]? = some (1000, 400, [1]) := rfl
theorem sc_14 : shL[14]? = some (4, 11, [18, 19, 1, 1, 1, 20, 21, 1, 22, 1, 1]) := rfl
theorem sc_15 : shL[15]? = some (1000, 401, [1]) := rfl
theorem sc_16 : shL[16]? = some (1000, 401, [1]) := rfl
theorem sc_17 : shL[17]? = some (1000, 12, [1]) := rfl
theorem sc_18 : shL[18]? = some (1000, 12, [1]) := rfl
theorem sc_19 : shL[19]? = some (1000, 400, [1]) := rfl
theorem sc_20 : shL[20]? = some (8, 18, [24, 25, 26, 27, 28, 29, 30, 31, 32, 33, 34, 35, 36, 37, 38, 1, 1, 1]) := rfl
theorem sc_21 : shL[21]? = some (1000, 145, [1]) := rfl
theorem sc_22 : shL[22]? = some (1000, 145, [1]) := rfl
theorem sc_23 : shL[23]? = some (1000, 145, [1]) := rfl
theorem sc_24 : shL[24]? = some (1000, 145, [1]) := rfl
theorem sc_25 : shL[25]? = some (1002, 145, [1]) := rfl
theorem sc_26 : shL[26]? = some (1002, 145, [1]) := rfl
theorem sc_27 : shL[27]? = some (1000, 435, [1]) := rfl
theorem sc_28 : shL[28]? = some (1000, 435, [1]) := rfl
theorem sc_29 : shL[29]? = some (1000, 435, [1]) := rfl
theorem sc_30 : shL[30]? = some (1000, 435, [1]) := rfl
theorem sc_31 : shL[31]? = some (1000, 435, [1]) := rfl
theorem sc_32 : shL[32]? = some (1000, 144, [1]) := rfl
theorem sc_33 : shL[33]? = some (1000, 16, [1]) := rfl
theorem sc_34 : shL[34]? = some (1000, 9, [1]) := rfl
theorem sc_35 : shL[35]? = some (1000, 8, [1]) := rfl
theorem sc_36 : shL[36]? = some (6, 5, [23, 40, 41, 2, 1]) := rfl
theorem sc_37 : shL[37]? = some (1005, 145, [0]) := rfl
theorem sc_38 : shL[38]? = some (1000, 580, [1]) := rfl
theorem sc_39 : shL[39]? = some (8, 18, [43, 44, 45, 46, 47, 48, 49, 50, 51, 52, 53, 54, 55, 56, 57, 1, 1, 1]) := rfl
theorem sc_40 : shL[40]? = some (1000, 145, [1]) := rfl
theorem sc_41 : shL[41]? = some (1000, 145, [1]) := rfl
theorem sc_42 : shL[42]? = some (1000, 145, [1]) := rfl
theorem sc_43 : shL[43]? = some (1000, 145, [1]) := rfl
theorem sc_44 : shL[44]? = some (1002, 145, [1]) := rfl
theorem sc_45 : shL[45]? = some (1002, 145, [1]) := rfl
theorem sc_46 : shL[46]? = some (1000, 435, [1]) := rfl
theorem sc_47 : shL[47]? = some (1000, 435, [1]) := rfl
theorem sc_48 : shL[48]? = some (1000, 435, [1]) := rfl
theorem sc_49 : shL[49]? = some (1000, 435, [1]) := rfl
theorem sc_50 : shL[50]? = some (1000, 435, [1]) := rfl
theorem sc_51 : shL[51]? = some (1000, 144, [1]) := rfl
theorem sc_52 : shL[52]? = some (1000, 16, [1]) := rfl
theorem sc_53 : shL[53]? = some (1000, 9, [1]) := rfl
theorem sc_54 : shL[54]? = some (1000, 8, [1]) := rfl
theorem sc_55 : shL[55]? = some (6, 5, [42, 59, 60, 2, 1]) := rfl
theorem sc_56 : shL[56]? = some (1005, 145, [0]) := rfl
theorem sc_57 : shL[57]? = some (1000, 580, [1]) := rfl
theorem sc_58 : shL[58]? = some (0, 7, [62, 1, 2, 1, 63, 1, 64]) := rfl
theorem sc_59 : shL[59]? = some (1000, 12, [1]) := rfl
theorem sc_60 : shL[60]? = some (1001, 11, [2]) := rfl
theorem sc_61 : shL[61]? = some (1001, 64, [2]) := rfl
theorem sc_62 : shL[62]? = some (0, 7, [66, 1, 2, 1, 67, 1, 68]) := rfl
theorem sc_63 : shL[63]? = some (1000, 12, [1]) := rfl
theorem sc_64 : shL[64]? = some (1001, 11, [2]) := rfl
theorem sc_65 : shL[65]? = some (1001, 64, [2]) := rfl
theorem sc_66 : shL[66]? = some (1, 4, [70, 1, 71, 1]) := rfl
theorem sc_67 : shL[67]? = some (1000, 6, [1]) := rfl
theorem sc_68 : shL[68]? = some (1000, 6, [1]) := rfl
theorem sc_69 : shL[69]? = some (5, 4, [73, 1, 74, 75]) := rfl
theorem sc_70 : shL[70]? = some (1000, 120, [1]) := rfl
theorem sc_71 : shL[71]? = some (1000, 121, [1]) := rfl
theorem sc_72 : shL[72]? = some (1000, 121, [1]) := rfl
theorem sc_73 : shL[73]? = some (2, 2, [77, 78]) := rfl
theorem sc_74 : shL[74]? = some (1000, 241, [1]) := rfl
theorem sc_75 : shL[75]? = some (1000, 241, [1]) := rfl
theorem sc_76 : shL[76]? = some (1001, 8, [2]) := rfl
theorem sc_77 : shL[77]? = some (10, 59, [1, 81, 82, 83, 84, 85, 1, 1, 1, 1, 86, 87, 88, 1, 1, 1, 89, 90, 91, 92, 93, 94, 95, 1, 1, 1, 96, 1, 97, 98, 99, 1, 1, 100, 101, 102, 1, 1, 1, 1, 1, 1, 1, 103, 104, 1, 1, 105, 1, 106, 107, 1, 108, 109, 110, 1, 111, 112, 113]) := rfl
theorem sc_78 : shL[78]? = some (1000, 6883, [1]) := rfl
theorem sc_79 : shL[79]? = some (1000, 13766, [1]) := rfl
theorem sc_80 : shL[80]? = some (1002, 2, [1]) := rfl
theorem sc_81 : shL[81]? = some (1000, 1111, [1]) := rfl
theorem sc_82 : shL[82]? = some (1000, 3333, [1]) := rfl
theorem sc_83 : shL[83]? = some (1000, 3, [1]) := rfl
theorem sc_84 : shL[84]? = some (1000, 3, [1]) := rfl
theorem sc_85 : shL[85]? = some (1000, 3, [1]) := rfl
theorem sc_86 : shL[86]? = some (1001, 159984, [2]) := rfl
theorem sc_87 : shL[87]? = some (1000, 159984, [1]) := rfl
theorem sc_88 : shL[88]? = some (1002, 16, [1]) := rfl
theorem sc_89 : shL[89]? = some (1000, 16, [1]) := rfl
theorem sc_90 : shL[90]? = some (1000, 144, [1]) := rfl
theorem sc_91 : shL[91]? = some (1000, 384, [1]) := rfl
theorem sc_92 : shL[92]? = some (1000, 16, [1]) := rfl
theorem sc_93 : shL[93]? = some (1000, 17, [1]) := rfl
theorem sc_94 : shL[94]? = some (1003, 104, [1]) := rfl
theorem sc_95 : shL[95]? = some (1003, 400, [1]) := rfl
theorem sc_96 : shL[96]? = some (1000, 5, [1]) := rfl
theorem sc_97 : shL[97]? = some (1000, 401, [1]) := rfl
theorem sc_98 : shL[98]? = some (1000, 401, [1]) := rfl
theorem sc_99 : shL[99]? = some (1000, 401, [1]) := rfl
theorem sc_100 : shL[100]? = some (1000, 9, [1]) := rfl
theorem sc_101 : shL[101]? = some (1000, 24, [1]) := rfl
theorem sc_102 : shL[102]? = some (1000, 24, [1]) := rfl
theorem sc_103 : shL[103]? = some (1000, 6, [1]) := rfl
theorem sc_104 : shL[104]? = some (1000, 6, [1]) := rfl
theorem sc_105 : shL[105]? = some (1000, 121, [1]) := rfl
theorem sc_106 : shL[106]? = some (1000, 121, [1]) := rfl
theorem sc_107 : shL[107]? = some (1000, 120, [1]) := rfl
theorem sc_108 : shL[108]? = some (1000, 7471, [1]) := rfl
theorem sc_109 : shL[109]? = some (1000, 192, [1]) := rfl
theorem sc_110 : shL[110]? = some (1000, 8, [1]) := rfl
/-- bounds of kept -/
noncomputable def rgK (i : Int) : Option (Int × Int) := if i < 0 then none else if i < 30 then some (0, 9) else if i < 60 then some (0, 60) else if i < 90 then some (0, 9) else if i < 99 then some (0, 1000) else if i < 135 then some (0, 255) else if i < 391 then (if (i - 135) % 16 < 1 then some (0, 8) else if (i - 135) % 16 < 9 then some (0, 29) else if (i - 135) % 16 < 12 then some (0, 7) else some (0, 100)) else if i < 409 then some (0, 300) else if i < 469 then some (0, 1000) else if i < 470 then some (0, 16) else if i < 471 then some (0, 12) else if i < 472 then some (0, 8) else if i < 473 then some (0, 6) else if i < 474 then some (0, 5) else if i < 475 then some (0, 3) else if i < 483 then some (0, 400) else none
/-- bounds of the numbers in the fixed cells -/
noncomputable def rg (c : Nat) (i : Int) : Option (Int × Int) := match c with
  | 0 => if i = 3 then some (0, 400) else if i = 9 then some (0, 1) else none
  | 1 => if i = 2 then some (0, 5) else if i = 4 then some (0, 12) else if i = 5 then some (0, 3) else if i = 10 then some (0, 16) else if i = 12 then some (0, 8) else if i = 14 then some (0, 6) else none
  | 2 => some (0, 60)
  | 3 => some (0, 1000)
  | 4 => some (0, 255)
  | 5 => some (0, 29)
  | 6 => some (0, 8)
  | 7 => some (0, 7)
  | 8 => some (0, 100)
  | 10 => some (0, 300)
  | 11 => some (0, 1000)
  | 13 => some (0, 255)
  | 14 => if i = 2 then some (0, 400) else if i = 3 then some (0, 511) else if i = 4 then some (0, 50) else if i = 7 then some (0, 12) else if i = 9 then some (0, 400) else none
  | 15 => some (0, 60000000)
  | 18 => some (0, 400)
  | 20 => if i = 15 then some (0, 145) else if i = 16 then some (0, 5) else if i = 17 then some (0, 3) else none
  | 21 => some ((-1), 144)
  | 22 => some ((-1), 144)
  | 25 => some (0, 1)
  | 26 => some (0, 1)
  | 28 => some ((-1), 7)
  | 29 => some (0, 7)
  | 32 => some (0, 144)
  | 33 => some (0, 8)
  | 34 => some (0, 1000)
  | 36 => if i = 4 then some (0, 1) else none
  | 39 => if i = 15 then some (0, 145) else if i = 16 then some (0, 5) else if i = 17 then some (0, 3) else none
  | 40 => some ((-1), 144)
  | 41 => some ((-1), 144)
  | 44 => some (0, 1)
  | 45 => some (0, 1)
  | 47 => some ((-1), 7)
  | 48 => some (0, 7)
  | 51 => some (0, 144)
  | 52 => some (0, 8)
  | 53 => some (0, 1000)
  | 55 => if i = 4 then some (0, 1) else none
  | 58 => if i = 1 then some (0, 12) else none
  | 62 => if i = 1 then some (0, 12) else none
  | 66 => if i = 1 then some (0, 6) else none
  | 69 => if i = 1 then some ((-1), 120) else none
  | 72 => some (0, 60)
  | 77 => if i = 9 then some (0, 1) else if i = 13 then some ((-1), 2) else if i = 14 then some (0, 1110) else if i = 23 then some (0, 1) else if i = 24 then some (0, 1) else if i = 25 then some (0, 1) else if i = 27 then some (0, 16) else if i = 31 then some (0, 400) else if i = 36 then some (0, 400) else if i = 37 then some (0, 400) else if i = 42 then some (0, 1) else if i = 45 then some (0, 24) else if i = 46 then some (0, 1110) else if i = 48 then some (0, 24) else if i = 51 then some (0, 6) else if i = 55 then some ((-1), 120) else none
  | 78 => rgK i
  | 79 => if i < 6883 then rgK i else rgK (i - 6883)
  | 80 => some (0, 1)
  | 81 => some (0, 3)
  | 82 => some (0, 9)
  | 84 => some ((-1), 7)
  | 85 => some ((-1), 11)
  | 88 => some (0, 1)
  | 89 => some (0, 8)
  | 90 => some (0, 143)
  | 92 => some (0, 24)
  | 93 => some (0, 143)
  | 94 => some ((-128), 127)
  | 95 => some ((-128), 127)
  | 99 => some (0, 400)
  | 104 => some (0, 5)
  | 106 => some (0, 60)
  | 110 => some (0, 24)
  | _ => none
theorem rk_load {i : Int} (h : 0 ≤ i ∧ i < 30) : rgK i = some (0, 9) := by
  unfold rgK
  rw [if_neg (show ¬ i < 0 by omega), if_pos (show i < 30 by omega)]
theorem rk_look {i : Int} (h : 30 ≤ i ∧ i < 60) : rgK i = some (0, 60) := by
  unfold rgK
  rw [if_neg (show ¬ i < 0 by omega), if_neg (show ¬ i < 30 by omega), if_pos (show i < 60 by omega)]
theorem rk_spare {i : Int} (h : 60 ≤ i ∧ i < 90) : rgK i = some (0, 9) := by
  unfold rgK
  rw [if_neg (show ¬ i < 0 by omega), if_neg (show ¬ i < 30 by omega), if_neg (show ¬ i < 60 by omega), if_pos (show i < 90 by omega)]
theorem rk_term {i : Int} (h : 90 ≤ i ∧ i < 99) : rgK i = some (0, 1000) := by
  unfold rgK
  rw [if_neg (show ¬ i < 0 by omega), if_neg (show ¬ i < 30 by omega), if_neg (show ¬ i < 60 by omega), if_neg (show ¬ i < 90 by omega), if_pos (show i < 99 by omega)]
theorem rk_opening {i : Int} (h : 99 ≤ i ∧ i < 135) : rgK i = some (0, 255) := by
  unfold rgK
  rw [if_neg (show ¬ i < 0 by omega), if_neg (show ¬ i < 30 by omega), if_neg (show ¬ i < 60 by omega), if_neg (show ¬ i < 90 by omega), if_neg (show ¬ i < 99 by omega), if_pos (show i < 135 by omega)]
theorem rk_len {i : Int} (h : 135 ≤ i ∧ i < 391 ∧ 0 ≤ (i - 135) % 16 ∧ (i - 135) % 16 < 1) : rgK i = some (0, 8) := by
  unfold rgK
  rw [if_neg (show ¬ i < 0 by omega), if_neg (show ¬ i < 30 by omega), if_neg (show ¬ i < 60 by omega), if_neg (show ¬ i < 90 by omega), if_neg (show ¬ i < 99 by omega), if_neg (show ¬ i < 135 by omega), if_pos (show i < 391 by omega), if_pos (show (i - 135) % 16 < 1 by omega)]
theorem rk_word {i : Int} (h : 135 ≤ i ∧ i < 391 ∧ 1 ≤ (i - 135) % 16 ∧ (i - 135) % 16 < 9) : rgK i = some (0, 29) := by
  unfold rgK
  rw [if_neg (show ¬ i < 0 by omega), if_neg (show ¬ i < 30 by omega), if_neg (show ¬ i < 60 by omega), if_neg (show ¬ i < 90 by omega), if_neg (show ¬ i < 99 by omega), if_neg (show ¬ i < 135 by omega), if_pos (show i < 391 by omega), if_neg (show ¬ (i - 135) % 16 < 1 by omega), if_pos (show (i - 135) % 16 < 9 by omega)]
theorem rk_val {i : Int} (h : 135 ≤ i ∧ i < 391 ∧ 9 ≤ (i - 135) % 16 ∧ (i - 135) % 16 < 12) : rgK i = some (0, 7) := by
  unfold rgK
  rw [if_neg (show ¬ i < 0 by omega), if_neg (show ¬ i < 30 by omega), if_neg (show ¬ i < 60 by omega), if_neg (show ¬ i < 90 by omega), if_neg (show ¬ i < 99 by omega), if_neg (show ¬ i < 135 by omega), if_pos (show i < 391 by omega), if_neg (show ¬ (i - 135) % 16 < 1 by omega), if_neg (show ¬ (i - 135) % 16 < 9 by omega), if_pos (show (i - 135) % 16 < 12 by omega)]
theorem rk_wgt {i : Int} (h : 135 ≤ i ∧ i < 391 ∧ 12 ≤ (i - 135) % 16 ∧ (i - 135) % 16 < 16) : rgK i = some (0, 100) := by
  unfold rgK
  rw [if_neg (show ¬ i < 0 by omega), if_neg (show ¬ i < 30 by omega), if_neg (show ¬ i < 60 by omega), if_neg (show ¬ i < 90 by omega), if_neg (show ¬ i < 99 by omega), if_neg (show ¬ i < 135 by omega), if_pos (show i < 391 by omega), if_neg (show ¬ (i - 135) % 16 < 1 by omega), if_neg (show ¬ (i - 135) % 16 < 9 by omega), if_neg (show ¬ (i - 135) % 16 < 12 by omega)]
theorem rk_box {i : Int} (h : 391 ≤ i ∧ i < 409) : rgK i = some (0, 300) := by
  unfold rgK
  rw [if_neg (show ¬ i < 0 by omega), if_neg (show ¬ i < 30 by omega), if_neg (show ¬ i < 60 by omega), if_neg (show ¬ i < 90 by omega), if_neg (show ¬ i < 99 by omega), if_neg (show ¬ i < 135 by omega), if_neg (show ¬ i < 391 by omega), if_pos (show i < 409 by omega)]
theorem rk_tired {i : Int} (h : 409 ≤ i ∧ i < 469) : rgK i = some (0, 1000) := by
  unfold rgK
  rw [if_neg (show ¬ i < 0 by omega), if_neg (show ¬ i < 30 by omega), if_neg (show ¬ i < 60 by omega), if_neg (show ¬ i < 90 by omega), if_neg (show ¬ i < 99 by omega), if_neg (show ¬ i < 135 by omega), if_neg (show ¬ i < 391 by omega), if_neg (show ¬ i < 409 by omega), if_pos (show i < 469 by omega)]
theorem rk_many {i : Int} (h : 469 ≤ i ∧ i < 470) : rgK i = some (0, 16) := by
  unfold rgK
  rw [if_neg (show ¬ i < 0 by omega), if_neg (show ¬ i < 30 by omega), if_neg (show ¬ i < 60 by omega), if_neg (show ¬ i < 90 by omega), if_neg (show ¬ i < 99 by omega), if_neg (show ¬ i < 135 by omega), if_neg (show ¬ i < 391 by omega), if_neg (show ¬ i < 409 by omega), if_neg (show ¬ i < 469 by omega), if_pos (show i < 470 by omega)]
theorem rk_openmany {i : Int} (h : 470 ≤ i ∧ i < 471) : rgK i = some (0, 12) := by
  unfold rgK
  rw [if_neg (show ¬ i < 0 by omega), if_neg (show ¬ i < 30 by omega), if_neg (show ¬ i < 60 by omega), if_neg (show ¬ i < 90 by omega), if_neg (show ¬ i < 99 by omega), if_neg (show ¬ i < 135 by omega), if_neg (show ¬ i < 391 by omega), if_neg (show ¬ i < 409 by omega), if_neg (show ¬ i < 469 by omega), if_neg (show ¬ i < 470 by omega), if_pos (show i < 471 by omega)]
theorem rk_told {i : Int} (h : 471 ≤ i ∧ i < 472) : rgK i = some (0, 8) := by
  unfold rgK
  rw [if_neg (show ¬ i < 0 by omega), if_neg (show ¬ i < 30 by omega), if_neg (show ¬ i < 60 by omega), if_neg (show ¬ i < 90 by omega), if_neg (show ¬ i < 99 by omega), if_neg (show ¬ i < 135 by omega), if_neg (show ¬ i < 391 by omega), if_neg (show ¬ i < 409 by omega), if_neg (show ¬ i < 469 by omega), if_neg (show ¬ i < 470 by omega), if_neg (show ¬ i < 471 by omega), if_pos (show i < 472 by omega)]
theorem rk_boxmany {i : Int} (h : 472 ≤ i ∧ i < 473) : rgK i = some (0, 6) := by
  unfold rgK
  rw [if_neg (show ¬ i < 0 by omega), if_neg (show ¬ i < 30 by omega), if_neg (show ¬ i < 60 by omega), if_neg (show ¬ i < 90 by omega), if_neg (show ¬ i < 99 by omega), if_neg (show ¬ i < 135 by omega), if_neg (show ¬ i < 391 by omega), if_neg (show ¬ i < 409 by omega), if_neg (show ¬ i < 469 by omega), if_neg (show ¬ i < 470 by omega), if_neg (show ¬ i < 471 by omega), if_neg (show ¬ i < 472 by omega), if_pos (show i < 473 by omega)]
theorem rk_order {i : Int} (h : 473 ≤ i ∧ i < 474) : rgK i = some (0, 5) := by
  unfold rgK
  rw [if_neg (show ¬ i < 0 by omega), if_neg (show ¬ i < 30 by omega), if_neg (show ¬ i < 60 by omega), if_neg (show ¬ i < 90 by omega), if_neg (show ¬ i < 99 by omega), if_neg (show ¬ i < 135 by omega), if_neg (show ¬ i < 391 by omega), if_neg (show ¬ i < 409 by omega), if_neg (show ¬ i < 469 by omega), if_neg (show ¬ i < 470 by omega), if_neg (show ¬ i < 471 by omega), if_neg (show ¬ i < 472 by omega), if_neg (show ¬ i < 473 by omega), if_pos (show i < 474 by omega)]
theorem rk_who {i : Int} (h : 474 ≤ i ∧ i < 475) : rgK i = some (0, 3) := by
  unfold rgK
  rw [if_neg (show ¬ i < 0 by omega), if_neg (show ¬ i < 30 by omega), if_neg (show ¬ i < 60 by omega), if_neg (show ¬ i < 90 by omega), if_neg (show ¬ i < 99 by omega), if_neg (show ¬ i < 135 by omega), if_neg (show ¬ i < 391 by omega), if_neg (show ¬ i < 409 by omega), if_neg (show ¬ i < 469 by omega), if_neg (show ¬ i < 470 by omega), if_neg (show ¬ i < 471 by omega), if_neg (show ¬ i < 472 by omega), if_neg (show ¬ i < 473 by omega), if_neg (show ¬ i < 474 by omega), if_pos (show i < 475 by omega)]
theorem rk_sizes {i : Int} (h : 475 ≤ i ∧ i < 483) : rgK i = some (0, 400) := by
  unfold rgK
  rw [if_neg (show ¬ i < 0 by omega), if_neg (show ¬ i < 30 by omega), if_neg (show ¬ i < 60 by omega), if_neg (show ¬ i < 90 by omega), if_neg (show ¬ i < 99 by omega), if_neg (show ¬ i < 135 by omega), if_neg (show ¬ i < 391 by omega), if_neg (show ¬ i < 409 by omega), if_neg (show ¬ i < 469 by omega), if_neg (show ¬ i < 470 by omega), if_neg (show ¬ i < 471 by omega), if_neg (show ¬ i < 472 by omega), if_neg (show ¬ i < 473 by omega), if_neg (show ¬ i < 474 by omega), if_neg (show ¬ i < 475 by omega), if_pos (show i < 483 by omega)]
theorem rk_no {i : Int} (h : 483 ≤ i) : rgK i = none := by
  unfold rgK
  rw [if_neg (show ¬ i < 0 by omega), if_neg (show ¬ i < 30 by omega), if_neg (show ¬ i < 60 by omega), if_neg (show ¬ i < 90 by omega), if_neg (show ¬ i < 99 by omega), if_neg (show ¬ i < 135 by omega), if_neg (show ¬ i < 391 by omega), if_neg (show ¬ i < 409 by omega), if_neg (show ¬ i < 469 by omega), if_neg (show ¬ i < 470 by omega), if_neg (show ¬ i < 471 by omega), if_neg (show ¬ i < 472 by omega), if_neg (show ¬ i < 473 by omega), if_neg (show ¬ i < 474 by omega), if_neg (show ¬ i < 475 by omega), if_neg (show ¬ i < 483 by omega)]
theorem rg79 {k i : Int} (hk : k = 0 ∨ k = 1) (hi : 0 ≤ i ∧ i < 6883) : rg 79 (6883 * k + i) = rgK i := by
  show (if 6883 * k + i < 6883 then rgK (6883 * k + i) else rgK (6883 * k + i - 6883)) = rgK i
  rcases hk with rfl | rfl
  · rw [if_pos (by omega)]; congr 1; omega
  · rw [if_neg (by omega)]; congr 1; omega
