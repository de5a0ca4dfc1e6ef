def sy_mk : List Nat := [2, 0, 0, 0, 0, 0, 0, 0, 1, 2, 0, 0, 2, 0, 1, 2, 2, 0, 0, 1, 1, 1, 1, 1, 0, 0, 0, 0, 0, 0, 0, 0, 0, 0, 0, 0, 0, 0, 0, 2, 0, 0, 1, 1, 1, 1, 2, 0, 0, 0, 0, 1, 0, 0, 0, 0, 0, 2, 0, 0, 0, 0, 0, 0, 0, 0, 0, 0, 0, 0, 0, 0, 0, 0, 0, 0, 0, 0, 2, 0, 0, 0, 0, 0, 0, 0, 0, 0, 0, 0, 0, 0, 0, 0, 0, 2, 0, 0, 0, 0, 0, 0, 0, 0, 0, 0, 0, 0, 0, 0, 0, 0, 0, 0, 0, 0, 0, 0, 0, 0, 0, 0, 0, 0, 0, 0, 0, 0, 0, 0, 0, 0, 0, 0, 0, 0, 0, 0, 0, 0, 0, 0, 1, 1, 1, 1, 1, 1, 0, 0, 2, 0, 0, 0, 0, 0, 0, 0, 0, 0, 0, 0, 0, 0, 0, 0, 0, 0, 0, 0, 0, 0, 0, 0, 0, 1, 1, 0, 1, 0, 0, 0, 0, 0, 1, 0, 0, 1, 0, 0, 0, 0, 1, 0, 0, 0, 0, 0, 0, 0, 0, 0, 0, 0, 0, 0, 0, 0, 0, 0, 0, 0, 1, 1, 0, 0, 0, 0, 0, 0, 0, 1, 0, 0, 0, 0, 0, 0, 0, 0, 0, 0, 0, 0, 0, 0, 0, 0, 0, 0, 0, 0, 0, 0, 0, 0, 0, 0, 0, 0, 0, 0, 0, 0, 0, 0, 0, 0, 0, 0, 0, 0, 0, 0, 0, 0, 0, 1, 0, 0, 0, 0, 1, 1, 1, 1, 1, 1, 1, 1, 1]
def sy_mi : List Nat := List.range 281
def sy_w1 (k : Nat) : Option Cond := match sy_m[k]? with
  | some t => some (.code t.2.1 t.2.2.1 t.2.2.2.1 t.2.2.2.2)
  | none => none
def sy_w2 (k : Nat) : Option Cond := match sy_m[k]? with
  | some t => if sy_mk[k]? = some 1 then some (.static t.2.1) else some (.instanceMethod t.2.1)
  | none => none
def sy_w3 (k : Nat) : Option Cond := match sy_m[k]? with
  | some t => if sy_mk[k]? = some 0 then some (.selects t.2.1.cls t.2.1 t.2.1) else some (.code t.2.1 t.2.2.1 t.2.2.2.1 t.2.2.2.2)
  | none => none
def sy_w4 (k : Nat) : Option Cond := match sy_m[k]? with
  | some t => some (.initialized t.2.1.cls)
  | none => none
def sy_cw (q : Nat × Nat × Nat × Nat × Nat) : Option Cond := match sy_m[q.2.2.2.1]? with
  | some t => if q.2.2.1 < 3 then some (.methodLink (sy_cn q.1) q.2.1 t.2.1) else some (.code t.2.1 t.2.2.1 t.2.2.2.1 t.2.2.2.2)
  | none => none
set_option maxRecDepth 20000 in
theorem sy_t1_0 : ((sy_mi.drop 0).take 24).map sy_w1 = [128, 1018, 1023, 1040, 1053, 1060, 1066, 1070, 1075, 138, 1247, 1252, 152, 1323, 1328, 906, 82, 758, 766, 769, 778, 783, 772, 775].map (fun i => wsL_law[i]?) := rfl
set_option maxRecDepth 20000 in
theorem sy_t1_1 : ((sy_mi.drop 24).take 24).map sy_w1 = [836, 848, 860, 864, 880, 884, 889, 888, 868, 876, 872, 844, 840, 855, 859, 145, 1294, 1298, 693, 576, 696, 699, 119, 515].map (fun i => wsL_law[i]?) := rfl
set_option maxRecDepth 20000 in
theorem sy_t1_2 : ((sy_mi.drop 48).take 24).map sy_w1 = [689, 537, 545, 563, 551, 571, 570, 577, 530, 58, 1387, 268, 309, 313, 914, 1234, 301, 339, 1010, 365, 1209, 1213, 369, 305].map (fun i => wsL_law[i]?) := rfl
set_option maxRecDepth 20000 in
theorem sy_t1_3 : ((sy_mi.drop 72).take 24).map sy_w1 = [492, 374, 424, 509, 420, 454, 96, 470, 484, 496, 503, 681, 685, 541, 1048, 1044, 720, 716, 526, 1201, 521, 1083, 1079, 8].map (fun i => wsL_law[i]?) := rfl
set_option maxRecDepth 20000 in
theorem sy_t1_4 : ((sy_mi.drop 96).take 24).map sy_w1 = [200, 237, 251, 260, 276, 285, 334, 351, 361, 416, 450, 466, 677, 712, 732, 744, 752, 997, 1005, 1169, 1179, 1189, 1197, 1229].map (fun i => wsL_law[i]?) := rfl
set_option maxRecDepth 20000 in
theorem sy_t1_5 : ((sy_mi.drop 120).take 24).map sy_w1 = [1242, 1271, 1281, 1290, 1307, 1317, 1343, 1354, 1366, 1383, 1395, 1403, 1411, 210, 217, 290, 736, 297, 1014, 1205, 1358, 1370, 206, 264].map (fun i => wsL_law[i]?) := rfl
set_option maxRecDepth 20000 in
theorem sy_t1_6 : ((sy_mi.drop 144).take 24).map sy_w1 = [293, 213, 427, 224, 228, 233, 158, 1391, 1399, 247, 347, 1095, 326, 330, 409, 393, 389, 221, 243, 256, 272, 281, 322, 317].map (fun i => wsL_law[i]?) := rfl
set_option maxRecDepth 20000 in
theorem sy_t1_7 : ((sy_mi.drop 168).take 24).map sy_w1 = [343, 357, 401, 397, 405, 443, 439, 412, 603, 385, 446, 435, 462, 458, 611, 596, 639, 633, 629, 636, 624, 651, 647, 643].map (fun i => wsL_law[i]?) := rfl
set_option maxRecDepth 20000 in
theorem sy_t1_8 : ((sy_mi.drop 192).take 24).map sy_w1 = [620, 659, 655, 607, 615, 592, 669, 663, 588, 673, 582, 708, 704, 728, 1193, 1221, 1225, 1217, 740, 748, 934, 937, 941, 930].map (fun i => wsL_law[i]?) := rfl
set_option maxRecDepth 20000 in
theorem sy_t1_9 : ((sy_mi.drop 216).take 24).map sy_w1 = [949, 953, 957, 976, 980, 972, 945, 961, 965, 969, 984, 990, 988, 923, 918, 1001, 1119, 1123, 1150, 1143, 1154, 1153, 1127, 1131].map (fun i => wsL_law[i]?) := rfl
set_option maxRecDepth 20000 in
theorem sy_t1_10 : ((sy_mi.drop 240).take 24).map sy_w1 = [1135, 1139, 1115, 1165, 1111, 1161, 1104, 1099, 1089, 1175, 1184, 1238, 1267, 1263, 1258, 1277, 1286, 1303, 1313, 1339, 1335, 1350, 1362, 1379].map (fun i => wsL_law[i]?) := rfl
set_option maxRecDepth 20000 in
theorem sy_t1_11 : ((sy_mi.drop 264).take 24).map sy_w1 = [1375, 1407, 1415, 378, 788, 799, 793, 803, 810, 807, 829, 825, 819, 822, 479, 895, 815].map (fun i => wsL_law[i]?) := rfl
set_option maxRecDepth 100000 in
theorem sy_t1_cut (q : Nat) (hq : q ∈ sy_mi) : q ∈ (sy_mi.drop 0).take 24 ∨ q ∈ (sy_mi.drop 24).take 24 ∨ q ∈ (sy_mi.drop 48).take 24 ∨ q ∈ (sy_mi.drop 72).take 24 ∨ q ∈ (sy_mi.drop 96).take 24 ∨ q ∈ (sy_mi.drop 120).take 24 ∨ q ∈ (sy_mi.drop 144).take 24 ∨ q ∈ (sy_mi.drop 168).take 24 ∨ q ∈ (sy_mi.drop 192).take 24 ∨ q ∈ (sy_mi.drop 216).take 24 ∨ q ∈ (sy_mi.drop 240).take 24 ∨ q ∈ (sy_mi.drop 264).take 24 := by
  have e : sy_mi = (sy_mi.drop 0).take 24 ++ (sy_mi.drop 24).take 24 ++ (sy_mi.drop 48).take 24 ++ (sy_mi.drop 72).take 24 ++ (sy_mi.drop 96).take 24 ++ (sy_mi.drop 120).take 24 ++ (sy_mi.drop 144).take 24 ++ (sy_mi.drop 168).take 24 ++ (sy_mi.drop 192).take 24 ++ (sy_mi.drop 216).take 24 ++ (sy_mi.drop 240).take 24 ++ (sy_mi.drop 264).take 24 := by decide +kernel
  rw [e] at hq
  simpa only [List.mem_append, or_assoc] using hq
theorem sy_t1 {q : Nat} (hq : q ∈ sy_mi) {w : Cond} (hw : sy_w1 q = some w) : w ∈ wsL_law := by
  rcases sy_t1_cut q hq with h | h | h | h | h | h | h | h | h | h | h | h
  · exact sy_mm sy_t1_0 h hw
  · exact sy_mm sy_t1_1 h hw
  · exact sy_mm sy_t1_2 h hw
  · exact sy_mm sy_t1_3 h hw
  · exact sy_mm sy_t1_4 h hw
  · exact sy_mm sy_t1_5 h hw
  · exact sy_mm sy_t1_6 h hw
  · exact sy_mm sy_t1_7 h hw
  · exact sy_mm sy_t1_8 h hw
  · exact sy_mm sy_t1_9 h hw
  · exact sy_mm sy_t1_10 h hw
  · exact sy_mm sy_t1_11 h hw
set_option maxRecDepth 20000 in
theorem sy_t2_0 : ((sy_mi.drop 0).take 24).map sy_w2 = [127, 1016, 1021, 1038, 1051, 1058, 1064, 1068, 1074, 137, 1245, 1250, 151, 1321, 1327, 905, 81, 756, 764, 768, 777, 782, 771, 774].map (fun i => wsL_law[i]?) := rfl
set_option maxRecDepth 20000 in
theorem sy_t2_1 : ((sy_mi.drop 24).take 24).map sy_w2 = [834, 846, 850, 862, 878, 882, 886, 891, 866, 874, 870, 842, 838, 853, 857, 144, 1292, 1296, 692, 574, 695, 698, 118, 513].map (fun i => wsL_law[i]?) := rfl
set_option maxRecDepth 20000 in
theorem sy_t2_2 : ((sy_mi.drop 48).take 24).map sy_w2 = [687, 535, 543, 562, 549, 565, 568, 559, 528, 57, 1385, 266, 307, 311, 912, 1232, 299, 337, 1008, 363, 1207, 1211, 367, 303].map (fun i => wsL_law[i]?) := rfl
set_option maxRecDepth 20000 in
theorem sy_t2_3 : ((sy_mi.drop 72).take 24).map sy_w2 = [490, 372, 422, 507, 418, 452, 95, 468, 482, 494, 501, 679, 683, 539, 1046, 1042, 718, 714, 524, 1199, 519, 1081, 1077, 7].map (fun i => wsL_law[i]?) := rfl
set_option maxRecDepth 20000 in
theorem sy_t2_4 : ((sy_mi.drop 96).take 24).map sy_w2 = [198, 235, 249, 258, 274, 283, 332, 349, 359, 414, 448, 464, 675, 710, 730, 742, 750, 995, 1003, 1167, 1177, 1187, 1195, 1227].map (fun i => wsL_law[i]?) := rfl
set_option maxRecDepth 20000 in
theorem sy_t2_5 : ((sy_mi.drop 120).take 24).map sy_w2 = [1240, 1269, 1279, 1288, 1305, 1315, 1341, 1352, 1364, 1381, 1393, 1401, 1409, 208, 215, 288, 734, 295, 1012, 1203, 1356, 1368, 205, 263].map (fun i => wsL_law[i]?) := rfl
set_option maxRecDepth 20000 in
theorem sy_t2_6 : ((sy_mi.drop 144).take 24).map sy_w2 = [292, 212, 426, 223, 226, 231, 157, 1389, 1397, 245, 345, 1093, 324, 328, 407, 391, 387, 219, 241, 254, 270, 279, 320, 315].map (fun i => wsL_law[i]?) := rfl
set_option maxRecDepth 20000 in
theorem sy_t2_7 : ((sy_mi.drop 168).take 24).map sy_w2 = [341, 355, 399, 395, 403, 441, 437, 411, 602, 383, 445, 433, 460, 456, 609, 594, 638, 631, 627, 635, 622, 649, 645, 641].map (fun i => wsL_law[i]?) := rfl
set_option maxRecDepth 20000 in
theorem sy_t2_8 : ((sy_mi.drop 192).take 24).map sy_w2 = [619, 657, 653, 605, 613, 590, 667, 661, 586, 671, 580, 706, 702, 726, 1191, 1219, 1223, 1215, 738, 746, 933, 936, 939, 928].map (fun i => wsL_law[i]?) := rfl
set_option maxRecDepth 20000 in
theorem sy_t2_9 : ((sy_mi.drop 216).take 24).map sy_w2 = [947, 951, 955, 974, 978, 971, 943, 959, 963, 967, 982, 986, 992, 921, 916, 999, 1117, 1121, 1148, 1141, 1145, 1156, 1125, 1129].map (fun i => wsL_law[i]?) := rfl
set_option maxRecDepth 20000 in
theorem sy_t2_10 : ((sy_mi.drop 240).take 24).map sy_w2 = [1133, 1137, 1113, 1163, 1109, 1159, 1102, 1097, 1087, 1173, 1182, 1236, 1265, 1261, 1256, 1275, 1284, 1301, 1311, 1337, 1333, 1348, 1360, 1377].map (fun i => wsL_law[i]?) := rfl
set_option maxRecDepth 20000 in
theorem sy_t2_11 : ((sy_mi.drop 264).take 24).map sy_w2 = [1373, 1405, 1413, 376, 785, 797, 791, 801, 809, 805, 828, 824, 817, 821, 477, 894, 813].map (fun i => wsL_law[i]?) := rfl
set_option maxRecDepth 100000 in
theorem sy_t2_cut (q : Nat) (hq : q ∈ sy_mi) : q ∈ (sy_mi.drop 0).take 24 ∨ q ∈ (sy_mi.drop 24).take 24 ∨ q ∈ (sy_mi.drop 48).take 24 ∨ q ∈ (sy_mi.drop 72).take 24 ∨ q ∈ (sy_mi.drop 96).take 24 ∨ q ∈ (sy_mi.drop 120).take 24 ∨ q ∈ (sy_mi.drop 144).take 24 ∨ q ∈ (sy_mi.drop 168).take 24 ∨ q ∈ (sy_mi.drop 192).take 24 ∨ q ∈ (sy_mi.drop 216).take 24 ∨ q ∈ (sy_mi.drop 240).take 24 ∨ q ∈ (sy_mi.drop 264).take 24 := by
  have e : sy_mi = (sy_mi.drop 0).take 24 ++ (sy_mi.drop 24).take 24 ++ (sy_mi.drop 48).take 24 ++ (sy_mi.drop 72).take 24 ++ (sy_mi.drop 96).take 24 ++ (sy_mi.drop 120).take 24 ++ (sy_mi.drop 144).take 24 ++ (sy_mi.drop 168).take 24 ++ (sy_mi.drop 192).take 24 ++ (sy_mi.drop 216).take 24 ++ (sy_mi.drop 240).take 24 ++ (sy_mi.drop 264).take 24 := by decide +kernel
  rw [e] at hq
  simpa only [List.mem_append, or_assoc] using hq
theorem sy_t2 {q : Nat} (hq : q ∈ sy_mi) {w : Cond} (hw : sy_w2 q = some w) : w ∈ wsL_law := by
  rcases sy_t2_cut q hq with h | h | h | h | h | h | h | h | h | h | h | h
  · exact sy_mm sy_t2_0 h hw
  · exact sy_mm sy_t2_1 h hw
  · exact sy_mm sy_t2_2 h hw
  · exact sy_mm sy_t2_3 h hw
  · exact sy_mm sy_t2_4 h hw
  · exact sy_mm sy_t2_5 h hw
  · exact sy_mm sy_t2_6 h hw
  · exact sy_mm sy_t2_7 h hw
  · exact sy_mm sy_t2_8 h hw
  · exact sy_mm sy_t2_9 h hw
  · exact sy_mm sy_t2_10 h hw
  · exact sy_mm sy_t2_11 h hw
set_option maxRecDepth 20000 in
theorem sy_t3_0 : ((sy_mi.drop 0).take 24).map sy_w3 = [128, 1017, 1022, 1039, 1052, 1059, 1065, 1069, 1075, 138, 1246, 1251, 152, 1322, 1328, 906, 82, 757, 765, 769, 778, 783, 772, 775].map (fun i => wsL_law[i]?) := rfl
set_option maxRecDepth 20000 in
theorem sy_t3_1 : ((sy_mi.drop 24).take 24).map sy_w3 = [835, 847, 851, 863, 879, 883, 887, 892, 867, 875, 871, 843, 839, 854, 858, 145, 1293, 1297, 693, 576, 696, 699, 119, 514].map (fun i => wsL_law[i]?) := rfl
set_option maxRecDepth 20000 in
theorem sy_t3_2 : ((sy_mi.drop 48).take 24).map sy_w3 = [688, 536, 544, 563, 550, 566, 569, 560, 529, 58, 1386, 267, 308, 312, 913, 1233, 300, 338, 1009, 364, 1208, 1212, 368, 304].map (fun i => wsL_law[i]?) := rfl
set_option maxRecDepth 20000 in
theorem sy_t3_3 : ((sy_mi.drop 72).take 24).map sy_w3 = [491, 373, 423, 508, 419, 453, 96, 469, 483, 495, 502, 680, 684, 540, 1047, 1043, 719, 715, 525, 1200, 520, 1082, 1078, 8].map (fun i => wsL_law[i]?) := rfl
set_option maxRecDepth 20000 in
theorem sy_t3_4 : ((sy_mi.drop 96).take 24).map sy_w3 = [199, 236, 250, 259, 275, 284, 333, 350, 360, 415, 449, 465, 676, 711, 731, 743, 751, 996, 1004, 1168, 1178, 1188, 1196, 1228].map (fun i => wsL_law[i]?) := rfl
set_option maxRecDepth 20000 in
theorem sy_t3_5 : ((sy_mi.drop 120).take 24).map sy_w3 = [1241, 1270, 1280, 1289, 1306, 1316, 1342, 1353, 1365, 1382, 1394, 1402, 1410, 209, 216, 289, 735, 296, 1013, 1204, 1357, 1369, 206, 264].map (fun i => wsL_law[i]?) := rfl
set_option maxRecDepth 20000 in
theorem sy_t3_6 : ((sy_mi.drop 144).take 24).map sy_w3 = [293, 213, 427, 224, 227, 232, 158, 1390, 1398, 246, 346, 1094, 325, 329, 408, 392, 388, 220, 242, 255, 271, 280, 321, 316].map (fun i => wsL_law[i]?) := rfl
set_option maxRecDepth 20000 in
theorem sy_t3_7 : ((sy_mi.drop 168).take 24).map sy_w3 = [342, 356, 400, 396, 404, 442, 438, 412, 603, 384, 446, 434, 461, 457, 610, 595, 639, 632, 628, 636, 623, 650, 646, 642].map (fun i => wsL_law[i]?) := rfl
set_option maxRecDepth 20000 in
theorem sy_t3_8 : ((sy_mi.drop 192).take 24).map sy_w3 = [620, 658, 654, 606, 614, 591, 668, 662, 587, 672, 581, 707, 703, 727, 1192, 1220, 1224, 1216, 739, 747, 934, 937, 940, 929].map (fun i => wsL_law[i]?) := rfl
set_option maxRecDepth 20000 in
theorem sy_t3_9 : ((sy_mi.drop 216).take 24).map sy_w3 = [948, 952, 956, 975, 979, 972, 944, 960, 964, 968, 983, 987, 993, 922, 917, 1000, 1118, 1122, 1149, 1142, 1146, 1157, 1126, 1130].map (fun i => wsL_law[i]?) := rfl
set_option maxRecDepth 20000 in
theorem sy_t3_10 : ((sy_mi.drop 240).take 24).map sy_w3 = [1134, 1138, 1114, 1164, 1110, 1160, 1103, 1098, 1088, 1174, 1183, 1237, 1266, 1262, 1257, 1276, 1285, 1302, 1312, 1338, 1334, 1349, 1361, 1378].map (fun i => wsL_law[i]?) := rfl
set_option maxRecDepth 20000 in
theorem sy_t3_11 : ((sy_mi.drop 264).take 24).map sy_w3 = [1374, 1406, 1414, 378, 786, 798, 792, 802, 810, 807, 829, 825, 819, 822, 479, 895, 815].map (fun i => wsL_law[i]?) := rfl
set_option maxRecDepth 100000 in
theorem sy_t3_cut (q : Nat) (hq : q ∈ sy_mi) : q ∈ (sy_mi.drop 0).take 24 ∨ q ∈ (sy_mi.drop 24).take 24 ∨ q ∈ (sy_mi.drop 48).take 24 ∨ q ∈ (sy_mi.drop 72).take 24 ∨ q ∈ (sy_mi.drop 96).take 24 ∨ q ∈ (sy_mi.drop 120).take 24 ∨ q ∈ (sy_mi.drop 144).take 24 ∨ q ∈ (sy_mi.drop 168).take 24 ∨ q ∈ (sy_mi.drop 192).take 24 ∨ q ∈ (sy_mi.drop 216).take 24 ∨ q ∈ (sy_mi.drop 240).take 24 ∨ q ∈ (sy_mi.drop 264).take 24 := by
  have e : sy_mi = (sy_mi.drop 0).take 24 ++ (sy_mi.drop 24).take 24 ++ (sy_mi.drop 48).take 24 ++ (sy_mi.drop 72).take 24 ++ (sy_mi.drop 96).take 24 ++ (sy_mi.drop 120).take 24 ++ (sy_mi.drop 144).take 24 ++ (sy_mi.drop 168).take 24 ++ (sy_mi.drop 192).take 24 ++ (sy_mi.drop 216).take 24 ++ (sy_mi.drop 240).take 24 ++ (sy_mi.drop 264).take 24 := by decide +kernel
  rw [e] at hq
  simpa only [List.mem_append, or_assoc] using hq
theorem sy_t3 {q : Nat} (hq : q ∈ sy_mi) {w : Cond} (hw : sy_w3 q = some w) : w ∈ wsL_law := by
  rcases sy_t3_cut q hq with h | h | h | h | h | h | h | h | h | h | h | h
  · exact sy_mm sy_t3_0 h hw
  · exact sy_mm sy_t3_1 h hw
  · exact sy_mm sy_t3_2 h hw
  · exact sy_mm sy_t3_3 h hw
  · exact sy_mm sy_t3_4 h hw
  · exact sy_mm sy_t3_5 h hw
  · exact sy_mm sy_t3_6 h hw
  · exact sy_mm sy_t3_7 h hw
  · exact sy_mm sy_t3_8 h hw
  · exact sy_mm sy_t3_9 h hw
  · exact sy_mm sy_t3_10 h hw
  · exact sy_mm sy_t3_11 h hw
set_option maxRecDepth 20000 in
theorem sy_t4_0 : ((sy_mi.drop 0).take 24).map sy_w4 = [39, 39, 39, 39, 39, 39, 39, 39, 39, 44, 44, 44, 52, 52, 52, 762, 24, 24, 24, 24, 24, 24, 24, 24].map (fun i => wsL_law[i]?) := rfl
set_option maxRecDepth 20000 in
theorem sy_t4_1 : ((sy_mi.drop 24).take 24).map sy_w4 = [24, 24, 24, 24, 24, 24, 24, 24, 24, 24, 24, 24, 24, 24, 24, 48, 48, 48, 575, 575, 575, 575, 32, 32].map (fun i => wsL_law[i]?) := rfl
set_option maxRecDepth 20000 in
theorem sy_t4_2 : ((sy_mi.drop 48).take 24).map sy_w4 = [32, 32, 32, 32, 32, 32, 32, 32, 32, 14, 14, 14, 14, 14, 14, 14, 14, 14, 14, 14, 14, 14, 14, 14].map (fun i => wsL_law[i]?) := rfl
set_option maxRecDepth 20000 in
theorem sy_t4_3 : ((sy_mi.drop 72).take 24).map sy_w4 = [14, 14, 14, 14, 14, 14, 28, 28, 28, 28, 28, 28, 28, 28, 28, 28, 28, 28, 28, 28, 28, 28, 28, 2].map (fun i => wsL_law[i]?) := rfl
set_option maxRecDepth 20000 in
theorem sy_t4_4 : ((sy_mi.drop 96).take 24).map sy_w4 = [2, 2, 2, 2, 2, 2, 2, 2, 2, 2, 2, 2, 2, 2, 2, 2, 2, 2, 2, 2, 2, 2, 2, 2].map (fun i => wsL_law[i]?) := rfl
set_option maxRecDepth 20000 in
theorem sy_t4_5 : ((sy_mi.drop 120).take 24).map sy_w4 = [2, 2, 2, 2, 2, 2, 2, 2, 2, 2, 2, 2, 2, 2, 2, 2, 2, 2, 2, 2, 2, 2, 2, 2].map (fun i => wsL_law[i]?) := rfl
set_option maxRecDepth 20000 in
theorem sy_t4_6 : ((sy_mi.drop 144).take 24).map sy_w4 = [2, 2, 2, 5, 5, 5, 5, 5, 5, 5, 5, 5, 5, 5, 5, 5, 5, 5, 5, 5, 5, 5, 5, 5].map (fun i => wsL_law[i]?) := rfl
set_option maxRecDepth 20000 in
theorem sy_t4_7 : ((sy_mi.drop 168).take 24).map sy_w4 = [5, 5, 5, 5, 5, 5, 5, 5, 5, 5, 5, 5, 5, 5, 5, 5, 5, 5, 5, 5, 5, 5, 5, 5].map (fun i => wsL_law[i]?) := rfl
set_option maxRecDepth 20000 in
theorem sy_t4_8 : ((sy_mi.drop 192).take 24).map sy_w4 = [5, 5, 5, 5, 5, 5, 5, 5, 5, 5, 5, 5, 5, 5, 5, 5, 5, 5, 5, 5, 5, 5, 5, 5].map (fun i => wsL_law[i]?) := rfl
set_option maxRecDepth 20000 in
theorem sy_t4_9 : ((sy_mi.drop 216).take 24).map sy_w4 = [5, 5, 5, 5, 5, 5, 5, 5, 5, 5, 5, 5, 5, 5, 5, 5, 5, 5, 5, 5, 5, 5, 5, 5].map (fun i => wsL_law[i]?) := rfl
set_option maxRecDepth 20000 in
theorem sy_t4_10 : ((sy_mi.drop 240).take 24).map sy_w4 = [5, 5, 5, 5, 5, 5, 5, 5, 5, 5, 5, 5, 5, 5, 5, 5, 5, 5, 5, 5, 5, 5, 5, 5].map (fun i => wsL_law[i]?) := rfl
set_option maxRecDepth 20000 in
theorem sy_t4_11 : ((sy_mi.drop 264).take 24).map sy_w4 = [5, 5, 5, 377, 787, 787, 787, 787, 787, 806, 818, 818, 818, 818, 478, 478, 814].map (fun i => wsL_law[i]?) := rfl
set_option maxRecDepth 100000 in
theorem sy_t4_cut (q : Nat) (hq : q ∈ sy_mi) : q ∈ (sy_mi.drop 0).take 24 ∨ q ∈ (sy_mi.drop 24).take 24 ∨ q ∈ (sy_mi.drop 48).take 24 ∨ q ∈ (sy_mi.drop 72).take 24 ∨ q ∈ (sy_mi.drop 96).take 24 ∨ q ∈ (sy_mi.drop 120).take 24 ∨ q ∈ (sy_mi.drop 144).take 24 ∨ q ∈ (sy_mi.drop 168).take 24 ∨ q ∈ (sy_mi.drop 192).take 24 ∨ q ∈ (sy_mi.drop 216).take 24 ∨ q ∈ (sy_mi.drop 240).take 24 ∨ q ∈ (sy_mi.drop 264).take 24 := by
  have e : sy_mi = (sy_mi.drop 0).take 24 ++ (sy_mi.drop 24).take 24 ++ (sy_mi.drop 48).take 24 ++ (sy_mi.drop 72).take 24 ++ (sy_mi.drop 96).take 24 ++ (sy_mi.drop 120).take 24 ++ (sy_mi.drop 144).take 24 ++ (sy_mi.drop 168).take 24 ++ (sy_mi.drop 192).take 24 ++ (sy_mi.drop 216).take 24 ++ (sy_mi.drop 240).take 24 ++ (sy_mi.drop 264).take 24 := by decide +kernel
  rw [e] at hq
  simpa only [List.mem_append, or_assoc] using hq
theorem sy_t4 {q : Nat} (hq : q ∈ sy_mi) {w : Cond} (hw : sy_w4 q = some w) : w ∈ wsL_law := by
  rcases sy_t4_cut q hq with h | h | h | h | h | h | h | h | h | h | h | h
  · exact sy_mm sy_t4_0 h hw
  · exact sy_mm sy_t4_1 h hw
  · exact sy_mm sy_t4_2 h hw
  · exact sy_mm sy_t4_3 h hw
  · exact sy_mm sy_t4_4 h hw
  · exact sy_mm sy_t4_5 h hw
  · exact sy_mm sy_t4_6 h hw
  · exact sy_mm sy_t4_7 h hw
  · exact sy_mm sy_t4_8 h hw
  · exact sy_mm sy_t4_9 h hw
  · exact sy_mm sy_t4_10 h hw
  · exact sy_mm sy_t4_11 h hw
set_option maxRecDepth 20000 in
theorem sy_cok_0 : ((sy_c.drop 0).take 24).map sy_cw = [812, 790, 800, 804, 816, 808, 826, 823, 820, 827, 1181, 1186, 1190, 1194, 1214, 1226, 1235, 1239, 1255, 156, 1268, 1274, 1278, 1283].map (fun i => wsL_law[i]?) := rfl
set_option maxRecDepth 20000 in
theorem sy_cok_1 : ((sy_c.drop 24).take 24).map sy_cw = [1287, 197, 1300, 1304, 1310, 1314, 1332, 1340, 1347, 1351, 1359, 1363, 1372, 1380, 1388, 1392, 1396, 1400, 1404, 1408, 1412, 218, 234, 240].map (fun i => wsL_law[i]?) := rfl
set_option maxRecDepth 20000 in
theorem sy_cok_2 : ((sy_c.drop 48).take 24).map sy_cw = [248, 253, 257, 269, 273, 278, 282, 314, 331, 340, 348, 354, 358, 382, 413, 432, 447, 455, 463, 579, 674, 701, 709, 725].map (fun i => wsL_law[i]?) := rfl
set_option maxRecDepth 20000 in
theorem sy_cok_3 : ((sy_c.drop 72).take 24).map sy_cw = [729, 737, 741, 745, 749, 915, 994, 6, 998, 1002, 1086, 1166, 1172, 1176, 1036, 1037, 1041, 1057, 1063, 1067, 1073, 1019, 1020, 1050].map (fun i => wsL_law[i]?) := rfl
set_option maxRecDepth 20000 in
theorem sy_cok_4 : ((sy_c.drop 96).take 24).map sy_cw = [1076, 1080, 1084, 1033, 1085, 1034, 1035, 1249, 204, 207, 211, 214, 262, 265, 287, 291, 294, 298, 306, 310, 336, 362, 366, 371].map (fun i => wsL_law[i]?) := rfl
set_option maxRecDepth 20000 in
theorem sy_cok_5 : ((sy_c.drop 120).take 24).map sy_cw = [375, 417, 421, 425, 451, 467, 512, 678, 682, 686, 713, 733, 755, 911, 1007, 1011, 1015, 1198, 1202, 1231, 1244, 1291, 1320, 1346].map (fun i => wsL_law[i]?) := rfl
set_option maxRecDepth 20000 in
theorem sy_cok_6 : ((sy_c.drop 144).take 24).map sy_cw = [1355, 1367, 1384, 1206, 117, 56, 222, 225, 230, 344, 390, 244, 323, 327, 319, 398, 406, 386, 394, 402, 410, 436, 440, 444].map (fun i => wsL_law[i]?) := rfl
set_option maxRecDepth 20000 in
theorem sy_cok_7 : ((sy_c.drop 168).take 24).map sy_cw = [459, 601, 608, 630, 626, 634, 637, 648, 618, 621, 640, 644, 652, 593, 604, 612, 656, 666, 589, 660, 585, 670, 705, 1218].map (fun i => wsL_law[i]?) := rfl
set_option maxRecDepth 20000 in
theorem sy_cok_8 : ((sy_c.drop 192).take 24).map sy_cw = [1222, 932, 935, 938, 946, 954, 950, 958, 962, 966, 970, 973, 977, 981, 985, 991, 927, 942, 920, 1116, 1144, 1147, 1155, 1120].map (fun i => wsL_law[i]?) := rfl
set_option maxRecDepth 20000 in
theorem sy_cok_9 : ((sy_c.drop 216).take 24).map sy_cw = [1140, 1128, 1132, 1136, 1124, 1112, 1162, 1108, 1158, 1101, 1092, 1096, 1260, 1264, 1336, 1376, 1325, 1326, 1330, 1331, 837, 841, 845, 869].map (fun i => wsL_law[i]?) := rfl
set_option maxRecDepth 20000 in
theorem sy_cok_10 : ((sy_c.drop 240).take 24).map sy_cw = [849, 852, 856, 861, 865, 873, 877, 881, 885, 890, 763, 833, 893, 904, 767, 776, 770, 773, 781, 784, 796, 1295, 700, 567].map (fun i => wsL_law[i]?) := rfl
set_option maxRecDepth 20000 in
theorem sy_cok_11 : ((sy_c.drop 264).take 24).map sy_cw = [573, 518, 527, 691, 694, 697, 534, 548, 538, 542, 558, 561, 564, 302, 370, 1210, 510, 489, 493, 500, 505, 506, 511, 721].map (fun i => wsL_law[i]?) := rfl
set_option maxRecDepth 20000 in
theorem sy_cok_12 : ((sy_c.drop 288).take 24).map sy_cw = [1049, 1045, 722, 717, 723, 724, 523, 476, 480, 481, 488, 82, 96, 128, 138, 145, 152, 206, 206, 293].map (fun i => wsL_law[i]?) := rfl
set_option maxRecDepth 100000 in
theorem sy_cok_cut (q : Nat × Nat × Nat × Nat × Nat) (hq : q ∈ sy_c) : q ∈ (sy_c.drop 0).take 24 ∨ q ∈ (sy_c.drop 24).take 24 ∨ q ∈ (sy_c.drop 48).take 24 ∨ q ∈ (sy_c.drop 72).take 24 ∨ q ∈ (sy_c.drop 96).take 24 ∨ q ∈ (sy_c.drop 120).take 24 ∨ q ∈ (sy_c.drop 144).take 24 ∨ q ∈ (sy_c.drop 168).take 24 ∨ q ∈ (sy_c.drop 192).take 24 ∨ q ∈ (sy_c.drop 216).take 24 ∨ q ∈ (sy_c.drop 240).take 24 ∨ q ∈ (sy_c.drop 264).take 24 ∨ q ∈ (sy_c.drop 288).take 24 := by
  have e : sy_c = (sy_c.drop 0).take 24 ++ (sy_c.drop 24).take 24 ++ (sy_c.drop 48).take 24 ++ (sy_c.drop 72).take 24 ++ (sy_c.drop 96).take 24 ++ (sy_c.drop 120).take 24 ++ (sy_c.drop 144).take 24 ++ (sy_c.drop 168).take 24 ++ (sy_c.drop 192).take 24 ++ (sy_c.drop 216).take 24 ++ (sy_c.drop 240).take 24 ++ (sy_c.drop 264).take 24 ++ (sy_c.drop 288).take 24 := by decide +kernel
  rw [e] at hq
  simpa only [List.mem_append, or_assoc] using hq
theorem sy_cok {q : Nat × Nat × Nat × Nat × Nat} (hq : q ∈ sy_c) {w : Cond} (hw : sy_cw q = some w) : w ∈ wsL_law := by
  rcases sy_cok_cut q hq with h | h | h | h | h | h | h | h | h | h | h | h | h
  · exact sy_mm sy_cok_0 h hw
  · exact sy_mm sy_cok_1 h hw
  · exact sy_mm sy_cok_2 h hw
  · exact sy_mm sy_cok_3 h hw
  · exact sy_mm sy_cok_4 h hw
  · exact sy_mm sy_cok_5 h hw
  · exact sy_mm sy_cok_6 h hw
  · exact sy_mm sy_cok_7 h hw
  · exact sy_mm sy_cok_8 h hw
  · exact sy_mm sy_cok_9 h hw
  · exact sy_mm sy_cok_10 h hw
  · exact sy_mm sy_cok_11 h hw
  · exact sy_mm sy_cok_12 h hw
