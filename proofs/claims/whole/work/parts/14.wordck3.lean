/-- what the tables say of a method -/
def mm_at (i : Nat) (w : Cond) : Bool := decide (lw_tbl[i]? = some w) && goodWord w
theorem mm_at_in {i : Nat} {w : Cond} (h : mm_at i w = true) : w ∈ mm_MW := by
  unfold mm_at at h
  rw [Bool.and_eq_true] at h
  exact mm_MW_in (List.mem_of_getElem? (of_decide_eq_true h.1)) h.2
def mm_ckE (e : mm_Me) (q : Nat × Nat × Nat × Nat) : Bool := mm_at q.2.1 (.initialized e.1.cls) && decide (e.1.cls = mm_RN e.2.1) && decide (e.1.cls ≠ "java/lang/invoke/MethodHandle") && decide (e.1.cls ≠ "java/lang/invoke/VarHandle") && plainName e.1.cls && decide (e.2.2.2.1 ≤ 30) &&
  (if e.2.2.2.2.2.2.2 = true then mm_at q.2.2.1 (.static e.1) && decide ((parseMethodDescriptor e.1.desc).map (fun d => d.parameters.length) = some e.2.2.2.2.2.2.1) && !e.2.2.2.2.2.1
   else mm_at q.2.2.1 (.instanceMethod e.1) && decide ((parseMethodDescriptor e.1.desc).map (fun d => d.parameters.length) = some (e.2.2.2.2.2.2.1 - 1)) && decide (0 < e.2.2.2.2.2.2.1) && decide (e.2.1 < 10) && (if e.2.2.2.2.2.1 = true then decide (e.1.name = "<init>") && decide (e.2.2.2.2.1 = none) else mm_at q.2.2.2 (.selects e.1.cls e.1 e.1)))
def mm_ckEs (l : List mm_Me) (ps : List (Nat × Nat × Nat × Nat)) : Bool := match l, ps with
  | [], _ => true
  | e :: l', q :: ps' => mm_ckE e q && mm_ckEs l' ps'
  | _ :: _, [] => false
theorem mm_ckEs_in : ∀ (l : List mm_Me) (ps : List (Nat × Nat × Nat × Nat)), mm_ckEs l ps = true → ∀ e ∈ l, ∃ q, mm_ckE e q = true
  | [], _, _, e, h => by cases h
  | e0 :: l', q :: ps', h, e, he => by
    unfold mm_ckEs at h
    rw [Bool.and_eq_true] at h
    rcases List.mem_cons.mp he with z | z
    · subst z; exact ⟨q, h.1⟩
    · exact mm_ckEs_in l' ps' h.2 e z
  | _ :: _, [], h, _, _ => by cases h
set_option maxRecDepth 100000 in
theorem mm_ckE_0 : mm_ckEs mm_me0 [(121, 85, 120, 0), (535, 85, 533, 534), (112, 84, 111, 0), (502, 84, 500, 501), (543, 84, 541, 542), (564, 84, 562, 563), (573, 84, 571, 572), (605, 84, 603, 604), (926, 84, 924, 925), (621, 84, 619, 620), (314, 89, 313, 0), (832, 89, 830, 831), (836, 89, 834, 835), (841, 89, 840, 0), (344, 90, 343, 0), (954, 90, 952, 953), (950, 90, 948, 949), (976, 90, 974, 975), (968, 90, 967, 27), (961, 90, 960, 0), (957, 90, 956, 0), (226, 87, 225, 0), (530, 87, 528, 529), (539, 87, 537, 538), (549, 87, 548, 0)] = true := by decide +kernel
set_option maxRecDepth 100000 in
theorem mm_ckE_1 : mm_ckEs mm_me1 [(555, 87, 554, 0), (761, 87, 759, 760), (754, 87, 752, 753), (765, 87, 763, 764), (750, 87, 749, 9), (746, 87, 744, 745), (783, 87, 781, 782), (777, 87, 775, 776), (868, 87, 866, 867), (297, 88, 296, 0), (627, 88, 625, 626), (631, 88, 630, 4), (635, 88, 634, 5), (650, 88, 649, 6), (722, 88, 721, 7), (729, 88, 728, 8), (725, 88, 724, 0), (706, 88, 705, 0), (638, 88, 637, 0), (709, 88, 708, 0), (712, 88, 711, 0), (717, 88, 716, 0), (167, 86, 166, 0), (366, 91, 365, 0), (459, 91, 457, 458)] = true := by decide +kernel
set_option maxRecDepth 100000 in
theorem mm_ckE_2 : mm_ckEs mm_me2 [(455, 91, 453, 454), (463, 91, 461, 462), (483, 91, 481, 482), (440, 91, 438, 439), (506, 91, 504, 505), (467, 91, 465, 466), (472, 91, 471, 2), (494, 91, 492, 493), (664, 91, 662, 663), (104, 83, 103, 0), (429, 83, 427, 428), (447, 83, 445, 446), (476, 83, 474, 475), (490, 83, 488, 489), (498, 83, 496, 497), (510, 83, 508, 509), (514, 83, 512, 513), (560, 83, 558, 559), (569, 83, 567, 568), (577, 83, 575, 576), (581, 83, 579, 580), (586, 83, 584, 585), (590, 83, 588, 589), (594, 83, 592, 593), (610, 83, 608, 609)] = true := by decide +kernel
set_option maxRecDepth 100000 in
theorem mm_ckE_3 : mm_ckEs mm_me3 [(617, 83, 615, 616), (738, 83, 736, 737), (742, 83, 740, 741), (769, 83, 767, 768), (787, 83, 785, 786), (804, 83, 802, 803), (828, 83, 826, 827), (847, 83, 845, 846), (856, 83, 854, 855), (860, 83, 858, 859), (872, 83, 870, 871), (876, 83, 874, 875), (884, 83, 882, 883), (888, 83, 886, 887), (892, 83, 890, 891), (901, 83, 899, 900), (909, 83, 907, 908), (913, 83, 911, 912), (938, 83, 936, 937), (942, 83, 940, 941), (946, 83, 944, 945), (972, 83, 970, 971), (980, 83, 978, 979), (984, 83, 982, 983), (988, 83, 986, 987)] = true := by decide +kernel
set_option maxRecDepth 100000 in
theorem mm_ckE_4 : mm_ckEs mm_me4 [(436, 83, 435, 0), (432, 83, 431, 0), (517, 83, 516, 0), (597, 83, 596, 0), (520, 83, 519, 0), (613, 83, 612, 0), (479, 83, 478, 0), (451, 83, 450, 1), (526, 83, 525, 3), (773, 83, 772, 10), (812, 83, 811, 15), (820, 83, 819, 17), (824, 83, 823, 18), (851, 83, 850, 19), (791, 83, 790, 11), (795, 83, 794, 12), (799, 83, 798, 13), (808, 83, 807, 14), (816, 83, 815, 16), (864, 83, 863, 20), (880, 83, 879, 21), (896, 83, 895, 22), (905, 83, 904, 23), (917, 83, 916, 24), (921, 83, 920, 25)] = true := by decide +kernel
set_option maxRecDepth 100000 in
theorem mm_ckE_5 : mm_ckEs mm_me5 [(933, 83, 932, 26), (993, 92, 992, 0), (1184, 92, 1183, 29), (1456, 92, 1455, 73), (1180, 92, 1179, 28), (1204, 92, 1203, 30), (1268, 92, 1267, 40), (1224, 92, 1223, 33), (1176, 92, 1174, 1175), (1188, 92, 1186, 1187), (1192, 92, 1190, 1191), (1196, 92, 1194, 1195), (1200, 92, 1198, 1199), (1208, 92, 1206, 1207), (1212, 92, 1210, 1211), (1304, 92, 1303, 44), (1480, 92, 1479, 74), (1248, 92, 1247, 38), (1256, 92, 1255, 39), (1244, 92, 1242, 1243), (1252, 92, 1250, 1251), (1260, 92, 1258, 1259), (1264, 92, 1262, 1263), (1272, 92, 1270, 1271), (1276, 92, 1274, 1275)] = true := by decide +kernel
set_option maxRecDepth 100000 in
theorem mm_ckE_6 : mm_ckEs mm_me6 [(1284, 92, 1283, 41), (1288, 92, 1287, 42), (1292, 92, 1291, 43), (1280, 92, 1278, 1279), (1296, 92, 1294, 1295), (1324, 92, 1323, 49), (1320, 92, 1319, 48), (1328, 92, 1327, 50), (1336, 92, 1335, 52), (1332, 92, 1331, 51), (1340, 92, 1339, 53), (1316, 92, 1315, 47), (1312, 92, 1311, 46), (1308, 92, 1307, 45), (1300, 92, 1298, 1299), (1344, 92, 1342, 1343), (1216, 92, 1215, 31), (1220, 92, 1219, 32), (1236, 92, 1235, 36), (1232, 92, 1231, 35), (1228, 92, 1227, 34), (1240, 92, 1239, 37), (1364, 92, 1363, 57), (1352, 92, 1351, 54), (1372, 92, 1371, 59)] = true := by decide +kernel
set_option maxRecDepth 100000 in
theorem mm_ckE_7 : mm_ckEs mm_me7 [(1360, 92, 1359, 56), (1368, 92, 1367, 58), (1356, 92, 1355, 55), (1388, 92, 1387, 62), (1384, 92, 1383, 61), (1380, 92, 1379, 60), (1416, 92, 1415, 67), (1408, 92, 1407, 65), (1452, 92, 1451, 72), (1420, 92, 1419, 68), (1348, 92, 1346, 1347), (1376, 92, 1374, 1375), (1396, 92, 1395, 63), (1392, 92, 1390, 1391), (1404, 92, 1403, 64), (1412, 92, 1411, 66), (1400, 92, 1398, 1399), (1428, 92, 1427, 69), (1424, 92, 1422, 1423), (1436, 92, 1435, 70), (1432, 92, 1430, 1431), (1440, 92, 1438, 1439), (1448, 92, 1447, 71), (1444, 92, 1442, 1443), (1460, 92, 1458, 1459)] = true := by decide +kernel
set_option maxRecDepth 100000 in
theorem mm_ckE_8 : mm_ckEs mm_me8 [(1464, 92, 1462, 1463), (1468, 92, 1466, 1467), (1472, 92, 1470, 1471), (1476, 92, 1474, 1475), (1484, 92, 1482, 1483), (1488, 92, 1486, 1487), (1504, 92, 1503, 77), (1500, 92, 1499, 76), (1496, 92, 1495, 75), (1492, 92, 1490, 1491), (1509, 92, 1507, 1508), (1513, 92, 1511, 1512), (1525, 92, 1524, 79), (1521, 92, 1520, 78), (1529, 92, 1528, 80), (1533, 92, 1532, 81), (1517, 92, 1515, 1516), (1537, 92, 1535, 1536), (1541, 92, 1539, 1540), (1545, 92, 1543, 1544), (1549, 92, 1547, 1548), (443, 93, 442, 0)] = true := by decide +kernel
theorem mm_me_ck {mi : Nat} {e : mm_Me} (h : mm_me mi = some e) : ∃ q, mm_ckE e q = true := by
  unfold mm_me at h
  split at h
  · exact mm_ckEs_in _ _ mm_ckE_0 _ (List.mem_of_getElem? h)
  · exact mm_ckEs_in _ _ mm_ckE_1 _ (List.mem_of_getElem? h)
  · exact mm_ckEs_in _ _ mm_ckE_2 _ (List.mem_of_getElem? h)
  · exact mm_ckEs_in _ _ mm_ckE_3 _ (List.mem_of_getElem? h)
  · exact mm_ckEs_in _ _ mm_ckE_4 _ (List.mem_of_getElem? h)
  · exact mm_ckEs_in _ _ mm_ckE_5 _ (List.mem_of_getElem? h)
  · exact mm_ckEs_in _ _ mm_ckE_6 _ (List.mem_of_getElem? h)
  · exact mm_ckEs_in _ _ mm_ckE_7 _ (List.mem_of_getElem? h)
  · exact mm_ckEs_in _ _ mm_ckE_8 _ (List.mem_of_getElem? h)
  · cases h
theorem mm_good_code (y : MethodName) (b : ByteArray) (n : Nat) (r : Option FieldType) : goodWord (.code y b n r) = true := rfl
theorem mm_cd_in {l : List mm_Me} {ps : List Nat} (h : l.map (fun e => Cond.code e.1 e.2.2.1 e.2.2.2.1 e.2.2.2.2.1) = ps.filterMap (fun i => lw_tbl[i]?)) : ∀ e ∈ l, Cond.code e.1 e.2.2.1 e.2.2.2.1 e.2.2.2.2.1 ∈ mm_MW := by
  intro e he
  have h1 : Cond.code e.1 e.2.2.1 e.2.2.2.1 e.2.2.2.2.1 ∈ l.map (fun e => Cond.code e.1 e.2.2.1 e.2.2.2.1 e.2.2.2.2.1) := List.mem_map.mpr ⟨e, he, rfl⟩
  rw [h] at h1
  obtain ⟨i, -, hi⟩ := List.mem_filterMap.mp h1
  exact mm_MW_in (List.mem_of_getElem? hi) (mm_good_code _ _ _ _)
set_option maxRecDepth 100000 in
theorem mm_cd_0 : mm_me0.map (fun e => Cond.code e.1 e.2.2.1 e.2.2.2.1 e.2.2.2.2.1) = ([121, 535, 112, 502, 543, 564, 573, 605, 926, 621, 314, 832, 836, 841, 344, 954, 950, 976, 968, 961, 957, 226, 530, 539, 549] : List Nat).filterMap (fun i => lw_tbl[i]?) := rfl
set_option maxRecDepth 100000 in
theorem mm_cd_1 : mm_me1.map (fun e => Cond.code e.1 e.2.2.1 e.2.2.2.1 e.2.2.2.2.1) = ([555, 761, 754, 765, 750, 746, 783, 777, 868, 297, 627, 631, 635, 650, 722, 729, 725, 706, 638, 709, 712, 717, 167, 366, 459] : List Nat).filterMap (fun i => lw_tbl[i]?) := rfl
set_option maxRecDepth 100000 in
theorem mm_cd_2 : mm_me2.map (fun e => Cond.code e.1 e.2.2.1 e.2.2.2.1 e.2.2.2.2.1) = ([455, 463, 483, 440, 506, 467, 472, 494, 664, 104, 429, 447, 476, 490, 498, 510, 514, 560, 569, 577, 581, 586, 590, 594, 610] : List Nat).filterMap (fun i => lw_tbl[i]?) := rfl
set_option maxRecDepth 100000 in
theorem mm_cd_3 : mm_me3.map (fun e => Cond.code e.1 e.2.2.1 e.2.2.2.1 e.2.2.2.2.1) = ([617, 738, 742, 769, 787, 804, 828, 847, 856, 860, 872, 876, 884, 888, 892, 901, 909, 913, 938, 942, 946, 972, 980, 984, 988] : List Nat).filterMap (fun i => lw_tbl[i]?) := rfl
set_option maxRecDepth 100000 in
theorem mm_cd_4 : mm_me4.map (fun e => Cond.code e.1 e.2.2.1 e.2.2.2.1 e.2.2.2.2.1) = ([436, 432, 517, 597, 520, 613, 479, 451, 526, 773, 812, 820, 824, 851, 791, 795, 799, 808, 816, 864, 880, 896, 905, 917, 921] : List Nat).filterMap (fun i => lw_tbl[i]?) := rfl
set_option maxRecDepth 100000 in
theorem mm_cd_5 : mm_me5.map (fun e => Cond.code e.1 e.2.2.1 e.2.2.2.1 e.2.2.2.2.1) = ([933, 993, 1184, 1456, 1180, 1204, 1268, 1224, 1176, 1188, 1192, 1196, 1200, 1208, 1212, 1304, 1480, 1248, 1256, 1244, 1252, 1260, 1264, 1272, 1276] : List Nat).filterMap (fun i => lw_tbl[i]?) := rfl
set_option maxRecDepth 100000 in
theorem mm_cd_6 : mm_me6.map (fun e => Cond.code e.1 e.2.2.1 e.2.2.2.1 e.2.2.2.2.1) = ([1284, 1288, 1292, 1280, 1296, 1324, 1320, 1328, 1336, 1332, 1340, 1316, 1312, 1308, 1300, 1344, 1216, 1220, 1236, 1232, 1228, 1240, 1364, 1352, 1372] : List Nat).filterMap (fun i => lw_tbl[i]?) := rfl
set_option maxRecDepth 100000 in
theorem mm_cd_7 : mm_me7.map (fun e => Cond.code e.1 e.2.2.1 e.2.2.2.1 e.2.2.2.2.1) = ([1360, 1368, 1356, 1388, 1384, 1380, 1416, 1408, 1452, 1420, 1348, 1376, 1396, 1392, 1404, 1412, 1400, 1428, 1424, 1436, 1432, 1440, 1448, 1444, 1460] : List Nat).filterMap (fun i => lw_tbl[i]?) := rfl
set_option maxRecDepth 100000 in
theorem mm_cd_8 : mm_me8.map (fun e => Cond.code e.1 e.2.2.1 e.2.2.2.1 e.2.2.2.2.1) = ([1464, 1468, 1472, 1476, 1484, 1488, 1504, 1500, 1496, 1492, 1509, 1513, 1525, 1521, 1529, 1533, 1517, 1537, 1541, 1545, 1549, 443] : List Nat).filterMap (fun i => lw_tbl[i]?) := rfl
theorem mm_me_cd {mi : Nat} {e : mm_Me} (h : mm_me mi = some e) : Cond.code e.1 e.2.2.1 e.2.2.2.1 e.2.2.2.2.1 ∈ mm_MW := by
  unfold mm_me at h
  split at h
  · exact mm_cd_in mm_cd_0 _ (List.mem_of_getElem? h)
  · exact mm_cd_in mm_cd_1 _ (List.mem_of_getElem? h)
  · exact mm_cd_in mm_cd_2 _ (List.mem_of_getElem? h)
  · exact mm_cd_in mm_cd_3 _ (List.mem_of_getElem? h)
  · exact mm_cd_in mm_cd_4 _ (List.mem_of_getElem? h)
  · exact mm_cd_in mm_cd_5 _ (List.mem_of_getElem? h)
  · exact mm_cd_in mm_cd_6 _ (List.mem_of_getElem? h)
  · exact mm_cd_in mm_cd_7 _ (List.mem_of_getElem? h)
  · exact mm_cd_in mm_cd_8 _ (List.mem_of_getElem? h)
  · cases h
