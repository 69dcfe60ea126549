/-- what the tables say of a method -/
def mm_at (i : Nat) (w : Cond) : Bool := decide (lw_tbl[i]? = some w) && goodWord w
theorem mm_at_in {i : Nat} {w : Cond} (h : mm_at i w = true) : w ∈ mm_MW := by
  unfold mm_at at h
  rw [Bool.and_eq_true] at h
  exact mm_MW_in (List.mem_of_getElem? (of_decide_eq_true h.1)) h.2
def mm_ckE (e : mm_Me) (q : Nat × Nat × Nat × Nat) : Bool := mm_at q.2.1 (.initialized e.1.cls) && decide (e.1.cls = mm_RN e.2.1) && decide (e.1.cls ≠ "java/lang/invoke/MethodHandle") && decide (e.1.cls ≠ "java/lang/invoke/VarHandle") && plainName e.1.cls && decide (e.2.2.2.1 ≤ 30) &&
  (if e.2.2.2.2.2.2.2 = true then mm_at q.2.2.1 (.static e.1) && decide ((parseMethodDescriptor e.1.desc).map (fun d => d.parameters.length) = some e.2.2.2.2.2.2.1) && !e.2.2.2.2.2.1
   else mm_at q.2.2.1 (.instanceMethod e.1) && decide ((parseMethodDescriptor e.1.desc).map (fun d => d.parameters.length) = some (e.2.2.2.2.2.2.1 - 1)) && decide (0 < e.2.2.2.2.2.2.1) && decide (e.2.1 < 10) && (if e.2.2.2.2.2.1 = true then decide (e.1.name = "<init>") && decide (e.2.2.2.2.1 = none) else mm_at q.2.2.2 (.selects e.1.cls e.1 e.1)))
def mm_ckEs (l : List mm_Me) (ps : List (Nat × Nat × Nat × Nat)) : Bool := match l, ps with
  | [], _ => true
  | e :: l', q :: ps' => mm_ckE e q && mm_ckEs l' ps'
  | _ :: _, [] => false
theorem mm_ckEs_in : ∀ (l : List mm_Me) (ps : List (Nat × Nat × Nat × Nat)), mm_ckEs l ps = true → ∀ e ∈ l, ∃ q, mm_ckE e q = true
  | [], _, _, e, h => by cases h
  | e0 :: l', q :: ps', h, e, he => by
    unfold mm_ckEs at h
    rw [Bool.and_eq_true] at h
    rcases List.mem_cons.mp he with z | z
    · subst z; exact ⟨q, h.1⟩
    · exact mm_ckEs_in l' ps' h.2 e z
  | _ :: _, [], h, _, _ => by cases h
set_option maxRecDepth 100000 in
theorem mm_ckE_0 : mm_ckEs mm_me0 [(121, 85, 120, 0), (535, 85, 533, 534), (112, 84, 111, 0), (502, 84, 500, 501), (543, 84, 541, 542), (564, 84, 562, 563), (573, 84, 571, 572), (605, 84, 603, 604), (927, 84, 925, 926), (621, 84, 619, 620), (314, 89, 313, 0), (833, 89, 831, 832), (837, 89, 835, 836), (842, 89, 841, 0), (344, 90, 343, 0), (955, 90, 953, 954), (951, 90, 949, 950), (977, 90, 975, 976), (969, 90, 968, 27), (962, 90, 961, 0), (958, 90, 957, 0), (226, 87, 225, 0), (530, 87, 528, 529), (539, 87, 537, 538), (549, 87, 548, 0)] = true := by decide +kernel
set_option maxRecDepth 100000 in
theorem mm_ckE_1 : mm_ckEs mm_me1 [(555, 87, 554, 0), (762, 87, 760, 761), (755, 87, 753, 754), (766, 87, 764, 765), (751, 87, 750, 9), (747, 87, 745, 746), (784, 87, 782, 783), (778, 87, 776, 777), (869, 87, 867, 868), (297, 88, 296, 0), (627, 88, 625, 626), (631, 88, 630, 4), (635, 88, 634, 5), (650, 88, 649, 6), (723, 88, 722, 7), (730, 88, 729, 8), (726, 88, 725, 0), (707, 88, 706, 0), (638, 88, 637, 0), (710, 88, 709, 0), (713, 88, 712, 0), (718, 88, 717, 0), (167, 86, 166, 0), (366, 91, 365, 0), (459, 91, 457, 458)] = true := by decide +kernel
set_option maxRecDepth 100000 in
theorem mm_ckE_2 : mm_ckEs mm_me2 [(455, 91, 453, 454), (463, 91, 461, 462), (483, 91, 481, 482), (440, 91, 438, 439), (506, 91, 504, 505), (467, 91, 465, 466), (472, 91, 471, 2), (494, 91, 492, 493), (664, 91, 662, 663), (104, 83, 103, 0), (429, 83, 427, 428), (447, 83, 445, 446), (476, 83, 474, 475), (490, 83, 488, 489), (498, 83, 496, 497), (510, 83, 508, 509), (514, 83, 512, 513), (560, 83, 558, 559), (569, 83, 567, 568), (577, 83, 575, 576), (581, 83, 579, 580), (586, 83, 584, 585), (590, 83, 588, 589), (594, 83, 592, 593), (610, 83, 608, 609)] = true := by decide +kernel
set_option maxRecDepth 100000 in
theorem mm_ckE_3 : mm_ckEs mm_me3 [(617, 83, 615, 616), (739, 83, 737, 738), (743, 83, 741, 742), (770, 83, 768, 769), (788, 83, 786, 787), (805, 83, 803, 804), (829, 83, 827, 828), (848, 83, 846, 847), (857, 83, 855, 856), (861, 83, 859, 860), (873, 83, 871, 872), (877, 83, 875, 876), (885, 83, 883, 884), (889, 83, 887, 888), (893, 83, 891, 892), (902, 83, 900, 901), (910, 83, 908, 909), (914, 83, 912, 913), (939, 83, 937, 938), (943, 83, 941, 942), (947, 83, 945, 946), (973, 83, 971, 972), (981, 83, 979, 980), (985, 83, 983, 984), (989, 83, 987, 988)] = true := by decide +kernel
set_option maxRecDepth 100000 in
theorem mm_ckE_4 : mm_ckEs mm_me4 [(436, 83, 435, 0), (432, 83, 431, 0), (517, 83, 516, 0), (597, 83, 596, 0), (520, 83, 519, 0), (613, 83, 612, 0), (479, 83, 478, 0), (451, 83, 450, 1), (526, 83, 525, 3), (774, 83, 773, 10), (813, 83, 812, 15), (821, 83, 820, 17), (825, 83, 824, 18), (852, 83, 851, 19), (792, 83, 791, 11), (796, 83, 795, 12), (800, 83, 799, 13), (809, 83, 808, 14), (817, 83, 816, 16), (865, 83, 864, 20), (881, 83, 880, 21), (897, 83, 896, 22), (906, 83, 905, 23), (918, 83, 917, 24), (922, 83, 921, 25)] = true := by decide +kernel
set_option maxRecDepth 100000 in
theorem mm_ckE_5 : mm_ckEs mm_me5 [(934, 83, 933, 26), (994, 92, 993, 0), (1185, 92, 1184, 29), (1457, 92, 1456, 73), (1181, 92, 1180, 28), (1205, 92, 1204, 30), (1269, 92, 1268, 40), (1225, 92, 1224, 33), (1177, 92, 1175, 1176), (1189, 92, 1187, 1188), (1193, 92, 1191, 1192), (1197, 92, 1195, 1196), (1201, 92, 1199, 1200), (1209, 92, 1207, 1208), (1213, 92, 1211, 1212), (1305, 92, 1304, 44), (1481, 92, 1480, 74), (1249, 92, 1248, 38), (1257, 92, 1256, 39), (1245, 92, 1243, 1244), (1253, 92, 1251, 1252), (1261, 92, 1259, 1260), (1265, 92, 1263, 1264), (1273, 92, 1271, 1272), (1277, 92, 1275, 1276)] = true := by decide +kernel
set_option maxRecDepth 100000 in
theorem mm_ckE_6 : mm_ckEs mm_me6 [(1285, 92, 1284, 41), (1289, 92, 1288, 42), (1293, 92, 1292, 43), (1281, 92, 1279, 1280), (1297, 92, 1295, 1296), (1325, 92, 1324, 49), (1321, 92, 1320, 48), (1329, 92, 1328, 50), (1337, 92, 1336, 52), (1333, 92, 1332, 51), (1341, 92, 1340, 53), (1317, 92, 1316, 47), (1313, 92, 1312, 46), (1309, 92, 1308, 45), (1301, 92, 1299, 1300), (1345, 92, 1343, 1344), (1217, 92, 1216, 31), (1221, 92, 1220, 32), (1237, 92, 1236, 36), (1233, 92, 1232, 35), (1229, 92, 1228, 34), (1241, 92, 1240, 37), (1365, 92, 1364, 57), (1353, 92, 1352, 54), (1373, 92, 1372, 59)] = true := by decide +kernel
set_option maxRecDepth 100000 in
theorem mm_ckE_7 : mm_ckEs mm_me7 [(1361, 92, 1360, 56), (1369, 92, 1368, 58), (1357, 92, 1356, 55), (1389, 92, 1388, 62), (1385, 92, 1384, 61), (1381, 92, 1380, 60), (1417, 92, 1416, 67), (1409, 92, 1408, 65), (1453, 92, 1452, 72), (1421, 92, 1420, 68), (1349, 92, 1347, 1348), (1377, 92, 1375, 1376), (1397, 92, 1396, 63), (1393, 92, 1391, 1392), (1405, 92, 1404, 64), (1413, 92, 1412, 66), (1401, 92, 1399, 1400), (1429, 92, 1428, 69), (1425, 92, 1423, 1424), (1437, 92, 1436, 70), (1433, 92, 1431, 1432), (1441, 92, 1439, 1440), (1449, 92, 1448, 71), (1445, 92, 1443, 1444), (1461, 92, 1459, 1460)] = true := by decide +kernel
set_option maxRecDepth 100000 in
theorem mm_ckE_8 : mm_ckEs mm_me8 [(1465, 92, 1463, 1464), (1469, 92, 1467, 1468), (1473, 92, 1471, 1472), (1477, 92, 1475, 1476), (1485, 92, 1483, 1484), (1489, 92, 1487, 1488), (1505, 92, 1504, 77), (1501, 92, 1500, 76), (1497, 92, 1496, 75), (1493, 92, 1491, 1492), (1510, 92, 1508, 1509), (1514, 92, 1512, 1513), (1526, 92, 1525, 79), (1522, 92, 1521, 78), (1530, 92, 1529, 80), (1534, 92, 1533, 81), (1518, 92, 1516, 1517), (1538, 92, 1536, 1537), (1542, 92, 1540, 1541), (1546, 92, 1544, 1545), (1550, 92, 1548, 1549), (443, 93, 442, 0)] = true := by decide +kernel
theorem mm_me_ck {mi : Nat} {e : mm_Me} (h : mm_me mi = some e) : ∃ q, mm_ckE e q = true := by
  unfold mm_me at h
  split at h
  · exact mm_ckEs_in _ _ mm_ckE_0 _ (List.mem_of_getElem? h)
  · exact mm_ckEs_in _ _ mm_ckE_1 _ (List.mem_of_getElem? h)
  · exact mm_ckEs_in _ _ mm_ckE_2 _ (List.mem_of_getElem? h)
  · exact mm_ckEs_in _ _ mm_ckE_3 _ (List.mem_of_getElem? h)
  · exact mm_ckEs_in _ _ mm_ckE_4 _ (List.mem_of_getElem? h)
  · exact mm_ckEs_in _ _ mm_ckE_5 _ (List.mem_of_getElem? h)
  · exact mm_ckEs_in _ _ mm_ckE_6 _ (List.mem_of_getElem? h)
  · exact mm_ckEs_in _ _ mm_ckE_7 _ (List.mem_of_getElem? h)
  · exact mm_ckEs_in _ _ mm_ckE_8 _ (List.mem_of_getElem? h)
  · cases h
theorem mm_good_code (y : MethodName) (b : ByteArray) (n : Nat) (r : Option FieldType) : goodWord (.code y b n r) = true := rfl
theorem mm_cd_in {l : List mm_Me} {ps : List Nat} (h : l.map (fun e => Cond.code e.1 e.2.2.1 e.2.2.2.1 e.2.2.2.2.1) = ps.filterMap (fun i => lw_tbl[i]?)) : ∀ e ∈ l, Cond.code e.1 e.2.2.1 e.2.2.2.1 e.2.2.2.2.1 ∈ mm_MW := by
  intro e he
  have h1 : Cond.code e.1 e.2.2.1 e.2.2.2.1 e.2.2.2.2.1 ∈ l.map (fun e => Cond.code e.1 e.2.2.1 e.2.2.2.1 e.2.2.2.2.1) := List.mem_map.mpr ⟨e, he, rfl⟩
  rw [h] at h1
  obtain ⟨i, -, hi⟩ := List.mem_filterMap.mp h1
  exact mm_MW_in (List.mem_of_getElem? hi) (mm_good_code _ _ _ _)
set_option maxRecDepth 100000 in
theorem mm_cd_0 : mm_me0.map (fun e => Cond.code e.1 e.2.2.1 e.2.2.2.1 e.2.2.2.2.1) = ([121, 535, 112, 502, 543, 564, 573, 605, 927, 621, 314, 833, 837, 842, 344, 955, 951, 977, 969, 962, 958, 226, 530, 539, 549] : List Nat).filterMap (fun i => lw_tbl[i]?) := rfl
set_option maxRecDepth 100000 in
theorem mm_cd_1 : mm_me1.map (fun e => Cond.code e.1 e.2.2.1 e.2.2.2.1 e.2.2.2.2.1) = ([555, 762, 755, 766, 751, 747, 784, 778, 869, 297, 627, 631, 635, 650, 723, 730, 726, 707, 638, 710, 713, 718, 167, 366, 459] : List Nat).filterMap (fun i => lw_tbl[i]?) := rfl
set_option maxRecDepth 100000 in
theorem mm_cd_2 : mm_me2.map (fun e => Cond.code e.1 e.2.2.1 e.2.2.2.1 e.2.2.2.2.1) = ([455, 463, 483, 440, 506, 467, 472, 494, 664, 104, 429, 447, 476, 490, 498, 510, 514, 560, 569, 577, 581, 586, 590, 594, 610] : List Nat).filterMap (fun i => lw_tbl[i]?) := rfl
set_option maxRecDepth 100000 in
theorem mm_cd_3 : mm_me3.map (fun e => Cond.code e.1 e.2.2.1 e.2.2.2.1 e.2.2.2.2.1) = ([617, 739, 743, 770, 788, 805, 829, 848, 857, 861, 873, 877, 885, 889, 893, 902, 910, 914, 939, 943, 947, 973, 981, 985, 989] : List Nat).filterMap (fun i => lw_tbl[i]?) := rfl
set_option maxRecDepth 100000 in
theorem mm_cd_4 : mm_me4.map (fun e => Cond.code e.1 e.2.2.1 e.2.2.2.1 e.2.2.2.2.1) = ([436, 432, 517, 597, 520, 613, 479, 451, 526, 774, 813, 821, 825, 852, 792, 796, 800, 809, 817, 865, 881, 897, 906, 918, 922] : List Nat).filterMap (fun i => lw_tbl[i]?) := rfl
set_option maxRecDepth 100000 in
theorem mm_cd_5 : mm_me5.map (fun e => Cond.code e.1 e.2.2.1 e.2.2.2.1 e.2.2.2.2.1) = ([934, 994, 1185, 1457, 1181, 1205, 1269, 1225, 1177, 1189, 1193, 1197, 1201, 1209, 1213, 1305, 1481, 1249, 1257, 1245, 1253, 1261, 1265, 1273, 1277] : List Nat).filterMap (fun i => lw_tbl[i]?) := rfl
set_option maxRecDepth 100000 in
theorem mm_cd_6 : mm_me6.map (fun e => Cond.code e.1 e.2.2.1 e.2.2.2.1 e.2.2.2.2.1) = ([1285, 1289, 1293, 1281, 1297, 1325, 1321, 1329, 1337, 1333, 1341, 1317, 1313, 1309, 1301, 1345, 1217, 1221, 1237, 1233, 1229, 1241, 1365, 1353, 1373] : List Nat).filterMap (fun i => lw_tbl[i]?) := rfl
set_option maxRecDepth 100000 in
theorem mm_cd_7 : mm_me7.map (fun e => Cond.code e.1 e.2.2.1 e.2.2.2.1 e.2.2.2.2.1) = ([1361, 1369, 1357, 1389, 1385, 1381, 1417, 1409, 1453, 1421, 1349, 1377, 1397, 1393, 1405, 1413, 1401, 1429, 1425, 1437, 1433, 1441, 1449, 1445, 1461] : List Nat).filterMap (fun i => lw_tbl[i]?) := rfl
set_option maxRecDepth 100000 in
theorem mm_cd_8 : mm_me8.map (fun e => Cond.code e.1 e.2.2.1 e.2.2.2.1 e.2.2.2.2.1) = ([1465, 1469, 1473, 1477, 1485, 1489, 1505, 1501, 1497, 1493, 1510, 1514, 1526, 1522, 1530, 1534, 1518, 1538, 1542, 1546, 1550, 443] : List Nat).filterMap (fun i => lw_tbl[i]?) := rfl
theorem mm_me_cd {mi : Nat} {e : mm_Me} (h : mm_me mi = some e) : Cond.code e.1 e.2.2.1 e.2.2.2.1 e.2.2.2.2.1 ∈ mm_MW := by
  unfold mm_me at h
  split at h
  · exact mm_cd_in mm_cd_0 _ (List.mem_of_getElem? h)
  · exact mm_cd_in mm_cd_1 _ (List.mem_of_getElem? h)
  · exact mm_cd_in mm_cd_2 _ (List.mem_of_getElem? h)
  · exact mm_cd_in mm_cd_3 _ (List.mem_of_getElem? h)
  · exact mm_cd_in mm_cd_4 _ (List.mem_of_getElem? h)
  · exact mm_cd_in mm_cd_5 _ (List.mem_of_getElem? h)
  · exact mm_cd_in mm_cd_6 _ (List.mem_of_getElem? h)
  · exact mm_cd_in mm_cd_7 _ (List.mem_of_getElem? h)
  · exact mm_cd_in mm_cd_8 _ (List.mem_of_getElem? h)
  · cases h
