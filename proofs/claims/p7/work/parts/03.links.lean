def t_b : List Cond := lw_tbl.filter goodWord
theorem t_in {w : Cond} (k : Nat) (h : lw_tbl[k]? = some w) (hg : goodWord w = true) : w ∈ t_b := List.mem_filter.mpr ⟨List.mem_of_getElem? h, hg⟩
def k_P0 : List AR := [(128, 0, 0), (133, 134, 0), (313, 314, 0), (335, 336, 0), (391, 392, 0), (507, 140, 0), (510, 511, 0), (546, 548, 0), (770, 772, 7), (782, 783, 784), (923, 924, 925), (927, 928, 929), (936, 937, 938), (947, 948, 949), (724, 725, 726), (963, 964, 965), (971, 972, 973), (976, 977, 978), (1067, 632, 633), (1072, 1073, 1074), (1084, 1085, 0), (1088, 1089, 1090), (1134, 1135, 1136), (1154, 1155, 1156), (1158, 1159, 1160), (1166, 1167, 1168), (1174, 1175, 1176), (1182, 1183, 1184), (550, 551, 552), (554, 555, 556), (142, 0, 0), (145, 146, 0), (790, 791, 0), (878, 621, 622), (588, 589, 590), (570, 0, 0), (136, 0, 0), (139, 140, 0), (252, 253, 0), (786, 787, 788), (793, 794, 795), (816, 818, 11), (820, 822, 12), (825, 827, 13), (850, 852, 14), (892, 894, 21), (902, 904, 23), (908, 910, 24), (919, 921, 25), (854, 856, 15), (858, 860, 16), (866, 868, 18), (874, 875, 876), (870, 872, 19), (879, 881, 20), (886, 887, 888), (862, 864, 17), (896, 594, 0), (897, 899, 22), (906, 585, 586)]
def k_P1 : List AR := [(913, 914, 915), (829, 654, 655), (830, 831, 832), (338, 0, 0), (340, 146, 0), (975, 964, 965), (558, 560, 1), (584, 585, 586), (573, 575, 2), (596, 598, 3), (611, 613, 4), (627, 629, 6), (600, 589, 590), (601, 602, 603), (562, 563, 564), (605, 606, 0), (615, 0, 0), (616, 618, 5), (620, 621, 622), (566, 567, 568), (577, 578, 579), (631, 632, 633), (635, 636, 0), (723, 609, 0), (148, 0, 0), (581, 0, 0), (890, 578, 579), (592, 563, 564), (624, 625, 0), (593, 594, 0), (316, 0, 0), (639, 640, 641), (608, 609, 0), (513, 0, 0), (940, 924, 925), (941, 798, 0), (942, 944, 26), (946, 0, 0), (394, 0, 0), (397, 398, 0), (445, 446, 0), (984, 985, 986), (1002, 1003, 1004), (1055, 1056, 1057), (980, 982, 27), (1092, 1093, 1094), (1138, 1140, 47), (1142, 1144, 48), (1146, 1147, 1148), (1186, 1135, 1136), (1187, 1189, 49), (448, 0, 0), (1097, 1099, 40), (1109, 1111, 42), (1114, 1116, 43), (1126, 1128, 46), (1101, 1018, 1019), (1102, 1104, 41), (1106, 1107, 0), (1113, 1060, 1061)]
def k_P2 : List AR := [(1118, 1120, 44), (1122, 1124, 45), (255, 0, 0), (797, 798, 0), (800, 802, 8), (809, 810, 0), (812, 814, 10), (805, 807, 9), (804, 0, 0), (400, 0, 0), (988, 990, 28), (992, 994, 29), (997, 999, 30), (1001, 0, 0), (996, 0, 0), (1007, 1008, 0), (1013, 1015, 31), (1037, 1039, 36), (1025, 1027, 33), (1017, 1018, 1019), (1021, 1023, 32), (1029, 1031, 34), (1033, 1035, 35), (1041, 1043, 37), (1049, 791, 0), (1050, 1052, 39), (1045, 1047, 38), (1059, 1060, 1061), (125, 126, 0), (1201, 1202, 0), (766, 767, 768), (1720, 1721, 1722), (774, 775, 776), (1724, 1725, 1726), (778, 779, 780), (1408, 1409, 1410), (931, 932, 933), (1504, 1505, 1506), (951, 952, 953), (1500, 1501, 1502), (955, 956, 957), (1512, 1513, 1514), (959, 960, 961), (1516, 1517, 1518), (967, 968, 969), (1615, 1616, 1617), (1063, 1064, 1065), (1631, 1632, 1633), (1068, 1069, 1070), (1635, 1636, 1637), (1076, 1077, 1078), (1639, 1640, 1641), (1080, 1081, 1082), (1652, 1653, 1654), (1130, 1131, 1132), (1681, 1682, 1683), (1150, 1151, 1152), (1696, 1697, 1698), (1162, 1163, 1164), (1704, 1705, 1706)]
def k_P3 : List AR := [(1170, 1171, 1172), (1708, 1709, 1710), (1178, 1179, 1180), (1700, 1701, 1702), (1191, 1192, 1193), (1712, 1713, 1714), (1195, 1196, 1197), (1716, 1717, 1718), (1427, 1428, 0), (1420, 1422, 52), (1424, 1425, 0), (1430, 1431, 0), (1455, 1457, 57), (1204, 0, 0), (1416, 1418, 51), (1433, 1435, 53), (1451, 1453, 56), (1478, 1479, 0), (1412, 1414, 50), (1437, 1439, 54), (1442, 1444, 55), (1459, 1461, 58), (1484, 1486, 62), (1488, 1490, 63), (1492, 1494, 64), (1496, 1498, 65), (1463, 1465, 59), (1467, 1469, 60), (1471, 1473, 61), (1475, 1476, 0), (1508, 1510, 66), (1552, 1553, 0), (1540, 1542, 72), (1544, 1546, 73), (1548, 1550, 74), (1559, 1561, 76), (1532, 1534, 70), (1536, 1538, 71), (1555, 1557, 75), (1563, 1565, 77), (1567, 1569, 78), (1571, 1573, 79), (1528, 1530, 69), (1575, 1577, 80), (1579, 1581, 81), (1584, 1586, 82), (1588, 1590, 83), (1607, 1609, 87), (1600, 1601, 0), (1596, 1598, 85), (1603, 1605, 86), (1592, 1594, 84), (1611, 1613, 88), (1520, 1522, 67), (1524, 1526, 68), (1619, 1621, 89), (1623, 1625, 90), (1627, 1629, 91), (1648, 1650, 93), (1643, 1636, 1637)]
def k_P4 : List AR := [(1644, 1646, 92), (1661, 1662, 0), (1669, 1671, 96), (1657, 1659, 94), (1665, 1667, 95), (1673, 1675, 97), (1677, 1679, 98), (1692, 1694, 100), (1685, 1686, 0), (1688, 1690, 99), (657, 658, 659), (647, 648, 649), (834, 835, 0), (653, 654, 655), (643, 644, 645), (661, 662, 0), (840, 841, 0), (837, 838, 0), (668, 0, 0), (664, 665, 0), (667, 0, 0), (671, 672, 0), (1010, 1011, 0)]
def k_P : List AR := k_P0 ++ (k_P1 ++ (k_P2 ++ (k_P3 ++ (k_P4))))
def m_P : List (Nat × Nat) := [(0, 0), (127, 102), (135, 103), (141, 104), (147, 105), (254, 106), (315, 107), (337, 108), (393, 109), (399, 110), (447, 111), (512, 112), (549, 102), (553, 107), (557, 108), (561, 108), (565, 105), (569, 104), (576, 108), (580, 105), (587, 104), (591, 105), (595, 115), (599, 108), (604, 104), (607, 115), (610, 115), (614, 108), (619, 108), (623, 105), (626, 115), (630, 108), (634, 105), (637, 115), (727, 109), (769, 102), (773, 102), (777, 102), (781, 102), (785, 103), (789, 104), (792, 122), (796, 106), (799, 115), (803, 106), (808, 106), (811, 115), (815, 106), (819, 103), (823, 103), (828, 103), (853, 103), (857, 103), (861, 103), (865, 103), (869, 103), (873, 103), (877, 104), (882, 103), (889, 105), (895, 103), (900, 103), (905, 103), (911, 103), (916, 104), (922, 103), (926, 112), (930, 107), (934, 102), (939, 112), (945, 112), (950, 107), (954, 102), (958, 102), (962, 102), (966, 108), (970, 102), (974, 108), (979, 109), (983, 109), (987, 110), (991, 110), (995, 110), (1000, 110), (1005, 110), (1009, 122), (1012, 122), (1016, 110), (1020, 110), (1024, 110), (1028, 110), (1032, 110), (1036, 110), (1040, 110), (1044, 110), (1048, 110), (1053, 110), (1058, 110), (1062, 110), (1066, 102), (1071, 102), (1075, 109), (1079, 102), (1083, 102), (1086, 102), (1091, 109), (1095, 111), (1100, 111), (1105, 111), (1108, 122), (1112, 111), (1117, 111), (1121, 111), (1125, 111), (1129, 111), (1133, 102), (1137, 109), (1141, 109), (1145, 109), (1149, 108), (1153, 102), (1157, 112), (1161, 109), (1165, 102), (1169, 107), (1173, 102), (1177, 107), (1181, 102), (1185, 109), (1190, 109), (1194, 102), (1198, 102), (1203, 121), (1411, 121), (1415, 121), (1419, 121), (1423, 121), (1426, 121), (1429, 121), (1432, 121), (1436, 121), (1440, 121), (1445, 121), (1454, 121), (1458, 121), (1462, 121), (1466, 121), (1470, 121), (1474, 121), (1477, 121), (1480, 121), (1487, 121), (1491, 121), (1495, 121), (1499, 121), (1503, 121), (1507, 121), (1511, 121), (1515, 121), (1519, 121), (1523, 121), (1527, 121), (1531, 121), (1535, 121), (1539, 121), (1543, 121), (1547, 121), (1551, 121), (1554, 121), (1558, 121), (1562, 121), (1566, 121), (1570, 121), (1574, 121), (1578, 121), (1582, 121), (1587, 121), (1591, 121), (1595, 121), (1599, 121), (1602, 121), (1606, 121), (1610, 121), (1614, 121), (1618, 121), (1622, 121), (1626, 121), (1630, 121), (1634, 121), (1638, 121), (1642, 121), (1647, 121), (1651, 121), (1655, 121), (1660, 121), (1663, 121), (1668, 121), (1672, 121), (1676, 121), (1680, 121), (1684, 121), (1687, 121), (1691, 121), (1695, 121), (1699, 121), (1703, 121), (1707, 121), (1711, 121), (1715, 121), (1719, 121), (1723, 121), (1727, 121), (656, 116), (660, 116), (650, 116), (833, 116), (839, 116), (836, 117), (842, 119), (642, 116), (646, 116), (663, 117), (666, 117), (673, 117)]
def at_p (k : Nat) (w : Cond) : Bool := decide (lw_tbl[k]? = some w) && goodWord w
theorem at_p_in {k : Nat} {w : Cond} (h : at_p k w = true) : w ∈ t_b := by
  unfold at_p at h
  simp only [Bool.and_eq_true, decide_eq_true_eq] at h
  exact t_in k h.1 h.2
def m_ok (i : Nat) : Bool := at_p (m_P.getD i (0, 0)).1 (.code (m_y i) (m_b i) (m_l i) (m_r i)) && at_p (m_P.getD i (0, 0)).2 (.initialized (m_y i).cls) && decide (o_N.getD (m_o i) "" = (m_y i).cls) && plainName (m_y i).cls && decide ((m_y i).cls ≠ "java/lang/invoke/MethodHandle") && decide ((m_y i).cls ≠ "java/lang/invoke/VarHandle")
def w_N : List Cond := [(Jvm.Cond.methodLinkNest "MarkBench$BookReader" (20 : Nat) ({ cls := "MarkBench$Book", name := "<init>", desc := "()V" } : Jvm.MethodName) "MarkBench"), (Jvm.Cond.methodLinkNest "MarkBench$BookReader" (27 : Nat) ({ cls := "MarkBench$Tokens", name := "<init>", desc := "()V" } : Jvm.MethodName) "MarkBench"), (Jvm.Cond.methodLinkNest "MarkBench" (24 : Nat) ({ cls := "MarkBench$Hands", name := "<init>", desc := "()V" } : Jvm.MethodName) "MarkBench"), (Jvm.Cond.methodLinkNest "MarkBench" (31 : Nat) ({ cls := "MarkBench$Choices", name := "<init>", desc := "()V" } : Jvm.MethodName) "MarkBench"), (Jvm.Cond.methodLinkNest "MarkBench" (51 : Nat) ({ cls := "MarkBench$Book", name := "<init>", desc := "()V" } : Jvm.MethodName) "MarkBench"), (Jvm.Cond.methodLinkNest "MarkBench" (58 : Nat) ({ cls := "MarkBench$Line", name := "<init>", desc := "()V" } : Jvm.MethodName) "MarkBench")]
def k_ok (e : ((Nat × Nat) × AR) × AR) : Bool := match e with
  | (((o, i), (k, mj, n)), (p1, p2, p3)) => match k with
    | 0 => decide (0 < mj ∧ mj < 224) && at_p p1 (.methodLink (o_N.getD o "") i (m_y mj)) && at_p p2 (.instanceMethod (m_y mj)) && at_p p3 (.selects (m_y mj).cls (m_y mj) (m_y mj)) && decide ((parseMethodDescriptor (m_y mj).desc).map (fun d => d.parameters.length) = some n)
    | 1 => decide (0 < mj ∧ mj < 224) && at_p p1 (.methodLink (o_N.getD o "") i (m_y mj)) && at_p p2 (.static (m_y mj)) && decide ((parseMethodDescriptor (m_y mj).desc).map (fun d => d.parameters.length) = some n)
    | 2 => decide (0 < mj ∧ mj < 224) && at_p p1 (.methodLink (o_N.getD o "") i (m_y mj)) && at_p p2 (.instanceMethod (m_y mj)) && decide ((m_y mj).name = "<init>") && decide (m_r mj = none) && decide ((parseMethodDescriptor (m_y mj).desc).map (fun d => d.parameters.length) = some n)
    | 3 => decide (0 < mj ∧ mj < 224) && decide (.methodLinkNest (o_N.getD o "") i (m_y mj) "MarkBench" ∈ w_N) && at_p p2 (.instanceMethod (m_y mj)) && decide ((m_y mj).name = "<init>") && decide (m_r mj = none) && decide ((parseMethodDescriptor (m_y mj).desc).map (fun d => d.parameters.length) = some n)
    | 4 => at_p p1 (.methodLink (o_N.getD o "") i Lib.objectInit)
    | 5 => at_p p1 (.methodLink (o_N.getD o "") i Lib.Math.min.name)
    | 6 => at_p p1 (.methodLink (o_N.getD o "") i Lib.Math.max.name)
    | 7 => at_p p1 (.methodLink (o_N.getD o "") i arraycopyName)
    | _ => false
theorem m_c1 : m_ok 1 = true := by decide +kernel
theorem m_c2 : m_ok 2 = true := by decide +kernel
theorem m_c3 : m_ok 3 = true := by decide +kernel
theorem m_c4 : m_ok 4 = true := by decide +kernel
theorem m_c5 : m_ok 5 = true := by decide +kernel
theorem m_c6 : m_ok 6 = true := by decide +kernel
theorem m_c7 : m_ok 7 = true := by decide +kernel
theorem m_c8 : m_ok 8 = true := by decide +kernel
theorem m_c9 : m_ok 9 = true := by decide +kernel
theorem m_c10 : m_ok 10 = true := by decide +kernel
theorem m_c11 : m_ok 11 = true := by decide +kernel
theorem m_c12 : m_ok 12 = true := by decide +kernel
theorem m_c13 : m_ok 13 = true := by decide +kernel
theorem m_c14 : m_ok 14 = true := by decide +kernel
theorem m_c15 : m_ok 15 = true := by decide +kernel
theorem m_c16 : m_ok 16 = true := by decide +kernel
theorem m_c17 : m_ok 17 = true := by decide +kernel
theorem m_c18 : m_ok 18 = true := by decide +kernel
theorem m_c19 : m_ok 19 = true := by decide +kernel
theorem m_c20 : m_ok 20 = true := by decide +kernel
theorem m_c21 : m_ok 21 = true := by decide +kernel
theorem m_c22 : m_ok 22 = true := by decide +kernel
theorem m_c23 : m_ok 23 = true := by decide +kernel
theorem m_c24 : m_ok 24 = true := by decide +kernel
theorem m_c25 : m_ok 25 = true := by decide +kernel
theorem m_c26 : m_ok 26 = true := by decide +kernel
theorem m_c27 : m_ok 27 = true := by decide +kernel
theorem m_c28 : m_ok 28 = true := by decide +kernel
theorem m_c29 : m_ok 29 = true := by decide +kernel
theorem m_c30 : m_ok 30 = true := by decide +kernel
theorem m_a1 : ∀ i ∈ [1, 2, 3, 4, 5, 6, 7, 8, 9, 10, 11, 12, 13, 14, 15, 16, 17, 18, 19, 20, 21, 22, 23, 24, 25, 26, 27, 28, 29, 30], m_ok i = true := List.forall_mem_cons.mpr ⟨m_c1, List.forall_mem_cons.mpr ⟨m_c2, List.forall_mem_cons.mpr ⟨m_c3, List.forall_mem_cons.mpr ⟨m_c4, List.forall_mem_cons.mpr ⟨m_c5, List.forall_mem_cons.mpr ⟨m_c6, List.forall_mem_cons.mpr ⟨m_c7, List.forall_mem_cons.mpr ⟨m_c8, List.forall_mem_cons.mpr ⟨m_c9, List.forall_mem_cons.mpr ⟨m_c10, List.forall_mem_cons.mpr ⟨m_c11, List.forall_mem_cons.mpr ⟨m_c12, List.forall_mem_cons.mpr ⟨m_c13, List.forall_mem_cons.mpr ⟨m_c14, List.forall_mem_cons.mpr ⟨m_c15, List.forall_mem_cons.mpr ⟨m_c16, List.forall_mem_cons.mpr ⟨m_c17, List.forall_mem_cons.mpr ⟨m_c18, List.forall_mem_cons.mpr ⟨m_c19, List.forall_mem_cons.mpr ⟨m_c20, List.forall_mem_cons.mpr ⟨m_c21, List.forall_mem_cons.mpr ⟨m_c22, List.forall_mem_cons.mpr ⟨m_c23, List.forall_mem_cons.mpr ⟨m_c24, List.forall_mem_cons.mpr ⟨m_c25, List.forall_mem_cons.mpr ⟨m_c26, List.forall_mem_cons.mpr ⟨m_c27, List.forall_mem_cons.mpr ⟨m_c28, List.forall_mem_cons.mpr ⟨m_c29, List.forall_mem_cons.mpr ⟨m_c30, fun _ h => absurd h List.not_mem_nil⟩⟩⟩⟩⟩⟩⟩⟩⟩⟩⟩⟩⟩⟩⟩⟩⟩⟩⟩⟩⟩⟩⟩⟩⟩⟩⟩⟩⟩⟩
theorem m_c31 : m_ok 31 = true := by decide +kernel
theorem m_c32 : m_ok 32 = true := by decide +kernel
theorem m_c33 : m_ok 33 = true := by decide +kernel
theorem m_c34 : m_ok 34 = true := by decide +kernel
theorem m_c35 : m_ok 35 = true := by decide +kernel
theorem m_c36 : m_ok 36 = true := by decide +kernel
theorem m_c37 : m_ok 37 = true := by decide +kernel
theorem m_c38 : m_ok 38 = true := by decide +kernel
theorem m_c39 : m_ok 39 = true := by decide +kernel
theorem m_c40 : m_ok 40 = true := by decide +kernel
theorem m_c41 : m_ok 41 = true := by decide +kernel
theorem m_c42 : m_ok 42 = true := by decide +kernel
theorem m_c43 : m_ok 43 = true := by decide +kernel
theorem m_c44 : m_ok 44 = true := by decide +kernel
theorem m_c45 : m_ok 45 = true := by decide +kernel
theorem m_c46 : m_ok 46 = true := by decide +kernel
theorem m_c47 : m_ok 47 = true := by decide +kernel
theorem m_c48 : m_ok 48 = true := by decide +kernel
theorem m_c49 : m_ok 49 = true := by decide +kernel
theorem m_c50 : m_ok 50 = true := by decide +kernel
theorem m_c51 : m_ok 51 = true := by decide +kernel
theorem m_c52 : m_ok 52 = true := by decide +kernel
theorem m_c53 : m_ok 53 = true := by decide +kernel
theorem m_c54 : m_ok 54 = true := by decide +kernel
theorem m_c55 : m_ok 55 = true := by decide +kernel
theorem m_c56 : m_ok 56 = true := by decide +kernel
theorem m_c57 : m_ok 57 = true := by decide +kernel
theorem m_c58 : m_ok 58 = true := by decide +kernel
theorem m_c59 : m_ok 59 = true := by decide +kernel
theorem m_c60 : m_ok 60 = true := by decide +kernel
theorem m_a31 : ∀ i ∈ [31, 32, 33, 34, 35, 36, 37, 38, 39, 40, 41, 42, 43, 44, 45, 46, 47, 48, 49, 50, 51, 52, 53, 54, 55, 56, 57, 58, 59, 60], m_ok i = true := List.forall_mem_cons.mpr ⟨m_c31, List.forall_mem_cons.mpr ⟨m_c32, List.forall_mem_cons.mpr ⟨m_c33, List.forall_mem_cons.mpr ⟨m_c34, List.forall_mem_cons.mpr ⟨m_c35, List.forall_mem_cons.mpr ⟨m_c36, List.forall_mem_cons.mpr ⟨m_c37, List.forall_mem_cons.mpr ⟨m_c38, List.forall_mem_cons.mpr ⟨m_c39, List.forall_mem_cons.mpr ⟨m_c40, List.forall_mem_cons.mpr ⟨m_c41, List.forall_mem_cons.mpr ⟨m_c42, List.forall_mem_cons.mpr ⟨m_c43, List.forall_mem_cons.mpr ⟨m_c44, List.forall_mem_cons.mpr ⟨m_c45, List.forall_mem_cons.mpr ⟨m_c46, List.forall_mem_cons.mpr ⟨m_c47, List.forall_mem_cons.mpr ⟨m_c48, List.forall_mem_cons.mpr ⟨m_c49, List.forall_mem_cons.mpr ⟨m_c50, List.forall_mem_cons.mpr ⟨m_c51, List.forall_mem_cons.mpr ⟨m_c52, List.forall_mem_cons.mpr ⟨m_c53, List.forall_mem_cons.mpr ⟨m_c54, List.forall_mem_cons.mpr ⟨m_c55, List.forall_mem_cons.mpr ⟨m_c56, List.forall_mem_cons.mpr ⟨m_c57, List.forall_mem_cons.mpr ⟨m_c58, List.forall_mem_cons.mpr ⟨m_c59, List.forall_mem_cons.mpr ⟨m_c60, fun _ h => absurd h List.not_mem_nil⟩⟩⟩⟩⟩⟩⟩⟩⟩⟩⟩⟩⟩⟩⟩⟩⟩⟩⟩⟩⟩⟩⟩⟩⟩⟩⟩⟩⟩⟩
theorem m_c61 : m_ok 61 = true := by decide +kernel
theorem m_c62 : m_ok 62 = true := by decide +kernel
theorem m_c63 : m_ok 63 = true := by decide +kernel
theorem m_c64 : m_ok 64 = true := by decide +kernel
theorem m_c65 : m_ok 65 = true := by decide +kernel
theorem m_c66 : m_ok 66 = true := by decide +kernel
theorem m_c67 : m_ok 67 = true := by decide +kernel
theorem m_c68 : m_ok 68 = true := by decide +kernel
theorem m_c69 : m_ok 69 = true := by decide +kernel
theorem m_c70 : m_ok 70 = true := by decide +kernel
theorem m_c71 : m_ok 71 = true := by decide +kernel
theorem m_c72 : m_ok 72 = true := by decide +kernel
theorem m_c73 : m_ok 73 = true := by decide +kernel
theorem m_c74 : m_ok 74 = true := by decide +kernel
theorem m_c75 : m_ok 75 = true := by decide +kernel
theorem m_c76 : m_ok 76 = true := by decide +kernel
theorem m_c77 : m_ok 77 = true := by decide +kernel
theorem m_c78 : m_ok 78 = true := by decide +kernel
theorem m_c79 : m_ok 79 = true := by decide +kernel
theorem m_c80 : m_ok 80 = true := by decide +kernel
theorem m_c81 : m_ok 81 = true := by decide +kernel
theorem m_c82 : m_ok 82 = true := by decide +kernel
theorem m_c83 : m_ok 83 = true := by decide +kernel
theorem m_c84 : m_ok 84 = true := by decide +kernel
theorem m_c85 : m_ok 85 = true := by decide +kernel
theorem m_c86 : m_ok 86 = true := by decide +kernel
theorem m_c87 : m_ok 87 = true := by decide +kernel
theorem m_c88 : m_ok 88 = true := by decide +kernel
theorem m_c89 : m_ok 89 = true := by decide +kernel
theorem m_c90 : m_ok 90 = true := by decide +kernel
theorem m_a61 : ∀ i ∈ [61, 62, 63, 64, 65, 66, 67, 68, 69, 70, 71, 72, 73, 74, 75, 76, 77, 78, 79, 80, 81, 82, 83, 84, 85, 86, 87, 88, 89, 90], m_ok i = true := List.forall_mem_cons.mpr ⟨m_c61, List.forall_mem_cons.mpr ⟨m_c62, List.forall_mem_cons.mpr ⟨m_c63, List.forall_mem_cons.mpr ⟨m_c64, List.forall_mem_cons.mpr ⟨m_c65, List.forall_mem_cons.mpr ⟨m_c66, List.forall_mem_cons.mpr ⟨m_c67, List.forall_mem_cons.mpr ⟨m_c68, List.forall_mem_cons.mpr ⟨m_c69, List.forall_mem_cons.mpr ⟨m_c70, List.forall_mem_cons.mpr ⟨m_c71, List.forall_mem_cons.mpr ⟨m_c72, List.forall_mem_cons.mpr ⟨m_c73, List.forall_mem_cons.mpr ⟨m_c74, List.forall_mem_cons.mpr ⟨m_c75, List.forall_mem_cons.mpr ⟨m_c76, List.forall_mem_cons.mpr ⟨m_c77, List.forall_mem_cons.mpr ⟨m_c78, List.forall_mem_cons.mpr ⟨m_c79, List.forall_mem_cons.mpr ⟨m_c80, List.forall_mem_cons.mpr ⟨m_c81, List.forall_mem_cons.mpr ⟨m_c82, List.forall_mem_cons.mpr ⟨m_c83, List.forall_mem_cons.mpr ⟨m_c84, List.forall_mem_cons.mpr ⟨m_c85, List.forall_mem_cons.mpr ⟨m_c86, List.forall_mem_cons.mpr ⟨m_c87, List.forall_mem_cons.mpr ⟨m_c88, List.forall_mem_cons.mpr ⟨m_c89, List.forall_mem_cons.mpr ⟨m_c90, fun _ h => absurd h List.not_mem_nil⟩⟩⟩⟩⟩⟩⟩⟩⟩⟩⟩⟩⟩⟩⟩⟩⟩⟩⟩⟩⟩⟩⟩⟩⟩⟩⟩⟩⟩⟩
theorem m_c91 : m_ok 91 = true := by decide +kernel
theorem m_c92 : m_ok 92 = true := by decide +kernel
theorem m_c93 : m_ok 93 = true := by decide +kernel
theorem m_c94 : m_ok 94 = true := by decide +kernel
theorem m_c95 : m_ok 95 = true := by decide +kernel
theorem m_c96 : m_ok 96 = true := by decide +kernel
theorem m_c97 : m_ok 97 = true := by decide +kernel
theorem m_c98 : m_ok 98 = true := by decide +kernel
theorem m_c99 : m_ok 99 = true := by decide +kernel
theorem m_c100 : m_ok 100 = true := by decide +kernel
theorem m_c101 : m_ok 101 = true := by decide +kernel
theorem m_c102 : m_ok 102 = true := by decide +kernel
theorem m_c103 : m_ok 103 = true := by decide +kernel
theorem m_c104 : m_ok 104 = true := by decide +kernel
theorem m_c105 : m_ok 105 = true := by decide +kernel
theorem m_c106 : m_ok 106 = true := by decide +kernel
theorem m_c107 : m_ok 107 = true := by decide +kernel
theorem m_c108 : m_ok 108 = true := by decide +kernel
theorem m_c109 : m_ok 109 = true := by decide +kernel
theorem m_c110 : m_ok 110 = true := by decide +kernel
theorem m_c111 : m_ok 111 = true := by decide +kernel
theorem m_c112 : m_ok 112 = true := by decide +kernel
theorem m_c113 : m_ok 113 = true := by decide +kernel
theorem m_c114 : m_ok 114 = true := by decide +kernel
theorem m_c115 : m_ok 115 = true := by decide +kernel
theorem m_c116 : m_ok 116 = true := by decide +kernel
theorem m_c117 : m_ok 117 = true := by decide +kernel
theorem m_c118 : m_ok 118 = true := by decide +kernel
theorem m_c119 : m_ok 119 = true := by decide +kernel
theorem m_c120 : m_ok 120 = true := by decide +kernel
theorem m_a91 : ∀ i ∈ [91, 92, 93, 94, 95, 96, 97, 98, 99, 100, 101, 102, 103, 104, 105, 106, 107, 108, 109, 110, 111, 112, 113, 114, 115, 116, 117, 118, 119, 120], m_ok i = true := List.forall_mem_cons.mpr ⟨m_c91, List.forall_mem_cons.mpr ⟨m_c92, List.forall_mem_cons.mpr ⟨m_c93, List.forall_mem_cons.mpr ⟨m_c94, List.forall_mem_cons.mpr ⟨m_c95, List.forall_mem_cons.mpr ⟨m_c96, List.forall_mem_cons.mpr ⟨m_c97, List.forall_mem_cons.mpr ⟨m_c98, List.forall_mem_cons.mpr ⟨m_c99, List.forall_mem_cons.mpr ⟨m_c100, List.forall_mem_cons.mpr ⟨m_c101, List.forall_mem_cons.mpr ⟨m_c102, List.forall_mem_cons.mpr ⟨m_c103, List.forall_mem_cons.mpr ⟨m_c104, List.forall_mem_cons.mpr ⟨m_c105, List.forall_mem_cons.mpr ⟨m_c106, List.forall_mem_cons.mpr ⟨m_c107, List.forall_mem_cons.mpr ⟨m_c108, List.forall_mem_cons.mpr ⟨m_c109, List.forall_mem_cons.mpr ⟨m_c110, List.forall_mem_cons.mpr ⟨m_c111, List.forall_mem_cons.mpr ⟨m_c112, List.forall_mem_cons.mpr ⟨m_c113, List.forall_mem_cons.mpr ⟨m_c114, List.forall_mem_cons.mpr ⟨m_c115, List.forall_mem_cons.mpr ⟨m_c116, List.forall_mem_cons.mpr ⟨m_c117, List.forall_mem_cons.mpr ⟨m_c118, List.forall_mem_cons.mpr ⟨m_c119, List.forall_mem_cons.mpr ⟨m_c120, fun _ h => absurd h List.not_mem_nil⟩⟩⟩⟩⟩⟩⟩⟩⟩⟩⟩⟩⟩⟩⟩⟩⟩⟩⟩⟩⟩⟩⟩⟩⟩⟩⟩⟩⟩⟩
theorem m_c121 : m_ok 121 = true := by decide +kernel
theorem m_c122 : m_ok 122 = true := by decide +kernel
theorem m_c123 : m_ok 123 = true := by decide +kernel
theorem m_c124 : m_ok 124 = true := by decide +kernel
theorem m_c125 : m_ok 125 = true := by decide +kernel
theorem m_c126 : m_ok 126 = true := by decide +kernel
theorem m_c127 : m_ok 127 = true := by decide +kernel
theorem m_c128 : m_ok 128 = true := by decide +kernel
theorem m_c129 : m_ok 129 = true := by decide +kernel
theorem m_c130 : m_ok 130 = true := by decide +kernel
theorem m_c131 : m_ok 131 = true := by decide +kernel
theorem m_c132 : m_ok 132 = true := by decide +kernel
theorem m_c133 : m_ok 133 = true := by decide +kernel
theorem m_c134 : m_ok 134 = true := by decide +kernel
theorem m_c135 : m_ok 135 = true := by decide +kernel
theorem m_c136 : m_ok 136 = true := by decide +kernel
theorem m_c137 : m_ok 137 = true := by decide +kernel
theorem m_c138 : m_ok 138 = true := by decide +kernel
theorem m_c139 : m_ok 139 = true := by decide +kernel
theorem m_c140 : m_ok 140 = true := by decide +kernel
theorem m_c141 : m_ok 141 = true := by decide +kernel
theorem m_c142 : m_ok 142 = true := by decide +kernel
theorem m_c143 : m_ok 143 = true := by decide +kernel
theorem m_c144 : m_ok 144 = true := by decide +kernel
theorem m_c145 : m_ok 145 = true := by decide +kernel
theorem m_c146 : m_ok 146 = true := by decide +kernel
theorem m_c147 : m_ok 147 = true := by decide +kernel
theorem m_c148 : m_ok 148 = true := by decide +kernel
theorem m_c149 : m_ok 149 = true := by decide +kernel
theorem m_c150 : m_ok 150 = true := by decide +kernel
theorem m_a121 : ∀ i ∈ [121, 122, 123, 124, 125, 126, 127, 128, 129, 130, 131, 132, 133, 134, 135, 136, 137, 138, 139, 140, 141, 142, 143, 144, 145, 146, 147, 148, 149, 150], m_ok i = true := List.forall_mem_cons.mpr ⟨m_c121, List.forall_mem_cons.mpr ⟨m_c122, List.forall_mem_cons.mpr ⟨m_c123, List.forall_mem_cons.mpr ⟨m_c124, List.forall_mem_cons.mpr ⟨m_c125, List.forall_mem_cons.mpr ⟨m_c126, List.forall_mem_cons.mpr ⟨m_c127, List.forall_mem_cons.mpr ⟨m_c128, List.forall_mem_cons.mpr ⟨m_c129, List.forall_mem_cons.mpr ⟨m_c130, List.forall_mem_cons.mpr ⟨m_c131, List.forall_mem_cons.mpr ⟨m_c132, List.forall_mem_cons.mpr ⟨m_c133, List.forall_mem_cons.mpr ⟨m_c134, List.forall_mem_cons.mpr ⟨m_c135, List.forall_mem_cons.mpr ⟨m_c136, List.forall_mem_cons.mpr ⟨m_c137, List.forall_mem_cons.mpr ⟨m_c138, List.forall_mem_cons.mpr ⟨m_c139, List.forall_mem_cons.mpr ⟨m_c140, List.forall_mem_cons.mpr ⟨m_c141, List.forall_mem_cons.mpr ⟨m_c142, List.forall_mem_cons.mpr ⟨m_c143, List.forall_mem_cons.mpr ⟨m_c144, List.forall_mem_cons.mpr ⟨m_c145, List.forall_mem_cons.mpr ⟨m_c146, List.forall_mem_cons.mpr ⟨m_c147, List.forall_mem_cons.mpr ⟨m_c148, List.forall_mem_cons.mpr ⟨m_c149, List.forall_mem_cons.mpr ⟨m_c150, fun _ h => absurd h List.not_mem_nil⟩⟩⟩⟩⟩⟩⟩⟩⟩⟩⟩⟩⟩⟩⟩⟩⟩⟩⟩⟩⟩⟩⟩⟩⟩⟩⟩⟩⟩⟩
theorem m_c151 : m_ok 151 = true := by decide +kernel
theorem m_c152 : m_ok 152 = true := by decide +kernel
theorem m_c153 : m_ok 153 = true := by decide +kernel
theorem m_c154 : m_ok 154 = true := by decide +kernel
theorem m_c155 : m_ok 155 = true := by decide +kernel
theorem m_c156 : m_ok 156 = true := by decide +kernel
theorem m_c157 : m_ok 157 = true := by decide +kernel
theorem m_c158 : m_ok 158 = true := by decide +kernel
theorem m_c159 : m_ok 159 = true := by decide +kernel
theorem m_c160 : m_ok 160 = true := by decide +kernel
theorem m_c161 : m_ok 161 = true := by decide +kernel
theorem m_c162 : m_ok 162 = true := by decide +kernel
theorem m_c163 : m_ok 163 = true := by decide +kernel
theorem m_c164 : m_ok 164 = true := by decide +kernel
theorem m_c165 : m_ok 165 = true := by decide +kernel
theorem m_c166 : m_ok 166 = true := by decide +kernel
theorem m_c167 : m_ok 167 = true := by decide +kernel
theorem m_c168 : m_ok 168 = true := by decide +kernel
theorem m_c169 : m_ok 169 = true := by decide +kernel
theorem m_c170 : m_ok 170 = true := by decide +kernel
theorem m_c171 : m_ok 171 = true := by decide +kernel
theorem m_c172 : m_ok 172 = true := by decide +kernel
theorem m_c173 : m_ok 173 = true := by decide +kernel
theorem m_c174 : m_ok 174 = true := by decide +kernel
theorem m_c175 : m_ok 175 = true := by decide +kernel
theorem m_c176 : m_ok 176 = true := by decide +kernel
theorem m_c177 : m_ok 177 = true := by decide +kernel
theorem m_c178 : m_ok 178 = true := by decide +kernel
theorem m_c179 : m_ok 179 = true := by decide +kernel
theorem m_c180 : m_ok 180 = true := by decide +kernel
theorem m_a151 : ∀ i ∈ [151, 152, 153, 154, 155, 156, 157, 158, 159, 160, 161, 162, 163, 164, 165, 166, 167, 168, 169, 170, 171, 172, 173, 174, 175, 176, 177, 178, 179, 180], m_ok i = true := List.forall_mem_cons.mpr ⟨m_c151, List.forall_mem_cons.mpr ⟨m_c152, List.forall_mem_cons.mpr ⟨m_c153, List.forall_mem_cons.mpr ⟨m_c154, List.forall_mem_cons.mpr ⟨m_c155, List.forall_mem_cons.mpr ⟨m_c156, List.forall_mem_cons.mpr ⟨m_c157, List.forall_mem_cons.mpr ⟨m_c158, List.forall_mem_cons.mpr ⟨m_c159, List.forall_mem_cons.mpr ⟨m_c160, List.forall_mem_cons.mpr ⟨m_c161, List.forall_mem_cons.mpr ⟨m_c162, List.forall_mem_cons.mpr ⟨m_c163, List.forall_mem_cons.mpr ⟨m_c164, List.forall_mem_cons.mpr ⟨m_c165, List.forall_mem_cons.mpr ⟨m_c166, List.forall_mem_cons.mpr ⟨m_c167, List.forall_mem_cons.mpr ⟨m_c168, List.forall_mem_cons.mpr ⟨m_c169, List.forall_mem_cons.mpr ⟨m_c170, List.forall_mem_cons.mpr ⟨m_c171, List.forall_mem_cons.mpr ⟨m_c172, List.forall_mem_cons.mpr ⟨m_c173, List.forall_mem_cons.mpr ⟨m_c174, List.forall_mem_cons.mpr ⟨m_c175, List.forall_mem_cons.mpr ⟨m_c176, List.forall_mem_cons.mpr ⟨m_c177, List.forall_mem_cons.mpr ⟨m_c178, List.forall_mem_cons.mpr ⟨m_c179, List.forall_mem_cons.mpr ⟨m_c180, fun _ h => absurd h List.not_mem_nil⟩⟩⟩⟩⟩⟩⟩⟩⟩⟩⟩⟩⟩⟩⟩⟩⟩⟩⟩⟩⟩⟩⟩⟩⟩⟩⟩⟩⟩⟩
theorem m_c181 : m_ok 181 = true := by decide +kernel
theorem m_c182 : m_ok 182 = true := by decide +kernel
theorem m_c183 : m_ok 183 = true := by decide +kernel
theorem m_c184 : m_ok 184 = true := by decide +kernel
theorem m_c185 : m_ok 185 = true := by decide +kernel
theorem m_c186 : m_ok 186 = true := by decide +kernel
theorem m_c187 : m_ok 187 = true := by decide +kernel
theorem m_c188 : m_ok 188 = true := by decide +kernel
theorem m_c189 : m_ok 189 = true := by decide +kernel
theorem m_c190 : m_ok 190 = true := by decide +kernel
theorem m_c191 : m_ok 191 = true := by decide +kernel
theorem m_c192 : m_ok 192 = true := by decide +kernel
theorem m_c193 : m_ok 193 = true := by decide +kernel
theorem m_c194 : m_ok 194 = true := by decide +kernel
theorem m_c195 : m_ok 195 = true := by decide +kernel
theorem m_c196 : m_ok 196 = true := by decide +kernel
theorem m_c197 : m_ok 197 = true := by decide +kernel
theorem m_c198 : m_ok 198 = true := by decide +kernel
theorem m_c199 : m_ok 199 = true := by decide +kernel
theorem m_c200 : m_ok 200 = true := by decide +kernel
theorem m_c201 : m_ok 201 = true := by decide +kernel
theorem m_c202 : m_ok 202 = true := by decide +kernel
theorem m_c203 : m_ok 203 = true := by decide +kernel
theorem m_c204 : m_ok 204 = true := by decide +kernel
theorem m_c205 : m_ok 205 = true := by decide +kernel
theorem m_c206 : m_ok 206 = true := by decide +kernel
theorem m_c207 : m_ok 207 = true := by decide +kernel
theorem m_c208 : m_ok 208 = true := by decide +kernel
theorem m_c209 : m_ok 209 = true := by decide +kernel
theorem m_c210 : m_ok 210 = true := by decide +kernel
theorem m_a181 : ∀ i ∈ [181, 182, 183, 184, 185, 186, 187, 188, 189, 190, 191, 192, 193, 194, 195, 196, 197, 198, 199, 200, 201, 202, 203, 204, 205, 206, 207, 208, 209, 210], m_ok i = true := List.forall_mem_cons.mpr ⟨m_c181, List.forall_mem_cons.mpr ⟨m_c182, List.forall_mem_cons.mpr ⟨m_c183, List.forall_mem_cons.mpr ⟨m_c184, List.forall_mem_cons.mpr ⟨m_c185, List.forall_mem_cons.mpr ⟨m_c186, List.forall_mem_cons.mpr ⟨m_c187, List.forall_mem_cons.mpr ⟨m_c188, List.forall_mem_cons.mpr ⟨m_c189, List.forall_mem_cons.mpr ⟨m_c190, List.forall_mem_cons.mpr ⟨m_c191, List.forall_mem_cons.mpr ⟨m_c192, List.forall_mem_cons.mpr ⟨m_c193, List.forall_mem_cons.mpr ⟨m_c194, List.forall_mem_cons.mpr ⟨m_c195, List.forall_mem_cons.mpr ⟨m_c196, List.forall_mem_cons.mpr ⟨m_c197, List.forall_mem_cons.mpr ⟨m_c198, List.forall_mem_cons.mpr ⟨m_c199, List.forall_mem_cons.mpr ⟨m_c200, List.forall_mem_cons.mpr ⟨m_c201, List.forall_mem_cons.mpr ⟨m_c202, List.forall_mem_cons.mpr ⟨m_c203, List.forall_mem_cons.mpr ⟨m_c204, List.forall_mem_cons.mpr ⟨m_c205, List.forall_mem_cons.mpr ⟨m_c206, List.forall_mem_cons.mpr ⟨m_c207, List.forall_mem_cons.mpr ⟨m_c208, List.forall_mem_cons.mpr ⟨m_c209, List.forall_mem_cons.mpr ⟨m_c210, fun _ h => absurd h List.not_mem_nil⟩⟩⟩⟩⟩⟩⟩⟩⟩⟩⟩⟩⟩⟩⟩⟩⟩⟩⟩⟩⟩⟩⟩⟩⟩⟩⟩⟩⟩⟩
theorem m_c211 : m_ok 211 = true := by decide +kernel
theorem m_c212 : m_ok 212 = true := by decide +kernel
theorem m_c213 : m_ok 213 = true := by decide +kernel
theorem m_c214 : m_ok 214 = true := by decide +kernel
theorem m_c215 : m_ok 215 = true := by decide +kernel
theorem m_c216 : m_ok 216 = true := by decide +kernel
theorem m_c217 : m_ok 217 = true := by decide +kernel
theorem m_c218 : m_ok 218 = true := by decide +kernel
theorem m_c219 : m_ok 219 = true := by decide +kernel
theorem m_c220 : m_ok 220 = true := by decide +kernel
theorem m_c221 : m_ok 221 = true := by decide +kernel
theorem m_c222 : m_ok 222 = true := by decide +kernel
theorem m_c223 : m_ok 223 = true := by decide +kernel
theorem m_a211 : ∀ i ∈ [211, 212, 213, 214, 215, 216, 217, 218, 219, 220, 221, 222, 223], m_ok i = true := List.forall_mem_cons.mpr ⟨m_c211, List.forall_mem_cons.mpr ⟨m_c212, List.forall_mem_cons.mpr ⟨m_c213, List.forall_mem_cons.mpr ⟨m_c214, List.forall_mem_cons.mpr ⟨m_c215, List.forall_mem_cons.mpr ⟨m_c216, List.forall_mem_cons.mpr ⟨m_c217, List.forall_mem_cons.mpr ⟨m_c218, List.forall_mem_cons.mpr ⟨m_c219, List.forall_mem_cons.mpr ⟨m_c220, List.forall_mem_cons.mpr ⟨m_c221, List.forall_mem_cons.mpr ⟨m_c222, List.forall_mem_cons.mpr ⟨m_c223, fun _ h => absurd h List.not_mem_nil⟩⟩⟩⟩⟩⟩⟩⟩⟩⟩⟩⟩⟩
theorem m_is {i : Nat} (h0 : 0 < i) (h : i < 224) : m_ok i = true := by
  rcases Nat.lt_or_ge i 31 with q1 | q1
  · exact m_a1 i (by rw [show i = i from rfl]; simp only [List.mem_cons, List.not_mem_nil, or_false]; omega)
  rcases Nat.lt_or_ge i 61 with q31 | q31
  · exact m_a31 i (by rw [show i = i from rfl]; simp only [List.mem_cons, List.not_mem_nil, or_false]; omega)
  rcases Nat.lt_or_ge i 91 with q61 | q61
  · exact m_a61 i (by rw [show i = i from rfl]; simp only [List.mem_cons, List.not_mem_nil, or_false]; omega)
  rcases Nat.lt_or_ge i 121 with q91 | q91
  · exact m_a91 i (by rw [show i = i from rfl]; simp only [List.mem_cons, List.not_mem_nil, or_false]; omega)
  rcases Nat.lt_or_ge i 151 with q121 | q121
  · exact m_a121 i (by rw [show i = i from rfl]; simp only [List.mem_cons, List.not_mem_nil, or_false]; omega)
  rcases Nat.lt_or_ge i 181 with q151 | q151
  · exact m_a151 i (by rw [show i = i from rfl]; simp only [List.mem_cons, List.not_mem_nil, or_false]; omega)
  rcases Nat.lt_or_ge i 211 with q181 | q181
  · exact m_a181 i (by rw [show i = i from rfl]; simp only [List.mem_cons, List.not_mem_nil, or_false]; omega)
  rcases Nat.lt_or_ge i 224 with q211 | q211
  · exact m_a211 i (by rw [show i = i from rfl]; simp only [List.mem_cons, List.not_mem_nil, or_false]; omega)
  omega
