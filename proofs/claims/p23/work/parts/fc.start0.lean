/-! the world at the start -/
def FL : List Cond := flatC (Jvm.Cond.and given_1 narrow_1)
def fxE : List Nat := [437, 131, 135, 143, 441, 147, 151, 155, 159, 445, 163, 449, 167, 199, 453, 223, 457, 461, 465, 469, 473, 477, 481, 203, 215, 219, 485, 489, 179, 175, 207, 211, 227, 183, 195, 139, 187, 191, 493, 497, 501, 505, 509, 123, 4, 8, 127, 171]
def fxO : List Nat := [438, 132, 136, 144, 442, 148, 152, 156, 160, 446, 164, 450, 168, 200, 454, 224, 458, 462, 466, 470, 474, 478, 482, 204, 216, 220, 486, 490, 180, 176, 208, 212, 228, 184, 196, 140, 188, 192, 494, 498, 502, 506, 510, 124, 5, 9, 128, 172]
def fxK : List Nat := [440, 134, 138, 146, 444, 150, 154, 158, 162, 448, 166, 452, 170, 202, 456, 226, 460, 464, 468, 472, 476, 480, 484, 206, 218, 222, 488, 492, 182, 178, 210, 214, 230, 186, 198, 142, 190, 194, 496, 500, 504, 508, 512, 126, 7, 11, 130, 174]
def fxT : List Nat := [439, 133, 137, 145, 443, 149, 153, 157, 161, 447, 165, 451, 169, 201, 455, 225, 459, 463, 467, 471, 475, 479, 483, 205, 217, 221, 487, 491, 181, 177, 209, 213, 229, 185, 197, 141, 189, 193, 495, 499, 503, 507, 511, 125, 6, 10, 129, 173]
def fxG : List Nat := [75, 76, 77, 78, 79, 80, 81, 82, 83, 84, 85, 86, 87, 88, 89, 90, 91, 92, 93, 94, 95, 96, 97, 98, 99, 100, 101, 102, 103, 104, 105, 106, 107, 108, 109, 110, 111, 112, 113, 114, 115, 116, 117, 118, 119, 120, 121, 122]
def fxM : List Nat := [17, 18, 19, 20, 21, 22, 23, 24, 25, 26, 27, 28, 29, 30, 31, 32, 33, 34, 35, 36, 37, 38, 39, 40, 41, 42, 43, 44, 45, 46, 47, 48, 49, 50, 51, 52, 53, 54, 55, 56, 57, 58, 59, 60, 61, 62, 63, 64]
def fxS : List Nat := [593, 620, 654, 698, 711, 721, 734, 745, 756, 761, 772, 782, 793, 803, 814, 823, 835, 845, 855, 860, 865, 869, 884, 889, 902, 912, 917, 930, 952, 965, 976, 986, 995, 1005, 1011, 1020, 1040, 1051, 1067, 1082, 1091, 1096, 1111, 1116, 1132, 1137, 1151, 1161, 1171, 1177, 1187, 1196, 1201, 1209, 1218, 1223, 1232, 1240, 1249, 1257, 1265, 1275, 1283, 1289, 1294, 1299, 1305, 1310, 1315, 1323, 1330, 1335, 1341, 1348, 1354, 1360, 1366, 1377, 1386, 1393, 1401, 1409, 1417, 1428, 1436, 1444, 1453, 1461, 1471, 1478, 1485, 1491, 1497, 1502, 1508]
def fxC : List Nat := [594, 621, 655, 699, 712, 722, 735, 746, 757, 762, 773, 783, 794, 804, 815, 824, 836, 846, 856, 861, 866, 870, 885, 890, 903, 913, 918, 931, 953, 966, 977, 987, 996, 1006, 1012, 1021, 1041, 1052, 1068, 1083, 1092, 1097, 1112, 1117, 1133, 1138, 1152, 1162, 1172, 1178, 1188, 1197, 1202, 1210, 1219, 1224, 1233, 1241, 1250, 1258, 1266, 1276, 1284, 1290, 1295, 1300, 1306, 1311, 1316, 1324, 1331, 1336, 1342, 1349, 1355, 1361, 1367, 1378, 1387, 1394, 1402, 1410, 1418, 1429, 1437, 1445, 1454, 1462, 1472, 1479, 1486, 1492, 1498, 1503, 1509]
def fxA : List Nat := [595, 622, 656, 700, 713, 723, 736, 747, 758, 763, 774, 784, 795, 805, 816, 825, 837, 847, 857, 862, 867, 871, 886, 891, 904, 914, 919, 932, 954, 967, 978, 988, 997, 1007, 1013, 1022, 1042, 1053, 1069, 1084, 1093, 1098, 1113, 1118, 1134, 1139, 1153, 1163, 1173, 1179, 1189, 1198, 1203, 1211, 1220, 1225, 1234, 1242, 1251, 1259, 1267, 1277, 1285, 1291, 1296, 1301, 1307, 1312, 1317, 1325, 1332, 1337, 1343, 1350, 1356, 1362, 1368, 1379, 1388, 1395, 1403, 1411, 1419, 1430, 1438, 1446, 1455, 1463, 1473, 1480, 1487, 1493, 1499, 1504, 1510]
def fxL : List Nat := [596, 623, 657, 701, 714, 724, 737, 748, 759, 764, 775, 785, 796, 806, 817, 826, 838, 848, 858, 863, 868, 872, 887, 892, 905, 915, 920, 933, 955, 968, 979, 989, 998, 1008, 1014, 1023, 1043, 1054, 1070, 1085, 1094, 1099, 1114, 1119, 1135, 1140, 1154, 1164, 1174, 1180, 1190, 1199, 1204, 1212, 1221, 1226, 1235, 1243, 1252, 1260, 1268, 1278, 1286, 1292, 1297, 1302, 1308, 1313, 1318, 1326, 1333, 1338, 1344, 1351, 1357, 1363, 1369, 1380, 1389, 1396, 1404, 1412, 1420, 1431, 1439, 1447, 1456, 1464, 1474, 1481, 1488, 1494, 1500, 1505, 1511]
def fxB : List Nat := [597, 624, 658, 702, 715, 725, 738, 749, 760, 765, 776, 786, 797, 807, 818, 827, 839, 849, 859, 864, 0, 873, 888, 893, 906, 916, 921, 934, 956, 969, 980, 990, 999, 1009, 1015, 1024, 1044, 1055, 1071, 1086, 1095, 1100, 1115, 1120, 1136, 1141, 1155, 1165, 1175, 1181, 1191, 0, 1205, 1213, 1222, 1227, 1236, 1244, 1253, 1261, 1269, 1279, 1287, 1293, 1298, 1303, 1309, 1314, 1319, 1327, 1334, 1339, 1345, 1352, 1358, 1364, 1370, 1381, 1390, 1397, 1405, 1413, 1421, 1432, 1440, 1448, 1457, 1465, 1475, 1482, 1489, 1495, 1501, 1506, 1512]
def twS : List Nat := [1512, 1000, 1007, 1015, 1513, 1030, 1032, 1034, 1036, 1514, 1051, 1515, 1066, 1110, 1516, 1150, 1517, 1518, 1519, 1520, 1521, 1522, 1523, 1124, 1134, 1136, 1524, 1525, 1100, 1094, 1126, 1128, 1156, 1102, 1108, 1009, 1104, 1106, 1526, 1527, 1528, 1529, 1530, 941, 281, 325, 954, 1092]
def twR : List Nat := [448, 561, 872, 1207, 1339, 1340, 1341, 1345, 1346, 1347, 1348, 1349, 1350, 1351, 1352, 1353, 1355, 1356, 1381, 1439, 1440, 1441, 1442, 1443, 1444, 1445, 1446, 1447, 1448, 1449, 1450, 1454, 1455, 1456, 1457, 1458, 1459, 1460, 1461, 1462, 1463, 1464, 1465, 1466, 1467, 1468, 1469, 1470, 1471, 1472, 1473, 1511, 1531, 1532, 1533, 1534, 1535, 1536, 1537, 1538, 1539, 1540, 1541, 1542, 1543, 1544, 1545, 1546, 1547, 1548, 1549, 1550, 1551, 1552, 1553, 1554, 1555, 1556, 1557, 1558, 1559, 1560, 1561, 1562, 1563, 1564, 1565, 1566, 1567, 1568, 1569, 1570, 1571, 1572, 1573]
theorem fl_E : ∀ i, i < 48 → FL[fxE.getD i 0]? = some (.exactly (.static RX7 (sgN.getD i "") "LFjordHaul$Sign;") RX7) := by decide +kernel
theorem fl_O : ∀ i, i < 48 → FL[fxO.getD i 0]? = some (.eq (.field (.static RX7 (sgN.getD i "") "LFjordHaul$Sign;") "java/lang/Enum" "ordinal" "I") (.int (nI i))) := by decide +kernel
theorem fl_K : ∀ i, i < 48 → FL[fxK.getD i 0]? = some (.eq (.field (.static RX7 (sgN.getD i "") "LFjordHaul$Sign;") RX7 "takes" "I") (.int (sgK.getD i 0))) := by decide +kernel
theorem fl_T : ∀ i, i < 48 → FL[fxT.getD i 0]? = some (.eq (.field (.static RX7 (sgN.getD i "") "LFjordHaul$Sign;") RX7 "text" "Ljava/lang/String;") (.string (stO.getD (sgT.getD i 0) ("", 0, "")).1 (stO.getD (sgT.getD i 0) ("", 0, "")).2.1)) ∧ sgT.getD i 0 < 95 := by decide +kernel
theorem fl_G : ∀ i, i < 48 → FL[fxG.getD i 0]? = some (.eq (.elem (.static RX9 "SIGNS" "[LFjordHaul$Sign;") (.int (Int32.ofNat i))) (.static RX7 (sgN.getD i "") "LFjordHaul$Sign;")) := by decide +kernel
theorem fl_M : ∀ i, i < 48 → FL[fxM.getD i 0]? = some (.eq (.elem (.static RX0 "$SwitchMap$FjordHaul$Sign" "[I") (.int (Int32.ofNat i))) (.int (smV.getD i 0))) := by decide +kernel
theorem fl_S : ∀ i, i < 95 → FL[fxS.getD i 0]? = some (.exactly (.string (stO.getD i ("", 0, "")).1 (stO.getD i ("", 0, "")).2.1) "java/lang/String") := by decide +kernel
theorem fl_C : ∀ i, i < 95 → FL[fxC.getD i 0]? = some (.eq (.field (.string (stO.getD i ("", 0, "")).1 (stO.getD i ("", 0, "")).2.1) "java/lang/String" "coder" "B") (.int 0)) := by decide +kernel
theorem fl_A : ∀ i, i < 95 → FL[fxA.getD i 0]? = some (.arrayOf (.field (.string (stO.getD i ("", 0, "")).1 (stO.getD i ("", 0, "")).2.1) "java/lang/String" "value" "[B") .byte) := by decide +kernel
theorem fl_L : ∀ i, i < 95 → FL[fxL.getD i 0]? = some (.eq (.length (.field (.string (stO.getD i ("", 0, "")).1 (stO.getD i ("", 0, "")).2.1) "java/lang/String" "value" "[B")) (.int (Int32.ofNat (stL.getD i 0)))) ∧ stL.getD i 0 < 100 := by decide +kernel
theorem fl_B0 : ∀ i, i < 12 → ∀ j, j < stL.getD (0 + i) 0 → FL[fxB.getD (0 + i) 0 + j]? = some (.eq (.elem (.field (.string (stO.getD (0 + i) ("", 0, "")).1 (stO.getD (0 + i) ("", 0, "")).2.1) "java/lang/String" "value" "[B") (.int (Int32.ofNat j))) (.int ((stB.getD (0 + i) []).getD j 0))) := by decide +kernel
theorem fl_B12 : ∀ i, i < 12 → ∀ j, j < stL.getD (12 + i) 0 → FL[fxB.getD (12 + i) 0 + j]? = some (.eq (.elem (.field (.string (stO.getD (12 + i) ("", 0, "")).1 (stO.getD (12 + i) ("", 0, "")).2.1) "java/lang/String" "value" "[B") (.int (Int32.ofNat j))) (.int ((stB.getD (12 + i) []).getD j 0))) := by decide +kernel
theorem fl_B24 : ∀ i, i < 12 → ∀ j, j < stL.getD (24 + i) 0 → FL[fxB.getD (24 + i) 0 + j]? = some (.eq (.elem (.field (.string (stO.getD (24 + i) ("", 0, "")).1 (stO.getD (24 + i) ("", 0, "")).2.1) "java/lang/String" "value" "[B") (.int (Int32.ofNat j))) (.int ((stB.getD (24 + i) []).getD j 0))) := by decide +kernel
theorem fl_B36 : ∀ i, i < 12 → ∀ j, j < stL.getD (36 + i) 0 → FL[fxB.getD (36 + i) 0 + j]? = some (.eq (.elem (.field (.string (stO.getD (36 + i) ("", 0, "")).1 (stO.getD (36 + i) ("", 0, "")).2.1) "java/lang/String" "value" "[B") (.int (Int32.ofNat j))) (.int ((stB.getD (36 + i) []).getD j 0))) := by decide +kernel
theorem fl_B48 : ∀ i, i < 12 → ∀ j, j < stL.getD (48 + i) 0 → FL[fxB.getD (48 + i) 0 + j]? = some (.eq (.elem (.field (.string (stO.getD (48 + i) ("", 0, "")).1 (stO.getD (48 + i) ("", 0, "")).2.1) "java/lang/String" "value" "[B") (.int (Int32.ofNat j))) (.int ((stB.getD (48 + i) []).getD j 0))) := by decide +kernel
theorem fl_B60 : ∀ i, i < 12 → ∀ j, j < stL.getD (60 + i) 0 → FL[fxB.getD (60 + i) 0 + j]? = some (.eq (.elem (.field (.string (stO.getD (60 + i) ("", 0, "")).1 (stO.getD (60 + i) ("", 0, "")).2.1) "java/lang/String" "value" "[B") (.int (Int32.ofNat j))) (.int ((stB.getD (60 + i) []).getD j 0))) := by decide +kernel
theorem fl_B72 : ∀ i, i < 12 → ∀ j, j < stL.getD (72 + i) 0 → FL[fxB.getD (72 + i) 0 + j]? = some (.eq (.elem (.field (.string (stO.getD (72 + i) ("", 0, "")).1 (stO.getD (72 + i) ("", 0, "")).2.1) "java/lang/String" "value" "[B") (.int (Int32.ofNat j))) (.int ((stB.getD (72 + i) []).getD j 0))) := by decide +kernel
theorem fl_B84 : ∀ i, i < 11 → ∀ j, j < stL.getD (84 + i) 0 → FL[fxB.getD (84 + i) 0 + j]? = some (.eq (.elem (.field (.string (stO.getD (84 + i) ("", 0, "")).1 (stO.getD (84 + i) ("", 0, "")).2.1) "java/lang/String" "value" "[B") (.int (Int32.ofNat j))) (.int ((stB.getD (84 + i) []).getD j 0))) := by decide +kernel
theorem fl_B (i : Nat) (hi : i < 95) (j : Nat) (hj : j < stL.getD i 0) : FL[fxB.getD (i) 0 + j]? = some (.eq (.elem (.field (.string (stO.getD (i) ("", 0, "")).1 (stO.getD (i) ("", 0, "")).2.1) "java/lang/String" "value" "[B") (.int (Int32.ofNat j))) (.int ((stB.getD (i) []).getD j 0))) := by
  by_cases h84 : 84 ≤ i
  · obtain ⟨k, rfl⟩ : ∃ k, i = 84 + k := ⟨i - 84, by omega⟩
    exact fl_B84 k (by omega) j hj
  by_cases h72 : 72 ≤ i
  · obtain ⟨k, rfl⟩ : ∃ k, i = 72 + k := ⟨i - 72, by omega⟩
    exact fl_B72 k (by omega) j hj
  by_cases h60 : 60 ≤ i
  · obtain ⟨k, rfl⟩ : ∃ k, i = 60 + k := ⟨i - 60, by omega⟩
    exact fl_B60 k (by omega) j hj
  by_cases h48 : 48 ≤ i
  · obtain ⟨k, rfl⟩ : ∃ k, i = 48 + k := ⟨i - 48, by omega⟩
    exact fl_B48 k (by omega) j hj
  by_cases h36 : 36 ≤ i
  · obtain ⟨k, rfl⟩ : ∃ k, i = 36 + k := ⟨i - 36, by omega⟩
    exact fl_B36 k (by omega) j hj
  by_cases h24 : 24 ≤ i
  · obtain ⟨k, rfl⟩ : ∃ k, i = 24 + k := ⟨i - 24, by omega⟩
    exact fl_B24 k (by omega) j hj
  by_cases h12 : 12 ≤ i
  · obtain ⟨k, rfl⟩ : ∃ k, i = 12 + k := ⟨i - 12, by omega⟩
    exact fl_B12 k (by omega) j hj
  have h0 : 0 ≤ i := Nat.zero_le _
  obtain ⟨k, rfl⟩ : ∃ k, i = 0 + k := ⟨i - 0, by omega⟩
  exact fl_B0 k (by omega) j hj
theorem fl_D1 : ∀ j, j < 100 → FL[234 + j]? = some (.eq (.elem (.static "java/lang/Integer" "DigitOnes" "[B") (.int (Int32.ofNat j))) (.int (nI (48 + j % 10)))) := by decide +kernel
theorem fl_D2 : ∀ j, j < 100 → FL[337 + j]? = some (.eq (.elem (.static "java/lang/Integer" "DigitTens" "[B") (.int (Int32.ofNat j))) (.int (nI (48 + j / 10)))) := by decide +kernel
theorem tw_S : ∀ i, i < 48 → lw_tbl[twS.getD i 0]? = some (.laysStatic RX7 (sgN.getD i "") "LFjordHaul$Sign;") := by decide +kernel
theorem tw_R : ∀ i, i < 95 → lw_tbl[twR.getD i 0]? = some (.stringRef (stO.getD i ("", 0, "")).1 (stO.getD i ("", 0, "")).2.1 (stO.getD i ("", 0, "")).2.2) := by decide +kernel
