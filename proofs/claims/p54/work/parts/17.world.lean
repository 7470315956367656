/-! what lies there from the start: constants, their texts, static arrays, the script -/
noncomputable def xFL : List Cond := flatC (Jvm.Cond.and given_1 narrow_1)
def xcE (i : Nat) : String := if i < 6 then "EstimateContest$Fault" else "EstimateContest$Command"
def xcN (i : Nat) : String := ["NONE", "NO_PLAYER", "NO_QUESTION", "OUT_OF_RANGE", "IS_OUT", "NOT_NOW", "PLAYER", "OPEN", "BET", "SETTLE", "LATER", "OUT"].getD i ""
def xcD (i : Nat) : String := if i < 6 then "LEstimateContest$Fault;" else "LEstimateContest$Command;"
def xcO (i : Nat) : Int32 := if i < 6 then Int32.ofNat i else Int32.ofNat (i - 6)
def xcT (i : Nat) : Term := .static (xcE i) (xcN i) (xcD i)
def xswF : List Int32 := [0, 1, 2, 3, 4, 5]
def xswC : List Int32 := [1, 2, 3, 4, 5, 0]
def xdO : List Int32 := [48, 49, 50, 51, 52, 53, 54, 55, 56, 57, 48, 49, 50, 51, 52, 53, 54, 55, 56, 57, 48, 49, 50, 51, 52, 53, 54, 55, 56, 57, 48, 49, 50, 51, 52, 53, 54, 55, 56, 57, 48, 49, 50, 51, 52, 53, 54, 55, 56, 57, 48, 49, 50, 51, 52, 53, 54, 55, 56, 57, 48, 49, 50, 51, 52, 53, 54, 55, 56, 57, 48, 49, 50, 51, 52, 53, 54, 55, 56, 57, 48, 49, 50, 51, 52, 53, 54, 55, 56, 57, 48, 49, 50, 51, 52, 53, 54, 55, 56, 57]
def xdT : List Int32 := [48, 48, 48, 48, 48, 48, 48, 48, 48, 48, 49, 49, 49, 49, 49, 49, 49, 49, 49, 49, 50, 50, 50, 50, 50, 50, 50, 50, 50, 50, 51, 51, 51, 51, 51, 51, 51, 51, 51, 51, 52, 52, 52, 52, 52, 52, 52, 52, 52, 52, 53, 53, 53, 53, 53, 53, 53, 53, 53, 53, 54, 54, 54, 54, 54, 54, 54, 54, 54, 54, 55, 55, 55, 55, 55, 55, 55, 55, 55, 55, 56, 56, 56, 56, 56, 56, 56, 56, 56, 56, 57, 57, 57, 57, 57, 57, 57, 57, 57, 57]
def xfK (j : Nat) : Nat := [46, 52, 55, 58, 61, 64, 144, 165, 167, 169, 175, 177, 179, 181, 182, 184, 186, 188, 190, 192, 198, 224, 233, 235, 237, 239].getD j 0
def xsN (j : Nat) : Nat := if j < 6 then 16 + j else 26 + j
def xsB (j : Nat) : Nat := if j < 6 then 24 + j else 46 + j
def xfO (j : Nat) : String := if j < 6 then "EstimateContest$Command" else "EstimateContestLaw"
def xfT (j : Nat) : Term := .string (xfO j) (xfK j)
def xfV (j : Nat) : Term := .field (xfT j) "java/lang/String" "value" "[B"
def xfb : List (List Int32) := [[112, 108, 97, 121, 101, 114], [111, 112, 101, 110, 32, 49], [98, 101, 116, 32, 49, 32, 50, 32, 51, 45, 51, 32, 49, 32, 50], [115, 101, 116, 116, 108, 101, 32, 51], [108, 97, 116, 101, 114], [111, 117, 116, 32, 49], [108, 97, 116, 101, 114, 59, 115, 101, 116, 116, 108, 101, 32, 49, 50, 48, 59, 115, 101, 116, 116, 108, 101, 32, 55], [111, 117, 116, 32, 57], [98, 101, 116, 32, 57, 32, 48, 32, 49, 45, 50, 32, 49, 32, 49], [111], [111, 120], [98, 101, 116, 32, 48, 32, 49, 32, 53], [98, 101, 116, 32, 48, 32, 49, 50, 51], [115, 101, 116, 116, 108, 101], [111, 112, 101, 110, 32, 51, 51], [], [108, 97, 116, 101, 114, 59], [115, 101, 116, 116, 108, 101, 32, 49, 50, 51, 52], [98, 101, 116, 32, 48, 32, 49, 32, 53, 45, 57, 32, 49, 32, 49, 50, 51], [122], [112, 108, 97, 121, 101, 114, 59, 112, 108, 97, 121, 101, 114, 59, 112, 108, 97, 121, 101, 114, 59, 111, 112, 101, 110, 32, 50, 59, 111, 112, 101, 110, 32, 49], [113, 48, 119, 50, 32, 48, 58], [45], [99, 53, 32, 49, 58], [99, 57, 32, 50, 58], [99, 50]]
def xfB (j : Nat) : List Int32 := xfb.getD j []
def xFn : Nat → Nat → Prop := fun z q => z ≤ q
def xm_ex_i : List Nat := [7, 25, 30, 5, 36, 10, 273, 282, 292, 303, 315, 328]
theorem xm_ex_g : ∀ i, i < 12 → xFL[xm_ex_i.getD i 0]? = some (Cond.exactly (xcT i) (xcE i)) := by decide +kernel
theorem xm_ex : ∀ i, i < 12 → Cond.exactly (xcT i) (xcE i) ∈ xFL := fun i hi => List.mem_of_getElem? (xm_ex_g i hi)
def xm_od_i : List Nat := [8, 26, 31, 6, 37, 11, 274, 283, 293, 304, 316, 329]
theorem xm_od_g : ∀ i, i < 12 → xFL[xm_od_i.getD i 0]? = some (Cond.eq (.field (xcT i) "java/lang/Enum" "ordinal" "I") (.int (xcO i))) := by decide +kernel
theorem xm_od : ∀ i, i < 12 → Cond.eq (.field (xcT i) "java/lang/Enum" "ordinal" "I") (.int (xcO i)) ∈ xFL := fun i hi => List.mem_of_getElem? (xm_od_g i hi)
def xm_fo_i : List Nat := [275, 284, 294, 305, 317, 330]
theorem xm_fo_g : ∀ i, i < 6 → xFL[xm_fo_i.getD i 0]? = some (Cond.eq (.field (xcT (6 + i)) "EstimateContest$Command" "form" "Ljava/lang/String;") (xfT i)) := by decide +kernel
theorem xm_fo : ∀ i, i < 6 → Cond.eq (.field (xcT (6 + i)) "EstimateContest$Command" "form" "Ljava/lang/String;") (xfT i) ∈ xFL := fun i hi => List.mem_of_getElem? (xm_fo_g i hi)
def xm_sx_i : List Nat := [1521, 1531, 1541, 1560, 1572, 1581, 1273, 1302, 1311, 1330, 1335, 1341, 1354, 1367, 1377, 1388, 1392, 1402, 1417, 1438, 1443, 1481, 1492, 1497, 1506, 1515]
theorem xm_sx_g : ∀ i, i < 26 → xFL[xm_sx_i.getD i 0]? = some (Cond.exactly (xfT i) "java/lang/String") := by decide +kernel
theorem xm_sx : ∀ i, i < 26 → Cond.exactly (xfT i) "java/lang/String" ∈ xFL := fun i hi => List.mem_of_getElem? (xm_sx_g i hi)
def xm_sc_i : List Nat := [1522, 1532, 1542, 1561, 1573, 1582, 1274, 1303, 1312, 1331, 1336, 1342, 1355, 1368, 1378, 1389, 1393, 1403, 1418, 1439, 1444, 1482, 1493, 1498, 1507, 1516]
theorem xm_sc_g : ∀ i, i < 26 → xFL[xm_sc_i.getD i 0]? = some (Cond.eq (.field (xfT i) "java/lang/String" "coder" "B") (.int 0)) := by decide +kernel
theorem xm_sc : ∀ i, i < 26 → Cond.eq (.field (xfT i) "java/lang/String" "coder" "B") (.int 0) ∈ xFL := fun i hi => List.mem_of_getElem? (xm_sc_g i hi)
def xm_sa_i : List Nat := [1523, 1533, 1543, 1562, 1574, 1583, 1275, 1304, 1313, 1332, 1337, 1343, 1356, 1369, 1379, 1390, 1394, 1404, 1419, 1440, 1445, 1483, 1494, 1499, 1508, 1517]
theorem xm_sa_g : ∀ i, i < 26 → xFL[xm_sa_i.getD i 0]? = some (Cond.arrayOf (xfV i) .byte) := by decide +kernel
theorem xm_sa : ∀ i, i < 26 → Cond.arrayOf (xfV i) .byte ∈ xFL := fun i hi => List.mem_of_getElem? (xm_sa_g i hi)
def xm_sl_i : List Nat := [1524, 1534, 1544, 1563, 1575, 1584, 1276, 1305, 1314, 1333, 1338, 1344, 1357, 1370, 1380, 1391, 1395, 1405, 1420, 1441, 1446, 1484, 1495, 1500, 1509, 1518]
theorem xm_sl_g : ∀ i, i < 26 → xFL[xm_sl_i.getD i 0]? = some (Cond.eq (.length (xfV i)) (.int (Int32.ofNat (xfB i).length))) := by decide +kernel
theorem xm_sl : ∀ i, i < 26 → Cond.eq (.length (xfV i)) (.int (Int32.ofNat (xfB i).length)) ∈ xFL := fun i hi => List.mem_of_getElem? (xm_sl_g i hi)
def xm_sb0_i : List Nat := [1525, 1526, 1527, 1528, 1529, 1530]
theorem xm_sb0_g : ∀ i, i < 6 → xFL[xm_sb0_i.getD i 0]? = some (Cond.eq (.elem (xfV 0) (.int (Int32.ofNat i))) (.int ((xfB 0).getD i 0))) := by decide +kernel
theorem xm_sb0 : ∀ i, i < 6 → Cond.eq (.elem (xfV 0) (.int (Int32.ofNat i))) (.int ((xfB 0).getD i 0)) ∈ xFL := fun i hi => List.mem_of_getElem? (xm_sb0_g i hi)
def xm_sb1_i : List Nat := [1535, 1536, 1537, 1538, 1539, 1540]
theorem xm_sb1_g : ∀ i, i < 6 → xFL[xm_sb1_i.getD i 0]? = some (Cond.eq (.elem (xfV 1) (.int (Int32.ofNat i))) (.int ((xfB 1).getD i 0))) := by decide +kernel
theorem xm_sb1 : ∀ i, i < 6 → Cond.eq (.elem (xfV 1) (.int (Int32.ofNat i))) (.int ((xfB 1).getD i 0)) ∈ xFL := fun i hi => List.mem_of_getElem? (xm_sb1_g i hi)
def xm_sb2_i : List Nat := [1545, 1546, 1547, 1548, 1549, 1550, 1551, 1552, 1553, 1554, 1555, 1556, 1557, 1558, 1559]
theorem xm_sb2_g : ∀ i, i < 15 → xFL[xm_sb2_i.getD i 0]? = some (Cond.eq (.elem (xfV 2) (.int (Int32.ofNat i))) (.int ((xfB 2).getD i 0))) := by decide +kernel
theorem xm_sb2 : ∀ i, i < 15 → Cond.eq (.elem (xfV 2) (.int (Int32.ofNat i))) (.int ((xfB 2).getD i 0)) ∈ xFL := fun i hi => List.mem_of_getElem? (xm_sb2_g i hi)
def xm_sb3_i : List Nat := [1564, 1565, 1566, 1567, 1568, 1569, 1570, 1571]
theorem xm_sb3_g : ∀ i, i < 8 → xFL[xm_sb3_i.getD i 0]? = some (Cond.eq (.elem (xfV 3) (.int (Int32.ofNat i))) (.int ((xfB 3).getD i 0))) := by decide +kernel
theorem xm_sb3 : ∀ i, i < 8 → Cond.eq (.elem (xfV 3) (.int (Int32.ofNat i))) (.int ((xfB 3).getD i 0)) ∈ xFL := fun i hi => List.mem_of_getElem? (xm_sb3_g i hi)
def xm_sb4_i : List Nat := [1576, 1577, 1578, 1579, 1580]
theorem xm_sb4_g : ∀ i, i < 5 → xFL[xm_sb4_i.getD i 0]? = some (Cond.eq (.elem (xfV 4) (.int (Int32.ofNat i))) (.int ((xfB 4).getD i 0))) := by decide +kernel
theorem xm_sb4 : ∀ i, i < 5 → Cond.eq (.elem (xfV 4) (.int (Int32.ofNat i))) (.int ((xfB 4).getD i 0)) ∈ xFL := fun i hi => List.mem_of_getElem? (xm_sb4_g i hi)
def xm_sb5_i : List Nat := [1585, 1586, 1587, 1588, 1589]
theorem xm_sb5_g : ∀ i, i < 5 → xFL[xm_sb5_i.getD i 0]? = some (Cond.eq (.elem (xfV 5) (.int (Int32.ofNat i))) (.int ((xfB 5).getD i 0))) := by decide +kernel
theorem xm_sb5 : ∀ i, i < 5 → Cond.eq (.elem (xfV 5) (.int (Int32.ofNat i))) (.int ((xfB 5).getD i 0)) ∈ xFL := fun i hi => List.mem_of_getElem? (xm_sb5_g i hi)
def xm_sb6_i : List Nat := [1277, 1278, 1279, 1280, 1281, 1282, 1283, 1284, 1285, 1286, 1287, 1288, 1289, 1290, 1291, 1292, 1293, 1294, 1295, 1296, 1297, 1298, 1299, 1300, 1301]
theorem xm_sb6_g : ∀ i, i < 25 → xFL[xm_sb6_i.getD i 0]? = some (Cond.eq (.elem (xfV 6) (.int (Int32.ofNat i))) (.int ((xfB 6).getD i 0))) := by decide +kernel
theorem xm_sb6 : ∀ i, i < 25 → Cond.eq (.elem (xfV 6) (.int (Int32.ofNat i))) (.int ((xfB 6).getD i 0)) ∈ xFL := fun i hi => List.mem_of_getElem? (xm_sb6_g i hi)
def xm_sb7_i : List Nat := [1306, 1307, 1308, 1309, 1310]
theorem xm_sb7_g : ∀ i, i < 5 → xFL[xm_sb7_i.getD i 0]? = some (Cond.eq (.elem (xfV 7) (.int (Int32.ofNat i))) (.int ((xfB 7).getD i 0))) := by decide +kernel
theorem xm_sb7 : ∀ i, i < 5 → Cond.eq (.elem (xfV 7) (.int (Int32.ofNat i))) (.int ((xfB 7).getD i 0)) ∈ xFL := fun i hi => List.mem_of_getElem? (xm_sb7_g i hi)
def xm_sb8_i : List Nat := [1315, 1316, 1317, 1318, 1319, 1320, 1321, 1322, 1323, 1324, 1325, 1326, 1327, 1328, 1329]
theorem xm_sb8_g : ∀ i, i < 15 → xFL[xm_sb8_i.getD i 0]? = some (Cond.eq (.elem (xfV 8) (.int (Int32.ofNat i))) (.int ((xfB 8).getD i 0))) := by decide +kernel
theorem xm_sb8 : ∀ i, i < 15 → Cond.eq (.elem (xfV 8) (.int (Int32.ofNat i))) (.int ((xfB 8).getD i 0)) ∈ xFL := fun i hi => List.mem_of_getElem? (xm_sb8_g i hi)
def xm_sb9_i : List Nat := [1334]
theorem xm_sb9_g : ∀ i, i < 1 → xFL[xm_sb9_i.getD i 0]? = some (Cond.eq (.elem (xfV 9) (.int (Int32.ofNat i))) (.int ((xfB 9).getD i 0))) := by decide +kernel
theorem xm_sb9 : ∀ i, i < 1 → Cond.eq (.elem (xfV 9) (.int (Int32.ofNat i))) (.int ((xfB 9).getD i 0)) ∈ xFL := fun i hi => List.mem_of_getElem? (xm_sb9_g i hi)
def xm_sb10_i : List Nat := [1339, 1340]
theorem xm_sb10_g : ∀ i, i < 2 → xFL[xm_sb10_i.getD i 0]? = some (Cond.eq (.elem (xfV 10) (.int (Int32.ofNat i))) (.int ((xfB 10).getD i 0))) := by decide +kernel
theorem xm_sb10 : ∀ i, i < 2 → Cond.eq (.elem (xfV 10) (.int (Int32.ofNat i))) (.int ((xfB 10).getD i 0)) ∈ xFL := fun i hi => List.mem_of_getElem? (xm_sb10_g i hi)
def xm_sb11_i : List Nat := [1345, 1346, 1347, 1348, 1349, 1350, 1351, 1352, 1353]
theorem xm_sb11_g : ∀ i, i < 9 → xFL[xm_sb11_i.getD i 0]? = some (Cond.eq (.elem (xfV 11) (.int (Int32.ofNat i))) (.int ((xfB 11).getD i 0))) := by decide +kernel
theorem xm_sb11 : ∀ i, i < 9 → Cond.eq (.elem (xfV 11) (.int (Int32.ofNat i))) (.int ((xfB 11).getD i 0)) ∈ xFL := fun i hi => List.mem_of_getElem? (xm_sb11_g i hi)
def xm_sb12_i : List Nat := [1358, 1359, 1360, 1361, 1362, 1363, 1364, 1365, 1366]
theorem xm_sb12_g : ∀ i, i < 9 → xFL[xm_sb12_i.getD i 0]? = some (Cond.eq (.elem (xfV 12) (.int (Int32.ofNat i))) (.int ((xfB 12).getD i 0))) := by decide +kernel
theorem xm_sb12 : ∀ i, i < 9 → Cond.eq (.elem (xfV 12) (.int (Int32.ofNat i))) (.int ((xfB 12).getD i 0)) ∈ xFL := fun i hi => List.mem_of_getElem? (xm_sb12_g i hi)
def xm_sb13_i : List Nat := [1371, 1372, 1373, 1374, 1375, 1376]
theorem xm_sb13_g : ∀ i, i < 6 → xFL[xm_sb13_i.getD i 0]? = some (Cond.eq (.elem (xfV 13) (.int (Int32.ofNat i))) (.int ((xfB 13).getD i 0))) := by decide +kernel
theorem xm_sb13 : ∀ i, i < 6 → Cond.eq (.elem (xfV 13) (.int (Int32.ofNat i))) (.int ((xfB 13).getD i 0)) ∈ xFL := fun i hi => List.mem_of_getElem? (xm_sb13_g i hi)
def xm_sb14_i : List Nat := [1381, 1382, 1383, 1384, 1385, 1386, 1387]
theorem xm_sb14_g : ∀ i, i < 7 → xFL[xm_sb14_i.getD i 0]? = some (Cond.eq (.elem (xfV 14) (.int (Int32.ofNat i))) (.int ((xfB 14).getD i 0))) := by decide +kernel
theorem xm_sb14 : ∀ i, i < 7 → Cond.eq (.elem (xfV 14) (.int (Int32.ofNat i))) (.int ((xfB 14).getD i 0)) ∈ xFL := fun i hi => List.mem_of_getElem? (xm_sb14_g i hi)
def xm_sb15_i : List Nat := []
theorem xm_sb15_g : ∀ i, i < 0 → xFL[xm_sb15_i.getD i 0]? = some (Cond.eq (.elem (xfV 15) (.int (Int32.ofNat i))) (.int ((xfB 15).getD i 0))) := by decide +kernel
theorem xm_sb15 : ∀ i, i < 0 → Cond.eq (.elem (xfV 15) (.int (Int32.ofNat i))) (.int ((xfB 15).getD i 0)) ∈ xFL := fun i hi => List.mem_of_getElem? (xm_sb15_g i hi)
def xm_sb16_i : List Nat := [1396, 1397, 1398, 1399, 1400, 1401]
theorem xm_sb16_g : ∀ i, i < 6 → xFL[xm_sb16_i.getD i 0]? = some (Cond.eq (.elem (xfV 16) (.int (Int32.ofNat i))) (.int ((xfB 16).getD i 0))) := by decide +kernel
theorem xm_sb16 : ∀ i, i < 6 → Cond.eq (.elem (xfV 16) (.int (Int32.ofNat i))) (.int ((xfB 16).getD i 0)) ∈ xFL := fun i hi => List.mem_of_getElem? (xm_sb16_g i hi)
def xm_sb17_i : List Nat := [1406, 1407, 1408, 1409, 1410, 1411, 1412, 1413, 1414, 1415, 1416]
theorem xm_sb17_g : ∀ i, i < 11 → xFL[xm_sb17_i.getD i 0]? = some (Cond.eq (.elem (xfV 17) (.int (Int32.ofNat i))) (.int ((xfB 17).getD i 0))) := by decide +kernel
theorem xm_sb17 : ∀ i, i < 11 → Cond.eq (.elem (xfV 17) (.int (Int32.ofNat i))) (.int ((xfB 17).getD i 0)) ∈ xFL := fun i hi => List.mem_of_getElem? (xm_sb17_g i hi)
def xm_sb18_i : List Nat := [1421, 1422, 1423, 1424, 1425, 1426, 1427, 1428, 1429, 1430, 1431, 1432, 1433, 1434, 1435, 1436, 1437]
theorem xm_sb18_g : ∀ i, i < 17 → xFL[xm_sb18_i.getD i 0]? = some (Cond.eq (.elem (xfV 18) (.int (Int32.ofNat i))) (.int ((xfB 18).getD i 0))) := by decide +kernel
theorem xm_sb18 : ∀ i, i < 17 → Cond.eq (.elem (xfV 18) (.int (Int32.ofNat i))) (.int ((xfB 18).getD i 0)) ∈ xFL := fun i hi => List.mem_of_getElem? (xm_sb18_g i hi)
def xm_sb19_i : List Nat := [1442]
theorem xm_sb19_g : ∀ i, i < 1 → xFL[xm_sb19_i.getD i 0]? = some (Cond.eq (.elem (xfV 19) (.int (Int32.ofNat i))) (.int ((xfB 19).getD i 0))) := by decide +kernel
theorem xm_sb19 : ∀ i, i < 1 → Cond.eq (.elem (xfV 19) (.int (Int32.ofNat i))) (.int ((xfB 19).getD i 0)) ∈ xFL := fun i hi => List.mem_of_getElem? (xm_sb19_g i hi)
def xm_sb20_i : List Nat := [1447, 1448, 1449, 1450, 1451, 1452, 1453, 1454, 1455, 1456, 1457, 1458, 1459, 1460, 1461, 1462, 1463, 1464, 1465, 1466, 1467, 1468, 1469, 1470, 1471, 1472, 1473, 1474, 1475, 1476, 1477, 1478, 1479, 1480]
theorem xm_sb20_g : ∀ i, i < 34 → xFL[xm_sb20_i.getD i 0]? = some (Cond.eq (.elem (xfV 20) (.int (Int32.ofNat i))) (.int ((xfB 20).getD i 0))) := by decide +kernel
theorem xm_sb20 : ∀ i, i < 34 → Cond.eq (.elem (xfV 20) (.int (Int32.ofNat i))) (.int ((xfB 20).getD i 0)) ∈ xFL := fun i hi => List.mem_of_getElem? (xm_sb20_g i hi)
def xm_sb21_i : List Nat := [1485, 1486, 1487, 1488, 1489, 1490, 1491]
theorem xm_sb21_g : ∀ i, i < 7 → xFL[xm_sb21_i.getD i 0]? = some (Cond.eq (.elem (xfV 21) (.int (Int32.ofNat i))) (.int ((xfB 21).getD i 0))) := by decide +kernel
theorem xm_sb21 : ∀ i, i < 7 → Cond.eq (.elem (xfV 21) (.int (Int32.ofNat i))) (.int ((xfB 21).getD i 0)) ∈ xFL := fun i hi => List.mem_of_getElem? (xm_sb21_g i hi)
def xm_sb22_i : List Nat := [1496]
theorem xm_sb22_g : ∀ i, i < 1 → xFL[xm_sb22_i.getD i 0]? = some (Cond.eq (.elem (xfV 22) (.int (Int32.ofNat i))) (.int ((xfB 22).getD i 0))) := by decide +kernel
theorem xm_sb22 : ∀ i, i < 1 → Cond.eq (.elem (xfV 22) (.int (Int32.ofNat i))) (.int ((xfB 22).getD i 0)) ∈ xFL := fun i hi => List.mem_of_getElem? (xm_sb22_g i hi)
def xm_sb23_i : List Nat := [1501, 1502, 1503, 1504, 1505]
theorem xm_sb23_g : ∀ i, i < 5 → xFL[xm_sb23_i.getD i 0]? = some (Cond.eq (.elem (xfV 23) (.int (Int32.ofNat i))) (.int ((xfB 23).getD i 0))) := by decide +kernel
theorem xm_sb23 : ∀ i, i < 5 → Cond.eq (.elem (xfV 23) (.int (Int32.ofNat i))) (.int ((xfB 23).getD i 0)) ∈ xFL := fun i hi => List.mem_of_getElem? (xm_sb23_g i hi)
def xm_sb24_i : List Nat := [1510, 1511, 1512, 1513, 1514]
theorem xm_sb24_g : ∀ i, i < 5 → xFL[xm_sb24_i.getD i 0]? = some (Cond.eq (.elem (xfV 24) (.int (Int32.ofNat i))) (.int ((xfB 24).getD i 0))) := by decide +kernel
theorem xm_sb24 : ∀ i, i < 5 → Cond.eq (.elem (xfV 24) (.int (Int32.ofNat i))) (.int ((xfB 24).getD i 0)) ∈ xFL := fun i hi => List.mem_of_getElem? (xm_sb24_g i hi)
def xm_sb25_i : List Nat := [1519, 1520]
theorem xm_sb25_g : ∀ i, i < 2 → xFL[xm_sb25_i.getD i 0]? = some (Cond.eq (.elem (xfV 25) (.int (Int32.ofNat i))) (.int ((xfB 25).getD i 0))) := by decide +kernel
theorem xm_sb25 : ∀ i, i < 2 → Cond.eq (.elem (xfV 25) (.int (Int32.ofNat i))) (.int ((xfB 25).getD i 0)) ∈ xFL := fun i hi => List.mem_of_getElem? (xm_sb25_g i hi)
theorem xm_sb : ∀ j, j < 26 → ∀ k, k < (xfB j).length → Cond.eq (.elem (xfV j) (.int (Int32.ofNat k))) (.int ((xfB j).getD k 0)) ∈ xFL := fun j hj => match j, hj with
  | 0, _ => xm_sb0
  | 1, _ => xm_sb1
  | 2, _ => xm_sb2
  | 3, _ => xm_sb3
  | 4, _ => xm_sb4
  | 5, _ => xm_sb5
  | 6, _ => xm_sb6
  | 7, _ => xm_sb7
  | 8, _ => xm_sb8
  | 9, _ => xm_sb9
  | 10, _ => xm_sb10
  | 11, _ => xm_sb11
  | 12, _ => xm_sb12
  | 13, _ => xm_sb13
  | 14, _ => xm_sb14
  | 15, _ => xm_sb15
  | 16, _ => xm_sb16
  | 17, _ => xm_sb17
  | 18, _ => xm_sb18
  | 19, _ => xm_sb19
  | 20, _ => xm_sb20
  | 21, _ => xm_sb21
  | 22, _ => xm_sb22
  | 23, _ => xm_sb23
  | 24, _ => xm_sb24
  | 25, _ => xm_sb25
  | j + 26, h => absurd h (by omega)
theorem xm_n0 : ∀ j, j < 0 → Cond.not (.eq (xcT 0) (xcT j)) ∈ xFL ∨ Cond.not (.eq (xcT j) (xcT 0)) ∈ xFL := fun j h => absurd h (Nat.not_lt_zero _)
theorem xm_n1 : ∀ j, j < 1 → Cond.not (.eq (xcT 1) (xcT j)) ∈ xFL ∨ Cond.not (.eq (xcT j) (xcT 1)) ∈ xFL := fun j hj => match j, hj with
  | 0, _ => Or.inr (List.mem_of_getElem? (i := 28) rfl)
  | j + 1, h => absurd h (by omega)
theorem xm_n2 : ∀ j, j < 2 → Cond.not (.eq (xcT 2) (xcT j)) ∈ xFL ∨ Cond.not (.eq (xcT j) (xcT 2)) ∈ xFL := fun j hj => match j, hj with
  | 0, _ => Or.inr (List.mem_of_getElem? (i := 33) rfl)
  | 1, _ => Or.inr (List.mem_of_getElem? (i := 35) rfl)
  | j + 2, h => absurd h (by omega)
theorem xm_n3 : ∀ j, j < 3 → Cond.not (.eq (xcT 3) (xcT j)) ∈ xFL ∨ Cond.not (.eq (xcT j) (xcT 3)) ∈ xFL := fun j hj => match j, hj with
  | 0, _ => Or.inl (List.mem_of_getElem? (i := 9) rfl)
  | 1, _ => Or.inl (List.mem_of_getElem? (i := 27) rfl)
  | 2, _ => Or.inl (List.mem_of_getElem? (i := 32) rfl)
  | j + 3, h => absurd h (by omega)
theorem xm_n4 : ∀ j, j < 4 → Cond.not (.eq (xcT 4) (xcT j)) ∈ xFL ∨ Cond.not (.eq (xcT j) (xcT 4)) ∈ xFL := fun j hj => match j, hj with
  | 0, _ => Or.inr (List.mem_of_getElem? (i := 39) rfl)
  | 1, _ => Or.inr (List.mem_of_getElem? (i := 41) rfl)
  | 2, _ => Or.inr (List.mem_of_getElem? (i := 42) rfl)
  | 3, _ => Or.inr (List.mem_of_getElem? (i := 38) rfl)
  | j + 4, h => absurd h (by omega)
theorem xm_n5 : ∀ j, j < 5 → Cond.not (.eq (xcT 5) (xcT j)) ∈ xFL ∨ Cond.not (.eq (xcT j) (xcT 5)) ∈ xFL := fun j hj => match j, hj with
  | 0, _ => Or.inr (List.mem_of_getElem? (i := 13) rfl)
  | 1, _ => Or.inl (List.mem_of_getElem? (i := 29) rfl)
  | 2, _ => Or.inl (List.mem_of_getElem? (i := 34) rfl)
  | 3, _ => Or.inr (List.mem_of_getElem? (i := 12) rfl)
  | 4, _ => Or.inl (List.mem_of_getElem? (i := 40) rfl)
  | j + 5, h => absurd h (by omega)
theorem xm_n6 : ∀ j, j < 6 → Cond.not (.eq (xcT 6) (xcT j)) ∈ xFL ∨ Cond.not (.eq (xcT j) (xcT 6)) ∈ xFL := fun j hj => match j, hj with
  | 0, _ => Or.inr (List.mem_of_getElem? (i := 277) rfl)
  | 1, _ => Or.inr (List.mem_of_getElem? (i := 279) rfl)
  | 2, _ => Or.inr (List.mem_of_getElem? (i := 280) rfl)
  | 3, _ => Or.inr (List.mem_of_getElem? (i := 276) rfl)
  | 4, _ => Or.inr (List.mem_of_getElem? (i := 281) rfl)
  | 5, _ => Or.inr (List.mem_of_getElem? (i := 278) rfl)
  | j + 6, h => absurd h (by omega)
theorem xm_n7 : ∀ j, j < 7 → Cond.not (.eq (xcT 7) (xcT j)) ∈ xFL ∨ Cond.not (.eq (xcT j) (xcT 7)) ∈ xFL := fun j hj => match j, hj with
  | 0, _ => Or.inr (List.mem_of_getElem? (i := 286) rfl)
  | 1, _ => Or.inr (List.mem_of_getElem? (i := 288) rfl)
  | 2, _ => Or.inr (List.mem_of_getElem? (i := 289) rfl)
  | 3, _ => Or.inr (List.mem_of_getElem? (i := 285) rfl)
  | 4, _ => Or.inr (List.mem_of_getElem? (i := 290) rfl)
  | 5, _ => Or.inr (List.mem_of_getElem? (i := 287) rfl)
  | 6, _ => Or.inr (List.mem_of_getElem? (i := 291) rfl)
  | j + 7, h => absurd h (by omega)
theorem xm_n8 : ∀ j, j < 8 → Cond.not (.eq (xcT 8) (xcT j)) ∈ xFL ∨ Cond.not (.eq (xcT j) (xcT 8)) ∈ xFL := fun j hj => match j, hj with
  | 0, _ => Or.inr (List.mem_of_getElem? (i := 296) rfl)
  | 1, _ => Or.inr (List.mem_of_getElem? (i := 298) rfl)
  | 2, _ => Or.inr (List.mem_of_getElem? (i := 299) rfl)
  | 3, _ => Or.inr (List.mem_of_getElem? (i := 295) rfl)
  | 4, _ => Or.inr (List.mem_of_getElem? (i := 300) rfl)
  | 5, _ => Or.inr (List.mem_of_getElem? (i := 297) rfl)
  | 6, _ => Or.inr (List.mem_of_getElem? (i := 301) rfl)
  | 7, _ => Or.inr (List.mem_of_getElem? (i := 302) rfl)
  | j + 8, h => absurd h (by omega)
theorem xm_n9 : ∀ j, j < 9 → Cond.not (.eq (xcT 9) (xcT j)) ∈ xFL ∨ Cond.not (.eq (xcT j) (xcT 9)) ∈ xFL := fun j hj => match j, hj with
  | 0, _ => Or.inr (List.mem_of_getElem? (i := 307) rfl)
  | 1, _ => Or.inr (List.mem_of_getElem? (i := 309) rfl)
  | 2, _ => Or.inr (List.mem_of_getElem? (i := 310) rfl)
  | 3, _ => Or.inr (List.mem_of_getElem? (i := 306) rfl)
  | 4, _ => Or.inr (List.mem_of_getElem? (i := 311) rfl)
  | 5, _ => Or.inr (List.mem_of_getElem? (i := 308) rfl)
  | 6, _ => Or.inr (List.mem_of_getElem? (i := 312) rfl)
  | 7, _ => Or.inr (List.mem_of_getElem? (i := 313) rfl)
  | 8, _ => Or.inr (List.mem_of_getElem? (i := 314) rfl)
  | j + 9, h => absurd h (by omega)
theorem xm_n10 : ∀ j, j < 10 → Cond.not (.eq (xcT 10) (xcT j)) ∈ xFL ∨ Cond.not (.eq (xcT j) (xcT 10)) ∈ xFL := fun j hj => match j, hj with
  | 0, _ => Or.inr (List.mem_of_getElem? (i := 319) rfl)
  | 1, _ => Or.inr (List.mem_of_getElem? (i := 321) rfl)
  | 2, _ => Or.inr (List.mem_of_getElem? (i := 322) rfl)
  | 3, _ => Or.inr (List.mem_of_getElem? (i := 318) rfl)
  | 4, _ => Or.inr (List.mem_of_getElem? (i := 323) rfl)
  | 5, _ => Or.inr (List.mem_of_getElem? (i := 320) rfl)
  | 6, _ => Or.inr (List.mem_of_getElem? (i := 324) rfl)
  | 7, _ => Or.inr (List.mem_of_getElem? (i := 325) rfl)
  | 8, _ => Or.inr (List.mem_of_getElem? (i := 326) rfl)
  | 9, _ => Or.inr (List.mem_of_getElem? (i := 327) rfl)
  | j + 10, h => absurd h (by omega)
theorem xm_n11 : ∀ j, j < 11 → Cond.not (.eq (xcT 11) (xcT j)) ∈ xFL ∨ Cond.not (.eq (xcT j) (xcT 11)) ∈ xFL := fun j hj => match j, hj with
  | 0, _ => Or.inr (List.mem_of_getElem? (i := 332) rfl)
  | 1, _ => Or.inr (List.mem_of_getElem? (i := 334) rfl)
  | 2, _ => Or.inr (List.mem_of_getElem? (i := 335) rfl)
  | 3, _ => Or.inr (List.mem_of_getElem? (i := 331) rfl)
  | 4, _ => Or.inr (List.mem_of_getElem? (i := 336) rfl)
  | 5, _ => Or.inr (List.mem_of_getElem? (i := 333) rfl)
  | 6, _ => Or.inr (List.mem_of_getElem? (i := 337) rfl)
  | 7, _ => Or.inr (List.mem_of_getElem? (i := 338) rfl)
  | 8, _ => Or.inr (List.mem_of_getElem? (i := 339) rfl)
  | 9, _ => Or.inr (List.mem_of_getElem? (i := 340) rfl)
  | 10, _ => Or.inr (List.mem_of_getElem? (i := 341) rfl)
  | j + 11, h => absurd h (by omega)
theorem xm_ne : ∀ i, i < 12 → ∀ j, j < i → Cond.not (.eq (xcT i) (xcT j)) ∈ xFL ∨ Cond.not (.eq (xcT j) (xcT i)) ∈ xFL := fun i hi => match i, hi with
  | 0, _ => xm_n0
  | 1, _ => xm_n1
  | 2, _ => xm_n2
  | 3, _ => xm_n3
  | 4, _ => xm_n4
  | 5, _ => xm_n5
  | 6, _ => xm_n6
  | 7, _ => xm_n7
  | 8, _ => xm_n8
  | 9, _ => xm_n9
  | 10, _ => xm_n10
  | 11, _ => xm_n11
  | i + 12, h => absurd h (by omega)
def xtF : Term := .static "EstimateContest$1" "$SwitchMap$EstimateContest$Fault" "[I"
theorem xm_Fa : Cond.arrayOf xtF .int ∈ xFL := List.mem_of_getElem? (i := 15) rfl
theorem xm_Fl : Cond.eq (.length xtF) (.int (Int32.ofNat 6)) ∈ xFL := List.mem_of_getElem? (i := 16) rfl
def xm_Fe_i : List Nat := [17, 18, 19, 20, 21, 22]
theorem xm_Fe_g : ∀ i, i < 6 → xFL[xm_Fe_i.getD i 0]? = some (Cond.eq (.elem xtF (.int (Int32.ofNat i))) (.int (xswF.getD i 0))) := by decide +kernel
theorem xm_Fe : ∀ i, i < 6 → Cond.eq (.elem xtF (.int (Int32.ofNat i))) (.int (xswF.getD i 0)) ∈ xFL := fun i hi => List.mem_of_getElem? (xm_Fe_g i hi)
def xtC : Term := .static "EstimateContest$1" "$SwitchMap$EstimateContest$Command" "[I"
theorem xm_Ca : Cond.arrayOf xtC .int ∈ xFL := List.mem_of_getElem? (i := 59) rfl
theorem xm_Cl : Cond.eq (.length xtC) (.int (Int32.ofNat 6)) ∈ xFL := List.mem_of_getElem? (i := 60) rfl
def xm_Ce_i : List Nat := [61, 62, 63, 64, 65, 66]
theorem xm_Ce_g : ∀ i, i < 6 → xFL[xm_Ce_i.getD i 0]? = some (Cond.eq (.elem xtC (.int (Int32.ofNat i))) (.int (xswC.getD i 0))) := by decide +kernel
theorem xm_Ce : ∀ i, i < 6 → Cond.eq (.elem xtC (.int (Int32.ofNat i))) (.int (xswC.getD i 0)) ∈ xFL := fun i hi => List.mem_of_getElem? (xm_Ce_g i hi)
def xtO : Term := .static "java/lang/Integer" "DigitOnes" "[B"
theorem xm_Oa : Cond.arrayOf xtO .byte ∈ xFL := List.mem_of_getElem? (i := 68) rfl
theorem xm_Ol : Cond.eq (.length xtO) (.int (Int32.ofNat 100)) ∈ xFL := List.mem_of_getElem? (i := 69) rfl
def xm_Oe_i : List Nat := [70, 71, 72, 73, 74, 75, 76, 77, 78, 79, 80, 81, 82, 83, 84, 85, 86, 87, 88, 89, 90, 91, 92, 93, 94, 95, 96, 97, 98, 99, 100, 101, 102, 103, 104, 105, 106, 107, 108, 109, 110, 111, 112, 113, 114, 115, 116, 117, 118, 119, 120, 121, 122, 123, 124, 125, 126, 127, 128, 129, 130, 131, 132, 133, 134, 135, 136, 137, 138, 139, 140, 141, 142, 143, 144, 145, 146, 147, 148, 149, 150, 151, 152, 153, 154, 155, 156, 157, 158, 159, 160, 161, 162, 163, 164, 165, 166, 167, 168, 169]
theorem xm_Oe_g : ∀ i, i < 100 → xFL[xm_Oe_i.getD i 0]? = some (Cond.eq (.elem xtO (.int (Int32.ofNat i))) (.int (xdO.getD i 0))) := by decide +kernel
theorem xm_Oe : ∀ i, i < 100 → Cond.eq (.elem xtO (.int (Int32.ofNat i))) (.int (xdO.getD i 0)) ∈ xFL := fun i hi => List.mem_of_getElem? (xm_Oe_g i hi)
def xtT : Term := .static "java/lang/Integer" "DigitTens" "[B"
theorem xm_Ta : Cond.arrayOf xtT .byte ∈ xFL := List.mem_of_getElem? (i := 171) rfl
theorem xm_Tl : Cond.eq (.length xtT) (.int (Int32.ofNat 100)) ∈ xFL := List.mem_of_getElem? (i := 172) rfl
def xm_Te_i : List Nat := [173, 174, 175, 176, 177, 178, 179, 180, 181, 182, 183, 184, 185, 186, 187, 188, 189, 190, 191, 192, 193, 194, 195, 196, 197, 198, 199, 200, 201, 202, 203, 204, 205, 206, 207, 208, 209, 210, 211, 212, 213, 214, 215, 216, 217, 218, 219, 220, 221, 222, 223, 224, 225, 226, 227, 228, 229, 230, 231, 232, 233, 234, 235, 236, 237, 238, 239, 240, 241, 242, 243, 244, 245, 246, 247, 248, 249, 250, 251, 252, 253, 254, 255, 256, 257, 258, 259, 260, 261, 262, 263, 264, 265, 266, 267, 268, 269, 270, 271, 272]
theorem xm_Te_g : ∀ i, i < 100 → xFL[xm_Te_i.getD i 0]? = some (Cond.eq (.elem xtT (.int (Int32.ofNat i))) (.int (xdT.getD i 0))) := by decide +kernel
theorem xm_Te : ∀ i, i < 100 → Cond.eq (.elem xtT (.int (Int32.ofNat i))) (.int (xdT.getD i 0)) ∈ xFL := fun i hi => List.mem_of_getElem? (xm_Te_g i hi)
def xtK : Term := .static "EstimateContest$CommandText" "COMMANDS" "[LEstimateContest$Command;"
theorem xm_Ka : Cond.arrayOf xtK (.object "EstimateContest$Command") ∈ xFL := List.mem_of_getElem? (i := 45) rfl
theorem xm_Kl : Cond.eq (.length xtK) (.int (Int32.ofNat 6)) ∈ xFL := List.mem_of_getElem? (i := 46) rfl
def xm_Ke_i : List Nat := [48, 49, 50, 51, 52, 53]
theorem xm_Ke_g : ∀ i, i < 6 → xFL[xm_Ke_i.getD i 0]? = some (Cond.eq (.elem xtK (.int (Int32.ofNat i))) (xcT (6 + i))) := by decide +kernel
theorem xm_Ke : ∀ i, i < 6 → Cond.eq (.elem xtK (.int (Int32.ofNat i))) (xcT (6 + i)) ∈ xFL := fun i hi => List.mem_of_getElem? (xm_Ke_g i hi)
theorem xm_Cs : Cond.eq (.static "java/lang/String" "COMPACT_STRINGS" "Z") (.int 1) ∈ xFL := List.mem_of_getElem? (i := 4) rfl
/-- two terms that are told to be one reference -/
theorem xeqr {args : Array Value} {s : State} {t u : Term} {a : Nat} (h : (Cond.eq t u).before args s = true) (hu : u.eval args s none [] s = some (.ref a)) : t.eval args s none [] s = some (.ref a) := by
  cases hv : t.eval args s none [] s with
  | none => simp [Cond.before, Cond.holds, Cond.value, hv] at h
  | some w =>
    simp only [Cond.before, Cond.holds, Cond.value, hv, hu] at h
    cases w <;> simp_all
theorem xblt_f {a b : Nat} (h : b ≤ a) : Nat.blt a b = false := by
  cases hq : Nat.blt a b with
  | false => rfl
  | true => exact absurd (xlt hq) (by omega)
theorem xbeq_f {a b : Nat} (h : a ≠ b) : Nat.beq a b = false := by
  cases hq : Nat.beq a b with
  | false => rfl
  | true => exact absurd (Nat.eq_of_beq_eq_true hq) h
def xsaOf (ad aS vS : Nat → Nat) (b t13 t14 t15 t22 t23 z : Nat) (k : Nat) : Nat :=
  bif Nat.blt k 12 then ad k else bif Nat.beq k 12 then b else bif Nat.beq k 13 then t13 else bif Nat.beq k 14 then t14 else bif Nat.beq k 15 then t15 else bif Nat.blt k 22 then aS (k - 16) else bif Nat.beq k 22 then t22 else bif Nat.beq k 23 then t23 else bif Nat.blt k 30 then vS (k - 24) else bif Nat.blt k 32 then 0 else bif Nat.blt k 52 then aS (6 + (k - 32)) else bif Nat.blt k 72 then vS (6 + (k - 52)) else z + (k - 72)
/-- the start -/
def xWd (s : State) (A : Array Value) (sa : Nat → Nat) (L : Nat) (xs : Nat → Int32) : Prop :=
  (∀ i, i < 12 → (xcT i).eval A s none [] s = some (.ref (sa i)) ∧ va_O (xcE i) (sa i) (xFn s.heap.size) s s.heap ∧ va_OF "java/lang/Enum" "ordinal" "I" (.int (xcO i)) (sa i) (xFn s.heap.size) s s.heap) ∧
  (∀ i j, i < 12 → j < 12 → sa i = sa j → i = j) ∧
  (∀ j, j < 6 → va_OF "EstimateContest$Command" "form" "Ljava/lang/String;" (.ref (sa (16 + j))) (sa (6 + j)) (xFn s.heap.size) s s.heap) ∧
  (∀ j, j < 26 → (xfT j).eval A s none [] s = some (.ref (sa (xsN j))) ∧ va_O "java/lang/String" (sa (xsN j)) (xFn s.heap.size) s s.heap ∧ va_OF "java/lang/String" "coder" "B" (.int 0) (sa (xsN j)) (xFn s.heap.size) s s.heap ∧ va_OF "java/lang/String" "value" "[B" (.ref (sa (xsB j))) (sa (xsN j)) (xFn s.heap.size) s s.heap ∧ va_T .byte (sa (xsB j)) (xfB j).length (fun k => .int ((xfB j).getD k 0)) (xFn s.heap.size) s s.heap) ∧
  va_X (sa 12) L xs s s.heap ∧
  (xtF.eval A s none [] s = some (.ref (sa 13)) ∧ va_T .int (sa 13) 6 (fun k => .int (xswF.getD k 0)) (xFn s.heap.size) s s.heap) ∧
  (xtC.eval A s none [] s = some (.ref (sa 14)) ∧ va_T .int (sa 14) 6 (fun k => .int (xswC.getD k 0)) (xFn s.heap.size) s s.heap) ∧
  (xtK.eval A s none [] s = some (.ref (sa 15)) ∧ va_T (.object "EstimateContest$Command") (sa 15) 6 (fun k => .ref (sa (6 + k))) (xFn s.heap.size) s s.heap) ∧
  (xtO.eval A s none [] s = some (.ref (sa 22)) ∧ va_T .byte (sa 22) 100 (fun k => .int (xdO.getD k 0)) (xFn s.heap.size) s s.heap) ∧
  (xtT.eval A s none [] s = some (.ref (sa 23)) ∧ va_T .byte (sa 23) 100 (fun k => .int (xdT.getD k 0)) (xFn s.heap.size) s s.heap) ∧
  (Term.static "java/lang/String" "COMPACT_STRINGS" "Z").eval A s none [] s = some (.int 1) ∧ xSA s sa 72 ∧ sa 12 < s.heap.size
theorem va_T.cong {ty : FieldType} {t N : Nat} {f g : Nat → Value} {A : Nat → Prop} {U : State} {H : Heap} (h : va_T ty t N f A U H) (e : ∀ k, k < N → f k = g k) : va_T ty t N g A U H := by
  obtain ⟨cell, h1, h2, h3, h4, h5, h6, h7⟩ := h
  exact ⟨cell, h1, h2, h3, h4, h5, fun j hj => by rw [h6 j hj, e j hj], h7⟩
theorem xworld {s : State} {A : Array Value} {b L : Nat} {xs : Nat → Int32} (hgv : (Jvm.Cond.and given_1 narrow_1).before A s = true) (hX : va_X b L xs s s.heap) (hb : b < s.heap.size) : ∃ sa : Nat → Nat, xWd s A sa L xs ∧ sa 12 = b := by
  have hs : ∀ c ∈ xFL, c.before A s = true := flat_of_before _ hgv
  have hA : ∀ q : Nat, q < s.heap.size → ¬ xFn s.heap.size q := fun q h z => absurd h (Nat.not_lt.mpr z)
  have h0 : ∀ i : Nat, ∃ t : Nat, i < 12 → (xcT i).eval A s none [] s = some (.ref t) ∧ va_O (xcE i) t (xFn s.heap.size) s s.heap ∧ va_OF "java/lang/Enum" "ordinal" "I" (.int (xcO i)) t (xFn s.heap.size) s s.heap := by
    intro i
    by_cases hi : i < 12
    · obtain ⟨a, c, cell, k, q1, q2, q3, q4, q5, q6, -⟩ := Cond.exactly_spec (args := A) (first := s) (o := none) (s := s) (idx := []) (hs _ (xm_ex i hi))
      exact ⟨a, fun _ => ⟨q1, ⟨cell, q3, q5, by rw [q6]; exact q2, hA a (Array.getElem?_eq_some_iff.mp q3).1⟩, vk_OFof q1 (va_eqt (hs _ (xm_od i hi))) hA⟩⟩
    · exact ⟨0, fun h => absurd h hi⟩
  have h1 : ∀ j : Nat, ∃ q : Nat × Nat, j < 26 → (xfT j).eval A s none [] s = some (.ref q.1) ∧ va_O "java/lang/String" q.1 (xFn s.heap.size) s s.heap ∧ va_OF "java/lang/String" "coder" "B" (.int 0) q.1 (xFn s.heap.size) s s.heap ∧ va_OF "java/lang/String" "value" "[B" (.ref q.2) q.1 (xFn s.heap.size) s s.heap ∧ va_T .byte q.2 (xfB j).length (fun k => .int ((xfB j).getD k 0)) (xFn s.heap.size) s s.heap := by
    intro j
    by_cases hj : j < 26
    · obtain ⟨a, c, cell, k, q1, q2, q3, q4, q5, q6, -⟩ := Cond.exactly_spec (args := A) (first := s) (o := none) (s := s) (idx := []) (hs _ (xm_sx j hj))
      have hlen : (xfB j).length < 2 ^ 31 := by
        have : ∀ j, j < 26 → (xfB j).length < 2 ^ 31 := by decide +kernel
        exact this j hj
      obtain ⟨t, ht, hT⟩ := va_Tof (f := fun k => .int ((xfB j).getD k 0)) (A := xFn s.heap.size) hlen (hs _ (xm_sa j hj)) (va_eqt (hs _ (xm_sl j hj))) (fun k hk => va_eqt (hs _ (xm_sb j hj k hk))) hA
      exact ⟨(a, t), fun _ => ⟨q1, ⟨cell, q3, q5, by rw [q6]; exact q2, hA a (Array.getElem?_eq_some_iff.mp q3).1⟩, vk_OFof q1 (va_eqt (hs _ (xm_sc j hj))) hA, vk_OFof q1 ht hA, hT⟩⟩
    · exact ⟨(0, 0), fun h => absurd h hj⟩
  obtain ⟨ad, had⟩ := Classical.axiomOfChoice h0
  obtain ⟨aS, haS⟩ := Classical.axiomOfChoice h1
  obtain ⟨t13, e13, T13⟩ := va_Tof (N := 6) (f := fun k => .int (xswF.getD k 0)) (A := xFn s.heap.size) (by decide) (hs _ xm_Fa) (va_eqt (hs _ xm_Fl)) (fun k hk => va_eqt (hs _ (xm_Fe k hk))) hA
  obtain ⟨t14, e14, T14⟩ := va_Tof (N := 6) (f := fun k => .int (xswC.getD k 0)) (A := xFn s.heap.size) (by decide) (hs _ xm_Ca) (va_eqt (hs _ xm_Cl)) (fun k hk => va_eqt (hs _ (xm_Ce k hk))) hA
  obtain ⟨t22, e22, T22⟩ := va_Tof (N := 100) (f := fun k => .int (xdO.getD k 0)) (A := xFn s.heap.size) (by decide) (hs _ xm_Oa) (va_eqt (hs _ xm_Ol)) (fun k hk => va_eqt (hs _ (xm_Oe k hk))) hA
  obtain ⟨t23, e23, T23⟩ := va_Tof (N := 100) (f := fun k => .int (xdT.getD k 0)) (A := xFn s.heap.size) (by decide) (hs _ xm_Ta) (va_eqt (hs _ xm_Tl)) (fun k hk => va_eqt (hs _ (xm_Te k hk))) hA
  obtain ⟨t15, e15, T15⟩ := va_Tof (N := 6) (f := fun k => .ref (ad (6 + k))) (A := xFn s.heap.size) (by decide) (hs _ xm_Ka) (va_eqt (hs _ xm_Kl)) (fun k hk => xeqr (hs _ (xm_Ke k hk)) (had (6 + k) (by omega)).1) hA
  have sA : ∀ i, i < 12 → xsaOf ad (fun j => (aS j).1) (fun j => (aS j).2) b t13 t14 t15 t22 t23 s.heap.size i = ad i := by
    intro i hi
    unfold xsaOf
    rw [show Nat.blt i 12 = true from Nat.ble_eq_true_of_le hi]
    rfl
  have sS : ∀ j, j < 26 → xsaOf ad (fun j => (aS j).1) (fun j => (aS j).2) b t13 t14 t15 t22 t23 s.heap.size (xsN j) = (aS j).1 := by
    intro j hj
    match j, hj with
    | 0, _ => rfl
    | 1, _ => rfl
    | 2, _ => rfl
    | 3, _ => rfl
    | 4, _ => rfl
    | 5, _ => rfl
    | 6, _ => rfl
    | 7, _ => rfl
    | 8, _ => rfl
    | 9, _ => rfl
    | 10, _ => rfl
    | 11, _ => rfl
    | 12, _ => rfl
    | 13, _ => rfl
    | 14, _ => rfl
    | 15, _ => rfl
    | 16, _ => rfl
    | 17, _ => rfl
    | 18, _ => rfl
    | 19, _ => rfl
    | 20, _ => rfl
    | 21, _ => rfl
    | 22, _ => rfl
    | 23, _ => rfl
    | 24, _ => rfl
    | 25, _ => rfl
    | j + 26, hj => omega
  have sV : ∀ j, j < 26 → xsaOf ad (fun j => (aS j).1) (fun j => (aS j).2) b t13 t14 t15 t22 t23 s.heap.size (xsB j) = (aS j).2 := by
    intro j hj
    match j, hj with
    | 0, _ => rfl
    | 1, _ => rfl
    | 2, _ => rfl
    | 3, _ => rfl
    | 4, _ => rfl
    | 5, _ => rfl
    | 6, _ => rfl
    | 7, _ => rfl
    | 8, _ => rfl
    | 9, _ => rfl
    | 10, _ => rfl
    | 11, _ => rfl
    | 12, _ => rfl
    | 13, _ => rfl
    | 14, _ => rfl
    | 15, _ => rfl
    | 16, _ => rfl
    | 17, _ => rfl
    | 18, _ => rfl
    | 19, _ => rfl
    | 20, _ => rfl
    | 21, _ => rfl
    | 22, _ => rfl
    | 23, _ => rfl
    | 24, _ => rfl
    | 25, _ => rfl
    | j + 26, hj => omega
  refine ⟨xsaOf ad (fun j => (aS j).1) (fun j => (aS j).2) b t13 t14 t15 t22 t23 s.heap.size, ⟨?_, ?_, ?_, ?_, hX, ⟨e13, T13⟩, ⟨e14, T14⟩, ⟨e15, T15.cong (fun k hk => ?_)⟩, ⟨e22, T22⟩, ⟨e23, T23⟩, va_eqt (hs _ xm_Cs), ?_, hb⟩, rfl⟩
  · intro i hi
    rw [sA i hi]
    exact had i hi
  · intro i j hi hj e
    rw [sA i hi, sA j hj] at e
    by_cases hij : i = j
    · exact hij
    · rcases Nat.lt_or_gt_of_ne hij with h | h
      · rcases xm_ne j hj i h with m | m
        · exact absurd e.symm (va_neR (hs _ m) (had j hj).1 (had i hi).1)
        · exact absurd e (va_neR (hs _ m) (had i hi).1 (had j hj).1)
      · rcases xm_ne i hi j h with m | m
        · exact absurd e (va_neR (hs _ m) (had i hi).1 (had j hj).1)
        · exact absurd e.symm (va_neR (hs _ m) (had j hj).1 (had i hi).1)
  · intro j hj
    have e9 := sS j (by omega)
    rw [show xsN j = 16 + j from if_pos hj] at e9
    rw [e9, sA (6 + j) (by omega)]
    exact vk_OFof (had (6 + j) (by omega)).1 (xeqr (hs _ (xm_fo j hj)) (haS j (by omega)).1) hA
  · intro j hj
    rw [sS j hj, sV j hj]
    exact haS j hj
  · show Value.ref (ad (6 + k)) = .ref _
    rw [sA (6 + k) (by omega)]
  · intro k hk
    unfold xsaOf
    rw [show Nat.blt k 12 = false from xblt_f (by omega), xbeq_f (show k ≠ 12 by omega), xbeq_f (show k ≠ 13 by omega), xbeq_f (show k ≠ 14 by omega), xbeq_f (show k ≠ 15 by omega), show Nat.blt k 22 = false from xblt_f (by omega), xbeq_f (show k ≠ 22 by omega), xbeq_f (show k ≠ 23 by omega), show Nat.blt k 30 = false from xblt_f (by omega), show Nat.blt k 32 = false from xblt_f (by omega), show Nat.blt k 52 = false from xblt_f (by omega), show Nat.blt k 72 = false from xblt_f (by omega)]
    rfl
