/-- what is checked of a method: the places of its words: its code, its class made, instance or static, the choice of it -/
def aMethB (y : Nat) (q : Nat × Nat × Nat × Nat) : Bool :=
  decide (tables_1[q.1]? = some (.code (amYn y) (amBy y) (amInf y).2.1 (amInf y).2.2.1)) && decide (tables_1[q.2.1]? = some (.initialized (amYn y).cls)) &&
  (if (amInf y).2.2.2.1 = 200 then decide (tables_1[q.2.2.1]? = some (.static (amYn y))) else decide (tables_1[q.2.2.1]? = some (.instanceMethod (amYn y))) && decide (lw_tbl[q.2.2.2]? = some (.selects (amYn y).cls (amYn y) (amYn y))) &&
    decide ((amYn y).cls = if (amInf y).2.2.2.1 = 100 then "java/lang/String" else amOwn (amInf y).2.2.2.1) && decide ((amInf y).2.2.2.1 = 100 ∨ ((amC[(amInf y).2.2.2.1]?).map (fun z => z.1) = some (amYn y).cls ∧ (amInf y).2.2.2.1 < 12))) &&
  decide (plainName (amYn y).cls = true ∨ ((amYn y).cls = "java/lang/Math" ∧ ((amYn y).desc = "(II)I" ∨ (amYn y).desc = "(I)I" ∨ (amYn y).desc = "(J)J"))) && decide ((amYn y).cls ≠ "java/lang/invoke/MethodHandle") && decide ((amYn y).cls ≠ "java/lang/invoke/VarHandle") && decide ((parseMethodDescriptor (amYn y).desc).map (fun d => d.parameters.length) = some (amInf y).2.2.2.2.1) && decide ((amInf y).2.1 ≤ 50) && decide ((amYn y).cls = amOwn (amInf y).1)
def amMP : List (Nat × Nat × Nat × Nat) := [(765, 8, 764, 45), (822, 8, 821, 52), (865, 8, 864, 58), (870, 8, 869, 59), (875, 8, 874, 60), (887, 8, 886, 62), (881, 8, 880, 61), (896, 8, 895, 63), (900, 8, 899, 64), (904, 8, 903, 65), (913, 8, 912, 66), (919, 8, 918, 67), (928, 8, 927, 68), (980, 11, 979, 72), (984, 3, 983, 73), (397, 3, 396, 2), (653, 3, 652, 28), (657, 3, 656, 29), (661, 3, 660, 30), (392, 3, 391, 1), (734, 3, 733, 41), (387, 3, 386, 0), (752, 3, 751, 43), (756, 3, 755, 44), (670, 3, 669, 31), (698, 3, 697, 34), (702, 3, 701, 35), (708, 3, 707, 36), (713, 3, 712, 37), (717, 3, 716, 38), (721, 3, 720, 39), (725, 3, 724, 40), (739, 3, 738, 42), (441, 5, 440, 7), (640, 5, 639, 27), (620, 5, 619, 22), (636, 5, 635, 26), (678, 5, 677, 32), (682, 5, 681, 33), (686, 5, 685, 0), (689, 5, 688, 0), (437, 6, 436, 6), (587, 6, 586, 14), (628, 6, 627, 24), (632, 6, 631, 25), (600, 6, 599, 17), (604, 6, 603, 18), (608, 6, 607, 19), (624, 6, 623, 23), (612, 6, 611, 20), (616, 6, 615, 21), (596, 6, 595, 16), (592, 6, 591, 15), (942, 10, 941, 69), (949, 10, 948, 70), (959, 10, 958, 71), (405, 2, 404, 3), (417, 2, 416, 4), (425, 4, 424, 5), (449, 4, 448, 9), (445, 4, 444, 8), (456, 4, 455, 10), (470, 4, 469, 12), (474, 4, 473, 13), (466, 4, 465, 11), (452, 4, 451, 0), (459, 4, 458, 0), (462, 4, 461, 0), (777, 7, 776, 47), (805, 7, 804, 48), (831, 7, 830, 54), (810, 7, 809, 49), (814, 7, 813, 50), (818, 7, 817, 51), (827, 9, 826, 53), (837, 9, 836, 55), (845, 9, 844, 56), (375, 1, 373, 497), (401, 1, 399, 523), (413, 1, 411, 535), (421, 1, 419, 543), (429, 1, 427, 551), (433, 1, 431, 555), (645, 1, 643, 767), (649, 1, 647, 771), (665, 1, 663, 787), (694, 1, 692, 816), (744, 1, 742, 866), (748, 1, 746, 870), (761, 1, 759, 883), (769, 1, 767, 891), (782, 1, 780, 904), (786, 1, 784, 908), (791, 1, 789, 913), (798, 1, 796, 920), (849, 1, 847, 971), (853, 1, 851, 975), (857, 1, 855, 979), (892, 1, 890, 1014), (908, 1, 906, 1030), (924, 1, 922, 1046), (935, 1, 933, 1057), (954, 1, 952, 1076), (963, 1, 961, 1085), (975, 1, 973, 1097), (990, 1, 988, 1112), (861, 1, 860, 57), (773, 1, 772, 46), (967, 1, 966, 0), (938, 1, 937, 0), (794, 1, 793, 0), (378, 1, 377, 0), (408, 1, 407, 0), (801, 1, 800, 0), (383, 1, 382, 0), (1231, 12, 1230, 75), (1480, 12, 1479, 115), (1227, 12, 1226, 74), (1223, 12, 1221, 1345), (1236, 12, 1234, 1358), (1240, 12, 1238, 1362), (1248, 12, 1247, 76), (1244, 12, 1242, 1366), (1252, 12, 1250, 1374), (1268, 12, 1267, 79), (1272, 12, 1271, 80), (1280, 12, 1279, 82), (1284, 12, 1283, 83), (1276, 12, 1275, 81), (1264, 12, 1263, 78), (1288, 12, 1287, 84), (1316, 12, 1315, 91), (1296, 12, 1295, 86), (1304, 12, 1303, 88), (1312, 12, 1311, 90), (1308, 12, 1307, 89), (1300, 12, 1299, 87), (1292, 12, 1291, 85), (1328, 12, 1327, 94), (1324, 12, 1323, 93), (1320, 12, 1319, 92), (1260, 12, 1259, 77), (1256, 12, 1254, 1378), (1332, 12, 1330, 1454), (1356, 12, 1355, 98), (1352, 12, 1351, 97), (1348, 12, 1347, 96), (1344, 12, 1343, 95), (1336, 12, 1334, 1458), (1340, 12, 1338, 1462), (1368, 12, 1367, 100), (1364, 12, 1363, 99), (1376, 12, 1375, 102), (1372, 12, 1371, 101), (1360, 12, 1358, 1482), (1381, 12, 1379, 1503), (1389, 12, 1388, 103), (1385, 12, 1383, 1507), (1406, 12, 1405, 105), (1414, 12, 1413, 107), (1402, 12, 1401, 104), (1410, 12, 1409, 106), (1418, 12, 1417, 108), (1439, 12, 1438, 109), (1394, 12, 1392, 1516), (1398, 12, 1396, 1520), (1422, 12, 1420, 1544), (1426, 12, 1424, 1548), (1431, 12, 1429, 1553), (1447, 12, 1446, 111), (1443, 12, 1442, 110), (1435, 12, 1433, 1557), (1451, 12, 1449, 1573), (1455, 12, 1453, 1577), (1467, 12, 1466, 113), (1463, 12, 1462, 112), (1459, 12, 1457, 1581), (1484, 12, 1483, 116), (1476, 12, 1475, 114), (1472, 12, 1470, 1594), (1497, 12, 1496, 118), (1493, 12, 1492, 117), (1488, 12, 1486, 1610), (1501, 12, 1499, 1623), (1513, 12, 1512, 120), (1509, 12, 1508, 119), (1505, 12, 1503, 1627), (1517, 12, 1515, 1639), (1521, 12, 1519, 1643), (1534, 12, 1533, 122), (1529, 12, 1528, 121), (1525, 12, 1523, 1647), (1538, 12, 1536, 1660), (674, 17, 673, 0), (931, 17, 930, 0), (971, 17, 970, 0), (542, 17, 541, 0), (545, 17, 544, 0), (479, 13, 477, 601), (489, 13, 487, 611), (528, 13, 526, 650), (532, 13, 530, 654), (483, 13, 481, 605), (493, 13, 491, 615), (499, 13, 498, 0), (496, 14, 495, 0), (539, 14, 538, 0), (536, 14, 535, 0), (548, 14, 547, 0), (504, 15, 503, 0), (0, 0, 0, 0)]
def amFLp : List Nat := [254, 241, 248, 246, 247, 249, 256, 243, 242, 250, 244, 245, 251, 252, 253, 316, 318, 320, 61, 62, 63, 64, 65, 66, 67, 68, 71, 70, 34, 40, 36, 38, 42, 69, 134, 137, 128, 129, 130, 131, 132, 133, 169, 171, 165, 164, 167, 104, 168, 135, 138, 108, 106, 295, 296, 298, 297, 33, 35, 37, 39, 41, 109, 102, 105, 107, 103, 198, 200, 192, 193, 194, 195, 196, 197, 231, 232, 230, 330, 342, 340, 329, 331, 110, 333, 332, 166, 136, 170, 172, 338, 341, 72, 334, 199, 335, 255, 257, 336, 339, 337, 317, 319, 321, 997, 998, 999, 1000, 1015, 1001, 1012, 1006, 1007, 1008, 1010, 1011, 1016, 1017, 1022, 1018, 1019, 1020, 1021, 1041, 1042, 1034, 1037, 1035, 1040, 1039, 1038, 1036, 1030, 1031, 1032, 1033, 1043, 1044, 1029, 1023, 1024, 1025, 1026, 1027, 1028, 1045, 1046, 1003, 1004, 1005, 1002, 1047, 1013, 1048, 1009, 1014, 1051, 1049, 1057, 1052, 1053, 1054, 1055, 1056, 1050, 1058, 1059, 1060, 1061, 1066, 1062, 1063, 1064, 1065, 1068, 1067, 1069, 1070, 1539, 1540]
def amMLp : List Nat := [823, 824, 841, 842, 866, 867, 872, 878, 871, 876, 877, 882, 897, 914, 915, 920, 929, 981, 985, 986, 393, 654, 658, 389, 731, 671, 672, 699, 714, 718, 736, 703, 704, 705, 710, 709, 722, 730, 740, 679, 690, 683, 684, 687, 438, 442, 584, 588, 589, 593, 597, 625, 633, 613, 629, 617, 609, 601, 605, 621, 943, 944, 945, 946, 950, 406, 409, 446, 450, 453, 460, 463, 467, 457, 471, 525, 476, 486, 778, 806, 807, 828, 832, 833, 834, 838, 839, 840, 376, 381, 384, 394, 402, 414, 422, 434, 637, 650, 666, 667, 675, 695, 749, 753, 762, 770, 774, 792, 799, 802, 811, 815, 819, 858, 884, 893, 901, 910, 916, 925, 936, 939, 955, 956, 964, 965, 977, 862, 969, 1228, 1224, 1245, 1265, 1269, 1273, 1277, 1281, 1309, 1301, 1293, 1285, 1297, 1261, 1305, 1313, 1289, 1325, 1321, 1317, 1257, 1353, 1349, 1341, 1345, 1365, 1369, 1373, 1361, 1386, 1411, 1399, 1403, 1407, 1415, 1444, 1436, 1440, 1460, 1464, 1477, 1481, 1473, 1494, 1490, 1506, 1510, 1526, 1531, 480, 490, 494, 529, 533, 534, 502, 497, 537, 540, 543, 546, 372, 1220, 398, 1233, 410, 1237, 418, 1241, 426, 1249, 430, 1253, 642, 1329, 646, 1333, 662, 1337, 691, 1357, 741, 1378, 745, 1382, 758, 1391, 766, 1395, 779, 1419, 783, 1423, 788, 1428, 795, 1432, 846, 1448, 850, 1452, 854, 1456, 889, 1469, 905, 1485, 921, 1498, 932, 1502, 951, 1514, 960, 1518, 972, 1522, 987, 1535]
def amCIp : List Nat := [888, 787, 883, 909, 1427, 1468, 1489]
def amCLp : List Nat := [388, 735, 757, 976, 968, 1232, 1377, 1390, 1530]
set_option maxRecDepth 100000 in
theorem amFL_c : (amFL.zip amFLp).all (fun q => decide (tables_1[q.2]? = some (FLw q.1)) && (q.1.2.2.2.2 || goodWord (FLw q.1))) = true := by decide +kernel
set_option maxRecDepth 100000 in
theorem amML_c : (amML.zip amMLp).all (fun q => decide (tables_1[q.2]? = some (MLw q.1)) && (q.1.2.2.2.1 || goodWord (MLw q.1))) = true := by decide +kernel
theorem amFL_l : amFL.length = amFLp.length := by decide +kernel
theorem amML_l : amML.length = amMLp.length := by decide +kernel
theorem amCI_c : (amCI.zip amCIp).all (fun q => decide (tables_1[q.2]? = some (.constant (amOwn q.1.1) q.1.2.1 q.1.2.2)) && goodWord (.constant (amOwn q.1.1) q.1.2.1 q.1.2.2)) = true := by decide +kernel
theorem amCL_c : (amCL.zip amCLp).all (fun q => decide (tables_1[q.2]? = some (.constantLong (amOwn q.1.1) q.1.2.1 q.1.2.2)) && goodWord (.constantLong (amOwn q.1.1) q.1.2.1 q.1.2.2)) = true := by decide +kernel
theorem amCI_l : amCI.length = amCIp.length := by decide +kernel
theorem amCL_l : amCL.length = amCLp.length := by decide +kernel
set_option maxRecDepth 100000 in
theorem mb0 : aMethB 0 (amMP.getD 0 (0, 0, 0, 0)) = true := by decide +kernel
set_option maxRecDepth 100000 in
theorem mb1 : aMethB 1 (amMP.getD 1 (0, 0, 0, 0)) = true := by decide +kernel
set_option maxRecDepth 100000 in
theorem mb2 : aMethB 2 (amMP.getD 2 (0, 0, 0, 0)) = true := by decide +kernel
set_option maxRecDepth 100000 in
theorem mb3 : aMethB 3 (amMP.getD 3 (0, 0, 0, 0)) = true := by decide +kernel
set_option maxRecDepth 100000 in
theorem mb4 : aMethB 4 (amMP.getD 4 (0, 0, 0, 0)) = true := by decide +kernel
set_option maxRecDepth 100000 in
theorem mb5 : aMethB 5 (amMP.getD 5 (0, 0, 0, 0)) = true := by decide +kernel
set_option maxRecDepth 100000 in
theorem mb6 : aMethB 6 (amMP.getD 6 (0, 0, 0, 0)) = true := by decide +kernel
set_option maxRecDepth 100000 in
theorem mb7 : aMethB 7 (amMP.getD 7 (0, 0, 0, 0)) = true := by decide +kernel
set_option maxRecDepth 100000 in
theorem mb8 : aMethB 8 (amMP.getD 8 (0, 0, 0, 0)) = true := by decide +kernel
set_option maxRecDepth 100000 in
theorem mb9 : aMethB 9 (amMP.getD 9 (0, 0, 0, 0)) = true := by decide +kernel
set_option maxRecDepth 100000 in
theorem mb10 : aMethB 10 (amMP.getD 10 (0, 0, 0, 0)) = true := by decide +kernel
set_option maxRecDepth 100000 in
theorem mb11 : aMethB 11 (amMP.getD 11 (0, 0, 0, 0)) = true := by decide +kernel
set_option maxRecDepth 100000 in
theorem mb12 : aMethB 12 (amMP.getD 12 (0, 0, 0, 0)) = true := by decide +kernel
set_option maxRecDepth 100000 in
theorem mb13 : aMethB 13 (amMP.getD 13 (0, 0, 0, 0)) = true := by decide +kernel
set_option maxRecDepth 100000 in
theorem mb14 : aMethB 14 (amMP.getD 14 (0, 0, 0, 0)) = true := by decide +kernel
set_option maxRecDepth 100000 in
theorem mb15 : aMethB 15 (amMP.getD 15 (0, 0, 0, 0)) = true := by decide +kernel
set_option maxRecDepth 100000 in
theorem mb16 : aMethB 16 (amMP.getD 16 (0, 0, 0, 0)) = true := by decide +kernel
set_option maxRecDepth 100000 in
theorem mb17 : aMethB 17 (amMP.getD 17 (0, 0, 0, 0)) = true := by decide +kernel
set_option maxRecDepth 100000 in
theorem mb18 : aMethB 18 (amMP.getD 18 (0, 0, 0, 0)) = true := by decide +kernel
set_option maxRecDepth 100000 in
theorem mb19 : aMethB 19 (amMP.getD 19 (0, 0, 0, 0)) = true := by decide +kernel
set_option maxRecDepth 100000 in
theorem mb20 : aMethB 20 (amMP.getD 20 (0, 0, 0, 0)) = true := by decide +kernel
set_option maxRecDepth 100000 in
theorem mb21 : aMethB 21 (amMP.getD 21 (0, 0, 0, 0)) = true := by decide +kernel
set_option maxRecDepth 100000 in
theorem mb22 : aMethB 22 (amMP.getD 22 (0, 0, 0, 0)) = true := by decide +kernel
set_option maxRecDepth 100000 in
theorem mb23 : aMethB 23 (amMP.getD 23 (0, 0, 0, 0)) = true := by decide +kernel
set_option maxRecDepth 100000 in
theorem mb24 : aMethB 24 (amMP.getD 24 (0, 0, 0, 0)) = true := by decide +kernel
set_option maxRecDepth 100000 in
theorem mb25 : aMethB 25 (amMP.getD 25 (0, 0, 0, 0)) = true := by decide +kernel
set_option maxRecDepth 100000 in
theorem mb26 : aMethB 26 (amMP.getD 26 (0, 0, 0, 0)) = true := by decide +kernel
set_option maxRecDepth 100000 in
theorem mb27 : aMethB 27 (amMP.getD 27 (0, 0, 0, 0)) = true := by decide +kernel
set_option maxRecDepth 100000 in
theorem mb28 : aMethB 28 (amMP.getD 28 (0, 0, 0, 0)) = true := by decide +kernel
set_option maxRecDepth 100000 in
theorem mb29 : aMethB 29 (amMP.getD 29 (0, 0, 0, 0)) = true := by decide +kernel
set_option maxRecDepth 100000 in
theorem mb30 : aMethB 30 (amMP.getD 30 (0, 0, 0, 0)) = true := by decide +kernel
set_option maxRecDepth 100000 in
theorem mb31 : aMethB 31 (amMP.getD 31 (0, 0, 0, 0)) = true := by decide +kernel
set_option maxRecDepth 100000 in
theorem mb32 : aMethB 32 (amMP.getD 32 (0, 0, 0, 0)) = true := by decide +kernel
set_option maxRecDepth 100000 in
theorem mb33 : aMethB 33 (amMP.getD 33 (0, 0, 0, 0)) = true := by decide +kernel
set_option maxRecDepth 100000 in
theorem mb34 : aMethB 34 (amMP.getD 34 (0, 0, 0, 0)) = true := by decide +kernel
set_option maxRecDepth 100000 in
theorem mb35 : aMethB 35 (amMP.getD 35 (0, 0, 0, 0)) = true := by decide +kernel
set_option maxRecDepth 100000 in
theorem mb36 : aMethB 36 (amMP.getD 36 (0, 0, 0, 0)) = true := by decide +kernel
set_option maxRecDepth 100000 in
theorem mb37 : aMethB 37 (amMP.getD 37 (0, 0, 0, 0)) = true := by decide +kernel
set_option maxRecDepth 100000 in
theorem mb38 : aMethB 38 (amMP.getD 38 (0, 0, 0, 0)) = true := by decide +kernel
set_option maxRecDepth 100000 in
theorem mb39 : aMethB 39 (amMP.getD 39 (0, 0, 0, 0)) = true := by decide +kernel
set_option maxRecDepth 100000 in
theorem mb40 : aMethB 40 (amMP.getD 40 (0, 0, 0, 0)) = true := by decide +kernel
set_option maxRecDepth 100000 in
theorem mb41 : aMethB 41 (amMP.getD 41 (0, 0, 0, 0)) = true := by decide +kernel
set_option maxRecDepth 100000 in
theorem mb42 : aMethB 42 (amMP.getD 42 (0, 0, 0, 0)) = true := by decide +kernel
set_option maxRecDepth 100000 in
theorem mb43 : aMethB 43 (amMP.getD 43 (0, 0, 0, 0)) = true := by decide +kernel
set_option maxRecDepth 100000 in
theorem mb44 : aMethB 44 (amMP.getD 44 (0, 0, 0, 0)) = true := by decide +kernel
set_option maxRecDepth 100000 in
theorem mb45 : aMethB 45 (amMP.getD 45 (0, 0, 0, 0)) = true := by decide +kernel
set_option maxRecDepth 100000 in
theorem mb46 : aMethB 46 (amMP.getD 46 (0, 0, 0, 0)) = true := by decide +kernel
set_option maxRecDepth 100000 in
theorem mb47 : aMethB 47 (amMP.getD 47 (0, 0, 0, 0)) = true := by decide +kernel
set_option maxRecDepth 100000 in
theorem mb48 : aMethB 48 (amMP.getD 48 (0, 0, 0, 0)) = true := by decide +kernel
set_option maxRecDepth 100000 in
theorem mb49 : aMethB 49 (amMP.getD 49 (0, 0, 0, 0)) = true := by decide +kernel
set_option maxRecDepth 100000 in
theorem mb50 : aMethB 50 (amMP.getD 50 (0, 0, 0, 0)) = true := by decide +kernel
set_option maxRecDepth 100000 in
theorem mb51 : aMethB 51 (amMP.getD 51 (0, 0, 0, 0)) = true := by decide +kernel
set_option maxRecDepth 100000 in
theorem mb52 : aMethB 52 (amMP.getD 52 (0, 0, 0, 0)) = true := by decide +kernel
set_option maxRecDepth 100000 in
theorem mb53 : aMethB 53 (amMP.getD 53 (0, 0, 0, 0)) = true := by decide +kernel
set_option maxRecDepth 100000 in
theorem mb54 : aMethB 54 (amMP.getD 54 (0, 0, 0, 0)) = true := by decide +kernel
set_option maxRecDepth 100000 in
theorem mb55 : aMethB 55 (amMP.getD 55 (0, 0, 0, 0)) = true := by decide +kernel
set_option maxRecDepth 100000 in
theorem mb56 : aMethB 56 (amMP.getD 56 (0, 0, 0, 0)) = true := by decide +kernel
set_option maxRecDepth 100000 in
theorem mb57 : aMethB 57 (amMP.getD 57 (0, 0, 0, 0)) = true := by decide +kernel
set_option maxRecDepth 100000 in
theorem mb58 : aMethB 58 (amMP.getD 58 (0, 0, 0, 0)) = true := by decide +kernel
set_option maxRecDepth 100000 in
theorem mb59 : aMethB 59 (amMP.getD 59 (0, 0, 0, 0)) = true := by decide +kernel
set_option maxRecDepth 100000 in
theorem mb60 : aMethB 60 (amMP.getD 60 (0, 0, 0, 0)) = true := by decide +kernel
set_option maxRecDepth 100000 in
theorem mb61 : aMethB 61 (amMP.getD 61 (0, 0, 0, 0)) = true := by decide +kernel
set_option maxRecDepth 100000 in
theorem mb62 : aMethB 62 (amMP.getD 62 (0, 0, 0, 0)) = true := by decide +kernel
set_option maxRecDepth 100000 in
theorem mb63 : aMethB 63 (amMP.getD 63 (0, 0, 0, 0)) = true := by decide +kernel
set_option maxRecDepth 100000 in
theorem mb64 : aMethB 64 (amMP.getD 64 (0, 0, 0, 0)) = true := by decide +kernel
set_option maxRecDepth 100000 in
theorem mb65 : aMethB 65 (amMP.getD 65 (0, 0, 0, 0)) = true := by decide +kernel
set_option maxRecDepth 100000 in
theorem mb66 : aMethB 66 (amMP.getD 66 (0, 0, 0, 0)) = true := by decide +kernel
set_option maxRecDepth 100000 in
theorem mb67 : aMethB 67 (amMP.getD 67 (0, 0, 0, 0)) = true := by decide +kernel
set_option maxRecDepth 100000 in
theorem mb68 : aMethB 68 (amMP.getD 68 (0, 0, 0, 0)) = true := by decide +kernel
set_option maxRecDepth 100000 in
theorem mb69 : aMethB 69 (amMP.getD 69 (0, 0, 0, 0)) = true := by decide +kernel
set_option maxRecDepth 100000 in
theorem mb70 : aMethB 70 (amMP.getD 70 (0, 0, 0, 0)) = true := by decide +kernel
set_option maxRecDepth 100000 in
theorem mb71 : aMethB 71 (amMP.getD 71 (0, 0, 0, 0)) = true := by decide +kernel
set_option maxRecDepth 100000 in
theorem mb72 : aMethB 72 (amMP.getD 72 (0, 0, 0, 0)) = true := by decide +kernel
set_option maxRecDepth 100000 in
theorem mb73 : aMethB 73 (amMP.getD 73 (0, 0, 0, 0)) = true := by decide +kernel
set_option maxRecDepth 100000 in
theorem mb74 : aMethB 74 (amMP.getD 74 (0, 0, 0, 0)) = true := by decide +kernel
set_option maxRecDepth 100000 in
theorem mb75 : aMethB 75 (amMP.getD 75 (0, 0, 0, 0)) = true := by decide +kernel
set_option maxRecDepth 100000 in
theorem mb76 : aMethB 76 (amMP.getD 76 (0, 0, 0, 0)) = true := by decide +kernel
set_option maxRecDepth 100000 in
theorem mb77 : aMethB 77 (amMP.getD 77 (0, 0, 0, 0)) = true := by decide +kernel
set_option maxRecDepth 100000 in
theorem mb78 : aMethB 78 (amMP.getD 78 (0, 0, 0, 0)) = true := by decide +kernel
set_option maxRecDepth 100000 in
theorem mb79 : aMethB 79 (amMP.getD 79 (0, 0, 0, 0)) = true := by decide +kernel
set_option maxRecDepth 100000 in
theorem mb80 : aMethB 80 (amMP.getD 80 (0, 0, 0, 0)) = true := by decide +kernel
set_option maxRecDepth 100000 in
theorem mb81 : aMethB 81 (amMP.getD 81 (0, 0, 0, 0)) = true := by decide +kernel
set_option maxRecDepth 100000 in
theorem mb82 : aMethB 82 (amMP.getD 82 (0, 0, 0, 0)) = true := by decide +kernel
set_option maxRecDepth 100000 in
theorem mb83 : aMethB 83 (amMP.getD 83 (0, 0, 0, 0)) = true := by decide +kernel
set_option maxRecDepth 100000 in
theorem mb84 : aMethB 84 (amMP.getD 84 (0, 0, 0, 0)) = true := by decide +kernel
set_option maxRecDepth 100000 in
theorem mb85 : aMethB 85 (amMP.getD 85 (0, 0, 0, 0)) = true := by decide +kernel
set_option maxRecDepth 100000 in
theorem mb86 : aMethB 86 (amMP.getD 86 (0, 0, 0, 0)) = true := by decide +kernel
set_option maxRecDepth 100000 in
theorem mb87 : aMethB 87 (amMP.getD 87 (0, 0, 0, 0)) = true := by decide +kernel
set_option maxRecDepth 100000 in
theorem mb88 : aMethB 88 (amMP.getD 88 (0, 0, 0, 0)) = true := by decide +kernel
set_option maxRecDepth 100000 in
theorem mb89 : aMethB 89 (amMP.getD 89 (0, 0, 0, 0)) = true := by decide +kernel
set_option maxRecDepth 100000 in
theorem mb90 : aMethB 90 (amMP.getD 90 (0, 0, 0, 0)) = true := by decide +kernel
set_option maxRecDepth 100000 in
theorem mb91 : aMethB 91 (amMP.getD 91 (0, 0, 0, 0)) = true := by decide +kernel
set_option maxRecDepth 100000 in
theorem mb92 : aMethB 92 (amMP.getD 92 (0, 0, 0, 0)) = true := by decide +kernel
set_option maxRecDepth 100000 in
theorem mb93 : aMethB 93 (amMP.getD 93 (0, 0, 0, 0)) = true := by decide +kernel
set_option maxRecDepth 100000 in
theorem mb94 : aMethB 94 (amMP.getD 94 (0, 0, 0, 0)) = true := by decide +kernel
set_option maxRecDepth 100000 in
theorem mb95 : aMethB 95 (amMP.getD 95 (0, 0, 0, 0)) = true := by decide +kernel
set_option maxRecDepth 100000 in
theorem mb96 : aMethB 96 (amMP.getD 96 (0, 0, 0, 0)) = true := by decide +kernel
set_option maxRecDepth 100000 in
theorem mb97 : aMethB 97 (amMP.getD 97 (0, 0, 0, 0)) = true := by decide +kernel
set_option maxRecDepth 100000 in
theorem mb98 : aMethB 98 (amMP.getD 98 (0, 0, 0, 0)) = true := by decide +kernel
set_option maxRecDepth 100000 in
theorem mb99 : aMethB 99 (amMP.getD 99 (0, 0, 0, 0)) = true := by decide +kernel
set_option maxRecDepth 100000 in
theorem mb100 : aMethB 100 (amMP.getD 100 (0, 0, 0, 0)) = true := by decide +kernel
set_option maxRecDepth 100000 in
theorem mb101 : aMethB 101 (amMP.getD 101 (0, 0, 0, 0)) = true := by decide +kernel
set_option maxRecDepth 100000 in
theorem mb102 : aMethB 102 (amMP.getD 102 (0, 0, 0, 0)) = true := by decide +kernel
set_option maxRecDepth 100000 in
theorem mb103 : aMethB 103 (amMP.getD 103 (0, 0, 0, 0)) = true := by decide +kernel
set_option maxRecDepth 100000 in
theorem mb104 : aMethB 104 (amMP.getD 104 (0, 0, 0, 0)) = true := by decide +kernel
set_option maxRecDepth 100000 in
theorem mb105 : aMethB 105 (amMP.getD 105 (0, 0, 0, 0)) = true := by decide +kernel
set_option maxRecDepth 100000 in
theorem mb106 : aMethB 106 (amMP.getD 106 (0, 0, 0, 0)) = true := by decide +kernel
set_option maxRecDepth 100000 in
theorem mb107 : aMethB 107 (amMP.getD 107 (0, 0, 0, 0)) = true := by decide +kernel
set_option maxRecDepth 100000 in
theorem mb108 : aMethB 108 (amMP.getD 108 (0, 0, 0, 0)) = true := by decide +kernel
set_option maxRecDepth 100000 in
theorem mb109 : aMethB 109 (amMP.getD 109 (0, 0, 0, 0)) = true := by decide +kernel
set_option maxRecDepth 100000 in
theorem mb110 : aMethB 110 (amMP.getD 110 (0, 0, 0, 0)) = true := by decide +kernel
set_option maxRecDepth 100000 in
theorem mb111 : aMethB 111 (amMP.getD 111 (0, 0, 0, 0)) = true := by decide +kernel
set_option maxRecDepth 100000 in
theorem mb112 : aMethB 112 (amMP.getD 112 (0, 0, 0, 0)) = true := by decide +kernel
set_option maxRecDepth 100000 in
theorem mb113 : aMethB 113 (amMP.getD 113 (0, 0, 0, 0)) = true := by decide +kernel
set_option maxRecDepth 100000 in
theorem mb114 : aMethB 114 (amMP.getD 114 (0, 0, 0, 0)) = true := by decide +kernel
set_option maxRecDepth 100000 in
theorem mb115 : aMethB 115 (amMP.getD 115 (0, 0, 0, 0)) = true := by decide +kernel
set_option maxRecDepth 100000 in
theorem mb116 : aMethB 116 (amMP.getD 116 (0, 0, 0, 0)) = true := by decide +kernel
set_option maxRecDepth 100000 in
theorem mb117 : aMethB 117 (amMP.getD 117 (0, 0, 0, 0)) = true := by decide +kernel
set_option maxRecDepth 100000 in
theorem mb118 : aMethB 118 (amMP.getD 118 (0, 0, 0, 0)) = true := by decide +kernel
set_option maxRecDepth 100000 in
theorem mb119 : aMethB 119 (amMP.getD 119 (0, 0, 0, 0)) = true := by decide +kernel
set_option maxRecDepth 100000 in
theorem mb120 : aMethB 120 (amMP.getD 120 (0, 0, 0, 0)) = true := by decide +kernel
set_option maxRecDepth 100000 in
theorem mb121 : aMethB 121 (amMP.getD 121 (0, 0, 0, 0)) = true := by decide +kernel
set_option maxRecDepth 100000 in
theorem mb122 : aMethB 122 (amMP.getD 122 (0, 0, 0, 0)) = true := by decide +kernel
set_option maxRecDepth 100000 in
theorem mb123 : aMethB 123 (amMP.getD 123 (0, 0, 0, 0)) = true := by decide +kernel
set_option maxRecDepth 100000 in
theorem mb124 : aMethB 124 (amMP.getD 124 (0, 0, 0, 0)) = true := by decide +kernel
set_option maxRecDepth 100000 in
theorem mb125 : aMethB 125 (amMP.getD 125 (0, 0, 0, 0)) = true := by decide +kernel
set_option maxRecDepth 100000 in
theorem mb126 : aMethB 126 (amMP.getD 126 (0, 0, 0, 0)) = true := by decide +kernel
set_option maxRecDepth 100000 in
theorem mb127 : aMethB 127 (amMP.getD 127 (0, 0, 0, 0)) = true := by decide +kernel
set_option maxRecDepth 100000 in
theorem mb128 : aMethB 128 (amMP.getD 128 (0, 0, 0, 0)) = true := by decide +kernel
set_option maxRecDepth 100000 in
theorem mb129 : aMethB 129 (amMP.getD 129 (0, 0, 0, 0)) = true := by decide +kernel
set_option maxRecDepth 100000 in
theorem mb130 : aMethB 130 (amMP.getD 130 (0, 0, 0, 0)) = true := by decide +kernel
set_option maxRecDepth 100000 in
theorem mb131 : aMethB 131 (amMP.getD 131 (0, 0, 0, 0)) = true := by decide +kernel
set_option maxRecDepth 100000 in
theorem mb132 : aMethB 132 (amMP.getD 132 (0, 0, 0, 0)) = true := by decide +kernel
set_option maxRecDepth 100000 in
theorem mb133 : aMethB 133 (amMP.getD 133 (0, 0, 0, 0)) = true := by decide +kernel
set_option maxRecDepth 100000 in
theorem mb134 : aMethB 134 (amMP.getD 134 (0, 0, 0, 0)) = true := by decide +kernel
set_option maxRecDepth 100000 in
theorem mb135 : aMethB 135 (amMP.getD 135 (0, 0, 0, 0)) = true := by decide +kernel
set_option maxRecDepth 100000 in
theorem mb136 : aMethB 136 (amMP.getD 136 (0, 0, 0, 0)) = true := by decide +kernel
set_option maxRecDepth 100000 in
theorem mb137 : aMethB 137 (amMP.getD 137 (0, 0, 0, 0)) = true := by decide +kernel
set_option maxRecDepth 100000 in
theorem mb138 : aMethB 138 (amMP.getD 138 (0, 0, 0, 0)) = true := by decide +kernel
set_option maxRecDepth 100000 in
theorem mb139 : aMethB 139 (amMP.getD 139 (0, 0, 0, 0)) = true := by decide +kernel
set_option maxRecDepth 100000 in
theorem mb140 : aMethB 140 (amMP.getD 140 (0, 0, 0, 0)) = true := by decide +kernel
set_option maxRecDepth 100000 in
theorem mb141 : aMethB 141 (amMP.getD 141 (0, 0, 0, 0)) = true := by decide +kernel
set_option maxRecDepth 100000 in
theorem mb142 : aMethB 142 (amMP.getD 142 (0, 0, 0, 0)) = true := by decide +kernel
set_option maxRecDepth 100000 in
theorem mb143 : aMethB 143 (amMP.getD 143 (0, 0, 0, 0)) = true := by decide +kernel
set_option maxRecDepth 100000 in
theorem mb144 : aMethB 144 (amMP.getD 144 (0, 0, 0, 0)) = true := by decide +kernel
set_option maxRecDepth 100000 in
theorem mb145 : aMethB 145 (amMP.getD 145 (0, 0, 0, 0)) = true := by decide +kernel
set_option maxRecDepth 100000 in
theorem mb146 : aMethB 146 (amMP.getD 146 (0, 0, 0, 0)) = true := by decide +kernel
set_option maxRecDepth 100000 in
theorem mb147 : aMethB 147 (amMP.getD 147 (0, 0, 0, 0)) = true := by decide +kernel
set_option maxRecDepth 100000 in
theorem mb148 : aMethB 148 (amMP.getD 148 (0, 0, 0, 0)) = true := by decide +kernel
set_option maxRecDepth 100000 in
theorem mb149 : aMethB 149 (amMP.getD 149 (0, 0, 0, 0)) = true := by decide +kernel
set_option maxRecDepth 100000 in
theorem mb150 : aMethB 150 (amMP.getD 150 (0, 0, 0, 0)) = true := by decide +kernel
set_option maxRecDepth 100000 in
theorem mb151 : aMethB 151 (amMP.getD 151 (0, 0, 0, 0)) = true := by decide +kernel
set_option maxRecDepth 100000 in
theorem mb152 : aMethB 152 (amMP.getD 152 (0, 0, 0, 0)) = true := by decide +kernel
set_option maxRecDepth 100000 in
theorem mb153 : aMethB 153 (amMP.getD 153 (0, 0, 0, 0)) = true := by decide +kernel
set_option maxRecDepth 100000 in
theorem mb154 : aMethB 154 (amMP.getD 154 (0, 0, 0, 0)) = true := by decide +kernel
set_option maxRecDepth 100000 in
theorem mb155 : aMethB 155 (amMP.getD 155 (0, 0, 0, 0)) = true := by decide +kernel
set_option maxRecDepth 100000 in
theorem mb156 : aMethB 156 (amMP.getD 156 (0, 0, 0, 0)) = true := by decide +kernel
set_option maxRecDepth 100000 in
theorem mb157 : aMethB 157 (amMP.getD 157 (0, 0, 0, 0)) = true := by decide +kernel
set_option maxRecDepth 100000 in
theorem mb158 : aMethB 158 (amMP.getD 158 (0, 0, 0, 0)) = true := by decide +kernel
set_option maxRecDepth 100000 in
theorem mb159 : aMethB 159 (amMP.getD 159 (0, 0, 0, 0)) = true := by decide +kernel
set_option maxRecDepth 100000 in
theorem mb160 : aMethB 160 (amMP.getD 160 (0, 0, 0, 0)) = true := by decide +kernel
set_option maxRecDepth 100000 in
theorem mb161 : aMethB 161 (amMP.getD 161 (0, 0, 0, 0)) = true := by decide +kernel
set_option maxRecDepth 100000 in
theorem mb162 : aMethB 162 (amMP.getD 162 (0, 0, 0, 0)) = true := by decide +kernel
set_option maxRecDepth 100000 in
theorem mb163 : aMethB 163 (amMP.getD 163 (0, 0, 0, 0)) = true := by decide +kernel
set_option maxRecDepth 100000 in
theorem mb164 : aMethB 164 (amMP.getD 164 (0, 0, 0, 0)) = true := by decide +kernel
set_option maxRecDepth 100000 in
theorem mb165 : aMethB 165 (amMP.getD 165 (0, 0, 0, 0)) = true := by decide +kernel
set_option maxRecDepth 100000 in
theorem mb166 : aMethB 166 (amMP.getD 166 (0, 0, 0, 0)) = true := by decide +kernel
set_option maxRecDepth 100000 in
theorem mb167 : aMethB 167 (amMP.getD 167 (0, 0, 0, 0)) = true := by decide +kernel
set_option maxRecDepth 100000 in
theorem mb168 : aMethB 168 (amMP.getD 168 (0, 0, 0, 0)) = true := by decide +kernel
set_option maxRecDepth 100000 in
theorem mb169 : aMethB 169 (amMP.getD 169 (0, 0, 0, 0)) = true := by decide +kernel
set_option maxRecDepth 100000 in
theorem mb170 : aMethB 170 (amMP.getD 170 (0, 0, 0, 0)) = true := by decide +kernel
set_option maxRecDepth 100000 in
theorem mb171 : aMethB 171 (amMP.getD 171 (0, 0, 0, 0)) = true := by decide +kernel
set_option maxRecDepth 100000 in
theorem mb172 : aMethB 172 (amMP.getD 172 (0, 0, 0, 0)) = true := by decide +kernel
set_option maxRecDepth 100000 in
theorem mb173 : aMethB 173 (amMP.getD 173 (0, 0, 0, 0)) = true := by decide +kernel
set_option maxRecDepth 100000 in
theorem mb174 : aMethB 174 (amMP.getD 174 (0, 0, 0, 0)) = true := by decide +kernel
set_option maxRecDepth 100000 in
theorem mb175 : aMethB 175 (amMP.getD 175 (0, 0, 0, 0)) = true := by decide +kernel
set_option maxRecDepth 100000 in
theorem mb176 : aMethB 176 (amMP.getD 176 (0, 0, 0, 0)) = true := by decide +kernel
set_option maxRecDepth 100000 in
theorem mb177 : aMethB 177 (amMP.getD 177 (0, 0, 0, 0)) = true := by decide +kernel
set_option maxRecDepth 100000 in
theorem mb178 : aMethB 178 (amMP.getD 178 (0, 0, 0, 0)) = true := by decide +kernel
set_option maxRecDepth 100000 in
theorem mb179 : aMethB 179 (amMP.getD 179 (0, 0, 0, 0)) = true := by decide +kernel
set_option maxRecDepth 100000 in
theorem mb180 : aMethB 180 (amMP.getD 180 (0, 0, 0, 0)) = true := by decide +kernel
set_option maxRecDepth 100000 in
theorem mb181 : aMethB 181 (amMP.getD 181 (0, 0, 0, 0)) = true := by decide +kernel
set_option maxRecDepth 100000 in
theorem mb182 : aMethB 182 (amMP.getD 182 (0, 0, 0, 0)) = true := by decide +kernel
set_option maxRecDepth 100000 in
theorem mb183 : aMethB 183 (amMP.getD 183 (0, 0, 0, 0)) = true := by decide +kernel
set_option maxRecDepth 100000 in
theorem mb184 : aMethB 184 (amMP.getD 184 (0, 0, 0, 0)) = true := by decide +kernel
set_option maxRecDepth 100000 in
theorem mb185 : aMethB 185 (amMP.getD 185 (0, 0, 0, 0)) = true := by decide +kernel
set_option maxRecDepth 100000 in
theorem mb186 : aMethB 186 (amMP.getD 186 (0, 0, 0, 0)) = true := by decide +kernel
set_option maxRecDepth 100000 in
theorem mb187 : aMethB 187 (amMP.getD 187 (0, 0, 0, 0)) = true := by decide +kernel
set_option maxRecDepth 100000 in
theorem mb188 : aMethB 188 (amMP.getD 188 (0, 0, 0, 0)) = true := by decide +kernel
set_option maxRecDepth 100000 in
theorem mb189 : aMethB 189 (amMP.getD 189 (0, 0, 0, 0)) = true := by decide +kernel
set_option maxRecDepth 100000 in
theorem mb190 : aMethB 190 (amMP.getD 190 (0, 0, 0, 0)) = true := by decide +kernel
set_option maxRecDepth 100000 in
theorem mb191 : aMethB 191 (amMP.getD 191 (0, 0, 0, 0)) = true := by decide +kernel
set_option maxRecDepth 100000 in
theorem mb192 : aMethB 192 (amMP.getD 192 (0, 0, 0, 0)) = true := by decide +kernel
set_option maxRecDepth 100000 in
theorem mb193 : aMethB 193 (amMP.getD 193 (0, 0, 0, 0)) = true := by decide +kernel
set_option maxRecDepth 100000 in
theorem mb194 : aMethB 194 (amMP.getD 194 (0, 0, 0, 0)) = true := by decide +kernel
set_option maxRecDepth 100000 in
theorem mb195 : aMethB 195 (amMP.getD 195 (0, 0, 0, 0)) = true := by decide +kernel
set_option maxRecDepth 100000 in
theorem mb196 : aMethB 196 (amMP.getD 196 (0, 0, 0, 0)) = true := by decide +kernel
set_option maxRecDepth 100000 in
theorem mb197 : aMethB 197 (amMP.getD 197 (0, 0, 0, 0)) = true := by decide +kernel
set_option maxRecDepth 100000 in
theorem mb198 : aMethB 198 (amMP.getD 198 (0, 0, 0, 0)) = true := by decide +kernel
set_option maxRecDepth 100000 in
theorem mb199 : aMethB 199 (amMP.getD 199 (0, 0, 0, 0)) = true := by decide +kernel
set_option maxRecDepth 100000 in
theorem mb200 : aMethB 200 (amMP.getD 200 (0, 0, 0, 0)) = true := by decide +kernel
set_option maxRecDepth 100000 in
theorem mb201 : aMethB 201 (amMP.getD 201 (0, 0, 0, 0)) = true := by decide +kernel
set_option maxRecDepth 100000 in
theorem mb202 : aMethB 202 (amMP.getD 202 (0, 0, 0, 0)) = true := by decide +kernel
set_option maxRecDepth 100000 in
theorem mb203 : aMethB 203 (amMP.getD 203 (0, 0, 0, 0)) = true := by decide +kernel
set_option maxRecDepth 100000 in
theorem mb204 : aMethB 204 (amMP.getD 204 (0, 0, 0, 0)) = true := by decide +kernel
set_option maxRecDepth 100000 in
theorem mb205 : aMethB 205 (amMP.getD 205 (0, 0, 0, 0)) = true := by decide +kernel
set_option maxRecDepth 100000 in
theorem mb206 : aMethB 206 (amMP.getD 206 (0, 0, 0, 0)) = true := by decide +kernel
set_option maxRecDepth 100000 in
theorem mb207 : aMethB 207 (amMP.getD 207 (0, 0, 0, 0)) = true := by decide +kernel
set_option maxRecDepth 100000 in
theorem mb208 : aMethB 208 (amMP.getD 208 (0, 0, 0, 0)) = true := by decide +kernel
set_option maxRecDepth 100000 in
theorem mb209 : aMethB 209 (amMP.getD 209 (0, 0, 0, 0)) = true := by decide +kernel
theorem mb_all : ∀ y, y < 210 → aMethB y (amMP.getD y (0, 0, 0, 0)) = true
  | 0, _ => mb0
  | 1, _ => mb1
  | 2, _ => mb2
  | 3, _ => mb3
  | 4, _ => mb4
  | 5, _ => mb5
  | 6, _ => mb6
  | 7, _ => mb7
  | 8, _ => mb8
  | 9, _ => mb9
  | 10, _ => mb10
  | 11, _ => mb11
  | 12, _ => mb12
  | 13, _ => mb13
  | 14, _ => mb14
  | 15, _ => mb15
  | 16, _ => mb16
  | 17, _ => mb17
  | 18, _ => mb18
  | 19, _ => mb19
  | 20, _ => mb20
  | 21, _ => mb21
  | 22, _ => mb22
  | 23, _ => mb23
  | 24, _ => mb24
  | 25, _ => mb25
  | 26, _ => mb26
  | 27, _ => mb27
  | 28, _ => mb28
  | 29, _ => mb29
  | 30, _ => mb30
  | 31, _ => mb31
  | 32, _ => mb32
  | 33, _ => mb33
  | 34, _ => mb34
  | 35, _ => mb35
  | 36, _ => mb36
  | 37, _ => mb37
  | 38, _ => mb38
  | 39, _ => mb39
  | 40, _ => mb40
  | 41, _ => mb41
  | 42, _ => mb42
  | 43, _ => mb43
  | 44, _ => mb44
  | 45, _ => mb45
  | 46, _ => mb46
  | 47, _ => mb47
  | 48, _ => mb48
  | 49, _ => mb49
  | 50, _ => mb50
  | 51, _ => mb51
  | 52, _ => mb52
  | 53, _ => mb53
  | 54, _ => mb54
  | 55, _ => mb55
  | 56, _ => mb56
  | 57, _ => mb57
  | 58, _ => mb58
  | 59, _ => mb59
  | 60, _ => mb60
  | 61, _ => mb61
  | 62, _ => mb62
  | 63, _ => mb63
  | 64, _ => mb64
  | 65, _ => mb65
  | 66, _ => mb66
  | 67, _ => mb67
  | 68, _ => mb68
  | 69, _ => mb69
  | 70, _ => mb70
  | 71, _ => mb71
  | 72, _ => mb72
  | 73, _ => mb73
  | 74, _ => mb74
  | 75, _ => mb75
  | 76, _ => mb76
  | 77, _ => mb77
  | 78, _ => mb78
  | 79, _ => mb79
  | 80, _ => mb80
  | 81, _ => mb81
  | 82, _ => mb82
  | 83, _ => mb83
  | 84, _ => mb84
  | 85, _ => mb85
  | 86, _ => mb86
  | 87, _ => mb87
  | 88, _ => mb88
  | 89, _ => mb89
  | 90, _ => mb90
  | 91, _ => mb91
  | 92, _ => mb92
  | 93, _ => mb93
  | 94, _ => mb94
  | 95, _ => mb95
  | 96, _ => mb96
  | 97, _ => mb97
  | 98, _ => mb98
  | 99, _ => mb99
  | 100, _ => mb100
  | 101, _ => mb101
  | 102, _ => mb102
  | 103, _ => mb103
  | 104, _ => mb104
  | 105, _ => mb105
  | 106, _ => mb106
  | 107, _ => mb107
  | 108, _ => mb108
  | 109, _ => mb109
  | 110, _ => mb110
  | 111, _ => mb111
  | 112, _ => mb112
  | 113, _ => mb113
  | 114, _ => mb114
  | 115, _ => mb115
  | 116, _ => mb116
  | 117, _ => mb117
  | 118, _ => mb118
  | 119, _ => mb119
  | 120, _ => mb120
  | 121, _ => mb121
  | 122, _ => mb122
  | 123, _ => mb123
  | 124, _ => mb124
  | 125, _ => mb125
  | 126, _ => mb126
  | 127, _ => mb127
  | 128, _ => mb128
  | 129, _ => mb129
  | 130, _ => mb130
  | 131, _ => mb131
  | 132, _ => mb132
  | 133, _ => mb133
  | 134, _ => mb134
  | 135, _ => mb135
  | 136, _ => mb136
  | 137, _ => mb137
  | 138, _ => mb138
  | 139, _ => mb139
  | 140, _ => mb140
  | 141, _ => mb141
  | 142, _ => mb142
  | 143, _ => mb143
  | 144, _ => mb144
  | 145, _ => mb145
  | 146, _ => mb146
  | 147, _ => mb147
  | 148, _ => mb148
  | 149, _ => mb149
  | 150, _ => mb150
  | 151, _ => mb151
  | 152, _ => mb152
  | 153, _ => mb153
  | 154, _ => mb154
  | 155, _ => mb155
  | 156, _ => mb156
  | 157, _ => mb157
  | 158, _ => mb158
  | 159, _ => mb159
  | 160, _ => mb160
  | 161, _ => mb161
  | 162, _ => mb162
  | 163, _ => mb163
  | 164, _ => mb164
  | 165, _ => mb165
  | 166, _ => mb166
  | 167, _ => mb167
  | 168, _ => mb168
  | 169, _ => mb169
  | 170, _ => mb170
  | 171, _ => mb171
  | 172, _ => mb172
  | 173, _ => mb173
  | 174, _ => mb174
  | 175, _ => mb175
  | 176, _ => mb176
  | 177, _ => mb177
  | 178, _ => mb178
  | 179, _ => mb179
  | 180, _ => mb180
  | 181, _ => mb181
  | 182, _ => mb182
  | 183, _ => mb183
  | 184, _ => mb184
  | 185, _ => mb185
  | 186, _ => mb186
  | 187, _ => mb187
  | 188, _ => mb188
  | 189, _ => mb189
  | 190, _ => mb190
  | 191, _ => mb191
  | 192, _ => mb192
  | 193, _ => mb193
  | 194, _ => mb194
  | 195, _ => mb195
  | 196, _ => mb196
  | 197, _ => mb197
  | 198, _ => mb198
  | 199, _ => mb199
  | 200, _ => mb200
  | 201, _ => mb201
  | 202, _ => mb202
  | 203, _ => mb203
  | 204, _ => mb204
  | 205, _ => mb205
  | 206, _ => mb206
  | 207, _ => mb207
  | 208, _ => mb208
  | 209, _ => mb209
  | y + 210, h => absurd h (by omega)
