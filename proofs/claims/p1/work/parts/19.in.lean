set_option maxRecDepth 100000 in
set_option maxHeartbeats 8000000 in
theorem WS_n : wsE.filter (fun w => !k2_isCode w) = [470, 471, 472, 404, 403, 114, 435, 437, 0, 405, 406, 721, 131, 489, 127, 717, 719, 20, 407, 151, 713, 715, 19, 154, 709, 711, 18, 705, 707, 17, 831, 833, 27, 158, 485, 487, 1, 212, 213, 222, 223, 210, 157, 255, 263, 847, 649, 648, 130, 264, 118, 848, 849, 850, 260, 249, 122, 839, 840, 261, 842, 352, 251, 116, 843, 845, 28, 150, 922, 924, 29, 927, 929, 30, 926, 133, 1094, 468, 1099, 1052, 1053, 156, 354, 364, 351, 360, 120, 695, 448, 449, 356, 358, 149, 153, 562, 141, 568, 194, 574, 577, 570, 563, 564, 129, 571, 572, 573, 115, 603, 604, 605, 128, 607, 609, 3, 557, 558, 408, 560, 559, 599, 600, 601, 569, 409, 250, 411, 691, 692, 693, 355, 447, 1078, 1080, 37, 1082, 1083, 1084, 1086, 1087, 1088, 357, 359, 835, 836, 837, 252, 1090, 1091, 1092, 1095, 1096, 1097, 737, 739, 21, 361, 459, 460, 461, 1257, 1258, 1275, 1277, 123, 1498, 1500, 41, 1283, 1259, 1506, 1507, 1509, 1511, 42, 1598, 1600, 60, 1261, 1303, 1839, 1841, 104, 1323, 1307, 1586, 1588, 59, 1286, 1287, 1260, 1288, 1273, 1304, 1305, 1265, 1293, 1262, 1290, 1264, 1292, 1263, 1291, 1279, 1278, 1281, 1513, 1515, 43, 1582, 1584, 58, 1267, 1268, 1271, 1272, 1679, 1681, 76, 1710, 1712, 83, 1269, 1270, 1675, 1677, 75, 1780, 1782, 98, 1784, 1786, 99, 1788, 1790, 100, 1808, 1809, 148, 161, 164, 166, 168, 172, 174, 209, 231, 232, 211, 218, 221, 117, 207, 206, 200, 248, 201, 202, 204, 203, 258, 253, 285, 292, 295, 259, 254, 328, 332, 335, 320, 362, 321, 366, 369, 350, 370, 367, 323, 324, 121, 326, 325, 368, 140, 143, 144, 146, 195, 196, 198, 197, 280, 281, 119, 283, 282, 410, 315, 316, 318, 317, 1254, 1266, 1274, 556, 1276, 1294, 1295, 1296, 1297, 1298, 1299, 1301, 1302, 1306, 1308, 1309, 1310, 1311, 1255, 1489, 1312, 1313, 1314, 1256, 1315, 1316, 1317, 1318, 1319, 1320, 1324, 1325, 1326, 1327, 1331, 1332, 1333, 481, 482, 483, 480, 701, 702, 703, 699, 816, 817, 818, 827, 828, 829, 1147, 1148, 1149, 1155, 1156, 1157, 1162, 1163, 1164, 1241, 1242, 1243, 1227, 1228, 1229, 1103, 1104, 1105, 1132, 1133, 1134, 1140, 1141, 1142, 1169, 1170, 1171, 1203, 1204, 1205, 1215, 1216, 1217, 1074, 1075, 1076, 1125, 1126, 1127, 431, 432, 433, 1494, 1495, 1496, 479, 113, 477, 478, 1502, 1503, 1504, 1490, 1491, 1492, 439, 440, 441, 1590, 1591, 1592, 698, 696, 697, 1594, 1595, 1596, 815, 813, 814, 1648, 1649, 1650, 826, 824, 825, 1652, 1653, 1654, 443, 444, 445, 1772, 1773, 1774, 1073, 1071, 1072, 1776, 1777, 1778, 1102, 1100, 1101, 1796, 1797, 1798, 1124, 1122, 1123, 1811, 1812, 1813, 1131, 1129, 1130, 1815, 1816, 1817, 1139, 1137, 1138, 1819, 1820, 1821, 1146, 1144, 1145, 1823, 1824, 1825, 1154, 1152, 1153, 1827, 1828, 1829, 1161, 1159, 1160, 1831, 1832, 1833, 1168, 1166, 1167, 1835, 1836, 1837, 1202, 1200, 1201, 1859, 1860, 1861, 1214, 1212, 1213, 1863, 1864, 1865, 451, 452, 453, 1867, 1868, 1869, 1226, 1224, 1225, 1871, 1872, 1873, 1240, 1238, 1239, 1891, 1892, 1893, 455, 456, 457, 1895, 1896, 1897, 473, 474, 475, 1900, 1901, 1902, 135, 136, 138, 137, 1249, 1250, 1252, 1251, 949].filterMap (fun i => lw_tbl[i]?) := by decide +kernel
set_option maxRecDepth 100000 in
set_option maxHeartbeats 8000000 in
theorem WS_c : wsE.filter k2_isCode = [438, 720, 716, 712, 708, 834, 488, 851, 841, 353, 846, 925, 930, 469, 1054, 450, 142, 565, 606, 610, 561, 602, 694, 1081, 1085, 1089, 838, 1093, 1098, 740, 462, 1501, 1508, 1512, 1601, 1842, 1589, 1516, 1585, 1682, 1713, 1678, 1783, 1787, 1791, 1810, 208, 205, 327, 147, 199, 284, 319, 484, 704, 819, 830, 1150, 1158, 1165, 1244, 1230, 1106, 1135, 1143, 1172, 1206, 1218, 1077, 1128, 434, 1497, 1505, 1493, 442, 1593, 1597, 1651, 1655, 446, 1775, 1779, 1799, 1814, 1818, 1822, 1826, 1830, 1834, 1838, 1862, 1866, 454, 1870, 1874, 1894, 458, 1898, 476, 1903, 139, 1253].filterMap (fun i => lw_tbl[i]?) := rfl
theorem WS_fm {l : List Cond} {ps : List Nat} (h : l = ps.filterMap (fun i => lw_tbl[i]?)) : ∀ w ∈ l, w ∈ lw_tbl := by
  intro w hw
  rw [h] at hw
  obtain ⟨i, -, hi⟩ := List.mem_filterMap.mp hw
  exact List.mem_of_getElem? hi
theorem WS_in1 : ∀ w ∈ wsE, w ∈ lw_tbl := by
  intro w h
  by_cases hc : k2_isCode w = true
  · exact WS_fm WS_c w (List.mem_filter.mpr ⟨h, hc⟩)
  · exact WS_fm WS_n w (List.mem_filter.mpr ⟨h, by simpa using hc⟩)
set_option maxRecDepth 100000 in
theorem WS_lX0 : ∀ w ∈ wsX00, w ∈ lw_tbl := by decide +kernel
set_option maxRecDepth 100000 in
theorem WS_lX1 : ∀ w ∈ wsX10, w ∈ lw_tbl := by decide +kernel
set_option maxRecDepth 100000 in
theorem WS_lX2 : ∀ w ∈ wsX20, w ∈ lw_tbl := by decide +kernel
set_option maxRecDepth 100000 in
theorem WS_lX3 : ∀ w ∈ wsX30, w ∈ lw_tbl := by decide +kernel
set_option maxRecDepth 100000 in
theorem WS_lX4 : ∀ w ∈ wsX40, w ∈ lw_tbl := by decide +kernel
set_option maxRecDepth 100000 in
theorem WS_lX5 : ∀ w ∈ wsX50, w ∈ lw_tbl := by decide +kernel
set_option maxRecDepth 100000 in
theorem WS_lX6 : ∀ w ∈ wsX60, w ∈ lw_tbl := by decide +kernel
set_option maxRecDepth 100000 in
theorem WS_lX8 : ∀ w ∈ wsX80, w ∈ lw_tbl := by decide +kernel
set_option maxRecDepth 100000 in
theorem WS_lX9 : ∀ w ∈ wsX90, w ∈ lw_tbl := by decide +kernel
set_option maxRecDepth 100000 in
theorem WS_lX10 : ∀ w ∈ wsX100, w ∈ lw_tbl := by decide +kernel
theorem WS_t1 : ∀ w ∈ wsT1, w ∈ lw_tbl := by decide +kernel
theorem WS_t2 : ∀ w ∈ wsT2, w ∈ lw_tbl := by decide +kernel
theorem WS_in2 : ∀ w ∈ wsY, w ∈ lw_tbl := fun w => (fun h => (List.mem_append.mp h).elim (fun h => (List.mem_append.mp h).elim (fun h => (List.mem_append.mp h).elim (fun h => (List.mem_append.mp h).elim (fun h => (List.mem_append.mp h).elim (fun h => (List.mem_append.mp h).elim (fun h => (List.mem_append.mp h).elim (fun h => (List.mem_append.mp h).elim (fun h => (List.mem_append.mp h).elim (fun h => WS_lX0 w h) (fun h => WS_lX1 w h)) (fun h => WS_lX2 w h)) (fun h => WS_lX3 w h)) (fun h => WS_lX4 w h)) (fun h => WS_lX5 w h)) (fun h => WS_lX6 w h)) (fun h => WS_lX8 w h)) (fun h => WS_lX9 w h)) (fun h => WS_lX10 w h))
theorem WS_in : ∀ w ∈ WS, w ∈ lw_tbl := fun w h => (List.mem_append.mp h).elim (WS_in1 w) (fun h => (List.mem_append.mp h).elim (WS_in2 w) (fun h => (List.mem_append.mp h).elim (WS_t1 w) (WS_t2 w)))
