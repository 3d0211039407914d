set_option maxRecDepth 100000 in
set_option maxHeartbeats 4000000 in
theorem zl10 : ∀ w ∈ zW10, w ∈ lw_tbl := in_places [499, 529, 530, 531, 528, 535, 536, 537, 538, 543, 544, 545, 546, 542, 667, 668, 669, 666, 674, 675, 676, 673, 705, 706, 707, 704, 744, 745, 746, 747, 752, 753, 754, 751, 839, 840, 841, 842, 847, 848, 849, 846, 856, 857, 858, 855, 863, 864, 865, 862, 883, 884, 885, 882, 893, 894, 895, 892, 900, 901, 902, 899, 919, 920, 921, 918, 926, 927, 928, 929] (by decide +kernel)
set_option maxRecDepth 100000 in
set_option maxHeartbeats 4000000 in
theorem zl11 : ∀ w ∈ zW11, w ∈ lw_tbl := in_places [925, 980, 981, 982, 979, 987, 988, 1002, 1003, 1004, 1015, 1016, 1017, 1018, 72, 73, 1020, 1021, 1388, 1389, 74, 75, 1022, 1023, 333, 334, 41, 1153, 1154, 1155, 1149, 1150, 1151, 441, 442, 1172, 1173, 1174, 490, 491, 1188, 1189, 1190, 497, 498, 1192, 1193, 1194, 526, 527, 1200, 1201, 1202, 533, 534, 1204, 1205, 1206, 540, 541, 1208, 1209, 1210, 664, 665, 1215, 1216, 1217, 671, 672] (by decide +kernel)
set_option maxRecDepth 100000 in
set_option maxHeartbeats 4000000 in
theorem zl12 : ∀ w ∈ zW12, w ∈ lw_tbl := in_places [1223, 1224, 1225, 702, 703, 1227, 1228, 1229, 742, 743, 1235, 1236, 1237, 749, 750, 1239, 1240, 1241, 837, 838, 1277, 1278, 1279, 241, 242, 243, 1281, 1282, 1283, 249, 250, 251, 1285, 1286, 1287, 257, 258, 259, 1293, 1294, 1295, 844, 845, 1297, 1298, 1299, 853, 854, 1301, 1302, 1303, 261, 262, 263, 1305, 1306, 1307, 265, 266, 267, 1309, 1310, 1311, 269, 270, 271, 1313, 1314, 1315, 860] (by decide +kernel)
set_option maxRecDepth 100000 in
set_option maxHeartbeats 4000000 in
theorem zl13 : ∀ w ∈ zW13, w ∈ lw_tbl := in_places [861, 1317, 1318, 1319, 880, 881, 1321, 1322, 1323, 890, 891, 1326, 1327, 1328, 277, 278, 279, 1330, 1331, 1332, 897, 898, 1334, 1335, 1336, 916, 917, 1338, 1339, 1340, 281, 282, 283, 1342, 1343, 1344, 923, 924, 1346, 1347, 1348, 977, 978, 1362, 1363, 1364, 285, 286, 287, 1366, 1367, 1368, 985, 986, 1372, 1373, 1374, 1013, 1014, 1380, 1381, 1382, 314, 315, 316, 1384, 1385, 1386] (by decide +kernel)
set_option maxRecDepth 100000 in
set_option maxHeartbeats 4000000 in
theorem zlu_RX0 : ∀ w ∈ wsX00, w ∈ lw_tbl := in_places [731, 733, 735, 737, 739] (by decide +kernel)
set_option maxRecDepth 100000 in
set_option maxHeartbeats 4000000 in
theorem zlu_RX1 : ∀ w ∈ wsX10, w ∈ lw_tbl := in_places [207, 209, 211, 213, 215, 217, 219] (by decide +kernel)
set_option maxRecDepth 100000 in
set_option maxHeartbeats 4000000 in
theorem zlu_RX2 : ∀ w ∈ wsX20, w ∈ lw_tbl := in_places [587, 589, 591, 593, 595, 597] (by decide +kernel)
set_option maxRecDepth 100000 in
set_option maxHeartbeats 4000000 in
theorem zlu_RX3 : ∀ w ∈ wsX30, w ∈ lw_tbl := in_places [140, 142, 144] (by decide +kernel)
set_option maxRecDepth 100000 in
set_option maxHeartbeats 4000000 in
theorem zlu_RX4 : ∀ w ∈ wsX40, w ∈ lw_tbl := in_places [114, 116, 118, 120, 122, 124, 126, 128, 130] (by decide +kernel)
set_option maxRecDepth 100000 in
set_option maxHeartbeats 4000000 in
theorem zlu_RX5 : ∀ w ∈ wsX50, w ∈ lw_tbl := in_places [693, 695, 697, 699] (by decide +kernel)
set_option maxRecDepth 100000 in
set_option maxHeartbeats 4000000 in
theorem zlu_RX6 : ∀ w ∈ wsX60, w ∈ lw_tbl := in_places [181] (by decide +kernel)
set_option maxRecDepth 100000 in
set_option maxHeartbeats 4000000 in
theorem zlu_RX7 : ∀ w ∈ wsX70, w ∈ lw_tbl := in_places [228, 230, 232, 234, 236, 238] (by decide +kernel)
set_option maxRecDepth 100000 in
set_option maxHeartbeats 4000000 in
theorem zlu_RX8 : ∀ w ∈ wsX80, w ∈ lw_tbl := in_places [1071, 1073, 1075, 1077, 1079, 1081, 1083, 1085, 1087, 1089, 1091, 1093, 1095, 1097, 1099, 1101, 1103, 1105, 1107, 1109, 1111, 1113, 1115, 1117, 1119, 1121, 1123, 1125, 1127, 1129, 1131, 1133, 1135, 1137, 1139, 1141, 1143] (by decide +kernel)
set_option maxRecDepth 100000 in
set_option maxHeartbeats 4000000 in
theorem zlu_RJx00060 : ∀ w ∈ wsJx000600, w ∈ lw_tbl := in_places [452, 453, 454, 455, 456, 457] (by decide +kernel)
set_option maxRecDepth 100000 in
set_option maxHeartbeats 4000000 in
theorem zlu_RJ0 : ∀ w ∈ wsJ00, w ∈ lw_tbl := in_places [464, 466] (by decide +kernel)
set_option maxRecDepth 100000 in
set_option maxHeartbeats 4000000 in
theorem zlu_RJx4a65c : ∀ w ∈ wsJx4a65c0, w ∈ lw_tbl := in_places [176, 172, 174] (by decide +kernel)
