set_option maxRecDepth 20000 in
theorem ggL_law_X10_glue : GoodIn wsL_law wsX10_glue := goodIn_r _ [1083, 39, 998, 999, 1000, 38, 1001, 87, 1084, 1085, 1086, 1087, 1027, 1003, 1004, 1005, 86, 1006, 1007, 1008, 1009, 1010, 1011, 1012, 1013, 1088, 1089, 1090, 1091, 1092, 1093, 1273, 1274, 1275, 1276, 1277, 1278, 1279, 1280, 1281, 1282, 1283, 1284, 1285, 1367, 1368] (by decide +kernel) (by decide +kernel)
set_option maxRecDepth 20000 in
theorem gL_law_X10_glue : GoodIn wsL_law (wsV RL 139 RX10 yX10_glue wsX10_glue) := goodIn_app (goodIn_of _ (by decide +kernel)) ggL_law_X10_glue
set_option maxRecDepth 20000 in
theorem ggL_law_X11_glue : GoodIn wsL_law wsX11_glue := goodIn_r _ [1097, 198, 185, 473, 474, 5, 475, 1286, 1287, 1288, 1289, 1290, 1291, 1292, 1293, 1294, 1295, 1296, 1297, 1298, 1299, 1300, 1301, 1302, 1303, 1304, 1305, 1306, 1307, 1308, 1309, 1310, 1311, 1312, 1313, 1314, 1315, 1316, 1317, 1318, 1319, 1320, 1321, 1322, 1323, 1324, 1325, 1326, 1327, 1328, 1329, 1330, 1331, 1332, 1333, 1334, 1335, 1336, 1337, 1338, 1339] (by decide +kernel) (by decide +kernel)
set_option maxRecDepth 20000 in
theorem gL_law_X11_glue : GoodIn wsL_law (wsV RL 142 RX11 yX11_glue wsX11_glue) := goodIn_app (goodIn_of _ (by decide +kernel)) ggL_law_X11_glue
set_option maxRecDepth 20000 in
theorem ggL_law_X10_cutOff : GoodIn wsL_law wsX10_cutOff := goodIn_r _ [1101, 39, 998, 999, 1000, 38, 1001, 87, 1102, 1103, 1104, 1105, 1027, 1003, 1004, 1005, 86, 1006, 1007, 1008, 1009, 1010, 1011, 1012, 1013, 1106, 1107, 1108, 1109, 1092, 1110, 1273, 1274, 1275, 1276, 1277, 1278, 1279, 1280, 1281, 1282, 1283, 1284, 1285, 1367, 1368] (by decide +kernel) (by decide +kernel)
set_option maxRecDepth 20000 in
theorem gL_law_X10_cutOff : GoodIn wsL_law (wsV RL 143 RX10 yX10_cutOff wsX10_cutOff) := goodIn_app (goodIn_of _ (by decide +kernel)) ggL_law_X10_cutOff
set_option maxRecDepth 20000 in
theorem ggL_law_X11_cutOff : GoodIn wsL_law wsX11_cutOff := goodIn_r _ [1114, 198, 473, 474, 5, 475, 1115, 1116, 1117, 1118, 185, 1119, 1120, 1121, 1122, 1286, 1287, 1288, 1289, 1290, 1291, 1292, 1293, 1294, 1295, 1296, 1297, 1298, 1299, 1300, 1301, 1302, 1303, 1304, 1305, 1306, 1307, 1308, 1309, 1310, 1311, 1312, 1313, 1314, 1315, 1316, 1317, 1318, 1319, 1320, 1321, 1322, 1323, 1324, 1325, 1326, 1327, 1328, 1329, 1330, 1331, 1332, 1333, 1334, 1335, 1336, 1337, 1338, 1339] (by decide +kernel) (by decide +kernel)
set_option maxRecDepth 20000 in
theorem gL_law_X11_cutOff : GoodIn wsL_law (wsV RL 146 RX11 yX11_cutOff wsX11_cutOff) := goodIn_app (goodIn_of _ (by decide +kernel)) ggL_law_X11_cutOff
set_option maxRecDepth 20000 in
theorem ggL_law_X10_core : GoodIn wsL_law wsX10_core := goodIn_r _ [1126, 39, 1127, 1128, 1129, 38, 1130, 1131, 1132, 1133, 1134, 87, 86, 1110, 1103, 1104, 1105, 1027, 1003, 1004, 1005, 1006, 1007, 1008, 1009, 1010, 1011, 1012, 1013, 1135, 1107, 1108, 1109, 1092, 999, 1000, 1001, 1273, 1274, 1275, 1276, 1277, 1278, 1279, 1280, 1281, 1282, 1283, 1284, 1285, 1367, 1368] (by decide +kernel) (by decide +kernel)
set_option maxRecDepth 20000 in
theorem gL_law_X10_core : GoodIn wsL_law (wsV RL 147 RX10 yX10_core wsX10_core) := goodIn_app (goodIn_of _ (by decide +kernel)) ggL_law_X10_core
set_option maxRecDepth 20000 in
theorem ggL_law_X11_core : GoodIn wsL_law wsX11_core := goodIn_r _ [1139, 198, 185, 1115, 1116, 1117, 5, 1118, 1119, 1120, 1121, 1122, 1286, 1287, 1288, 1289, 1290, 1291, 1292, 1293, 1294, 1295, 1296, 1297, 1298, 1299, 1300, 1301, 1302, 1303, 1304, 1305, 1306, 1307, 1308, 1309, 1310, 1311, 1312, 1313, 1314, 1315, 1316, 1317, 1318, 1319, 1320, 1321, 1322, 1323, 1324, 1325, 1326, 1327, 1328, 1329, 1330, 1331, 1332, 1333, 1334, 1335, 1336, 1337, 1338, 1339] (by decide +kernel) (by decide +kernel)
set_option maxRecDepth 20000 in
theorem gL_law_X11_core : GoodIn wsL_law (wsV RL 150 RX11 yX11_core wsX11_core) := goodIn_app (goodIn_of _ (by decide +kernel)) ggL_law_X11_core
set_option maxRecDepth 20000 in
theorem ggL_law_X10_see : GoodIn wsL_law wsX10_see := goodIn_r _ [1143, 43, 1144, 1145, 1146, 42, 1147, 426, 584, 585, 586, 2, 587, 51, 588, 379, 380, 110, 381, 121, 1148, 1149, 1150, 1151, 1152, 1153, 1154, 424, 91, 92, 93, 94, 95, 1273, 1274, 1275, 1276, 1277, 1278, 1279, 1280, 1281, 1282, 1283, 1284, 1285, 1369, 1370, 1371, 1372, 1373, 1374, 1375, 1376, 1377, 1378, 1379, 1380, 1384, 1385, 1386, 1387, 1388, 1389, 1390, 1391, 1392] (by decide +kernel) (by decide +kernel)
set_option maxRecDepth 20000 in
theorem gL_law_X10_see : GoodIn wsL_law (wsV RL 151 RX10 yX10_see wsX10_see) := goodIn_app (goodIn_of _ (by decide +kernel)) ggL_law_X10_see
set_option maxRecDepth 20000 in
theorem ggL_law_X11_see : GoodIn wsL_law wsX11_see := goodIn_r _ [1158, 486, 484, 186, 187, 188, 189, 473, 474, 5, 475, 607, 608, 609, 610, 196, 1286, 1287, 1288, 1289, 1290, 1291, 1292, 1293, 1294, 1295, 1296, 1297, 1298, 1299, 1300, 1301, 1302, 1303, 1304, 1305, 1306, 1307, 1308, 1309, 1310, 1311, 1312, 1313, 1314, 1315, 1316, 1317, 1318, 1319, 1320, 1321, 1322, 1323, 1324, 1325, 1326, 1327, 1328, 1329, 1330, 1331, 1332, 1333, 1334, 1335, 1336, 1337, 1338, 1339] (by decide +kernel) (by decide +kernel)
set_option maxRecDepth 20000 in
theorem gL_law_X11_see : GoodIn wsL_law (wsV RL 154 RX11 yX11_see wsX11_see) := goodIn_app (goodIn_of _ (by decide +kernel)) ggL_law_X11_see
set_option maxRecDepth 20000 in
theorem ggL_law_X10_right : GoodIn wsL_law wsX10_right := goodIn_r _ [1162, 43, 1144, 1145, 1146, 42, 1147, 426, 1163, 1164, 1165, 1166, 91, 1167, 1168, 1169, 1170, 424, 1148, 1149, 2, 1150, 1171, 1172, 1173, 1174, 425, 96, 97, 98, 95, 1273, 1274, 1275, 1276, 1277, 1278, 1279, 1280, 1281, 1282, 1283, 1284, 1285, 1369, 1370, 1371, 1372, 1373, 1374, 1375, 1376, 1377, 1378, 1379, 1380] (by decide +kernel) (by decide +kernel)
set_option maxRecDepth 20000 in
theorem gL_law_X10_right : GoodIn wsL_law (wsV RL 155 RX10 yX10_right wsX10_right) := goodIn_app (goodIn_of _ (by decide +kernel)) ggL_law_X10_right
set_option maxRecDepth 20000 in
theorem ggL_law_X11_right : GoodIn wsL_law wsX11_right := goodIn_r _ [1178, 486, 484, 485, 190, 191, 192, 473, 474, 5, 475, 1286, 1287, 1288, 1289, 1290, 1291, 1292, 1293, 1294, 1295, 1296, 1297, 1298, 1299, 1300, 1301, 1302, 1303, 1304, 1305, 1306, 1307, 1308, 1309, 1310, 1311, 1312, 1313, 1314, 1315, 1316, 1317, 1318, 1319, 1320, 1321, 1322, 1323, 1324, 1325, 1326, 1327, 1328, 1329, 1330, 1331, 1332, 1333, 1334, 1335, 1336, 1337, 1338, 1339] (by decide +kernel) (by decide +kernel)
set_option maxRecDepth 20000 in
theorem gL_law_X11_right : GoodIn wsL_law (wsV RL 158 RX11 yX11_right wsX11_right) := goodIn_app (goodIn_of _ (by decide +kernel)) ggL_law_X11_right
set_option maxRecDepth 20000 in
theorem ggL_law_X10_fit : GoodIn wsL_law wsX10_fit := goodIn_r _ [1182, 47, 51, 43, 1183, 1184, 2, 1185, 1186, 1187, 1188, 46, 1189, 1190, 103, 1191, 1192, 1193, 42, 1194, 424, 99, 91, 94, 425, 96, 97, 98, 1167, 1168, 1169, 1170, 1195, 525, 526, 110, 527, 146, 1196, 155, 156, 157, 120, 158, 159, 160, 161, 1197, 1198, 1199, 1200, 92, 93, 1201, 590, 591, 592, 593, 594, 556, 595, 596, 597, 598, 599, 600, 601, 602, 119, 390, 379, 380, 381, 121, 147, 148, 149, 150, 151, 152, 153, 1202, 1203, 1204, 1205, 1206, 1207, 1208, 1209, 1273, 1274, 1275, 1276, 1277, 1278, 1279, 1280, 1281, 1282, 1283, 1284, 1285, 1381, 1382, 1383, 1369, 1370, 1371, 1372, 1373, 1374, 1375, 1376, 1377, 1378, 1379, 1380, 1384, 1385, 1386, 1387, 1388, 1389, 1390, 1391, 1392] (by decide +kernel) (by decide +kernel)
set_option maxRecDepth 20000 in
theorem gL_law_X10_fit : GoodIn wsL_law (wsV RL 159 RX10 yX10_fit wsX10_fit) := goodIn_app (goodIn_of _ (by decide +kernel)) ggL_law_X10_fit
set_option maxRecDepth 20000 in
theorem ggL_law_X11_fit : GoodIn wsL_law wsX11_fit := goodIn_r _ [1213, 204, 194, 473, 474, 5, 475, 1214, 1215, 1216, 1217, 196, 172, 199, 200, 201, 202, 203, 205, 206, 207, 208, 209, 210, 168, 169, 170, 211, 212, 213, 214, 215, 216, 217, 218, 219, 220, 221, 222, 223, 224, 225, 226, 1218, 1219, 1220, 1221, 484, 186, 189, 485, 191, 190, 192, 187, 188, 611, 612, 613, 614, 176, 615, 616, 617, 618, 173, 174, 175, 572, 573, 574, 575, 576, 577, 578, 579, 1286, 1287, 1288, 1289, 1290, 1291, 1292, 1293, 1294, 1295, 1296, 1297, 1298, 1299, 1300, 1301, 1302, 1303, 1304, 1305, 1306, 1307, 1308, 1309, 1310, 1311, 1312, 1313, 1314, 1315, 1316, 1317, 1318, 1319, 1320, 1321, 1322, 1323, 1324, 1325, 1326, 1327, 1328, 1329, 1330, 1331, 1332, 1333, 1334, 1335, 1336, 1337, 1338, 1339] (by decide +kernel) (by decide +kernel)
set_option maxRecDepth 20000 in
theorem gL_law_X11_fit : GoodIn wsL_law (wsV RL 162 RX11 yX11_fit wsX11_fit) := goodIn_app (goodIn_of _ (by decide +kernel)) ggL_law_X11_fit
set_option maxRecDepth 20000 in
theorem ggL_law_X10_surely : GoodIn wsL_law wsX10_surely := goodIn_r _ [1225, 51, 47, 43, 1183, 1184, 2, 1185, 584, 585, 586, 587, 588, 379, 380, 110, 381, 121, 675, 387, 388, 389, 117, 390, 1186, 1187, 1188, 46, 1189, 1190, 103, 1191, 1192, 1193, 42, 1194, 424, 99, 91, 94, 425, 96, 97, 98, 1167, 1168, 1169, 1170, 1195, 525, 526, 527, 146, 1196, 155, 156, 157, 120, 158, 159, 160, 161, 1197, 1198, 1199, 1200, 92, 93, 1201, 590, 591, 592, 593, 594, 556, 595, 596, 597, 598, 599, 600, 601, 602, 119, 147, 148, 149, 150, 151, 152, 153, 1226, 1227, 1228, 1229, 1230, 392, 393, 394, 395, 396, 397, 398, 122, 1273, 1274, 1275, 1276, 1277, 1278, 1279, 1280, 1281, 1282, 1283, 1284, 1285, 1384, 1385, 1386, 1387, 1388, 1389, 1390, 1391, 1392, 1381, 1382, 1383, 1369, 1370, 1371, 1372, 1373, 1374, 1375, 1376, 1377, 1378, 1379, 1380] (by decide +kernel) (by decide +kernel)
set_option maxRecDepth 20000 in
theorem gL_law_X10_surely : GoodIn wsL_law (wsV RL 163 RX10 yX10_surely wsX10_surely) := goodIn_app (goodIn_of _ (by decide +kernel)) ggL_law_X10_surely
set_option maxRecDepth 20000 in
theorem ggL_law_X11_surely : GoodIn wsL_law wsX11_surely := goodIn_r _ [1234, 196, 204, 194, 172, 607, 608, 609, 5, 610, 473, 474, 475, 211, 212, 213, 214, 215, 216, 1214, 1215, 1216, 1217, 199, 200, 201, 202, 203, 205, 206, 207, 208, 209, 210, 168, 169, 170, 217, 218, 219, 220, 221, 222, 223, 224, 225, 226, 1218, 1219, 1220, 1221, 484, 186, 189, 485, 191, 190, 192, 187, 188, 611, 612, 613, 614, 176, 615, 616, 617, 618, 173, 174, 175, 572, 573, 574, 575, 576, 577, 578, 579, 1286, 1287, 1288, 1289, 1290, 1291, 1292, 1293, 1294, 1295, 1296, 1297, 1298, 1299, 1300, 1301, 1302, 1303, 1304, 1305, 1306, 1307, 1308, 1309, 1310, 1311, 1312, 1313, 1314, 1315, 1316, 1317, 1318, 1319, 1320, 1321, 1322, 1323, 1324, 1325, 1326, 1327, 1328, 1329, 1330, 1331, 1332, 1333, 1334, 1335, 1336, 1337, 1338, 1339] (by decide +kernel) (by decide +kernel)
set_option maxRecDepth 20000 in
theorem gL_law_X11_surely : GoodIn wsL_law (wsV RL 166 RX11 yX11_surely wsX11_surely) := goodIn_app (goodIn_of _ (by decide +kernel)) ggL_law_X11_surely
set_option maxRecDepth 20000 in
theorem ggL_law_X10_ask : GoodIn wsL_law wsX10_ask := goodIn_r _ [1238, 47, 51, 43, 1183, 1184, 2, 1185, 1186, 1187, 1188, 46, 1189, 1190, 103, 1191, 1192, 1193, 42, 1194, 424, 99, 91, 94, 425, 96, 97, 98, 1167, 1168, 1169, 1170, 1195, 525, 526, 110, 527, 146, 1196, 155, 156, 157, 120, 158, 159, 160, 161, 1197, 1198, 1199, 1200, 92, 93, 1201, 590, 591, 592, 593, 594, 556, 595, 596, 597, 598, 599, 600, 601, 602, 119, 390, 379, 380, 381, 121, 147, 148, 149, 150, 151, 152, 153, 1239, 1240, 1241, 1242, 1243, 716, 717, 718, 122, 1244, 897, 898, 899, 115, 395, 396, 397, 398, 1245, 902, 903, 904, 116, 1246, 1247, 1248, 1249, 104, 1250, 1251, 1252, 682, 683, 684, 1273, 1274, 1275, 1276, 1277, 1278, 1279, 1280, 1281, 1282, 1283, 1284, 1285, 1381, 1382, 1383, 1369, 1370, 1371, 1372, 1373, 1374, 1375, 1376, 1377, 1378, 1379, 1380, 1384, 1385, 1386, 1387, 1388, 1389, 1390, 1391, 1392] (by decide +kernel) (by decide +kernel)
set_option maxRecDepth 20000 in
theorem gL_law_X10_ask : GoodIn wsL_law (wsV RL 167 RX10 yX10_ask wsX10_ask) := goodIn_app (goodIn_of _ (by decide +kernel)) ggL_law_X10_ask
