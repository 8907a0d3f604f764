set_option maxRecDepth 20000 in
theorem ggL_law_X11_core : GoodIn wsL_law wsX11_core := goodIn_r _ [1139, 198, 185, 1115, 1116, 1117, 5, 1118, 1119, 1120, 1121, 1122, 1286, 1287, 1288, 1289, 1290, 1291, 1292, 1293, 1294, 1295, 1296, 1297, 1298, 1299, 1300, 1301, 1302, 1303, 1304, 1305, 1306, 1307, 1308, 1309, 1310, 1311, 1312, 1313, 1314, 1315, 1316, 1317, 1318, 1319, 1320, 1321, 1322, 1323, 1324, 1325, 1326, 1327, 1328, 1329, 1330, 1331, 1332, 1333, 1334, 1335, 1336, 1337, 1338, 1339] (by decide +kernel) (by decide +kernel)
set_option maxRecDepth 20000 in
theorem gL_law_X11_core : GoodIn wsL_law (wsV RL 150 RX11 yX11_core wsX11_core) := goodIn_app (goodIn_of _ (by decide +kernel)) ggL_law_X11_core
set_option maxRecDepth 20000 in
theorem ggL_law_X10_see : GoodIn wsL_law wsX10_see := goodIn_r _ [1143, 43, 1144, 1145, 1146, 42, 1147, 426, 584, 585, 586, 2, 587, 51, 588, 379, 380, 110, 381, 121, 1148, 1149, 1150, 1151, 1152, 1153, 1154, 424, 91, 92, 93, 94, 95, 1273, 1274, 1275, 1276, 1277, 1278, 1279, 1280, 1281, 1282, 1283, 1284, 1285, 1369, 1370, 1371, 1372, 1373, 1374, 1375, 1376, 1377, 1378, 1379, 1380, 1384, 1385, 1386, 1387, 1388, 1389, 1390, 1391, 1392] (by decide +kernel) (by decide +kernel)
set_option maxRecDepth 20000 in
theorem gL_law_X10_see : GoodIn wsL_law (wsV RL 151 RX10 yX10_see wsX10_see) := goodIn_app (goodIn_of _ (by decide +kernel)) ggL_law_X10_see
set_option maxRecDepth 20000 in
theorem ggL_law_X11_see : GoodIn wsL_law wsX11_see := goodIn_r _ [1158, 486, 484, 186, 187, 188, 189, 473, 474, 5, 475, 607, 608, 609, 610, 196, 1286, 1287, 1288, 1289, 1290, 1291, 1292, 1293, 1294, 1295, 1296, 1297, 1298, 1299, 1300, 1301, 1302, 1303, 1304, 1305, 1306, 1307, 1308, 1309, 1310, 1311, 1312, 1313, 1314, 1315, 1316, 1317, 1318, 1319, 1320, 1321, 1322, 1323, 1324, 1325, 1326, 1327, 1328, 1329, 1330, 1331, 1332, 1333, 1334, 1335, 1336, 1337, 1338, 1339] (by decide +kernel) (by decide +kernel)
set_option maxRecDepth 20000 in
theorem gL_law_X11_see : GoodIn wsL_law (wsV RL 154 RX11 yX11_see wsX11_see) := goodIn_app (goodIn_of _ (by decide +kernel)) ggL_law_X11_see
set_option maxRecDepth 20000 in
theorem ggL_law_X10_right : GoodIn wsL_law wsX10_right := goodIn_r _ [1162, 43, 1144, 1145, 1146, 42, 1147, 426, 1163, 1164, 1165, 1166, 91, 1167, 1168, 1169, 1170, 424, 1148, 1149, 2, 1150, 1171, 1172, 1173, 1174, 425, 96, 97, 98, 95, 1273, 1274, 1275, 1276, 1277, 1278, 1279, 1280, 1281, 1282, 1283, 1284, 1285, 1369, 1370, 1371, 1372, 1373, 1374, 1375, 1376, 1377, 1378, 1379, 1380] (by decide +kernel) (by decide +kernel)
set_option maxRecDepth 20000 in
theorem gL_law_X10_right : GoodIn wsL_law (wsV RL 155 RX10 yX10_right wsX10_right) := goodIn_app (goodIn_of _ (by decide +kernel)) ggL_law_X10_right
set_option maxRecDepth 20000 in
theorem ggL_law_X11_right : GoodIn wsL_law wsX11_right := goodIn_r _ [1178, 486, 484, 485, 190, 191, 192, 473, 474, 5, 475, 1286, 1287, 1288, 1289, 1290, 1291, 1292, 1293, 1294, 1295, 1296, 1297, 1298, 1299, 1300, 1301, 1302, 1303, 1304, 1305, 1306, 1307, 1308, 1309, 1310, 1311, 1312, 1313, 1314, 1315, 1316, 1317, 1318, 1319, 1320, 1321, 1322, 1323, 1324, 1325, 1326, 1327, 1328, 1329, 1330, 1331, 1332, 1333, 1334, 1335, 1336, 1337, 1338, 1339] (by decide +kernel) (by decide +kernel)
set_option maxRecDepth 20000 in
theorem gL_law_X11_right : GoodIn wsL_law (wsV RL 158 RX11 yX11_right wsX11_right) := goodIn_app (goodIn_of _ (by decide +kernel)) ggL_law_X11_right
