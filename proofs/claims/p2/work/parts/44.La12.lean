set_option maxRecDepth 20000 in
theorem ggL_law_X10_glue : GoodIn wsL_law wsX10_glue := goodIn_r _ [1083, 39, 998, 999, 1000, 38, 1001, 87, 1084, 1085, 1086, 1087, 1027, 1003, 1004, 1005, 86, 1006, 1007, 1008, 1009, 1010, 1011, 1012, 1013, 1088, 1089, 1090, 1091, 1092, 1093, 1273, 1274, 1275, 1276, 1277, 1278, 1279, 1280, 1281, 1282, 1283, 1284, 1285, 1367, 1368] (by decide +kernel) (by decide +kernel)
set_option maxRecDepth 20000 in
theorem gL_law_X10_glue : GoodIn wsL_law (wsV RL 139 RX10 yX10_glue wsX10_glue) := goodIn_app (goodIn_of _ (by decide +kernel)) ggL_law_X10_glue
set_option maxRecDepth 20000 in
theorem ggL_law_X11_glue : GoodIn wsL_law wsX11_glue := goodIn_r _ [1097, 198, 185, 473, 474, 5, 475, 1286, 1287, 1288, 1289, 1290, 1291, 1292, 1293, 1294, 1295, 1296, 1297, 1298, 1299, 1300, 1301, 1302, 1303, 1304, 1305, 1306, 1307, 1308, 1309, 1310, 1311, 1312, 1313, 1314, 1315, 1316, 1317, 1318, 1319, 1320, 1321, 1322, 1323, 1324, 1325, 1326, 1327, 1328, 1329, 1330, 1331, 1332, 1333, 1334, 1335, 1336, 1337, 1338, 1339] (by decide +kernel) (by decide +kernel)
set_option maxRecDepth 20000 in
theorem gL_law_X11_glue : GoodIn wsL_law (wsV RL 142 RX11 yX11_glue wsX11_glue) := goodIn_app (goodIn_of _ (by decide +kernel)) ggL_law_X11_glue
set_option maxRecDepth 20000 in
theorem ggL_law_X10_cutOff : GoodIn wsL_law wsX10_cutOff := goodIn_r _ [1101, 39, 998, 999, 1000, 38, 1001, 87, 1102, 1103, 1104, 1105, 1027, 1003, 1004, 1005, 86, 1006, 1007, 1008, 1009, 1010, 1011, 1012, 1013, 1106, 1107, 1108, 1109, 1092, 1110, 1273, 1274, 1275, 1276, 1277, 1278, 1279, 1280, 1281, 1282, 1283, 1284, 1285, 1367, 1368] (by decide +kernel) (by decide +kernel)
set_option maxRecDepth 20000 in
theorem gL_law_X10_cutOff : GoodIn wsL_law (wsV RL 143 RX10 yX10_cutOff wsX10_cutOff) := goodIn_app (goodIn_of _ (by decide +kernel)) ggL_law_X10_cutOff
set_option maxRecDepth 20000 in
theorem ggL_law_X11_cutOff : GoodIn wsL_law wsX11_cutOff := goodIn_r _ [1114, 198, 473, 474, 5, 475, 1115, 1116, 1117, 1118, 185, 1119, 1120, 1121, 1122, 1286, 1287, 1288, 1289, 1290, 1291, 1292, 1293, 1294, 1295, 1296, 1297, 1298, 1299, 1300, 1301, 1302, 1303, 1304, 1305, 1306, 1307, 1308, 1309, 1310, 1311, 1312, 1313, 1314, 1315, 1316, 1317, 1318, 1319, 1320, 1321, 1322, 1323, 1324, 1325, 1326, 1327, 1328, 1329, 1330, 1331, 1332, 1333, 1334, 1335, 1336, 1337, 1338, 1339] (by decide +kernel) (by decide +kernel)
set_option maxRecDepth 20000 in
theorem gL_law_X11_cutOff : GoodIn wsL_law (wsV RL 146 RX11 yX11_cutOff wsX11_cutOff) := goodIn_app (goodIn_of _ (by decide +kernel)) ggL_law_X11_cutOff
set_option maxRecDepth 20000 in
theorem ggL_law_X10_core : GoodIn wsL_law wsX10_core := goodIn_r _ [1126, 39, 1127, 1128, 1129, 38, 1130, 1131, 1132, 1133, 1134, 87, 86, 1110, 1103, 1104, 1105, 1027, 1003, 1004, 1005, 1006, 1007, 1008, 1009, 1010, 1011, 1012, 1013, 1135, 1107, 1108, 1109, 1092, 999, 1000, 1001, 1273, 1274, 1275, 1276, 1277, 1278, 1279, 1280, 1281, 1282, 1283, 1284, 1285, 1367, 1368] (by decide +kernel) (by decide +kernel)
set_option maxRecDepth 20000 in
theorem gL_law_X10_core : GoodIn wsL_law (wsV RL 147 RX10 yX10_core wsX10_core) := goodIn_app (goodIn_of _ (by decide +kernel)) ggL_law_X10_core
