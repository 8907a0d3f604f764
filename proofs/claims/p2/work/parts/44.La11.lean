set_option maxRecDepth 20000 in
theorem ggL_law_X11_along : GoodIn wsL_law wsX11_along := goodIn_r _ [1031, 198, 1032, 473, 474, 5, 475, 1033, 1034, 1035, 1036, 185, 1286, 1287, 1288, 1289, 1290, 1291, 1292, 1293, 1294, 1295, 1296, 1297, 1298, 1299, 1300, 1301, 1302, 1303, 1304, 1305, 1306, 1307, 1308, 1309, 1310, 1311, 1312, 1313, 1314, 1315, 1316, 1317, 1318, 1319, 1320, 1321, 1322, 1323, 1324, 1325, 1326, 1327, 1328, 1329, 1330, 1331, 1332, 1333, 1334, 1335, 1336, 1337, 1338, 1339] (by decide +kernel) (by decide +kernel)
set_option maxRecDepth 20000 in
theorem gL_law_X11_along : GoodIn wsL_law (wsV RL 129 RX11 yX11_along wsX11_along) := goodIn_app (goodIn_of _ (by decide +kernel)) ggL_law_X11_along
set_option maxRecDepth 20000 in
theorem ggL_law_X10_breaks : GoodIn wsL_law wsX10_breaks := goodIn_r _ [1040, 39, 1041, 1042, 1043, 38, 1044, 1045, 1046, 1047, 1048, 87, 1049, 1024, 1025, 1026, 1027, 1003, 1004, 1005, 86, 1006, 1007, 1008, 1009, 1010, 1011, 1012, 1013, 1050, 1051, 1052, 1053, 1054, 1055, 1056, 1057, 1058, 1059, 1273, 1274, 1275, 1276, 1277, 1278, 1279, 1280, 1281, 1282, 1283, 1284, 1285, 1367, 1368] (by decide +kernel) (by decide +kernel)
set_option maxRecDepth 20000 in
theorem gL_law_X10_breaks : GoodIn wsL_law (wsV RL 130 RX10 yX10_breaks wsX10_breaks) := goodIn_app (goodIn_of _ (by decide +kernel)) ggL_law_X10_breaks
set_option maxRecDepth 20000 in
theorem ggL_law_X11_breaks : GoodIn wsL_law wsX11_breaks := goodIn_r _ [1063, 198, 695, 473, 474, 5, 475, 1033, 1034, 1035, 1036, 185, 1064, 1065, 1066, 1067, 1286, 1287, 1288, 1289, 1290, 1291, 1292, 1293, 1294, 1295, 1296, 1297, 1298, 1299, 1300, 1301, 1302, 1303, 1304, 1305, 1306, 1307, 1308, 1309, 1310, 1311, 1312, 1313, 1314, 1315, 1316, 1317, 1318, 1319, 1320, 1321, 1322, 1323, 1324, 1325, 1326, 1327, 1328, 1329, 1330, 1331, 1332, 1333, 1334, 1335, 1336, 1337, 1338, 1339] (by decide +kernel) (by decide +kernel)
set_option maxRecDepth 20000 in
theorem gL_law_X11_breaks : GoodIn wsL_law (wsV RL 133 RX11 yX11_breaks wsX11_breaks) := goodIn_app (goodIn_of _ (by decide +kernel)) ggL_law_X11_breaks
set_option maxRecDepth 20000 in
theorem ggL_law_X10_growth : GoodIn wsL_law wsX10_growth := goodIn_r _ [1071, 39, 1072, 1073, 1074, 38, 1075, 87, 1049, 1024, 1025, 1026, 1027, 1003, 1004, 1005, 86, 1006, 1007, 1008, 1009, 1010, 1011, 1012, 1013, 1273, 1274, 1275, 1276, 1277, 1278, 1279, 1280, 1281, 1282, 1283, 1284, 1285, 1367, 1368] (by decide +kernel) (by decide +kernel)
set_option maxRecDepth 20000 in
theorem gL_law_X10_growth : GoodIn wsL_law (wsV RL 134 RX10 yX10_growth wsX10_growth) := goodIn_app (goodIn_of _ (by decide +kernel)) ggL_law_X10_growth
set_option maxRecDepth 20000 in
theorem ggL_law_X11_growth : GoodIn wsL_law wsX11_growth := goodIn_r _ [1079, 198, 1033, 1034, 1035, 5, 1036, 185, 1286, 1287, 1288, 1289, 1290, 1291, 1292, 1293, 1294, 1295, 1296, 1297, 1298, 1299, 1300, 1301, 1302, 1303, 1304, 1305, 1306, 1307, 1308, 1309, 1310, 1311, 1312, 1313, 1314, 1315, 1316, 1317, 1318, 1319, 1320, 1321, 1322, 1323, 1324, 1325, 1326, 1327, 1328, 1329, 1330, 1331, 1332, 1333, 1334, 1335, 1336, 1337, 1338, 1339] (by decide +kernel) (by decide +kernel)
set_option maxRecDepth 20000 in
theorem gL_law_X11_growth : GoodIn wsL_law (wsV RL 138 RX11 yX11_growth wsX11_growth) := goodIn_app (goodIn_of _ (by decide +kernel)) ggL_law_X11_growth
