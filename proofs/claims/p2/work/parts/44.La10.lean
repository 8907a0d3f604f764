set_option maxRecDepth 20000 in
theorem ggL_law_X10_ofCut : GoodIn wsL_law wsX10_ofCut := goodIn_r _ [989, 51, 49, 52, 39, 419, 375, 376, 110, 377, 121, 623, 600, 601, 602, 119, 390, 379, 380, 381, 147, 148, 149, 150, 151, 152, 153, 977, 978, 979, 38, 980, 981, 594, 556, 595, 87, 86, 1273, 1274, 1275, 1276, 1277, 1278, 1279, 1280, 1281, 1282, 1283, 1284, 1285, 1384, 1385, 1386, 1387, 1388, 1389, 1390, 1391, 1392, 1367, 1368] (by decide +kernel) (by decide +kernel)
set_option maxRecDepth 20000 in
theorem gL_law_X10_ofCut : GoodIn wsL_law (wsV RL 117 RX10 yX10_ofCut wsX10_ofCut) := goodIn_app (goodIn_of _ (by decide +kernel)) ggL_law_X10_ofCut
set_option maxRecDepth 20000 in
theorem ggL_law_X11_ofCut : GoodIn wsL_law wsX11_ofCut := goodIn_r _ [993, 196, 198, 185, 197, 205, 206, 207, 5, 208, 209, 210, 168, 169, 170, 211, 212, 213, 214, 215, 216, 628, 629, 630, 631, 576, 577, 578, 579, 1286, 1287, 1288, 1289, 1290, 1291, 1292, 1293, 1294, 1295, 1296, 1297, 1298, 1299, 1300, 1301, 1302, 1303, 1304, 1305, 1306, 1307, 1308, 1309, 1310, 1311, 1312, 1313, 1314, 1315, 1316, 1317, 1318, 1319, 1320, 1321, 1322, 1323, 1324, 1325, 1326, 1327, 1328, 1329, 1330, 1331, 1332, 1333, 1334, 1335, 1336, 1337, 1338, 1339] (by decide +kernel) (by decide +kernel)
set_option maxRecDepth 20000 in
theorem gL_law_X11_ofCut : GoodIn wsL_law (wsV RL 120 RX11 yX11_ofCut wsX11_ofCut) := goodIn_app (goodIn_of _ (by decide +kernel)) ggL_law_X11_ofCut
set_option maxRecDepth 20000 in
theorem ggL_law_X10_of : GoodIn wsL_law wsX10_of := goodIn_r _ [997, 39, 998, 999, 1000, 38, 1001, 87, 1002, 1003, 1004, 1005, 86, 1006, 1007, 1008, 1009, 1010, 1011, 1012, 1013, 1273, 1274, 1275, 1276, 1277, 1278, 1279, 1280, 1281, 1282, 1283, 1284, 1285, 1367, 1368] (by decide +kernel) (by decide +kernel)
set_option maxRecDepth 20000 in
theorem gL_law_X10_of : GoodIn wsL_law (wsV RL 121 RX10 yX10_of wsX10_of) := goodIn_app (goodIn_of _ (by decide +kernel)) ggL_law_X10_of
set_option maxRecDepth 20000 in
theorem ggL_law_X11_of : GoodIn wsL_law wsX11_of := goodIn_r _ [1017, 198, 185, 473, 474, 5, 475, 1286, 1287, 1288, 1289, 1290, 1291, 1292, 1293, 1294, 1295, 1296, 1297, 1298, 1299, 1300, 1301, 1302, 1303, 1304, 1305, 1306, 1307, 1308, 1309, 1310, 1311, 1312, 1313, 1314, 1315, 1316, 1317, 1318, 1319, 1320, 1321, 1322, 1323, 1324, 1325, 1326, 1327, 1328, 1329, 1330, 1331, 1332, 1333, 1334, 1335, 1336, 1337, 1338, 1339] (by decide +kernel) (by decide +kernel)
set_option maxRecDepth 20000 in
theorem gL_law_X11_of : GoodIn wsL_law (wsV RL 124 RX11 yX11_of wsX11_of) := goodIn_app (goodIn_of _ (by decide +kernel)) ggL_law_X11_of
set_option maxRecDepth 20000 in
theorem ggL_law_X10_along : GoodIn wsL_law wsX10_along := goodIn_r _ [1021, 39, 1022, 998, 999, 1000, 38, 1001, 87, 1023, 1024, 1025, 1026, 1027, 1003, 1004, 1005, 86, 1006, 1007, 1008, 1009, 1010, 1011, 1012, 1013, 1273, 1274, 1275, 1276, 1277, 1278, 1279, 1280, 1281, 1282, 1283, 1284, 1285, 1367, 1368] (by decide +kernel) (by decide +kernel)
set_option maxRecDepth 20000 in
theorem gL_law_X10_along : GoodIn wsL_law (wsV RL 125 RX10 yX10_along wsX10_along) := goodIn_app (goodIn_of _ (by decide +kernel)) ggL_law_X10_along
