set_option maxRecDepth 20000 in
theorem ggL_law_X11_greatest : GoodIn wsL_law wsX11_greatest := goodIn_r _ [955, 204, 172, 176, 473, 474, 5, 475, 199, 200, 201, 202, 203, 205, 206, 207, 208, 209, 210, 168, 169, 170, 211, 212, 213, 214, 215, 216, 217, 218, 219, 220, 221, 222, 223, 224, 225, 226, 615, 616, 617, 618, 173, 174, 175, 572, 573, 574, 575, 576, 577, 578, 579, 1286, 1287, 1288, 1289, 1290, 1291, 1292, 1293, 1294, 1295, 1296, 1297, 1298, 1299, 1300, 1301, 1302, 1303, 1304, 1305, 1306, 1307, 1308, 1309, 1310, 1311, 1312, 1313, 1314, 1315, 1316, 1317, 1318, 1319, 1320, 1321, 1322, 1323, 1324, 1325, 1326, 1327, 1328, 1329, 1330, 1331, 1332, 1333, 1334, 1335, 1336, 1337, 1338, 1339] (by decide +kernel) (by decide +kernel)
set_option maxRecDepth 20000 in
theorem gL_law_X11_greatest : GoodIn wsL_law (wsV RL 108 RX11 yX11_greatest wsX11_greatest) := goodIn_app (goodIn_of _ (by decide +kernel)) ggL_law_X11_greatest
set_option maxRecDepth 20000 in
theorem ggL_law_X10_spread : GoodIn wsL_law wsX10_spread := goodIn_r _ [959, 51, 584, 585, 586, 2, 587, 588, 379, 380, 110, 381, 121, 960, 961, 962, 963, 146, 120, 964, 590, 591, 592, 593, 594, 556, 595, 596, 597, 598, 599, 600, 601, 602, 119, 390, 147, 148, 149, 150, 151, 152, 153, 1273, 1274, 1275, 1276, 1277, 1278, 1279, 1280, 1281, 1282, 1283, 1284, 1285, 1384, 1385, 1386, 1387, 1388, 1389, 1390, 1391, 1392] (by decide +kernel) (by decide +kernel)
set_option maxRecDepth 20000 in
theorem gL_law_X10_spread : GoodIn wsL_law (wsV RL 109 RX10 yX10_spread wsX10_spread) := goodIn_app (goodIn_of _ (by decide +kernel)) ggL_law_X10_spread
set_option maxRecDepth 20000 in
theorem ggL_law_X11_spread : GoodIn wsL_law wsX11_spread := goodIn_r _ [968, 196, 204, 172, 607, 608, 609, 5, 610, 473, 474, 475, 199, 200, 201, 202, 203, 205, 206, 207, 208, 209, 210, 168, 169, 170, 211, 212, 213, 214, 215, 216, 217, 218, 219, 220, 221, 222, 223, 224, 225, 226, 611, 612, 613, 614, 176, 615, 616, 617, 618, 173, 174, 175, 572, 573, 574, 575, 576, 577, 578, 579, 1286, 1287, 1288, 1289, 1290, 1291, 1292, 1293, 1294, 1295, 1296, 1297, 1298, 1299, 1300, 1301, 1302, 1303, 1304, 1305, 1306, 1307, 1308, 1309, 1310, 1311, 1312, 1313, 1314, 1315, 1316, 1317, 1318, 1319, 1320, 1321, 1322, 1323, 1324, 1325, 1326, 1327, 1328, 1329, 1330, 1331, 1332, 1333, 1334, 1335, 1336, 1337, 1338, 1339] (by decide +kernel) (by decide +kernel)
set_option maxRecDepth 20000 in
theorem gL_law_X11_spread : GoodIn wsL_law (wsV RL 112 RX11 yX11_spread wsX11_spread) := goodIn_app (goodIn_of _ (by decide +kernel)) ggL_law_X11_spread
set_option maxRecDepth 20000 in
theorem ggL_law_X10_period : GoodIn wsL_law wsX10_period := goodIn_r _ [972, 15, 49, 39, 829, 830, 831, 14, 832, 284, 283, 833, 274, 275, 276, 277, 834, 279, 280, 281, 235, 57, 282, 285, 286, 287, 288, 289, 290, 291, 292, 293, 294, 295, 296, 297, 298, 299, 300, 301, 253, 254, 255, 256, 973, 974, 975, 38, 976, 977, 978, 979, 980, 981, 594, 556, 595, 87, 86, 1273, 1274, 1275, 1276, 1277, 1278, 1279, 1280, 1281, 1282, 1283, 1284, 1285, 1340, 1341, 1342, 1343, 1344, 1345, 1367, 1368] (by decide +kernel) (by decide +kernel)
set_option maxRecDepth 20000 in
theorem gL_law_X10_period : GoodIn wsL_law (wsV RL 113 RX10 yX10_period wsX10_period) := goodIn_app (goodIn_of _ (by decide +kernel)) ggL_law_X10_period
set_option maxRecDepth 20000 in
theorem ggL_law_X11_period : GoodIn wsL_law wsX11_period := goodIn_r _ [985, 181, 198, 185, 849, 850, 851, 5, 852, 853, 449, 453, 438, 439, 440, 441, 248, 442, 443, 444, 445, 446, 447, 448, 450, 451, 452, 454, 455, 456, 457, 166, 458, 459, 460, 461, 462, 463, 473, 474, 475, 1286, 1287, 1288, 1289, 1290, 1291, 1292, 1293, 1294, 1295, 1296, 1297, 1298, 1299, 1300, 1301, 1302, 1303, 1304, 1305, 1306, 1307, 1308, 1309, 1310, 1311, 1312, 1313, 1314, 1315, 1316, 1317, 1318, 1319, 1320, 1321, 1322, 1323, 1324, 1325, 1326, 1327, 1328, 1329, 1330, 1331, 1332, 1333, 1334, 1335, 1336, 1337, 1338, 1339] (by decide +kernel) (by decide +kernel)
set_option maxRecDepth 20000 in
theorem gL_law_X11_period : GoodIn wsL_law (wsV RL 116 RX11 yX11_period wsX11_period) := goodIn_app (goodIn_of _ (by decide +kernel)) ggL_law_X11_period
set_option maxRecDepth 20000 in
theorem ggL_law_X10_ofCut : GoodIn wsL_law wsX10_ofCut := goodIn_r _ [989, 51, 49, 52, 39, 419, 375, 376, 110, 377, 121, 623, 600, 601, 602, 119, 390, 379, 380, 381, 147, 148, 149, 150, 151, 152, 153, 977, 978, 979, 38, 980, 981, 594, 556, 595, 87, 86, 1273, 1274, 1275, 1276, 1277, 1278, 1279, 1280, 1281, 1282, 1283, 1284, 1285, 1384, 1385, 1386, 1387, 1388, 1389, 1390, 1391, 1392, 1367, 1368] (by decide +kernel) (by decide +kernel)
set_option maxRecDepth 20000 in
theorem gL_law_X10_ofCut : GoodIn wsL_law (wsV RL 117 RX10 yX10_ofCut wsX10_ofCut) := goodIn_app (goodIn_of _ (by decide +kernel)) ggL_law_X10_ofCut
set_option maxRecDepth 20000 in
theorem ggL_law_X11_ofCut : GoodIn wsL_law wsX11_ofCut := goodIn_r _ [993, 196, 198, 185, 197, 205, 206, 207, 5, 208, 209, 210, 168, 169, 170, 211, 212, 213, 214, 215, 216, 628, 629, 630, 631, 576, 577, 578, 579, 1286, 1287, 1288, 1289, 1290, 1291, 1292, 1293, 1294, 1295, 1296, 1297, 1298, 1299, 1300, 1301, 1302, 1303, 1304, 1305, 1306, 1307, 1308, 1309, 1310, 1311, 1312, 1313, 1314, 1315, 1316, 1317, 1318, 1319, 1320, 1321, 1322, 1323, 1324, 1325, 1326, 1327, 1328, 1329, 1330, 1331, 1332, 1333, 1334, 1335, 1336, 1337, 1338, 1339] (by decide +kernel) (by decide +kernel)
set_option maxRecDepth 20000 in
theorem gL_law_X11_ofCut : GoodIn wsL_law (wsV RL 120 RX11 yX11_ofCut wsX11_ofCut) := goodIn_app (goodIn_of _ (by decide +kernel)) ggL_law_X11_ofCut
set_option maxRecDepth 20000 in
theorem ggL_law_X10_of : GoodIn wsL_law wsX10_of := goodIn_r _ [997, 39, 998, 999, 1000, 38, 1001, 87, 1002, 1003, 1004, 1005, 86, 1006, 1007, 1008, 1009, 1010, 1011, 1012, 1013, 1273, 1274, 1275, 1276, 1277, 1278, 1279, 1280, 1281, 1282, 1283, 1284, 1285, 1367, 1368] (by decide +kernel) (by decide +kernel)
set_option maxRecDepth 20000 in
theorem gL_law_X10_of : GoodIn wsL_law (wsV RL 121 RX10 yX10_of wsX10_of) := goodIn_app (goodIn_of _ (by decide +kernel)) ggL_law_X10_of
set_option maxRecDepth 20000 in
theorem ggL_law_X11_of : GoodIn wsL_law wsX11_of := goodIn_r _ [1017, 198, 185, 473, 474, 5, 475, 1286, 1287, 1288, 1289, 1290, 1291, 1292, 1293, 1294, 1295, 1296, 1297, 1298, 1299, 1300, 1301, 1302, 1303, 1304, 1305, 1306, 1307, 1308, 1309, 1310, 1311, 1312, 1313, 1314, 1315, 1316, 1317, 1318, 1319, 1320, 1321, 1322, 1323, 1324, 1325, 1326, 1327, 1328, 1329, 1330, 1331, 1332, 1333, 1334, 1335, 1336, 1337, 1338, 1339] (by decide +kernel) (by decide +kernel)
set_option maxRecDepth 20000 in
theorem gL_law_X11_of : GoodIn wsL_law (wsV RL 124 RX11 yX11_of wsX11_of) := goodIn_app (goodIn_of _ (by decide +kernel)) ggL_law_X11_of
set_option maxRecDepth 20000 in
theorem ggL_law_X10_along : GoodIn wsL_law wsX10_along := goodIn_r _ [1021, 39, 1022, 998, 999, 1000, 38, 1001, 87, 1023, 1024, 1025, 1026, 1027, 1003, 1004, 1005, 86, 1006, 1007, 1008, 1009, 1010, 1011, 1012, 1013, 1273, 1274, 1275, 1276, 1277, 1278, 1279, 1280, 1281, 1282, 1283, 1284, 1285, 1367, 1368] (by decide +kernel) (by decide +kernel)
set_option maxRecDepth 20000 in
theorem gL_law_X10_along : GoodIn wsL_law (wsV RL 125 RX10 yX10_along wsX10_along) := goodIn_app (goodIn_of _ (by decide +kernel)) ggL_law_X10_along
set_option maxRecDepth 20000 in
theorem ggL_law_X11_along : GoodIn wsL_law wsX11_along := goodIn_r _ [1031, 198, 1032, 473, 474, 5, 475, 1033, 1034, 1035, 1036, 185, 1286, 1287, 1288, 1289, 1290, 1291, 1292, 1293, 1294, 1295, 1296, 1297, 1298, 1299, 1300, 1301, 1302, 1303, 1304, 1305, 1306, 1307, 1308, 1309, 1310, 1311, 1312, 1313, 1314, 1315, 1316, 1317, 1318, 1319, 1320, 1321, 1322, 1323, 1324, 1325, 1326, 1327, 1328, 1329, 1330, 1331, 1332, 1333, 1334, 1335, 1336, 1337, 1338, 1339] (by decide +kernel) (by decide +kernel)
set_option maxRecDepth 20000 in
theorem gL_law_X11_along : GoodIn wsL_law (wsV RL 129 RX11 yX11_along wsX11_along) := goodIn_app (goodIn_of _ (by decide +kernel)) ggL_law_X11_along
set_option maxRecDepth 20000 in
theorem ggL_law_X10_breaks : GoodIn wsL_law wsX10_breaks := goodIn_r _ [1040, 39, 1041, 1042, 1043, 38, 1044, 1045, 1046, 1047, 1048, 87, 1049, 1024, 1025, 1026, 1027, 1003, 1004, 1005, 86, 1006, 1007, 1008, 1009, 1010, 1011, 1012, 1013, 1050, 1051, 1052, 1053, 1054, 1055, 1056, 1057, 1058, 1059, 1273, 1274, 1275, 1276, 1277, 1278, 1279, 1280, 1281, 1282, 1283, 1284, 1285, 1367, 1368] (by decide +kernel) (by decide +kernel)
set_option maxRecDepth 20000 in
theorem gL_law_X10_breaks : GoodIn wsL_law (wsV RL 130 RX10 yX10_breaks wsX10_breaks) := goodIn_app (goodIn_of _ (by decide +kernel)) ggL_law_X10_breaks
set_option maxRecDepth 20000 in
theorem ggL_law_X11_breaks : GoodIn wsL_law wsX11_breaks := goodIn_r _ [1063, 198, 695, 473, 474, 5, 475, 1033, 1034, 1035, 1036, 185, 1064, 1065, 1066, 1067, 1286, 1287, 1288, 1289, 1290, 1291, 1292, 1293, 1294, 1295, 1296, 1297, 1298, 1299, 1300, 1301, 1302, 1303, 1304, 1305, 1306, 1307, 1308, 1309, 1310, 1311, 1312, 1313, 1314, 1315, 1316, 1317, 1318, 1319, 1320, 1321, 1322, 1323, 1324, 1325, 1326, 1327, 1328, 1329, 1330, 1331, 1332, 1333, 1334, 1335, 1336, 1337, 1338, 1339] (by decide +kernel) (by decide +kernel)
set_option maxRecDepth 20000 in
theorem gL_law_X11_breaks : GoodIn wsL_law (wsV RL 133 RX11 yX11_breaks wsX11_breaks) := goodIn_app (goodIn_of _ (by decide +kernel)) ggL_law_X11_breaks
set_option maxRecDepth 20000 in
theorem ggL_law_X10_growth : GoodIn wsL_law wsX10_growth := goodIn_r _ [1071, 39, 1072, 1073, 1074, 38, 1075, 87, 1049, 1024, 1025, 1026, 1027, 1003, 1004, 1005, 86, 1006, 1007, 1008, 1009, 1010, 1011, 1012, 1013, 1273, 1274, 1275, 1276, 1277, 1278, 1279, 1280, 1281, 1282, 1283, 1284, 1285, 1367, 1368] (by decide +kernel) (by decide +kernel)
set_option maxRecDepth 20000 in
theorem gL_law_X10_growth : GoodIn wsL_law (wsV RL 134 RX10 yX10_growth wsX10_growth) := goodIn_app (goodIn_of _ (by decide +kernel)) ggL_law_X10_growth
set_option maxRecDepth 20000 in
theorem ggL_law_X11_growth : GoodIn wsL_law wsX11_growth := goodIn_r _ [1079, 198, 1033, 1034, 1035, 5, 1036, 185, 1286, 1287, 1288, 1289, 1290, 1291, 1292, 1293, 1294, 1295, 1296, 1297, 1298, 1299, 1300, 1301, 1302, 1303, 1304, 1305, 1306, 1307, 1308, 1309, 1310, 1311, 1312, 1313, 1314, 1315, 1316, 1317, 1318, 1319, 1320, 1321, 1322, 1323, 1324, 1325, 1326, 1327, 1328, 1329, 1330, 1331, 1332, 1333, 1334, 1335, 1336, 1337, 1338, 1339] (by decide +kernel) (by decide +kernel)
set_option maxRecDepth 20000 in
theorem gL_law_X11_growth : GoodIn wsL_law (wsV RL 138 RX11 yX11_growth wsX11_growth) := goodIn_app (goodIn_of _ (by decide +kernel)) ggL_law_X11_growth
