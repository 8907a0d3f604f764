set_option maxRecDepth 20000 in
theorem ggL_law_X11_fewest : GoodIn wsL_law wsX11_fewest := goodIn_r _ [736, 196, 204, 197, 178, 737, 180, 172, 210, 169, 170, 199, 200, 201, 5, 202, 203, 205, 206, 207, 208, 209, 168, 211, 212, 213, 214, 215, 216, 217, 218, 219, 220, 221, 222, 223, 224, 225, 226, 473, 474, 475, 738, 739, 740, 741, 179, 691, 692, 693, 694, 689, 690, 695, 576, 577, 578, 579, 491, 492, 493, 494, 1286, 1287, 1288, 1289, 1290, 1291, 1292, 1293, 1294, 1295, 1296, 1297, 1298, 1299, 1300, 1301, 1302, 1303, 1304, 1305, 1306, 1307, 1308, 1309, 1310, 1311, 1312, 1313, 1314, 1315, 1316, 1317, 1318, 1319, 1320, 1321, 1322, 1323, 1324, 1325, 1326, 1327, 1328, 1329, 1330, 1331, 1332, 1333, 1334, 1335, 1336, 1337, 1338, 1339] (by decide +kernel) (by decide +kernel)
set_option maxRecDepth 20000 in
theorem gL_law_X11_fewest : GoodIn wsL_law (wsV RL 65 RX11 yX11_fewest wsX11_fewest) := goodIn_app (goodIn_of _ (by decide +kernel)) ggL_law_X11_fewest
set_option maxRecDepth 20000 in
theorem ggL_law_X10_passed : GoodIn wsL_law wsX10_passed := goodIn_r _ [745, 35, 746, 747, 748, 34, 749, 704, 81, 1273, 1274, 1275, 1276, 1277, 1278, 1279, 1280, 1281, 1282, 1283, 1284, 1285, 1362, 1363, 1364, 1365, 1366] (by decide +kernel) (by decide +kernel)
set_option maxRecDepth 20000 in
theorem gL_law_X10_passed : GoodIn wsL_law (wsV RL 66 RX10 yX10_passed wsX10_passed) := goodIn_app (goodIn_of _ (by decide +kernel)) ggL_law_X10_passed
set_option maxRecDepth 20000 in
theorem ggL_law_X11_passed : GoodIn wsL_law wsX11_passed := goodIn_r _ [753, 737, 180, 473, 474, 5, 475, 1286, 1287, 1288, 1289, 1290, 1291, 1292, 1293, 1294, 1295, 1296, 1297, 1298, 1299, 1300, 1301, 1302, 1303, 1304, 1305, 1306, 1307, 1308, 1309, 1310, 1311, 1312, 1313, 1314, 1315, 1316, 1317, 1318, 1319, 1320, 1321, 1322, 1323, 1324, 1325, 1326, 1327, 1328, 1329, 1330, 1331, 1332, 1333, 1334, 1335, 1336, 1337, 1338, 1339] (by decide +kernel) (by decide +kernel)
set_option maxRecDepth 20000 in
theorem gL_law_X11_passed : GoodIn wsL_law (wsV RL 69 RX11 yX11_passed wsX11_passed) := goodIn_app (goodIn_of _ (by decide +kernel)) ggL_law_X11_passed
set_option maxRecDepth 20000 in
theorem ggL_law_X10_farthest : GoodIn wsL_law wsX10_farthest := goodIn_r _ [757, 35, 51, 52, 427, 428, 429, 110, 430, 146, 120, 758, 706, 707, 34, 708, 79, 709, 80, 710, 711, 712, 713, 714, 155, 156, 157, 158, 159, 160, 161, 715, 716, 717, 718, 122, 719, 720, 721, 722, 723, 400, 401, 402, 118, 395, 396, 397, 398, 147, 148, 149, 150, 151, 152, 153, 724, 725, 726, 727, 728, 759, 760, 761, 762, 763, 597, 556, 598, 764, 525, 526, 527, 765, 766, 767, 768, 1273, 1274, 1275, 1276, 1277, 1278, 1279, 1280, 1281, 1282, 1283, 1284, 1285, 1384, 1385, 1386, 1387, 1388, 1389, 1390, 1391, 1392, 1362, 1363, 1364, 1365, 1366] (by decide +kernel) (by decide +kernel)
set_option maxRecDepth 20000 in
theorem gL_law_X10_farthest : GoodIn wsL_law (wsV RL 70 RX10 yX10_farthest wsX10_farthest) := goodIn_app (goodIn_of _ (by decide +kernel)) ggL_law_X10_farthest
set_option maxRecDepth 20000 in
theorem ggL_law_X11_farthest : GoodIn wsL_law wsX11_farthest := goodIn_r _ [772, 204, 178, 473, 474, 5, 475, 487, 488, 489, 490, 196, 197, 199, 200, 201, 202, 203, 172, 205, 206, 207, 208, 209, 210, 168, 169, 170, 211, 212, 213, 214, 215, 216, 217, 218, 219, 220, 221, 222, 223, 224, 225, 226, 491, 492, 493, 494, 738, 739, 740, 741, 179, 691, 692, 693, 694, 689, 690, 695, 576, 577, 578, 579, 1286, 1287, 1288, 1289, 1290, 1291, 1292, 1293, 1294, 1295, 1296, 1297, 1298, 1299, 1300, 1301, 1302, 1303, 1304, 1305, 1306, 1307, 1308, 1309, 1310, 1311, 1312, 1313, 1314, 1315, 1316, 1317, 1318, 1319, 1320, 1321, 1322, 1323, 1324, 1325, 1326, 1327, 1328, 1329, 1330, 1331, 1332, 1333, 1334, 1335, 1336, 1337, 1338, 1339] (by decide +kernel) (by decide +kernel)
set_option maxRecDepth 20000 in
theorem gL_law_X11_farthest : GoodIn wsL_law (wsV RL 73 RX11 yX11_farthest wsX11_farthest) := goodIn_app (goodIn_of _ (by decide +kernel)) ggL_law_X11_farthest
