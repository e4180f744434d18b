set_option maxRecDepth 20000 in
theorem ggL_law_X10_setWinch : GoodIn wsL_law wsX10_setWinch := goodIn_r _ [1232, 148, 172, 173, 5, 174, 839, 840, 841, 842, 109, 685, 686, 687, 688, 330, 112, 115, 689, 690, 691, 692, 331, 332, 333, 150, 151, 152, 153, 1321, 1322, 1323, 1324, 1325, 1326, 1327, 1328, 1329, 1330, 1331, 1332, 1333, 1334, 1335, 1336, 1337, 1338, 1339, 1340, 1341, 1342, 1343] (by decide +kernel) (by decide +kernel)
set_option maxRecDepth 20000 in
theorem gL_law_X10_setWinch : GoodIn wsL_law (wsV RL 249 RX10 yX10_setWinch wsX10_setWinch) := goodIn_app (goodIn_of _ (by decide +kernel)) ggL_law_X10_setWinch
set_option maxRecDepth 20000 in
theorem ggL_law_L_setCross : GoodIn wsL_law wsL_setCross := goodIn_ca (goodIn_r _ [1235, 161, 1236, 1237, 1238, 2, 1239, 166, 167, 649, 650, 651, 652, 16, 648, 515, 516, 517, 518, 21, 30, 519, 520, 521, 20, 522, 55, 54, 56, 523, 314, 315, 15, 316, 36, 317, 318, 319, 320, 37, 38, 39, 40, 41, 42, 43, 44, 45, 46, 47, 48, 1312, 1313, 1314, 1315, 1316, 1317, 1318, 1319, 1320, 1344, 1345, 1346, 1347, 1348, 1349, 1350, 1351, 1352, 1353, 1354, 1355, 1356, 1357, 1358, 1359] (by decide +kernel) (by decide +kernel)) (goodIn_sub (fun _ h => List.mem_append_left _ (List.mem_append_right _ h)) (by decide +kernel))
set_option maxRecDepth 20000 in
theorem gL_law_L_setCross : GoodIn wsL_law (va_wsS RL 250 yL_setCross wsL_setCross) := goodIn_app (goodIn_of _ (by decide +kernel)) ggL_law_L_setCross
set_option maxRecDepth 20000 in
theorem ggL_law_X10_setCross : GoodIn wsL_law wsX10_setCross := goodIn_r _ [1243, 148, 172, 173, 5, 174, 843, 844, 845, 846, 109, 685, 686, 687, 688, 330, 112, 115, 689, 690, 691, 692, 331, 332, 333, 150, 151, 152, 153, 1321, 1322, 1323, 1324, 1325, 1326, 1327, 1328, 1329, 1330, 1331, 1332, 1333, 1334, 1335, 1336, 1337, 1338, 1339, 1340, 1341, 1342, 1343] (by decide +kernel) (by decide +kernel)
set_option maxRecDepth 20000 in
theorem gL_law_X10_setCross : GoodIn wsL_law (wsV RL 252 RX10 yX10_setCross wsX10_setCross) := goodIn_app (goodIn_of _ (by decide +kernel)) ggL_law_X10_setCross
set_option maxRecDepth 20000 in
theorem ggL_law_X9_writeLanes : GoodIn wsL_law wsX9_writeLanes := goodIn_r _ [1247, 32, 16, 1248, 648, 958, 1249, 1250, 1251, 2, 1252, 31, 943, 626, 627, 15, 628, 42, 41, 222, 223, 1253, 1254, 1255, 1256, 1312, 1313, 1314, 1315, 1316, 1317, 1318, 1319, 1320, 1344, 1345, 1346, 1347, 1348, 1349, 1350, 1351, 1352, 1353, 1354, 1355, 1356] (by decide +kernel) (by decide +kernel)
set_option maxRecDepth 20000 in
theorem gL_law_X9_writeLanes : GoodIn wsL_law (wsV RL 253 RX9 yX9_writeLanes wsX9_writeLanes) := goodIn_app (goodIn_of _ (by decide +kernel)) ggL_law_X9_writeLanes
set_option maxRecDepth 20000 in
theorem ggL_law_X10_writeLanes : GoodIn wsL_law wsX10_writeLanes := goodIn_r _ [1260, 148, 1261, 819, 820, 821, 5, 822, 109, 470, 471, 472, 473, 1262, 1263, 1264, 1265, 119, 823, 824, 825, 826, 827, 828, 829, 830, 1266, 1267, 1268, 1269, 747, 748, 749, 750, 751, 752, 753, 754, 727, 728, 729, 730, 731, 732, 733, 734, 1321, 1322, 1323, 1324, 1325, 1326, 1327, 1328, 1329, 1330, 1331, 1332, 1333, 1334, 1335, 1336, 1337, 1338, 1339, 1340, 1341, 1342, 1343] (by decide +kernel) (by decide +kernel)
set_option maxRecDepth 20000 in
theorem gL_law_X10_writeLanes : GoodIn wsL_law (wsV RL 256 RX10 yX10_writeLanes wsX10_writeLanes) := goodIn_app (goodIn_of _ (by decide +kernel)) ggL_law_X10_writeLanes
set_option maxRecDepth 20000 in
theorem ggL_law_X9_output : GoodIn wsL_law wsX9_output := goodIn_r _ [1273, 32, 31, 931, 222, 2, 223, 1312, 1313, 1314, 1315, 1316, 1317, 1318, 1319, 1320] (by decide +kernel) (by decide +kernel)
set_option maxRecDepth 20000 in
theorem gL_law_X9_output : GoodIn wsL_law (wsV RL 257 RX9 yX9_output wsX9_output) := goodIn_app (goodIn_of _ (by decide +kernel)) ggL_law_X9_output
set_option maxRecDepth 20000 in
theorem ggL_law_X10_output : GoodIn wsL_law wsX10_output := goodIn_r _ [1277, 148, 1261, 119, 172, 173, 5, 174, 1321, 1322, 1323, 1324, 1325, 1326, 1327, 1328, 1329, 1330, 1331, 1332, 1333, 1334, 1335, 1336, 1337, 1338, 1339, 1340, 1341, 1342, 1343] (by decide +kernel) (by decide +kernel)
set_option maxRecDepth 20000 in
theorem gL_law_X10_output : GoodIn wsL_law (wsV RL 260 RX10 yX10_output wsX10_output) := goodIn_app (goodIn_of _ (by decide +kernel)) ggL_law_X10_output
set_option maxRecDepth 20000 in
theorem ggL_law_X9_undo : GoodIn wsL_law wsX9_undo := goodIn_r _ [1281, 21, 16, 1282, 1283, 1284, 20, 1285, 56, 55, 54, 523, 314, 315, 15, 316, 36, 317, 318, 319, 320, 37, 38, 39, 40, 41, 42, 43, 44, 45, 46, 47, 48, 1312, 1313, 1314, 1315, 1316, 1317, 1318, 1319, 1320, 1357, 1358, 1359, 1344, 1345, 1346, 1347, 1348, 1349, 1350, 1351, 1352, 1353, 1354, 1355, 1356] (by decide +kernel) (by decide +kernel)
set_option maxRecDepth 20000 in
theorem gL_law_X9_undo : GoodIn wsL_law (wsV RL 261 RX9 yX9_undo wsX9_undo) := goodIn_app (goodIn_of _ (by decide +kernel)) ggL_law_X9_undo
set_option maxRecDepth 20000 in
theorem ggL_law_X10_undo : GoodIn wsL_law wsX10_undo := goodIn_r _ [1289, 148, 330, 112, 109, 331, 332, 5, 333, 1321, 1322, 1323, 1324, 1325, 1326, 1327, 1328, 1329, 1330, 1331, 1332, 1333, 1334, 1335, 1336, 1337, 1338, 1339, 1340, 1341, 1342, 1343] (by decide +kernel) (by decide +kernel)
set_option maxRecDepth 20000 in
theorem gL_law_X10_undo : GoodIn wsL_law (wsV RL 264 RX10 yX10_undo wsX10_undo) := goodIn_app (goodIn_of _ (by decide +kernel)) ggL_law_X10_undo
set_option maxRecDepth 20000 in
theorem ggL_law_L_save : GoodIn wsL_law wsL_save := goodIn_ca (goodIn_r _ [1292, 161, 1293, 1294, 1295, 2, 1296, 166, 167, 22, 16, 24, 313, 314, 315, 15, 316, 36, 317, 318, 319, 320, 37, 38, 39, 40, 41, 42, 43, 44, 45, 46, 47, 48, 1312, 1313, 1314, 1315, 1316, 1317, 1318, 1319, 1320, 1344, 1345, 1346, 1347, 1348, 1349, 1350, 1351, 1352, 1353, 1354, 1355, 1356] (by decide +kernel) (by decide +kernel)) (goodIn_sub (fun _ h => List.mem_append_left _ (List.mem_append_right _ h)) (by decide +kernel))
set_option maxRecDepth 20000 in
theorem gL_law_L_save : GoodIn wsL_law (va_wsS RL 265 yL_save wsL_save) := goodIn_app (goodIn_of _ (by decide +kernel)) ggL_law_L_save
