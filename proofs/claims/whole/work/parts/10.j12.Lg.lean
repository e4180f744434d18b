set_option maxRecDepth 20000 in
theorem ggL_law_X10_unload : GoodIn wsL_law wsX10_unload := goodIn_r _ [1202, 148, 948, 949, 5, 950, 172, 173, 174, 815, 816, 817, 818, 109, 819, 820, 821, 822, 470, 471, 472, 473, 823, 824, 825, 826, 827, 828, 829, 830, 791, 792, 793, 794, 115, 723, 724, 725, 726, 709, 710, 352, 711, 727, 728, 729, 730, 731, 732, 733, 734, 705, 706, 707, 708, 458, 459, 460, 461, 462, 463, 464, 465, 466, 467, 468, 469, 685, 686, 687, 688, 330, 112, 689, 690, 691, 692, 331, 332, 333, 450, 451, 452, 453, 150, 151, 152, 153, 1321, 1322, 1323, 1324, 1325, 1326, 1327, 1328, 1329, 1330, 1331, 1332, 1333, 1334, 1335, 1336, 1337, 1338, 1339, 1340, 1341, 1342, 1343] (by decide +kernel) (by decide +kernel)
set_option maxRecDepth 20000 in
theorem gL_law_X10_unload : GoodIn wsL_law (wsV RL 238 RX10 yX10_unload wsX10_unload) := goodIn_app (goodIn_of _ (by decide +kernel)) ggL_law_X10_unload
set_option maxRecDepth 20000 in
theorem ggL_law_X9_setGate : GoodIn wsL_law wsX9_setGate := goodIn_r _ [1206, 635, 636, 637, 2, 638, 16, 179, 592, 593, 594, 595, 30, 515, 516, 517, 518, 21, 519, 520, 521, 20, 522, 55, 54, 56, 523, 314, 315, 15, 316, 36, 317, 318, 319, 320, 37, 38, 39, 40, 41, 42, 43, 44, 45, 46, 47, 48, 1312, 1313, 1314, 1315, 1316, 1317, 1318, 1319, 1320, 1344, 1345, 1346, 1347, 1348, 1349, 1350, 1351, 1352, 1353, 1354, 1355, 1356, 1357, 1358, 1359] (by decide +kernel) (by decide +kernel)
set_option maxRecDepth 20000 in
theorem gL_law_X9_setGate : GoodIn wsL_law (wsV RL 239 RX9 yX9_setGate wsX9_setGate) := goodIn_app (goodIn_of _ (by decide +kernel)) ggL_law_X9_setGate
set_option maxRecDepth 20000 in
theorem ggL_law_X10_setGate : GoodIn wsL_law wsX10_setGate := goodIn_r _ [1210, 148, 831, 832, 833, 5, 834, 109, 791, 792, 793, 794, 115, 685, 686, 687, 688, 330, 112, 689, 690, 691, 692, 331, 332, 333, 1321, 1322, 1323, 1324, 1325, 1326, 1327, 1328, 1329, 1330, 1331, 1332, 1333, 1334, 1335, 1336, 1337, 1338, 1339, 1340, 1341, 1342, 1343] (by decide +kernel) (by decide +kernel)
set_option maxRecDepth 20000 in
theorem gL_law_X10_setGate : GoodIn wsL_law (wsV RL 242 RX10 yX10_setGate wsX10_setGate) := goodIn_app (goodIn_of _ (by decide +kernel)) ggL_law_X10_setGate
set_option maxRecDepth 20000 in
theorem ggL_law_L_crank : GoodIn wsL_law wsL_crank := goodIn_ca (goodIn_r _ [1213, 161, 1214, 1215, 1216, 2, 1217, 166, 167, 639, 640, 641, 642, 16, 179, 620, 592, 593, 594, 595, 30, 515, 516, 517, 518, 21, 519, 520, 521, 20, 522, 55, 54, 56, 523, 314, 315, 15, 316, 36, 317, 318, 319, 320, 37, 38, 39, 40, 41, 42, 43, 44, 45, 46, 47, 48, 643, 100, 101, 102, 103, 104, 1312, 1313, 1314, 1315, 1316, 1317, 1318, 1319, 1320, 1344, 1345, 1346, 1347, 1348, 1349, 1350, 1351, 1352, 1353, 1354, 1355, 1356, 1357, 1358, 1359] (by decide +kernel) (by decide +kernel)) (goodIn_sub (fun _ h => List.mem_append_left _ (List.mem_append_right _ h)) (by decide +kernel))
set_option maxRecDepth 20000 in
theorem gL_law_L_crank : GoodIn wsL_law (va_wsS RL 243 yL_crank wsL_crank) := goodIn_app (goodIn_of _ (by decide +kernel)) ggL_law_L_crank
set_option maxRecDepth 20000 in
theorem ggL_law_X10_crank : GoodIn wsL_law wsX10_crank := goodIn_r _ [1221, 148, 172, 173, 5, 174, 835, 836, 837, 838, 109, 791, 792, 793, 794, 115, 685, 686, 687, 688, 330, 112, 689, 690, 691, 692, 331, 332, 333, 705, 706, 707, 708, 709, 710, 352, 711, 458, 459, 460, 461, 462, 463, 464, 465, 466, 467, 468, 469, 470, 471, 472, 473, 150, 151, 152, 153, 1321, 1322, 1323, 1324, 1325, 1326, 1327, 1328, 1329, 1330, 1331, 1332, 1333, 1334, 1335, 1336, 1337, 1338, 1339, 1340, 1341, 1342, 1343] (by decide +kernel) (by decide +kernel)
set_option maxRecDepth 20000 in
theorem gL_law_X10_crank : GoodIn wsL_law (wsV RL 245 RX10 yX10_crank wsX10_crank) := goodIn_app (goodIn_of _ (by decide +kernel)) ggL_law_X10_crank
set_option maxRecDepth 20000 in
theorem ggL_law_L_setWinch : GoodIn wsL_law wsL_setWinch := goodIn_ca (goodIn_r _ [1224, 161, 1225, 1226, 1227, 2, 1228, 166, 167, 644, 645, 646, 647, 16, 648, 515, 516, 517, 518, 21, 30, 519, 520, 521, 20, 522, 55, 54, 56, 523, 314, 315, 15, 316, 36, 317, 318, 319, 320, 37, 38, 39, 40, 41, 42, 43, 44, 45, 46, 47, 48, 1312, 1313, 1314, 1315, 1316, 1317, 1318, 1319, 1320, 1344, 1345, 1346, 1347, 1348, 1349, 1350, 1351, 1352, 1353, 1354, 1355, 1356, 1357, 1358, 1359] (by decide +kernel) (by decide +kernel)) (goodIn_sub (fun _ h => List.mem_append_left _ (List.mem_append_right _ h)) (by decide +kernel))
set_option maxRecDepth 20000 in
theorem gL_law_L_setWinch : GoodIn wsL_law (va_wsS RL 246 yL_setWinch wsL_setWinch) := goodIn_app (goodIn_of _ (by decide +kernel)) ggL_law_L_setWinch
