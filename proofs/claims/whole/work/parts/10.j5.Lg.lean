set_option maxRecDepth 20000 in
theorem ggL_law_X10_slope : GoodIn wsL_law wsX10_slope := goodIn_r _ [1018, 148, 723, 724, 725, 5, 726, 109, 709, 710, 352, 711, 1321, 1322, 1323, 1324, 1325, 1326, 1327, 1328, 1329, 1330, 1331, 1332, 1333, 1334, 1335, 1336, 1337, 1338, 1339, 1340, 1341, 1342, 1343] (by decide +kernel) (by decide +kernel)
set_option maxRecDepth 20000 in
theorem gL_law_X10_slope : GoodIn wsL_law (wsV RL 173 RX10 yX10_slope wsX10_slope) := goodIn_app (goodIn_of _ (by decide +kernel)) ggL_law_X10_slope
set_option maxRecDepth 20000 in
theorem ggL_law_X9_lip : GoodIn wsL_law wsX9_lip := goodIn_r _ [1022, 16, 620, 1312, 1313, 1314, 1315, 1316, 1317, 1318, 1319, 1320, 1344, 1345, 1346, 1347, 1348, 1349, 1350, 1351, 1352, 1353, 1354, 1355, 1356] (by decide +kernel) (by decide +kernel)
set_option maxRecDepth 20000 in
theorem gL_law_X9_lip : GoodIn wsL_law (wsV RL 174 RX9 yX9_lip wsX9_lip) := goodIn_app (goodIn_of _ (by decide +kernel)) ggL_law_X9_lip
set_option maxRecDepth 20000 in
theorem ggL_law_X10_lip : GoodIn wsL_law wsX10_lip := goodIn_r _ [1026, 148, 705, 706, 707, 5, 708, 109, 709, 710, 352, 711, 458, 459, 460, 461, 462, 463, 464, 465, 466, 467, 468, 469, 470, 471, 472, 473, 1321, 1322, 1323, 1324, 1325, 1326, 1327, 1328, 1329, 1330, 1331, 1332, 1333, 1334, 1335, 1336, 1337, 1338, 1339, 1340, 1341, 1342, 1343] (by decide +kernel) (by decide +kernel)
set_option maxRecDepth 20000 in
theorem gL_law_X10_lip : GoodIn wsL_law (wsV RL 177 RX10 yX10_lip wsX10_lip) := goodIn_app (goodIn_of _ (by decide +kernel)) ggL_law_X10_lip
set_option maxRecDepth 20000 in
theorem ggL_law_X9_waterIn : GoodIn wsL_law wsX9_waterIn := goodIn_r _ [1030, 16, 648, 179, 1312, 1313, 1314, 1315, 1316, 1317, 1318, 1319, 1320, 1344, 1345, 1346, 1347, 1348, 1349, 1350, 1351, 1352, 1353, 1354, 1355, 1356] (by decide +kernel) (by decide +kernel)
set_option maxRecDepth 20000 in
theorem gL_law_X9_waterIn : GoodIn wsL_law (wsV RL 178 RX9 yX9_waterIn wsX9_waterIn) := goodIn_app (goodIn_of _ (by decide +kernel)) ggL_law_X9_waterIn
set_option maxRecDepth 20000 in
theorem ggL_law_X10_waterIn : GoodIn wsL_law wsX10_waterIn := goodIn_r _ [1034, 148, 109, 1321, 1322, 1323, 1324, 1325, 1326, 1327, 1328, 1329, 1330, 1331, 1332, 1333, 1334, 1335, 1336, 1337, 1338, 1339, 1340, 1341, 1342, 1343] (by decide +kernel) (by decide +kernel)
set_option maxRecDepth 20000 in
theorem gL_law_X10_waterIn : GoodIn wsL_law (wsV RL 182 RX10 yX10_waterIn wsX10_waterIn) := goodIn_app (goodIn_of _ (by decide +kernel)) ggL_law_X10_waterIn
set_option maxRecDepth 20000 in
theorem ggL_law_X9_list : GoodIn wsL_law wsX9_list := goodIn_r _ [1038, 16, 959, 1312, 1313, 1314, 1315, 1316, 1317, 1318, 1319, 1320, 1344, 1345, 1346, 1347, 1348, 1349, 1350, 1351, 1352, 1353, 1354, 1355, 1356] (by decide +kernel) (by decide +kernel)
set_option maxRecDepth 20000 in
theorem gL_law_X9_list : GoodIn wsL_law (wsV RL 183 RX9 yX9_list wsX9_list) := goodIn_app (goodIn_of _ (by decide +kernel)) ggL_law_X9_list
set_option maxRecDepth 20000 in
theorem ggL_law_X10_list : GoodIn wsL_law wsX10_list := goodIn_r _ [1042, 148, 763, 764, 765, 5, 766, 767, 768, 769, 770, 109, 751, 752, 753, 754, 470, 471, 472, 473, 1321, 1322, 1323, 1324, 1325, 1326, 1327, 1328, 1329, 1330, 1331, 1332, 1333, 1334, 1335, 1336, 1337, 1338, 1339, 1340, 1341, 1342, 1343] (by decide +kernel) (by decide +kernel)
set_option maxRecDepth 20000 in
theorem gL_law_X10_list : GoodIn wsL_law (wsV RL 186 RX10 yX10_list wsX10_list) := goodIn_app (goodIn_of _ (by decide +kernel)) ggL_law_X10_list
set_option maxRecDepth 20000 in
theorem ggL_law_X9_heaviest : GoodIn wsL_law wsX9_heaviest := goodIn_r _ [1046, 16, 179, 921, 545, 546, 15, 547, 39, 1312, 1313, 1314, 1315, 1316, 1317, 1318, 1319, 1320, 1344, 1345, 1346, 1347, 1348, 1349, 1350, 1351, 1352, 1353, 1354, 1355, 1356] (by decide +kernel) (by decide +kernel)
set_option maxRecDepth 20000 in
theorem gL_law_X9_heaviest : GoodIn wsL_law (wsV RL 187 RX9 yX9_heaviest wsX9_heaviest) := goodIn_app (goodIn_of _ (by decide +kernel)) ggL_law_X9_heaviest
set_option maxRecDepth 20000 in
theorem ggL_law_X10_heaviest : GoodIn wsL_law wsX10_heaviest := goodIn_r _ [1050, 148, 109, 470, 471, 472, 5, 473, 1321, 1322, 1323, 1324, 1325, 1326, 1327, 1328, 1329, 1330, 1331, 1332, 1333, 1334, 1335, 1336, 1337, 1338, 1339, 1340, 1341, 1342, 1343] (by decide +kernel) (by decide +kernel)
set_option maxRecDepth 20000 in
theorem gL_law_X10_heaviest : GoodIn wsL_law (wsV RL 190 RX10 yX10_heaviest wsX10_heaviest) := goodIn_app (goodIn_of _ (by decide +kernel)) ggL_law_X10_heaviest
set_option maxRecDepth 20000 in
theorem ggL_law_L_whyNot : GoodIn wsL_law wsL_whyNot := goodIn_ca (goodIn_r _ [1053, 899, 1054, 1055, 1056, 2, 1057, 904, 905, 16, 601, 602, 603, 15, 604, 36, 40, 1058, 561, 562, 563, 37, 47, 48, 544, 545, 546, 547, 39, 548, 549, 550, 551, 38, 564, 565, 566, 567, 44, 568, 569, 570, 571, 43, 1312, 1313, 1314, 1315, 1316, 1317, 1318, 1319, 1320, 1344, 1345, 1346, 1347, 1348, 1349, 1350, 1351, 1352, 1353, 1354, 1355, 1356] (by decide +kernel) (by decide +kernel)) (goodIn_sub (fun _ h => List.mem_append_right _ h) (by decide +kernel))
set_option maxRecDepth 20000 in
theorem gL_law_L_whyNot : GoodIn wsL_law (va_wsS RL 191 yL_whyNot wsL_whyNot) := goodIn_app (goodIn_of _ (by decide +kernel)) ggL_law_L_whyNot
set_option maxRecDepth 20000 in
theorem ggL_law_X10_whyNot : GoodIn wsL_law wsX10_whyNot := goodIn_r _ [1062, 148, 799, 800, 801, 5, 802, 803, 804, 805, 806, 109, 172, 173, 174, 470, 471, 472, 473, 739, 740, 741, 742, 743, 744, 745, 746, 747, 748, 749, 750, 751, 752, 753, 754, 727, 728, 729, 730, 731, 732, 733, 734, 466, 467, 468, 469, 755, 756, 757, 758, 759, 760, 761, 762, 709, 710, 352, 711, 763, 764, 765, 766, 767, 768, 769, 770, 723, 724, 725, 726, 705, 706, 707, 708, 458, 459, 460, 461, 462, 463, 464, 465, 150, 151, 152, 153, 1321, 1322, 1323, 1324, 1325, 1326, 1327, 1328, 1329, 1330, 1331, 1332, 1333, 1334, 1335, 1336, 1337, 1338, 1339, 1340, 1341, 1342, 1343] (by decide +kernel) (by decide +kernel)
set_option maxRecDepth 20000 in
theorem gL_law_X10_whyNot : GoodIn wsL_law (wsV RL 193 RX10 yX10_whyNot wsX10_whyNot) := goodIn_app (goodIn_of _ (by decide +kernel)) ggL_law_X10_whyNot
