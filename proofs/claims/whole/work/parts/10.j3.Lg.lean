set_option maxRecDepth 20000 in
theorem qg_X10_play_15 : GoodIn wsL_law wsX10_play_r15 := goodIn_r _ [833, 834, 835, 836, 837, 838, 839, 840, 841, 842, 843, 844, 845, 846] (by decide +kernel) (by decide +kernel)
set_option maxRecDepth 20000 in
theorem qg_X10_play_wsX100 : GoodIn wsL_law wsX100 := goodIn_r _ [1321, 1322, 1323, 1324, 1325, 1326, 1327, 1328, 1329, 1330, 1331, 1332, 1333, 1334, 1335, 1336, 1337, 1338, 1339, 1340, 1341, 1342, 1343] (by decide +kernel) (by decide +kernel)
theorem ggL_law_X10_play : GoodIn wsL_law wsX10_play := goodIn_cn qg_X10_play_c (goodIn_app (goodIn_app qg_X10_play_1 (goodIn_app qg_X10_play_2 (goodIn_app qg_X10_play_3 (goodIn_app qg_X10_play_4 (goodIn_app qg_X10_play_5 (goodIn_app qg_X10_play_6 (goodIn_app qg_X10_play_7 (goodIn_app qg_X10_play_8 (goodIn_app qg_X10_play_9 (goodIn_app qg_X10_play_10 (goodIn_app qg_X10_play_11 (goodIn_app qg_X10_play_12 (goodIn_app qg_X10_play_13 (goodIn_app qg_X10_play_14 (qg_X10_play_15))))))))))))))) qg_X10_play_wsX100)
set_option maxRecDepth 20000 in
theorem gL_law_X10_play : GoodIn wsL_law (wsV RL 125 RX10 yX10_play wsX10_play) := goodIn_app (goodIn_of _ (by decide +kernel)) ggL_law_X10_play
set_option maxRecDepth 20000 in
theorem ggL_law_X9_errorCode : GoodIn wsL_law wsX9_errorCode := goodIn_r _ [850, 28, 851, 1312, 1313, 1314, 1315, 1316, 1317, 1318, 1319, 1320, 1360, 1361, 1362, 1363, 1364, 1365, 1366, 1367, 1368, 1369, 1370] (by decide +kernel) (by decide +kernel)
set_option maxRecDepth 20000 in
theorem gL_law_X9_errorCode : GoodIn wsL_law (wsV RL 126 RX9 yX9_errorCode wsX9_errorCode) := goodIn_app (goodIn_of _ (by decide +kernel)) ggL_law_X9_errorCode
set_option maxRecDepth 20000 in
theorem ggL_law_X10_errorCode : GoodIn wsL_law wsX10_errorCode := goodIn_r _ [855, 148, 338, 1321, 1322, 1323, 1324, 1325, 1326, 1327, 1328, 1329, 1330, 1331, 1332, 1333, 1334, 1335, 1336, 1337, 1338, 1339, 1340, 1341, 1342, 1343] (by decide +kernel) (by decide +kernel)
set_option maxRecDepth 20000 in
theorem gL_law_X10_errorCode : GoodIn wsL_law (wsV RL 129 RX10 yX10_errorCode wsX10_errorCode) := goodIn_app (goodIn_of _ (by decide +kernel)) ggL_law_X10_errorCode
set_option maxRecDepth 20000 in
theorem ggL_law_X9_errorPosition : GoodIn wsL_law wsX9_errorPosition := goodIn_r _ [859, 28, 860, 1312, 1313, 1314, 1315, 1316, 1317, 1318, 1319, 1320, 1360, 1361, 1362, 1363, 1364, 1365, 1366, 1367, 1368, 1369, 1370] (by decide +kernel) (by decide +kernel)
set_option maxRecDepth 20000 in
theorem gL_law_X9_errorPosition : GoodIn wsL_law (wsV RL 130 RX9 yX9_errorPosition wsX9_errorPosition) := goodIn_app (goodIn_of _ (by decide +kernel)) ggL_law_X9_errorPosition
set_option maxRecDepth 20000 in
theorem ggL_law_X10_errorPosition : GoodIn wsL_law wsX10_errorPosition := goodIn_r _ [864, 148, 118, 1321, 1322, 1323, 1324, 1325, 1326, 1327, 1328, 1329, 1330, 1331, 1332, 1333, 1334, 1335, 1336, 1337, 1338, 1339, 1340, 1341, 1342, 1343] (by decide +kernel) (by decide +kernel)
set_option maxRecDepth 20000 in
theorem gL_law_X10_errorPosition : GoodIn wsL_law (wsV RL 133 RX10 yX10_errorPosition wsX10_errorPosition) := goodIn_app (goodIn_of _ (by decide +kernel)) ggL_law_X10_errorPosition
set_option maxRecDepth 20000 in
theorem ggL_law_L_count : GoodIn wsL_law wsL_count := goodIn_ca (goodIn_r _ [867, 161, 868, 869, 870, 2, 871, 166, 167, 21, 872, 16, 179, 1312, 1313, 1314, 1315, 1316, 1317, 1318, 1319, 1320, 1357, 1358, 1359, 1344, 1345, 1346, 1347, 1348, 1349, 1350, 1351, 1352, 1353, 1354, 1355, 1356] (by decide +kernel) (by decide +kernel)) (goodIn_sub (fun _ h => List.mem_append_left _ (List.mem_append_right _ h)) (by decide +kernel))
set_option maxRecDepth 20000 in
theorem gL_law_L_count : GoodIn wsL_law (va_wsS RL 134 yL_count wsL_count) := goodIn_app (goodIn_of _ (by decide +kernel)) ggL_law_L_count
set_option maxRecDepth 20000 in
theorem ggL_law_X10_count : GoodIn wsL_law wsX10_count := goodIn_r _ [876, 148, 109, 330, 877, 878, 879, 5, 880, 470, 471, 472, 473, 466, 467, 468, 469, 881, 882, 883, 884, 150, 151, 152, 153, 1321, 1322, 1323, 1324, 1325, 1326, 1327, 1328, 1329, 1330, 1331, 1332, 1333, 1334, 1335, 1336, 1337, 1338, 1339, 1340, 1341, 1342, 1343] (by decide +kernel) (by decide +kernel)
set_option maxRecDepth 20000 in
theorem gL_law_X10_count : GoodIn wsL_law (wsV RL 136 RX10 yX10_count wsX10_count) := goodIn_app (goodIn_of _ (by decide +kernel)) ggL_law_X10_count
set_option maxRecDepth 20000 in
theorem ggL_law_L_setting : GoodIn wsL_law wsL_setting := goodIn_ca (goodIn_r _ [887, 161, 888, 889, 890, 2, 891, 166, 167, 16, 648, 1312, 1313, 1314, 1315, 1316, 1317, 1318, 1319, 1320, 1344, 1345, 1346, 1347, 1348, 1349, 1350, 1351, 1352, 1353, 1354, 1355, 1356] (by decide +kernel) (by decide +kernel)) (goodIn_sub (fun _ h => List.mem_append_left _ (List.mem_append_right _ h)) (by decide +kernel))
set_option maxRecDepth 20000 in
theorem gL_law_L_setting : GoodIn wsL_law (va_wsS RL 137 yL_setting wsL_setting) := goodIn_app (goodIn_of _ (by decide +kernel)) ggL_law_L_setting
set_option maxRecDepth 20000 in
theorem ggL_law_X10_setting : GoodIn wsL_law wsX10_setting := goodIn_r _ [895, 148, 109, 172, 173, 5, 174, 150, 151, 152, 153, 1321, 1322, 1323, 1324, 1325, 1326, 1327, 1328, 1329, 1330, 1331, 1332, 1333, 1334, 1335, 1336, 1337, 1338, 1339, 1340, 1341, 1342, 1343] (by decide +kernel) (by decide +kernel)
set_option maxRecDepth 20000 in
theorem gL_law_X10_setting : GoodIn wsL_law (wsV RL 139 RX10 yX10_setting wsX10_setting) := goodIn_app (goodIn_of _ (by decide +kernel)) ggL_law_X10_setting
set_option maxRecDepth 20000 in
theorem ggL_law_L_kind : GoodIn wsL_law wsL_kind := goodIn_ca (goodIn_ca (goodIn_r _ [898, 899, 161, 900, 901, 902, 2, 903, 904, 905, 166, 167, 16, 906, 549, 550, 15, 551, 38, 1312, 1313, 1314, 1315, 1316, 1317, 1318, 1319, 1320, 1344, 1345, 1346, 1347, 1348, 1349, 1350, 1351, 1352, 1353, 1354, 1355, 1356] (by decide +kernel) (by decide +kernel)) (goodIn_sub (fun _ h => List.mem_append_right _ h) (by decide +kernel))) (goodIn_sub (fun _ h => List.mem_append_left _ (List.mem_append_right _ h)) (by decide +kernel))
set_option maxRecDepth 20000 in
theorem gL_law_L_kind : GoodIn wsL_law (va_wsS RL 140 yL_kind wsL_kind) := goodIn_app (goodIn_of _ (by decide +kernel)) ggL_law_L_kind
set_option maxRecDepth 20000 in
theorem ggL_law_X10_kind : GoodIn wsL_law wsX10_kind := goodIn_r _ [910, 148, 911, 912, 5, 913, 172, 173, 174, 150, 151, 152, 153, 731, 732, 733, 734, 109, 1321, 1322, 1323, 1324, 1325, 1326, 1327, 1328, 1329, 1330, 1331, 1332, 1333, 1334, 1335, 1336, 1337, 1338, 1339, 1340, 1341, 1342, 1343] (by decide +kernel) (by decide +kernel)
set_option maxRecDepth 20000 in
theorem gL_law_X10_kind : GoodIn wsL_law (wsV RL 143 RX10 yX10_kind wsX10_kind) := goodIn_app (goodIn_of _ (by decide +kernel)) ggL_law_X10_kind
set_option maxRecDepth 20000 in
theorem ggL_law_L_car : GoodIn wsL_law wsL_car := goodIn_ca (goodIn_ca (goodIn_r _ [916, 899, 161, 917, 918, 919, 2, 920, 904, 905, 166, 167, 16, 179, 921, 545, 546, 15, 547, 39, 1312, 1313, 1314, 1315, 1316, 1317, 1318, 1319, 1320, 1344, 1345, 1346, 1347, 1348, 1349, 1350, 1351, 1352, 1353, 1354, 1355, 1356] (by decide +kernel) (by decide +kernel)) (goodIn_sub (fun _ h => List.mem_append_right _ h) (by decide +kernel))) (goodIn_sub (fun _ h => List.mem_append_left _ (List.mem_append_right _ h)) (by decide +kernel))
set_option maxRecDepth 20000 in
theorem gL_law_L_car : GoodIn wsL_law (va_wsS RL 144 yL_car wsL_car) := goodIn_app (goodIn_of _ (by decide +kernel)) ggL_law_L_car
set_option maxRecDepth 20000 in
theorem ggL_law_X10_car : GoodIn wsL_law wsX10_car := goodIn_r _ [925, 148, 803, 804, 805, 5, 806, 109, 172, 173, 174, 150, 151, 152, 153, 470, 471, 472, 473, 1321, 1322, 1323, 1324, 1325, 1326, 1327, 1328, 1329, 1330, 1331, 1332, 1333, 1334, 1335, 1336, 1337, 1338, 1339, 1340, 1341, 1342, 1343] (by decide +kernel) (by decide +kernel)
set_option maxRecDepth 20000 in
theorem gL_law_X10_car : GoodIn wsL_law (wsV RL 146 RX10 yX10_car wsX10_car) := goodIn_app (goodIn_of _ (by decide +kernel)) ggL_law_X10_car
set_option maxRecDepth 20000 in
theorem ggL_law_X9_queued : GoodIn wsL_law wsX9_queued := goodIn_r _ [929, 16, 179, 930, 931, 222, 2, 223, 1312, 1313, 1314, 1315, 1316, 1317, 1318, 1319, 1320, 1344, 1345, 1346, 1347, 1348, 1349, 1350, 1351, 1352, 1353, 1354, 1355, 1356] (by decide +kernel) (by decide +kernel)
set_option maxRecDepth 20000 in
theorem gL_law_X9_queued : GoodIn wsL_law (wsV RL 147 RX9 yX9_queued wsX9_queued) := goodIn_app (goodIn_of _ (by decide +kernel)) ggL_law_X9_queued
set_option maxRecDepth 20000 in
theorem ggL_law_X10_queued : GoodIn wsL_law wsX10_queued := goodIn_r _ [935, 148, 109, 172, 173, 5, 174, 1321, 1322, 1323, 1324, 1325, 1326, 1327, 1328, 1329, 1330, 1331, 1332, 1333, 1334, 1335, 1336, 1337, 1338, 1339, 1340, 1341, 1342, 1343] (by decide +kernel) (by decide +kernel)
set_option maxRecDepth 20000 in
theorem gL_law_X10_queued : GoodIn wsL_law (wsV RL 150 RX10 yX10_queued wsX10_queued) := goodIn_app (goodIn_of _ (by decide +kernel)) ggL_law_X10_queued
