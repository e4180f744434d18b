set_option maxRecDepth 20000 in
theorem ggL_law_L_standing : GoodIn wsL_law wsL_standing := goodIn_ca (goodIn_r _ [938, 899, 939, 940, 941, 2, 942, 904, 905, 16, 943, 626, 627, 15, 628, 42, 41, 222, 223, 1312, 1313, 1314, 1315, 1316, 1317, 1318, 1319, 1320, 1344, 1345, 1346, 1347, 1348, 1349, 1350, 1351, 1352, 1353, 1354, 1355, 1356] (by decide +kernel) (by decide +kernel)) (goodIn_sub (fun _ h => List.mem_append_right _ h) (by decide +kernel))
set_option maxRecDepth 20000 in
theorem gL_law_L_standing : GoodIn wsL_law (va_wsS RL 151 yL_standing wsL_standing) := goodIn_app (goodIn_of _ (by decide +kernel)) ggL_law_L_standing
set_option maxRecDepth 20000 in
theorem ggL_law_X10_standing : GoodIn wsL_law wsX10_standing := goodIn_r _ [947, 148, 948, 949, 5, 950, 172, 173, 174, 823, 824, 825, 826, 109, 470, 471, 472, 473, 827, 828, 829, 830, 150, 151, 152, 153, 1321, 1322, 1323, 1324, 1325, 1326, 1327, 1328, 1329, 1330, 1331, 1332, 1333, 1334, 1335, 1336, 1337, 1338, 1339, 1340, 1341, 1342, 1343] (by decide +kernel) (by decide +kernel)
set_option maxRecDepth 20000 in
theorem gL_law_X10_standing : GoodIn wsL_law (wsV RL 153 RX10 yX10_standing wsX10_standing) := goodIn_app (goodIn_of _ (by decide +kernel)) ggL_law_X10_standing
set_option maxRecDepth 20000 in
theorem ggL_law_L_lane : GoodIn wsL_law wsL_lane := goodIn_ca (goodIn_r _ [953, 899, 954, 955, 956, 2, 957, 904, 905, 16, 648, 958, 959, 1312, 1313, 1314, 1315, 1316, 1317, 1318, 1319, 1320, 1344, 1345, 1346, 1347, 1348, 1349, 1350, 1351, 1352, 1353, 1354, 1355, 1356] (by decide +kernel) (by decide +kernel)) (goodIn_sub (fun _ h => List.mem_append_right _ h) (by decide +kernel))
set_option maxRecDepth 20000 in
theorem gL_law_L_lane : GoodIn wsL_law (va_wsS RL 154 yL_lane wsL_lane) := goodIn_app (goodIn_of _ (by decide +kernel)) ggL_law_L_lane
set_option maxRecDepth 20000 in
theorem ggL_law_X10_lane : GoodIn wsL_law wsX10_lane := goodIn_r _ [963, 148, 948, 949, 5, 950, 172, 173, 174, 150, 151, 152, 153, 747, 748, 749, 750, 109, 751, 752, 753, 754, 470, 471, 472, 473, 727, 728, 729, 730, 731, 732, 733, 734, 767, 768, 769, 770, 1321, 1322, 1323, 1324, 1325, 1326, 1327, 1328, 1329, 1330, 1331, 1332, 1333, 1334, 1335, 1336, 1337, 1338, 1339, 1340, 1341, 1342, 1343] (by decide +kernel) (by decide +kernel)
set_option maxRecDepth 20000 in
theorem gL_law_X10_lane : GoodIn wsL_law (wsV RL 157 RX10 yX10_lane wsX10_lane) := goodIn_app (goodIn_of _ (by decide +kernel)) ggL_law_X10_lane
set_option maxRecDepth 20000 in
theorem ggL_law_L_call : GoodIn wsL_law wsL_call := goodIn_ca (goodIn_ca (goodIn_r _ [966, 899, 161, 967, 968, 969, 2, 970, 904, 905, 166, 167, 16, 179, 971, 931, 222, 223, 1312, 1313, 1314, 1315, 1316, 1317, 1318, 1319, 1320, 1344, 1345, 1346, 1347, 1348, 1349, 1350, 1351, 1352, 1353, 1354, 1355, 1356] (by decide +kernel) (by decide +kernel)) (goodIn_sub (fun _ h => List.mem_append_right _ h) (by decide +kernel))) (goodIn_sub (fun _ h => List.mem_append_left _ (List.mem_append_right _ h)) (by decide +kernel))
set_option maxRecDepth 20000 in
theorem gL_law_L_call : GoodIn wsL_law (va_wsS RL 158 yL_call wsL_call) := goodIn_app (goodIn_of _ (by decide +kernel)) ggL_law_L_call
set_option maxRecDepth 20000 in
theorem ggL_law_X10_call : GoodIn wsL_law wsX10_call := goodIn_r _ [975, 148, 109, 350, 351, 352, 353, 172, 173, 5, 174, 150, 151, 152, 153, 1321, 1322, 1323, 1324, 1325, 1326, 1327, 1328, 1329, 1330, 1331, 1332, 1333, 1334, 1335, 1336, 1337, 1338, 1339, 1340, 1341, 1342, 1343] (by decide +kernel) (by decide +kernel)
set_option maxRecDepth 20000 in
theorem gL_law_X10_call : GoodIn wsL_law (wsV RL 160 RX10 yX10_call wsX10_call) := goodIn_app (goodIn_of _ (by decide +kernel)) ggL_law_X10_call
set_option maxRecDepth 20000 in
theorem ggL_law_L_account : GoodIn wsL_law wsL_account := goodIn_ca (goodIn_r _ [978, 161, 979, 980, 981, 2, 982, 166, 167, 30, 1312, 1313, 1314, 1315, 1316, 1317, 1318, 1319, 1320] (by decide +kernel) (by decide +kernel)) (goodIn_sub (fun _ h => List.mem_append_left _ (List.mem_append_right _ h)) (by decide +kernel))
set_option maxRecDepth 20000 in
theorem gL_law_L_account : GoodIn wsL_law (va_wsS RL 161 yL_account wsL_account) := goodIn_app (goodIn_of _ (by decide +kernel)) ggL_law_L_account
set_option maxRecDepth 20000 in
theorem ggL_law_X10_account : GoodIn wsL_law wsX10_account := goodIn_r _ [986, 148, 115, 172, 173, 5, 174, 150, 151, 152, 153, 1321, 1322, 1323, 1324, 1325, 1326, 1327, 1328, 1329, 1330, 1331, 1332, 1333, 1334, 1335, 1336, 1337, 1338, 1339, 1340, 1341, 1342, 1343] (by decide +kernel) (by decide +kernel)
set_option maxRecDepth 20000 in
theorem gL_law_X10_account : GoodIn wsL_law (wsV RL 163 RX10 yX10_account wsX10_account) := goodIn_app (goodIn_of _ (by decide +kernel)) ggL_law_X10_account
set_option maxRecDepth 20000 in
theorem ggL_law_L_tide : GoodIn wsL_law wsL_tide := goodIn_ca (goodIn_r _ [989, 161, 990, 991, 992, 2, 993, 166, 167, 16, 994, 92, 93, 15, 94, 37, 1312, 1313, 1314, 1315, 1316, 1317, 1318, 1319, 1320, 1344, 1345, 1346, 1347, 1348, 1349, 1350, 1351, 1352, 1353, 1354, 1355, 1356] (by decide +kernel) (by decide +kernel)) (goodIn_sub (fun _ h => List.mem_append_left _ (List.mem_append_right _ h)) (by decide +kernel))
set_option maxRecDepth 20000 in
theorem gL_law_L_tide : GoodIn wsL_law (va_wsS RL 164 yL_tide wsL_tide) := goodIn_app (goodIn_of _ (by decide +kernel)) ggL_law_L_tide
set_option maxRecDepth 20000 in
theorem ggL_law_X10_tide : GoodIn wsL_law wsX10_tide := goodIn_r _ [998, 148, 462, 463, 464, 5, 465, 109, 150, 151, 152, 153, 1321, 1322, 1323, 1324, 1325, 1326, 1327, 1328, 1329, 1330, 1331, 1332, 1333, 1334, 1335, 1336, 1337, 1338, 1339, 1340, 1341, 1342, 1343] (by decide +kernel) (by decide +kernel)
set_option maxRecDepth 20000 in
theorem gL_law_X10_tide : GoodIn wsL_law (wsV RL 166 RX10 yX10_tide wsX10_tide) := goodIn_app (goodIn_of _ (by decide +kernel)) ggL_law_X10_tide
set_option maxRecDepth 20000 in
theorem ggL_law_L_deck : GoodIn wsL_law wsL_deck := goodIn_ca (goodIn_r _ [1001, 161, 1002, 1003, 1004, 2, 1005, 166, 167, 16, 1006, 88, 89, 15, 90, 37, 36, 91, 92, 93, 94, 1312, 1313, 1314, 1315, 1316, 1317, 1318, 1319, 1320, 1344, 1345, 1346, 1347, 1348, 1349, 1350, 1351, 1352, 1353, 1354, 1355, 1356] (by decide +kernel) (by decide +kernel)) (goodIn_sub (fun _ h => List.mem_append_left _ (List.mem_append_right _ h)) (by decide +kernel))
set_option maxRecDepth 20000 in
theorem gL_law_L_deck : GoodIn wsL_law (va_wsS RL 167 yL_deck wsL_deck) := goodIn_app (goodIn_of _ (by decide +kernel)) ggL_law_L_deck
set_option maxRecDepth 20000 in
theorem ggL_law_X10_deck : GoodIn wsL_law wsX10_deck := goodIn_r _ [1010, 148, 458, 459, 460, 5, 461, 109, 462, 463, 464, 465, 466, 467, 468, 469, 470, 471, 472, 473, 150, 151, 152, 153, 1321, 1322, 1323, 1324, 1325, 1326, 1327, 1328, 1329, 1330, 1331, 1332, 1333, 1334, 1335, 1336, 1337, 1338, 1339, 1340, 1341, 1342, 1343] (by decide +kernel) (by decide +kernel)
set_option maxRecDepth 20000 in
theorem gL_law_X10_deck : GoodIn wsL_law (wsV RL 169 RX10 yX10_deck wsX10_deck) := goodIn_app (goodIn_of _ (by decide +kernel)) ggL_law_X10_deck
set_option maxRecDepth 20000 in
theorem ggL_law_X9_slope : GoodIn wsL_law wsX9_slope := goodIn_r _ [1014, 16, 619, 1312, 1313, 1314, 1315, 1316, 1317, 1318, 1319, 1320, 1344, 1345, 1346, 1347, 1348, 1349, 1350, 1351, 1352, 1353, 1354, 1355, 1356] (by decide +kernel) (by decide +kernel)
set_option maxRecDepth 20000 in
theorem gL_law_X9_slope : GoodIn wsL_law (wsV RL 170 RX9 yX9_slope wsX9_slope) := goodIn_app (goodIn_of _ (by decide +kernel)) ggL_law_X9_slope
