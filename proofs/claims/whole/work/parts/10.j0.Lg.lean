theorem goodIn_cn {big b : List Cond} {c : Cond} (h : GoodIn big [c]) (hb : GoodIn big b) : GoodIn big (c :: b) := List.forall_mem_cons.mpr ⟨h c List.mem_cons_self, hb⟩
set_option maxRecDepth 20000 in
theorem ggL_law_X9_init : GoodIn wsL_law wsX9_init := goodIn_r _ [9, 10, 11, 12, 13, 14, 15, 16, 17, 18, 19, 20, 21, 22, 23, 24, 25, 26, 27, 28, 29, 30, 31, 32, 33, 34, 35, 36, 37, 38, 39, 40, 41, 42, 43, 44, 45, 46, 47, 48, 49, 50, 51, 52, 53, 54, 55, 56, 57, 58, 59, 60, 61, 62, 63, 64, 65, 66, 67, 68, 69, 70, 71, 72, 73, 74, 75, 76, 77, 78, 79, 80, 81, 82, 83, 84, 85, 86, 87, 88, 89, 90, 91, 92, 93, 94, 95, 96, 97, 98, 99, 100, 101, 102, 103, 2, 104, 1344, 1345, 1346, 1347, 1348, 1349, 1350, 1351, 1352, 1353, 1354, 1355, 1356, 1312, 1313, 1314, 1315, 1316, 1317, 1318, 1319, 1320, 1357, 1358, 1359, 1360, 1361, 1362, 1363, 1364, 1365, 1366, 1367, 1368, 1369, 1370] (by decide +kernel) (by decide +kernel)
set_option maxRecDepth 20000 in
theorem gL_law_X9_init : GoodIn wsL_law (wsX9_init) := ggL_law_X9_init
set_option maxRecDepth 20000 in
theorem ggL_law_X10_init : GoodIn wsL_law wsX10_init := goodIn_r _ [107, 108, 11, 12, 29, 109, 110, 111, 112, 113, 23, 114, 115, 116, 117, 118, 119, 120, 121, 122, 5, 123, 124, 125, 126, 127, 1321, 1322, 1323, 1324, 1325, 1326, 1327, 1328, 1329, 1330, 1331, 1332, 1333, 1334, 1335, 1336, 1337, 1338, 1339, 1340, 1341, 1342, 1343] (by decide +kernel) (by decide +kernel)
set_option maxRecDepth 20000 in
theorem gL_law_X10_init : GoodIn wsL_law (wsX10_init) := ggL_law_X10_init
set_option maxRecDepth 20000 in
theorem ggL_law_L_appendText : GoodIn wsL_law wsL_appendText := goodIn_ca (goodIn_r _ [131, 132, 133, 134, 135, 2, 136, 137, 138, 28, 139, 140, 141, 142, 27, 143, 61, 60, 1312, 1313, 1314, 1315, 1316, 1317, 1318, 1319, 1320, 1360, 1361, 1362, 1363, 1364, 1365, 1366, 1367, 1368, 1369, 1370] (by decide +kernel) (by decide +kernel)) (goodIn_sub (fun _ h => List.mem_append_left _ (List.mem_append_left _ (List.mem_append_right _ h))) (by decide +kernel))
set_option maxRecDepth 20000 in
theorem gL_law_L_appendText : GoodIn wsL_law (va_wsS RL 105 yL_appendText wsL_appendText) := goodIn_app (goodIn_of _ (by decide +kernel)) ggL_law_L_appendText
set_option maxRecDepth 20000 in
theorem ggL_law_X10_appendText : GoodIn wsL_law wsX10_appendText := goodIn_r _ [147, 148, 149, 116, 150, 151, 152, 5, 153, 1321, 1322, 1323, 1324, 1325, 1326, 1327, 1328, 1329, 1330, 1331, 1332, 1333, 1334, 1335, 1336, 1337, 1338, 1339, 1340, 1341, 1342, 1343] (by decide +kernel) (by decide +kernel)
set_option maxRecDepth 20000 in
theorem gL_law_X10_appendText : GoodIn wsL_law (wsV RL 110 RX10 yX10_appendText wsX10_appendText) := goodIn_app (goodIn_of _ (by decide +kernel)) ggL_law_X10_appendText
set_option maxRecDepth 20000 in
theorem ggL_law_X10_thrown : GoodIn wsL_law wsX10_thrown := goodIn_r _ [157, 148, 1321, 1322, 1323, 1324, 1325, 1326, 1327, 1328, 1329, 1330, 1331, 1332, 1333, 1334, 1335, 1336, 1337, 1338, 1339, 1340, 1341, 1342, 1343] (by decide +kernel) (by decide +kernel)
set_option maxRecDepth 20000 in
theorem gL_law_X10_thrown : GoodIn wsL_law (wsV RL 111 RX10 yX10_thrown wsX10_thrown) := goodIn_app (goodIn_of _ (by decide +kernel)) ggL_law_X10_thrown
set_option maxRecDepth 20000 in
theorem ggL_law_L_truncateText : GoodIn wsL_law wsL_truncateText := goodIn_ca (goodIn_r _ [160, 161, 162, 163, 164, 2, 165, 166, 167, 28, 139, 1312, 1313, 1314, 1315, 1316, 1317, 1318, 1319, 1320, 1360, 1361, 1362, 1363, 1364, 1365, 1366, 1367, 1368, 1369, 1370] (by decide +kernel) (by decide +kernel)) (goodIn_sub (fun _ h => List.mem_append_left _ (List.mem_append_right _ h)) (by decide +kernel))
set_option maxRecDepth 20000 in
theorem gL_law_L_truncateText : GoodIn wsL_law (va_wsS RL 115 yL_truncateText wsL_truncateText) := goodIn_app (goodIn_of _ (by decide +kernel)) ggL_law_L_truncateText
set_option maxRecDepth 20000 in
theorem ggL_law_X10_truncateText : GoodIn wsL_law wsX10_truncateText := goodIn_r _ [171, 148, 149, 172, 173, 5, 174, 150, 151, 152, 153, 1321, 1322, 1323, 1324, 1325, 1326, 1327, 1328, 1329, 1330, 1331, 1332, 1333, 1334, 1335, 1336, 1337, 1338, 1339, 1340, 1341, 1342, 1343] (by decide +kernel) (by decide +kernel)
set_option maxRecDepth 20000 in
theorem gL_law_X10_truncateText : GoodIn wsL_law (wsV RL 117 RX10 yX10_truncateText wsX10_truncateText) := goodIn_app (goodIn_of _ (by decide +kernel)) ggL_law_X10_truncateText
set_option maxRecDepth 20000 in
theorem qg_X9_load_c : GoodIn wsL_law [Cond.code yX9_load cX9_load 2 (some .int)] := goodIn_r _ [178] (by decide +kernel) (by decide +kernel)
set_option maxRecDepth 20000 in
theorem qg_X9_load_1 : GoodIn wsL_law wsX9_load_r1 := goodIn_r _ [28, 17, 139, 16, 21, 179, 180, 181, 182, 27, 183, 69, 70, 66, 62, 184, 72, 73, 15, 74, 36, 42, 43, 44] (by decide +kernel) (by decide +kernel)
set_option maxRecDepth 20000 in
theorem qg_X9_load_2 : GoodIn wsL_law wsX9_load_r2 := goodIn_r _ [75, 76, 77, 78, 37, 79, 80, 81, 82, 38, 185, 186, 187, 188, 63, 68, 189, 190, 191, 192, 61, 67, 193, 194] (by decide +kernel) (by decide +kernel)
set_option maxRecDepth 20000 in
theorem qg_X9_load_3 : GoodIn wsL_law wsX9_load_r3 := goodIn_r _ [195, 196, 60, 197, 198, 199, 200, 201, 202, 203, 204, 205, 206, 207, 208, 209, 210, 211, 212, 213, 214, 215, 216, 217] (by decide +kernel) (by decide +kernel)
set_option maxRecDepth 20000 in
theorem qg_X9_load_4 : GoodIn wsL_law wsX9_load_r4 := goodIn_r _ [218, 219, 220, 221, 222, 2, 223, 224, 225, 226, 227, 228, 229, 230, 231, 232, 233, 234, 235, 236, 237, 238, 239, 240] (by decide +kernel) (by decide +kernel)
set_option maxRecDepth 20000 in
theorem qg_X9_load_5 : GoodIn wsL_law wsX9_load_r5 := goodIn_r _ [241, 242, 243, 244, 245, 246, 247, 248, 249, 250, 251, 252, 253, 254, 255, 256, 257, 258, 259, 260, 261, 262, 263, 264] (by decide +kernel) (by decide +kernel)
set_option maxRecDepth 20000 in
theorem qg_X9_load_6 : GoodIn wsL_law wsX9_load_r6 := goodIn_r _ [265, 266, 267, 268, 269, 270, 271, 272, 273, 274, 275, 276, 277, 278, 279, 280, 281, 282, 283, 284, 285, 286, 287, 288] (by decide +kernel) (by decide +kernel)
set_option maxRecDepth 20000 in
theorem qg_X9_load_7 : GoodIn wsL_law wsX9_load_r7 := goodIn_r _ [289, 290, 291, 292, 293, 294, 295, 296, 297, 298, 299, 300, 301, 302, 303, 40, 304, 305, 306, 307, 39, 308, 309, 310] (by decide +kernel) (by decide +kernel)
