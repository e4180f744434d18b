set_option maxRecDepth 20000 in
theorem qg_X9_load_8 : GoodIn wsL_law wsX9_load_r8 := goodIn_r _ [311, 312, 84, 85, 86, 87, 88, 89, 90, 91, 92, 93, 94, 95, 96, 97, 98, 46, 99, 100, 101, 102, 47, 48] (by decide +kernel) (by decide +kernel)
set_option maxRecDepth 20000 in
theorem qg_X9_load_9 : GoodIn wsL_law wsX9_load_r9 := goodIn_r _ [103, 104, 313, 314, 315, 316, 317, 318, 319, 320, 41, 45, 321, 322, 323, 20, 324, 56] (by decide +kernel) (by decide +kernel)
set_option maxRecDepth 20000 in
theorem qg_X9_load_wsX90 : GoodIn wsL_law wsX90 := goodIn_r _ [1312, 1313, 1314, 1315, 1316, 1317, 1318, 1319, 1320] (by decide +kernel) (by decide +kernel)
set_option maxRecDepth 20000 in
theorem qg_X9_load_wsX60 : GoodIn wsL_law wsX60 := goodIn_r _ [1360, 1361, 1362, 1363, 1364, 1365, 1366, 1367, 1368, 1369, 1370] (by decide +kernel) (by decide +kernel)
set_option maxRecDepth 20000 in
theorem qg_X9_load_wsX80 : GoodIn wsL_law wsX80 := goodIn_r _ [1344, 1345, 1346, 1347, 1348, 1349, 1350, 1351, 1352, 1353, 1354, 1355, 1356] (by decide +kernel) (by decide +kernel)
set_option maxRecDepth 20000 in
theorem qg_X9_load_wsX40 : GoodIn wsL_law wsX40 := goodIn_r _ [1357, 1358, 1359] (by decide +kernel) (by decide +kernel)
theorem ggL_law_X9_load : GoodIn wsL_law wsX9_load := goodIn_cn qg_X9_load_c (goodIn_app (goodIn_app (goodIn_app (goodIn_app (goodIn_app qg_X9_load_1 (goodIn_app qg_X9_load_2 (goodIn_app qg_X9_load_3 (goodIn_app qg_X9_load_4 (goodIn_app qg_X9_load_5 (goodIn_app qg_X9_load_6 (goodIn_app qg_X9_load_7 (goodIn_app qg_X9_load_8 (qg_X9_load_9))))))))) qg_X9_load_wsX90) qg_X9_load_wsX60) qg_X9_load_wsX80) qg_X9_load_wsX40)
set_option maxRecDepth 20000 in
theorem gL_law_X9_load : GoodIn wsL_law (wsV RL 118 RX9 yX9_load wsX9_load) := goodIn_app (goodIn_of _ (by decide +kernel)) ggL_law_X9_load
set_option maxRecDepth 20000 in
theorem qg_X10_load_c : GoodIn wsL_law [Cond.code yX10_load cX10_load 1 (some .int)] := goodIn_r _ [328] (by decide +kernel) (by decide +kernel)
set_option maxRecDepth 20000 in
theorem qg_X10_load_1 : GoodIn wsL_law wsX10_load_r1 := goodIn_r _ [148, 109, 110, 329, 149, 330, 331, 332, 5, 333, 120, 121, 122, 123, 124, 125, 126, 127, 334, 335, 336, 337, 338, 118] (by decide +kernel) (by decide +kernel)
set_option maxRecDepth 20000 in
theorem qg_X10_load_2 : GoodIn wsL_law wsX10_load_r2 := goodIn_r _ [339, 340, 341, 342, 343, 344, 345, 346, 347, 348, 349, 350, 351, 352, 353, 354, 355, 356, 357, 116, 358, 359, 360, 361] (by decide +kernel) (by decide +kernel)
set_option maxRecDepth 20000 in
theorem qg_X10_load_3 : GoodIn wsL_law wsX10_load_r3 := goodIn_r _ [362, 363, 364, 365, 366, 367, 368, 369, 370, 371, 372, 373, 374, 375, 376, 211, 212, 213, 214, 215, 216, 217, 218, 219] (by decide +kernel) (by decide +kernel)
set_option maxRecDepth 20000 in
theorem qg_X10_load_4 : GoodIn wsL_law wsX10_load_r4 := goodIn_r _ [220, 221, 377, 225, 226, 227, 228, 229, 230, 231, 232, 233, 234, 235, 236, 237, 238, 239, 240, 241, 242, 243, 244, 245] (by decide +kernel) (by decide +kernel)
set_option maxRecDepth 20000 in
theorem qg_X10_load_5 : GoodIn wsL_law wsX10_load_r5 := goodIn_r _ [246, 247, 248, 249, 250, 251, 252, 253, 254, 255, 256, 257, 258, 259, 260, 378, 379, 380, 381, 382, 383, 384, 385, 386] (by decide +kernel) (by decide +kernel)
set_option maxRecDepth 20000 in
theorem qg_X10_load_6 : GoodIn wsL_law wsX10_load_r6 := goodIn_r _ [387, 388, 389, 390, 391, 392, 393, 394, 395, 396, 397, 398, 399, 400, 401, 402, 403, 404, 405, 172, 173, 174, 406, 407] (by decide +kernel) (by decide +kernel)
set_option maxRecDepth 20000 in
theorem qg_X10_load_7 : GoodIn wsL_law wsX10_load_r7 := goodIn_r _ [408, 409, 410, 411, 412, 413, 414, 415, 416, 417, 418, 419, 420, 421, 422, 423, 424, 425, 426, 427, 428, 429, 430, 431] (by decide +kernel) (by decide +kernel)
set_option maxRecDepth 20000 in
theorem qg_X10_load_8 : GoodIn wsL_law wsX10_load_r8 := goodIn_r _ [432, 433, 434, 435, 436, 437, 438, 439, 440, 441, 442, 443, 444, 445, 446, 447, 448, 449, 450, 451, 452, 453, 454, 455] (by decide +kernel) (by decide +kernel)
set_option maxRecDepth 20000 in
theorem qg_X10_load_9 : GoodIn wsL_law wsX10_load_r9 := goodIn_r _ [456, 457, 458, 459, 460, 461, 462, 463, 464, 465, 466, 467, 468, 469, 470, 471, 472, 473] (by decide +kernel) (by decide +kernel)
set_option maxRecDepth 20000 in
theorem qg_X10_load_wsX100 : GoodIn wsL_law wsX100 := goodIn_r _ [1321, 1322, 1323, 1324, 1325, 1326, 1327, 1328, 1329, 1330, 1331, 1332, 1333, 1334, 1335, 1336, 1337, 1338, 1339, 1340, 1341, 1342, 1343] (by decide +kernel) (by decide +kernel)
theorem ggL_law_X10_load : GoodIn wsL_law wsX10_load := goodIn_cn qg_X10_load_c (goodIn_app (goodIn_app qg_X10_load_1 (goodIn_app qg_X10_load_2 (goodIn_app qg_X10_load_3 (goodIn_app qg_X10_load_4 (goodIn_app qg_X10_load_5 (goodIn_app qg_X10_load_6 (goodIn_app qg_X10_load_7 (goodIn_app qg_X10_load_8 (qg_X10_load_9))))))))) qg_X10_load_wsX100)
set_option maxRecDepth 20000 in
theorem gL_law_X10_load : GoodIn wsL_law (wsV RL 121 RX10 yX10_load wsX10_load) := goodIn_app (goodIn_of _ (by decide +kernel)) ggL_law_X10_load
set_option maxRecDepth 20000 in
theorem qg_X9_play_c : GoodIn wsL_law [Cond.code yX9_play cX9_play 3 (some .int)] := goodIn_r _ [477] (by decide +kernel) (by decide +kernel)
set_option maxRecDepth 20000 in
theorem qg_X9_play_1 : GoodIn wsL_law wsX9_play_r1 := goodIn_r _ [28, 139, 478, 479, 480, 481, 27, 482, 65, 66, 62, 185, 186, 187, 188, 63, 68, 189, 190, 191, 192, 61, 67, 193] (by decide +kernel) (by decide +kernel)
set_option maxRecDepth 20000 in
theorem qg_X9_play_2 : GoodIn wsL_law wsX9_play_r2 := goodIn_r _ [194, 195, 196, 60, 483, 484, 485, 486, 487, 488, 489, 490, 206, 207, 208, 209, 210, 211, 212, 213, 214, 215, 216, 217] (by decide +kernel) (by decide +kernel)
set_option maxRecDepth 20000 in
theorem qg_X9_play_3 : GoodIn wsL_law wsX9_play_r3 := goodIn_r _ [218, 219, 220, 221, 222, 2, 223, 224, 225, 226, 227, 228, 229, 230, 231, 232, 233, 234, 235, 236, 237, 238, 239, 240] (by decide +kernel) (by decide +kernel)
set_option maxRecDepth 20000 in
theorem qg_X9_play_4 : GoodIn wsL_law wsX9_play_r4 := goodIn_r _ [241, 242, 243, 244, 245, 246, 247, 248, 249, 250, 251, 252, 253, 254, 255, 256, 257, 258, 259, 260, 261, 262, 263, 264] (by decide +kernel) (by decide +kernel)
set_option maxRecDepth 20000 in
theorem qg_X9_play_5 : GoodIn wsL_law wsX9_play_r5 := goodIn_r _ [265, 266, 267, 268, 491, 492, 493, 494, 278, 279, 280, 281, 282, 283, 284, 285, 286, 495, 496, 497, 498, 287, 288, 289] (by decide +kernel) (by decide +kernel)
set_option maxRecDepth 20000 in
theorem qg_X9_play_6 : GoodIn wsL_law wsX9_play_r6 := goodIn_r _ [290, 274, 275, 276, 277, 499, 500, 501, 502, 64, 308, 309, 310, 311, 503, 504, 505, 506, 507, 508, 509, 510, 511, 512] (by decide +kernel) (by decide +kernel)
set_option maxRecDepth 20000 in
theorem qg_X9_play_7 : GoodIn wsL_law wsX9_play_r7 := goodIn_r _ [513, 514, 16, 515, 516, 517, 518, 21, 30, 519, 520, 521, 20, 522, 55, 54, 56, 523, 314, 315, 15, 316, 36, 317] (by decide +kernel) (by decide +kernel)
set_option maxRecDepth 20000 in
theorem qg_X9_play_8 : GoodIn wsL_law wsX9_play_r8 := goodIn_r _ [318, 319, 320, 37, 38, 39, 40, 41, 42, 43, 44, 45, 46, 47, 48, 524, 525, 526, 527, 95, 96, 97, 98, 87] (by decide +kernel) (by decide +kernel)
