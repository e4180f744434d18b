set_option maxRecDepth 20000 in
theorem qLw15 : GoodIn lw_tbl wsL_law0_r15 := goodIn_p wsL_law0_r15 [1195, 1199, 1213, 1203] (by decide +kernel) (by decide +kernel)
set_option maxRecDepth 20000 in
theorem qLw16 : GoodIn lw_tbl wsL_law0_r16 := goodIn_p wsL_law0_r16 [1206, 1209, 1217, 1221, 1226, 1232] (by decide +kernel) (by decide +kernel)
set_option maxRecDepth 20000 in
theorem qLw17 : GoodIn lw_tbl wsL_law0_r17 := goodIn_p wsL_law0_r17 [1236, 1240, 1244, 1248, 1252, 1256] (by decide +kernel) (by decide +kernel)
set_option maxRecDepth 20000 in
theorem qLw18 : GoodIn lw_tbl wsL_law0_r18 := goodIn_p wsL_law0_r18 [1261, 1265, 1269, 1274, 1279, 1285] (by decide +kernel) (by decide +kernel)
set_option maxRecDepth 20000 in
theorem qLw19 : GoodIn lw_tbl wsL_law0_r19 := goodIn_p wsL_law0_r19 [1292, 1297, 1302, 1308, 1312, 1316] (by decide +kernel) (by decide +kernel)
set_option maxRecDepth 20000 in
theorem qLw20 : GoodIn lw_tbl wsL_law0_r20 := goodIn_p wsL_law0_r20 [1320, 1324, 1328, 1332, 1336, 506] (by decide +kernel) (by decide +kernel)
set_option maxRecDepth 20000 in
theorem qLw21 : GoodIn lw_tbl wsL_law0_r21 := goodIn_p wsL_law0_r21 [510, 514, 518, 528, 532, 538] (by decide +kernel) (by decide +kernel)
set_option maxRecDepth 20000 in
theorem qLw22 : GoodIn lw_tbl wsL_law0_r22 := goodIn_p wsL_law0_r22 [542, 546, 550, 554, 558, 563] (by decide +kernel) (by decide +kernel)
set_option maxRecDepth 20000 in
theorem qLw23 : GoodIn lw_tbl wsL_law0_r23 := goodIn_p wsL_law0_r23 [567, 571, 575, 579, 583, 587] (by decide +kernel) (by decide +kernel)
set_option maxRecDepth 20000 in
theorem qLw24 : GoodIn lw_tbl wsL_law0_r24 := goodIn_p wsL_law0_r24 [591, 595, 599, 603, 607, 611] (by decide +kernel) (by decide +kernel)
set_option maxRecDepth 20000 in
theorem qLw25 : GoodIn lw_tbl wsL_law0_r25 := goodIn_p wsL_law0_r25 [616, 620, 624, 628, 632] (by decide +kernel) (by decide +kernel)
set_option maxRecDepth 20000 in
theorem qLw26 : GoodIn lw_tbl wsL_law0_r26 := goodIn_p wsL_law0_r26 [637, 641, 645, 649, 655] (by decide +kernel) (by decide +kernel)
set_option maxRecDepth 20000 in
theorem qLw27 : GoodIn lw_tbl wsL_law0_r27 := goodIn_p wsL_law0_r27 [659, 663, 668, 673, 677, 682] (by decide +kernel) (by decide +kernel)
set_option maxRecDepth 20000 in
theorem qLw28 : GoodIn lw_tbl wsL_law0_r28 := goodIn_p wsL_law0_r28 [686, 1340, 1344, 1348, 1358] (by decide +kernel) (by decide +kernel)
