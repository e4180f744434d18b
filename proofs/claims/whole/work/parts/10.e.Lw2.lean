set_option maxRecDepth 20000 in
theorem qLw29 : GoodIn lw_tbl wsL_law0_r29 := goodIn_p wsL_law0_r29 [1362, 1366, 1372, 1376, 1380, 1384] (by decide +kernel) (by decide +kernel)
set_option maxRecDepth 20000 in
theorem qLw30 : GoodIn lw_tbl wsL_law0_r30 := goodIn_p wsL_law0_r30 [1388, 1392, 1396, 1400, 1403, 1407, 1411] (by decide +kernel) (by decide +kernel)
set_option maxRecDepth 20000 in
theorem qLw31 : GoodIn lw_tbl wsL_law0_r31 := goodIn_p wsL_law0_r31 [1426, 1415, 1419, 1423, 1430, 1434] (by decide +kernel) (by decide +kernel)
set_option maxRecDepth 20000 in
theorem qLw32 : GoodIn lw_tbl wsL_law0_r32 := goodIn_p wsL_law0_r32 [1438, 1442, 1446, 1450, 1454, 1458] (by decide +kernel) (by decide +kernel)
set_option maxRecDepth 20000 in
theorem qLw33 : GoodIn lw_tbl wsL_law0_r33 := goodIn_p wsL_law0_r33 [1462, 1466, 1470, 1474, 1478, 1482] (by decide +kernel) (by decide +kernel)
set_option maxRecDepth 20000 in
theorem qLw34 : GoodIn lw_tbl wsL_law0_r34 := goodIn_p wsL_law0_r34 [1486, 1490, 1494, 1498, 1502, 1506] (by decide +kernel) (by decide +kernel)
set_option maxRecDepth 20000 in
theorem qLw35 : GoodIn lw_tbl wsL_law0_r35 := goodIn_p wsL_law0_r35 [1510, 1514, 1518, 1522, 1526, 1530] (by decide +kernel) (by decide +kernel)
set_option maxRecDepth 20000 in
theorem qLw36 : GoodIn lw_tbl wsL_law0_r36 := goodIn_p wsL_law0_r36 [1534, 1538, 690, 1542, 694] (by decide +kernel) (by decide +kernel)
set_option maxRecDepth 20000 in
theorem qLw37 : GoodIn lw_tbl wsL_law0_r37 := goodIn_p wsL_law0_r37 [1546, 875, 1550, 1554, 1558] (by decide +kernel) (by decide +kernel)
set_option maxRecDepth 20000 in
theorem qLw38 : GoodIn lw_tbl wsL_law0_r38 := goodIn_p wsL_law0_r38 [883, 1562, 891, 1566] (by decide +kernel) (by decide +kernel)
set_option maxRecDepth 20000 in
theorem qLw39 : GoodIn lw_tbl wsL_law0_r39 := goodIn_p wsL_law0_r39 [1569, 915, 1573, 698, 1577] (by decide +kernel) (by decide +kernel)
set_option maxRecDepth 20000 in
theorem qLw40 : GoodIn lw_tbl wsL_law0_r40 := goodIn_p wsL_law0_r40 [923, 1581, 1584, 931] (by decide +kernel) (by decide +kernel)
set_option maxRecDepth 20000 in
theorem qLw41 : GoodIn lw_tbl wsL_law0_r41 := goodIn_p wsL_law0_r41 [1588, 938, 1592, 946] (by decide +kernel) (by decide +kernel)
set_option maxRecDepth 20000 in
theorem qLw42 : GoodIn lw_tbl wsL_law0_r42 := goodIn_p wsL_law0_r42 [1596, 953, 1600, 962] (by decide +kernel) (by decide +kernel)
