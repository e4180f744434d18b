set_option maxRecDepth 20000 in
theorem qLw43 : GoodIn lw_tbl wsL_law0_r43 := goodIn_p wsL_law0_r43 [1604, 703, 1608, 707, 1612, 711] (by decide +kernel) (by decide +kernel)
set_option maxRecDepth 20000 in
theorem qLw44 : GoodIn lw_tbl wsL_law0_r44 := goodIn_p wsL_law0_r44 [1616, 715, 1620, 719, 1624] (by decide +kernel) (by decide +kernel)
set_option maxRecDepth 20000 in
theorem qLw45 : GoodIn lw_tbl wsL_law0_r45 := goodIn_p wsL_law0_r45 [970, 1628, 978, 1632, 724] (by decide +kernel) (by decide +kernel)
set_option maxRecDepth 20000 in
theorem qLw46 : GoodIn lw_tbl wsL_law0_r46 := goodIn_p wsL_law0_r46 [1636, 1640, 986, 1644, 728] (by decide +kernel) (by decide +kernel)
set_option maxRecDepth 20000 in
theorem qLw47 : GoodIn lw_tbl wsL_law0_r47 := goodIn_p wsL_law0_r47 [1648, 994, 1652, 1656, 1001] (by decide +kernel) (by decide +kernel)
set_option maxRecDepth 20000 in
theorem qLw48 : GoodIn lw_tbl wsL_law0_r48 := goodIn_p wsL_law0_r48 [1660, 732, 1664, 736, 1668] (by decide +kernel) (by decide +kernel)
set_option maxRecDepth 20000 in
theorem qLw49 : GoodIn lw_tbl wsL_law0_r49 := goodIn_p wsL_law0_r49 [1008, 1672, 1016, 1676] (by decide +kernel) (by decide +kernel)
set_option maxRecDepth 20000 in
theorem qLw50 : GoodIn lw_tbl wsL_law0_r50 := goodIn_p wsL_law0_r50 [1024, 1680, 1031, 1684, 1038] (by decide +kernel) (by decide +kernel)
set_option maxRecDepth 20000 in
theorem qLw51 : GoodIn lw_tbl wsL_law0_r51 := goodIn_p wsL_law0_r51 [1688, 740, 1692, 1045, 1696] (by decide +kernel) (by decide +kernel)
set_option maxRecDepth 20000 in
theorem qLw52 : GoodIn lw_tbl wsL_law0_r52 := goodIn_p wsL_law0_r52 [1053, 1700, 1063, 1704, 744] (by decide +kernel) (by decide +kernel)
set_option maxRecDepth 20000 in
theorem qLw53 : GoodIn lw_tbl wsL_law0_r53 := goodIn_p wsL_law0_r53 [748, 753, 1708, 1712, 1716] (by decide +kernel) (by decide +kernel)
set_option maxRecDepth 20000 in
theorem qLw54 : GoodIn lw_tbl wsL_law0_r54 := goodIn_p wsL_law0_r54 [757, 1720, 761, 765, 1724] (by decide +kernel) (by decide +kernel)
set_option maxRecDepth 20000 in
theorem qLw55 : GoodIn lw_tbl wsL_law0_r55 := goodIn_p wsL_law0_r55 [1072, 1728, 1080, 1732] (by decide +kernel) (by decide +kernel)
