set_option maxRecDepth 20000 in
theorem qLw1 : GoodIn lw_tbl wsL_law0_r1 := goodIn_p wsL_law0_r1 [153, 156] (by decide +kernel) (by decide +kernel)
set_option maxRecDepth 20000 in
theorem qLw2 : GoodIn lw_tbl wsL_law0_r2 := goodIn_p wsL_law0_r2 [161] (by decide +kernel) (by decide +kernel)
set_option maxRecDepth 20000 in
theorem qLw3 : GoodIn lw_tbl wsL_law0_r3 := goodIn_p wsL_law0_r3 [219, 239] (by decide +kernel) (by decide +kernel)
set_option maxRecDepth 20000 in
theorem qLw4 : GoodIn lw_tbl wsL_law0_r4 := goodIn_p wsL_law0_r4 [283, 287, 291, 295, 299, 303] (by decide +kernel) (by decide +kernel)
set_option maxRecDepth 20000 in
theorem qLw5 : GoodIn lw_tbl wsL_law0_r5 := goodIn_p wsL_law0_r5 [307, 311, 314, 1086] (by decide +kernel) (by decide +kernel)
set_option maxRecDepth 20000 in
theorem qLw6 : GoodIn lw_tbl wsL_law0_r6 := goodIn_p wsL_law0_r6 [1091, 1095, 773, 844] (by decide +kernel) (by decide +kernel)
set_option maxRecDepth 20000 in
theorem qLw7 : GoodIn lw_tbl wsL_law0_r7 := goodIn_p wsL_law0_r7 [1173, 1177, 1169, 852] (by decide +kernel) (by decide +kernel)
set_option maxRecDepth 20000 in
theorem qLw8 : GoodIn lw_tbl wsL_law0_r8 := goodIn_p wsL_law0_r8 [1181, 1184, 346, 350, 355] (by decide +kernel) (by decide +kernel)
set_option maxRecDepth 20000 in
theorem qLw9 : GoodIn lw_tbl wsL_law0_r9 := goodIn_p wsL_law0_r9 [359, 363, 367, 371, 376, 380] (by decide +kernel) (by decide +kernel)
set_option maxRecDepth 20000 in
theorem qLw10 : GoodIn lw_tbl wsL_law0_r10 := goodIn_p wsL_law0_r10 [384, 389, 393, 397, 400, 403] (by decide +kernel) (by decide +kernel)
set_option maxRecDepth 20000 in
theorem qLw11 : GoodIn lw_tbl wsL_law0_r11 := goodIn_p wsL_law0_r11 [408, 411, 414, 417, 421] (by decide +kernel) (by decide +kernel)
set_option maxRecDepth 20000 in
theorem qLw12 : GoodIn lw_tbl wsL_law0_r12 := goodIn_p wsL_law0_r12 [438, 442, 446, 450, 454, 458] (by decide +kernel) (by decide +kernel)
set_option maxRecDepth 20000 in
theorem qLw13 : GoodIn lw_tbl wsL_law0_r13 := goodIn_p wsL_law0_r13 [464, 472, 477, 481, 485, 489] (by decide +kernel) (by decide +kernel)
set_option maxRecDepth 20000 in
theorem qLw14 : GoodIn lw_tbl wsL_law0_r14 := goodIn_p wsL_law0_r14 [494, 501, 1188, 1191] (by decide +kernel) (by decide +kernel)
