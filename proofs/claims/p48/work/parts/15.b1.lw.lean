set_option maxRecDepth 20000 in
theorem qLw1 : GoodIn lw_tb3 wsL_law0_r1 := goodIn_p wsL_law0_r1 [72, 75, 80] (by decide +kernel) (by decide +kernel)
set_option maxRecDepth 20000 in
theorem qLw2 : GoodIn lw_tb3 wsL_law0_r2 := goodIn_p wsL_law0_r2 [86] (by decide +kernel) (by decide +kernel)
set_option maxRecDepth 20000 in
theorem qLw3 : GoodIn lw_tb3 wsL_law0_r3 := goodIn_p wsL_law0_r3 [143, 163] (by decide +kernel) (by decide +kernel)
set_option maxRecDepth 20000 in
theorem qLw4 : GoodIn lw_tb3 wsL_law0_r4 := goodIn_p wsL_law0_r4 [204, 208, 212, 216] (by decide +kernel) (by decide +kernel)
set_option maxRecDepth 20000 in
theorem qLw5 : GoodIn lw_tb3 wsL_law0_r5 := goodIn_p wsL_law0_r5 [220, 224, 228, 232, 235, 268, 271] (by decide +kernel) (by decide +kernel)
set_option maxRecDepth 20000 in
theorem qLw6 : GoodIn lw_tb3 wsL_law0_r6 := goodIn_p wsL_law0_r6 [277, 280, 313, 317] (by decide +kernel) (by decide +kernel)
set_option maxRecDepth 20000 in
theorem qLw7 : GoodIn lw_tb3 wsL_law0_r7 := goodIn_p wsL_law0_r7 [321, 324, 327, 336, 339] (by decide +kernel) (by decide +kernel)
set_option maxRecDepth 20000 in
theorem qLw8 : GoodIn lw_tb3 wsL_law0_r8 := goodIn_p wsL_law0_r8 [362, 366, 369] (by decide +kernel) (by decide +kernel)
