set_option maxRecDepth 20000 in
theorem qLw1 : GoodIn lw_tb3 wsL_law0_r1 := goodIn_p wsL_law0_r1 [78, 81, 86] (by decide +kernel) (by decide +kernel)
set_option maxRecDepth 20000 in
theorem qLw2 : GoodIn lw_tb3 wsL_law0_r2 := goodIn_p wsL_law0_r2 [92] (by decide +kernel) (by decide +kernel)
set_option maxRecDepth 20000 in
theorem qLw3 : GoodIn lw_tb3 wsL_law0_r3 := goodIn_p wsL_law0_r3 [149, 169] (by decide +kernel) (by decide +kernel)
set_option maxRecDepth 20000 in
theorem qLw4 : GoodIn lw_tb3 wsL_law0_r4 := goodIn_p wsL_law0_r4 [210, 214, 218, 222] (by decide +kernel) (by decide +kernel)
set_option maxRecDepth 20000 in
theorem qLw5 : GoodIn lw_tb3 wsL_law0_r5 := goodIn_p wsL_law0_r5 [226, 230, 234, 238, 241, 274, 277] (by decide +kernel) (by decide +kernel)
set_option maxRecDepth 20000 in
theorem qLw6 : GoodIn lw_tb3 wsL_law0_r6 := goodIn_p wsL_law0_r6 [283, 286, 319, 323] (by decide +kernel) (by decide +kernel)
set_option maxRecDepth 20000 in
theorem qLw7 : GoodIn lw_tb3 wsL_law0_r7 := goodIn_p wsL_law0_r7 [327, 330, 333, 342, 345] (by decide +kernel) (by decide +kernel)
set_option maxRecDepth 20000 in
theorem qLw8 : GoodIn lw_tb3 wsL_law0_r8 := goodIn_p wsL_law0_r8 [368, 372, 375] (by decide +kernel) (by decide +kernel)
