set_option maxRecDepth 20000 in
theorem qLw9 : GoodIn lw_tb3 wsL_law0_r9 := goodIn_p wsL_law0_r9 [374, 378, 388, 396] (by decide +kernel) (by decide +kernel)
set_option maxRecDepth 20000 in
theorem qLw10 : GoodIn lw_tb3 wsL_law0_r10 := goodIn_p wsL_law0_r10 [638, 641, 644, 673, 351] (by decide +kernel) (by decide +kernel)
set_option maxRecDepth 20000 in
theorem qLw11 : GoodIn lw_tb3 wsL_law0_r11 := goodIn_p wsL_law0_r11 [354, 358, 399, 402, 405, 408] (by decide +kernel) (by decide +kernel)
set_option maxRecDepth 20000 in
theorem qLw12 : GoodIn lw_tb3 wsL_law0_r12 := goodIn_p wsL_law0_r12 [413, 416, 426, 430, 435] (by decide +kernel) (by decide +kernel)
set_option maxRecDepth 20000 in
theorem qLw13 : GoodIn lw_tb3 wsL_law0_r13 := goodIn_p wsL_law0_r13 [439, 444, 447, 450, 453, 456, 459] (by decide +kernel) (by decide +kernel)
set_option maxRecDepth 20000 in
theorem qLw14 : GoodIn lw_tb3 wsL_law0_r14 := goodIn_p wsL_law0_r14 [463, 469, 472, 475, 478] (by decide +kernel) (by decide +kernel)
set_option maxRecDepth 20000 in
theorem qLw15 : GoodIn lw_tb3 wsL_law0_r15 := goodIn_p wsL_law0_r15 [485, 488, 681, 684, 687, 690, 693] (by decide +kernel) (by decide +kernel)
set_option maxRecDepth 20000 in
theorem qLw16 : GoodIn lw_tb3 wsL_law0_r16 := goodIn_p wsL_law0_r16 [696, 699, 494, 499, 502] (by decide +kernel) (by decide +kernel)
