set_option maxRecDepth 20000 in
theorem qLw9 : GoodIn lw_tb3 wsL_law0_r9 := goodIn_p wsL_law0_r9 [380, 384, 394, 402] (by decide +kernel) (by decide +kernel)
set_option maxRecDepth 20000 in
theorem qLw10 : GoodIn lw_tb3 wsL_law0_r10 := goodIn_p wsL_law0_r10 [644, 647, 650, 679, 357] (by decide +kernel) (by decide +kernel)
set_option maxRecDepth 20000 in
theorem qLw11 : GoodIn lw_tb3 wsL_law0_r11 := goodIn_p wsL_law0_r11 [360, 364, 405, 408, 411, 414] (by decide +kernel) (by decide +kernel)
set_option maxRecDepth 20000 in
theorem qLw12 : GoodIn lw_tb3 wsL_law0_r12 := goodIn_p wsL_law0_r12 [419, 422, 432, 436, 441] (by decide +kernel) (by decide +kernel)
set_option maxRecDepth 20000 in
theorem qLw13 : GoodIn lw_tb3 wsL_law0_r13 := goodIn_p wsL_law0_r13 [445, 450, 453, 456, 459, 462, 465] (by decide +kernel) (by decide +kernel)
set_option maxRecDepth 20000 in
theorem qLw14 : GoodIn lw_tb3 wsL_law0_r14 := goodIn_p wsL_law0_r14 [469, 475, 478, 481, 484] (by decide +kernel) (by decide +kernel)
set_option maxRecDepth 20000 in
theorem qLw15 : GoodIn lw_tb3 wsL_law0_r15 := goodIn_p wsL_law0_r15 [491, 494, 687, 690, 693, 696, 699] (by decide +kernel) (by decide +kernel)
set_option maxRecDepth 20000 in
theorem qLw16 : GoodIn lw_tb3 wsL_law0_r16 := goodIn_p wsL_law0_r16 [702, 705, 500, 505, 508] (by decide +kernel) (by decide +kernel)
