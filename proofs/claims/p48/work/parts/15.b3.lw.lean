set_option maxRecDepth 20000 in
theorem qLw17 : GoodIn lw_tb3 wsL_law0_r17 := goodIn_p wsL_law0_r17 [514, 520, 522, 526, 529, 532, 609] (by decide +kernel) (by decide +kernel)
set_option maxRecDepth 20000 in
theorem qLw18 : GoodIn lw_tb3 wsL_law0_r18 := goodIn_p wsL_law0_r18 [612, 615, 619, 721, 729] (by decide +kernel) (by decide +kernel)
set_option maxRecDepth 20000 in
theorem qLw19 : GoodIn lw_tb3 wsL_law0_r19 := goodIn_p wsL_law0_r19 [737, 741, 744, 748, 756] (by decide +kernel) (by decide +kernel)
set_option maxRecDepth 20000 in
theorem qLw20 : GoodIn lw_tb3 wsL_law0_r20 := goodIn_p wsL_law0_r20 [776, 780, 784, 789, 793] (by decide +kernel) (by decide +kernel)
set_option maxRecDepth 20000 in
theorem qLw21 : GoodIn lw_tb3 wsL_law0_r21 := goodIn_p wsL_law0_r21 [797, 801, 805, 810, 814] (by decide +kernel) (by decide +kernel)
set_option maxRecDepth 20000 in
theorem qLw22 : GoodIn lw_tb3 wsL_law0_r22 := goodIn_p wsL_law0_r22 [826, 830, 834, 838, 842, 846] (by decide +kernel) (by decide +kernel)
set_option maxRecDepth 20000 in
theorem qLw23 : GoodIn lw_tb3 wsL_law0_r23 := goodIn_p wsL_law0_r23 [852, 860, 865, 869, 873, 877] (by decide +kernel) (by decide +kernel)
set_option maxRecDepth 20000 in
theorem qLw24 : GoodIn lw_tb3 wsL_law0_r24 := goodIn_p wsL_law0_r24 [882, 887, 891, 895, 899] (by decide +kernel) (by decide +kernel)
