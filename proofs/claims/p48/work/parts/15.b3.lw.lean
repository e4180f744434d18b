set_option maxRecDepth 20000 in
theorem qLw17 : GoodIn lw_tb3 wsL_law0_r17 := goodIn_p wsL_law0_r17 [508, 514, 516, 520, 523, 526, 603] (by decide +kernel) (by decide +kernel)
set_option maxRecDepth 20000 in
theorem qLw18 : GoodIn lw_tb3 wsL_law0_r18 := goodIn_p wsL_law0_r18 [606, 609, 613, 715, 723] (by decide +kernel) (by decide +kernel)
set_option maxRecDepth 20000 in
theorem qLw19 : GoodIn lw_tb3 wsL_law0_r19 := goodIn_p wsL_law0_r19 [731, 735, 738, 742, 750] (by decide +kernel) (by decide +kernel)
set_option maxRecDepth 20000 in
theorem qLw20 : GoodIn lw_tb3 wsL_law0_r20 := goodIn_p wsL_law0_r20 [770, 774, 778, 783, 787] (by decide +kernel) (by decide +kernel)
set_option maxRecDepth 20000 in
theorem qLw21 : GoodIn lw_tb3 wsL_law0_r21 := goodIn_p wsL_law0_r21 [791, 795, 799, 804, 808] (by decide +kernel) (by decide +kernel)
set_option maxRecDepth 20000 in
theorem qLw22 : GoodIn lw_tb3 wsL_law0_r22 := goodIn_p wsL_law0_r22 [820, 824, 828, 832, 836, 840] (by decide +kernel) (by decide +kernel)
set_option maxRecDepth 20000 in
theorem qLw23 : GoodIn lw_tb3 wsL_law0_r23 := goodIn_p wsL_law0_r23 [846, 854, 859, 863, 867, 871] (by decide +kernel) (by decide +kernel)
set_option maxRecDepth 20000 in
theorem qLw24 : GoodIn lw_tb3 wsL_law0_r24 := goodIn_p wsL_law0_r24 [876, 881, 885, 889, 893] (by decide +kernel) (by decide +kernel)
