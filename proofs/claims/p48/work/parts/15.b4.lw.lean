set_option maxRecDepth 20000 in
theorem qLw25 : GoodIn lw_tb3 wsL_law0_r25 := goodIn_p wsL_law0_r25 [907, 912, 1001, 919] (by decide +kernel) (by decide +kernel)
set_option maxRecDepth 20000 in
theorem qLw26 : GoodIn lw_tb3 wsL_law0_r26 := goodIn_p wsL_law0_r26 [927, 944, 951, 956] (by decide +kernel) (by decide +kernel)
set_option maxRecDepth 20000 in
theorem qLw27 : GoodIn lw_tb3 wsL_law0_r27 := goodIn_p wsL_law0_r27 [963, 971, 975, 980] (by decide +kernel) (by decide +kernel)
set_option maxRecDepth 20000 in
theorem qLw28 : GoodIn lw_tb3 wsL_law0_r28 := goodIn_p wsL_law0_r28 [988, 997, 1005] (by decide +kernel) (by decide +kernel)
set_option maxRecDepth 20000 in
theorem qLw29 : GoodIn lw_tb3 wsL_law0_r29 := goodIn_p wsL_law0_r29 [1009, 1013, 1017, 1021, 1028] (by decide +kernel) (by decide +kernel)
set_option maxRecDepth 20000 in
theorem qLw30 : GoodIn lw_tb3 wsL_law0_r30 := goodIn_p wsL_law0_r30 [1033, 1037, 1041, 1045, 1053] (by decide +kernel) (by decide +kernel)
set_option maxRecDepth 20000 in
theorem qLw31 : GoodIn lw_tb3 wsL_law0_r31 := goodIn_p wsL_law0_r31 [1057, 1061, 1067, 1071, 1078] (by decide +kernel) (by decide +kernel)
set_option maxRecDepth 20000 in
theorem qLw32 : GoodIn lw_tb3 wsL_law0_r32 := goodIn_p wsL_law0_r32 [1082, 1086, 1091, 1095] (by decide +kernel) (by decide +kernel)
