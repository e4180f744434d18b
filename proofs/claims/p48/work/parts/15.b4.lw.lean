set_option maxRecDepth 20000 in
theorem qLw25 : GoodIn lw_tb3 wsL_law0_r25 := goodIn_p wsL_law0_r25 [901, 906, 995, 913] rfl (by decide +kernel)
set_option maxRecDepth 20000 in
theorem qLw26 : GoodIn lw_tb3 wsL_law0_r26 := goodIn_p wsL_law0_r26 [921, 938, 945, 950] rfl (by decide +kernel)
set_option maxRecDepth 20000 in
theorem qLw27 : GoodIn lw_tb3 wsL_law0_r27 := goodIn_p wsL_law0_r27 [957, 965, 969, 974] rfl (by decide +kernel)
set_option maxRecDepth 20000 in
theorem qLw28 : GoodIn lw_tb3 wsL_law0_r28 := goodIn_p wsL_law0_r28 [982, 991, 999] rfl (by decide +kernel)
set_option maxRecDepth 20000 in
theorem qLw29 : GoodIn lw_tb3 wsL_law0_r29 := goodIn_p wsL_law0_r29 [1003, 1007, 1011, 1015, 1022] rfl (by decide +kernel)
set_option maxRecDepth 20000 in
theorem qLw30 : GoodIn lw_tb3 wsL_law0_r30 := goodIn_p wsL_law0_r30 [1027, 1031, 1035, 1039, 1047] rfl (by decide +kernel)
set_option maxRecDepth 20000 in
theorem qLw31 : GoodIn lw_tb3 wsL_law0_r31 := goodIn_p wsL_law0_r31 [1051, 1055, 1061, 1065, 1072] rfl (by decide +kernel)
set_option maxRecDepth 20000 in
theorem qLw32 : GoodIn lw_tb3 wsL_law0_r32 := goodIn_p wsL_law0_r32 [1076, 1080, 1085, 1089] rfl (by decide +kernel)
