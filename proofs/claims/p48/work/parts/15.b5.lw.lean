set_option maxRecDepth 20000 in
theorem qLw33 : GoodIn lw_tb3 wsL_law0_r33 := goodIn_p wsL_law0_r33 [1104, 1109, 1117, 1121, 1125] (by decide +kernel) (by decide +kernel)
set_option maxRecDepth 20000 in
theorem qLw34 : GoodIn lw_tb3 wsL_law0_r34 := goodIn_p wsL_law0_r34 [1130, 1137, 1142, 1146, 1150] (by decide +kernel) (by decide +kernel)
set_option maxRecDepth 20000 in
theorem qLw35 : GoodIn lw_tb3 wsL_law0_r35 := goodIn_p wsL_law0_r35 [1154, 1158, 1162, 1167, 1172, 1176] (by decide +kernel) (by decide +kernel)
set_option maxRecDepth 20000 in
theorem qLw36 : GoodIn lw_tb3 wsL_law0_r36 := goodIn_p wsL_law0_r36 [1183, 1187, 1194, 1202] (by decide +kernel) (by decide +kernel)
set_option maxRecDepth 20000 in
theorem qLw37 : GoodIn lw_tb3 wsL_law0_r37 := goodIn_p wsL_law0_r37 [1207, 1214, 1219, 1226] (by decide +kernel) (by decide +kernel)
set_option maxRecDepth 20000 in
theorem qLw38 : GoodIn lw_tb3 wsL_law0_r38 := goodIn_p wsL_law0_r38 [1230, 1237, 1241, 1245, 1249] (by decide +kernel) (by decide +kernel)
set_option maxRecDepth 20000 in
theorem qLw39 : GoodIn lw_tb3 wsL_law0_r39 := goodIn_p wsL_law0_r39 [1257] (by decide +kernel) (by decide +kernel)
