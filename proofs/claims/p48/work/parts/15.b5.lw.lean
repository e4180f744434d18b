set_option maxRecDepth 20000 in
theorem qLw33 : GoodIn lw_tb3 wsL_law0_r33 := goodIn_p wsL_law0_r33 [1098, 1103, 1111, 1115, 1119] rfl (by decide +kernel)
set_option maxRecDepth 20000 in
theorem qLw34 : GoodIn lw_tb3 wsL_law0_r34 := goodIn_p wsL_law0_r34 [1124, 1131, 1136, 1140, 1144] rfl (by decide +kernel)
set_option maxRecDepth 20000 in
theorem qLw35 : GoodIn lw_tb3 wsL_law0_r35 := goodIn_p wsL_law0_r35 [1148, 1152, 1156, 1161, 1166, 1170] rfl (by decide +kernel)
set_option maxRecDepth 20000 in
theorem qLw36 : GoodIn lw_tb3 wsL_law0_r36 := goodIn_p wsL_law0_r36 [1177, 1181, 1188, 1196] rfl (by decide +kernel)
set_option maxRecDepth 20000 in
theorem qLw37 : GoodIn lw_tb3 wsL_law0_r37 := goodIn_p wsL_law0_r37 [1201, 1208, 1213, 1220] rfl (by decide +kernel)
set_option maxRecDepth 20000 in
theorem qLw38 : GoodIn lw_tb3 wsL_law0_r38 := goodIn_p wsL_law0_r38 [1224, 1231, 1235, 1239, 1243] rfl (by decide +kernel)
set_option maxRecDepth 20000 in
theorem qLw39 : GoodIn lw_tb3 wsL_law0_r39 := goodIn_p wsL_law0_r39 [1251] rfl (by decide +kernel)
