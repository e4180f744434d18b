set_option maxRecDepth 20000 in
theorem ggL_comes_L_draw : GoodIn wsL_comes wsL_draw := goodIn_r _ [6, 7, 8, 9, 10, 11, 12, 13, 14, 15, 16, 17, 5, 18, 19, 20, 242, 243, 244, 245] (by decide +kernel) (by decide +kernel)
set_option maxRecDepth 20000 in
theorem gL_comes_L_draw : GoodIn wsL_comes (wsV RL 139 RL yL_draw wsL_draw) := goodIn_app (goodIn_of _ (by decide +kernel)) ggL_comes_L_draw
set_option maxRecDepth 20000 in
theorem ggL_comes_L_boardIn : GoodIn wsL_comes wsL_boardIn := goodIn_ca (goodIn_r _ [23, 24, 25, 26, 27, 28, 29, 30, 31, 32, 33, 34, 35, 36, 37, 38, 39, 40, 41, 42, 43, 44, 45, 46, 47, 48, 49, 50, 51, 52, 53, 54, 55, 56, 57, 58, 59, 60, 61, 62, 63, 64, 65, 66, 67, 68, 69, 70, 71, 72, 73, 74, 75, 76, 77, 78, 79, 80, 81, 82, 83, 84, 85, 86, 87, 88, 89, 90, 91, 92, 93, 94, 95, 96, 97, 98, 99, 100, 101, 102, 103, 104, 105, 106, 107, 108, 109, 110, 111, 112, 113, 114, 115, 116, 117, 118, 119, 120, 121, 122, 123, 124, 125, 126, 127, 128, 129, 130, 131, 132, 133, 134, 135, 136, 137, 138, 139, 140, 141, 142, 143, 246, 247, 248, 249, 250, 251, 252, 253, 254, 255, 256, 257, 258, 259, 260, 261, 262, 263, 264, 265, 266, 267] (by decide +kernel) (by decide +kernel)) (goodIn_sub (fun _ h => List.mem_cons_of_mem _ (List.mem_append_left _ (List.mem_append_left _ (List.mem_append_right _ h)))) (by decide +kernel))
set_option maxRecDepth 20000 in
theorem gL_comes_L_boardIn : GoodIn wsL_comes (va_wsS RL 237 yL_boardIn wsL_boardIn) := goodIn_app (goodIn_of _ (by decide +kernel)) ggL_comes_L_boardIn
set_option maxRecDepth 20000 in
theorem ggL_comes_L_easyIn : GoodIn wsL_comes wsL_easyIn := goodIn_ca (goodIn_r _ [146, 147, 148, 149, 150, 28, 151, 152, 153, 32, 33, 154, 155, 34, 35, 36, 37, 38, 39, 40, 41, 42, 43, 44, 45, 46, 47, 48, 49, 50, 51, 52, 53, 54, 55, 156, 99, 100, 101, 56, 57, 58, 59, 60, 61, 62, 63, 64, 65, 66, 67, 68, 69, 70, 71, 72, 73, 74, 75, 76, 77, 78, 79, 80, 81, 82, 83, 84, 85, 86, 87, 88, 89, 90, 91, 92, 93, 94, 95, 96, 97, 98, 102, 103, 104, 105, 106, 107, 108, 109, 110, 111, 112, 113, 114, 115, 116, 117, 118, 119, 120, 121, 122, 123, 124, 125, 126, 127, 128, 129, 130, 131, 132, 133, 134, 135, 136, 137, 138, 139, 140, 141, 142, 143, 246, 247, 248, 249, 250, 251, 252, 253, 254, 255, 256, 257, 258, 259, 260, 261, 262, 263, 264, 265, 266, 267] (by decide +kernel) (by decide +kernel)) (goodIn_sub (fun _ h => List.mem_cons_of_mem _ (List.mem_append_left _ (List.mem_append_right _ h))) (by decide +kernel))
set_option maxRecDepth 20000 in
theorem gL_comes_L_easyIn : GoodIn wsL_comes (va_wsS RL 251 yL_easyIn wsL_easyIn) := goodIn_app (goodIn_of _ (by decide +kernel)) ggL_comes_L_easyIn
set_option maxRecDepth 20000 in
theorem ggL_comes_X9_startIn : GoodIn wsL_comes wsX9_startIn := goodIn_r _ [160, 32, 33, 161, 34, 35, 36, 37, 38, 39, 40, 41, 42, 43, 44, 45, 46, 47, 48, 49, 50, 51, 52, 53, 54, 55, 56, 57, 58, 59, 60, 61, 62, 63, 64, 65, 66, 67, 68, 69, 70, 71, 72, 73, 74, 75, 76, 28, 77, 78, 79, 80, 81, 82, 83, 84, 85, 86, 87, 88, 89, 90, 91, 92, 93, 94, 95, 96, 97, 98, 99, 100, 101, 102, 103, 104, 105, 106, 107, 108, 109, 110, 111, 112, 113, 114, 115, 116, 117, 118, 119, 120, 121, 122, 123, 124, 125, 126, 127, 128, 129, 130, 131, 132, 133, 134, 135, 136, 137, 138, 139, 140, 141, 142, 143, 246, 247, 248, 249, 250, 251, 252, 253, 254, 255, 256, 257, 258, 259, 260, 261, 262, 263, 264, 265, 266, 267] (by decide +kernel) (by decide +kernel)
set_option maxRecDepth 20000 in
theorem gL_comes_X9_startIn : GoodIn wsL_comes (wsV RL 234 RX9 yX9_startIn wsX9_startIn) := goodIn_app (goodIn_of _ (by decide +kernel)) ggL_comes_X9_startIn
set_option maxRecDepth 20000 in
theorem ggL_comes_L_count : GoodIn wsL_comes wsL_count := goodIn_ca (goodIn_r _ [164, 24, 165, 166, 167, 28, 168, 30, 31, 169, 170, 33, 161, 246, 247, 248, 249, 250, 251, 252, 253, 254, 268, 269, 270, 255, 256, 257, 258, 259, 260, 261, 262, 263, 264, 265, 266, 267] (by decide +kernel) (by decide +kernel)) (goodIn_sub (fun _ h => List.mem_cons_of_mem _ (List.mem_append_left _ (List.mem_append_left _ (List.mem_append_right _ h)))) (by decide +kernel))
set_option maxRecDepth 20000 in
theorem gL_comes_L_count : GoodIn wsL_comes (va_wsS RL 196 yL_count wsL_count) := goodIn_app (goodIn_of _ (by decide +kernel)) ggL_comes_L_count
set_option maxRecDepth 20000 in
theorem ggL_comes_L_save : GoodIn wsL_comes wsL_save := goodIn_ca (goodIn_r _ [173, 24, 174, 175, 176, 28, 177, 30, 31, 178, 33, 179, 34, 35, 36, 37, 38, 39, 40, 41, 42, 43, 44, 45, 46, 47, 48, 49, 50, 51, 52, 53, 54, 55, 246, 247, 248, 249, 250, 251, 252, 253, 254, 255, 256, 257, 258, 259, 260, 261, 262, 263, 264, 265, 266, 267] (by decide +kernel) (by decide +kernel)) (goodIn_sub (fun _ h => List.mem_cons_of_mem _ (List.mem_append_left _ (List.mem_append_left _ (List.mem_append_right _ h)))) (by decide +kernel))
set_option maxRecDepth 20000 in
theorem gL_comes_L_save : GoodIn wsL_comes (va_wsS RL 253 yL_save wsL_save) := goodIn_app (goodIn_of _ (by decide +kernel)) ggL_comes_L_save
set_option maxRecDepth 20000 in
theorem ggL_comes_X9_slope : GoodIn wsL_comes wsX9_slope := goodIn_r _ [183, 33, 154, 246, 247, 248, 249, 250, 251, 252, 253, 254, 255, 256, 257, 258, 259, 260, 261, 262, 263, 264, 265, 266, 267] (by decide +kernel) (by decide +kernel)
set_option maxRecDepth 20000 in
theorem gL_comes_X9_slope : GoodIn wsL_comes (wsV RL 220 RX9 yX9_slope wsX9_slope) := goodIn_app (goodIn_of _ (by decide +kernel)) ggL_comes_X9_slope
set_option maxRecDepth 20000 in
theorem ggL_comes_L_kind : GoodIn wsL_comes wsL_kind := goodIn_ca (goodIn_ca (goodIn_r _ [186, 147, 24, 187, 188, 189, 28, 190, 152, 153, 30, 31, 33, 156, 99, 100, 37, 101, 45, 246, 247, 248, 249, 250, 251, 252, 253, 254, 255, 256, 257, 258, 259, 260, 261, 262, 263, 264, 265, 266, 267] (by decide +kernel) (by decide +kernel)) (goodIn_sub (fun _ h => List.mem_cons_of_mem _ (List.mem_append_left _ (List.mem_append_right _ h))) (by decide +kernel))) (goodIn_sub (fun _ h => List.mem_cons_of_mem _ (List.mem_append_left _ (List.mem_append_left _ (List.mem_append_right _ h)))) (by decide +kernel))
set_option maxRecDepth 20000 in
theorem gL_comes_L_kind : GoodIn wsL_comes (va_wsS RL 203 yL_kind wsL_kind) := goodIn_app (goodIn_of _ (by decide +kernel)) ggL_comes_L_kind
set_option maxRecDepth 20000 in
theorem ggL_comes_X9_lip : GoodIn wsL_comes wsX9_lip := goodIn_r _ [194, 33, 155, 246, 247, 248, 249, 250, 251, 252, 253, 254, 255, 256, 257, 258, 259, 260, 261, 262, 263, 264, 265, 266, 267] (by decide +kernel) (by decide +kernel)
set_option maxRecDepth 20000 in
theorem gL_comes_X9_lip : GoodIn wsL_comes (wsV RL 190 RX9 yX9_lip wsX9_lip) := goodIn_app (goodIn_of _ (by decide +kernel)) ggL_comes_X9_lip
set_option maxRecDepth 20000 in
theorem ggL_comes_L_tick : GoodIn wsL_comes wsL_tick := goodIn_ca (goodIn_r _ [197, 24, 198, 199, 200, 28, 201, 30, 31, 202, 203, 204, 205, 33, 206, 207, 208, 209, 169, 210, 211, 212, 213, 214, 215, 216, 217, 218, 219, 35, 36, 37, 38, 39, 40, 41, 42, 43, 44, 45, 46, 47, 48, 49, 50, 51, 52, 53, 54, 55, 56, 57, 58, 59, 60, 61, 62, 63, 64, 65, 66, 67, 68, 69, 70, 71, 72, 73, 74, 75, 76, 77, 78, 79, 80, 81, 82, 83, 84, 85, 86, 87, 88, 89, 90, 91, 92, 93, 94, 95, 96, 97, 98, 99, 100, 101, 102, 103, 104, 105, 106, 107, 108, 109, 110, 111, 112, 113, 114, 115, 116, 117, 118, 119, 120, 121, 122, 123, 124, 125, 126, 127, 128, 129, 130, 131, 132, 133, 134, 135, 136, 137, 138, 139, 140, 141, 142, 143, 246, 247, 248, 249, 250, 251, 252, 253, 254, 268, 269, 270, 255, 256, 257, 258, 259, 260, 261, 262, 263, 264, 265, 266, 267] (by decide +kernel) (by decide +kernel)) (goodIn_sub (fun _ h => List.mem_cons_of_mem _ (List.mem_append_left _ (List.mem_append_left _ (List.mem_append_right _ h)))) (by decide +kernel))
set_option maxRecDepth 20000 in
theorem gL_comes_L_tick : GoodIn wsL_comes (va_wsS RL 242 yL_tick wsL_tick) := goodIn_app (goodIn_of _ (by decide +kernel)) ggL_comes_L_tick
set_option maxRecDepth 20000 in
theorem ggL_comes_L_restore : GoodIn wsL_comes wsL_restore := goodIn_ca (goodIn_ca (goodIn_r _ [222, 24, 223, 224, 225, 226, 28, 227, 30, 31, 228, 229, 178, 179, 33, 169, 34, 35, 36, 37, 38, 39, 40, 41, 42, 43, 44, 45, 46, 47, 48, 49, 50, 51, 52, 53, 54, 55, 230, 231, 232, 214, 233, 218, 246, 247, 248, 249, 250, 251, 252, 253, 254, 255, 256, 257, 258, 259, 260, 261, 262, 263, 264, 265, 266, 267, 268, 269, 270] (by decide +kernel) (by decide +kernel)) (goodIn_sub (fun _ h => List.mem_cons_of_mem _ (List.mem_append_left _ (List.mem_append_left _ (List.mem_append_right _ h)))) (by decide +kernel))) (goodIn_sub (fun _ h => List.mem_cons_of_mem _ (List.mem_append_right _ h)) (by decide +kernel))
set_option maxRecDepth 20000 in
theorem gL_comes_L_restore : GoodIn wsL_comes (va_wsS RL 255 yL_restore wsL_restore) := goodIn_app (goodIn_of _ (by decide +kernel)) ggL_comes_L_restore
set_option maxRecDepth 20000 in
theorem ggL_comes_L_car : GoodIn wsL_comes wsL_car := goodIn_ca (goodIn_ca (goodIn_r _ [236, 147, 24, 237, 238, 239, 28, 240, 152, 153, 30, 31, 33, 161, 241, 95, 96, 37, 97, 46, 246, 247, 248, 249, 250, 251, 252, 253, 254, 255, 256, 257, 258, 259, 260, 261, 262, 263, 264, 265, 266, 267] (by decide +kernel) (by decide +kernel)) (goodIn_sub (fun _ h => List.mem_cons_of_mem _ (List.mem_append_left _ (List.mem_append_right _ h))) (by decide +kernel))) (goodIn_sub (fun _ h => List.mem_cons_of_mem _ (List.mem_append_left _ (List.mem_append_left _ (List.mem_append_right _ h)))) (by decide +kernel))
set_option maxRecDepth 20000 in
theorem gL_comes_L_car : GoodIn wsL_comes (va_wsS RL 200 yL_car wsL_car) := goodIn_app (goodIn_of _ (by decide +kernel)) ggL_comes_L_car
theorem dL_comes_0 : decode cL_comes 0 = .ok (.iconst 1, 1) := by decide +kernel
theorem dL_comes_1 : decode cL_comes 1 = .ok (.aload_n 0, 1) := by decide +kernel
theorem dL_comes_2 : decode cL_comes 2 = .ok (.bipush 30, 2) := by decide +kernel
theorem dL_comes_4 : decode cL_comes 4 = .ok (.invokevirtual 139, 3) := by decide +kernel
theorem dL_comes_7 : decode cL_comes 7 = .ok (.iadd, 1) := by decide +kernel
theorem dL_comes_8 : decode cL_comes 8 = .ok (.istore_n 1, 1) := by decide +kernel
theorem dL_comes_9 : decode cL_comes 9 = .ok (.aload_n 0, 1) := by decide +kernel
theorem dL_comes_10 : decode cL_comes 10 = .ok (.getfield 10, 3) := by decide +kernel
theorem dL_comes_13 : decode cL_comes 13 = .ok (.iload_n 1, 1) := by decide +kernel
theorem dL_comes_14 : decode cL_comes 14 = .ok (.invokestatic 237, 3) := by decide +kernel
theorem dL_comes_17 : decode cL_comes 17 = .ok (.istore_n 2, 1) := by decide +kernel
theorem dL_comes_18 : decode cL_comes 18 = .ok (.aload_n 0, 1) := by decide +kernel
theorem dL_comes_19 : decode cL_comes 19 = .ok (.iconst 4, 1) := by decide +kernel
theorem dL_comes_20 : decode cL_comes 20 = .ok (.invokevirtual 139, 3) := by decide +kernel
theorem dL_comes_23 : decode cL_comes 23 = .ok (.istore_n 3, 1) := by decide +kernel
theorem dL_comes_24 : decode cL_comes 24 = .ok (.aload_n 0, 1) := by decide +kernel
theorem dL_comes_25 : decode cL_comes 25 = .ok (.getfield 10, 3) := by decide +kernel
theorem dL_comes_28 : decode cL_comes 28 = .ok (.iload_n 3, 1) := by decide +kernel
theorem dL_comes_29 : decode cL_comes 29 = .ok (.invokestatic 251, 3) := by decide +kernel
theorem dL_comes_32 : decode cL_comes 32 = .ok (.istore 4, 2) := by decide +kernel
theorem dL_comes_34 : decode cL_comes 34 = .ok (.aload_n 0, 1) := by decide +kernel
theorem dL_comes_35 : decode cL_comes 35 = .ok (.getfield 10, 3) := by decide +kernel
theorem dL_comes_38 : decode cL_comes 38 = .ok (.invokevirtual 234, 3) := by decide +kernel
theorem dL_comes_41 : decode cL_comes 41 = .ok (.istore 5, 2) := by decide +kernel
theorem dL_comes_43 : decode cL_comes 43 = .ok (.aload_n 0, 1) := by decide +kernel
theorem dL_comes_44 : decode cL_comes 44 = .ok (.getfield 10, 3) := by decide +kernel
theorem dL_comes_47 : decode cL_comes 47 = .ok (.bipush 8, 2) := by decide +kernel
theorem dL_comes_49 : decode cL_comes 49 = .ok (.invokestatic 196, 3) := by decide +kernel
theorem dL_comes_52 : decode cL_comes 52 = .ok (.istore 6, 2) := by decide +kernel
theorem dL_comes_54 : decode cL_comes 54 = .ok (.aload_n 0, 1) := by decide +kernel
theorem dL_comes_55 : decode cL_comes 55 = .ok (.getfield 10, 3) := by decide +kernel
theorem dL_comes_58 : decode cL_comes 58 = .ok (.iconst 0, 1) := by decide +kernel
theorem dL_comes_59 : decode cL_comes 59 = .ok (.invokestatic 253, 3) := by decide +kernel
theorem dL_comes_62 : decode cL_comes 62 = .ok (.ifCond .eq 5, 3) := by decide +kernel
theorem dL_comes_65 : decode cL_comes 65 = .ok (.iconst 0, 1) := by decide +kernel
theorem dL_comes_66 : decode cL_comes 66 = .ok (.ireturn, 1) := by decide +kernel
theorem dL_comes_67 : decode cL_comes 67 = .ok (.iload 4, 2) := by decide +kernel
theorem dL_comes_69 : decode cL_comes 69 = .ok (.ifCond .lt 121, 3) := by decide +kernel
theorem dL_comes_72 : decode cL_comes 72 = .ok (.iconst 0, 1) := by decide +kernel
theorem dL_comes_73 : decode cL_comes 73 = .ok (.istore 7, 2) := by decide +kernel
theorem dL_comes_75 : decode cL_comes 75 = .ok (.iload 7, 2) := by decide +kernel
theorem dL_comes_77 : decode cL_comes 77 = .ok (.iload 4, 2) := by decide +kernel
theorem dL_comes_79 : decode cL_comes 79 = .ok (.if_icmp .ge 60, 3) := by decide +kernel
theorem dL_comes_82 : decode cL_comes 82 = .ok (.aload_n 0, 1) := by decide +kernel
theorem dL_comes_83 : decode cL_comes 83 = .ok (.getfield 10, 3) := by decide +kernel
theorem dL_comes_86 : decode cL_comes 86 = .ok (.invokevirtual 220, 3) := by decide +kernel
theorem dL_comes_89 : decode cL_comes 89 = .ok (.aload_n 0, 1) := by decide +kernel
theorem dL_comes_90 : decode cL_comes 90 = .ok (.getfield 10, 3) := by decide +kernel
theorem dL_comes_93 : decode cL_comes 93 = .ok (.iload_n 3, 1) := by decide +kernel
theorem dL_comes_94 : decode cL_comes 94 = .ok (.iconst 0, 1) := by decide +kernel
theorem dL_comes_95 : decode cL_comes 95 = .ok (.invokestatic 203, 3) := by decide +kernel
theorem dL_comes_98 : decode cL_comes 98 = .ok (.if_icmp .gt 22, 3) := by decide +kernel
theorem dL_comes_101 : decode cL_comes 101 = .ok (.aload_n 0, 1) := by decide +kernel
theorem dL_comes_102 : decode cL_comes 102 = .ok (.getfield 10, 3) := by decide +kernel
theorem dL_comes_105 : decode cL_comes 105 = .ok (.invokevirtual 190, 3) := by decide +kernel
theorem dL_comes_108 : decode cL_comes 108 = .ok (.aload_n 0, 1) := by decide +kernel
theorem dL_comes_109 : decode cL_comes 109 = .ok (.getfield 10, 3) := by decide +kernel
theorem dL_comes_112 : decode cL_comes 112 = .ok (.iload_n 3, 1) := by decide +kernel
theorem dL_comes_113 : decode cL_comes 113 = .ok (.iconst 1, 1) := by decide +kernel
theorem dL_comes_114 : decode cL_comes 114 = .ok (.invokestatic 203, 3) := by decide +kernel
theorem dL_comes_117 : decode cL_comes 117 = .ok (.if_icmp .le 14, 3) := by decide +kernel
theorem dL_comes_120 : decode cL_comes 120 = .ok (.aload_n 0, 1) := by decide +kernel
theorem dL_comes_121 : decode cL_comes 121 = .ok (.getfield 10, 3) := by decide +kernel
theorem dL_comes_124 : decode cL_comes 124 = .ok (.iconst 1, 1) := by decide +kernel
theorem dL_comes_125 : decode cL_comes 125 = .ok (.invokestatic 242, 3) := by decide +kernel
theorem dL_comes_128 : decode cL_comes 128 = .ok (.ifCond .ge 5, 3) := by decide +kernel
theorem dL_comes_131 : decode cL_comes 131 = .ok (.iconst 0, 1) := by decide +kernel
theorem dL_comes_132 : decode cL_comes 132 = .ok (.ireturn, 1) := by decide +kernel
theorem dL_comes_133 : decode cL_comes 133 = .ok (.iinc 7 1, 3) := by decide +kernel
theorem dL_comes_136 : decode cL_comes 136 = .ok (.goto (-61), 3) := by decide +kernel
theorem dL_comes_139 : decode cL_comes 139 = .ok (.aload_n 0, 1) := by decide +kernel
theorem dL_comes_140 : decode cL_comes 140 = .ok (.getfield 10, 3) := by decide +kernel
theorem dL_comes_143 : decode cL_comes 143 = .ok (.invokevirtual 220, 3) := by decide +kernel
theorem dL_comes_146 : decode cL_comes 146 = .ok (.aload_n 0, 1) := by decide +kernel
theorem dL_comes_147 : decode cL_comes 147 = .ok (.getfield 10, 3) := by decide +kernel
theorem dL_comes_150 : decode cL_comes 150 = .ok (.iload_n 3, 1) := by decide +kernel
theorem dL_comes_151 : decode cL_comes 151 = .ok (.iconst 0, 1) := by decide +kernel
theorem dL_comes_152 : decode cL_comes 152 = .ok (.invokestatic 203, 3) := by decide +kernel
theorem dL_comes_155 : decode cL_comes 155 = .ok (.if_icmp .gt 33, 3) := by decide +kernel
theorem dL_comes_158 : decode cL_comes 158 = .ok (.aload_n 0, 1) := by decide +kernel
theorem dL_comes_159 : decode cL_comes 159 = .ok (.getfield 10, 3) := by decide +kernel
theorem dL_comes_162 : decode cL_comes 162 = .ok (.invokevirtual 190, 3) := by decide +kernel
theorem dL_comes_165 : decode cL_comes 165 = .ok (.aload_n 0, 1) := by decide +kernel
theorem dL_comes_166 : decode cL_comes 166 = .ok (.getfield 10, 3) := by decide +kernel
theorem dL_comes_169 : decode cL_comes 169 = .ok (.iload_n 3, 1) := by decide +kernel
theorem dL_comes_170 : decode cL_comes 170 = .ok (.iconst 1, 1) := by decide +kernel
theorem dL_comes_171 : decode cL_comes 171 = .ok (.invokestatic 203, 3) := by decide +kernel
theorem dL_comes_174 : decode cL_comes 174 = .ok (.if_icmp .gt 14, 3) := by decide +kernel
theorem dL_comes_177 : decode cL_comes 177 = .ok (.aload_n 0, 1) := by decide +kernel
theorem dL_comes_178 : decode cL_comes 178 = .ok (.getfield 10, 3) := by decide +kernel
theorem dL_comes_181 : decode cL_comes 181 = .ok (.iconst 0, 1) := by decide +kernel
theorem dL_comes_182 : decode cL_comes 182 = .ok (.invokestatic 255, 3) := by decide +kernel
theorem dL_comes_185 : decode cL_comes 185 = .ok (.ifCond .eq 5, 3) := by decide +kernel
theorem dL_comes_188 : decode cL_comes 188 = .ok (.iconst 0, 1) := by decide +kernel
theorem dL_comes_189 : decode cL_comes 189 = .ok (.ireturn, 1) := by decide +kernel
theorem dL_comes_190 : decode cL_comes 190 = .ok (.iload 5, 2) := by decide +kernel
theorem dL_comes_192 : decode cL_comes 192 = .ok (.ifCond .lt 89, 3) := by decide +kernel
theorem dL_comes_195 : decode cL_comes 195 = .ok (.iconst 0, 1) := by decide +kernel
theorem dL_comes_196 : decode cL_comes 196 = .ok (.istore 7, 2) := by decide +kernel
theorem dL_comes_198 : decode cL_comes 198 = .ok (.iload 7, 2) := by decide +kernel
theorem dL_comes_200 : decode cL_comes 200 = .ok (.iload 5, 2) := by decide +kernel
theorem dL_comes_202 : decode cL_comes 202 = .ok (.if_icmp .ge 22, 3) := by decide +kernel
theorem dL_comes_205 : decode cL_comes 205 = .ok (.aload_n 0, 1) := by decide +kernel
theorem dL_comes_206 : decode cL_comes 206 = .ok (.getfield 10, 3) := by decide +kernel
theorem dL_comes_209 : decode cL_comes 209 = .ok (.iconst 1, 1) := by decide +kernel
theorem dL_comes_210 : decode cL_comes 210 = .ok (.invokestatic 242, 3) := by decide +kernel
theorem dL_comes_213 : decode cL_comes 213 = .ok (.ifCond .ge 5, 3) := by decide +kernel
theorem dL_comes_216 : decode cL_comes 216 = .ok (.iconst 0, 1) := by decide +kernel
theorem dL_comes_217 : decode cL_comes 217 = .ok (.ireturn, 1) := by decide +kernel
theorem dL_comes_218 : decode cL_comes 218 = .ok (.iinc 7 1, 3) := by decide +kernel
theorem dL_comes_221 : decode cL_comes 221 = .ok (.goto (-23), 3) := by decide +kernel
theorem dL_comes_224 : decode cL_comes 224 = .ok (.aload_n 0, 1) := by decide +kernel
theorem dL_comes_225 : decode cL_comes 225 = .ok (.getfield 10, 3) := by decide +kernel
theorem dL_comes_228 : decode cL_comes 228 = .ok (.bipush 8, 2) := by decide +kernel
theorem dL_comes_230 : decode cL_comes 230 = .ok (.invokestatic 196, 3) := by decide +kernel
theorem dL_comes_233 : decode cL_comes 233 = .ok (.istore 7, 2) := by decide +kernel
theorem dL_comes_235 : decode cL_comes 235 = .ok (.iload 7, 2) := by decide +kernel
theorem dL_comes_237 : decode cL_comes 237 = .ok (.ifCond .lt 42, 3) := by decide +kernel
theorem dL_comes_240 : decode cL_comes 240 = .ok (.iload 7, 2) := by decide +kernel
theorem dL_comes_242 : decode cL_comes 242 = .ok (.iload 6, 2) := by decide +kernel
theorem dL_comes_244 : decode cL_comes 244 = .ok (.if_icmp .eq 35, 3) := by decide +kernel
theorem dL_comes_247 : decode cL_comes 247 = .ok (.aload_n 0, 1) := by decide +kernel
theorem dL_comes_248 : decode cL_comes 248 = .ok (.getfield 10, 3) := by decide +kernel
theorem dL_comes_251 : decode cL_comes 251 = .ok (.iload 7, 2) := by decide +kernel
theorem dL_comes_253 : decode cL_comes 253 = .ok (.iconst 5, 1) := by decide +kernel
theorem dL_comes_254 : decode cL_comes 254 = .ok (.invokestatic 200, 3) := by decide +kernel
theorem dL_comes_257 : decode cL_comes 257 = .ok (.aload_n 0, 1) := by decide +kernel
theorem dL_comes_258 : decode cL_comes 258 = .ok (.getfield 10, 3) := by decide +kernel
theorem dL_comes_261 : decode cL_comes 261 = .ok (.iconst 0, 1) := by decide +kernel
theorem dL_comes_262 : decode cL_comes 262 = .ok (.invokestatic 196, 3) := by decide +kernel
theorem dL_comes_265 : decode cL_comes 265 = .ok (.if_icmp .ne 14, 3) := by decide +kernel
theorem dL_comes_268 : decode cL_comes 268 = .ok (.aload_n 0, 1) := by decide +kernel
theorem dL_comes_269 : decode cL_comes 269 = .ok (.getfield 10, 3) := by decide +kernel
theorem dL_comes_272 : decode cL_comes 272 = .ok (.iconst 0, 1) := by decide +kernel
theorem dL_comes_273 : decode cL_comes 273 = .ok (.invokestatic 255, 3) := by decide +kernel
theorem dL_comes_276 : decode cL_comes 276 = .ok (.ifCond .eq 5, 3) := by decide +kernel
theorem dL_comes_279 : decode cL_comes 279 = .ok (.iconst 0, 1) := by decide +kernel
theorem dL_comes_280 : decode cL_comes 280 = .ok (.ireturn, 1) := by decide +kernel
theorem dL_comes_281 : decode cL_comes 281 = .ok (.aload_n 0, 1) := by decide +kernel
theorem dL_comes_282 : decode cL_comes 282 = .ok (.getfield 10, 3) := by decide +kernel
theorem dL_comes_285 : decode cL_comes 285 = .ok (.bipush 13, 2) := by decide +kernel
theorem dL_comes_287 : decode cL_comes 287 = .ok (.invokestatic 196, 3) := by decide +kernel
theorem dL_comes_290 : decode cL_comes 290 = .ok (.istore 7, 2) := by decide +kernel
theorem dL_comes_292 : decode cL_comes 292 = .ok (.iconst 0, 1) := by decide +kernel
theorem dL_comes_293 : decode cL_comes 293 = .ok (.istore 8, 2) := by decide +kernel
theorem dL_comes_295 : decode cL_comes 295 = .ok (.aload_n 0, 1) := by decide +kernel
theorem dL_comes_296 : decode cL_comes 296 = .ok (.iload_n 1, 1) := by decide +kernel
theorem dL_comes_297 : decode cL_comes 297 = .ok (.invokevirtual 139, 3) := by decide +kernel
theorem dL_comes_300 : decode cL_comes 300 = .ok (.istore 9, 2) := by decide +kernel
theorem dL_comes_302 : decode cL_comes 302 = .ok (.iload 9, 2) := by decide +kernel
theorem dL_comes_304 : decode cL_comes 304 = .ok (.ifCond .le 14, 3) := by decide +kernel
theorem dL_comes_307 : decode cL_comes 307 = .ok (.aload_n 0, 1) := by decide +kernel
theorem dL_comes_308 : decode cL_comes 308 = .ok (.getfield 10, 3) := by decide +kernel
theorem dL_comes_311 : decode cL_comes 311 = .ok (.iload 9, 2) := by decide +kernel
theorem dL_comes_313 : decode cL_comes 313 = .ok (.invokestatic 242, 3) := by decide +kernel
theorem dL_comes_316 : decode cL_comes 316 = .ok (.istore 8, 2) := by decide +kernel
theorem dL_comes_318 : decode cL_comes 318 = .ok (.iload 8, 2) := by decide +kernel
theorem dL_comes_320 : decode cL_comes 320 = .ok (.aload_n 0, 1) := by decide +kernel
theorem dL_comes_321 : decode cL_comes 321 = .ok (.getfield 10, 3) := by decide +kernel
theorem dL_comes_324 : decode cL_comes 324 = .ok (.iload_n 1, 1) := by decide +kernel
theorem dL_comes_325 : decode cL_comes 325 = .ok (.iload 9, 2) := by decide +kernel
theorem dL_comes_327 : decode cL_comes 327 = .ok (.isub, 1) := by decide +kernel
theorem dL_comes_328 : decode cL_comes 328 = .ok (.invokestatic 242, 3) := by decide +kernel
theorem dL_comes_331 : decode cL_comes 331 = .ok (.iadd, 1) := by decide +kernel
theorem dL_comes_332 : decode cL_comes 332 = .ok (.istore 8, 2) := by decide +kernel
theorem dL_comes_334 : decode cL_comes 334 = .ok (.iload 8, 2) := by decide +kernel
theorem dL_comes_336 : decode cL_comes 336 = .ok (.iload_n 2, 1) := by decide +kernel
theorem dL_comes_337 : decode cL_comes 337 = .ok (.if_icmp .ne 77, 3) := by decide +kernel
theorem dL_comes_340 : decode cL_comes 340 = .ok (.aload_n 0, 1) := by decide +kernel
theorem dL_comes_341 : decode cL_comes 341 = .ok (.getfield 10, 3) := by decide +kernel
theorem dL_comes_344 : decode cL_comes 344 = .ok (.bipush 13, 2) := by decide +kernel
theorem dL_comes_346 : decode cL_comes 346 = .ok (.invokestatic 196, 3) := by decide +kernel
theorem dL_comes_349 : decode cL_comes 349 = .ok (.iload 7, 2) := by decide +kernel
theorem dL_comes_351 : decode cL_comes 351 = .ok (.iload_n 2, 1) := by decide +kernel
theorem dL_comes_352 : decode cL_comes 352 = .ok (.iadd, 1) := by decide +kernel
theorem dL_comes_353 : decode cL_comes 353 = .ok (.if_icmp .ne 61, 3) := by decide +kernel
theorem dL_comes_356 : decode cL_comes 356 = .ok (.aload_n 0, 1) := by decide +kernel
theorem dL_comes_357 : decode cL_comes 357 = .ok (.getfield 10, 3) := by decide +kernel
theorem dL_comes_360 : decode cL_comes 360 = .ok (.sipush 200, 3) := by decide +kernel
theorem dL_comes_363 : decode cL_comes 363 = .ok (.invokestatic 237, 3) := by decide +kernel
theorem dL_comes_366 : decode cL_comes 366 = .ok (.aload_n 0, 1) := by decide +kernel
theorem dL_comes_367 : decode cL_comes 367 = .ok (.getfield 10, 3) := by decide +kernel
theorem dL_comes_370 : decode cL_comes 370 = .ok (.iconst 1, 1) := by decide +kernel
theorem dL_comes_371 : decode cL_comes 371 = .ok (.invokestatic 237, 3) := by decide +kernel
theorem dL_comes_374 : decode cL_comes 374 = .ok (.if_icmp .lt 40, 3) := by decide +kernel
theorem dL_comes_377 : decode cL_comes 377 = .ok (.aload_n 0, 1) := by decide +kernel
theorem dL_comes_378 : decode cL_comes 378 = .ok (.iconst 2, 1) := by decide +kernel
theorem dL_comes_379 : decode cL_comes 379 = .ok (.invokevirtual 139, 3) := by decide +kernel
theorem dL_comes_382 : decode cL_comes 382 = .ok (.ifCond .eq 28, 3) := by decide +kernel
theorem dL_comes_385 : decode cL_comes 385 = .ok (.aload_n 0, 1) := by decide +kernel
theorem dL_comes_386 : decode cL_comes 386 = .ok (.getfield 10, 3) := by decide +kernel
theorem dL_comes_389 : decode cL_comes 389 = .ok (.iconst 0, 1) := by decide +kernel
theorem dL_comes_390 : decode cL_comes 390 = .ok (.invokestatic 255, 3) := by decide +kernel
theorem dL_comes_393 : decode cL_comes 393 = .ok (.ifCond .ne 21, 3) := by decide +kernel
theorem dL_comes_396 : decode cL_comes 396 = .ok (.aload_n 0, 1) := by decide +kernel
theorem dL_comes_397 : decode cL_comes 397 = .ok (.getfield 10, 3) := by decide +kernel
theorem dL_comes_400 : decode cL_comes 400 = .ok (.bipush 13, 2) := by decide +kernel
theorem dL_comes_402 : decode cL_comes 402 = .ok (.invokestatic 196, 3) := by decide +kernel
theorem dL_comes_405 : decode cL_comes 405 = .ok (.iload 7, 2) := by decide +kernel
theorem dL_comes_407 : decode cL_comes 407 = .ok (.if_icmp .ne 7, 3) := by decide +kernel
theorem dL_comes_410 : decode cL_comes 410 = .ok (.iconst 1, 1) := by decide +kernel
theorem dL_comes_411 : decode cL_comes 411 = .ok (.goto 4, 3) := by decide +kernel
theorem dL_comes_414 : decode cL_comes 414 = .ok (.iconst 0, 1) := by decide +kernel
theorem dL_comes_415 : decode cL_comes 415 = .ok (.ireturn, 1) := by decide +kernel
