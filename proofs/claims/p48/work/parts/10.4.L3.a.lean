set_option maxRecDepth 20000 in
theorem ggL_others_L_count : GoodIn wsL_others wsL_count := goodIn_ca (goodIn_r _ [5, 6, 7, 8, 9, 10, 11, 12, 13, 14, 15, 16, 17, 245, 246, 247, 248, 249, 250, 251, 252, 253, 254, 255, 256, 257, 258, 259, 260, 261, 262, 263, 264, 265, 266, 267, 268, 269] (by decide +kernel) (by decide +kernel)) (goodIn_sub (fun _ h => List.mem_cons_of_mem _ (List.mem_append_left _ (List.mem_append_right _ h))) (by decide +kernel))
set_option maxRecDepth 20000 in
theorem gL_others_L_count : GoodIn wsL_others (va_wsS RL 196 yL_count wsL_count) := goodIn_app (goodIn_of _ (by decide +kernel)) ggL_others_L_count
set_option maxRecDepth 20000 in
theorem ggL_others_L_draw : GoodIn wsL_others wsL_draw := goodIn_r _ [21, 22, 23, 24, 25, 26, 27, 28, 29, 30, 31, 32, 4, 33, 34, 35, 241, 242, 243, 244] (by decide +kernel) (by decide +kernel)
set_option maxRecDepth 20000 in
theorem gL_others_L_draw : GoodIn wsL_others (wsV RL 139 RL yL_draw wsL_draw) := goodIn_app (goodIn_of _ (by decide +kernel)) ggL_others_L_draw
set_option maxRecDepth 20000 in
theorem ggL_others_L_arrive : GoodIn wsL_others wsL_arrive := goodIn_ca (goodIn_ca (goodIn_r _ [38, 39, 6, 40, 41, 42, 10, 43, 44, 45, 12, 13, 46, 47, 48, 49, 16, 17, 50, 51, 52, 53, 54, 55, 56, 57, 58, 14, 59, 60, 61, 62, 63, 64, 65, 66, 67, 68, 69, 70, 71, 72, 73, 74, 75, 76, 77, 78, 79, 80, 81, 82, 83, 84, 85, 86, 87, 88, 89, 90, 91, 92, 93, 94, 95, 96, 245, 246, 247, 248, 249, 250, 251, 252, 253, 257, 258, 259, 260, 261, 262, 263, 264, 265, 266, 267, 268, 269, 254, 255, 256] (by decide +kernel) (by decide +kernel)) (goodIn_sub (fun _ h => List.mem_cons_of_mem _ (List.mem_append_right _ h)) (by decide +kernel))) (goodIn_sub (fun _ h => List.mem_cons_of_mem _ (List.mem_append_left _ (List.mem_append_right _ h))) (by decide +kernel))
set_option maxRecDepth 20000 in
theorem gL_others_L_arrive : GoodIn wsL_others (va_wsS RL 261 yL_arrive wsL_arrive) := goodIn_app (goodIn_of _ (by decide +kernel)) ggL_others_L_arrive
set_option maxRecDepth 20000 in
theorem ggL_others_X9_queued : GoodIn wsL_others wsX9_queued := goodIn_r _ [100, 16, 17, 101, 102, 103, 10, 104, 245, 246, 247, 248, 249, 250, 251, 252, 253, 257, 258, 259, 260, 261, 262, 263, 264, 265, 266, 267, 268, 269] (by decide +kernel) (by decide +kernel)
set_option maxRecDepth 20000 in
theorem gL_others_X9_queued : GoodIn wsL_others (wsV RL 210 RX9 yX9_queued wsX9_queued) := goodIn_app (goodIn_of _ (by decide +kernel)) ggL_others_X9_queued
set_option maxRecDepth 20000 in
theorem ggL_others_L_car : GoodIn wsL_others wsL_car := goodIn_ca (goodIn_ca (goodIn_r _ [107, 39, 6, 108, 109, 110, 10, 111, 44, 45, 12, 13, 16, 17, 112, 113, 114, 70, 115, 79, 245, 246, 247, 248, 249, 250, 251, 252, 253, 257, 258, 259, 260, 261, 262, 263, 264, 265, 266, 267, 268, 269] (by decide +kernel) (by decide +kernel)) (goodIn_sub (fun _ h => List.mem_cons_of_mem _ (List.mem_append_right _ h)) (by decide +kernel))) (goodIn_sub (fun _ h => List.mem_cons_of_mem _ (List.mem_append_left _ (List.mem_append_right _ h))) (by decide +kernel))
set_option maxRecDepth 20000 in
theorem gL_others_L_car : GoodIn wsL_others (va_wsS RL 200 yL_car wsL_car) := goodIn_app (goodIn_of _ (by decide +kernel)) ggL_others_L_car
set_option maxRecDepth 20000 in
theorem ggL_others_L_whyNot : GoodIn wsL_others wsL_whyNot := goodIn_ca (goodIn_r _ [118, 39, 119, 120, 121, 10, 122, 44, 45, 16, 123, 124, 125, 70, 126, 72, 80, 127, 128, 129, 130, 77, 87, 88, 131, 113, 114, 115, 79, 132, 133, 134, 135, 78, 136, 137, 138, 139, 84, 140, 141, 142, 143, 83, 245, 246, 247, 248, 249, 250, 251, 252, 253, 257, 258, 259, 260, 261, 262, 263, 264, 265, 266, 267, 268, 269] (by decide +kernel) (by decide +kernel)) (goodIn_sub (fun _ h => List.mem_cons_of_mem _ (List.mem_append_right _ h)) (by decide +kernel))
set_option maxRecDepth 20000 in
theorem gL_others_L_whyNot : GoodIn wsL_others (va_wsS RL 249 yL_whyNot wsL_whyNot) := goodIn_app (goodIn_of _ (by decide +kernel)) ggL_others_L_whyNot
set_option maxRecDepth 20000 in
theorem ggL_others_L_unload : GoodIn wsL_others wsL_unload := goodIn_ca (goodIn_r _ [146, 39, 147, 148, 149, 10, 150, 44, 45, 151, 152, 153, 154, 16, 17, 155, 156, 157, 158, 159, 70, 160, 82, 161, 162, 163, 164, 81, 103, 104, 50, 51, 52, 53, 54, 165, 166, 167, 168, 131, 113, 114, 115, 79, 132, 133, 134, 135, 78, 55, 56, 57, 58, 14, 59, 60, 61, 62, 63, 64, 65, 66, 67, 68, 69, 71, 72, 73, 74, 75, 76, 77, 80, 83, 84, 85, 86, 87, 88, 169, 170, 171, 172, 173, 174, 93, 94, 95, 96, 175, 176, 177, 178, 179, 180, 181, 182, 183, 184, 185, 186, 187, 188, 189, 190, 191, 192, 245, 246, 247, 248, 249, 250, 251, 252, 253, 257, 258, 259, 260, 261, 262, 263, 264, 265, 266, 267, 268, 269, 254, 255, 256] (by decide +kernel) (by decide +kernel)) (goodIn_sub (fun _ h => List.mem_cons_of_mem _ (List.mem_append_right _ h)) (by decide +kernel))
set_option maxRecDepth 20000 in
theorem gL_others_L_unload : GoodIn wsL_others (va_wsS RL 263 yL_unload wsL_unload) := goodIn_app (goodIn_of _ (by decide +kernel)) ggL_others_L_unload
set_option maxRecDepth 20000 in
theorem ggL_others_L_standing : GoodIn wsL_others wsL_standing := goodIn_ca (goodIn_r _ [195, 39, 196, 197, 198, 10, 199, 44, 45, 16, 200, 162, 163, 70, 164, 82, 81, 103, 104, 245, 246, 247, 248, 249, 250, 251, 252, 253, 257, 258, 259, 260, 261, 262, 263, 264, 265, 266, 267, 268, 269] (by decide +kernel) (by decide +kernel)) (goodIn_sub (fun _ h => List.mem_cons_of_mem _ (List.mem_append_right _ h)) (by decide +kernel))
set_option maxRecDepth 20000 in
theorem gL_others_L_standing : GoodIn wsL_others (va_wsS RL 208 yL_standing wsL_standing) := goodIn_app (goodIn_of _ (by decide +kernel)) ggL_others_L_standing
set_option maxRecDepth 20000 in
theorem ggL_others_X9_undo : GoodIn wsL_others wsX9_undo := goodIn_r _ [204, 14, 16, 205, 206, 207, 62, 208, 66, 64, 65, 67, 68, 69, 70, 71, 72, 73, 74, 75, 76, 77, 78, 79, 80, 81, 82, 83, 84, 85, 86, 87, 88, 245, 246, 247, 248, 249, 250, 251, 252, 253, 254, 255, 256, 257, 258, 259, 260, 261, 262, 263, 264, 265, 266, 267, 268, 269] (by decide +kernel) (by decide +kernel)
set_option maxRecDepth 20000 in
theorem gL_others_X9_undo : GoodIn wsL_others (wsV RL 193 RX9 yX9_undo wsX9_undo) := goodIn_app (goodIn_of _ (by decide +kernel)) ggL_others_X9_undo
set_option maxRecDepth 20000 in
theorem ggL_others_L_crank : GoodIn wsL_others wsL_crank := goodIn_ca (goodIn_r _ [211, 6, 212, 213, 214, 10, 215, 12, 13, 216, 217, 218, 219, 16, 17, 156, 50, 51, 52, 53, 54, 55, 56, 57, 58, 14, 59, 60, 61, 62, 63, 64, 65, 66, 67, 68, 69, 70, 71, 72, 73, 74, 75, 76, 77, 78, 79, 80, 81, 82, 83, 84, 85, 86, 87, 88, 220, 188, 189, 190, 191, 192, 245, 246, 247, 248, 249, 250, 251, 252, 253, 257, 258, 259, 260, 261, 262, 263, 264, 265, 266, 267, 268, 269, 254, 255, 256] (by decide +kernel) (by decide +kernel)) (goodIn_sub (fun _ h => List.mem_cons_of_mem _ (List.mem_append_left _ (List.mem_append_right _ h))) (by decide +kernel))
set_option maxRecDepth 20000 in
theorem gL_others_L_crank : GoodIn wsL_others (va_wsS RL 265 yL_crank wsL_crank) := goodIn_app (goodIn_of _ (by decide +kernel)) ggL_others_L_crank
set_option maxRecDepth 20000 in
theorem ggL_others_X9_lip : GoodIn wsL_others wsX9_lip := goodIn_r _ [224, 16, 156, 245, 246, 247, 248, 249, 250, 251, 252, 253, 257, 258, 259, 260, 261, 262, 263, 264, 265, 266, 267, 268, 269] (by decide +kernel) (by decide +kernel)
set_option maxRecDepth 20000 in
theorem gL_others_X9_lip : GoodIn wsL_others (wsV RL 190 RX9 yX9_lip wsX9_lip) := goodIn_app (goodIn_of _ (by decide +kernel)) ggL_others_X9_lip
set_option maxRecDepth 20000 in
theorem ggL_others_L_dismiss : GoodIn wsL_others wsL_dismiss := goodIn_ca (goodIn_r _ [227, 39, 228, 229, 230, 10, 231, 44, 45, 232, 233, 234, 235, 16, 17, 123, 124, 125, 70, 126, 72, 80, 50, 51, 52, 53, 54, 55, 56, 57, 58, 14, 59, 60, 61, 62, 63, 64, 65, 66, 67, 68, 69, 71, 73, 74, 75, 76, 77, 78, 79, 81, 82, 83, 84, 85, 86, 87, 88, 236, 237, 238, 239, 240, 94, 95, 96, 245, 246, 247, 248, 249, 250, 251, 252, 253, 257, 258, 259, 260, 261, 262, 263, 264, 265, 266, 267, 268, 269, 254, 255, 256] (by decide +kernel) (by decide +kernel)) (goodIn_sub (fun _ h => List.mem_cons_of_mem _ (List.mem_append_right _ h)) (by decide +kernel))
set_option maxRecDepth 20000 in
theorem gL_others_L_dismiss : GoodIn wsL_others (va_wsS RL 267 yL_dismiss wsL_dismiss) := goodIn_app (goodIn_of _ (by decide +kernel)) ggL_others_L_dismiss
theorem dL_others_0 : decode cL_others 0 = .ok (.aload_n 0, 1) := by decide +kernel
theorem dL_others_1 : decode cL_others 1 = .ok (.getfield 10, 3) := by decide +kernel
theorem dL_others_4 : decode cL_others 4 = .ok (.iconst 1, 1) := by decide +kernel
theorem dL_others_5 : decode cL_others 5 = .ok (.invokestatic 196, 3) := by decide +kernel
theorem dL_others_8 : decode cL_others 8 = .ok (.istore_n 1, 1) := by decide +kernel
theorem dL_others_9 : decode cL_others 9 = .ok (.aload_n 0, 1) := by decide +kernel
theorem dL_others_10 : decode cL_others 10 = .ok (.getfield 10, 3) := by decide +kernel
theorem dL_others_13 : decode cL_others 13 = .ok (.iconst 3, 1) := by decide +kernel
theorem dL_others_14 : decode cL_others 14 = .ok (.invokestatic 196, 3) := by decide +kernel
theorem dL_others_17 : decode cL_others 17 = .ok (.istore_n 2, 1) := by decide +kernel
theorem dL_others_18 : decode cL_others 18 = .ok (.iconst 1, 1) := by decide +kernel
theorem dL_others_19 : decode cL_others 19 = .ok (.aload_n 0, 1) := by decide +kernel
theorem dL_others_20 : decode cL_others 20 = .ok (.sipush 150, 3) := by decide +kernel
theorem dL_others_23 : decode cL_others 23 = .ok (.invokevirtual 139, 3) := by decide +kernel
theorem dL_others_26 : decode cL_others 26 = .ok (.iadd, 1) := by decide +kernel
theorem dL_others_27 : decode cL_others 27 = .ok (.istore_n 3, 1) := by decide +kernel
theorem dL_others_28 : decode cL_others 28 = .ok (.aload_n 0, 1) := by decide +kernel
theorem dL_others_29 : decode cL_others 29 = .ok (.iconst 4, 1) := by decide +kernel
theorem dL_others_30 : decode cL_others 30 = .ok (.invokevirtual 139, 3) := by decide +kernel
theorem dL_others_33 : decode cL_others 33 = .ok (.istore 4, 2) := by decide +kernel
theorem dL_others_35 : decode cL_others 35 = .ok (.aload_n 0, 1) := by decide +kernel
theorem dL_others_36 : decode cL_others 36 = .ok (.iconst 3, 1) := by decide +kernel
theorem dL_others_37 : decode cL_others 37 = .ok (.invokevirtual 139, 3) := by decide +kernel
theorem dL_others_40 : decode cL_others 40 = .ok (.istore 5, 2) := by decide +kernel
theorem dL_others_42 : decode cL_others 42 = .ok (.aload_n 0, 1) := by decide +kernel
theorem dL_others_43 : decode cL_others 43 = .ok (.getfield 10, 3) := by decide +kernel
theorem dL_others_46 : decode cL_others 46 = .ok (.bipush 7, 2) := by decide +kernel
theorem dL_others_48 : decode cL_others 48 = .ok (.invokestatic 196, 3) := by decide +kernel
theorem dL_others_51 : decode cL_others 51 = .ok (.istore 6, 2) := by decide +kernel
theorem dL_others_53 : decode cL_others 53 = .ok (.aload_n 0, 1) := by decide +kernel
theorem dL_others_54 : decode cL_others 54 = .ok (.iconst 5, 1) := by decide +kernel
theorem dL_others_55 : decode cL_others 55 = .ok (.invokevirtual 139, 3) := by decide +kernel
theorem dL_others_58 : decode cL_others 58 = .ok (.tableswitch 457 0 3 #[30, 30, 154, 350], 30) := by decide +kernel
theorem dL_others_88 : decode cL_others 88 = .ok (.aload_n 0, 1) := by decide +kernel
theorem dL_others_89 : decode cL_others 89 = .ok (.getfield 10, 3) := by decide +kernel
theorem dL_others_92 : decode cL_others 92 = .ok (.iload 4, 2) := by decide +kernel
theorem dL_others_94 : decode cL_others 94 = .ok (.iload_n 3, 1) := by decide +kernel
theorem dL_others_95 : decode cL_others 95 = .ok (.invokestatic 261, 3) := by decide +kernel
theorem dL_others_98 : decode cL_others 98 = .ok (.istore 7, 2) := by decide +kernel
theorem dL_others_100 : decode cL_others 100 = .ok (.iload 7, 2) := by decide +kernel
theorem dL_others_102 : decode cL_others 102 = .ok (.ifCond .ge 38, 3) := by decide +kernel
theorem dL_others_105 : decode cL_others 105 = .ok (.iload 7, 2) := by decide +kernel
theorem dL_others_107 : decode cL_others 107 = .ok (.iload_n 2, 1) := by decide +kernel
theorem dL_others_108 : decode cL_others 108 = .ok (.bipush 60, 2) := by decide +kernel
theorem dL_others_110 : decode cL_others 110 = .ok (.if_icmp .ne 7, 3) := by decide +kernel
theorem dL_others_113 : decode cL_others 113 = .ok (.iconst (-1), 1) := by decide +kernel
theorem dL_others_114 : decode cL_others 114 = .ok (.goto 5, 3) := by decide +kernel
theorem dL_others_117 : decode cL_others 117 = .ok (.bipush (-2), 2) := by decide +kernel
theorem dL_others_119 : decode cL_others 119 = .ok (.if_icmp .ne 19, 3) := by decide +kernel
theorem dL_others_122 : decode cL_others 122 = .ok (.iload_n 2, 1) := by decide +kernel
theorem dL_others_123 : decode cL_others 123 = .ok (.bipush 60, 2) := by decide +kernel
theorem dL_others_125 : decode cL_others 125 = .ok (.if_icmp .eq 9, 3) := by decide +kernel
theorem dL_others_128 : decode cL_others 128 = .ok (.iload_n 1, 1) := by decide +kernel
theorem dL_others_129 : decode cL_others 129 = .ok (.bipush 20, 2) := by decide +kernel
theorem dL_others_131 : decode cL_others 131 = .ok (.if_icmp .ne 7, 3) := by decide +kernel
theorem dL_others_134 : decode cL_others 134 = .ok (.iconst 1, 1) := by decide +kernel
theorem dL_others_135 : decode cL_others 135 = .ok (.goto 4, 3) := by decide +kernel
theorem dL_others_138 : decode cL_others 138 = .ok (.iconst 0, 1) := by decide +kernel
theorem dL_others_139 : decode cL_others 139 = .ok (.ireturn, 1) := by decide +kernel
theorem dL_others_140 : decode cL_others 140 = .ok (.iload 7, 2) := by decide +kernel
theorem dL_others_142 : decode cL_others 142 = .ok (.iload_n 2, 1) := by decide +kernel
theorem dL_others_143 : decode cL_others 143 = .ok (.if_icmp .ne 67, 3) := by decide +kernel
theorem dL_others_146 : decode cL_others 146 = .ok (.aload_n 0, 1) := by decide +kernel
theorem dL_others_147 : decode cL_others 147 = .ok (.getfield 10, 3) := by decide +kernel
theorem dL_others_150 : decode cL_others 150 = .ok (.iconst 1, 1) := by decide +kernel
theorem dL_others_151 : decode cL_others 151 = .ok (.invokestatic 196, 3) := by decide +kernel
theorem dL_others_154 : decode cL_others 154 = .ok (.iload_n 1, 1) := by decide +kernel
theorem dL_others_155 : decode cL_others 155 = .ok (.iconst 1, 1) := by decide +kernel
theorem dL_others_156 : decode cL_others 156 = .ok (.iadd, 1) := by decide +kernel
theorem dL_others_157 : decode cL_others 157 = .ok (.if_icmp .ne 53, 3) := by decide +kernel
theorem dL_others_160 : decode cL_others 160 = .ok (.aload_n 0, 1) := by decide +kernel
theorem dL_others_161 : decode cL_others 161 = .ok (.getfield 10, 3) := by decide +kernel
theorem dL_others_164 : decode cL_others 164 = .ok (.iload_n 1, 1) := by decide +kernel
theorem dL_others_165 : decode cL_others 165 = .ok (.invokevirtual 210, 3) := by decide +kernel
theorem dL_others_168 : decode cL_others 168 = .ok (.iload 7, 2) := by decide +kernel
theorem dL_others_170 : decode cL_others 170 = .ok (.if_icmp .ne 40, 3) := by decide +kernel
theorem dL_others_173 : decode cL_others 173 = .ok (.aload_n 0, 1) := by decide +kernel
theorem dL_others_174 : decode cL_others 174 = .ok (.getfield 10, 3) := by decide +kernel
theorem dL_others_177 : decode cL_others 177 = .ok (.iload 7, 2) := by decide +kernel
theorem dL_others_179 : decode cL_others 179 = .ok (.iconst 4, 1) := by decide +kernel
theorem dL_others_180 : decode cL_others 180 = .ok (.invokestatic 200, 3) := by decide +kernel
theorem dL_others_183 : decode cL_others 183 = .ok (.aload_n 0, 1) := by decide +kernel
theorem dL_others_184 : decode cL_others 184 = .ok (.getfield 10, 3) := by decide +kernel
theorem dL_others_187 : decode cL_others 187 = .ok (.iconst 0, 1) := by decide +kernel
theorem dL_others_188 : decode cL_others 188 = .ok (.invokestatic 196, 3) := by decide +kernel
theorem dL_others_191 : decode cL_others 191 = .ok (.if_icmp .ne 19, 3) := by decide +kernel
theorem dL_others_194 : decode cL_others 194 = .ok (.aload_n 0, 1) := by decide +kernel
theorem dL_others_195 : decode cL_others 195 = .ok (.getfield 10, 3) := by decide +kernel
theorem dL_others_198 : decode cL_others 198 = .ok (.iload 7, 2) := by decide +kernel
theorem dL_others_200 : decode cL_others 200 = .ok (.invokestatic 249, 3) := by decide +kernel
theorem dL_others_203 : decode cL_others 203 = .ok (.ifCond .lt 7, 3) := by decide +kernel
theorem dL_others_206 : decode cL_others 206 = .ok (.iconst 1, 1) := by decide +kernel
theorem dL_others_207 : decode cL_others 207 = .ok (.goto 4, 3) := by decide +kernel
theorem dL_others_210 : decode cL_others 210 = .ok (.iconst 0, 1) := by decide +kernel
theorem dL_others_211 : decode cL_others 211 = .ok (.ireturn, 1) := by decide +kernel
theorem dL_others_212 : decode cL_others 212 = .ok (.aload_n 0, 1) := by decide +kernel
theorem dL_others_213 : decode cL_others 213 = .ok (.getfield 10, 3) := by decide +kernel
theorem dL_others_216 : decode cL_others 216 = .ok (.iload 5, 2) := by decide +kernel
theorem dL_others_218 : decode cL_others 218 = .ok (.invokestatic 263, 3) := by decide +kernel
theorem dL_others_221 : decode cL_others 221 = .ok (.istore 7, 2) := by decide +kernel
theorem dL_others_223 : decode cL_others 223 = .ok (.iload 7, 2) := by decide +kernel
theorem dL_others_225 : decode cL_others 225 = .ok (.ifCond .ge 77, 3) := by decide +kernel
theorem dL_others_228 : decode cL_others 228 = .ok (.iload 7, 2) := by decide +kernel
theorem dL_others_230 : decode cL_others 230 = .ok (.iconst (-1), 1) := by decide +kernel
theorem dL_others_231 : decode cL_others 231 = .ok (.if_icmp .ne 25, 3) := by decide +kernel
theorem dL_others_234 : decode cL_others 234 = .ok (.aload_n 0, 1) := by decide +kernel
theorem dL_others_235 : decode cL_others 235 = .ok (.getfield 10, 3) := by decide +kernel
theorem dL_others_238 : decode cL_others 238 = .ok (.iload 5, 2) := by decide +kernel
theorem dL_others_240 : decode cL_others 240 = .ok (.iconst 0, 1) := by decide +kernel
theorem dL_others_241 : decode cL_others 241 = .ok (.invokestatic 208, 3) := by decide +kernel
theorem dL_others_244 : decode cL_others 244 = .ok (.iconst (-1), 1) := by decide +kernel
theorem dL_others_245 : decode cL_others 245 = .ok (.if_icmp .ne 7, 3) := by decide +kernel
theorem dL_others_248 : decode cL_others 248 = .ok (.iconst 1, 1) := by decide +kernel
theorem dL_others_249 : decode cL_others 249 = .ok (.goto 52, 3) := by decide +kernel
theorem dL_others_252 : decode cL_others 252 = .ok (.iconst 0, 1) := by decide +kernel
theorem dL_others_253 : decode cL_others 253 = .ok (.goto 48, 3) := by decide +kernel
theorem dL_others_256 : decode cL_others 256 = .ok (.iload 7, 2) := by decide +kernel
theorem dL_others_258 : decode cL_others 258 = .ok (.bipush (-2), 2) := by decide +kernel
theorem dL_others_260 : decode cL_others 260 = .ok (.if_icmp .ne 23, 3) := by decide +kernel
theorem dL_others_263 : decode cL_others 263 = .ok (.aload_n 0, 1) := by decide +kernel
theorem dL_others_264 : decode cL_others 264 = .ok (.getfield 10, 3) := by decide +kernel
theorem dL_others_267 : decode cL_others 267 = .ok (.bipush 8, 2) := by decide +kernel
theorem dL_others_269 : decode cL_others 269 = .ok (.invokestatic 196, 3) := by decide +kernel
theorem dL_others_272 : decode cL_others 272 = .ok (.ifCond .lt 7, 3) := by decide +kernel
theorem dL_others_275 : decode cL_others 275 = .ok (.iconst 1, 1) := by decide +kernel
theorem dL_others_276 : decode cL_others 276 = .ok (.goto 25, 3) := by decide +kernel
theorem dL_others_279 : decode cL_others 279 = .ok (.iconst 0, 1) := by decide +kernel
theorem dL_others_280 : decode cL_others 280 = .ok (.goto 21, 3) := by decide +kernel
theorem dL_others_283 : decode cL_others 283 = .ok (.aload_n 0, 1) := by decide +kernel
theorem dL_others_284 : decode cL_others 284 = .ok (.getfield 10, 3) := by decide +kernel
theorem dL_others_287 : decode cL_others 287 = .ok (.iload 5, 2) := by decide +kernel
theorem dL_others_289 : decode cL_others 289 = .ok (.iconst 0, 1) := by decide +kernel
theorem dL_others_290 : decode cL_others 290 = .ok (.invokestatic 208, 3) := by decide +kernel
theorem dL_others_293 : decode cL_others 293 = .ok (.ifCond .lt 7, 3) := by decide +kernel
theorem dL_others_296 : decode cL_others 296 = .ok (.iconst 1, 1) := by decide +kernel
theorem dL_others_297 : decode cL_others 297 = .ok (.goto 4, 3) := by decide +kernel
theorem dL_others_300 : decode cL_others 300 = .ok (.iconst 0, 1) := by decide +kernel
theorem dL_others_301 : decode cL_others 301 = .ok (.ireturn, 1) := by decide +kernel
theorem dL_others_302 : decode cL_others 302 = .ok (.aload_n 0, 1) := by decide +kernel
theorem dL_others_303 : decode cL_others 303 = .ok (.getfield 10, 3) := by decide +kernel
theorem dL_others_306 : decode cL_others 306 = .ok (.iload 7, 2) := by decide +kernel
theorem dL_others_308 : decode cL_others 308 = .ok (.iconst 2, 1) := by decide +kernel
theorem dL_others_309 : decode cL_others 309 = .ok (.invokestatic 200, 3) := by decide +kernel
theorem dL_others_312 : decode cL_others 312 = .ok (.iconst 3, 1) := by decide +kernel
theorem dL_others_313 : decode cL_others 313 = .ok (.if_icmp .ne 93, 3) := by decide +kernel
theorem dL_others_316 : decode cL_others 316 = .ok (.aload_n 0, 1) := by decide +kernel
theorem dL_others_317 : decode cL_others 317 = .ok (.getfield 10, 3) := by decide +kernel
theorem dL_others_320 : decode cL_others 320 = .ok (.iload 7, 2) := by decide +kernel
theorem dL_others_322 : decode cL_others 322 = .ok (.iconst 3, 1) := by decide +kernel
theorem dL_others_323 : decode cL_others 323 = .ok (.invokestatic 200, 3) := by decide +kernel
theorem dL_others_326 : decode cL_others 326 = .ok (.iload 5, 2) := by decide +kernel
theorem dL_others_328 : decode cL_others 328 = .ok (.if_icmp .ne 78, 3) := by decide +kernel
theorem dL_others_331 : decode cL_others 331 = .ok (.aload_n 0, 1) := by decide +kernel
theorem dL_others_332 : decode cL_others 332 = .ok (.getfield 10, 3) := by decide +kernel
theorem dL_others_335 : decode cL_others 335 = .ok (.bipush 7, 2) := by decide +kernel
theorem dL_others_337 : decode cL_others 337 = .ok (.invokestatic 196, 3) := by decide +kernel
theorem dL_others_340 : decode cL_others 340 = .ok (.iload 6, 2) := by decide +kernel
theorem dL_others_342 : decode cL_others 342 = .ok (.aload_n 0, 1) := by decide +kernel
theorem dL_others_343 : decode cL_others 343 = .ok (.getfield 10, 3) := by decide +kernel
theorem dL_others_346 : decode cL_others 346 = .ok (.iload 7, 2) := by decide +kernel
theorem dL_others_348 : decode cL_others 348 = .ok (.iconst 1, 1) := by decide +kernel
theorem dL_others_349 : decode cL_others 349 = .ok (.invokestatic 200, 3) := by decide +kernel
theorem dL_others_352 : decode cL_others 352 = .ok (.isub, 1) := by decide +kernel
theorem dL_others_353 : decode cL_others 353 = .ok (.if_icmp .ne 53, 3) := by decide +kernel
theorem dL_others_356 : decode cL_others 356 = .ok (.aload_n 0, 1) := by decide +kernel
theorem dL_others_357 : decode cL_others 357 = .ok (.iconst 2, 1) := by decide +kernel
theorem dL_others_358 : decode cL_others 358 = .ok (.invokevirtual 139, 3) := by decide +kernel
theorem dL_others_361 : decode cL_others 361 = .ok (.ifCond .eq 41, 3) := by decide +kernel
theorem dL_others_364 : decode cL_others 364 = .ok (.aload_n 0, 1) := by decide +kernel
theorem dL_others_365 : decode cL_others 365 = .ok (.getfield 10, 3) := by decide +kernel
theorem dL_others_368 : decode cL_others 368 = .ok (.invokevirtual 193, 3) := by decide +kernel
theorem dL_others_371 : decode cL_others 371 = .ok (.ifCond .lt 35, 3) := by decide +kernel
theorem dL_others_374 : decode cL_others 374 = .ok (.aload_n 0, 1) := by decide +kernel
theorem dL_others_375 : decode cL_others 375 = .ok (.getfield 10, 3) := by decide +kernel
theorem dL_others_378 : decode cL_others 378 = .ok (.bipush 7, 2) := by decide +kernel
theorem dL_others_380 : decode cL_others 380 = .ok (.invokestatic 196, 3) := by decide +kernel
theorem dL_others_383 : decode cL_others 383 = .ok (.iload 6, 2) := by decide +kernel
theorem dL_others_385 : decode cL_others 385 = .ok (.if_icmp .ne 21, 3) := by decide +kernel
theorem dL_others_388 : decode cL_others 388 = .ok (.aload_n 0, 1) := by decide +kernel
theorem dL_others_389 : decode cL_others 389 = .ok (.getfield 10, 3) := by decide +kernel
theorem dL_others_392 : decode cL_others 392 = .ok (.iload 7, 2) := by decide +kernel
theorem dL_others_394 : decode cL_others 394 = .ok (.iconst 2, 1) := by decide +kernel
theorem dL_others_395 : decode cL_others 395 = .ok (.invokestatic 200, 3) := by decide +kernel
theorem dL_others_398 : decode cL_others 398 = .ok (.iconst 2, 1) := by decide +kernel
theorem dL_others_399 : decode cL_others 399 = .ok (.if_icmp .ne 7, 3) := by decide +kernel
theorem dL_others_402 : decode cL_others 402 = .ok (.iconst 1, 1) := by decide +kernel
theorem dL_others_403 : decode cL_others 403 = .ok (.goto 4, 3) := by decide +kernel
theorem dL_others_406 : decode cL_others 406 = .ok (.iconst 0, 1) := by decide +kernel
theorem dL_others_407 : decode cL_others 407 = .ok (.ireturn, 1) := by decide +kernel
theorem dL_others_408 : decode cL_others 408 = .ok (.aload_n 0, 1) := by decide +kernel
theorem dL_others_409 : decode cL_others 409 = .ok (.bipush 9, 2) := by decide +kernel
theorem dL_others_411 : decode cL_others 411 = .ok (.invokevirtual 139, 3) := by decide +kernel
theorem dL_others_414 : decode cL_others 414 = .ok (.iconst 4, 1) := by decide +kernel
theorem dL_others_415 : decode cL_others 415 = .ok (.isub, 1) := by decide +kernel
theorem dL_others_416 : decode cL_others 416 = .ok (.istore 7, 2) := by decide +kernel
theorem dL_others_418 : decode cL_others 418 = .ok (.aload_n 0, 1) := by decide +kernel
theorem dL_others_419 : decode cL_others 419 = .ok (.getfield 10, 3) := by decide +kernel
theorem dL_others_422 : decode cL_others 422 = .ok (.iconst 4, 1) := by decide +kernel
theorem dL_others_423 : decode cL_others 423 = .ok (.invokestatic 196, 3) := by decide +kernel
theorem dL_others_426 : decode cL_others 426 = .ok (.istore 8, 2) := by decide +kernel
theorem dL_others_428 : decode cL_others 428 = .ok (.aload_n 0, 1) := by decide +kernel
theorem dL_others_429 : decode cL_others 429 = .ok (.getfield 10, 3) := by decide +kernel
theorem dL_others_432 : decode cL_others 432 = .ok (.iload 7, 2) := by decide +kernel
theorem dL_others_434 : decode cL_others 434 = .ok (.invokestatic 265, 3) := by decide +kernel
theorem dL_others_437 : decode cL_others 437 = .ok (.istore 9, 2) := by decide +kernel
theorem dL_others_439 : decode cL_others 439 = .ok (.iload 9, 2) := by decide +kernel
theorem dL_others_441 : decode cL_others 441 = .ok (.ifCond .ge 40, 3) := by decide +kernel
theorem dL_others_444 : decode cL_others 444 = .ok (.iload 9, 2) := by decide +kernel
theorem dL_others_446 : decode cL_others 446 = .ok (.iload 7, 2) := by decide +kernel
theorem dL_others_448 : decode cL_others 448 = .ok (.ifCond .ne 7, 3) := by decide +kernel
theorem dL_others_451 : decode cL_others 451 = .ok (.iconst (-1), 1) := by decide +kernel
theorem dL_others_452 : decode cL_others 452 = .ok (.goto 5, 3) := by decide +kernel
theorem dL_others_455 : decode cL_others 455 = .ok (.bipush (-2), 2) := by decide +kernel
theorem dL_others_457 : decode cL_others 457 = .ok (.if_icmp .ne 20, 3) := by decide +kernel
theorem dL_others_460 : decode cL_others 460 = .ok (.aload_n 0, 1) := by decide +kernel
theorem dL_others_461 : decode cL_others 461 = .ok (.getfield 10, 3) := by decide +kernel
theorem dL_others_464 : decode cL_others 464 = .ok (.iconst 4, 1) := by decide +kernel
theorem dL_others_465 : decode cL_others 465 = .ok (.invokestatic 196, 3) := by decide +kernel
theorem dL_others_468 : decode cL_others 468 = .ok (.iload 8, 2) := by decide +kernel
theorem dL_others_470 : decode cL_others 470 = .ok (.if_icmp .ne 7, 3) := by decide +kernel
theorem dL_others_473 : decode cL_others 473 = .ok (.iconst 1, 1) := by decide +kernel
theorem dL_others_474 : decode cL_others 474 = .ok (.goto 40, 3) := by decide +kernel
theorem dL_others_477 : decode cL_others 477 = .ok (.iconst 0, 1) := by decide +kernel
theorem dL_others_478 : decode cL_others 478 = .ok (.goto 36, 3) := by decide +kernel
theorem dL_others_481 : decode cL_others 481 = .ok (.aload_n 0, 1) := by decide +kernel
theorem dL_others_482 : decode cL_others 482 = .ok (.getfield 10, 3) := by decide +kernel
theorem dL_others_485 : decode cL_others 485 = .ok (.iconst 4, 1) := by decide +kernel
theorem dL_others_486 : decode cL_others 486 = .ok (.invokestatic 196, 3) := by decide +kernel
theorem dL_others_489 : decode cL_others 489 = .ok (.iload 8, 2) := by decide +kernel
theorem dL_others_491 : decode cL_others 491 = .ok (.iload 7, 2) := by decide +kernel
theorem dL_others_493 : decode cL_others 493 = .ok (.iadd, 1) := by decide +kernel
theorem dL_others_494 : decode cL_others 494 = .ok (.if_icmp .ne 19, 3) := by decide +kernel
theorem dL_others_497 : decode cL_others 497 = .ok (.iload 9, 2) := by decide +kernel
theorem dL_others_499 : decode cL_others 499 = .ok (.aload_n 0, 1) := by decide +kernel
theorem dL_others_500 : decode cL_others 500 = .ok (.getfield 10, 3) := by decide +kernel
theorem dL_others_503 : decode cL_others 503 = .ok (.invokevirtual 190, 3) := by decide +kernel
theorem dL_others_506 : decode cL_others 506 = .ok (.if_icmp .ne 7, 3) := by decide +kernel
theorem dL_others_509 : decode cL_others 509 = .ok (.iconst 1, 1) := by decide +kernel
theorem dL_others_510 : decode cL_others 510 = .ok (.goto 4, 3) := by decide +kernel
theorem dL_others_513 : decode cL_others 513 = .ok (.iconst 0, 1) := by decide +kernel
theorem dL_others_514 : decode cL_others 514 = .ok (.ireturn, 1) := by decide +kernel
theorem dL_others_515 : decode cL_others 515 = .ok (.iload_n 1, 1) := by decide +kernel
theorem dL_others_516 : decode cL_others 516 = .ok (.ifCond .ne 5, 3) := by decide +kernel
theorem dL_others_519 : decode cL_others 519 = .ok (.iconst 1, 1) := by decide +kernel
theorem dL_others_520 : decode cL_others 520 = .ok (.ireturn, 1) := by decide +kernel
theorem dL_others_521 : decode cL_others 521 = .ok (.aload_n 0, 1) := by decide +kernel
theorem dL_others_522 : decode cL_others 522 = .ok (.getfield 10, 3) := by decide +kernel
theorem dL_others_525 : decode cL_others 525 = .ok (.aload_n 0, 1) := by decide +kernel
theorem dL_others_526 : decode cL_others 526 = .ok (.iload_n 1, 1) := by decide +kernel
theorem dL_others_527 : decode cL_others 527 = .ok (.invokevirtual 139, 3) := by decide +kernel
theorem dL_others_530 : decode cL_others 530 = .ok (.invokevirtual 210, 3) := by decide +kernel
theorem dL_others_533 : decode cL_others 533 = .ok (.istore 7, 2) := by decide +kernel
theorem dL_others_535 : decode cL_others 535 = .ok (.aload_n 0, 1) := by decide +kernel
theorem dL_others_536 : decode cL_others 536 = .ok (.getfield 10, 3) := by decide +kernel
theorem dL_others_539 : decode cL_others 539 = .ok (.iload 7, 2) := by decide +kernel
theorem dL_others_541 : decode cL_others 541 = .ok (.invokestatic 267, 3) := by decide +kernel
theorem dL_others_544 : decode cL_others 544 = .ok (.istore 8, 2) := by decide +kernel
theorem dL_others_546 : decode cL_others 546 = .ok (.iload 8, 2) := by decide +kernel
theorem dL_others_548 : decode cL_others 548 = .ok (.iload_n 1, 1) := by decide +kernel
theorem dL_others_549 : decode cL_others 549 = .ok (.iconst 1, 1) := by decide +kernel
theorem dL_others_550 : decode cL_others 550 = .ok (.isub, 1) := by decide +kernel
theorem dL_others_551 : decode cL_others 551 = .ok (.if_icmp .ne 35, 3) := by decide +kernel
theorem dL_others_554 : decode cL_others 554 = .ok (.aload_n 0, 1) := by decide +kernel
theorem dL_others_555 : decode cL_others 555 = .ok (.getfield 10, 3) := by decide +kernel
theorem dL_others_558 : decode cL_others 558 = .ok (.iload 7, 2) := by decide +kernel
theorem dL_others_560 : decode cL_others 560 = .ok (.iconst 2, 1) := by decide +kernel
theorem dL_others_561 : decode cL_others 561 = .ok (.invokestatic 200, 3) := by decide +kernel
theorem dL_others_564 : decode cL_others 564 = .ok (.iconst 4, 1) := by decide +kernel
theorem dL_others_565 : decode cL_others 565 = .ok (.if_icmp .ne 21, 3) := by decide +kernel
theorem dL_others_568 : decode cL_others 568 = .ok (.aload_n 0, 1) := by decide +kernel
theorem dL_others_569 : decode cL_others 569 = .ok (.getfield 10, 3) := by decide +kernel
theorem dL_others_572 : decode cL_others 572 = .ok (.bipush 7, 2) := by decide +kernel
theorem dL_others_574 : decode cL_others 574 = .ok (.invokestatic 196, 3) := by decide +kernel
theorem dL_others_577 : decode cL_others 577 = .ok (.iload 6, 2) := by decide +kernel
theorem dL_others_579 : decode cL_others 579 = .ok (.if_icmp .ne 7, 3) := by decide +kernel
theorem dL_others_582 : decode cL_others 582 = .ok (.iconst 1, 1) := by decide +kernel
theorem dL_others_583 : decode cL_others 583 = .ok (.goto 4, 3) := by decide +kernel
theorem dL_others_586 : decode cL_others 586 = .ok (.iconst 0, 1) := by decide +kernel
theorem dL_others_587 : decode cL_others 587 = .ok (.ireturn, 1) := by decide +kernel
