set_option maxRecDepth 20000 in
theorem ggL_best_L_draw : GoodIn wsL_best wsL_draw := goodIn_r _ [6, 7, 8, 9, 10, 11, 12, 13, 14, 15, 16, 17, 5, 18, 19, 20, 230, 231, 232, 233] (by decide +kernel) (by decide +kernel)
set_option maxRecDepth 20000 in
theorem gL_best_L_draw : GoodIn wsL_best (wsV RL 139 RL yL_draw wsL_draw) := goodIn_app (goodIn_of _ (by decide +kernel)) ggL_best_L_draw
set_option maxRecDepth 20000 in
theorem ggL_best_L_bestFirst : GoodIn wsL_best wsL_bestFirst := goodIn_ca (goodIn_r _ [23, 24, 25, 26, 27, 28, 29, 30, 31, 32, 33, 34, 35, 36, 37, 38, 39, 40, 41, 42, 43, 44, 45, 46, 47, 48, 49, 50, 51, 52, 53, 54, 55, 56, 57, 58, 59, 60, 61, 62, 63, 64, 65, 66, 67, 68, 69, 70, 71, 72, 73, 74, 75, 76, 77, 78, 79, 80, 81, 82, 83, 84, 85, 86, 87, 88, 89, 90, 91, 92, 93, 94, 95, 96, 97, 98, 99, 100, 101, 102, 103, 104, 105, 106, 107, 108, 109, 110, 111, 112, 113, 114, 115, 116, 117, 118, 119, 120, 121, 122, 123, 124, 125, 126, 127, 128, 129, 130, 131, 132, 133, 134, 135, 136, 137, 138, 139, 140, 141, 142, 143, 144, 145, 146, 147, 148, 149, 150, 234, 235, 236, 237, 238, 239, 240, 241, 242, 243, 244, 245, 246, 247, 248, 249, 250, 251, 252, 253, 254, 255] (by decide +kernel) (by decide +kernel)) (goodIn_sub (fun _ h => List.mem_cons_of_mem _ (List.mem_append_left _ (List.mem_append_left _ (List.mem_append_right _ h)))) (by decide +kernel))
set_option maxRecDepth 20000 in
theorem gL_best_L_bestFirst : GoodIn wsL_best (va_wsS RL 257 yL_bestFirst wsL_bestFirst) := goodIn_app (goodIn_of _ (by decide +kernel)) ggL_best_L_bestFirst
set_option maxRecDepth 20000 in
theorem ggL_best_L_count : GoodIn wsL_best wsL_count := goodIn_ca (goodIn_r _ [153, 24, 154, 155, 156, 28, 157, 30, 31, 158, 159, 32, 33, 234, 235, 236, 237, 238, 239, 240, 241, 242, 256, 257, 258, 243, 244, 245, 246, 247, 248, 249, 250, 251, 252, 253, 254, 255] (by decide +kernel) (by decide +kernel)) (goodIn_sub (fun _ h => List.mem_cons_of_mem _ (List.mem_append_left _ (List.mem_append_left _ (List.mem_append_right _ h)))) (by decide +kernel))
set_option maxRecDepth 20000 in
theorem gL_best_L_count : GoodIn wsL_best (va_wsS RL 196 yL_count wsL_count) := goodIn_app (goodIn_of _ (by decide +kernel)) ggL_best_L_count
set_option maxRecDepth 20000 in
theorem ggL_best_L_save : GoodIn wsL_best wsL_save := goodIn_ca (goodIn_r _ [162, 24, 163, 164, 165, 28, 166, 30, 31, 167, 32, 168, 36, 37, 38, 39, 40, 41, 42, 43, 44, 45, 46, 47, 48, 49, 50, 51, 52, 53, 54, 55, 56, 57, 234, 235, 236, 237, 238, 239, 240, 241, 242, 243, 244, 245, 246, 247, 248, 249, 250, 251, 252, 253, 254, 255] (by decide +kernel) (by decide +kernel)) (goodIn_sub (fun _ h => List.mem_cons_of_mem _ (List.mem_append_left _ (List.mem_append_left _ (List.mem_append_right _ h)))) (by decide +kernel))
set_option maxRecDepth 20000 in
theorem gL_best_L_save : GoodIn wsL_best (va_wsS RL 253 yL_save wsL_save) := goodIn_app (goodIn_of _ (by decide +kernel)) ggL_best_L_save
set_option maxRecDepth 20000 in
theorem ggL_best_L_wave : GoodIn wsL_best wsL_wave := goodIn_ca (goodIn_r _ [171, 172, 173, 174, 175, 28, 176, 177, 178, 179, 180, 181, 182, 32, 183, 184, 185, 39, 186, 41, 49, 187, 188, 189, 190, 191, 192, 193, 194, 195, 158, 196, 197, 198, 199, 200, 201, 202, 203, 204, 37, 38, 40, 42, 43, 44, 45, 46, 47, 48, 50, 51, 52, 53, 54, 55, 56, 57, 58, 59, 60, 61, 234, 235, 236, 237, 238, 239, 240, 241, 242, 243, 244, 245, 246, 247, 248, 249, 250, 251, 252, 253, 254, 255, 256, 257, 258] (by decide +kernel) (by decide +kernel)) (goodIn_sub (fun _ h => List.mem_cons_of_mem _ (List.mem_append_left _ (List.mem_append_right _ h))) (by decide +kernel))
set_option maxRecDepth 20000 in
theorem gL_best_L_wave : GoodIn wsL_best (va_wsS RL 259 yL_wave wsL_wave) := goodIn_app (goodIn_of _ (by decide +kernel)) ggL_best_L_wave
set_option maxRecDepth 20000 in
theorem ggL_best_L_boardIn : GoodIn wsL_best wsL_boardIn := goodIn_ca (goodIn_r _ [207, 24, 208, 209, 210, 28, 211, 30, 31, 34, 32, 36, 37, 38, 39, 40, 41, 42, 43, 44, 45, 46, 47, 48, 49, 50, 51, 52, 53, 54, 55, 56, 57, 62, 63, 64, 65, 66, 67, 68, 69, 70, 71, 72, 73, 74, 75, 76, 77, 78, 79, 80, 81, 82, 83, 84, 85, 86, 87, 88, 89, 90, 91, 92, 93, 94, 95, 96, 97, 98, 99, 100, 101, 102, 103, 104, 105, 106, 107, 108, 109, 110, 111, 112, 113, 114, 115, 116, 117, 118, 119, 120, 121, 122, 123, 124, 125, 126, 127, 128, 129, 130, 131, 132, 133, 134, 135, 136, 137, 138, 139, 140, 141, 142, 143, 144, 145, 146, 147, 148, 149, 234, 235, 236, 237, 238, 239, 240, 241, 242, 243, 244, 245, 246, 247, 248, 249, 250, 251, 252, 253, 254, 255] (by decide +kernel) (by decide +kernel)) (goodIn_sub (fun _ h => List.mem_cons_of_mem _ (List.mem_append_left _ (List.mem_append_left _ (List.mem_append_right _ h)))) (by decide +kernel))
set_option maxRecDepth 20000 in
theorem gL_best_L_boardIn : GoodIn wsL_best (va_wsS RL 237 yL_boardIn wsL_boardIn) := goodIn_app (goodIn_of _ (by decide +kernel)) ggL_best_L_boardIn
set_option maxRecDepth 20000 in
theorem ggL_best_X9_queued : GoodIn wsL_best wsX9_queued := goodIn_r _ [215, 32, 33, 35, 150, 136, 28, 137, 234, 235, 236, 237, 238, 239, 240, 241, 242, 243, 244, 245, 246, 247, 248, 249, 250, 251, 252, 253, 254, 255] (by decide +kernel) (by decide +kernel)
set_option maxRecDepth 20000 in
theorem gL_best_X9_queued : GoodIn wsL_best (wsV RL 210 RX9 yX9_queued wsX9_queued) := goodIn_app (goodIn_of _ (by decide +kernel)) ggL_best_X9_queued
set_option maxRecDepth 20000 in
theorem ggL_best_L_restore : GoodIn wsL_best wsL_restore := goodIn_ca (goodIn_ca (goodIn_r _ [218, 24, 219, 220, 221, 222, 28, 223, 30, 31, 224, 225, 167, 168, 32, 158, 36, 37, 38, 39, 40, 41, 42, 43, 44, 45, 46, 47, 48, 49, 50, 51, 52, 53, 54, 55, 56, 57, 226, 227, 228, 199, 229, 203, 234, 235, 236, 237, 238, 239, 240, 241, 242, 243, 244, 245, 246, 247, 248, 249, 250, 251, 252, 253, 254, 255, 256, 257, 258] (by decide +kernel) (by decide +kernel)) (goodIn_sub (fun _ h => List.mem_cons_of_mem _ (List.mem_append_left _ (List.mem_append_left _ (List.mem_append_right _ h)))) (by decide +kernel))) (goodIn_sub (fun _ h => List.mem_cons_of_mem _ (List.mem_append_right _ h)) (by decide +kernel))
set_option maxRecDepth 20000 in
theorem gL_best_L_restore : GoodIn wsL_best (va_wsS RL 255 yL_restore wsL_restore) := goodIn_app (goodIn_of _ (by decide +kernel)) ggL_best_L_restore
theorem dL_best_0 : decode cL_best 0 = .ok (.iconst 1, 1) := by decide +kernel
theorem dL_best_1 : decode cL_best 1 = .ok (.aload_n 0, 1) := by decide +kernel
theorem dL_best_2 : decode cL_best 2 = .ok (.bipush 40, 2) := by decide +kernel
theorem dL_best_4 : decode cL_best 4 = .ok (.invokevirtual 139, 3) := by decide +kernel
theorem dL_best_7 : decode cL_best 7 = .ok (.iadd, 1) := by decide +kernel
theorem dL_best_8 : decode cL_best 8 = .ok (.istore_n 1, 1) := by decide +kernel
theorem dL_best_9 : decode cL_best 9 = .ok (.aload_n 0, 1) := by decide +kernel
theorem dL_best_10 : decode cL_best 10 = .ok (.getfield 10, 3) := by decide +kernel
theorem dL_best_13 : decode cL_best 13 = .ok (.iload_n 1, 1) := by decide +kernel
theorem dL_best_14 : decode cL_best 14 = .ok (.invokestatic 257, 3) := by decide +kernel
theorem dL_best_17 : decode cL_best 17 = .ok (.istore_n 2, 1) := by decide +kernel
theorem dL_best_18 : decode cL_best 18 = .ok (.aload_n 0, 1) := by decide +kernel
theorem dL_best_19 : decode cL_best 19 = .ok (.getfield 10, 3) := by decide +kernel
theorem dL_best_22 : decode cL_best 22 = .ok (.iconst 1, 1) := by decide +kernel
theorem dL_best_23 : decode cL_best 23 = .ok (.invokestatic 196, 3) := by decide +kernel
theorem dL_best_26 : decode cL_best 26 = .ok (.istore_n 3, 1) := by decide +kernel
theorem dL_best_27 : decode cL_best 27 = .ok (.iload_n 3, 1) := by decide +kernel
theorem dL_best_28 : decode cL_best 28 = .ok (.ifCond .ne 14, 3) := by decide +kernel
theorem dL_best_31 : decode cL_best 31 = .ok (.iload_n 2, 1) := by decide +kernel
theorem dL_best_32 : decode cL_best 32 = .ok (.iconst (-1), 1) := by decide +kernel
theorem dL_best_33 : decode cL_best 33 = .ok (.if_icmp .ne 7, 3) := by decide +kernel
theorem dL_best_36 : decode cL_best 36 = .ok (.iconst 1, 1) := by decide +kernel
theorem dL_best_37 : decode cL_best 37 = .ok (.goto 4, 3) := by decide +kernel
theorem dL_best_40 : decode cL_best 40 = .ok (.iconst 0, 1) := by decide +kernel
theorem dL_best_41 : decode cL_best 41 = .ok (.ireturn, 1) := by decide +kernel
theorem dL_best_42 : decode cL_best 42 = .ok (.aload_n 0, 1) := by decide +kernel
theorem dL_best_43 : decode cL_best 43 = .ok (.getfield 10, 3) := by decide +kernel
theorem dL_best_46 : decode cL_best 46 = .ok (.iconst 1, 1) := by decide +kernel
theorem dL_best_47 : decode cL_best 47 = .ok (.invokestatic 253, 3) := by decide +kernel
theorem dL_best_50 : decode cL_best 50 = .ok (.ifCond .ne 7, 3) := by decide +kernel
theorem dL_best_53 : decode cL_best 53 = .ok (.iload_n 2, 1) := by decide +kernel
theorem dL_best_54 : decode cL_best 54 = .ok (.ifCond .ge 5, 3) := by decide +kernel
theorem dL_best_57 : decode cL_best 57 = .ok (.iconst 0, 1) := by decide +kernel
theorem dL_best_58 : decode cL_best 58 = .ok (.ireturn, 1) := by decide +kernel
theorem dL_best_59 : decode cL_best 59 = .ok (.aload_n 0, 1) := by decide +kernel
theorem dL_best_60 : decode cL_best 60 = .ok (.getfield 10, 3) := by decide +kernel
theorem dL_best_63 : decode cL_best 63 = .ok (.iload_n 2, 1) := by decide +kernel
theorem dL_best_64 : decode cL_best 64 = .ok (.invokestatic 259, 3) := by decide +kernel
theorem dL_best_67 : decode cL_best 67 = .ok (.istore 4, 2) := by decide +kernel
theorem dL_best_69 : decode cL_best 69 = .ok (.aload_n 0, 1) := by decide +kernel
theorem dL_best_70 : decode cL_best 70 = .ok (.getfield 10, 3) := by decide +kernel
theorem dL_best_73 : decode cL_best 73 = .ok (.iload_n 1, 1) := by decide +kernel
theorem dL_best_74 : decode cL_best 74 = .ok (.invokestatic 237, 3) := by decide +kernel
theorem dL_best_77 : decode cL_best 77 = .ok (.istore 5, 2) := by decide +kernel
theorem dL_best_79 : decode cL_best 79 = .ok (.iload 4, 2) := by decide +kernel
theorem dL_best_81 : decode cL_best 81 = .ok (.bipush (-2), 2) := by decide +kernel
theorem dL_best_83 : decode cL_best 83 = .ok (.if_icmp .eq 9, 3) := by decide +kernel
theorem dL_best_86 : decode cL_best 86 = .ok (.iload 4, 2) := by decide +kernel
theorem dL_best_88 : decode cL_best 88 = .ok (.iconst 1, 1) := by decide +kernel
theorem dL_best_89 : decode cL_best 89 = .ok (.if_icmp .lt 26, 3) := by decide +kernel
theorem dL_best_92 : decode cL_best 92 = .ok (.aload_n 0, 1) := by decide +kernel
theorem dL_best_93 : decode cL_best 93 = .ok (.getfield 10, 3) := by decide +kernel
theorem dL_best_96 : decode cL_best 96 = .ok (.iconst 0, 1) := by decide +kernel
theorem dL_best_97 : decode cL_best 97 = .ok (.invokevirtual 210, 3) := by decide +kernel
theorem dL_best_100 : decode cL_best 100 = .ok (.iload_n 2, 1) := by decide +kernel
theorem dL_best_101 : decode cL_best 101 = .ok (.if_icmp .ne 14, 3) := by decide +kernel
theorem dL_best_104 : decode cL_best 104 = .ok (.aload_n 0, 1) := by decide +kernel
theorem dL_best_105 : decode cL_best 105 = .ok (.getfield 10, 3) := by decide +kernel
theorem dL_best_108 : decode cL_best 108 = .ok (.iconst 1, 1) := by decide +kernel
theorem dL_best_109 : decode cL_best 109 = .ok (.invokestatic 255, 3) := by decide +kernel
theorem dL_best_112 : decode cL_best 112 = .ok (.ifCond .eq 5, 3) := by decide +kernel
theorem dL_best_115 : decode cL_best 115 = .ok (.iconst 0, 1) := by decide +kernel
theorem dL_best_116 : decode cL_best 116 = .ok (.ireturn, 1) := by decide +kernel
theorem dL_best_117 : decode cL_best 117 = .ok (.aload_n 0, 1) := by decide +kernel
theorem dL_best_118 : decode cL_best 118 = .ok (.getfield 10, 3) := by decide +kernel
theorem dL_best_121 : decode cL_best 121 = .ok (.aload_n 0, 1) := by decide +kernel
theorem dL_best_122 : decode cL_best 122 = .ok (.iload_n 3, 1) := by decide +kernel
theorem dL_best_123 : decode cL_best 123 = .ok (.invokevirtual 139, 3) := by decide +kernel
theorem dL_best_126 : decode cL_best 126 = .ok (.invokevirtual 210, 3) := by decide +kernel
theorem dL_best_129 : decode cL_best 129 = .ok (.istore 6, 2) := by decide +kernel
theorem dL_best_131 : decode cL_best 131 = .ok (.aload_n 0, 1) := by decide +kernel
theorem dL_best_132 : decode cL_best 132 = .ok (.getfield 10, 3) := by decide +kernel
theorem dL_best_135 : decode cL_best 135 = .ok (.iload 6, 2) := by decide +kernel
theorem dL_best_137 : decode cL_best 137 = .ok (.invokestatic 259, 3) := by decide +kernel
theorem dL_best_140 : decode cL_best 140 = .ok (.istore 4, 2) := by decide +kernel
theorem dL_best_142 : decode cL_best 142 = .ok (.aload_n 0, 1) := by decide +kernel
theorem dL_best_143 : decode cL_best 143 = .ok (.getfield 10, 3) := by decide +kernel
theorem dL_best_146 : decode cL_best 146 = .ok (.iload_n 1, 1) := by decide +kernel
theorem dL_best_147 : decode cL_best 147 = .ok (.invokestatic 237, 3) := by decide +kernel
theorem dL_best_150 : decode cL_best 150 = .ok (.iload 5, 2) := by decide +kernel
theorem dL_best_152 : decode cL_best 152 = .ok (.if_icmp .gt 18, 3) := by decide +kernel
theorem dL_best_155 : decode cL_best 155 = .ok (.aload_n 0, 1) := by decide +kernel
theorem dL_best_156 : decode cL_best 156 = .ok (.getfield 10, 3) := by decide +kernel
theorem dL_best_159 : decode cL_best 159 = .ok (.iconst 1, 1) := by decide +kernel
theorem dL_best_160 : decode cL_best 160 = .ok (.invokestatic 255, 3) := by decide +kernel
theorem dL_best_163 : decode cL_best 163 = .ok (.ifCond .ne 7, 3) := by decide +kernel
theorem dL_best_166 : decode cL_best 166 = .ok (.iconst 1, 1) := by decide +kernel
theorem dL_best_167 : decode cL_best 167 = .ok (.goto 4, 3) := by decide +kernel
theorem dL_best_170 : decode cL_best 170 = .ok (.iconst 0, 1) := by decide +kernel
theorem dL_best_171 : decode cL_best 171 = .ok (.ireturn, 1) := by decide +kernel
