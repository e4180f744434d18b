set_option maxRecDepth 20000 in
theorem ggL_ticks_L_count : GoodIn wsL_ticks wsL_count := goodIn_ca (goodIn_r _ [12, 13, 14, 15, 16, 17, 18, 19, 20, 21, 22, 23, 24, 233, 234, 235, 236, 237, 238, 239, 240, 241, 242, 243, 244, 245, 246, 247, 248, 249, 250, 251, 252, 253, 254, 255, 256, 257] (by decide +kernel) (by decide +kernel)) (goodIn_sub (fun _ h => List.mem_cons_of_mem _ (List.mem_append_left _ (List.mem_append_right _ h))) (by decide +kernel))
set_option maxRecDepth 20000 in
theorem gL_ticks_L_count : GoodIn wsL_ticks (va_wsS RL 196 yL_count wsL_count) := goodIn_app (goodIn_of _ (by decide +kernel)) ggL_ticks_L_count
set_option maxRecDepth 20000 in
theorem ggL_ticks_X9_queued : GoodIn wsL_ticks wsX9_queued := goodIn_r _ [28, 23, 24, 29, 30, 31, 17, 32, 233, 234, 235, 236, 237, 238, 239, 240, 241, 245, 246, 247, 248, 249, 250, 251, 252, 253, 254, 255, 256, 257] (by decide +kernel) (by decide +kernel)
set_option maxRecDepth 20000 in
theorem gL_ticks_X9_queued : GoodIn wsL_ticks (wsV RL 210 RX9 yX9_queued wsX9_queued) := goodIn_app (goodIn_of _ (by decide +kernel)) ggL_ticks_X9_queued
set_option maxRecDepth 20000 in
theorem ggL_ticks_X9_startIn : GoodIn wsL_ticks wsX9_startIn := goodIn_r _ [36, 37, 23, 24, 38, 39, 40, 41, 42, 43, 44, 45, 46, 47, 48, 49, 50, 51, 52, 53, 54, 55, 56, 57, 58, 59, 60, 61, 62, 63, 64, 65, 66, 67, 68, 69, 70, 71, 72, 73, 74, 75, 76, 77, 78, 79, 80, 17, 81, 82, 83, 84, 85, 86, 87, 88, 89, 90, 91, 92, 93, 94, 95, 96, 97, 98, 99, 100, 101, 102, 103, 104, 105, 106, 107, 108, 109, 110, 111, 112, 113, 114, 115, 116, 117, 118, 119, 120, 121, 122, 123, 124, 125, 126, 127, 128, 129, 130, 131, 132, 133, 31, 32, 134, 135, 136, 137, 138, 139, 140, 141, 142, 143, 144, 145, 233, 234, 235, 236, 237, 238, 239, 240, 241, 245, 246, 247, 248, 249, 250, 251, 252, 253, 254, 255, 256, 257] (by decide +kernel) (by decide +kernel)
set_option maxRecDepth 20000 in
theorem gL_ticks_X9_startIn : GoodIn wsL_ticks (wsV RL 234 RX9 yX9_startIn wsX9_startIn) := goodIn_app (goodIn_of _ (by decide +kernel)) ggL_ticks_X9_startIn
set_option maxRecDepth 20000 in
theorem ggL_ticks_L_boardIn : GoodIn wsL_ticks wsL_boardIn := goodIn_ca (goodIn_r _ [148, 13, 149, 150, 151, 17, 152, 19, 20, 37, 23, 38, 39, 40, 41, 42, 43, 44, 45, 46, 47, 48, 49, 50, 51, 52, 53, 54, 55, 56, 57, 58, 59, 60, 61, 62, 63, 64, 65, 66, 67, 68, 69, 70, 71, 72, 73, 74, 75, 76, 77, 78, 79, 80, 81, 82, 83, 84, 85, 86, 87, 88, 89, 90, 91, 92, 93, 94, 95, 96, 97, 98, 99, 100, 101, 102, 103, 104, 105, 106, 107, 108, 109, 110, 111, 112, 113, 114, 115, 116, 117, 118, 119, 120, 121, 122, 123, 124, 125, 126, 127, 128, 129, 130, 131, 132, 133, 31, 32, 134, 135, 136, 137, 138, 139, 140, 141, 142, 143, 144, 145, 233, 234, 235, 236, 237, 238, 239, 240, 241, 245, 246, 247, 248, 249, 250, 251, 252, 253, 254, 255, 256, 257] (by decide +kernel) (by decide +kernel)) (goodIn_sub (fun _ h => List.mem_cons_of_mem _ (List.mem_append_left _ (List.mem_append_right _ h))) (by decide +kernel))
set_option maxRecDepth 20000 in
theorem gL_ticks_L_boardIn : GoodIn wsL_ticks (va_wsS RL 237 yL_boardIn wsL_boardIn) := goodIn_app (goodIn_of _ (by decide +kernel)) ggL_ticks_L_boardIn
set_option maxRecDepth 20000 in
theorem ggL_ticks_X9_wakesIn : GoodIn wsL_ticks wsX9_wakesIn := goodIn_r _ [156, 37, 23, 24, 38, 39, 40, 41, 42, 43, 44, 45, 46, 47, 48, 49, 50, 51, 52, 53, 54, 55, 56, 57, 58, 59, 60, 61, 62, 63, 64, 65, 66, 67, 68, 69, 70, 71, 72, 73, 74, 75, 76, 77, 78, 79, 80, 17, 81, 82, 83, 84, 85, 86, 87, 88, 89, 90, 91, 92, 93, 94, 95, 96, 97, 98, 99, 100, 101, 102, 103, 104, 105, 106, 107, 108, 109, 110, 111, 112, 113, 114, 115, 116, 117, 118, 119, 120, 121, 122, 123, 124, 125, 126, 127, 128, 129, 130, 131, 132, 133, 31, 32, 134, 135, 136, 137, 138, 139, 140, 141, 142, 143, 144, 145, 233, 234, 235, 236, 237, 238, 239, 240, 241, 245, 246, 247, 248, 249, 250, 251, 252, 253, 254, 255, 256, 257] (by decide +kernel) (by decide +kernel)
set_option maxRecDepth 20000 in
theorem gL_ticks_X9_wakesIn : GoodIn wsL_ticks (wsV RL 239 RX9 yX9_wakesIn wsX9_wakesIn) := goodIn_app (goodIn_of _ (by decide +kernel)) ggL_ticks_X9_wakesIn
set_option maxRecDepth 20000 in
theorem ggL_ticks_L_setting : GoodIn wsL_ticks wsL_setting := goodIn_ca (goodIn_r _ [159, 13, 160, 161, 162, 17, 163, 19, 20, 23, 164, 233, 234, 235, 236, 237, 238, 239, 240, 241, 245, 246, 247, 248, 249, 250, 251, 252, 253, 254, 255, 256, 257] (by decide +kernel) (by decide +kernel)) (goodIn_sub (fun _ h => List.mem_cons_of_mem _ (List.mem_append_left _ (List.mem_append_right _ h))) (by decide +kernel))
set_option maxRecDepth 20000 in
theorem gL_ticks_L_setting : GoodIn wsL_ticks (va_wsS RL 198 yL_setting wsL_setting) := goodIn_app (goodIn_of _ (by decide +kernel)) ggL_ticks_L_setting
set_option maxRecDepth 20000 in
theorem ggL_ticks_L_deck : GoodIn wsL_ticks wsL_deck := goodIn_ca (goodIn_r _ [167, 13, 168, 169, 170, 17, 171, 19, 20, 23, 172, 69, 70, 41, 71, 48, 43, 72, 73, 74, 75, 233, 234, 235, 236, 237, 238, 239, 240, 241, 245, 246, 247, 248, 249, 250, 251, 252, 253, 254, 255, 256, 257] (by decide +kernel) (by decide +kernel)) (goodIn_sub (fun _ h => List.mem_cons_of_mem _ (List.mem_append_left _ (List.mem_append_right _ h))) (by decide +kernel))
set_option maxRecDepth 20000 in
theorem gL_ticks_L_deck : GoodIn wsL_ticks (va_wsS RL 213 yL_deck wsL_deck) := goodIn_app (goodIn_of _ (by decide +kernel)) ggL_ticks_L_deck
set_option maxRecDepth 20000 in
theorem ggL_ticks_L_tick : GoodIn wsL_ticks wsL_tick := goodIn_ca (goodIn_r _ [175, 13, 176, 177, 178, 17, 179, 19, 20, 180, 181, 182, 183, 23, 184, 185, 186, 187, 21, 188, 189, 190, 191, 192, 193, 194, 195, 196, 197, 39, 40, 41, 42, 43, 44, 45, 46, 47, 48, 49, 50, 51, 52, 53, 54, 55, 56, 57, 58, 59, 60, 61, 62, 63, 64, 65, 66, 67, 68, 69, 70, 71, 72, 73, 74, 75, 76, 77, 78, 79, 80, 81, 82, 83, 84, 85, 86, 87, 88, 89, 90, 91, 92, 93, 94, 95, 96, 97, 98, 99, 100, 101, 102, 103, 104, 105, 106, 107, 108, 109, 110, 111, 112, 113, 114, 115, 116, 117, 118, 119, 120, 121, 122, 123, 124, 125, 126, 127, 128, 129, 130, 131, 132, 133, 31, 32, 134, 135, 136, 137, 138, 139, 140, 141, 142, 143, 144, 145, 233, 234, 235, 236, 237, 238, 239, 240, 241, 242, 243, 244, 245, 246, 247, 248, 249, 250, 251, 252, 253, 254, 255, 256, 257] (by decide +kernel) (by decide +kernel)) (goodIn_sub (fun _ h => List.mem_cons_of_mem _ (List.mem_append_left _ (List.mem_append_right _ h))) (by decide +kernel))
set_option maxRecDepth 20000 in
theorem gL_ticks_L_tick : GoodIn wsL_ticks (va_wsS RL 242 yL_tick wsL_tick) := goodIn_app (goodIn_of _ (by decide +kernel)) ggL_ticks_L_tick
set_option maxRecDepth 20000 in
theorem ggL_ticks_L_car : GoodIn wsL_ticks wsL_car := goodIn_ca (goodIn_ca (goodIn_r _ [200, 201, 13, 202, 203, 204, 17, 205, 206, 207, 19, 20, 23, 24, 208, 99, 100, 41, 101, 50, 233, 234, 235, 236, 237, 238, 239, 240, 241, 245, 246, 247, 248, 249, 250, 251, 252, 253, 254, 255, 256, 257] (by decide +kernel) (by decide +kernel)) (goodIn_sub (fun _ h => List.mem_cons_of_mem _ (List.mem_append_right _ h)) (by decide +kernel))) (goodIn_sub (fun _ h => List.mem_cons_of_mem _ (List.mem_append_left _ (List.mem_append_right _ h))) (by decide +kernel))
set_option maxRecDepth 20000 in
theorem gL_ticks_L_car : GoodIn wsL_ticks (va_wsS RL 200 yL_car wsL_car) := goodIn_app (goodIn_of _ (by decide +kernel)) ggL_ticks_L_car
set_option maxRecDepth 20000 in
theorem ggL_ticks_L_call : GoodIn wsL_ticks wsL_call := goodIn_ca (goodIn_ca (goodIn_r _ [211, 201, 13, 212, 213, 214, 17, 215, 206, 207, 19, 20, 23, 24, 216, 30, 31, 32, 233, 234, 235, 236, 237, 238, 239, 240, 241, 245, 246, 247, 248, 249, 250, 251, 252, 253, 254, 255, 256, 257] (by decide +kernel) (by decide +kernel)) (goodIn_sub (fun _ h => List.mem_cons_of_mem _ (List.mem_append_right _ h)) (by decide +kernel))) (goodIn_sub (fun _ h => List.mem_cons_of_mem _ (List.mem_append_left _ (List.mem_append_right _ h))) (by decide +kernel))
set_option maxRecDepth 20000 in
theorem gL_ticks_L_call : GoodIn wsL_ticks (va_wsS RL 247 yL_call wsL_call) := goodIn_app (goodIn_of _ (by decide +kernel)) ggL_ticks_L_call
set_option maxRecDepth 20000 in
theorem ggL_ticks_L_whyNot : GoodIn wsL_ticks wsL_whyNot := goodIn_ca (goodIn_r _ [219, 201, 220, 221, 222, 17, 223, 206, 207, 23, 224, 225, 226, 41, 227, 43, 51, 228, 119, 120, 121, 48, 58, 59, 98, 99, 100, 101, 50, 102, 103, 104, 105, 49, 122, 123, 124, 125, 55, 126, 127, 128, 129, 54, 233, 234, 235, 236, 237, 238, 239, 240, 241, 245, 246, 247, 248, 249, 250, 251, 252, 253, 254, 255, 256, 257] (by decide +kernel) (by decide +kernel)) (goodIn_sub (fun _ h => List.mem_cons_of_mem _ (List.mem_append_right _ h)) (by decide +kernel))
set_option maxRecDepth 20000 in
theorem gL_ticks_L_whyNot : GoodIn wsL_ticks (va_wsS RL 249 yL_whyNot wsL_whyNot) := goodIn_app (goodIn_of _ (by decide +kernel)) ggL_ticks_L_whyNot
theorem dL_ticks_0 : decode cL_ticks 0 = .ok (.aload_n 0, 1) := by decide +kernel
theorem dL_ticks_1 : decode cL_ticks 1 = .ok (.getfield 10, 3) := by decide +kernel
theorem dL_ticks_4 : decode cL_ticks 4 = .ok (.bipush 8, 2) := by decide +kernel
theorem dL_ticks_6 : decode cL_ticks 6 = .ok (.invokestatic 196, 3) := by decide +kernel
theorem dL_ticks_9 : decode cL_ticks 9 = .ok (.istore_n 1, 1) := by decide +kernel
theorem dL_ticks_10 : decode cL_ticks 10 = .ok (.aload_n 0, 1) := by decide +kernel
theorem dL_ticks_11 : decode cL_ticks 11 = .ok (.getfield 10, 3) := by decide +kernel
theorem dL_ticks_14 : decode cL_ticks 14 = .ok (.bipush 9, 2) := by decide +kernel
theorem dL_ticks_16 : decode cL_ticks 16 = .ok (.invokestatic 196, 3) := by decide +kernel
theorem dL_ticks_19 : decode cL_ticks 19 = .ok (.istore_n 2, 1) := by decide +kernel
theorem dL_ticks_20 : decode cL_ticks 20 = .ok (.aload_n 0, 1) := by decide +kernel
theorem dL_ticks_21 : decode cL_ticks 21 = .ok (.getfield 10, 3) := by decide +kernel
theorem dL_ticks_24 : decode cL_ticks 24 = .ok (.bipush 10, 2) := by decide +kernel
theorem dL_ticks_26 : decode cL_ticks 26 = .ok (.invokestatic 196, 3) := by decide +kernel
theorem dL_ticks_29 : decode cL_ticks 29 = .ok (.istore_n 3, 1) := by decide +kernel
theorem dL_ticks_30 : decode cL_ticks 30 = .ok (.aload_n 0, 1) := by decide +kernel
theorem dL_ticks_31 : decode cL_ticks 31 = .ok (.getfield 10, 3) := by decide +kernel
theorem dL_ticks_34 : decode cL_ticks 34 = .ok (.iconst 4, 1) := by decide +kernel
theorem dL_ticks_35 : decode cL_ticks 35 = .ok (.invokestatic 196, 3) := by decide +kernel
theorem dL_ticks_38 : decode cL_ticks 38 = .ok (.istore 4, 2) := by decide +kernel
theorem dL_ticks_40 : decode cL_ticks 40 = .ok (.aload_n 0, 1) := by decide +kernel
theorem dL_ticks_41 : decode cL_ticks 41 = .ok (.getfield 10, 3) := by decide +kernel
theorem dL_ticks_44 : decode cL_ticks 44 = .ok (.iconst 5, 1) := by decide +kernel
theorem dL_ticks_45 : decode cL_ticks 45 = .ok (.invokestatic 196, 3) := by decide +kernel
theorem dL_ticks_48 : decode cL_ticks 48 = .ok (.istore 5, 2) := by decide +kernel
theorem dL_ticks_50 : decode cL_ticks 50 = .ok (.aload_n 0, 1) := by decide +kernel
theorem dL_ticks_51 : decode cL_ticks 51 = .ok (.getfield 10, 3) := by decide +kernel
theorem dL_ticks_54 : decode cL_ticks 54 = .ok (.bipush 6, 2) := by decide +kernel
theorem dL_ticks_56 : decode cL_ticks 56 = .ok (.invokestatic 196, 3) := by decide +kernel
theorem dL_ticks_59 : decode cL_ticks 59 = .ok (.istore 6, 2) := by decide +kernel
theorem dL_ticks_61 : decode cL_ticks 61 = .ok (.aload_n 0, 1) := by decide +kernel
theorem dL_ticks_62 : decode cL_ticks 62 = .ok (.getfield 10, 3) := by decide +kernel
theorem dL_ticks_65 : decode cL_ticks 65 = .ok (.iconst 0, 1) := by decide +kernel
theorem dL_ticks_66 : decode cL_ticks 66 = .ok (.invokevirtual 210, 3) := by decide +kernel
theorem dL_ticks_69 : decode cL_ticks 69 = .ok (.istore 7, 2) := by decide +kernel
theorem dL_ticks_71 : decode cL_ticks 71 = .ok (.aload_n 0, 1) := by decide +kernel
theorem dL_ticks_72 : decode cL_ticks 72 = .ok (.getfield 10, 3) := by decide +kernel
theorem dL_ticks_75 : decode cL_ticks 75 = .ok (.bipush 11, 2) := by decide +kernel
theorem dL_ticks_77 : decode cL_ticks 77 = .ok (.invokestatic 196, 3) := by decide +kernel
theorem dL_ticks_80 : decode cL_ticks 80 = .ok (.istore 8, 2) := by decide +kernel
theorem dL_ticks_82 : decode cL_ticks 82 = .ok (.aload_n 0, 1) := by decide +kernel
theorem dL_ticks_83 : decode cL_ticks 83 = .ok (.getfield 10, 3) := by decide +kernel
theorem dL_ticks_86 : decode cL_ticks 86 = .ok (.bipush 12, 2) := by decide +kernel
theorem dL_ticks_88 : decode cL_ticks 88 = .ok (.invokestatic 196, 3) := by decide +kernel
theorem dL_ticks_91 : decode cL_ticks 91 = .ok (.istore 9, 2) := by decide +kernel
theorem dL_ticks_93 : decode cL_ticks 93 = .ok (.aload_n 0, 1) := by decide +kernel
theorem dL_ticks_94 : decode cL_ticks 94 = .ok (.getfield 10, 3) := by decide +kernel
theorem dL_ticks_97 : decode cL_ticks 97 = .ok (.invokevirtual 234, 3) := by decide +kernel
theorem dL_ticks_100 : decode cL_ticks 100 = .ok (.istore 10, 2) := by decide +kernel
theorem dL_ticks_102 : decode cL_ticks 102 = .ok (.aload_n 0, 1) := by decide +kernel
theorem dL_ticks_103 : decode cL_ticks 103 = .ok (.getfield 10, 3) := by decide +kernel
theorem dL_ticks_106 : decode cL_ticks 106 = .ok (.iconst 1, 1) := by decide +kernel
theorem dL_ticks_107 : decode cL_ticks 107 = .ok (.invokestatic 237, 3) := by decide +kernel
theorem dL_ticks_110 : decode cL_ticks 110 = .ok (.istore 11, 2) := by decide +kernel
theorem dL_ticks_112 : decode cL_ticks 112 = .ok (.aload_n 0, 1) := by decide +kernel
theorem dL_ticks_113 : decode cL_ticks 113 = .ok (.getfield 10, 3) := by decide +kernel
theorem dL_ticks_116 : decode cL_ticks 116 = .ok (.invokevirtual 239, 3) := by decide +kernel
theorem dL_ticks_119 : decode cL_ticks 119 = .ok (.istore 12, 2) := by decide +kernel
theorem dL_ticks_121 : decode cL_ticks 121 = .ok (.aload_n 0, 1) := by decide +kernel
theorem dL_ticks_122 : decode cL_ticks 122 = .ok (.getfield 10, 3) := by decide +kernel
theorem dL_ticks_125 : decode cL_ticks 125 = .ok (.bipush 13, 2) := by decide +kernel
theorem dL_ticks_127 : decode cL_ticks 127 = .ok (.invokestatic 196, 3) := by decide +kernel
theorem dL_ticks_130 : decode cL_ticks 130 = .ok (.istore 13, 2) := by decide +kernel
theorem dL_ticks_132 : decode cL_ticks 132 = .ok (.aload_n 0, 1) := by decide +kernel
theorem dL_ticks_133 : decode cL_ticks 133 = .ok (.getfield 10, 3) := by decide +kernel
theorem dL_ticks_136 : decode cL_ticks 136 = .ok (.bipush 10, 2) := by decide +kernel
theorem dL_ticks_138 : decode cL_ticks 138 = .ok (.invokestatic 198, 3) := by decide +kernel
theorem dL_ticks_141 : decode cL_ticks 141 = .ok (.istore 14, 2) := by decide +kernel
theorem dL_ticks_143 : decode cL_ticks 143 = .ok (.aload_n 0, 1) := by decide +kernel
theorem dL_ticks_144 : decode cL_ticks 144 = .ok (.getfield 10, 3) := by decide +kernel
theorem dL_ticks_147 : decode cL_ticks 147 = .ok (.aload_n 0, 1) := by decide +kernel
theorem dL_ticks_148 : decode cL_ticks 148 = .ok (.getfield 10, 3) := by decide +kernel
theorem dL_ticks_151 : decode cL_ticks 151 = .ok (.iconst 0, 1) := by decide +kernel
theorem dL_ticks_152 : decode cL_ticks 152 = .ok (.invokestatic 196, 3) := by decide +kernel
theorem dL_ticks_155 : decode cL_ticks 155 = .ok (.iconst 1, 1) := by decide +kernel
theorem dL_ticks_156 : decode cL_ticks 156 = .ok (.iadd, 1) := by decide +kernel
theorem dL_ticks_157 : decode cL_ticks 157 = .ok (.invokestatic 213, 3) := by decide +kernel
theorem dL_ticks_160 : decode cL_ticks 160 = .ok (.istore 15, 2) := by decide +kernel
theorem dL_ticks_162 : decode cL_ticks 162 = .ok (.iload 4, 2) := by decide +kernel
theorem dL_ticks_164 : decode cL_ticks 164 = .ok (.iload 15, 2) := by decide +kernel
theorem dL_ticks_166 : decode cL_ticks 166 = .ok (.isub, 1) := by decide +kernel
theorem dL_ticks_167 : decode cL_ticks 167 = .ok (.invokestatic 217, 3) := by decide +kernel
theorem dL_ticks_170 : decode cL_ticks 170 = .ok (.istore 16, 2) := by decide +kernel
theorem dL_ticks_172 : decode cL_ticks 172 = .ok (.aload_n 0, 1) := by decide +kernel
theorem dL_ticks_173 : decode cL_ticks 173 = .ok (.getfield 10, 3) := by decide +kernel
theorem dL_ticks_176 : decode cL_ticks 176 = .ok (.iconst 1, 1) := by decide +kernel
theorem dL_ticks_177 : decode cL_ticks 177 = .ok (.invokestatic 242, 3) := by decide +kernel
theorem dL_ticks_180 : decode cL_ticks 180 = .ok (.istore 17, 2) := by decide +kernel
theorem dL_ticks_182 : decode cL_ticks 182 = .ok (.aload_n 0, 1) := by decide +kernel
theorem dL_ticks_183 : decode cL_ticks 183 = .ok (.getfield 10, 3) := by decide +kernel
theorem dL_ticks_186 : decode cL_ticks 186 = .ok (.iconst 5, 1) := by decide +kernel
theorem dL_ticks_187 : decode cL_ticks 187 = .ok (.invokestatic 196, 3) := by decide +kernel
theorem dL_ticks_190 : decode cL_ticks 190 = .ok (.istore 18, 2) := by decide +kernel
theorem dL_ticks_192 : decode cL_ticks 192 = .ok (.aload_n 0, 1) := by decide +kernel
theorem dL_ticks_193 : decode cL_ticks 193 = .ok (.getfield 10, 3) := by decide +kernel
theorem dL_ticks_196 : decode cL_ticks 196 = .ok (.iconst 4, 1) := by decide +kernel
theorem dL_ticks_197 : decode cL_ticks 197 = .ok (.invokestatic 196, 3) := by decide +kernel
theorem dL_ticks_200 : decode cL_ticks 200 = .ok (.iload 4, 2) := by decide +kernel
theorem dL_ticks_202 : decode cL_ticks 202 = .ok (.isub, 1) := by decide +kernel
theorem dL_ticks_203 : decode cL_ticks 203 = .ok (.invokestatic 217, 3) := by decide +kernel
theorem dL_ticks_206 : decode cL_ticks 206 = .ok (.istore 19, 2) := by decide +kernel
theorem dL_ticks_208 : decode cL_ticks 208 = .ok (.iload 17, 2) := by decide +kernel
theorem dL_ticks_210 : decode cL_ticks 210 = .ok (.iload 11, 2) := by decide +kernel
theorem dL_ticks_212 : decode cL_ticks 212 = .ok (.if_icmp .ne 70, 3) := by decide +kernel
theorem dL_ticks_215 : decode cL_ticks 215 = .ok (.aload_n 0, 1) := by decide +kernel
theorem dL_ticks_216 : decode cL_ticks 216 = .ok (.getfield 10, 3) := by decide +kernel
theorem dL_ticks_219 : decode cL_ticks 219 = .ok (.bipush 13, 2) := by decide +kernel
theorem dL_ticks_221 : decode cL_ticks 221 = .ok (.invokestatic 196, 3) := by decide +kernel
theorem dL_ticks_224 : decode cL_ticks 224 = .ok (.iload 13, 2) := by decide +kernel
theorem dL_ticks_226 : decode cL_ticks 226 = .ok (.iload 17, 2) := by decide +kernel
theorem dL_ticks_228 : decode cL_ticks 228 = .ok (.iadd, 1) := by decide +kernel
theorem dL_ticks_229 : decode cL_ticks 229 = .ok (.if_icmp .ne 53, 3) := by decide +kernel
theorem dL_ticks_232 : decode cL_ticks 232 = .ok (.iload 17, 2) := by decide +kernel
theorem dL_ticks_234 : decode cL_ticks 234 = .ok (.iconst 1, 1) := by decide +kernel
theorem dL_ticks_235 : decode cL_ticks 235 = .ok (.if_icmp .gt 47, 3) := by decide +kernel
theorem dL_ticks_238 : decode cL_ticks 238 = .ok (.iload 17, 2) := by decide +kernel
theorem dL_ticks_240 : decode cL_ticks 240 = .ok (.iconst 1, 1) := by decide +kernel
theorem dL_ticks_241 : decode cL_ticks 241 = .ok (.if_icmp .ne 43, 3) := by decide +kernel
theorem dL_ticks_244 : decode cL_ticks 244 = .ok (.iload_n 1, 1) := by decide +kernel
theorem dL_ticks_245 : decode cL_ticks 245 = .ok (.ifCond .lt 37, 3) := by decide +kernel
theorem dL_ticks_248 : decode cL_ticks 248 = .ok (.aload_n 0, 1) := by decide +kernel
theorem dL_ticks_249 : decode cL_ticks 249 = .ok (.getfield 10, 3) := by decide +kernel
theorem dL_ticks_252 : decode cL_ticks 252 = .ok (.iload_n 1, 1) := by decide +kernel
theorem dL_ticks_253 : decode cL_ticks 253 = .ok (.iconst 2, 1) := by decide +kernel
theorem dL_ticks_254 : decode cL_ticks 254 = .ok (.invokestatic 200, 3) := by decide +kernel
theorem dL_ticks_257 : decode cL_ticks 257 = .ok (.iconst 2, 1) := by decide +kernel
theorem dL_ticks_258 : decode cL_ticks 258 = .ok (.if_icmp .ne 24, 3) := by decide +kernel
theorem dL_ticks_261 : decode cL_ticks 261 = .ok (.aload_n 0, 1) := by decide +kernel
theorem dL_ticks_262 : decode cL_ticks 262 = .ok (.getfield 10, 3) := by decide +kernel
theorem dL_ticks_265 : decode cL_ticks 265 = .ok (.iload_n 1, 1) := by decide +kernel
theorem dL_ticks_266 : decode cL_ticks 266 = .ok (.bipush 6, 2) := by decide +kernel
theorem dL_ticks_268 : decode cL_ticks 268 = .ok (.invokestatic 200, 3) := by decide +kernel
theorem dL_ticks_271 : decode cL_ticks 271 = .ok (.aload_n 0, 1) := by decide +kernel
theorem dL_ticks_272 : decode cL_ticks 272 = .ok (.getfield 10, 3) := by decide +kernel
theorem dL_ticks_275 : decode cL_ticks 275 = .ok (.iconst 0, 1) := by decide +kernel
theorem dL_ticks_276 : decode cL_ticks 276 = .ok (.invokestatic 196, 3) := by decide +kernel
theorem dL_ticks_279 : decode cL_ticks 279 = .ok (.if_icmp .eq 5, 3) := by decide +kernel
theorem dL_ticks_282 : decode cL_ticks 282 = .ok (.iconst 0, 1) := by decide +kernel
theorem dL_ticks_283 : decode cL_ticks 283 = .ok (.ireturn, 1) := by decide +kernel
theorem dL_ticks_284 : decode cL_ticks 284 = .ok (.iload 5, 2) := by decide +kernel
theorem dL_ticks_286 : decode cL_ticks 286 = .ok (.iconst 2, 1) := by decide +kernel
theorem dL_ticks_287 : decode cL_ticks 287 = .ok (.if_icmp .eq 39, 3) := by decide +kernel
theorem dL_ticks_290 : decode cL_ticks 290 = .ok (.iload 5, 2) := by decide +kernel
theorem dL_ticks_292 : decode cL_ticks 292 = .ok (.iconst 1, 1) := by decide +kernel
theorem dL_ticks_293 : decode cL_ticks 293 = .ok (.if_icmp .ne 9, 3) := by decide +kernel
theorem dL_ticks_296 : decode cL_ticks 296 = .ok (.iload 6, 2) := by decide +kernel
theorem dL_ticks_298 : decode cL_ticks 298 = .ok (.iconst 1, 1) := by decide +kernel
theorem dL_ticks_299 : decode cL_ticks 299 = .ok (.if_icmp .eq 27, 3) := by decide +kernel
theorem dL_ticks_302 : decode cL_ticks 302 = .ok (.iload 5, 2) := by decide +kernel
theorem dL_ticks_304 : decode cL_ticks 304 = .ok (.ifCond .ne 26, 3) := by decide +kernel
theorem dL_ticks_307 : decode cL_ticks 307 = .ok (.iload 16, 2) := by decide +kernel
theorem dL_ticks_309 : decode cL_ticks 309 = .ok (.iload 14, 2) := by decide +kernel
theorem dL_ticks_311 : decode cL_ticks 311 = .ok (.if_icmp .le 19, 3) := by decide +kernel
theorem dL_ticks_314 : decode cL_ticks 314 = .ok (.aload_n 0, 1) := by decide +kernel
theorem dL_ticks_315 : decode cL_ticks 315 = .ok (.getfield 10, 3) := by decide +kernel
theorem dL_ticks_318 : decode cL_ticks 318 = .ok (.bipush 11, 2) := by decide +kernel
theorem dL_ticks_320 : decode cL_ticks 320 = .ok (.invokestatic 198, 3) := by decide +kernel
theorem dL_ticks_323 : decode cL_ticks 323 = .ok (.ifCond .ne 7, 3) := by decide +kernel
theorem dL_ticks_326 : decode cL_ticks 326 = .ok (.iconst 1, 1) := by decide +kernel
theorem dL_ticks_327 : decode cL_ticks 327 = .ok (.goto 4, 3) := by decide +kernel
theorem dL_ticks_330 : decode cL_ticks 330 = .ok (.iconst 0, 1) := by decide +kernel
theorem dL_ticks_331 : decode cL_ticks 331 = .ok (.istore 20, 2) := by decide +kernel
theorem dL_ticks_333 : decode cL_ticks 333 = .ok (.iload 19, 2) := by decide +kernel
theorem dL_ticks_335 : decode cL_ticks 335 = .ok (.iload 20, 2) := by decide +kernel
theorem dL_ticks_337 : decode cL_ticks 337 = .ok (.ifCond .eq 20, 3) := by decide +kernel
theorem dL_ticks_340 : decode cL_ticks 340 = .ok (.aload_n 0, 1) := by decide +kernel
theorem dL_ticks_341 : decode cL_ticks 341 = .ok (.getfield 10, 3) := by decide +kernel
theorem dL_ticks_344 : decode cL_ticks 344 = .ok (.bipush 9, 2) := by decide +kernel
theorem dL_ticks_346 : decode cL_ticks 346 = .ok (.invokestatic 198, 3) := by decide +kernel
theorem dL_ticks_349 : decode cL_ticks 349 = .ok (.iload 16, 2) := by decide +kernel
theorem dL_ticks_351 : decode cL_ticks 351 = .ok (.invokestatic 244, 3) := by decide +kernel
theorem dL_ticks_354 : decode cL_ticks 354 = .ok (.goto 4, 3) := by decide +kernel
theorem dL_ticks_357 : decode cL_ticks 357 = .ok (.iconst 0, 1) := by decide +kernel
theorem dL_ticks_358 : decode cL_ticks 358 = .ok (.if_icmp .ne 86, 3) := by decide +kernel
theorem dL_ticks_361 : decode cL_ticks 361 = .ok (.iload 18, 2) := by decide +kernel
theorem dL_ticks_363 : decode cL_ticks 363 = .ok (.iload 20, 2) := by decide +kernel
theorem dL_ticks_365 : decode cL_ticks 365 = .ok (.ifCond .eq 18, 3) := by decide +kernel
theorem dL_ticks_368 : decode cL_ticks 368 = .ok (.iload 16, 2) := by decide +kernel
theorem dL_ticks_370 : decode cL_ticks 370 = .ok (.iload 19, 2) := by decide +kernel
theorem dL_ticks_372 : decode cL_ticks 372 = .ok (.if_icmp .ne 7, 3) := by decide +kernel
theorem dL_ticks_375 : decode cL_ticks 375 = .ok (.iconst 0, 1) := by decide +kernel
theorem dL_ticks_376 : decode cL_ticks 376 = .ok (.goto 25, 3) := by decide +kernel
theorem dL_ticks_379 : decode cL_ticks 379 = .ok (.iconst 2, 1) := by decide +kernel
theorem dL_ticks_380 : decode cL_ticks 380 = .ok (.goto 21, 3) := by decide +kernel
theorem dL_ticks_383 : decode cL_ticks 383 = .ok (.iload 5, 2) := by decide +kernel
theorem dL_ticks_385 : decode cL_ticks 385 = .ok (.iconst 1, 1) := by decide +kernel
theorem dL_ticks_386 : decode cL_ticks 386 = .ok (.if_icmp .eq 10, 3) := by decide +kernel
theorem dL_ticks_389 : decode cL_ticks 389 = .ok (.iload 16, 2) := by decide +kernel
theorem dL_ticks_391 : decode cL_ticks 391 = .ok (.iload 14, 2) := by decide +kernel
theorem dL_ticks_393 : decode cL_ticks 393 = .ok (.if_icmp .le 7, 3) := by decide +kernel
theorem dL_ticks_396 : decode cL_ticks 396 = .ok (.iconst 1, 1) := by decide +kernel
theorem dL_ticks_397 : decode cL_ticks 397 = .ok (.goto 4, 3) := by decide +kernel
theorem dL_ticks_400 : decode cL_ticks 400 = .ok (.iconst 0, 1) := by decide +kernel
theorem dL_ticks_401 : decode cL_ticks 401 = .ok (.if_icmp .ne 43, 3) := by decide +kernel
theorem dL_ticks_404 : decode cL_ticks 404 = .ok (.iload 18, 2) := by decide +kernel
theorem dL_ticks_406 : decode cL_ticks 406 = .ok (.iconst 1, 1) := by decide +kernel
theorem dL_ticks_407 : decode cL_ticks 407 = .ok (.if_icmp .ne 39, 3) := by decide +kernel
theorem dL_ticks_410 : decode cL_ticks 410 = .ok (.aload_n 0, 1) := by decide +kernel
theorem dL_ticks_411 : decode cL_ticks 411 = .ok (.getfield 10, 3) := by decide +kernel
theorem dL_ticks_414 : decode cL_ticks 414 = .ok (.bipush 6, 2) := by decide +kernel
theorem dL_ticks_416 : decode cL_ticks 416 = .ok (.invokestatic 196, 3) := by decide +kernel
theorem dL_ticks_419 : decode cL_ticks 419 = .ok (.iload 5, 2) := by decide +kernel
theorem dL_ticks_421 : decode cL_ticks 421 = .ok (.iconst 1, 1) := by decide +kernel
theorem dL_ticks_422 : decode cL_ticks 422 = .ok (.if_icmp .ne 10, 3) := by decide +kernel
theorem dL_ticks_425 : decode cL_ticks 425 = .ok (.iload 6, 2) := by decide +kernel
theorem dL_ticks_427 : decode cL_ticks 427 = .ok (.iconst 1, 1) := by decide +kernel
theorem dL_ticks_428 : decode cL_ticks 428 = .ok (.isub, 1) := by decide +kernel
theorem dL_ticks_429 : decode cL_ticks 429 = .ok (.goto 12, 3) := by decide +kernel
theorem dL_ticks_432 : decode cL_ticks 432 = .ok (.aload_n 0, 1) := by decide +kernel
theorem dL_ticks_433 : decode cL_ticks 433 = .ok (.getfield 10, 3) := by decide +kernel
theorem dL_ticks_436 : decode cL_ticks 436 = .ok (.bipush 11, 2) := by decide +kernel
theorem dL_ticks_438 : decode cL_ticks 438 = .ok (.invokestatic 198, 3) := by decide +kernel
theorem dL_ticks_441 : decode cL_ticks 441 = .ok (.if_icmp .eq 5, 3) := by decide +kernel
theorem dL_ticks_444 : decode cL_ticks 444 = .ok (.iconst 0, 1) := by decide +kernel
theorem dL_ticks_445 : decode cL_ticks 445 = .ok (.ireturn, 1) := by decide +kernel
theorem dL_ticks_446 : decode cL_ticks 446 = .ok (.iload 12, 2) := by decide +kernel
theorem dL_ticks_448 : decode cL_ticks 448 = .ok (.ifCond .lt 7, 3) := by decide +kernel
theorem dL_ticks_451 : decode cL_ticks 451 = .ok (.iconst 1, 1) := by decide +kernel
theorem dL_ticks_452 : decode cL_ticks 452 = .ok (.goto 4, 3) := by decide +kernel
theorem dL_ticks_455 : decode cL_ticks 455 = .ok (.iconst 0, 1) := by decide +kernel
theorem dL_ticks_456 : decode cL_ticks 456 = .ok (.iload 12, 2) := by decide +kernel
theorem dL_ticks_458 : decode cL_ticks 458 = .ok (.ifCond .eq 8, 3) := by decide +kernel
theorem dL_ticks_461 : decode cL_ticks 461 = .ok (.iload 12, 2) := by decide +kernel
theorem dL_ticks_463 : decode cL_ticks 463 = .ok (.ifCond .le 7, 3) := by decide +kernel
theorem dL_ticks_466 : decode cL_ticks 466 = .ok (.iconst 1, 1) := by decide +kernel
theorem dL_ticks_467 : decode cL_ticks 467 = .ok (.goto 4, 3) := by decide +kernel
theorem dL_ticks_470 : decode cL_ticks 470 = .ok (.iconst 0, 1) := by decide +kernel
theorem dL_ticks_471 : decode cL_ticks 471 = .ok (.if_icmp .ne 53, 3) := by decide +kernel
theorem dL_ticks_474 : decode cL_ticks 474 = .ok (.iload 12, 2) := by decide +kernel
theorem dL_ticks_476 : decode cL_ticks 476 = .ok (.ifCond .ne 7, 3) := by decide +kernel
theorem dL_ticks_479 : decode cL_ticks 479 = .ok (.iconst 1, 1) := by decide +kernel
theorem dL_ticks_480 : decode cL_ticks 480 = .ok (.goto 4, 3) := by decide +kernel
theorem dL_ticks_483 : decode cL_ticks 483 = .ok (.iconst 0, 1) := by decide +kernel
theorem dL_ticks_484 : decode cL_ticks 484 = .ok (.iload 5, 2) := by decide +kernel
theorem dL_ticks_486 : decode cL_ticks 486 = .ok (.ifCond .le 7, 3) := by decide +kernel
theorem dL_ticks_489 : decode cL_ticks 489 = .ok (.iconst 1, 1) := by decide +kernel
theorem dL_ticks_490 : decode cL_ticks 490 = .ok (.goto 4, 3) := by decide +kernel
theorem dL_ticks_493 : decode cL_ticks 493 = .ok (.iconst 0, 1) := by decide +kernel
theorem dL_ticks_494 : decode cL_ticks 494 = .ok (.if_icmp .ne 30, 3) := by decide +kernel
theorem dL_ticks_497 : decode cL_ticks 497 = .ok (.iload 12, 2) := by decide +kernel
theorem dL_ticks_499 : decode cL_ticks 499 = .ok (.iconst 1, 1) := by decide +kernel
theorem dL_ticks_500 : decode cL_ticks 500 = .ok (.if_icmp .ne 8, 3) := by decide +kernel
theorem dL_ticks_503 : decode cL_ticks 503 = .ok (.iload 18, 2) := by decide +kernel
theorem dL_ticks_505 : decode cL_ticks 505 = .ok (.ifCond .eq 19, 3) := by decide +kernel
theorem dL_ticks_508 : decode cL_ticks 508 = .ok (.iload 12, 2) := by decide +kernel
theorem dL_ticks_510 : decode cL_ticks 510 = .ok (.iconst 1, 1) := by decide +kernel
theorem dL_ticks_511 : decode cL_ticks 511 = .ok (.if_icmp .eq 15, 3) := by decide +kernel
theorem dL_ticks_514 : decode cL_ticks 514 = .ok (.iload 5, 2) := by decide +kernel
theorem dL_ticks_516 : decode cL_ticks 516 = .ok (.ifCond .ne 10, 3) := by decide +kernel
theorem dL_ticks_519 : decode cL_ticks 519 = .ok (.iload 18, 2) := by decide +kernel
theorem dL_ticks_521 : decode cL_ticks 521 = .ok (.ifCond .le 5, 3) := by decide +kernel
theorem dL_ticks_524 : decode cL_ticks 524 = .ok (.iconst 0, 1) := by decide +kernel
theorem dL_ticks_525 : decode cL_ticks 525 = .ok (.ireturn, 1) := by decide +kernel
theorem dL_ticks_526 : decode cL_ticks 526 = .ok (.iload_n 1, 1) := by decide +kernel
theorem dL_ticks_527 : decode cL_ticks 527 = .ok (.ifCond .lt 36, 3) := by decide +kernel
theorem dL_ticks_530 : decode cL_ticks 530 = .ok (.iload 17, 2) := by decide +kernel
theorem dL_ticks_532 : decode cL_ticks 532 = .ok (.ifCond .ne 31, 3) := by decide +kernel
theorem dL_ticks_535 : decode cL_ticks 535 = .ok (.aload_n 0, 1) := by decide +kernel
theorem dL_ticks_536 : decode cL_ticks 536 = .ok (.getfield 10, 3) := by decide +kernel
theorem dL_ticks_539 : decode cL_ticks 539 = .ok (.bipush 10, 2) := by decide +kernel
theorem dL_ticks_541 : decode cL_ticks 541 = .ok (.invokestatic 196, 3) := by decide +kernel
theorem dL_ticks_544 : decode cL_ticks 544 = .ok (.iload_n 3, 1) := by decide +kernel
theorem dL_ticks_545 : decode cL_ticks 545 = .ok (.if_icmp .ne 18, 3) := by decide +kernel
theorem dL_ticks_548 : decode cL_ticks 548 = .ok (.aload_n 0, 1) := by decide +kernel
theorem dL_ticks_549 : decode cL_ticks 549 = .ok (.getfield 10, 3) := by decide +kernel
theorem dL_ticks_552 : decode cL_ticks 552 = .ok (.bipush 9, 2) := by decide +kernel
theorem dL_ticks_554 : decode cL_ticks 554 = .ok (.invokestatic 196, 3) := by decide +kernel
theorem dL_ticks_557 : decode cL_ticks 557 = .ok (.iload_n 2, 1) := by decide +kernel
theorem dL_ticks_558 : decode cL_ticks 558 = .ok (.iconst 1, 1) := by decide +kernel
theorem dL_ticks_559 : decode cL_ticks 559 = .ok (.iadd, 1) := by decide +kernel
theorem dL_ticks_560 : decode cL_ticks 560 = .ok (.if_icmp .ne 51, 3) := by decide +kernel
theorem dL_ticks_563 : decode cL_ticks 563 = .ok (.iload_n 1, 1) := by decide +kernel
theorem dL_ticks_564 : decode cL_ticks 564 = .ok (.ifCond .lt 49, 3) := by decide +kernel
theorem dL_ticks_567 : decode cL_ticks 567 = .ok (.aload_n 0, 1) := by decide +kernel
theorem dL_ticks_568 : decode cL_ticks 568 = .ok (.getfield 10, 3) := by decide +kernel
theorem dL_ticks_571 : decode cL_ticks 571 = .ok (.bipush 10, 2) := by decide +kernel
theorem dL_ticks_573 : decode cL_ticks 573 = .ok (.invokestatic 196, 3) := by decide +kernel
theorem dL_ticks_576 : decode cL_ticks 576 = .ok (.iload_n 3, 1) := by decide +kernel
theorem dL_ticks_577 : decode cL_ticks 577 = .ok (.if_icmp .le 36, 3) := by decide +kernel
theorem dL_ticks_580 : decode cL_ticks 580 = .ok (.iload 17, 2) := by decide +kernel
theorem dL_ticks_582 : decode cL_ticks 582 = .ok (.ifCond .gt 29, 3) := by decide +kernel
theorem dL_ticks_585 : decode cL_ticks 585 = .ok (.aload_n 0, 1) := by decide +kernel
theorem dL_ticks_586 : decode cL_ticks 586 = .ok (.getfield 10, 3) := by decide +kernel
theorem dL_ticks_589 : decode cL_ticks 589 = .ok (.bipush 9, 2) := by decide +kernel
theorem dL_ticks_591 : decode cL_ticks 591 = .ok (.invokestatic 196, 3) := by decide +kernel
theorem dL_ticks_594 : decode cL_ticks 594 = .ok (.iload_n 2, 1) := by decide +kernel
theorem dL_ticks_595 : decode cL_ticks 595 = .ok (.if_icmp .ne 16, 3) := by decide +kernel
theorem dL_ticks_598 : decode cL_ticks 598 = .ok (.aload_n 0, 1) := by decide +kernel
theorem dL_ticks_599 : decode cL_ticks 599 = .ok (.getfield 10, 3) := by decide +kernel
theorem dL_ticks_602 : decode cL_ticks 602 = .ok (.bipush 8, 2) := by decide +kernel
theorem dL_ticks_604 : decode cL_ticks 604 = .ok (.invokestatic 196, 3) := by decide +kernel
theorem dL_ticks_607 : decode cL_ticks 607 = .ok (.iload_n 1, 1) := by decide +kernel
theorem dL_ticks_608 : decode cL_ticks 608 = .ok (.if_icmp .eq 5, 3) := by decide +kernel
theorem dL_ticks_611 : decode cL_ticks 611 = .ok (.iconst 0, 1) := by decide +kernel
theorem dL_ticks_612 : decode cL_ticks 612 = .ok (.ireturn, 1) := by decide +kernel
theorem dL_ticks_613 : decode cL_ticks 613 = .ok (.aload_n 0, 1) := by decide +kernel
theorem dL_ticks_614 : decode cL_ticks 614 = .ok (.getfield 10, 3) := by decide +kernel
theorem dL_ticks_617 : decode cL_ticks 617 = .ok (.bipush 8, 2) := by decide +kernel
theorem dL_ticks_619 : decode cL_ticks 619 = .ok (.invokestatic 196, 3) := by decide +kernel
theorem dL_ticks_622 : decode cL_ticks 622 = .ok (.istore 21, 2) := by decide +kernel
theorem dL_ticks_624 : decode cL_ticks 624 = .ok (.iload 21, 2) := by decide +kernel
theorem dL_ticks_626 : decode cL_ticks 626 = .ok (.ifCond .lt 28, 3) := by decide +kernel
theorem dL_ticks_629 : decode cL_ticks 629 = .ok (.aload_n 0, 1) := by decide +kernel
theorem dL_ticks_630 : decode cL_ticks 630 = .ok (.getfield 10, 3) := by decide +kernel
theorem dL_ticks_633 : decode cL_ticks 633 = .ok (.iload 21, 2) := by decide +kernel
theorem dL_ticks_635 : decode cL_ticks 635 = .ok (.iconst 5, 1) := by decide +kernel
theorem dL_ticks_636 : decode cL_ticks 636 = .ok (.invokestatic 200, 3) := by decide +kernel
theorem dL_ticks_639 : decode cL_ticks 639 = .ok (.aload_n 0, 1) := by decide +kernel
theorem dL_ticks_640 : decode cL_ticks 640 = .ok (.getfield 10, 3) := by decide +kernel
theorem dL_ticks_643 : decode cL_ticks 643 = .ok (.iconst 0, 1) := by decide +kernel
theorem dL_ticks_644 : decode cL_ticks 644 = .ok (.invokestatic 196, 3) := by decide +kernel
theorem dL_ticks_647 : decode cL_ticks 647 = .ok (.if_icmp .ne 7, 3) := by decide +kernel
theorem dL_ticks_650 : decode cL_ticks 650 = .ok (.iconst 1, 1) := by decide +kernel
theorem dL_ticks_651 : decode cL_ticks 651 = .ok (.goto 4, 3) := by decide +kernel
theorem dL_ticks_654 : decode cL_ticks 654 = .ok (.iconst 0, 1) := by decide +kernel
theorem dL_ticks_655 : decode cL_ticks 655 = .ok (.istore 22, 2) := by decide +kernel
theorem dL_ticks_657 : decode cL_ticks 657 = .ok (.iload 10, 2) := by decide +kernel
theorem dL_ticks_659 : decode cL_ticks 659 = .ok (.iconst 1, 1) := by decide +kernel
theorem dL_ticks_660 : decode cL_ticks 660 = .ok (.if_icmp .ne 7, 3) := by decide +kernel
theorem dL_ticks_663 : decode cL_ticks 663 = .ok (.iconst 1, 1) := by decide +kernel
theorem dL_ticks_664 : decode cL_ticks 664 = .ok (.goto 4, 3) := by decide +kernel
theorem dL_ticks_667 : decode cL_ticks 667 = .ok (.iconst 0, 1) := by decide +kernel
theorem dL_ticks_668 : decode cL_ticks 668 = .ok (.iload 22, 2) := by decide +kernel
theorem dL_ticks_670 : decode cL_ticks 670 = .ok (.if_icmp .ne 62, 3) := by decide +kernel
theorem dL_ticks_673 : decode cL_ticks 673 = .ok (.iload 22, 2) := by decide +kernel
theorem dL_ticks_675 : decode cL_ticks 675 = .ok (.ifCond .eq 15, 3) := by decide +kernel
theorem dL_ticks_678 : decode cL_ticks 678 = .ok (.aload_n 0, 1) := by decide +kernel
theorem dL_ticks_679 : decode cL_ticks 679 = .ok (.getfield 10, 3) := by decide +kernel
theorem dL_ticks_682 : decode cL_ticks 682 = .ok (.bipush 11, 2) := by decide +kernel
theorem dL_ticks_684 : decode cL_ticks 684 = .ok (.invokestatic 196, 3) := by decide +kernel
theorem dL_ticks_687 : decode cL_ticks 687 = .ok (.ifCond .ne 45, 3) := by decide +kernel
theorem dL_ticks_690 : decode cL_ticks 690 = .ok (.iload 9, 2) := by decide +kernel
theorem dL_ticks_692 : decode cL_ticks 692 = .ok (.aload_n 0, 1) := by decide +kernel
theorem dL_ticks_693 : decode cL_ticks 693 = .ok (.getfield 10, 3) := by decide +kernel
theorem dL_ticks_696 : decode cL_ticks 696 = .ok (.bipush 12, 2) := by decide +kernel
theorem dL_ticks_698 : decode cL_ticks 698 = .ok (.invokestatic 196, 3) := by decide +kernel
theorem dL_ticks_701 : decode cL_ticks 701 = .ok (.if_icmp .gt 31, 3) := by decide +kernel
theorem dL_ticks_704 : decode cL_ticks 704 = .ok (.iload 22, 2) := by decide +kernel
theorem dL_ticks_706 : decode cL_ticks 706 = .ok (.ifCond .eq 28, 3) := by decide +kernel
theorem dL_ticks_709 : decode cL_ticks 709 = .ok (.iload 21, 2) := by decide +kernel
theorem dL_ticks_711 : decode cL_ticks 711 = .ok (.iload 7, 2) := by decide +kernel
theorem dL_ticks_713 : decode cL_ticks 713 = .ok (.if_icmp .eq 21, 3) := by decide +kernel
theorem dL_ticks_716 : decode cL_ticks 716 = .ok (.aload_n 0, 1) := by decide +kernel
theorem dL_ticks_717 : decode cL_ticks 717 = .ok (.getfield 10, 3) := by decide +kernel
theorem dL_ticks_720 : decode cL_ticks 720 = .ok (.bipush 12, 2) := by decide +kernel
theorem dL_ticks_722 : decode cL_ticks 722 = .ok (.invokestatic 196, 3) := by decide +kernel
theorem dL_ticks_725 : decode cL_ticks 725 = .ok (.iload 9, 2) := by decide +kernel
theorem dL_ticks_727 : decode cL_ticks 727 = .ok (.iconst 1, 1) := by decide +kernel
theorem dL_ticks_728 : decode cL_ticks 728 = .ok (.iadd, 1) := by decide +kernel
theorem dL_ticks_729 : decode cL_ticks 729 = .ok (.if_icmp .eq 5, 3) := by decide +kernel
theorem dL_ticks_732 : decode cL_ticks 732 = .ok (.iconst 0, 1) := by decide +kernel
theorem dL_ticks_733 : decode cL_ticks 733 = .ok (.ireturn, 1) := by decide +kernel
theorem dL_ticks_734 : decode cL_ticks 734 = .ok (.aload_n 0, 1) := by decide +kernel
theorem dL_ticks_735 : decode cL_ticks 735 = .ok (.getfield 10, 3) := by decide +kernel
theorem dL_ticks_738 : decode cL_ticks 738 = .ok (.bipush 12, 2) := by decide +kernel
theorem dL_ticks_740 : decode cL_ticks 740 = .ok (.invokestatic 196, 3) := by decide +kernel
theorem dL_ticks_743 : decode cL_ticks 743 = .ok (.iload 9, 2) := by decide +kernel
theorem dL_ticks_745 : decode cL_ticks 745 = .ok (.if_icmp .le 123, 3) := by decide +kernel
theorem dL_ticks_748 : decode cL_ticks 748 = .ok (.aload_n 0, 1) := by decide +kernel
theorem dL_ticks_749 : decode cL_ticks 749 = .ok (.getfield 10, 3) := by decide +kernel
theorem dL_ticks_752 : decode cL_ticks 752 = .ok (.bipush 12, 2) := by decide +kernel
theorem dL_ticks_754 : decode cL_ticks 754 = .ok (.invokestatic 196, 3) := by decide +kernel
theorem dL_ticks_757 : decode cL_ticks 757 = .ok (.iload 9, 2) := by decide +kernel
theorem dL_ticks_759 : decode cL_ticks 759 = .ok (.iconst 1, 1) := by decide +kernel
theorem dL_ticks_760 : decode cL_ticks 760 = .ok (.iadd, 1) := by decide +kernel
theorem dL_ticks_761 : decode cL_ticks 761 = .ok (.if_icmp .ne 105, 3) := by decide +kernel
theorem dL_ticks_764 : decode cL_ticks 764 = .ok (.aload_n 0, 1) := by decide +kernel
theorem dL_ticks_765 : decode cL_ticks 765 = .ok (.getfield 10, 3) := by decide +kernel
theorem dL_ticks_768 : decode cL_ticks 768 = .ok (.iconst 0, 1) := by decide +kernel
theorem dL_ticks_769 : decode cL_ticks 769 = .ok (.iconst 0, 1) := by decide +kernel
theorem dL_ticks_770 : decode cL_ticks 770 = .ok (.invokestatic 247, 3) := by decide +kernel
theorem dL_ticks_773 : decode cL_ticks 773 = .ok (.aload_n 0, 1) := by decide +kernel
theorem dL_ticks_774 : decode cL_ticks 774 = .ok (.getfield 10, 3) := by decide +kernel
theorem dL_ticks_777 : decode cL_ticks 777 = .ok (.iconst 0, 1) := by decide +kernel
theorem dL_ticks_778 : decode cL_ticks 778 = .ok (.invokestatic 196, 3) := by decide +kernel
theorem dL_ticks_781 : decode cL_ticks 781 = .ok (.if_icmp .ne 85, 3) := by decide +kernel
theorem dL_ticks_784 : decode cL_ticks 784 = .ok (.aload_n 0, 1) := by decide +kernel
theorem dL_ticks_785 : decode cL_ticks 785 = .ok (.getfield 10, 3) := by decide +kernel
theorem dL_ticks_788 : decode cL_ticks 788 = .ok (.iconst 0, 1) := by decide +kernel
theorem dL_ticks_789 : decode cL_ticks 789 = .ok (.iconst 1, 1) := by decide +kernel
theorem dL_ticks_790 : decode cL_ticks 790 = .ok (.invokestatic 247, 3) := by decide +kernel
theorem dL_ticks_793 : decode cL_ticks 793 = .ok (.iload 7, 2) := by decide +kernel
theorem dL_ticks_795 : decode cL_ticks 795 = .ok (.if_icmp .ne 71, 3) := by decide +kernel
theorem dL_ticks_798 : decode cL_ticks 798 = .ok (.aload_n 0, 1) := by decide +kernel
theorem dL_ticks_799 : decode cL_ticks 799 = .ok (.getfield 10, 3) := by decide +kernel
theorem dL_ticks_802 : decode cL_ticks 802 = .ok (.iconst 0, 1) := by decide +kernel
theorem dL_ticks_803 : decode cL_ticks 803 = .ok (.iconst 2, 1) := by decide +kernel
theorem dL_ticks_804 : decode cL_ticks 804 = .ok (.invokestatic 247, 3) := by decide +kernel
theorem dL_ticks_807 : decode cL_ticks 807 = .ok (.iconst 1, 1) := by decide +kernel
theorem dL_ticks_808 : decode cL_ticks 808 = .ok (.if_icmp .le 58, 3) := by decide +kernel
theorem dL_ticks_811 : decode cL_ticks 811 = .ok (.aload_n 0, 1) := by decide +kernel
theorem dL_ticks_812 : decode cL_ticks 812 = .ok (.getfield 10, 3) := by decide +kernel
theorem dL_ticks_815 : decode cL_ticks 815 = .ok (.iconst 0, 1) := by decide +kernel
theorem dL_ticks_816 : decode cL_ticks 816 = .ok (.iconst 3, 1) := by decide +kernel
theorem dL_ticks_817 : decode cL_ticks 817 = .ok (.invokestatic 247, 3) := by decide +kernel
theorem dL_ticks_820 : decode cL_ticks 820 = .ok (.iload 22, 2) := by decide +kernel
theorem dL_ticks_822 : decode cL_ticks 822 = .ok (.ifCond .eq 8, 3) := by decide +kernel
theorem dL_ticks_825 : decode cL_ticks 825 = .ok (.iload 21, 2) := by decide +kernel
theorem dL_ticks_827 : decode cL_ticks 827 = .ok (.goto 4, 3) := by decide +kernel
theorem dL_ticks_830 : decode cL_ticks 830 = .ok (.iconst (-1), 1) := by decide +kernel
theorem dL_ticks_831 : decode cL_ticks 831 = .ok (.if_icmp .ne 35, 3) := by decide +kernel
theorem dL_ticks_834 : decode cL_ticks 834 = .ok (.aload_n 0, 1) := by decide +kernel
theorem dL_ticks_835 : decode cL_ticks 835 = .ok (.getfield 10, 3) := by decide +kernel
theorem dL_ticks_838 : decode cL_ticks 838 = .ok (.bipush 11, 2) := by decide +kernel
theorem dL_ticks_840 : decode cL_ticks 840 = .ok (.invokestatic 196, 3) := by decide +kernel
theorem dL_ticks_843 : decode cL_ticks 843 = .ok (.ifCond .ne 23, 3) := by decide +kernel
theorem dL_ticks_846 : decode cL_ticks 846 = .ok (.iload 8, 2) := by decide +kernel
theorem dL_ticks_848 : decode cL_ticks 848 = .ok (.iconst 1, 1) := by decide +kernel
theorem dL_ticks_849 : decode cL_ticks 849 = .ok (.iadd, 1) := by decide +kernel
theorem dL_ticks_850 : decode cL_ticks 850 = .ok (.aload_n 0, 1) := by decide +kernel
theorem dL_ticks_851 : decode cL_ticks 851 = .ok (.getfield 10, 3) := by decide +kernel
theorem dL_ticks_854 : decode cL_ticks 854 = .ok (.bipush 13, 2) := by decide +kernel
theorem dL_ticks_856 : decode cL_ticks 856 = .ok (.invokestatic 198, 3) := by decide +kernel
theorem dL_ticks_859 : decode cL_ticks 859 = .ok (.if_icmp .lt 7, 3) := by decide +kernel
theorem dL_ticks_862 : decode cL_ticks 862 = .ok (.iconst 1, 1) := by decide +kernel
theorem dL_ticks_863 : decode cL_ticks 863 = .ok (.goto 4, 3) := by decide +kernel
theorem dL_ticks_866 : decode cL_ticks 866 = .ok (.iconst 0, 1) := by decide +kernel
theorem dL_ticks_867 : decode cL_ticks 867 = .ok (.ireturn, 1) := by decide +kernel
theorem dL_ticks_868 : decode cL_ticks 868 = .ok (.iload 22, 2) := by decide +kernel
theorem dL_ticks_870 : decode cL_ticks 870 = .ok (.ifCond .ne 46, 3) := by decide +kernel
theorem dL_ticks_873 : decode cL_ticks 873 = .ok (.aload_n 0, 1) := by decide +kernel
theorem dL_ticks_874 : decode cL_ticks 874 = .ok (.getfield 10, 3) := by decide +kernel
theorem dL_ticks_877 : decode cL_ticks 877 = .ok (.bipush 11, 2) := by decide +kernel
theorem dL_ticks_879 : decode cL_ticks 879 = .ok (.invokestatic 196, 3) := by decide +kernel
theorem dL_ticks_882 : decode cL_ticks 882 = .ok (.iload 8, 2) := by decide +kernel
theorem dL_ticks_884 : decode cL_ticks 884 = .ok (.if_icmp .eq 32, 3) := by decide +kernel
theorem dL_ticks_887 : decode cL_ticks 887 = .ok (.aload_n 0, 1) := by decide +kernel
theorem dL_ticks_888 : decode cL_ticks 888 = .ok (.getfield 10, 3) := by decide +kernel
theorem dL_ticks_891 : decode cL_ticks 891 = .ok (.bipush 11, 2) := by decide +kernel
theorem dL_ticks_893 : decode cL_ticks 893 = .ok (.invokestatic 196, 3) := by decide +kernel
theorem dL_ticks_896 : decode cL_ticks 896 = .ok (.iload 8, 2) := by decide +kernel
theorem dL_ticks_898 : decode cL_ticks 898 = .ok (.iconst 1, 1) := by decide +kernel
theorem dL_ticks_899 : decode cL_ticks 899 = .ok (.iadd, 1) := by decide +kernel
theorem dL_ticks_900 : decode cL_ticks 900 = .ok (.if_icmp .ne 20, 3) := by decide +kernel
theorem dL_ticks_903 : decode cL_ticks 903 = .ok (.aload_n 0, 1) := by decide +kernel
theorem dL_ticks_904 : decode cL_ticks 904 = .ok (.getfield 10, 3) := by decide +kernel
theorem dL_ticks_907 : decode cL_ticks 907 = .ok (.iload 7, 2) := by decide +kernel
theorem dL_ticks_909 : decode cL_ticks 909 = .ok (.invokestatic 249, 3) := by decide +kernel
theorem dL_ticks_912 : decode cL_ticks 912 = .ok (.iconst 2, 1) := by decide +kernel
theorem dL_ticks_913 : decode cL_ticks 913 = .ok (.if_icmp .le 7, 3) := by decide +kernel
theorem dL_ticks_916 : decode cL_ticks 916 = .ok (.iconst 1, 1) := by decide +kernel
theorem dL_ticks_917 : decode cL_ticks 917 = .ok (.goto 4, 3) := by decide +kernel
theorem dL_ticks_920 : decode cL_ticks 920 = .ok (.iconst 0, 1) := by decide +kernel
theorem dL_ticks_921 : decode cL_ticks 921 = .ok (.ireturn, 1) := by decide +kernel
