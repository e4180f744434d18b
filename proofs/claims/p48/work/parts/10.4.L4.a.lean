set_option maxRecDepth 20000 in
theorem ggL_addsUp_L_count : GoodIn wsL_addsUp wsL_count := goodIn_ca (goodIn_r _ [13, 14, 15, 16, 17, 18, 19, 20, 21, 22, 23, 24, 25, 143, 144, 145, 146, 147, 148, 149, 150, 151, 152, 153, 154, 155, 156, 157, 158, 159, 160, 161, 162, 163, 164, 165, 166, 167] (by decide +kernel) (by decide +kernel)) (goodIn_sub (fun _ h => List.mem_cons_of_mem _ (List.mem_append_left _ (List.mem_append_right _ h))) (by decide +kernel))
set_option maxRecDepth 20000 in
theorem gL_addsUp_L_count : GoodIn wsL_addsUp (va_wsS RL 196 yL_count wsL_count) := goodIn_app (goodIn_of _ (by decide +kernel)) ggL_addsUp_L_count
set_option maxRecDepth 20000 in
theorem ggL_addsUp_L_setting : GoodIn wsL_addsUp wsL_setting := goodIn_ca (goodIn_r _ [28, 14, 29, 30, 31, 18, 32, 20, 21, 24, 33, 143, 144, 145, 146, 147, 148, 149, 150, 151, 155, 156, 157, 158, 159, 160, 161, 162, 163, 164, 165, 166, 167] (by decide +kernel) (by decide +kernel)) (goodIn_sub (fun _ h => List.mem_cons_of_mem _ (List.mem_append_left _ (List.mem_append_right _ h))) (by decide +kernel))
set_option maxRecDepth 20000 in
theorem gL_addsUp_L_setting : GoodIn wsL_addsUp (va_wsS RL 198 yL_setting wsL_setting) := goodIn_app (goodIn_of _ (by decide +kernel)) ggL_addsUp_L_setting
set_option maxRecDepth 20000 in
theorem ggL_addsUp_L_car : GoodIn wsL_addsUp wsL_car := goodIn_ca (goodIn_ca (goodIn_r _ [36, 37, 14, 38, 39, 40, 18, 41, 42, 43, 20, 21, 24, 25, 44, 45, 46, 47, 48, 49, 143, 144, 145, 146, 147, 148, 149, 150, 151, 155, 156, 157, 158, 159, 160, 161, 162, 163, 164, 165, 166, 167] (by decide +kernel) (by decide +kernel)) (goodIn_sub (fun _ h => List.mem_cons_of_mem _ (List.mem_append_right _ h)) (by decide +kernel))) (goodIn_sub (fun _ h => List.mem_cons_of_mem _ (List.mem_append_left _ (List.mem_append_right _ h))) (by decide +kernel))
set_option maxRecDepth 20000 in
theorem gL_addsUp_L_car : GoodIn wsL_addsUp (va_wsS RL 200 yL_car wsL_car) := goodIn_app (goodIn_of _ (by decide +kernel)) ggL_addsUp_L_car
set_option maxRecDepth 20000 in
theorem ggL_addsUp_L_kind : GoodIn wsL_addsUp wsL_kind := goodIn_ca (goodIn_ca (goodIn_r _ [52, 37, 14, 53, 54, 55, 18, 56, 42, 43, 20, 21, 24, 57, 58, 59, 47, 60, 61, 143, 144, 145, 146, 147, 148, 149, 150, 151, 155, 156, 157, 158, 159, 160, 161, 162, 163, 164, 165, 166, 167] (by decide +kernel) (by decide +kernel)) (goodIn_sub (fun _ h => List.mem_cons_of_mem _ (List.mem_append_right _ h)) (by decide +kernel))) (goodIn_sub (fun _ h => List.mem_cons_of_mem _ (List.mem_append_left _ (List.mem_append_right _ h))) (by decide +kernel))
set_option maxRecDepth 20000 in
theorem gL_addsUp_L_kind : GoodIn wsL_addsUp (va_wsS RL 203 yL_kind wsL_kind) := goodIn_app (goodIn_of _ (by decide +kernel)) ggL_addsUp_L_kind
set_option maxRecDepth 20000 in
theorem ggL_addsUp_L_lane : GoodIn wsL_addsUp wsL_lane := goodIn_ca (goodIn_r _ [64, 37, 65, 66, 67, 18, 68, 42, 43, 24, 33, 69, 70, 143, 144, 145, 146, 147, 148, 149, 150, 151, 155, 156, 157, 158, 159, 160, 161, 162, 163, 164, 165, 166, 167] (by decide +kernel) (by decide +kernel)) (goodIn_sub (fun _ h => List.mem_cons_of_mem _ (List.mem_append_right _ h)) (by decide +kernel))
set_option maxRecDepth 20000 in
theorem gL_addsUp_L_lane : GoodIn wsL_addsUp (va_wsS RL 205 yL_lane wsL_lane) := goodIn_app (goodIn_of _ (by decide +kernel)) ggL_addsUp_L_lane
set_option maxRecDepth 20000 in
theorem ggL_addsUp_L_standing : GoodIn wsL_addsUp wsL_standing := goodIn_ca (goodIn_r _ [73, 37, 74, 75, 76, 18, 77, 42, 43, 24, 78, 79, 80, 47, 81, 82, 83, 84, 85, 143, 144, 145, 146, 147, 148, 149, 150, 151, 155, 156, 157, 158, 159, 160, 161, 162, 163, 164, 165, 166, 167] (by decide +kernel) (by decide +kernel)) (goodIn_sub (fun _ h => List.mem_cons_of_mem _ (List.mem_append_right _ h)) (by decide +kernel))
set_option maxRecDepth 20000 in
theorem gL_addsUp_L_standing : GoodIn wsL_addsUp (va_wsS RL 208 yL_standing wsL_standing) := goodIn_app (goodIn_of _ (by decide +kernel)) ggL_addsUp_L_standing
set_option maxRecDepth 20000 in
theorem ggL_addsUp_X9_queued : GoodIn wsL_addsUp wsX9_queued := goodIn_r _ [89, 24, 25, 90, 91, 84, 18, 85, 143, 144, 145, 146, 147, 148, 149, 150, 151, 155, 156, 157, 158, 159, 160, 161, 162, 163, 164, 165, 166, 167] (by decide +kernel) (by decide +kernel)
set_option maxRecDepth 20000 in
theorem gL_addsUp_X9_queued : GoodIn wsL_addsUp (wsV RL 210 RX9 yX9_queued wsX9_queued) := goodIn_app (goodIn_of _ (by decide +kernel)) ggL_addsUp_X9_queued
set_option maxRecDepth 20000 in
theorem ggL_addsUp_L_deck : GoodIn wsL_addsUp wsL_deck := goodIn_ca (goodIn_r _ [94, 14, 95, 96, 97, 18, 98, 20, 21, 24, 99, 100, 101, 47, 102, 103, 104, 105, 106, 107, 108, 143, 144, 145, 146, 147, 148, 149, 150, 151, 155, 156, 157, 158, 159, 160, 161, 162, 163, 164, 165, 166, 167] (by decide +kernel) (by decide +kernel)) (goodIn_sub (fun _ h => List.mem_cons_of_mem _ (List.mem_append_left _ (List.mem_append_right _ h))) (by decide +kernel))
set_option maxRecDepth 20000 in
theorem gL_addsUp_L_deck : GoodIn wsL_addsUp (va_wsS RL 213 yL_deck wsL_deck) := goodIn_app (goodIn_of _ (by decide +kernel)) ggL_addsUp_L_deck
set_option maxRecDepth 20000 in
theorem ggL_addsUp_L_tide : GoodIn wsL_addsUp wsL_tide := goodIn_ca (goodIn_r _ [111, 14, 112, 113, 114, 18, 115, 20, 21, 24, 116, 106, 107, 47, 108, 103, 143, 144, 145, 146, 147, 148, 149, 150, 151, 155, 156, 157, 158, 159, 160, 161, 162, 163, 164, 165, 166, 167] (by decide +kernel) (by decide +kernel)) (goodIn_sub (fun _ h => List.mem_cons_of_mem _ (List.mem_append_left _ (List.mem_append_right _ h))) (by decide +kernel))
set_option maxRecDepth 20000 in
theorem gL_addsUp_L_tide : GoodIn wsL_addsUp (va_wsS RL 215 yL_tide wsL_tide) := goodIn_app (goodIn_of _ (by decide +kernel)) ggL_addsUp_L_tide
set_option maxRecDepth 20000 in
theorem ggL_addsUp_X9_lip : GoodIn wsL_addsUp wsX9_lip := goodIn_r _ [120, 24, 121, 143, 144, 145, 146, 147, 148, 149, 150, 151, 155, 156, 157, 158, 159, 160, 161, 162, 163, 164, 165, 166, 167] (by decide +kernel) (by decide +kernel)
set_option maxRecDepth 20000 in
theorem gL_addsUp_X9_lip : GoodIn wsL_addsUp (wsV RL 190 RX9 yX9_lip wsX9_lip) := goodIn_app (goodIn_of _ (by decide +kernel)) ggL_addsUp_X9_lip
set_option maxRecDepth 20000 in
theorem ggL_addsUp_X9_slope : GoodIn wsL_addsUp wsX9_slope := goodIn_r _ [125, 24, 126, 143, 144, 145, 146, 147, 148, 149, 150, 151, 155, 156, 157, 158, 159, 160, 161, 162, 163, 164, 165, 166, 167] (by decide +kernel) (by decide +kernel)
set_option maxRecDepth 20000 in
theorem gL_addsUp_X9_slope : GoodIn wsL_addsUp (wsV RL 220 RX9 yX9_slope wsX9_slope) := goodIn_app (goodIn_of _ (by decide +kernel)) ggL_addsUp_X9_slope
set_option maxRecDepth 20000 in
theorem ggL_addsUp_X9_waterIn : GoodIn wsL_addsUp wsX9_waterIn := goodIn_r _ [130, 24, 33, 25, 143, 144, 145, 146, 147, 148, 149, 150, 151, 155, 156, 157, 158, 159, 160, 161, 162, 163, 164, 165, 166, 167] (by decide +kernel) (by decide +kernel)
set_option maxRecDepth 20000 in
theorem gL_addsUp_X9_waterIn : GoodIn wsL_addsUp (wsV RL 223 RX9 yX9_waterIn wsX9_waterIn) := goodIn_app (goodIn_of _ (by decide +kernel)) ggL_addsUp_X9_waterIn
set_option maxRecDepth 20000 in
theorem ggL_addsUp_X9_list : GoodIn wsL_addsUp wsX9_list := goodIn_r _ [134, 24, 70, 143, 144, 145, 146, 147, 148, 149, 150, 151, 155, 156, 157, 158, 159, 160, 161, 162, 163, 164, 165, 166, 167] (by decide +kernel) (by decide +kernel)
set_option maxRecDepth 20000 in
theorem gL_addsUp_X9_list : GoodIn wsL_addsUp (wsV RL 227 RX9 yX9_list wsX9_list) := goodIn_app (goodIn_of _ (by decide +kernel)) ggL_addsUp_X9_list
set_option maxRecDepth 20000 in
theorem ggL_addsUp_X9_fullness : GoodIn wsL_addsUp wsX9_fullness := goodIn_r _ [138, 24, 33, 25, 143, 144, 145, 146, 147, 148, 149, 150, 151, 155, 156, 157, 158, 159, 160, 161, 162, 163, 164, 165, 166, 167] (by decide +kernel) (by decide +kernel)
set_option maxRecDepth 20000 in
theorem gL_addsUp_X9_fullness : GoodIn wsL_addsUp (wsV RL 230 RX9 yX9_fullness wsX9_fullness) := goodIn_app (goodIn_of _ (by decide +kernel)) ggL_addsUp_X9_fullness
theorem dL_addsUp_0 : decode cL_addsUp 0 = .ok (.aload_n 0, 1) := by decide +kernel
theorem dL_addsUp_1 : decode cL_addsUp 1 = .ok (.getfield 10, 3) := by decide +kernel
theorem dL_addsUp_4 : decode cL_addsUp 4 = .ok (.iconst 3, 1) := by decide +kernel
theorem dL_addsUp_5 : decode cL_addsUp 5 = .ok (.invokestatic 196, 3) := by decide +kernel
theorem dL_addsUp_8 : decode cL_addsUp 8 = .ok (.istore_n 1, 1) := by decide +kernel
theorem dL_addsUp_9 : decode cL_addsUp 9 = .ok (.iconst 0, 1) := by decide +kernel
theorem dL_addsUp_10 : decode cL_addsUp 10 = .ok (.istore_n 2, 1) := by decide +kernel
theorem dL_addsUp_11 : decode cL_addsUp 11 = .ok (.iconst 0, 1) := by decide +kernel
theorem dL_addsUp_12 : decode cL_addsUp 12 = .ok (.istore_n 3, 1) := by decide +kernel
theorem dL_addsUp_13 : decode cL_addsUp 13 = .ok (.iconst 0, 1) := by decide +kernel
theorem dL_addsUp_14 : decode cL_addsUp 14 = .ok (.istore 4, 2) := by decide +kernel
theorem dL_addsUp_16 : decode cL_addsUp 16 = .ok (.iconst 0, 1) := by decide +kernel
theorem dL_addsUp_17 : decode cL_addsUp 17 = .ok (.istore 5, 2) := by decide +kernel
theorem dL_addsUp_19 : decode cL_addsUp 19 = .ok (.iconst 0, 1) := by decide +kernel
theorem dL_addsUp_20 : decode cL_addsUp 20 = .ok (.istore 6, 2) := by decide +kernel
theorem dL_addsUp_22 : decode cL_addsUp 22 = .ok (.iconst (-1), 1) := by decide +kernel
theorem dL_addsUp_23 : decode cL_addsUp 23 = .ok (.istore 7, 2) := by decide +kernel
theorem dL_addsUp_25 : decode cL_addsUp 25 = .ok (.aload_n 0, 1) := by decide +kernel
theorem dL_addsUp_26 : decode cL_addsUp 26 = .ok (.getfield 10, 3) := by decide +kernel
theorem dL_addsUp_29 : decode cL_addsUp 29 = .ok (.iconst 0, 1) := by decide +kernel
theorem dL_addsUp_30 : decode cL_addsUp 30 = .ok (.invokestatic 196, 3) := by decide +kernel
theorem dL_addsUp_33 : decode cL_addsUp 33 = .ok (.istore 8, 2) := by decide +kernel
theorem dL_addsUp_35 : decode cL_addsUp 35 = .ok (.iconst 3, 1) := by decide +kernel
theorem dL_addsUp_36 : decode cL_addsUp 36 = .ok (.newarray .int, 2) := by decide +kernel
theorem dL_addsUp_38 : decode cL_addsUp 38 = .ok (.astore 9, 2) := by decide +kernel
theorem dL_addsUp_40 : decode cL_addsUp 40 = .ok (.iconst 3, 1) := by decide +kernel
theorem dL_addsUp_41 : decode cL_addsUp 41 = .ok (.newarray .int, 2) := by decide +kernel
theorem dL_addsUp_43 : decode cL_addsUp 43 = .ok (.astore 10, 2) := by decide +kernel
theorem dL_addsUp_45 : decode cL_addsUp 45 = .ok (.iconst 0, 1) := by decide +kernel
theorem dL_addsUp_46 : decode cL_addsUp 46 = .ok (.istore 11, 2) := by decide +kernel
theorem dL_addsUp_48 : decode cL_addsUp 48 = .ok (.iload 11, 2) := by decide +kernel
theorem dL_addsUp_50 : decode cL_addsUp 50 = .ok (.iconst 3, 1) := by decide +kernel
theorem dL_addsUp_51 : decode cL_addsUp 51 = .ok (.if_icmp .ge 23, 3) := by decide +kernel
theorem dL_addsUp_54 : decode cL_addsUp 54 = .ok (.aload 10, 2) := by decide +kernel
theorem dL_addsUp_56 : decode cL_addsUp 56 = .ok (.iload 11, 2) := by decide +kernel
theorem dL_addsUp_58 : decode cL_addsUp 58 = .ok (.aload_n 0, 1) := by decide +kernel
theorem dL_addsUp_59 : decode cL_addsUp 59 = .ok (.getfield 10, 3) := by decide +kernel
theorem dL_addsUp_62 : decode cL_addsUp 62 = .ok (.bipush 6, 2) := by decide +kernel
theorem dL_addsUp_64 : decode cL_addsUp 64 = .ok (.invokestatic 198, 3) := by decide +kernel
theorem dL_addsUp_67 : decode cL_addsUp 67 = .ok (.iastore, 1) := by decide +kernel
theorem dL_addsUp_68 : decode cL_addsUp 68 = .ok (.iinc 11 1, 3) := by decide +kernel
theorem dL_addsUp_71 : decode cL_addsUp 71 = .ok (.goto (-23), 3) := by decide +kernel
theorem dL_addsUp_74 : decode cL_addsUp 74 = .ok (.iconst 0, 1) := by decide +kernel
theorem dL_addsUp_75 : decode cL_addsUp 75 = .ok (.istore 11, 2) := by decide +kernel
theorem dL_addsUp_77 : decode cL_addsUp 77 = .ok (.iload 11, 2) := by decide +kernel
theorem dL_addsUp_79 : decode cL_addsUp 79 = .ok (.iload_n 1, 1) := by decide +kernel
theorem dL_addsUp_80 : decode cL_addsUp 80 = .ok (.if_icmp .ge 317, 3) := by decide +kernel
theorem dL_addsUp_83 : decode cL_addsUp 83 = .ok (.aload_n 0, 1) := by decide +kernel
theorem dL_addsUp_84 : decode cL_addsUp 84 = .ok (.getfield 10, 3) := by decide +kernel
theorem dL_addsUp_87 : decode cL_addsUp 87 = .ok (.iload 11, 2) := by decide +kernel
theorem dL_addsUp_89 : decode cL_addsUp 89 = .ok (.iconst 2, 1) := by decide +kernel
theorem dL_addsUp_90 : decode cL_addsUp 90 = .ok (.invokestatic 200, 3) := by decide +kernel
theorem dL_addsUp_93 : decode cL_addsUp 93 = .ok (.istore 12, 2) := by decide +kernel
theorem dL_addsUp_95 : decode cL_addsUp 95 = .ok (.aload_n 0, 1) := by decide +kernel
theorem dL_addsUp_96 : decode cL_addsUp 96 = .ok (.getfield 10, 3) := by decide +kernel
theorem dL_addsUp_99 : decode cL_addsUp 99 = .ok (.iload 11, 2) := by decide +kernel
theorem dL_addsUp_101 : decode cL_addsUp 101 = .ok (.iconst 1, 1) := by decide +kernel
theorem dL_addsUp_102 : decode cL_addsUp 102 = .ok (.invokestatic 200, 3) := by decide +kernel
theorem dL_addsUp_105 : decode cL_addsUp 105 = .ok (.istore 13, 2) := by decide +kernel
theorem dL_addsUp_107 : decode cL_addsUp 107 = .ok (.aload_n 0, 1) := by decide +kernel
theorem dL_addsUp_108 : decode cL_addsUp 108 = .ok (.getfield 10, 3) := by decide +kernel
theorem dL_addsUp_111 : decode cL_addsUp 111 = .ok (.iload 11, 2) := by decide +kernel
theorem dL_addsUp_113 : decode cL_addsUp 113 = .ok (.iconst 3, 1) := by decide +kernel
theorem dL_addsUp_114 : decode cL_addsUp 114 = .ok (.invokestatic 200, 3) := by decide +kernel
theorem dL_addsUp_117 : decode cL_addsUp 117 = .ok (.istore 14, 2) := by decide +kernel
theorem dL_addsUp_119 : decode cL_addsUp 119 = .ok (.aload_n 0, 1) := by decide +kernel
theorem dL_addsUp_120 : decode cL_addsUp 120 = .ok (.getfield 10, 3) := by decide +kernel
theorem dL_addsUp_123 : decode cL_addsUp 123 = .ok (.iload 11, 2) := by decide +kernel
theorem dL_addsUp_125 : decode cL_addsUp 125 = .ok (.iconst 5, 1) := by decide +kernel
theorem dL_addsUp_126 : decode cL_addsUp 126 = .ok (.invokestatic 200, 3) := by decide +kernel
theorem dL_addsUp_129 : decode cL_addsUp 129 = .ok (.istore 15, 2) := by decide +kernel
theorem dL_addsUp_131 : decode cL_addsUp 131 = .ok (.aload_n 0, 1) := by decide +kernel
theorem dL_addsUp_132 : decode cL_addsUp 132 = .ok (.getfield 10, 3) := by decide +kernel
theorem dL_addsUp_135 : decode cL_addsUp 135 = .ok (.iload 11, 2) := by decide +kernel
theorem dL_addsUp_137 : decode cL_addsUp 137 = .ok (.bipush 6, 2) := by decide +kernel
theorem dL_addsUp_139 : decode cL_addsUp 139 = .ok (.invokestatic 200, 3) := by decide +kernel
theorem dL_addsUp_142 : decode cL_addsUp 142 = .ok (.istore 16, 2) := by decide +kernel
theorem dL_addsUp_144 : decode cL_addsUp 144 = .ok (.iload_n 3, 1) := by decide +kernel
theorem dL_addsUp_145 : decode cL_addsUp 145 = .ok (.iload 12, 2) := by decide +kernel
theorem dL_addsUp_147 : decode cL_addsUp 147 = .ok (.ifCond .ne 7, 3) := by decide +kernel
theorem dL_addsUp_150 : decode cL_addsUp 150 = .ok (.iconst 1, 1) := by decide +kernel
theorem dL_addsUp_151 : decode cL_addsUp 151 = .ok (.goto 4, 3) := by decide +kernel
theorem dL_addsUp_154 : decode cL_addsUp 154 = .ok (.iconst 0, 1) := by decide +kernel
theorem dL_addsUp_155 : decode cL_addsUp 155 = .ok (.iadd, 1) := by decide +kernel
theorem dL_addsUp_156 : decode cL_addsUp 156 = .ok (.istore_n 3, 1) := by decide +kernel
theorem dL_addsUp_157 : decode cL_addsUp 157 = .ok (.iload 4, 2) := by decide +kernel
theorem dL_addsUp_159 : decode cL_addsUp 159 = .ok (.iload 12, 2) := by decide +kernel
theorem dL_addsUp_161 : decode cL_addsUp 161 = .ok (.iconst 2, 1) := by decide +kernel
theorem dL_addsUp_162 : decode cL_addsUp 162 = .ok (.if_icmp .ne 7, 3) := by decide +kernel
theorem dL_addsUp_165 : decode cL_addsUp 165 = .ok (.iconst 1, 1) := by decide +kernel
theorem dL_addsUp_166 : decode cL_addsUp 166 = .ok (.goto 4, 3) := by decide +kernel
theorem dL_addsUp_169 : decode cL_addsUp 169 = .ok (.iconst 0, 1) := by decide +kernel
theorem dL_addsUp_170 : decode cL_addsUp 170 = .ok (.iadd, 1) := by decide +kernel
theorem dL_addsUp_171 : decode cL_addsUp 171 = .ok (.istore 4, 2) := by decide +kernel
theorem dL_addsUp_173 : decode cL_addsUp 173 = .ok (.iload 5, 2) := by decide +kernel
theorem dL_addsUp_175 : decode cL_addsUp 175 = .ok (.iload 12, 2) := by decide +kernel
theorem dL_addsUp_177 : decode cL_addsUp 177 = .ok (.iconst 3, 1) := by decide +kernel
theorem dL_addsUp_178 : decode cL_addsUp 178 = .ok (.if_icmp .ne 7, 3) := by decide +kernel
theorem dL_addsUp_181 : decode cL_addsUp 181 = .ok (.iconst 1, 1) := by decide +kernel
theorem dL_addsUp_182 : decode cL_addsUp 182 = .ok (.goto 4, 3) := by decide +kernel
theorem dL_addsUp_185 : decode cL_addsUp 185 = .ok (.iconst 0, 1) := by decide +kernel
theorem dL_addsUp_186 : decode cL_addsUp 186 = .ok (.iadd, 1) := by decide +kernel
theorem dL_addsUp_187 : decode cL_addsUp 187 = .ok (.istore 5, 2) := by decide +kernel
theorem dL_addsUp_189 : decode cL_addsUp 189 = .ok (.iload 6, 2) := by decide +kernel
theorem dL_addsUp_191 : decode cL_addsUp 191 = .ok (.iload 16, 2) := by decide +kernel
theorem dL_addsUp_193 : decode cL_addsUp 193 = .ok (.ifCond .lt 7, 3) := by decide +kernel
theorem dL_addsUp_196 : decode cL_addsUp 196 = .ok (.iconst 1, 1) := by decide +kernel
theorem dL_addsUp_197 : decode cL_addsUp 197 = .ok (.goto 4, 3) := by decide +kernel
theorem dL_addsUp_200 : decode cL_addsUp 200 = .ok (.iconst 0, 1) := by decide +kernel
theorem dL_addsUp_201 : decode cL_addsUp 201 = .ok (.iadd, 1) := by decide +kernel
theorem dL_addsUp_202 : decode cL_addsUp 202 = .ok (.istore 6, 2) := by decide +kernel
theorem dL_addsUp_204 : decode cL_addsUp 204 = .ok (.iload_n 2, 1) := by decide +kernel
theorem dL_addsUp_205 : decode cL_addsUp 205 = .ok (.iload 12, 2) := by decide +kernel
theorem dL_addsUp_207 : decode cL_addsUp 207 = .ok (.iconst 2, 1) := by decide +kernel
theorem dL_addsUp_208 : decode cL_addsUp 208 = .ok (.if_icmp .ne 8, 3) := by decide +kernel
theorem dL_addsUp_211 : decode cL_addsUp 211 = .ok (.iload 13, 2) := by decide +kernel
theorem dL_addsUp_213 : decode cL_addsUp 213 = .ok (.goto 4, 3) := by decide +kernel
theorem dL_addsUp_216 : decode cL_addsUp 216 = .ok (.iconst 0, 1) := by decide +kernel
theorem dL_addsUp_217 : decode cL_addsUp 217 = .ok (.iadd, 1) := by decide +kernel
theorem dL_addsUp_218 : decode cL_addsUp 218 = .ok (.istore_n 2, 1) := by decide +kernel
theorem dL_addsUp_219 : decode cL_addsUp 219 = .ok (.iload 12, 2) := by decide +kernel
theorem dL_addsUp_221 : decode cL_addsUp 221 = .ok (.iconst 1, 1) := by decide +kernel
theorem dL_addsUp_222 : decode cL_addsUp 222 = .ok (.if_icmp .ne 8, 3) := by decide +kernel
theorem dL_addsUp_225 : decode cL_addsUp 225 = .ok (.iload 11, 2) := by decide +kernel
theorem dL_addsUp_227 : decode cL_addsUp 227 = .ok (.goto 5, 3) := by decide +kernel
theorem dL_addsUp_230 : decode cL_addsUp 230 = .ok (.iload 7, 2) := by decide +kernel
theorem dL_addsUp_232 : decode cL_addsUp 232 = .ok (.istore 7, 2) := by decide +kernel
theorem dL_addsUp_234 : decode cL_addsUp 234 = .ok (.iload 14, 2) := by decide +kernel
theorem dL_addsUp_236 : decode cL_addsUp 236 = .ok (.ifCond .ge 7, 3) := by decide +kernel
theorem dL_addsUp_239 : decode cL_addsUp 239 = .ok (.iconst 1, 1) := by decide +kernel
theorem dL_addsUp_240 : decode cL_addsUp 240 = .ok (.goto 4, 3) := by decide +kernel
theorem dL_addsUp_243 : decode cL_addsUp 243 = .ok (.iconst 0, 1) := by decide +kernel
theorem dL_addsUp_244 : decode cL_addsUp 244 = .ok (.iload 15, 2) := by decide +kernel
theorem dL_addsUp_246 : decode cL_addsUp 246 = .ok (.ifCond .ge 7, 3) := by decide +kernel
theorem dL_addsUp_249 : decode cL_addsUp 249 = .ok (.iconst 1, 1) := by decide +kernel
theorem dL_addsUp_250 : decode cL_addsUp 250 = .ok (.goto 4, 3) := by decide +kernel
theorem dL_addsUp_253 : decode cL_addsUp 253 = .ok (.iconst 0, 1) := by decide +kernel
theorem dL_addsUp_254 : decode cL_addsUp 254 = .ok (.if_icmp .ne 84, 3) := by decide +kernel
theorem dL_addsUp_257 : decode cL_addsUp 257 = .ok (.iload 16, 2) := by decide +kernel
theorem dL_addsUp_259 : decode cL_addsUp 259 = .ok (.ifCond .lt 7, 3) := by decide +kernel
theorem dL_addsUp_262 : decode cL_addsUp 262 = .ok (.iconst 1, 1) := by decide +kernel
theorem dL_addsUp_263 : decode cL_addsUp 263 = .ok (.goto 4, 3) := by decide +kernel
theorem dL_addsUp_266 : decode cL_addsUp 266 = .ok (.iconst 0, 1) := by decide +kernel
theorem dL_addsUp_267 : decode cL_addsUp 267 = .ok (.iload 12, 2) := by decide +kernel
theorem dL_addsUp_269 : decode cL_addsUp 269 = .ok (.iconst 2, 1) := by decide +kernel
theorem dL_addsUp_270 : decode cL_addsUp 270 = .ok (.if_icmp .eq 9, 3) := by decide +kernel
theorem dL_addsUp_273 : decode cL_addsUp 273 = .ok (.iload 12, 2) := by decide +kernel
theorem dL_addsUp_275 : decode cL_addsUp 275 = .ok (.iconst 3, 1) := by decide +kernel
theorem dL_addsUp_276 : decode cL_addsUp 276 = .ok (.if_icmp .ne 7, 3) := by decide +kernel
theorem dL_addsUp_279 : decode cL_addsUp 279 = .ok (.iconst 1, 1) := by decide +kernel
theorem dL_addsUp_280 : decode cL_addsUp 280 = .ok (.goto 4, 3) := by decide +kernel
theorem dL_addsUp_283 : decode cL_addsUp 283 = .ok (.iconst 0, 1) := by decide +kernel
theorem dL_addsUp_284 : decode cL_addsUp 284 = .ok (.if_icmp .ne 54, 3) := by decide +kernel
theorem dL_addsUp_287 : decode cL_addsUp 287 = .ok (.iload 16, 2) := by decide +kernel
theorem dL_addsUp_289 : decode cL_addsUp 289 = .ok (.ifCond .lt 12, 3) := by decide +kernel
theorem dL_addsUp_292 : decode cL_addsUp 292 = .ok (.iload 16, 2) := by decide +kernel
theorem dL_addsUp_294 : decode cL_addsUp 294 = .ok (.iload 15, 2) := by decide +kernel
theorem dL_addsUp_296 : decode cL_addsUp 296 = .ok (.iconst 1, 1) := by decide +kernel
theorem dL_addsUp_297 : decode cL_addsUp 297 = .ok (.iadd, 1) := by decide +kernel
theorem dL_addsUp_298 : decode cL_addsUp 298 = .ok (.if_icmp .lt 40, 3) := by decide +kernel
theorem dL_addsUp_301 : decode cL_addsUp 301 = .ok (.iload 15, 2) := by decide +kernel
theorem dL_addsUp_303 : decode cL_addsUp 303 = .ok (.iload 8, 2) := by decide +kernel
theorem dL_addsUp_305 : decode cL_addsUp 305 = .ok (.if_icmp .gt 33, 3) := by decide +kernel
theorem dL_addsUp_308 : decode cL_addsUp 308 = .ok (.iload 15, 2) := by decide +kernel
theorem dL_addsUp_310 : decode cL_addsUp 310 = .ok (.ifCond .lt 18, 3) := by decide +kernel
theorem dL_addsUp_313 : decode cL_addsUp 313 = .ok (.iload 15, 2) := by decide +kernel
theorem dL_addsUp_315 : decode cL_addsUp 315 = .ok (.aload_n 0, 1) := by decide +kernel
theorem dL_addsUp_316 : decode cL_addsUp 316 = .ok (.getfield 10, 3) := by decide +kernel
theorem dL_addsUp_319 : decode cL_addsUp 319 = .ok (.iload 11, 2) := by decide +kernel
theorem dL_addsUp_321 : decode cL_addsUp 321 = .ok (.iconst 4, 1) := by decide +kernel
theorem dL_addsUp_322 : decode cL_addsUp 322 = .ok (.invokestatic 200, 3) := by decide +kernel
theorem dL_addsUp_325 : decode cL_addsUp 325 = .ok (.if_icmp .lt 13, 3) := by decide +kernel
theorem dL_addsUp_328 : decode cL_addsUp 328 = .ok (.iload 12, 2) := by decide +kernel
theorem dL_addsUp_330 : decode cL_addsUp 330 = .ok (.ifCond .ne 10, 3) := by decide +kernel
theorem dL_addsUp_333 : decode cL_addsUp 333 = .ok (.iload 15, 2) := by decide +kernel
theorem dL_addsUp_335 : decode cL_addsUp 335 = .ok (.ifCond .lt 5, 3) := by decide +kernel
theorem dL_addsUp_338 : decode cL_addsUp 338 = .ok (.iconst 0, 1) := by decide +kernel
theorem dL_addsUp_339 : decode cL_addsUp 339 = .ok (.ireturn, 1) := by decide +kernel
theorem dL_addsUp_340 : decode cL_addsUp 340 = .ok (.iload 12, 2) := by decide +kernel
theorem dL_addsUp_342 : decode cL_addsUp 342 = .ok (.iconst 1, 1) := by decide +kernel
theorem dL_addsUp_343 : decode cL_addsUp 343 = .ok (.if_icmp .eq 12, 3) := by decide +kernel
theorem dL_addsUp_346 : decode cL_addsUp 346 = .ok (.iload 12, 2) := by decide +kernel
theorem dL_addsUp_348 : decode cL_addsUp 348 = .ok (.iconst 2, 1) := by decide +kernel
theorem dL_addsUp_349 : decode cL_addsUp 349 = .ok (.if_icmp .eq 6, 3) := by decide +kernel
theorem dL_addsUp_352 : decode cL_addsUp 352 = .ok (.goto 39, 3) := by decide +kernel
theorem dL_addsUp_355 : decode cL_addsUp 355 = .ok (.aload 9, 2) := by decide +kernel
theorem dL_addsUp_357 : decode cL_addsUp 357 = .ok (.iload 14, 2) := by decide +kernel
theorem dL_addsUp_359 : decode cL_addsUp 359 = .ok (.dup2, 1) := by decide +kernel
theorem dL_addsUp_360 : decode cL_addsUp 360 = .ok (.iaload, 1) := by decide +kernel
theorem dL_addsUp_361 : decode cL_addsUp 361 = .ok (.iload 13, 2) := by decide +kernel
theorem dL_addsUp_363 : decode cL_addsUp 363 = .ok (.iadd, 1) := by decide +kernel
theorem dL_addsUp_364 : decode cL_addsUp 364 = .ok (.iastore, 1) := by decide +kernel
theorem dL_addsUp_365 : decode cL_addsUp 365 = .ok (.aload 10, 2) := by decide +kernel
theorem dL_addsUp_367 : decode cL_addsUp 367 = .ok (.iload 14, 2) := by decide +kernel
theorem dL_addsUp_369 : decode cL_addsUp 369 = .ok (.dup2, 1) := by decide +kernel
theorem dL_addsUp_370 : decode cL_addsUp 370 = .ok (.iaload, 1) := by decide +kernel
theorem dL_addsUp_371 : decode cL_addsUp 371 = .ok (.aload_n 0, 1) := by decide +kernel
theorem dL_addsUp_372 : decode cL_addsUp 372 = .ok (.getfield 10, 3) := by decide +kernel
theorem dL_addsUp_375 : decode cL_addsUp 375 = .ok (.aload_n 0, 1) := by decide +kernel
theorem dL_addsUp_376 : decode cL_addsUp 376 = .ok (.getfield 10, 3) := by decide +kernel
theorem dL_addsUp_379 : decode cL_addsUp 379 = .ok (.iload 11, 2) := by decide +kernel
theorem dL_addsUp_381 : decode cL_addsUp 381 = .ok (.iconst 0, 1) := by decide +kernel
theorem dL_addsUp_382 : decode cL_addsUp 382 = .ok (.invokestatic 200, 3) := by decide +kernel
theorem dL_addsUp_385 : decode cL_addsUp 385 = .ok (.iconst 2, 1) := by decide +kernel
theorem dL_addsUp_386 : decode cL_addsUp 386 = .ok (.invokestatic 203, 3) := by decide +kernel
theorem dL_addsUp_389 : decode cL_addsUp 389 = .ok (.isub, 1) := by decide +kernel
theorem dL_addsUp_390 : decode cL_addsUp 390 = .ok (.iastore, 1) := by decide +kernel
theorem dL_addsUp_391 : decode cL_addsUp 391 = .ok (.iinc 11 1, 3) := by decide +kernel
theorem dL_addsUp_394 : decode cL_addsUp 394 = .ok (.goto (-317), 3) := by decide +kernel
theorem dL_addsUp_397 : decode cL_addsUp 397 = .ok (.iconst 0, 1) := by decide +kernel
theorem dL_addsUp_398 : decode cL_addsUp 398 = .ok (.istore 11, 2) := by decide +kernel
theorem dL_addsUp_400 : decode cL_addsUp 400 = .ok (.iload 11, 2) := by decide +kernel
theorem dL_addsUp_402 : decode cL_addsUp 402 = .ok (.iconst 3, 1) := by decide +kernel
theorem dL_addsUp_403 : decode cL_addsUp 403 = .ok (.if_icmp .ge 155, 3) := by decide +kernel
theorem dL_addsUp_406 : decode cL_addsUp 406 = .ok (.aload_n 0, 1) := by decide +kernel
theorem dL_addsUp_407 : decode cL_addsUp 407 = .ok (.getfield 10, 3) := by decide +kernel
theorem dL_addsUp_410 : decode cL_addsUp 410 = .ok (.iload 11, 2) := by decide +kernel
theorem dL_addsUp_412 : decode cL_addsUp 412 = .ok (.iconst 0, 1) := by decide +kernel
theorem dL_addsUp_413 : decode cL_addsUp 413 = .ok (.invokestatic 205, 3) := by decide +kernel
theorem dL_addsUp_416 : decode cL_addsUp 416 = .ok (.aload 9, 2) := by decide +kernel
theorem dL_addsUp_418 : decode cL_addsUp 418 = .ok (.iload 11, 2) := by decide +kernel
theorem dL_addsUp_420 : decode cL_addsUp 420 = .ok (.iaload, 1) := by decide +kernel
theorem dL_addsUp_421 : decode cL_addsUp 421 = .ok (.if_icmp .ne 29, 3) := by decide +kernel
theorem dL_addsUp_424 : decode cL_addsUp 424 = .ok (.aload_n 0, 1) := by decide +kernel
theorem dL_addsUp_425 : decode cL_addsUp 425 = .ok (.getfield 10, 3) := by decide +kernel
theorem dL_addsUp_428 : decode cL_addsUp 428 = .ok (.iload 11, 2) := by decide +kernel
theorem dL_addsUp_430 : decode cL_addsUp 430 = .ok (.iconst 1, 1) := by decide +kernel
theorem dL_addsUp_431 : decode cL_addsUp 431 = .ok (.invokestatic 205, 3) := by decide +kernel
theorem dL_addsUp_434 : decode cL_addsUp 434 = .ok (.aload 10, 2) := by decide +kernel
theorem dL_addsUp_436 : decode cL_addsUp 436 = .ok (.iload 11, 2) := by decide +kernel
theorem dL_addsUp_438 : decode cL_addsUp 438 = .ok (.iaload, 1) := by decide +kernel
theorem dL_addsUp_439 : decode cL_addsUp 439 = .ok (.if_icmp .ne 11, 3) := by decide +kernel
theorem dL_addsUp_442 : decode cL_addsUp 442 = .ok (.aload 10, 2) := by decide +kernel
theorem dL_addsUp_444 : decode cL_addsUp 444 = .ok (.iload 11, 2) := by decide +kernel
theorem dL_addsUp_446 : decode cL_addsUp 446 = .ok (.iaload, 1) := by decide +kernel
theorem dL_addsUp_447 : decode cL_addsUp 447 = .ok (.ifCond .ge 5, 3) := by decide +kernel
theorem dL_addsUp_450 : decode cL_addsUp 450 = .ok (.iconst 0, 1) := by decide +kernel
theorem dL_addsUp_451 : decode cL_addsUp 451 = .ok (.ireturn, 1) := by decide +kernel
theorem dL_addsUp_452 : decode cL_addsUp 452 = .ok (.iconst (-1), 1) := by decide +kernel
theorem dL_addsUp_453 : decode cL_addsUp 453 = .ok (.istore 12, 2) := by decide +kernel
theorem dL_addsUp_455 : decode cL_addsUp 455 = .ok (.iconst 0, 1) := by decide +kernel
theorem dL_addsUp_456 : decode cL_addsUp 456 = .ok (.istore 13, 2) := by decide +kernel
theorem dL_addsUp_458 : decode cL_addsUp 458 = .ok (.aload_n 0, 1) := by decide +kernel
theorem dL_addsUp_459 : decode cL_addsUp 459 = .ok (.getfield 10, 3) := by decide +kernel
theorem dL_addsUp_462 : decode cL_addsUp 462 = .ok (.iload 11, 2) := by decide +kernel
theorem dL_addsUp_464 : decode cL_addsUp 464 = .ok (.iload 13, 2) := by decide +kernel
theorem dL_addsUp_466 : decode cL_addsUp 466 = .ok (.invokestatic 208, 3) := by decide +kernel
theorem dL_addsUp_469 : decode cL_addsUp 469 = .ok (.ifCond .lt 83, 3) := by decide +kernel
theorem dL_addsUp_472 : decode cL_addsUp 472 = .ok (.aload_n 0, 1) := by decide +kernel
theorem dL_addsUp_473 : decode cL_addsUp 473 = .ok (.getfield 10, 3) := by decide +kernel
theorem dL_addsUp_476 : decode cL_addsUp 476 = .ok (.iload 11, 2) := by decide +kernel
theorem dL_addsUp_478 : decode cL_addsUp 478 = .ok (.iload 13, 2) := by decide +kernel
theorem dL_addsUp_480 : decode cL_addsUp 480 = .ok (.invokestatic 208, 3) := by decide +kernel
theorem dL_addsUp_483 : decode cL_addsUp 483 = .ok (.istore 14, 2) := by decide +kernel
theorem dL_addsUp_485 : decode cL_addsUp 485 = .ok (.aload_n 0, 1) := by decide +kernel
theorem dL_addsUp_486 : decode cL_addsUp 486 = .ok (.getfield 10, 3) := by decide +kernel
theorem dL_addsUp_489 : decode cL_addsUp 489 = .ok (.iload 14, 2) := by decide +kernel
theorem dL_addsUp_491 : decode cL_addsUp 491 = .ok (.iconst 2, 1) := by decide +kernel
theorem dL_addsUp_492 : decode cL_addsUp 492 = .ok (.invokestatic 200, 3) := by decide +kernel
theorem dL_addsUp_495 : decode cL_addsUp 495 = .ok (.iconst 2, 1) := by decide +kernel
theorem dL_addsUp_496 : decode cL_addsUp 496 = .ok (.if_icmp .ne 33, 3) := by decide +kernel
theorem dL_addsUp_499 : decode cL_addsUp 499 = .ok (.aload_n 0, 1) := by decide +kernel
theorem dL_addsUp_500 : decode cL_addsUp 500 = .ok (.getfield 10, 3) := by decide +kernel
theorem dL_addsUp_503 : decode cL_addsUp 503 = .ok (.iload 14, 2) := by decide +kernel
theorem dL_addsUp_505 : decode cL_addsUp 505 = .ok (.iconst 3, 1) := by decide +kernel
theorem dL_addsUp_506 : decode cL_addsUp 506 = .ok (.invokestatic 200, 3) := by decide +kernel
theorem dL_addsUp_509 : decode cL_addsUp 509 = .ok (.iload 11, 2) := by decide +kernel
theorem dL_addsUp_511 : decode cL_addsUp 511 = .ok (.if_icmp .ne 18, 3) := by decide +kernel
theorem dL_addsUp_514 : decode cL_addsUp 514 = .ok (.aload_n 0, 1) := by decide +kernel
theorem dL_addsUp_515 : decode cL_addsUp 515 = .ok (.getfield 10, 3) := by decide +kernel
theorem dL_addsUp_518 : decode cL_addsUp 518 = .ok (.iload 14, 2) := by decide +kernel
theorem dL_addsUp_520 : decode cL_addsUp 520 = .ok (.iconst 5, 1) := by decide +kernel
theorem dL_addsUp_521 : decode cL_addsUp 521 = .ok (.invokestatic 200, 3) := by decide +kernel
theorem dL_addsUp_524 : decode cL_addsUp 524 = .ok (.iload 12, 2) := by decide +kernel
theorem dL_addsUp_526 : decode cL_addsUp 526 = .ok (.if_icmp .gt 5, 3) := by decide +kernel
theorem dL_addsUp_529 : decode cL_addsUp 529 = .ok (.iconst 0, 1) := by decide +kernel
theorem dL_addsUp_530 : decode cL_addsUp 530 = .ok (.ireturn, 1) := by decide +kernel
theorem dL_addsUp_531 : decode cL_addsUp 531 = .ok (.aload_n 0, 1) := by decide +kernel
theorem dL_addsUp_532 : decode cL_addsUp 532 = .ok (.getfield 10, 3) := by decide +kernel
theorem dL_addsUp_535 : decode cL_addsUp 535 = .ok (.iload 14, 2) := by decide +kernel
theorem dL_addsUp_537 : decode cL_addsUp 537 = .ok (.iconst 5, 1) := by decide +kernel
theorem dL_addsUp_538 : decode cL_addsUp 538 = .ok (.invokestatic 200, 3) := by decide +kernel
theorem dL_addsUp_541 : decode cL_addsUp 541 = .ok (.istore 12, 2) := by decide +kernel
theorem dL_addsUp_543 : decode cL_addsUp 543 = .ok (.iinc 4 (-1), 3) := by decide +kernel
theorem dL_addsUp_546 : decode cL_addsUp 546 = .ok (.iinc 13 1, 3) := by decide +kernel
theorem dL_addsUp_549 : decode cL_addsUp 549 = .ok (.goto (-91), 3) := by decide +kernel
theorem dL_addsUp_552 : decode cL_addsUp 552 = .ok (.iinc 11 1, 3) := by decide +kernel
theorem dL_addsUp_555 : decode cL_addsUp 555 = .ok (.goto (-155), 3) := by decide +kernel
theorem dL_addsUp_558 : decode cL_addsUp 558 = .ok (.iconst 0, 1) := by decide +kernel
theorem dL_addsUp_559 : decode cL_addsUp 559 = .ok (.istore 11, 2) := by decide +kernel
theorem dL_addsUp_561 : decode cL_addsUp 561 = .ok (.iload 11, 2) := by decide +kernel
theorem dL_addsUp_563 : decode cL_addsUp 563 = .ok (.iload_n 3, 1) := by decide +kernel
theorem dL_addsUp_564 : decode cL_addsUp 564 = .ok (.if_icmp .ge 43, 3) := by decide +kernel
theorem dL_addsUp_567 : decode cL_addsUp 567 = .ok (.aload_n 0, 1) := by decide +kernel
theorem dL_addsUp_568 : decode cL_addsUp 568 = .ok (.getfield 10, 3) := by decide +kernel
theorem dL_addsUp_571 : decode cL_addsUp 571 = .ok (.iload 11, 2) := by decide +kernel
theorem dL_addsUp_573 : decode cL_addsUp 573 = .ok (.invokevirtual 210, 3) := by decide +kernel
theorem dL_addsUp_576 : decode cL_addsUp 576 = .ok (.ifCond .lt 23, 3) := by decide +kernel
theorem dL_addsUp_579 : decode cL_addsUp 579 = .ok (.aload_n 0, 1) := by decide +kernel
theorem dL_addsUp_580 : decode cL_addsUp 580 = .ok (.getfield 10, 3) := by decide +kernel
theorem dL_addsUp_583 : decode cL_addsUp 583 = .ok (.aload_n 0, 1) := by decide +kernel
theorem dL_addsUp_584 : decode cL_addsUp 584 = .ok (.getfield 10, 3) := by decide +kernel
theorem dL_addsUp_587 : decode cL_addsUp 587 = .ok (.iload 11, 2) := by decide +kernel
theorem dL_addsUp_589 : decode cL_addsUp 589 = .ok (.invokevirtual 210, 3) := by decide +kernel
theorem dL_addsUp_592 : decode cL_addsUp 592 = .ok (.iconst 2, 1) := by decide +kernel
theorem dL_addsUp_593 : decode cL_addsUp 593 = .ok (.invokestatic 200, 3) := by decide +kernel
theorem dL_addsUp_596 : decode cL_addsUp 596 = .ok (.ifCond .eq 5, 3) := by decide +kernel
theorem dL_addsUp_599 : decode cL_addsUp 599 = .ok (.iconst 0, 1) := by decide +kernel
theorem dL_addsUp_600 : decode cL_addsUp 600 = .ok (.ireturn, 1) := by decide +kernel
theorem dL_addsUp_601 : decode cL_addsUp 601 = .ok (.iinc 11 1, 3) := by decide +kernel
theorem dL_addsUp_604 : decode cL_addsUp 604 = .ok (.goto (-43), 3) := by decide +kernel
theorem dL_addsUp_607 : decode cL_addsUp 607 = .ok (.aload_n 0, 1) := by decide +kernel
theorem dL_addsUp_608 : decode cL_addsUp 608 = .ok (.getfield 10, 3) := by decide +kernel
theorem dL_addsUp_611 : decode cL_addsUp 611 = .ok (.iconst 4, 1) := by decide +kernel
theorem dL_addsUp_612 : decode cL_addsUp 612 = .ok (.invokestatic 196, 3) := by decide +kernel
theorem dL_addsUp_615 : decode cL_addsUp 615 = .ok (.istore 11, 2) := by decide +kernel
theorem dL_addsUp_617 : decode cL_addsUp 617 = .ok (.aload_n 0, 1) := by decide +kernel
theorem dL_addsUp_618 : decode cL_addsUp 618 = .ok (.getfield 10, 3) := by decide +kernel
theorem dL_addsUp_621 : decode cL_addsUp 621 = .ok (.iload 8, 2) := by decide +kernel
theorem dL_addsUp_623 : decode cL_addsUp 623 = .ok (.invokestatic 213, 3) := by decide +kernel
theorem dL_addsUp_626 : decode cL_addsUp 626 = .ok (.istore 12, 2) := by decide +kernel
theorem dL_addsUp_628 : decode cL_addsUp 628 = .ok (.aload_n 0, 1) := by decide +kernel
theorem dL_addsUp_629 : decode cL_addsUp 629 = .ok (.getfield 10, 3) := by decide +kernel
theorem dL_addsUp_632 : decode cL_addsUp 632 = .ok (.iload 8, 2) := by decide +kernel
theorem dL_addsUp_634 : decode cL_addsUp 634 = .ok (.invokestatic 215, 3) := by decide +kernel
theorem dL_addsUp_637 : decode cL_addsUp 637 = .ok (.istore 13, 2) := by decide +kernel
theorem dL_addsUp_639 : decode cL_addsUp 639 = .ok (.iload 12, 2) := by decide +kernel
theorem dL_addsUp_641 : decode cL_addsUp 641 = .ok (.iload 13, 2) := by decide +kernel
theorem dL_addsUp_643 : decode cL_addsUp 643 = .ok (.aload_n 0, 1) := by decide +kernel
theorem dL_addsUp_644 : decode cL_addsUp 644 = .ok (.getfield 10, 3) := by decide +kernel
theorem dL_addsUp_647 : decode cL_addsUp 647 = .ok (.iconst 4, 1) := by decide +kernel
theorem dL_addsUp_648 : decode cL_addsUp 648 = .ok (.invokestatic 198, 3) := by decide +kernel
theorem dL_addsUp_651 : decode cL_addsUp 651 = .ok (.iadd, 1) := by decide +kernel
theorem dL_addsUp_652 : decode cL_addsUp 652 = .ok (.iload_n 2, 1) := by decide +kernel
theorem dL_addsUp_653 : decode cL_addsUp 653 = .ok (.aload_n 0, 1) := by decide +kernel
theorem dL_addsUp_654 : decode cL_addsUp 654 = .ok (.getfield 10, 3) := by decide +kernel
theorem dL_addsUp_657 : decode cL_addsUp 657 = .ok (.iconst 5, 1) := by decide +kernel
theorem dL_addsUp_658 : decode cL_addsUp 658 = .ok (.invokestatic 198, 3) := by decide +kernel
theorem dL_addsUp_661 : decode cL_addsUp 661 = .ok (.idiv, 1) := by decide +kernel
theorem dL_addsUp_662 : decode cL_addsUp 662 = .ok (.isub, 1) := by decide +kernel
theorem dL_addsUp_663 : decode cL_addsUp 663 = .ok (.if_icmp .ne 154, 3) := by decide +kernel
theorem dL_addsUp_666 : decode cL_addsUp 666 = .ok (.aload_n 0, 1) := by decide +kernel
theorem dL_addsUp_667 : decode cL_addsUp 667 = .ok (.getfield 10, 3) := by decide +kernel
theorem dL_addsUp_670 : decode cL_addsUp 670 = .ok (.invokevirtual 190, 3) := by decide +kernel
theorem dL_addsUp_673 : decode cL_addsUp 673 = .ok (.iload 11, 2) := by decide +kernel
theorem dL_addsUp_675 : decode cL_addsUp 675 = .ok (.iload 12, 2) := by decide +kernel
theorem dL_addsUp_677 : decode cL_addsUp 677 = .ok (.isub, 1) := by decide +kernel
theorem dL_addsUp_678 : decode cL_addsUp 678 = .ok (.invokestatic 217, 3) := by decide +kernel
theorem dL_addsUp_681 : decode cL_addsUp 681 = .ok (.if_icmp .ne 136, 3) := by decide +kernel
theorem dL_addsUp_684 : decode cL_addsUp 684 = .ok (.aload_n 0, 1) := by decide +kernel
theorem dL_addsUp_685 : decode cL_addsUp 685 = .ok (.getfield 10, 3) := by decide +kernel
theorem dL_addsUp_688 : decode cL_addsUp 688 = .ok (.invokevirtual 220, 3) := by decide +kernel
theorem dL_addsUp_691 : decode cL_addsUp 691 = .ok (.iload 11, 2) := by decide +kernel
theorem dL_addsUp_693 : decode cL_addsUp 693 = .ok (.aload_n 0, 1) := by decide +kernel
theorem dL_addsUp_694 : decode cL_addsUp 694 = .ok (.getfield 10, 3) := by decide +kernel
theorem dL_addsUp_697 : decode cL_addsUp 697 = .ok (.iconst 3, 1) := by decide +kernel
theorem dL_addsUp_698 : decode cL_addsUp 698 = .ok (.invokestatic 198, 3) := by decide +kernel
theorem dL_addsUp_701 : decode cL_addsUp 701 = .ok (.isub, 1) := by decide +kernel
theorem dL_addsUp_702 : decode cL_addsUp 702 = .ok (.invokestatic 217, 3) := by decide +kernel
theorem dL_addsUp_705 : decode cL_addsUp 705 = .ok (.if_icmp .ne 112, 3) := by decide +kernel
theorem dL_addsUp_708 : decode cL_addsUp 708 = .ok (.iload 13, 2) := by decide +kernel
theorem dL_addsUp_710 : decode cL_addsUp 710 = .ok (.aload_n 0, 1) := by decide +kernel
theorem dL_addsUp_711 : decode cL_addsUp 711 = .ok (.getfield 10, 3) := by decide +kernel
theorem dL_addsUp_714 : decode cL_addsUp 714 = .ok (.iconst 0, 1) := by decide +kernel
theorem dL_addsUp_715 : decode cL_addsUp 715 = .ok (.invokestatic 198, 3) := by decide +kernel
theorem dL_addsUp_718 : decode cL_addsUp 718 = .ok (.if_icmp .lt 99, 3) := by decide +kernel
theorem dL_addsUp_721 : decode cL_addsUp 721 = .ok (.iload 13, 2) := by decide +kernel
theorem dL_addsUp_723 : decode cL_addsUp 723 = .ok (.aload_n 0, 1) := by decide +kernel
theorem dL_addsUp_724 : decode cL_addsUp 724 = .ok (.getfield 10, 3) := by decide +kernel
theorem dL_addsUp_727 : decode cL_addsUp 727 = .ok (.iconst 1, 1) := by decide +kernel
theorem dL_addsUp_728 : decode cL_addsUp 728 = .ok (.invokestatic 198, 3) := by decide +kernel
theorem dL_addsUp_731 : decode cL_addsUp 731 = .ok (.if_icmp .gt 86, 3) := by decide +kernel
theorem dL_addsUp_734 : decode cL_addsUp 734 = .ok (.aload_n 0, 1) := by decide +kernel
theorem dL_addsUp_735 : decode cL_addsUp 735 = .ok (.getfield 10, 3) := by decide +kernel
theorem dL_addsUp_738 : decode cL_addsUp 738 = .ok (.iload 8, 2) := by decide +kernel
theorem dL_addsUp_740 : decode cL_addsUp 740 = .ok (.aload_n 0, 1) := by decide +kernel
theorem dL_addsUp_741 : decode cL_addsUp 741 = .ok (.getfield 10, 3) := by decide +kernel
theorem dL_addsUp_744 : decode cL_addsUp 744 = .ok (.iconst 1, 1) := by decide +kernel
theorem dL_addsUp_745 : decode cL_addsUp 745 = .ok (.invokevirtual 223, 3) := by decide +kernel
theorem dL_addsUp_748 : decode cL_addsUp 748 = .ok (.iadd, 1) := by decide +kernel
theorem dL_addsUp_749 : decode cL_addsUp 749 = .ok (.invokestatic 215, 3) := by decide +kernel
theorem dL_addsUp_752 : decode cL_addsUp 752 = .ok (.aload_n 0, 1) := by decide +kernel
theorem dL_addsUp_753 : decode cL_addsUp 753 = .ok (.getfield 10, 3) := by decide +kernel
theorem dL_addsUp_756 : decode cL_addsUp 756 = .ok (.iconst 1, 1) := by decide +kernel
theorem dL_addsUp_757 : decode cL_addsUp 757 = .ok (.invokestatic 198, 3) := by decide +kernel
theorem dL_addsUp_760 : decode cL_addsUp 760 = .ok (.if_icmp .ne 57, 3) := by decide +kernel
theorem dL_addsUp_763 : decode cL_addsUp 763 = .ok (.aload_n 0, 1) := by decide +kernel
theorem dL_addsUp_764 : decode cL_addsUp 764 = .ok (.getfield 10, 3) := by decide +kernel
theorem dL_addsUp_767 : decode cL_addsUp 767 = .ok (.iload 8, 2) := by decide +kernel
theorem dL_addsUp_769 : decode cL_addsUp 769 = .ok (.aload_n 0, 1) := by decide +kernel
theorem dL_addsUp_770 : decode cL_addsUp 770 = .ok (.getfield 10, 3) := by decide +kernel
theorem dL_addsUp_773 : decode cL_addsUp 773 = .ok (.iconst 0, 1) := by decide +kernel
theorem dL_addsUp_774 : decode cL_addsUp 774 = .ok (.invokevirtual 223, 3) := by decide +kernel
theorem dL_addsUp_777 : decode cL_addsUp 777 = .ok (.iadd, 1) := by decide +kernel
theorem dL_addsUp_778 : decode cL_addsUp 778 = .ok (.invokestatic 215, 3) := by decide +kernel
theorem dL_addsUp_781 : decode cL_addsUp 781 = .ok (.aload_n 0, 1) := by decide +kernel
theorem dL_addsUp_782 : decode cL_addsUp 782 = .ok (.getfield 10, 3) := by decide +kernel
theorem dL_addsUp_785 : decode cL_addsUp 785 = .ok (.iconst 0, 1) := by decide +kernel
theorem dL_addsUp_786 : decode cL_addsUp 786 = .ok (.invokestatic 198, 3) := by decide +kernel
theorem dL_addsUp_789 : decode cL_addsUp 789 = .ok (.if_icmp .ne 28, 3) := by decide +kernel
theorem dL_addsUp_792 : decode cL_addsUp 792 = .ok (.aload_n 0, 1) := by decide +kernel
theorem dL_addsUp_793 : decode cL_addsUp 793 = .ok (.getfield 10, 3) := by decide +kernel
theorem dL_addsUp_796 : decode cL_addsUp 796 = .ok (.iload 8, 2) := by decide +kernel
theorem dL_addsUp_798 : decode cL_addsUp 798 = .ok (.iconst 2, 1) := by decide +kernel
theorem dL_addsUp_799 : decode cL_addsUp 799 = .ok (.aload_n 0, 1) := by decide +kernel
theorem dL_addsUp_800 : decode cL_addsUp 800 = .ok (.getfield 10, 3) := by decide +kernel
theorem dL_addsUp_803 : decode cL_addsUp 803 = .ok (.iconst 2, 1) := by decide +kernel
theorem dL_addsUp_804 : decode cL_addsUp 804 = .ok (.invokestatic 198, 3) := by decide +kernel
theorem dL_addsUp_807 : decode cL_addsUp 807 = .ok (.imul, 1) := by decide +kernel
theorem dL_addsUp_808 : decode cL_addsUp 808 = .ok (.iadd, 1) := by decide +kernel
theorem dL_addsUp_809 : decode cL_addsUp 809 = .ok (.invokestatic 215, 3) := by decide +kernel
theorem dL_addsUp_812 : decode cL_addsUp 812 = .ok (.iload 13, 2) := by decide +kernel
theorem dL_addsUp_814 : decode cL_addsUp 814 = .ok (.if_icmp .eq 5, 3) := by decide +kernel
theorem dL_addsUp_817 : decode cL_addsUp 817 = .ok (.iconst 0, 1) := by decide +kernel
theorem dL_addsUp_818 : decode cL_addsUp 818 = .ok (.ireturn, 1) := by decide +kernel
theorem dL_addsUp_819 : decode cL_addsUp 819 = .ok (.iload 4, 2) := by decide +kernel
theorem dL_addsUp_821 : decode cL_addsUp 821 = .ok (.ifCond .ne 211, 3) := by decide +kernel
theorem dL_addsUp_824 : decode cL_addsUp 824 = .ok (.iload_n 3, 1) := by decide +kernel
theorem dL_addsUp_825 : decode cL_addsUp 825 = .ok (.aload_n 0, 1) := by decide +kernel
theorem dL_addsUp_826 : decode cL_addsUp 826 = .ok (.getfield 10, 3) := by decide +kernel
theorem dL_addsUp_829 : decode cL_addsUp 829 = .ok (.iconst 1, 1) := by decide +kernel
theorem dL_addsUp_830 : decode cL_addsUp 830 = .ok (.invokestatic 196, 3) := by decide +kernel
theorem dL_addsUp_833 : decode cL_addsUp 833 = .ok (.if_icmp .ne 199, 3) := by decide +kernel
theorem dL_addsUp_836 : decode cL_addsUp 836 = .ok (.iload_n 2, 1) := by decide +kernel
theorem dL_addsUp_837 : decode cL_addsUp 837 = .ok (.aload_n 0, 1) := by decide +kernel
theorem dL_addsUp_838 : decode cL_addsUp 838 = .ok (.getfield 10, 3) := by decide +kernel
theorem dL_addsUp_841 : decode cL_addsUp 841 = .ok (.bipush 7, 2) := by decide +kernel
theorem dL_addsUp_843 : decode cL_addsUp 843 = .ok (.invokestatic 196, 3) := by decide +kernel
theorem dL_addsUp_846 : decode cL_addsUp 846 = .ok (.if_icmp .ne 186, 3) := by decide +kernel
theorem dL_addsUp_849 : decode cL_addsUp 849 = .ok (.iload_n 2, 1) := by decide +kernel
theorem dL_addsUp_850 : decode cL_addsUp 850 = .ok (.aload_n 0, 1) := by decide +kernel
theorem dL_addsUp_851 : decode cL_addsUp 851 = .ok (.getfield 10, 3) := by decide +kernel
theorem dL_addsUp_854 : decode cL_addsUp 854 = .ok (.bipush 7, 2) := by decide +kernel
theorem dL_addsUp_856 : decode cL_addsUp 856 = .ok (.invokestatic 198, 3) := by decide +kernel
theorem dL_addsUp_859 : decode cL_addsUp 859 = .ok (.if_icmp .gt 173, 3) := by decide +kernel
theorem dL_addsUp_862 : decode cL_addsUp 862 = .ok (.iload 7, 2) := by decide +kernel
theorem dL_addsUp_864 : decode cL_addsUp 864 = .ok (.aload_n 0, 1) := by decide +kernel
theorem dL_addsUp_865 : decode cL_addsUp 865 = .ok (.getfield 10, 3) := by decide +kernel
theorem dL_addsUp_868 : decode cL_addsUp 868 = .ok (.bipush 8, 2) := by decide +kernel
theorem dL_addsUp_870 : decode cL_addsUp 870 = .ok (.invokestatic 196, 3) := by decide +kernel
theorem dL_addsUp_873 : decode cL_addsUp 873 = .ok (.if_icmp .ne 159, 3) := by decide +kernel
theorem dL_addsUp_876 : decode cL_addsUp 876 = .ok (.iload 6, 2) := by decide +kernel
theorem dL_addsUp_878 : decode cL_addsUp 878 = .ok (.aload_n 0, 1) := by decide +kernel
theorem dL_addsUp_879 : decode cL_addsUp 879 = .ok (.getfield 10, 3) := by decide +kernel
theorem dL_addsUp_882 : decode cL_addsUp 882 = .ok (.bipush 13, 2) := by decide +kernel
theorem dL_addsUp_884 : decode cL_addsUp 884 = .ok (.invokestatic 196, 3) := by decide +kernel
theorem dL_addsUp_887 : decode cL_addsUp 887 = .ok (.if_icmp .ne 145, 3) := by decide +kernel
theorem dL_addsUp_890 : decode cL_addsUp 890 = .ok (.iload 5, 2) := by decide +kernel
theorem dL_addsUp_892 : decode cL_addsUp 892 = .ok (.aload_n 0, 1) := by decide +kernel
theorem dL_addsUp_893 : decode cL_addsUp 893 = .ok (.getfield 10, 3) := by decide +kernel
theorem dL_addsUp_896 : decode cL_addsUp 896 = .ok (.bipush 14, 2) := by decide +kernel
theorem dL_addsUp_898 : decode cL_addsUp 898 = .ok (.invokestatic 196, 3) := by decide +kernel
theorem dL_addsUp_901 : decode cL_addsUp 901 = .ok (.if_icmp .ne 131, 3) := by decide +kernel
theorem dL_addsUp_904 : decode cL_addsUp 904 = .ok (.aload_n 0, 1) := by decide +kernel
theorem dL_addsUp_905 : decode cL_addsUp 905 = .ok (.getfield 10, 3) := by decide +kernel
theorem dL_addsUp_908 : decode cL_addsUp 908 = .ok (.invokevirtual 227, 3) := by decide +kernel
theorem dL_addsUp_911 : decode cL_addsUp 911 = .ok (.aload 9, 2) := by decide +kernel
theorem dL_addsUp_913 : decode cL_addsUp 913 = .ok (.iconst 0, 1) := by decide +kernel
theorem dL_addsUp_914 : decode cL_addsUp 914 = .ok (.iaload, 1) := by decide +kernel
theorem dL_addsUp_915 : decode cL_addsUp 915 = .ok (.aload 9, 2) := by decide +kernel
theorem dL_addsUp_917 : decode cL_addsUp 917 = .ok (.iconst 2, 1) := by decide +kernel
theorem dL_addsUp_918 : decode cL_addsUp 918 = .ok (.iaload, 1) := by decide +kernel
theorem dL_addsUp_919 : decode cL_addsUp 919 = .ok (.isub, 1) := by decide +kernel
theorem dL_addsUp_920 : decode cL_addsUp 920 = .ok (.if_icmp .ne 112, 3) := by decide +kernel
theorem dL_addsUp_923 : decode cL_addsUp 923 = .ok (.aload_n 0, 1) := by decide +kernel
theorem dL_addsUp_924 : decode cL_addsUp 924 = .ok (.getfield 10, 3) := by decide +kernel
theorem dL_addsUp_927 : decode cL_addsUp 927 = .ok (.iload_n 3, 1) := by decide +kernel
theorem dL_addsUp_928 : decode cL_addsUp 928 = .ok (.invokevirtual 210, 3) := by decide +kernel
theorem dL_addsUp_931 : decode cL_addsUp 931 = .ok (.iconst (-1), 1) := by decide +kernel
theorem dL_addsUp_932 : decode cL_addsUp 932 = .ok (.if_icmp .ne 100, 3) := by decide +kernel
theorem dL_addsUp_935 : decode cL_addsUp 935 = .ok (.aload_n 0, 1) := by decide +kernel
theorem dL_addsUp_936 : decode cL_addsUp 936 = .ok (.getfield 10, 3) := by decide +kernel
theorem dL_addsUp_939 : decode cL_addsUp 939 = .ok (.bipush 6, 2) := by decide +kernel
theorem dL_addsUp_941 : decode cL_addsUp 941 = .ok (.invokestatic 196, 3) := by decide +kernel
theorem dL_addsUp_944 : decode cL_addsUp 944 = .ok (.ifCond .eq 15, 3) := by decide +kernel
theorem dL_addsUp_947 : decode cL_addsUp 947 = .ok (.aload_n 0, 1) := by decide +kernel
theorem dL_addsUp_948 : decode cL_addsUp 948 = .ok (.getfield 10, 3) := by decide +kernel
theorem dL_addsUp_951 : decode cL_addsUp 951 = .ok (.iconst 5, 1) := by decide +kernel
theorem dL_addsUp_952 : decode cL_addsUp 952 = .ok (.invokestatic 196, 3) := by decide +kernel
theorem dL_addsUp_955 : decode cL_addsUp 955 = .ok (.iconst 1, 1) := by decide +kernel
theorem dL_addsUp_956 : decode cL_addsUp 956 = .ok (.if_icmp .ne 76, 3) := by decide +kernel
theorem dL_addsUp_959 : decode cL_addsUp 959 = .ok (.iload 7, 2) := by decide +kernel
theorem dL_addsUp_961 : decode cL_addsUp 961 = .ok (.ifCond .ge 15, 3) := by decide +kernel
theorem dL_addsUp_964 : decode cL_addsUp 964 = .ok (.aload_n 0, 1) := by decide +kernel
theorem dL_addsUp_965 : decode cL_addsUp 965 = .ok (.getfield 10, 3) := by decide +kernel
theorem dL_addsUp_968 : decode cL_addsUp 968 = .ok (.bipush 9, 2) := by decide +kernel
theorem dL_addsUp_970 : decode cL_addsUp 970 = .ok (.invokestatic 196, 3) := by decide +kernel
theorem dL_addsUp_973 : decode cL_addsUp 973 = .ok (.ifCond .ne 59, 3) := by decide +kernel
theorem dL_addsUp_976 : decode cL_addsUp 976 = .ok (.aload_n 0, 1) := by decide +kernel
theorem dL_addsUp_977 : decode cL_addsUp 977 = .ok (.getfield 10, 3) := by decide +kernel
theorem dL_addsUp_980 : decode cL_addsUp 980 = .ok (.bipush 9, 2) := by decide +kernel
theorem dL_addsUp_982 : decode cL_addsUp 982 = .ok (.invokestatic 196, 3) := by decide +kernel
theorem dL_addsUp_985 : decode cL_addsUp 985 = .ok (.iconst 2, 1) := by decide +kernel
theorem dL_addsUp_986 : decode cL_addsUp 986 = .ok (.aload_n 0, 1) := by decide +kernel
theorem dL_addsUp_987 : decode cL_addsUp 987 = .ok (.getfield 10, 3) := by decide +kernel
theorem dL_addsUp_990 : decode cL_addsUp 990 = .ok (.bipush 12, 2) := by decide +kernel
theorem dL_addsUp_992 : decode cL_addsUp 992 = .ok (.invokestatic 198, 3) := by decide +kernel
theorem dL_addsUp_995 : decode cL_addsUp 995 = .ok (.bipush 20, 2) := by decide +kernel
theorem dL_addsUp_997 : decode cL_addsUp 997 = .ok (.iadd, 1) := by decide +kernel
theorem dL_addsUp_998 : decode cL_addsUp 998 = .ok (.invokestatic 33, 3) := by decide +kernel
theorem dL_addsUp_1001 : decode cL_addsUp 1001 = .ok (.if_icmp .ge 31, 3) := by decide +kernel
theorem dL_addsUp_1004 : decode cL_addsUp 1004 = .ok (.aload_n 0, 1) := by decide +kernel
theorem dL_addsUp_1005 : decode cL_addsUp 1005 = .ok (.getfield 10, 3) := by decide +kernel
theorem dL_addsUp_1008 : decode cL_addsUp 1008 = .ok (.invokevirtual 230, 3) := by decide +kernel
theorem dL_addsUp_1011 : decode cL_addsUp 1011 = .ok (.iload_n 2, 1) := by decide +kernel
theorem dL_addsUp_1012 : decode cL_addsUp 1012 = .ok (.i2f, 1) := by decide +kernel
theorem dL_addsUp_1013 : decode cL_addsUp 1013 = .ok (.aload_n 0, 1) := by decide +kernel
theorem dL_addsUp_1014 : decode cL_addsUp 1014 = .ok (.getfield 10, 3) := by decide +kernel
theorem dL_addsUp_1017 : decode cL_addsUp 1017 = .ok (.bipush 7, 2) := by decide +kernel
theorem dL_addsUp_1019 : decode cL_addsUp 1019 = .ok (.invokestatic 198, 3) := by decide +kernel
theorem dL_addsUp_1022 : decode cL_addsUp 1022 = .ok (.i2f, 1) := by decide +kernel
theorem dL_addsUp_1023 : decode cL_addsUp 1023 = .ok (.fdiv, 1) := by decide +kernel
theorem dL_addsUp_1024 : decode cL_addsUp 1024 = .ok (.fcmp .l, 1) := by decide +kernel
theorem dL_addsUp_1025 : decode cL_addsUp 1025 = .ok (.ifCond .ne 7, 3) := by decide +kernel
theorem dL_addsUp_1028 : decode cL_addsUp 1028 = .ok (.iconst 1, 1) := by decide +kernel
theorem dL_addsUp_1029 : decode cL_addsUp 1029 = .ok (.goto 4, 3) := by decide +kernel
theorem dL_addsUp_1032 : decode cL_addsUp 1032 = .ok (.iconst 0, 1) := by decide +kernel
theorem dL_addsUp_1033 : decode cL_addsUp 1033 = .ok (.ireturn, 1) := by decide +kernel
