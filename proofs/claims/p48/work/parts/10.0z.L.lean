set_option maxRecDepth 20000 in
theorem ggL_init_X9_init : GoodIn wsL_init wsX9_init := goodIn_r _ [14, 15, 2, 3, 16, 17, 18, 19, 20, 21, 22, 23, 24, 25, 26, 27, 28, 29, 30, 31, 32, 33, 34, 35, 36, 37, 38, 39, 40, 41, 42, 43, 44, 45, 46, 47, 48, 49, 50, 51, 52, 53, 54, 55, 56, 57, 58, 59, 60, 61, 62, 63, 64, 65, 66, 67, 68, 69, 70, 71, 72, 73, 74, 75, 76, 77, 78, 79, 80, 81, 82, 83, 84, 85, 86, 87, 88, 89, 90, 91, 92, 93, 94, 95, 96, 97, 98, 99, 100, 101, 102, 103, 104, 105, 106, 6, 107, 145, 146, 147, 148, 149, 150, 151, 152, 153, 154, 155, 156, 157, 128, 129, 130, 131, 132, 133, 134, 135, 136, 158, 159, 160, 161, 162, 163, 164, 165, 166, 167, 168, 169, 170, 171] (by decide +kernel) (by decide +kernel)
set_option maxRecDepth 20000 in
theorem gL_init_X9_init : GoodIn wsL_init (wsX9_init) := ggL_init_X9_init
set_option maxRecDepth 20000 in
theorem ggL_init_J4_init_da8c8 : GoodIn wsL_init wsJ4_init_da8c8 := goodIn_r _ [110, 111, 112, 113, 114, 115, 2, 3, 116, 117, 118, 119, 120, 121, 122, 123, 124, 125, 126, 127, 141, 142, 143, 144] (by decide +kernel) (by decide +kernel)
set_option maxRecDepth 20000 in
theorem gL_init_J4_init_da8c8 : GoodIn wsL_init (wsJ4_init_da8c8) := ggL_init_J4_init_da8c8
theorem dL_init_0 : decode cL_init 0 = .ok (.aload_n 0, 1) := by decide +kernel
theorem dL_init_1 : decode cL_init 1 = .ok (.invokespecial 1, 3) := by decide +kernel
theorem dL_init_4 : decode cL_init 4 = .ok (.aload_n 0, 1) := by decide +kernel
theorem dL_init_5 : decode cL_init 5 = .ok (.new 7, 3) := by decide +kernel
theorem dL_init_8 : decode cL_init 8 = .ok (.dup, 1) := by decide +kernel
theorem dL_init_9 : decode cL_init 9 = .ok (.invokespecial 9, 3) := by decide +kernel
theorem dL_init_12 : decode cL_init 12 = .ok (.putfield 10, 3) := by decide +kernel
theorem dL_init_15 : decode cL_init 15 = .ok (.aload_n 0, 1) := by decide +kernel
theorem dL_init_16 : decode cL_init 16 = .ok (.new 16, 3) := by decide +kernel
theorem dL_init_19 : decode cL_init 19 = .ok (.dup, 1) := by decide +kernel
theorem dL_init_20 : decode cL_init 20 = .ok (.invokespecial 18, 3) := by decide +kernel
theorem dL_init_23 : decode cL_init 23 = .ok (.putfield 19, 3) := by decide +kernel
theorem dL_init_26 : decode cL_init 26 = .ok (.return_, 1) := by decide +kernel
theorem dL_at_0 : decode cL_at 0 = .ok (.iload_n 1, 1) := by decide +kernel
theorem dL_at_1 : decode cL_at 1 = .ok (.aload_n 0, 1) := by decide +kernel
theorem dL_at_2 : decode cL_at 2 = .ok (.arraylength, 1) := by decide +kernel
theorem dL_at_3 : decode cL_at 3 = .ok (.if_icmp .ge 9, 3) := by decide +kernel
theorem dL_at_6 : decode cL_at 6 = .ok (.aload_n 0, 1) := by decide +kernel
theorem dL_at_7 : decode cL_at 7 = .ok (.iload_n 1, 1) := by decide +kernel
theorem dL_at_8 : decode cL_at 8 = .ok (.iaload, 1) := by decide +kernel
theorem dL_at_9 : decode cL_at 9 = .ok (.goto 4, 3) := by decide +kernel
theorem dL_at_12 : decode cL_at 12 = .ok (.iconst 0, 1) := by decide +kernel
theorem dL_at_13 : decode cL_at 13 = .ok (.istore_n 2, 1) := by decide +kernel
theorem dL_at_14 : decode cL_at 14 = .ok (.iload_n 2, 1) := by decide +kernel
theorem dL_at_15 : decode cL_at 15 = .ok (.ifCond .le 22, 3) := by decide +kernel
theorem dL_at_18 : decode cL_at 18 = .ok (.iload_n 2, 1) := by decide +kernel
theorem dL_at_19 : decode cL_at 19 = .ok (.sipush 512, 3) := by decide +kernel
theorem dL_at_22 : decode cL_at 22 = .ok (.if_icmp .ge 15, 3) := by decide +kernel
theorem dL_at_25 : decode cL_at 25 = .ok (.iload_n 2, 1) := by decide +kernel
theorem dL_at_26 : decode cL_at 26 = .ok (.ldc 23, 2) := by decide +kernel
theorem dL_at_28 : decode cL_at 28 = .ok (.imul, 1) := by decide +kernel
theorem dL_at_29 : decode cL_at 29 = .ok (.iload_n 1, 1) := by decide +kernel
theorem dL_at_30 : decode cL_at 30 = .ok (.ldc 24, 2) := by decide +kernel
theorem dL_at_32 : decode cL_at 32 = .ok (.imul, 1) := by decide +kernel
theorem dL_at_33 : decode cL_at 33 = .ok (.ixor, 1) := by decide +kernel
theorem dL_at_34 : decode cL_at 34 = .ok (.goto 4, 3) := by decide +kernel
theorem dL_at_37 : decode cL_at 37 = .ok (.iload_n 2, 1) := by decide +kernel
theorem dL_at_38 : decode cL_at 38 = .ok (.ireturn, 1) := by decide +kernel
set_option maxRecDepth 20000 in
theorem ggL_draw_L_at : GoodIn wsL_draw wsL_at := goodIn_r _ [13, 14, 15] (by decide +kernel) (by decide +kernel)
set_option maxRecDepth 20000 in
theorem gL_draw_L_at : GoodIn wsL_draw (va_wsS RL 39 yL_at wsL_at) := goodIn_app (goodIn_of _ (by decide +kernel)) ggL_draw_L_at
theorem dL_draw_0 : decode cL_draw 0 = .ok (.aload_n 0, 1) := by decide +kernel
theorem dL_draw_1 : decode cL_draw 1 = .ok (.getfield 25, 3) := by decide +kernel
theorem dL_draw_4 : decode cL_draw 4 = .ok (.aload_n 0, 1) := by decide +kernel
theorem dL_draw_5 : decode cL_draw 5 = .ok (.getfield 29, 3) := by decide +kernel
theorem dL_draw_8 : decode cL_draw 8 = .ok (.iconst 1, 1) := by decide +kernel
theorem dL_draw_9 : decode cL_draw 9 = .ok (.aload_n 0, 1) := by decide +kernel
theorem dL_draw_10 : decode cL_draw 10 = .ok (.getfield 25, 3) := by decide +kernel
theorem dL_draw_13 : decode cL_draw 13 = .ok (.arraylength, 1) := by decide +kernel
theorem dL_draw_14 : decode cL_draw 14 = .ok (.invokestatic 33, 3) := by decide +kernel
theorem dL_draw_17 : decode cL_draw 17 = .ok (.irem, 1) := by decide +kernel
theorem dL_draw_18 : decode cL_draw 18 = .ok (.invokestatic 39, 3) := by decide +kernel
theorem dL_draw_21 : decode cL_draw 21 = .ok (.aload_n 0, 1) := by decide +kernel
theorem dL_draw_22 : decode cL_draw 22 = .ok (.getfield 29, 3) := by decide +kernel
theorem dL_draw_25 : decode cL_draw 25 = .ok (.ldc 43, 2) := by decide +kernel
theorem dL_draw_27 : decode cL_draw 27 = .ok (.imul, 1) := by decide +kernel
theorem dL_draw_28 : decode cL_draw 28 = .ok (.iadd, 1) := by decide +kernel
theorem dL_draw_29 : decode cL_draw 29 = .ok (.istore_n 2, 1) := by decide +kernel
theorem dL_draw_30 : decode cL_draw 30 = .ok (.aload_n 0, 1) := by decide +kernel
theorem dL_draw_31 : decode cL_draw 31 = .ok (.dup, 1) := by decide +kernel
theorem dL_draw_32 : decode cL_draw 32 = .ok (.getfield 29, 3) := by decide +kernel
theorem dL_draw_35 : decode cL_draw 35 = .ok (.iconst 1, 1) := by decide +kernel
theorem dL_draw_36 : decode cL_draw 36 = .ok (.iadd, 1) := by decide +kernel
theorem dL_draw_37 : decode cL_draw 37 = .ok (.putfield 29, 3) := by decide +kernel
theorem dL_draw_40 : decode cL_draw 40 = .ok (.iload_n 2, 1) := by decide +kernel
theorem dL_draw_41 : decode cL_draw 41 = .ok (.iload_n 2, 1) := by decide +kernel
theorem dL_draw_42 : decode cL_draw 42 = .ok (.bipush 15, 2) := by decide +kernel
theorem dL_draw_44 : decode cL_draw 44 = .ok (.iushr, 1) := by decide +kernel
theorem dL_draw_45 : decode cL_draw 45 = .ok (.ixor, 1) := by decide +kernel
theorem dL_draw_46 : decode cL_draw 46 = .ok (.istore_n 2, 1) := by decide +kernel
theorem dL_draw_47 : decode cL_draw 47 = .ok (.iload_n 2, 1) := by decide +kernel
theorem dL_draw_48 : decode cL_draw 48 = .ok (.ldc 44, 2) := by decide +kernel
theorem dL_draw_50 : decode cL_draw 50 = .ok (.imul, 1) := by decide +kernel
theorem dL_draw_51 : decode cL_draw 51 = .ok (.istore_n 2, 1) := by decide +kernel
theorem dL_draw_52 : decode cL_draw 52 = .ok (.iload_n 2, 1) := by decide +kernel
theorem dL_draw_53 : decode cL_draw 53 = .ok (.iload_n 2, 1) := by decide +kernel
theorem dL_draw_54 : decode cL_draw 54 = .ok (.bipush 13, 2) := by decide +kernel
theorem dL_draw_56 : decode cL_draw 56 = .ok (.iushr, 1) := by decide +kernel
theorem dL_draw_57 : decode cL_draw 57 = .ok (.ixor, 1) := by decide +kernel
theorem dL_draw_58 : decode cL_draw 58 = .ok (.istore_n 2, 1) := by decide +kernel
theorem dL_draw_59 : decode cL_draw 59 = .ok (.iload_n 2, 1) := by decide +kernel
theorem dL_draw_60 : decode cL_draw 60 = .ok (.ldc 45, 2) := by decide +kernel
theorem dL_draw_62 : decode cL_draw 62 = .ok (.iand, 1) := by decide +kernel
theorem dL_draw_63 : decode cL_draw 63 = .ok (.iload_n 1, 1) := by decide +kernel
theorem dL_draw_64 : decode cL_draw 64 = .ok (.irem, 1) := by decide +kernel
theorem dL_draw_65 : decode cL_draw 65 = .ok (.ireturn, 1) := by decide +kernel
set_option maxRecDepth 20000 in
theorem ggL_count_X9_count : GoodIn wsL_count wsX9_count := goodIn_ca (goodIn_r _ [6, 7, 8, 9, 10, 11, 12, 13, 14, 15, 16, 17, 18, 19, 20, 21, 22, 23, 24, 25, 26, 27, 28, 29, 30, 31, 32, 33, 34, 35, 36, 37] (by decide +kernel) (by decide +kernel)) (goodIn_sub (fun _ h => List.mem_cons_of_mem _ (List.mem_append_right _ h)) (by decide +kernel))
set_option maxRecDepth 20000 in
theorem gL_count_X9_count : GoodIn wsL_count (wsV RL 46 RX9 yX9_count wsX9_count) := goodIn_app (goodIn_of _ (by decide +kernel)) ggL_count_X9_count
theorem dL_count_0 : decode cL_count 0 = .ok (.aload_n 0, 1) := by decide +kernel
theorem dL_count_1 : decode cL_count 1 = .ok (.iload_n 1, 1) := by decide +kernel
theorem dL_count_2 : decode cL_count 2 = .ok (.invokevirtual 46, 3) := by decide +kernel
theorem dL_count_5 : decode cL_count 5 = .ok (.ireturn, 1) := by decide +kernel
theorem dL_count_6 : decode cL_count 6 = .ok (.astore_n 2, 1) := by decide +kernel
theorem dL_count_7 : decode cL_count 7 = .ok (.bipush (-102), 2) := by decide +kernel
theorem dL_count_9 : decode cL_count 9 = .ok (.ireturn, 1) := by decide +kernel
set_option maxRecDepth 20000 in
theorem ggL_setting_X9_setting : GoodIn wsL_setting wsX9_setting := goodIn_ca (goodIn_r _ [6, 7, 8, 9, 10, 11, 12, 13, 14, 15, 16, 17, 18, 19, 20, 21, 22, 23, 24, 25, 26, 27, 28, 29, 30, 31, 32] (by decide +kernel) (by decide +kernel)) (goodIn_sub (fun _ h => List.mem_cons_of_mem _ (List.mem_append_right _ h)) (by decide +kernel))
set_option maxRecDepth 20000 in
theorem gL_setting_X9_setting : GoodIn wsL_setting (wsV RL 52 RX9 yX9_setting wsX9_setting) := goodIn_app (goodIn_of _ (by decide +kernel)) ggL_setting_X9_setting
theorem dL_setting_0 : decode cL_setting 0 = .ok (.aload_n 0, 1) := by decide +kernel
theorem dL_setting_1 : decode cL_setting 1 = .ok (.iload_n 1, 1) := by decide +kernel
theorem dL_setting_2 : decode cL_setting 2 = .ok (.invokevirtual 52, 3) := by decide +kernel
theorem dL_setting_5 : decode cL_setting 5 = .ok (.ireturn, 1) := by decide +kernel
theorem dL_setting_6 : decode cL_setting 6 = .ok (.astore_n 2, 1) := by decide +kernel
theorem dL_setting_7 : decode cL_setting 7 = .ok (.bipush (-102), 2) := by decide +kernel
theorem dL_setting_9 : decode cL_setting 9 = .ok (.ireturn, 1) := by decide +kernel
set_option maxRecDepth 20000 in
theorem ggL_kind_X9_kind : GoodIn wsL_kind wsX9_kind := goodIn_ca (goodIn_ca (goodIn_r _ [7, 8, 9, 10, 11, 12, 13, 14, 15, 16, 17, 18, 19, 20, 21, 22, 23, 24, 25, 26, 27, 28, 29, 30, 31, 32, 33, 34, 35, 36, 37, 38, 39, 40] (by decide +kernel) (by decide +kernel)) (goodIn_sub (fun _ h => List.mem_cons_of_mem _ (List.mem_append_left _ (List.mem_append_right _ h))) (by decide +kernel))) (goodIn_sub (fun _ h => List.mem_cons_of_mem _ (List.mem_append_right _ h)) (by decide +kernel))
set_option maxRecDepth 20000 in
theorem gL_kind_X9_kind : GoodIn wsL_kind (wsV RL 55 RX9 yX9_kind wsX9_kind) := goodIn_app (goodIn_of _ (by decide +kernel)) ggL_kind_X9_kind
theorem dL_kind_0 : decode cL_kind 0 = .ok (.aload_n 0, 1) := by decide +kernel
theorem dL_kind_1 : decode cL_kind 1 = .ok (.iload_n 1, 1) := by decide +kernel
theorem dL_kind_2 : decode cL_kind 2 = .ok (.iload_n 2, 1) := by decide +kernel
theorem dL_kind_3 : decode cL_kind 3 = .ok (.invokevirtual 55, 3) := by decide +kernel
theorem dL_kind_6 : decode cL_kind 6 = .ok (.ireturn, 1) := by decide +kernel
theorem dL_kind_7 : decode cL_kind 7 = .ok (.astore_n 3, 1) := by decide +kernel
theorem dL_kind_8 : decode cL_kind 8 = .ok (.bipush (-101), 2) := by decide +kernel
theorem dL_kind_10 : decode cL_kind 10 = .ok (.ireturn, 1) := by decide +kernel
theorem dL_kind_11 : decode cL_kind 11 = .ok (.astore_n 3, 1) := by decide +kernel
theorem dL_kind_12 : decode cL_kind 12 = .ok (.bipush (-102), 2) := by decide +kernel
theorem dL_kind_14 : decode cL_kind 14 = .ok (.ireturn, 1) := by decide +kernel
set_option maxRecDepth 20000 in
theorem ggL_car_X9_car : GoodIn wsL_car wsX9_car := goodIn_ca (goodIn_ca (goodIn_r _ [7, 8, 9, 10, 11, 12, 13, 14, 15, 16, 17, 18, 19, 20, 21, 22, 23, 24, 25, 26, 27, 28, 29, 30, 31, 32, 33, 34, 35, 36, 37, 38, 39, 40, 41] (by decide +kernel) (by decide +kernel)) (goodIn_sub (fun _ h => List.mem_cons_of_mem _ (List.mem_append_left _ (List.mem_append_right _ h))) (by decide +kernel))) (goodIn_sub (fun _ h => List.mem_cons_of_mem _ (List.mem_append_right _ h)) (by decide +kernel))
set_option maxRecDepth 20000 in
theorem gL_car_X9_car : GoodIn wsL_car (wsV RL 60 RX9 yX9_car wsX9_car) := goodIn_app (goodIn_of _ (by decide +kernel)) ggL_car_X9_car
theorem dL_car_0 : decode cL_car 0 = .ok (.aload_n 0, 1) := by decide +kernel
theorem dL_car_1 : decode cL_car 1 = .ok (.iload_n 1, 1) := by decide +kernel
theorem dL_car_2 : decode cL_car 2 = .ok (.iload_n 2, 1) := by decide +kernel
theorem dL_car_3 : decode cL_car 3 = .ok (.invokevirtual 60, 3) := by decide +kernel
theorem dL_car_6 : decode cL_car 6 = .ok (.ireturn, 1) := by decide +kernel
theorem dL_car_7 : decode cL_car 7 = .ok (.astore_n 3, 1) := by decide +kernel
theorem dL_car_8 : decode cL_car 8 = .ok (.bipush (-101), 2) := by decide +kernel
theorem dL_car_10 : decode cL_car 10 = .ok (.ireturn, 1) := by decide +kernel
theorem dL_car_11 : decode cL_car 11 = .ok (.astore_n 3, 1) := by decide +kernel
theorem dL_car_12 : decode cL_car 12 = .ok (.bipush (-102), 2) := by decide +kernel
theorem dL_car_14 : decode cL_car 14 = .ok (.ireturn, 1) := by decide +kernel
set_option maxRecDepth 20000 in
theorem ggL_standing_X9_standing : GoodIn wsL_standing wsX9_standing := goodIn_ca (goodIn_r _ [6, 7, 8, 9, 10, 11, 12, 13, 14, 15, 16, 17, 5, 18, 19, 20, 21, 22, 23, 24, 25, 26, 27, 28, 29, 30, 31, 32, 33, 34, 35, 36, 37, 38, 39, 40] (by decide +kernel) (by decide +kernel)) (goodIn_sub (fun _ h => List.mem_cons_of_mem _ (List.mem_append_right _ h)) (by decide +kernel))
set_option maxRecDepth 20000 in
theorem gL_standing_X9_standing : GoodIn wsL_standing (wsV RL 63 RX9 yX9_standing wsX9_standing) := goodIn_app (goodIn_of _ (by decide +kernel)) ggL_standing_X9_standing
theorem dL_standing_0 : decode cL_standing 0 = .ok (.aload_n 0, 1) := by decide +kernel
theorem dL_standing_1 : decode cL_standing 1 = .ok (.iload_n 1, 1) := by decide +kernel
theorem dL_standing_2 : decode cL_standing 2 = .ok (.iload_n 2, 1) := by decide +kernel
theorem dL_standing_3 : decode cL_standing 3 = .ok (.invokevirtual 63, 3) := by decide +kernel
theorem dL_standing_6 : decode cL_standing 6 = .ok (.ireturn, 1) := by decide +kernel
theorem dL_standing_7 : decode cL_standing 7 = .ok (.astore_n 3, 1) := by decide +kernel
theorem dL_standing_8 : decode cL_standing 8 = .ok (.bipush (-101), 2) := by decide +kernel
theorem dL_standing_10 : decode cL_standing 10 = .ok (.ireturn, 1) := by decide +kernel
set_option maxRecDepth 20000 in
theorem ggL_lane_X9_lane : GoodIn wsL_lane wsX9_lane := goodIn_ca (goodIn_r _ [6, 7, 8, 9, 10, 11, 12, 13, 14, 15, 16, 17, 18, 19, 20, 21, 22, 23, 24, 25, 26, 27, 28, 29, 30, 31, 32, 33, 34] (by decide +kernel) (by decide +kernel)) (goodIn_sub (fun _ h => List.mem_cons_of_mem _ (List.mem_append_right _ h)) (by decide +kernel))
set_option maxRecDepth 20000 in
theorem gL_lane_X9_lane : GoodIn wsL_lane (wsV RL 66 RX9 yX9_lane wsX9_lane) := goodIn_app (goodIn_of _ (by decide +kernel)) ggL_lane_X9_lane
theorem dL_lane_0 : decode cL_lane 0 = .ok (.aload_n 0, 1) := by decide +kernel
theorem dL_lane_1 : decode cL_lane 1 = .ok (.iload_n 1, 1) := by decide +kernel
theorem dL_lane_2 : decode cL_lane 2 = .ok (.iload_n 2, 1) := by decide +kernel
theorem dL_lane_3 : decode cL_lane 3 = .ok (.invokevirtual 66, 3) := by decide +kernel
theorem dL_lane_6 : decode cL_lane 6 = .ok (.ireturn, 1) := by decide +kernel
theorem dL_lane_7 : decode cL_lane 7 = .ok (.astore_n 3, 1) := by decide +kernel
theorem dL_lane_8 : decode cL_lane 8 = .ok (.bipush (-101), 2) := by decide +kernel
theorem dL_lane_10 : decode cL_lane 10 = .ok (.ireturn, 1) := by decide +kernel
set_option maxRecDepth 20000 in
theorem ggL_call_X9_call : GoodIn wsL_call wsX9_call := goodIn_ca (goodIn_ca (goodIn_r _ [7, 8, 9, 10, 11, 12, 13, 14, 15, 16, 6, 17, 18, 19, 20, 21, 22, 23, 24, 25, 26, 27, 28, 29, 30, 31, 32, 33, 34, 35, 36, 37, 38, 39] (by decide +kernel) (by decide +kernel)) (goodIn_sub (fun _ h => List.mem_cons_of_mem _ (List.mem_append_left _ (List.mem_append_right _ h))) (by decide +kernel))) (goodIn_sub (fun _ h => List.mem_cons_of_mem _ (List.mem_append_right _ h)) (by decide +kernel))
set_option maxRecDepth 20000 in
theorem gL_call_X9_call : GoodIn wsL_call (wsV RL 70 RX9 yX9_call wsX9_call) := goodIn_app (goodIn_of _ (by decide +kernel)) ggL_call_X9_call
theorem dL_call_0 : decode cL_call 0 = .ok (.aload_n 0, 1) := by decide +kernel
theorem dL_call_1 : decode cL_call 1 = .ok (.iload_n 1, 1) := by decide +kernel
theorem dL_call_2 : decode cL_call 2 = .ok (.iload_n 2, 1) := by decide +kernel
theorem dL_call_3 : decode cL_call 3 = .ok (.invokevirtual 70, 3) := by decide +kernel
theorem dL_call_6 : decode cL_call 6 = .ok (.ireturn, 1) := by decide +kernel
theorem dL_call_7 : decode cL_call 7 = .ok (.astore_n 3, 1) := by decide +kernel
theorem dL_call_8 : decode cL_call 8 = .ok (.bipush (-101), 2) := by decide +kernel
theorem dL_call_10 : decode cL_call 10 = .ok (.ireturn, 1) := by decide +kernel
theorem dL_call_11 : decode cL_call 11 = .ok (.astore_n 3, 1) := by decide +kernel
theorem dL_call_12 : decode cL_call 12 = .ok (.bipush (-102), 2) := by decide +kernel
theorem dL_call_14 : decode cL_call 14 = .ok (.ireturn, 1) := by decide +kernel
set_option maxRecDepth 20000 in
theorem ggL_tide_X9_tide : GoodIn wsL_tide wsX9_tide := goodIn_ca (goodIn_r _ [6, 7, 8, 9, 10, 11, 12, 13, 14, 15, 16, 17, 18, 19, 20, 21, 22, 23, 24, 25, 26, 27, 28, 29, 30, 31, 32, 33, 34, 35, 36, 37] (by decide +kernel) (by decide +kernel)) (goodIn_sub (fun _ h => List.mem_cons_of_mem _ (List.mem_append_right _ h)) (by decide +kernel))
set_option maxRecDepth 20000 in
theorem gL_tide_X9_tide : GoodIn wsL_tide (wsV RL 73 RX9 yX9_tide wsX9_tide) := goodIn_app (goodIn_of _ (by decide +kernel)) ggL_tide_X9_tide
theorem dL_tide_0 : decode cL_tide 0 = .ok (.aload_n 0, 1) := by decide +kernel
theorem dL_tide_1 : decode cL_tide 1 = .ok (.iload_n 1, 1) := by decide +kernel
theorem dL_tide_2 : decode cL_tide 2 = .ok (.invokevirtual 73, 3) := by decide +kernel
theorem dL_tide_5 : decode cL_tide 5 = .ok (.ireturn, 1) := by decide +kernel
theorem dL_tide_6 : decode cL_tide 6 = .ok (.astore_n 2, 1) := by decide +kernel
theorem dL_tide_7 : decode cL_tide 7 = .ok (.bipush (-102), 2) := by decide +kernel
theorem dL_tide_9 : decode cL_tide 9 = .ok (.ireturn, 1) := by decide +kernel
set_option maxRecDepth 20000 in
theorem ggL_deck_X9_deck : GoodIn wsL_deck wsX9_deck := goodIn_ca (goodIn_r _ [6, 7, 8, 9, 10, 11, 12, 13, 14, 15, 16, 17, 18, 19, 20, 21, 22, 23, 24, 25, 26, 27, 28, 29, 30, 31, 32, 33, 34, 35, 36, 37, 38, 39, 40, 41, 42] (by decide +kernel) (by decide +kernel)) (goodIn_sub (fun _ h => List.mem_cons_of_mem _ (List.mem_append_right _ h)) (by decide +kernel))
set_option maxRecDepth 20000 in
theorem gL_deck_X9_deck : GoodIn wsL_deck (wsV RL 76 RX9 yX9_deck wsX9_deck) := goodIn_app (goodIn_of _ (by decide +kernel)) ggL_deck_X9_deck
theorem dL_deck_0 : decode cL_deck 0 = .ok (.aload_n 0, 1) := by decide +kernel
theorem dL_deck_1 : decode cL_deck 1 = .ok (.iload_n 1, 1) := by decide +kernel
theorem dL_deck_2 : decode cL_deck 2 = .ok (.invokevirtual 76, 3) := by decide +kernel
theorem dL_deck_5 : decode cL_deck 5 = .ok (.ireturn, 1) := by decide +kernel
theorem dL_deck_6 : decode cL_deck 6 = .ok (.astore_n 2, 1) := by decide +kernel
theorem dL_deck_7 : decode cL_deck 7 = .ok (.bipush (-102), 2) := by decide +kernel
theorem dL_deck_9 : decode cL_deck 9 = .ok (.ireturn, 1) := by decide +kernel
set_option maxRecDepth 20000 in
theorem ggL_whyNot_X9_whyNot : GoodIn wsL_whyNot wsX9_whyNot := goodIn_ca (goodIn_r _ [6, 7, 8, 9, 10, 11, 12, 13, 14, 15, 16, 17, 18, 19, 20, 21, 22, 23, 24, 25, 26, 27, 28, 29, 30, 31, 32, 33, 34, 35, 36, 37, 38, 39, 40, 41, 42, 43, 44, 45, 46, 47, 48, 49, 50, 51, 52, 53, 54, 55, 56, 57, 58, 59, 60, 61, 62, 63, 64, 65] (by decide +kernel) (by decide +kernel)) (goodIn_sub (fun _ h => List.mem_cons_of_mem _ (List.mem_append_right _ h)) (by decide +kernel))
set_option maxRecDepth 20000 in
theorem gL_whyNot_X9_whyNot : GoodIn wsL_whyNot (wsV RL 79 RX9 yX9_whyNot wsX9_whyNot) := goodIn_app (goodIn_of _ (by decide +kernel)) ggL_whyNot_X9_whyNot
theorem dL_whyNot_0 : decode cL_whyNot 0 = .ok (.aload_n 0, 1) := by decide +kernel
theorem dL_whyNot_1 : decode cL_whyNot 1 = .ok (.iload_n 1, 1) := by decide +kernel
theorem dL_whyNot_2 : decode cL_whyNot 2 = .ok (.invokevirtual 79, 3) := by decide +kernel
theorem dL_whyNot_5 : decode cL_whyNot 5 = .ok (.ireturn, 1) := by decide +kernel
theorem dL_whyNot_6 : decode cL_whyNot 6 = .ok (.astore_n 2, 1) := by decide +kernel
theorem dL_whyNot_7 : decode cL_whyNot 7 = .ok (.bipush (-101), 2) := by decide +kernel
theorem dL_whyNot_9 : decode cL_whyNot 9 = .ok (.ireturn, 1) := by decide +kernel
set_option maxRecDepth 20000 in
theorem ggL_boardIn_X9_boardIn : GoodIn wsL_boardIn wsX9_boardIn := goodIn_ca (goodIn_r _ [6, 7, 8, 9, 10, 11, 12, 13, 14, 15, 16, 17, 18, 19, 20, 21, 22, 23, 24, 25, 26, 27, 28, 29, 30, 31, 32, 33, 34, 35, 36, 37, 38, 39, 40, 41, 42, 43, 44, 45, 46, 47, 48, 49, 50, 51, 52, 53, 5, 54, 55, 56, 57, 58, 59, 60, 61, 62, 63, 64, 65, 66, 67, 68, 69, 70, 71, 72, 73, 74, 75, 76, 77, 78, 79, 80, 81, 82, 83, 84, 85, 86, 87, 88, 89, 90, 91, 92, 93, 94, 95, 96, 97, 98, 99, 100, 101, 102, 103, 104, 105, 106, 107, 108, 109, 110, 111, 112, 113, 114, 115, 116, 117, 118, 119, 120, 121, 122, 123, 124, 125, 126, 127, 128, 129, 130, 131, 132, 133, 134, 135, 136, 137, 138, 139, 140, 141, 142] (by decide +kernel) (by decide +kernel)) (goodIn_sub (fun _ h => List.mem_cons_of_mem _ (List.mem_append_right _ h)) (by decide +kernel))
set_option maxRecDepth 20000 in
theorem gL_boardIn_X9_boardIn : GoodIn wsL_boardIn (wsV RL 82 RX9 yX9_boardIn wsX9_boardIn) := goodIn_app (goodIn_of _ (by decide +kernel)) ggL_boardIn_X9_boardIn
theorem dL_boardIn_0 : decode cL_boardIn 0 = .ok (.aload_n 0, 1) := by decide +kernel
theorem dL_boardIn_1 : decode cL_boardIn 1 = .ok (.iload_n 1, 1) := by decide +kernel
theorem dL_boardIn_2 : decode cL_boardIn 2 = .ok (.invokevirtual 82, 3) := by decide +kernel
theorem dL_boardIn_5 : decode cL_boardIn 5 = .ok (.ireturn, 1) := by decide +kernel
theorem dL_boardIn_6 : decode cL_boardIn 6 = .ok (.astore_n 2, 1) := by decide +kernel
theorem dL_boardIn_7 : decode cL_boardIn 7 = .ok (.bipush (-102), 2) := by decide +kernel
theorem dL_boardIn_9 : decode cL_boardIn 9 = .ok (.ireturn, 1) := by decide +kernel
set_option maxRecDepth 20000 in
theorem ggL_easyIn_X9_easyIn : GoodIn wsL_easyIn wsX9_easyIn := goodIn_ca (goodIn_r _ [6, 7, 8, 9, 10, 11, 12, 13, 14, 15, 16, 17, 18, 19, 20, 21, 22, 23, 24, 25, 26, 27, 28, 29, 30, 31, 32, 33, 34, 35, 36, 37, 38, 39, 40, 41, 42, 43, 44, 45, 46, 47, 48, 49, 50, 51, 52, 53, 54, 55, 56, 57, 58, 59, 5, 60, 61, 62, 63, 64, 65, 66, 67, 68, 69, 70, 71, 72, 73, 74, 75, 76, 77, 78, 79, 80, 81, 82, 83, 84, 85, 86, 87, 88, 89, 90, 91, 92, 93, 94, 95, 96, 97, 98, 99, 100, 101, 102, 103, 104, 105, 106, 107, 108, 109, 110, 111, 112, 113, 114, 115, 116, 117, 118, 119, 120, 121, 122, 123, 124, 125, 126, 127, 128, 129, 130, 131, 132, 133, 134, 135, 136, 137, 138, 139, 140, 141, 142, 143, 144, 145] (by decide +kernel) (by decide +kernel)) (goodIn_sub (fun _ h => List.mem_cons_of_mem _ (List.mem_append_right _ h)) (by decide +kernel))
set_option maxRecDepth 20000 in
theorem gL_easyIn_X9_easyIn : GoodIn wsL_easyIn (wsV RL 85 RX9 yX9_easyIn wsX9_easyIn) := goodIn_app (goodIn_of _ (by decide +kernel)) ggL_easyIn_X9_easyIn
theorem dL_easyIn_0 : decode cL_easyIn 0 = .ok (.aload_n 0, 1) := by decide +kernel
theorem dL_easyIn_1 : decode cL_easyIn 1 = .ok (.iload_n 1, 1) := by decide +kernel
theorem dL_easyIn_2 : decode cL_easyIn 2 = .ok (.invokevirtual 85, 3) := by decide +kernel
theorem dL_easyIn_5 : decode cL_easyIn 5 = .ok (.ireturn, 1) := by decide +kernel
theorem dL_easyIn_6 : decode cL_easyIn 6 = .ok (.astore_n 2, 1) := by decide +kernel
theorem dL_easyIn_7 : decode cL_easyIn 7 = .ok (.bipush (-101), 2) := by decide +kernel
theorem dL_easyIn_9 : decode cL_easyIn 9 = .ok (.ireturn, 1) := by decide +kernel
set_option maxRecDepth 20000 in
theorem ggL_bestFirst_X9_bestFirst : GoodIn wsL_bestFirst wsX9_bestFirst := goodIn_ca (goodIn_r _ [6, 7, 8, 9, 10, 11, 12, 13, 14, 15, 16, 17, 18, 19, 20, 21, 22, 23, 24, 25, 26, 27, 28, 29, 30, 31, 32, 33, 34, 35, 36, 37, 38, 39, 40, 41, 42, 43, 44, 45, 46, 47, 48, 49, 50, 51, 52, 53, 54, 55, 56, 57, 58, 59, 5, 60, 61, 62, 63, 64, 65, 66, 67, 68, 69, 70, 71, 72, 73, 74, 75, 76, 77, 78, 79, 80, 81, 82, 83, 84, 85, 86, 87, 88, 89, 90, 91, 92, 93, 94, 95, 96, 97, 98, 99, 100, 101, 102, 103, 104, 105, 106, 107, 108, 109, 110, 111, 112, 113, 114, 115, 116, 117, 118, 119, 120, 121, 122, 123, 124, 125, 126, 127, 128, 129, 130, 131, 132, 133, 134, 135, 136, 137, 138, 139, 140, 141, 142, 143, 144, 145, 146, 147, 148, 149] (by decide +kernel) (by decide +kernel)) (goodIn_sub (fun _ h => List.mem_cons_of_mem _ (List.mem_append_right _ h)) (by decide +kernel))
set_option maxRecDepth 20000 in
theorem gL_bestFirst_X9_bestFirst : GoodIn wsL_bestFirst (wsV RL 88 RX9 yX9_bestFirst wsX9_bestFirst) := goodIn_app (goodIn_of _ (by decide +kernel)) ggL_bestFirst_X9_bestFirst
theorem dL_bestFirst_0 : decode cL_bestFirst 0 = .ok (.aload_n 0, 1) := by decide +kernel
theorem dL_bestFirst_1 : decode cL_bestFirst 1 = .ok (.iload_n 1, 1) := by decide +kernel
theorem dL_bestFirst_2 : decode cL_bestFirst 2 = .ok (.invokevirtual 88, 3) := by decide +kernel
theorem dL_bestFirst_5 : decode cL_bestFirst 5 = .ok (.ireturn, 1) := by decide +kernel
theorem dL_bestFirst_6 : decode cL_bestFirst 6 = .ok (.astore_n 2, 1) := by decide +kernel
theorem dL_bestFirst_7 : decode cL_bestFirst 7 = .ok (.bipush (-102), 2) := by decide +kernel
theorem dL_bestFirst_9 : decode cL_bestFirst 9 = .ok (.ireturn, 1) := by decide +kernel
set_option maxRecDepth 20000 in
theorem ggL_tick_X9_tick : GoodIn wsL_tick wsX9_tick := goodIn_ca (goodIn_r _ [6, 7, 8, 9, 10, 11, 5, 12, 13, 14, 15, 16, 17, 18, 19, 20, 21, 22, 23, 24, 25, 26, 27, 28, 29, 30, 31, 32, 33, 34, 35, 36, 37, 38, 39, 40, 41, 42, 43, 44, 45, 46, 47, 48, 49, 50, 51, 52, 53, 54, 55, 56, 57, 58, 59, 60, 61, 62, 63, 64, 65, 66, 67, 68, 69, 70, 71, 72, 73, 74, 75, 76, 77, 78, 79, 80, 81, 82, 83, 84, 85, 86, 87, 88, 89, 90, 91, 92, 93, 94, 95, 96, 97, 98, 99, 100, 101, 102, 103, 104, 105, 106, 107, 108, 109, 110, 111, 112, 113, 114, 115, 116, 117, 118, 119, 120, 121, 122, 123, 124, 125, 126, 127, 128, 129, 130, 131, 132, 133, 134, 135, 136, 137, 138, 139, 140, 141, 142, 143, 144, 145, 146, 147, 148, 149, 150, 151, 152, 153, 154, 155, 156, 157, 158, 159, 160, 161, 162] (by decide +kernel) (by decide +kernel)) (goodIn_sub (fun _ h => List.mem_cons_of_mem _ (List.mem_append_right _ h)) (by decide +kernel))
set_option maxRecDepth 20000 in
theorem gL_tick_X9_tick : GoodIn wsL_tick (wsV RL 91 RX9 yX9_tick wsX9_tick) := goodIn_app (goodIn_of _ (by decide +kernel)) ggL_tick_X9_tick
theorem dL_tick_0 : decode cL_tick 0 = .ok (.aload_n 0, 1) := by decide +kernel
theorem dL_tick_1 : decode cL_tick 1 = .ok (.iload_n 1, 1) := by decide +kernel
theorem dL_tick_2 : decode cL_tick 2 = .ok (.invokevirtual 91, 3) := by decide +kernel
theorem dL_tick_5 : decode cL_tick 5 = .ok (.ireturn, 1) := by decide +kernel
theorem dL_tick_6 : decode cL_tick 6 = .ok (.astore_n 2, 1) := by decide +kernel
theorem dL_tick_7 : decode cL_tick 7 = .ok (.bipush (-102), 2) := by decide +kernel
theorem dL_tick_9 : decode cL_tick 9 = .ok (.ireturn, 1) := by decide +kernel
set_option maxRecDepth 20000 in
theorem ggL_arrive_X9_arrive : GoodIn wsL_arrive wsX9_arrive := goodIn_ca (goodIn_ca (goodIn_r _ [7, 8, 9, 10, 11, 12, 13, 14, 6, 15, 16, 17, 18, 19, 20, 21, 22, 23, 24, 25, 26, 27, 28, 29, 30, 31, 32, 33, 34, 35, 36, 37, 38, 39, 40, 41, 42, 43, 44, 45, 46, 47, 48, 49, 50, 51, 52, 53, 54, 55, 56, 57, 58, 59, 60, 61, 62, 63, 64, 65, 66, 67, 68, 69, 70, 71, 72, 73, 74, 75, 76, 77, 78, 79, 80, 81, 82, 83, 84, 85, 86, 87, 88, 89, 90] (by decide +kernel) (by decide +kernel)) (goodIn_sub (fun _ h => List.mem_cons_of_mem _ (List.mem_append_left _ (List.mem_append_right _ h))) (by decide +kernel))) (goodIn_sub (fun _ h => List.mem_cons_of_mem _ (List.mem_append_right _ h)) (by decide +kernel))
set_option maxRecDepth 20000 in
theorem gL_arrive_X9_arrive : GoodIn wsL_arrive (wsV RL 94 RX9 yX9_arrive wsX9_arrive) := goodIn_app (goodIn_of _ (by decide +kernel)) ggL_arrive_X9_arrive
theorem dL_arrive_0 : decode cL_arrive 0 = .ok (.aload_n 0, 1) := by decide +kernel
theorem dL_arrive_1 : decode cL_arrive 1 = .ok (.iload_n 1, 1) := by decide +kernel
theorem dL_arrive_2 : decode cL_arrive 2 = .ok (.iload_n 2, 1) := by decide +kernel
theorem dL_arrive_3 : decode cL_arrive 3 = .ok (.invokevirtual 94, 3) := by decide +kernel
theorem dL_arrive_6 : decode cL_arrive 6 = .ok (.ireturn, 1) := by decide +kernel
theorem dL_arrive_7 : decode cL_arrive 7 = .ok (.astore_n 3, 1) := by decide +kernel
theorem dL_arrive_8 : decode cL_arrive 8 = .ok (.bipush (-101), 2) := by decide +kernel
theorem dL_arrive_10 : decode cL_arrive 10 = .ok (.ireturn, 1) := by decide +kernel
theorem dL_arrive_11 : decode cL_arrive 11 = .ok (.astore_n 3, 1) := by decide +kernel
theorem dL_arrive_12 : decode cL_arrive 12 = .ok (.bipush (-102), 2) := by decide +kernel
theorem dL_arrive_14 : decode cL_arrive 14 = .ok (.ireturn, 1) := by decide +kernel
set_option maxRecDepth 20000 in
theorem ggL_wave_X9_wave : GoodIn wsL_wave wsX9_wave := goodIn_ca (goodIn_r _ [6, 7, 8, 9, 10, 11, 5, 12, 13, 14, 15, 16, 17, 18, 19, 20, 21, 22, 23, 24, 25, 26, 27, 28, 29, 30, 31, 32, 33, 34, 35, 36, 37, 38, 39, 40, 41, 42, 43, 44, 45, 46, 47, 48, 49, 50, 51, 52, 53, 54, 55, 56, 57, 58, 59, 60, 61, 62, 63, 64, 65, 66, 67, 68, 69, 70, 71, 72, 73, 74, 75, 76, 77, 78, 79, 80, 81, 82, 83, 84, 85, 86] (by decide +kernel) (by decide +kernel)) (goodIn_sub (fun _ h => List.mem_cons_of_mem _ (List.mem_append_right _ h)) (by decide +kernel))
set_option maxRecDepth 20000 in
theorem gL_wave_X9_wave : GoodIn wsL_wave (wsV RL 97 RX9 yX9_wave wsX9_wave) := goodIn_app (goodIn_of _ (by decide +kernel)) ggL_wave_X9_wave
theorem dL_wave_0 : decode cL_wave 0 = .ok (.aload_n 0, 1) := by decide +kernel
theorem dL_wave_1 : decode cL_wave 1 = .ok (.iload_n 1, 1) := by decide +kernel
theorem dL_wave_2 : decode cL_wave 2 = .ok (.invokevirtual 97, 3) := by decide +kernel
theorem dL_wave_5 : decode cL_wave 5 = .ok (.ireturn, 1) := by decide +kernel
theorem dL_wave_6 : decode cL_wave 6 = .ok (.astore_n 2, 1) := by decide +kernel
theorem dL_wave_7 : decode cL_wave 7 = .ok (.bipush (-101), 2) := by decide +kernel
theorem dL_wave_9 : decode cL_wave 9 = .ok (.ireturn, 1) := by decide +kernel
set_option maxRecDepth 20000 in
theorem ggL_dismiss_X9_dismiss : GoodIn wsL_dismiss wsX9_dismiss := goodIn_ca (goodIn_r _ [6, 7, 8, 9, 10, 11, 5, 12, 13, 14, 15, 16, 17, 18, 19, 20, 21, 22, 23, 24, 25, 26, 27, 28, 29, 30, 31, 32, 33, 34, 35, 36, 37, 38, 39, 40, 41, 42, 43, 44, 45, 46, 47, 48, 49, 50, 51, 52, 53, 54, 55, 56, 57, 58, 59, 60, 61, 62, 63, 64, 65, 66, 67, 68, 69, 70, 71, 72, 73, 74, 75, 76, 77, 78, 79, 80, 81, 82, 83, 84, 85, 86, 87, 88, 89, 90, 91] (by decide +kernel) (by decide +kernel)) (goodIn_sub (fun _ h => List.mem_cons_of_mem _ (List.mem_append_right _ h)) (by decide +kernel))
set_option maxRecDepth 20000 in
theorem gL_dismiss_X9_dismiss : GoodIn wsL_dismiss (wsV RL 100 RX9 yX9_dismiss wsX9_dismiss) := goodIn_app (goodIn_of _ (by decide +kernel)) ggL_dismiss_X9_dismiss
theorem dL_dismiss_0 : decode cL_dismiss 0 = .ok (.aload_n 0, 1) := by decide +kernel
theorem dL_dismiss_1 : decode cL_dismiss 1 = .ok (.iload_n 1, 1) := by decide +kernel
theorem dL_dismiss_2 : decode cL_dismiss 2 = .ok (.invokevirtual 100, 3) := by decide +kernel
theorem dL_dismiss_5 : decode cL_dismiss 5 = .ok (.ireturn, 1) := by decide +kernel
theorem dL_dismiss_6 : decode cL_dismiss 6 = .ok (.astore_n 2, 1) := by decide +kernel
theorem dL_dismiss_7 : decode cL_dismiss 7 = .ok (.bipush (-101), 2) := by decide +kernel
theorem dL_dismiss_9 : decode cL_dismiss 9 = .ok (.ireturn, 1) := by decide +kernel
set_option maxRecDepth 20000 in
theorem ggL_unload_X9_unload : GoodIn wsL_unload wsX9_unload := goodIn_ca (goodIn_r _ [6, 7, 8, 9, 10, 11, 5, 12, 13, 14, 15, 16, 17, 18, 19, 20, 21, 22, 23, 24, 25, 26, 27, 28, 29, 30, 31, 32, 33, 34, 35, 36, 37, 38, 39, 40, 41, 42, 43, 44, 45, 46, 47, 48, 49, 50, 51, 52, 53, 54, 55, 56, 57, 58, 59, 60, 61, 62, 63, 64, 65, 66, 67, 68, 69, 70, 71, 72, 73, 74, 75, 76, 77, 78, 79, 80, 81, 82, 83, 84, 85, 86, 87, 88, 89, 90, 91, 92, 93, 94, 95, 96, 97, 98, 99, 100, 101, 102, 103, 104, 105, 106, 107, 108, 109, 110, 111, 112, 113, 114, 115, 116, 117, 118, 119, 120, 121, 122, 123, 124, 125, 126, 127, 128, 129, 130, 131] (by decide +kernel) (by decide +kernel)) (goodIn_sub (fun _ h => List.mem_cons_of_mem _ (List.mem_append_right _ h)) (by decide +kernel))
set_option maxRecDepth 20000 in
theorem gL_unload_X9_unload : GoodIn wsL_unload (wsV RL 103 RX9 yX9_unload wsX9_unload) := goodIn_app (goodIn_of _ (by decide +kernel)) ggL_unload_X9_unload
theorem dL_unload_0 : decode cL_unload 0 = .ok (.aload_n 0, 1) := by decide +kernel
theorem dL_unload_1 : decode cL_unload 1 = .ok (.iload_n 1, 1) := by decide +kernel
theorem dL_unload_2 : decode cL_unload 2 = .ok (.invokevirtual 103, 3) := by decide +kernel
theorem dL_unload_5 : decode cL_unload 5 = .ok (.ireturn, 1) := by decide +kernel
theorem dL_unload_6 : decode cL_unload 6 = .ok (.astore_n 2, 1) := by decide +kernel
theorem dL_unload_7 : decode cL_unload 7 = .ok (.bipush (-101), 2) := by decide +kernel
theorem dL_unload_9 : decode cL_unload 9 = .ok (.ireturn, 1) := by decide +kernel
set_option maxRecDepth 20000 in
theorem ggL_crank_X9_crank : GoodIn wsL_crank wsX9_crank := goodIn_ca (goodIn_r _ [6, 7, 8, 9, 10, 11, 5, 12, 13, 14, 15, 16, 17, 18, 19, 20, 21, 22, 23, 24, 25, 26, 27, 28, 29, 30, 31, 32, 33, 34, 35, 36, 37, 38, 39, 40, 41, 42, 43, 44, 45, 46, 47, 48, 49, 50, 51, 52, 53, 54, 55, 56, 57, 58, 59, 60, 61, 62, 63, 64, 65, 66, 67, 68, 69, 70, 71, 72, 73, 74, 75, 76, 77, 78, 79, 80, 81, 82, 83, 84, 85, 86] (by decide +kernel) (by decide +kernel)) (goodIn_sub (fun _ h => List.mem_cons_of_mem _ (List.mem_append_right _ h)) (by decide +kernel))
set_option maxRecDepth 20000 in
theorem gL_crank_X9_crank : GoodIn wsL_crank (wsV RL 106 RX9 yX9_crank wsX9_crank) := goodIn_app (goodIn_of _ (by decide +kernel)) ggL_crank_X9_crank
theorem dL_crank_0 : decode cL_crank 0 = .ok (.aload_n 0, 1) := by decide +kernel
theorem dL_crank_1 : decode cL_crank 1 = .ok (.iload_n 1, 1) := by decide +kernel
theorem dL_crank_2 : decode cL_crank 2 = .ok (.invokevirtual 106, 3) := by decide +kernel
theorem dL_crank_5 : decode cL_crank 5 = .ok (.ireturn, 1) := by decide +kernel
theorem dL_crank_6 : decode cL_crank 6 = .ok (.astore_n 2, 1) := by decide +kernel
theorem dL_crank_7 : decode cL_crank 7 = .ok (.bipush (-102), 2) := by decide +kernel
theorem dL_crank_9 : decode cL_crank 9 = .ok (.ireturn, 1) := by decide +kernel
set_option maxRecDepth 20000 in
theorem ggL_save_X9_save : GoodIn wsL_save wsX9_save := goodIn_ca (goodIn_r _ [6, 7, 8, 9, 10, 11, 12, 13, 14, 15, 16, 17, 18, 19, 20, 21, 22, 23, 24, 25, 26, 27, 28, 29, 30, 31, 32, 33, 34, 35, 36, 37, 38, 39, 40, 41, 42, 43, 44, 45, 46, 47, 48, 49, 50, 51, 52, 53, 54, 55] (by decide +kernel) (by decide +kernel)) (goodIn_sub (fun _ h => List.mem_cons_of_mem _ (List.mem_append_right _ h)) (by decide +kernel))
set_option maxRecDepth 20000 in
theorem gL_save_X9_save : GoodIn wsL_save (wsV RL 109 RX9 yX9_save wsX9_save) := goodIn_app (goodIn_of _ (by decide +kernel)) ggL_save_X9_save
theorem dL_save_0 : decode cL_save 0 = .ok (.aload_n 0, 1) := by decide +kernel
theorem dL_save_1 : decode cL_save 1 = .ok (.iload_n 1, 1) := by decide +kernel
theorem dL_save_2 : decode cL_save 2 = .ok (.invokevirtual 109, 3) := by decide +kernel
theorem dL_save_5 : decode cL_save 5 = .ok (.iconst 0, 1) := by decide +kernel
theorem dL_save_6 : decode cL_save 6 = .ok (.ireturn, 1) := by decide +kernel
theorem dL_save_7 : decode cL_save 7 = .ok (.astore_n 2, 1) := by decide +kernel
theorem dL_save_8 : decode cL_save 8 = .ok (.bipush (-102), 2) := by decide +kernel
theorem dL_save_10 : decode cL_save 10 = .ok (.ireturn, 1) := by decide +kernel
set_option maxRecDepth 20000 in
theorem ggL_restore_X9_restore : GoodIn wsL_restore wsX9_restore := goodIn_ca (goodIn_ca (goodIn_r _ [7, 8, 9, 10, 11, 12, 13, 14, 15, 16, 17, 18, 19, 20, 21, 22, 23, 24, 25, 26, 27, 28, 29, 30, 31, 32, 33, 34, 35, 36, 37, 38, 39, 40, 41, 42, 43, 44, 45, 46, 47, 48, 49, 50, 51, 52, 53, 54, 55, 56, 57, 58, 59, 60, 61, 62, 63, 64, 65, 66, 67, 68] (by decide +kernel) (by decide +kernel)) (goodIn_sub (fun _ h => List.mem_cons_of_mem _ (List.mem_append_left _ (List.mem_append_right _ h))) (by decide +kernel))) (goodIn_sub (fun _ h => List.mem_cons_of_mem _ (List.mem_append_right _ h)) (by decide +kernel))
set_option maxRecDepth 20000 in
theorem gL_restore_X9_restore : GoodIn wsL_restore (wsV RL 113 RX9 yX9_restore wsX9_restore) := goodIn_app (goodIn_of _ (by decide +kernel)) ggL_restore_X9_restore
theorem dL_restore_0 : decode cL_restore 0 = .ok (.aload_n 0, 1) := by decide +kernel
theorem dL_restore_1 : decode cL_restore 1 = .ok (.iload_n 1, 1) := by decide +kernel
theorem dL_restore_2 : decode cL_restore 2 = .ok (.invokevirtual 113, 3) := by decide +kernel
theorem dL_restore_5 : decode cL_restore 5 = .ok (.iconst 0, 1) := by decide +kernel
theorem dL_restore_6 : decode cL_restore 6 = .ok (.ireturn, 1) := by decide +kernel
theorem dL_restore_7 : decode cL_restore 7 = .ok (.astore_n 2, 1) := by decide +kernel
theorem dL_restore_8 : decode cL_restore 8 = .ok (.bipush (-102), 2) := by decide +kernel
theorem dL_restore_10 : decode cL_restore 10 = .ok (.ireturn, 1) := by decide +kernel
theorem dL_restore_11 : decode cL_restore 11 = .ok (.astore_n 2, 1) := by decide +kernel
theorem dL_restore_12 : decode cL_restore 12 = .ok (.bipush (-103), 2) := by decide +kernel
theorem dL_restore_14 : decode cL_restore 14 = .ok (.ireturn, 1) := by decide +kernel
set_option maxRecDepth 20000 in
theorem ggL_appendText_X9_appendText : GoodIn wsL_appendText wsX9_appendText := goodIn_ca (goodIn_r _ [6, 7, 8, 9, 10, 11, 12, 13, 14, 15, 16, 17, 18, 19, 20, 21, 22, 23, 24, 25, 26, 27, 28, 29, 30, 31, 32, 33, 34, 35, 36, 37] (by decide +kernel) (by decide +kernel)) (goodIn_sub (fun _ h => List.mem_cons_of_mem _ (List.mem_append_right _ h)) (by decide +kernel))
set_option maxRecDepth 20000 in
theorem gL_appendText_X9_appendText : GoodIn wsL_appendText (wsV RL 118 RX9 yX9_appendText wsX9_appendText) := goodIn_app (goodIn_of _ (by decide +kernel)) ggL_appendText_X9_appendText
theorem dL_appendText_0 : decode cL_appendText 0 = .ok (.aload_n 0, 1) := by decide +kernel
theorem dL_appendText_1 : decode cL_appendText 1 = .ok (.iload_n 1, 1) := by decide +kernel
theorem dL_appendText_2 : decode cL_appendText 2 = .ok (.invokevirtual 118, 3) := by decide +kernel
theorem dL_appendText_5 : decode cL_appendText 5 = .ok (.ireturn, 1) := by decide +kernel
theorem dL_appendText_6 : decode cL_appendText 6 = .ok (.astore_n 2, 1) := by decide +kernel
theorem dL_appendText_7 : decode cL_appendText 7 = .ok (.bipush (-103), 2) := by decide +kernel
theorem dL_appendText_9 : decode cL_appendText 9 = .ok (.ireturn, 1) := by decide +kernel
set_option maxRecDepth 20000 in
theorem ggL_truncateText_X9_truncateText : GoodIn wsL_truncateText wsX9_truncateText := goodIn_ca (goodIn_r _ [6, 7, 8, 9, 10, 11, 12, 13, 14, 15, 16, 17, 18, 19, 20, 21, 22, 23, 24, 25, 26, 27, 28, 29, 30] (by decide +kernel) (by decide +kernel)) (goodIn_sub (fun _ h => List.mem_cons_of_mem _ (List.mem_append_right _ h)) (by decide +kernel))
set_option maxRecDepth 20000 in
theorem gL_truncateText_X9_truncateText : GoodIn wsL_truncateText (wsV RL 121 RX9 yX9_truncateText wsX9_truncateText) := goodIn_app (goodIn_of _ (by decide +kernel)) ggL_truncateText_X9_truncateText
theorem dL_truncateText_0 : decode cL_truncateText 0 = .ok (.aload_n 0, 1) := by decide +kernel
theorem dL_truncateText_1 : decode cL_truncateText 1 = .ok (.iload_n 1, 1) := by decide +kernel
theorem dL_truncateText_2 : decode cL_truncateText 2 = .ok (.invokevirtual 121, 3) := by decide +kernel
theorem dL_truncateText_5 : decode cL_truncateText 5 = .ok (.ireturn, 1) := by decide +kernel
theorem dL_truncateText_6 : decode cL_truncateText 6 = .ok (.astore_n 2, 1) := by decide +kernel
theorem dL_truncateText_7 : decode cL_truncateText 7 = .ok (.bipush (-102), 2) := by decide +kernel
theorem dL_truncateText_9 : decode cL_truncateText 9 = .ok (.ireturn, 1) := by decide +kernel
set_option maxRecDepth 20000 in
theorem ggL_lays_L_truncateText : GoodIn wsL_lays wsL_truncateText := goodIn_ca (goodIn_r _ [5, 6, 7, 8, 9, 10, 11, 12, 13, 14, 15, 86, 87, 88, 89, 90, 91, 92, 93, 94, 95, 96, 97, 98, 99, 100, 101, 102, 103, 104, 105] (by decide +kernel) (by decide +kernel)) (goodIn_sub (fun _ h => List.mem_cons_of_mem _ (List.mem_append_left _ (List.mem_append_right _ h))) (by decide +kernel))
set_option maxRecDepth 20000 in
theorem gL_lays_L_truncateText : GoodIn wsL_lays (va_wsS RL 124 yL_truncateText wsL_truncateText) := goodIn_app (goodIn_of _ (by decide +kernel)) ggL_lays_L_truncateText
set_option maxRecDepth 20000 in
theorem ggL_lays_J0_length_8abf5 : GoodIn wsL_lays wsJ0_length_8abf5 := goodIn_r _ [20, 21, 22, 23, 24, 19, 25, 26, 27, 106, 107, 108, 109] (by decide +kernel) (by decide +kernel)
set_option maxRecDepth 20000 in
theorem gL_lays_J0_length_8abf5 : GoodIn wsL_lays (wsV RL 127 RJ0 yJ0_length_8abf5 wsJ0_length_8abf5) := goodIn_app (goodIn_of _ (by decide +kernel)) ggL_lays_J0_length_8abf5
set_option maxRecDepth 20000 in
theorem ggL_lays_J0_charAt_5068e : GoodIn wsL_lays wsJ0_charAt_5068e := goodIn_r _ [31, 21, 32, 33, 34, 19, 35, 26, 27, 36, 37, 38, 39, 40, 41, 42, 43, 44, 45, 46, 47, 48, 49, 50, 51, 52, 53, 54, 55, 56, 57, 58, 59, 60, 61, 62, 63, 64, 106, 107, 108, 109] (by decide +kernel) (by decide +kernel)
set_option maxRecDepth 20000 in
theorem gL_lays_J0_charAt_5068e : GoodIn wsL_lays (wsV RL 133 RJ0 yJ0_charAt_5068e wsJ0_charAt_5068e) := goodIn_app (goodIn_of _ (by decide +kernel)) ggL_lays_J0_charAt_5068e
set_option maxRecDepth 20000 in
theorem ggL_lays_L_appendText : GoodIn wsL_lays wsL_appendText := goodIn_ca (goodIn_r _ [67, 68, 69, 70, 71, 10, 72, 73, 74, 14, 15, 75, 76, 77, 78, 79, 80, 81, 86, 87, 88, 89, 90, 91, 92, 93, 94, 95, 96, 97, 98, 99, 100, 101, 102, 103, 104, 105] (by decide +kernel) (by decide +kernel)) (goodIn_sub (fun _ h => List.mem_cons_of_mem _ (List.mem_append_right _ h)) (by decide +kernel))
set_option maxRecDepth 20000 in
theorem gL_lays_L_appendText : GoodIn wsL_lays (va_wsS RL 137 yL_appendText wsL_appendText) := goodIn_app (goodIn_of _ (by decide +kernel)) ggL_lays_L_appendText
theorem dL_lays_0 : decode cL_lays 0 = .ok (.aload_n 0, 1) := by decide +kernel
theorem dL_lays_1 : decode cL_lays 1 = .ok (.getfield 10, 3) := by decide +kernel
theorem dL_lays_4 : decode cL_lays 4 = .ok (.iconst 0, 1) := by decide +kernel
theorem dL_lays_5 : decode cL_lays 5 = .ok (.invokestatic 124, 3) := by decide +kernel
theorem dL_lays_8 : decode cL_lays 8 = .ok (.ifCond .eq 5, 3) := by decide +kernel
theorem dL_lays_11 : decode cL_lays 11 = .ok (.iconst 0, 1) := by decide +kernel
theorem dL_lays_12 : decode cL_lays 12 = .ok (.ireturn, 1) := by decide +kernel
theorem dL_lays_13 : decode cL_lays 13 = .ok (.iconst 0, 1) := by decide +kernel
theorem dL_lays_14 : decode cL_lays 14 = .ok (.istore_n 2, 1) := by decide +kernel
theorem dL_lays_15 : decode cL_lays 15 = .ok (.iload_n 2, 1) := by decide +kernel
theorem dL_lays_16 : decode cL_lays 16 = .ok (.aload_n 1, 1) := by decide +kernel
theorem dL_lays_17 : decode cL_lays 17 = .ok (.invokevirtual 127, 3) := by decide +kernel
theorem dL_lays_20 : decode cL_lays 20 = .ok (.if_icmp .ge 75, 3) := by decide +kernel
theorem dL_lays_23 : decode cL_lays 23 = .ok (.iconst 0, 1) := by decide +kernel
theorem dL_lays_24 : decode cL_lays 24 = .ok (.istore_n 3, 1) := by decide +kernel
theorem dL_lays_25 : decode cL_lays 25 = .ok (.iconst 0, 1) := by decide +kernel
theorem dL_lays_26 : decode cL_lays 26 = .ok (.istore 4, 2) := by decide +kernel
theorem dL_lays_28 : decode cL_lays 28 = .ok (.iload 4, 2) := by decide +kernel
theorem dL_lays_30 : decode cL_lays 30 = .ok (.iconst 4, 1) := by decide +kernel
theorem dL_lays_31 : decode cL_lays 31 = .ok (.if_icmp .ge 42, 3) := by decide +kernel
theorem dL_lays_34 : decode cL_lays 34 = .ok (.iload_n 3, 1) := by decide +kernel
theorem dL_lays_35 : decode cL_lays 35 = .ok (.bipush 8, 2) := by decide +kernel
theorem dL_lays_37 : decode cL_lays 37 = .ok (.ishl, 1) := by decide +kernel
theorem dL_lays_38 : decode cL_lays 38 = .ok (.iload_n 2, 1) := by decide +kernel
theorem dL_lays_39 : decode cL_lays 39 = .ok (.iload 4, 2) := by decide +kernel
theorem dL_lays_41 : decode cL_lays 41 = .ok (.iadd, 1) := by decide +kernel
theorem dL_lays_42 : decode cL_lays 42 = .ok (.aload_n 1, 1) := by decide +kernel
theorem dL_lays_43 : decode cL_lays 43 = .ok (.invokevirtual 127, 3) := by decide +kernel
theorem dL_lays_46 : decode cL_lays 46 = .ok (.if_icmp .ge 18, 3) := by decide +kernel
theorem dL_lays_49 : decode cL_lays 49 = .ok (.aload_n 1, 1) := by decide +kernel
theorem dL_lays_50 : decode cL_lays 50 = .ok (.iload_n 2, 1) := by decide +kernel
theorem dL_lays_51 : decode cL_lays 51 = .ok (.iload 4, 2) := by decide +kernel
theorem dL_lays_53 : decode cL_lays 53 = .ok (.iadd, 1) := by decide +kernel
theorem dL_lays_54 : decode cL_lays 54 = .ok (.invokevirtual 133, 3) := by decide +kernel
theorem dL_lays_57 : decode cL_lays 57 = .ok (.sipush 255, 3) := by decide +kernel
theorem dL_lays_60 : decode cL_lays 60 = .ok (.iand, 1) := by decide +kernel
theorem dL_lays_61 : decode cL_lays 61 = .ok (.goto 4, 3) := by decide +kernel
theorem dL_lays_64 : decode cL_lays 64 = .ok (.iconst 0, 1) := by decide +kernel
theorem dL_lays_65 : decode cL_lays 65 = .ok (.ior, 1) := by decide +kernel
theorem dL_lays_66 : decode cL_lays 66 = .ok (.istore_n 3, 1) := by decide +kernel
theorem dL_lays_67 : decode cL_lays 67 = .ok (.iinc 4 1, 3) := by decide +kernel
theorem dL_lays_70 : decode cL_lays 70 = .ok (.goto (-42), 3) := by decide +kernel
theorem dL_lays_73 : decode cL_lays 73 = .ok (.aload_n 0, 1) := by decide +kernel
theorem dL_lays_74 : decode cL_lays 74 = .ok (.getfield 10, 3) := by decide +kernel
theorem dL_lays_77 : decode cL_lays 77 = .ok (.iload_n 3, 1) := by decide +kernel
theorem dL_lays_78 : decode cL_lays 78 = .ok (.invokestatic 137, 3) := by decide +kernel
theorem dL_lays_81 : decode cL_lays 81 = .ok (.iload_n 2, 1) := by decide +kernel
theorem dL_lays_82 : decode cL_lays 82 = .ok (.iconst 4, 1) := by decide +kernel
theorem dL_lays_83 : decode cL_lays 83 = .ok (.iadd, 1) := by decide +kernel
theorem dL_lays_84 : decode cL_lays 84 = .ok (.if_icmp .eq 5, 3) := by decide +kernel
theorem dL_lays_87 : decode cL_lays 87 = .ok (.iconst 0, 1) := by decide +kernel
theorem dL_lays_88 : decode cL_lays 88 = .ok (.ireturn, 1) := by decide +kernel
theorem dL_lays_89 : decode cL_lays 89 = .ok (.iinc 2 4, 3) := by decide +kernel
theorem dL_lays_92 : decode cL_lays 92 = .ok (.goto (-77), 3) := by decide +kernel
theorem dL_lays_95 : decode cL_lays 95 = .ok (.aload_n 0, 1) := by decide +kernel
theorem dL_lays_96 : decode cL_lays 96 = .ok (.getfield 10, 3) := by decide +kernel
theorem dL_lays_99 : decode cL_lays 99 = .ok (.aload_n 1, 1) := by decide +kernel
theorem dL_lays_100 : decode cL_lays 100 = .ok (.invokevirtual 127, 3) := by decide +kernel
theorem dL_lays_103 : decode cL_lays 103 = .ok (.invokestatic 124, 3) := by decide +kernel
theorem dL_lays_106 : decode cL_lays 106 = .ok (.aload_n 1, 1) := by decide +kernel
theorem dL_lays_107 : decode cL_lays 107 = .ok (.invokevirtual 127, 3) := by decide +kernel
theorem dL_lays_110 : decode cL_lays 110 = .ok (.if_icmp .ne 7, 3) := by decide +kernel
theorem dL_lays_113 : decode cL_lays 113 = .ok (.iconst 1, 1) := by decide +kernel
theorem dL_lays_114 : decode cL_lays 114 = .ok (.goto 4, 3) := by decide +kernel
theorem dL_lays_117 : decode cL_lays 117 = .ok (.iconst 0, 1) := by decide +kernel
theorem dL_lays_118 : decode cL_lays 118 = .ok (.ireturn, 1) := by decide +kernel
