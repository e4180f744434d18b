set_option maxRecDepth 20000 in
theorem ggL_init_X9_init : GoodIn wsL_init wsX9_init := goodIn_r _ [14, 15, 2, 3, 16, 17, 18, 19, 20, 21, 22, 23, 24, 25, 26, 27, 28, 29, 30, 31, 32, 33, 34, 35, 36, 37, 38, 39, 40, 41, 42, 43, 44, 45, 46, 47, 48, 49, 50, 51, 52, 53, 54, 55, 56, 57, 58, 59, 60, 61, 62, 63, 64, 65, 66, 67, 68, 69, 70, 71, 72, 73, 74, 75, 76, 77, 78, 79, 80, 81, 82, 83, 84, 85, 86, 87, 88, 89, 90, 91, 92, 93, 94, 95, 96, 97, 98, 99, 100, 101, 102, 103, 104, 105, 106, 6, 107, 145, 146, 147, 148, 149, 150, 151, 152, 153, 154, 155, 156, 157, 128, 129, 130, 131, 132, 133, 134, 135, 136, 158, 159, 160, 161, 162, 163, 164, 165, 166, 167, 168, 169, 170, 171] (by decide +kernel) (by decide +kernel)
set_option maxRecDepth 20000 in
theorem gL_init_X9_init : GoodIn wsL_init (wsX9_init) := ggL_init_X9_init
set_option maxRecDepth 20000 in
theorem ggL_init_J4_init_da8c8 : GoodIn wsL_init wsJ4_init_da8c8 := goodIn_r _ [110, 111, 112, 113, 114, 115, 2, 3, 116, 117, 118, 119, 120, 121, 122, 123, 124, 125, 126, 127, 141, 142, 143, 144] (by decide +kernel) (by decide +kernel)
set_option maxRecDepth 20000 in
theorem gL_init_J4_init_da8c8 : GoodIn wsL_init (wsJ4_init_da8c8) := ggL_init_J4_init_da8c8
theorem dL_init_0 : decode cL_init 0 = .ok (.aload_n 0, 1) := by decide +kernel
theorem dL_init_1 : decode cL_init 1 = .ok (.invokespecial 1, 3) := by decide +kernel
theorem dL_init_4 : decode cL_init 4 = .ok (.aload_n 0, 1) := by decide +kernel
theorem dL_init_5 : decode cL_init 5 = .ok (.new 7, 3) := by decide +kernel
theorem dL_init_8 : decode cL_init 8 = .ok (.dup, 1) := by decide +kernel
theorem dL_init_9 : decode cL_init 9 = .ok (.invokespecial 9, 3) := by decide +kernel
theorem dL_init_12 : decode cL_init 12 = .ok (.putfield 10, 3) := by decide +kernel
theorem dL_init_15 : decode cL_init 15 = .ok (.aload_n 0, 1) := by decide +kernel
theorem dL_init_16 : decode cL_init 16 = .ok (.new 16, 3) := by decide +kernel
theorem dL_init_19 : decode cL_init 19 = .ok (.dup, 1) := by decide +kernel
theorem dL_init_20 : decode cL_init 20 = .ok (.invokespecial 18, 3) := by decide +kernel
theorem dL_init_23 : decode cL_init 23 = .ok (.putfield 19, 3) := by decide +kernel
theorem dL_init_26 : decode cL_init 26 = .ok (.return_, 1) := by decide +kernel
theorem dL_at_0 : decode cL_at 0 = .ok (.iload_n 1, 1) := by decide +kernel
theorem dL_at_1 : decode cL_at 1 = .ok (.aload_n 0, 1) := by decide +kernel
theorem dL_at_2 : decode cL_at 2 = .ok (.arraylength, 1) := by decide +kernel
theorem dL_at_3 : decode cL_at 3 = .ok (.if_icmp .ge 9, 3) := by decide +kernel
theorem dL_at_6 : decode cL_at 6 = .ok (.aload_n 0, 1) := by decide +kernel
theorem dL_at_7 : decode cL_at 7 = .ok (.iload_n 1, 1) := by decide +kernel
theorem dL_at_8 : decode cL_at 8 = .ok (.iaload, 1) := by decide +kernel
theorem dL_at_9 : decode cL_at 9 = .ok (.goto 4, 3) := by decide +kernel
theorem dL_at_12 : decode cL_at 12 = .ok (.iconst 0, 1) := by decide +kernel
theorem dL_at_13 : decode cL_at 13 = .ok (.istore_n 2, 1) := by decide +kernel
theorem dL_at_14 : decode cL_at 14 = .ok (.iload_n 2, 1) := by decide +kernel
theorem dL_at_15 : decode cL_at 15 = .ok (.ifCond .le 22, 3) := by decide +kernel
theorem dL_at_18 : decode cL_at 18 = .ok (.iload_n 2, 1) := by decide +kernel
theorem dL_at_19 : decode cL_at 19 = .ok (.sipush 512, 3) := by decide +kernel
theorem dL_at_22 : decode cL_at 22 = .ok (.if_icmp .ge 15, 3) := by decide +kernel
theorem dL_at_25 : decode cL_at 25 = .ok (.iload_n 2, 1) := by decide +kernel
theorem dL_at_26 : decode cL_at 26 = .ok (.ldc 23, 2) := by decide +kernel
theorem dL_at_28 : decode cL_at 28 = .ok (.imul, 1) := by decide +kernel
theorem dL_at_29 : decode cL_at 29 = .ok (.iload_n 1, 1) := by decide +kernel
theorem dL_at_30 : decode cL_at 30 = .ok (.ldc 24, 2) := by decide +kernel
theorem dL_at_32 : decode cL_at 32 = .ok (.imul, 1) := by decide +kernel
theorem dL_at_33 : decode cL_at 33 = .ok (.ixor, 1) := by decide +kernel
theorem dL_at_34 : decode cL_at 34 = .ok (.goto 4, 3) := by decide +kernel
theorem dL_at_37 : decode cL_at 37 = .ok (.iload_n 2, 1) := by decide +kernel
theorem dL_at_38 : decode cL_at 38 = .ok (.ireturn, 1) := by decide +kernel
set_option maxRecDepth 20000 in
theorem ggL_draw_L_at : GoodIn wsL_draw wsL_at := goodIn_r _ [13, 14, 15] (by decide +kernel) (by decide +kernel)
set_option maxRecDepth 20000 in
theorem gL_draw_L_at : GoodIn wsL_draw (va_wsS RL 39 yL_at wsL_at) := goodIn_app (goodIn_of _ (by decide +kernel)) ggL_draw_L_at
theorem dL_draw_0 : decode cL_draw 0 = .ok (.aload_n 0, 1) := by decide +kernel
theorem dL_draw_1 : decode cL_draw 1 = .ok (.getfield 25, 3) := by decide +kernel
theorem dL_draw_4 : decode cL_draw 4 = .ok (.aload_n 0, 1) := by decide +kernel
theorem dL_draw_5 : decode cL_draw 5 = .ok (.getfield 29, 3) := by decide +kernel
theorem dL_draw_8 : decode cL_draw 8 = .ok (.iconst 1, 1) := by decide +kernel
theorem dL_draw_9 : decode cL_draw 9 = .ok (.aload_n 0, 1) := by decide +kernel
theorem dL_draw_10 : decode cL_draw 10 = .ok (.getfield 25, 3) := by decide +kernel
theorem dL_draw_13 : decode cL_draw 13 = .ok (.arraylength, 1) := by decide +kernel
theorem dL_draw_14 : decode cL_draw 14 = .ok (.invokestatic 33, 3) := by decide +kernel
theorem dL_draw_17 : decode cL_draw 17 = .ok (.irem, 1) := by decide +kernel
theorem dL_draw_18 : decode cL_draw 18 = .ok (.invokestatic 39, 3) := by decide +kernel
theorem dL_draw_21 : decode cL_draw 21 = .ok (.aload_n 0, 1) := by decide +kernel
theorem dL_draw_22 : decode cL_draw 22 = .ok (.getfield 29, 3) := by decide +kernel
theorem dL_draw_25 : decode cL_draw 25 = .ok (.ldc 43, 2) := by decide +kernel
theorem dL_draw_27 : decode cL_draw 27 = .ok (.imul, 1) := by decide +kernel
theorem dL_draw_28 : decode cL_draw 28 = .ok (.iadd, 1) := by decide +kernel
theorem dL_draw_29 : decode cL_draw 29 = .ok (.istore_n 2, 1) := by decide +kernel
theorem dL_draw_30 : decode cL_draw 30 = .ok (.aload_n 0, 1) := by decide +kernel
theorem dL_draw_31 : decode cL_draw 31 = .ok (.dup, 1) := by decide +kernel
theorem dL_draw_32 : decode cL_draw 32 = .ok (.getfield 29, 3) := by decide +kernel
theorem dL_draw_35 : decode cL_draw 35 = .ok (.iconst 1, 1) := by decide +kernel
theorem dL_draw_36 : decode cL_draw 36 = .ok (.iadd, 1) := by decide +kernel
theorem dL_draw_37 : decode cL_draw 37 = .ok (.putfield 29, 3) := by decide +kernel
theorem dL_draw_40 : decode cL_draw 40 = .ok (.iload_n 2, 1) := by decide +kernel
theorem dL_draw_41 : decode cL_draw 41 = .ok (.iload_n 2, 1) := by decide +kernel
theorem dL_draw_42 : decode cL_draw 42 = .ok (.bipush 15, 2) := by decide +kernel
theorem dL_draw_44 : decode cL_draw 44 = .ok (.iushr, 1) := by decide +kernel
theorem dL_draw_45 : decode cL_draw 45 = .ok (.ixor, 1) := by decide +kernel
theorem dL_draw_46 : decode cL_draw 46 = .ok (.istore_n 2, 1) := by decide +kernel
theorem dL_draw_47 : decode cL_draw 47 = .ok (.iload_n 2, 1) := by decide +kernel
theorem dL_draw_48 : decode cL_draw 48 = .ok (.ldc 44, 2) := by decide +kernel
theorem dL_draw_50 : decode cL_draw 50 = .ok (.imul, 1) := by decide +kernel
theorem dL_draw_51 : decode cL_draw 51 = .ok (.istore_n 2, 1) := by decide +kernel
theorem dL_draw_52 : decode cL_draw 52 = .ok (.iload_n 2, 1) := by decide +kernel
theorem dL_draw_53 : decode cL_draw 53 = .ok (.iload_n 2, 1) := by decide +kernel
theorem dL_draw_54 : decode cL_draw 54 = .ok (.bipush 13, 2) := by decide +kernel
theorem dL_draw_56 : decode cL_draw 56 = .ok (.iushr, 1) := by decide +kernel
theorem dL_draw_57 : decode cL_draw 57 = .ok (.ixor, 1) := by decide +kernel
theorem dL_draw_58 : decode cL_draw 58 = .ok (.istore_n 2, 1) := by decide +kernel
theorem dL_draw_59 : decode cL_draw 59 = .ok (.iload_n 2, 1) := by decide +kernel
theorem dL_draw_60 : decode cL_draw 60 = .ok (.ldc 45, 2) := by decide +kernel
theorem dL_draw_62 : decode cL_draw 62 = .ok (.iand, 1) := by decide +kernel
theorem dL_draw_63 : decode cL_draw 63 = .ok (.iload_n 1, 1) := by decide +kernel
theorem dL_draw_64 : decode cL_draw 64 = .ok (.irem, 1) := by decide +kernel
theorem dL_draw_65 : decode cL_draw 65 = .ok (.ireturn, 1) := by decide +kernel
set_option maxRecDepth 20000 in
theorem ggL_count_X9_count : GoodIn wsL_count wsX9_count := goodIn_ca (goodIn_r _ [6, 7, 8, 9, 10, 11, 12, 13, 14, 15, 16, 17, 18, 19, 20, 21, 22, 23, 24, 25, 26, 27, 28, 29, 30, 31, 32, 33, 34, 35, 36, 37] (by decide +kernel) (by decide +kernel)) (goodIn_sub (fun _ h => List.mem_cons_of_mem _ (List.mem_append_right _ h)) (by decide +kernel))
set_option maxRecDepth 20000 in
theorem gL_count_X9_count : GoodIn wsL_count (wsV RL 46 RX9 yX9_count wsX9_count) := goodIn_app (goodIn_of _ (by decide +kernel)) ggL_count_X9_count
theorem dL_count_0 : decode cL_count 0 = .ok (.aload_n 0, 1) := by decide +kernel
theorem dL_count_1 : decode cL_count 1 = .ok (.iload_n 1, 1) := by decide +kernel
theorem dL_count_2 : decode cL_count 2 = .ok (.invokevirtual 46, 3) := by decide +kernel
theorem dL_count_5 : decode cL_count 5 = .ok (.ireturn, 1) := by decide +kernel
theorem dL_count_6 : decode cL_count 6 = .ok (.astore_n 2, 1) := by decide +kernel
theorem dL_count_7 : decode cL_count 7 = .ok (.bipush (-102), 2) := by decide +kernel
theorem dL_count_9 : decode cL_count 9 = .ok (.ireturn, 1) := by decide +kernel
set_option maxRecDepth 20000 in
theorem ggL_setting_X9_setting : GoodIn wsL_setting wsX9_setting := goodIn_ca (goodIn_r _ [6, 7, 8, 9, 10, 11, 12, 13, 14, 15, 16, 17, 18, 19, 20, 21, 22, 23, 24, 25, 26, 27, 28, 29, 30, 31, 32] (by decide +kernel) (by decide +kernel)) (goodIn_sub (fun _ h => List.mem_cons_of_mem _ (List.mem_append_right _ h)) (by decide +kernel))
set_option maxRecDepth 20000 in
theorem gL_setting_X9_setting : GoodIn wsL_setting (wsV RL 52 RX9 yX9_setting wsX9_setting) := goodIn_app (goodIn_of _ (by decide +kernel)) ggL_setting_X9_setting
theorem dL_setting_0 : decode cL_setting 0 = .ok (.aload_n 0, 1) := by decide +kernel
theorem dL_setting_1 : decode cL_setting 1 = .ok (.iload_n 1, 1) := by decide +kernel
theorem dL_setting_2 : decode cL_setting 2 = .ok (.invokevirtual 52, 3) := by decide +kernel
theorem dL_setting_5 : decode cL_setting 5 = .ok (.ireturn, 1) := by decide +kernel
theorem dL_setting_6 : decode cL_setting 6 = .ok (.astore_n 2, 1) := by decide +kernel
theorem dL_setting_7 : decode cL_setting 7 = .ok (.bipush (-102), 2) := by decide +kernel
theorem dL_setting_9 : decode cL_setting 9 = .ok (.ireturn, 1) := by decide +kernel
set_option maxRecDepth 20000 in
theorem ggL_kind_X9_kind : GoodIn wsL_kind wsX9_kind := goodIn_ca (goodIn_ca (goodIn_r _ [7, 8, 9, 10, 11, 12, 13, 14, 15, 16, 17, 18, 19, 20, 21, 22, 23, 24, 25, 26, 27, 28, 29, 30, 31, 32, 33, 34, 35, 36, 37, 38, 39, 40] (by decide +kernel) (by decide +kernel)) (goodIn_sub (fun _ h => List.mem_cons_of_mem _ (List.mem_append_left _ (List.mem_append_right _ h))) (by decide +kernel))) (goodIn_sub (fun _ h => List.mem_cons_of_mem _ (List.mem_append_right _ h)) (by decide +kernel))
set_option maxRecDepth 20000 in
theorem gL_kind_X9_kind : GoodIn wsL_kind (wsV RL 55 RX9 yX9_kind wsX9_kind) := goodIn_app (goodIn_of _ (by decide +kernel)) ggL_kind_X9_kind
theorem dL_kind_0 : decode cL_kind 0 = .ok (.aload_n 0, 1) := by decide +kernel
theorem dL_kind_1 : decode cL_kind 1 = .ok (.iload_n 1, 1) := by decide +kernel
theorem dL_kind_2 : decode cL_kind 2 = .ok (.iload_n 2, 1) := by decide +kernel
theorem dL_kind_3 : decode cL_kind 3 = .ok (.invokevirtual 55, 3) := by decide +kernel
theorem dL_kind_6 : decode cL_kind 6 = .ok (.ireturn, 1) := by decide +kernel
theorem dL_kind_7 : decode cL_kind 7 = .ok (.astore_n 3, 1) := by decide +kernel
theorem dL_kind_8 : decode cL_kind 8 = .ok (.bipush (-101), 2) := by decide +kernel
theorem dL_kind_10 : decode cL_kind 10 = .ok (.ireturn, 1) := by decide +kernel
theorem dL_kind_11 : decode cL_kind 11 = .ok (.astore_n 3, 1) := by decide +kernel
theorem dL_kind_12 : decode cL_kind 12 = .ok (.bipush (-102), 2) := by decide +kernel
theorem dL_kind_14 : decode cL_kind 14 = .ok (.ireturn, 1) := by decide +kernel
set_option maxRecDepth 20000 in
theorem ggL_car_X9_car : GoodIn wsL_car wsX9_car := goodIn_ca (goodIn_ca (goodIn_r _ [7, 8, 9, 10, 11, 12, 13, 14, 15, 16, 17, 18, 19, 20, 21, 22, 23, 24, 25, 26, 27, 28, 29, 30, 31, 32, 33, 34, 35, 36, 37, 38, 39, 40, 41] (by decide +kernel) (by decide +kernel)) (goodIn_sub (fun _ h => List.mem_cons_of_mem _ (List.mem_append_left _ (List.mem_append_right _ h))) (by decide +kernel))) (goodIn_sub (fun _ h => List.mem_cons_of_mem _ (List.mem_append_right _ h)) (by decide +kernel))
set_option maxRecDepth 20000 in
theorem gL_car_X9_car : GoodIn wsL_car (wsV RL 60 RX9 yX9_car wsX9_car) := goodIn_app (goodIn_of _ (by decide +kernel)) ggL_car_X9_car
theorem dL_car_0 : decode cL_car 0 = .ok (.aload_n 0, 1) := by decide +kernel
theorem dL_car_1 : decode cL_car 1 = .ok (.iload_n 1, 1) := by decide +kernel
theorem dL_car_2 : decode cL_car 2 = .ok (.iload_n 2, 1) := by decide +kernel
theorem dL_car_3 : decode cL_car 3 = .ok (.invokevirtual 60, 3) := by decide +kernel
theorem dL_car_6 : decode cL_car 6 = .ok (.ireturn, 1) := by decide +kernel
theorem dL_car_7 : decode cL_car 7 = .ok (.astore_n 3, 1) := by decide +kernel
theorem dL_car_8 : decode cL_car 8 = .ok (.bipush (-101), 2) := by decide +kernel
theorem dL_car_10 : decode cL_car 10 = .ok (.ireturn, 1) := by decide +kernel
theorem dL_car_11 : decode cL_car 11 = .ok (.astore_n 3, 1) := by decide +kernel
theorem dL_car_12 : decode cL_car 12 = .ok (.bipush (-102), 2) := by decide +kernel
theorem dL_car_14 : decode cL_car 14 = .ok (.ireturn, 1) := by decide +kernel
set_option maxRecDepth 20000 in
theorem ggL_standing_X9_standing : GoodIn wsL_standing wsX9_standing := goodIn_ca (goodIn_r _ [6, 7, 8, 9, 10, 11, 12, 13, 14, 15, 16, 17, 5, 18, 19, 20, 21, 22, 23, 24, 25, 26, 27, 28, 29, 30, 31, 32, 33, 34, 35, 36, 37, 38, 39, 40] (by decide +kernel) (by decide +kernel)) (goodIn_sub (fun _ h => List.mem_cons_of_mem _ (List.mem_append_right _ h)) (by decide +kernel))
set_option maxRecDepth 20000 in
theorem gL_standing_X9_standing : GoodIn wsL_standing (wsV RL 63 RX9 yX9_standing wsX9_standing) := goodIn_app (goodIn_of _ (by decide +kernel)) ggL_standing_X9_standing
theorem dL_standing_0 : decode cL_standing 0 = .ok (.aload_n 0, 1) := by decide +kernel
theorem dL_standing_1 : decode cL_standing 1 = .ok (.iload_n 1, 1) := by decide +kernel
theorem dL_standing_2 : decode cL_standing 2 = .ok (.iload_n 2, 1) := by decide +kernel
theorem dL_standing_3 : decode cL_standing 3 = .ok (.invokevirtual 63, 3) := by decide +kernel
theorem dL_standing_6 : decode cL_standing 6 = .ok (.ireturn, 1) := by decide +kernel
theorem dL_standing_7 : decode cL_standing 7 = .ok (.astore_n 3, 1) := by decide +kernel
theorem dL_standing_8 : decode cL_standing 8 = .ok (.bipush (-101), 2) := by decide +kernel
theorem dL_standing_10 : decode cL_standing 10 = .ok (.ireturn, 1) := by decide +kernel
set_option maxRecDepth 20000 in
theorem ggL_lane_X9_lane : GoodIn wsL_lane wsX9_lane := goodIn_ca (goodIn_r _ [6, 7, 8, 9, 10, 11, 12, 13, 14, 15, 16, 17, 18, 19, 20, 21, 22, 23, 24, 25, 26, 27, 28, 29, 30, 31, 32, 33, 34] (by decide +kernel) (by decide +kernel)) (goodIn_sub (fun _ h => List.mem_cons_of_mem _ (List.mem_append_right _ h)) (by decide +kernel))
set_option maxRecDepth 20000 in
theorem gL_lane_X9_lane : GoodIn wsL_lane (wsV RL 66 RX9 yX9_lane wsX9_lane) := goodIn_app (goodIn_of _ (by decide +kernel)) ggL_lane_X9_lane
theorem dL_lane_0 : decode cL_lane 0 = .ok (.aload_n 0, 1) := by decide +kernel
theorem dL_lane_1 : decode cL_lane 1 = .ok (.iload_n 1, 1) := by decide +kernel
theorem dL_lane_2 : decode cL_lane 2 = .ok (.iload_n 2, 1) := by decide +kernel
theorem dL_lane_3 : decode cL_lane 3 = .ok (.invokevirtual 66, 3) := by decide +kernel
theorem dL_lane_6 : decode cL_lane 6 = .ok (.ireturn, 1) := by decide +kernel
theorem dL_lane_7 : decode cL_lane 7 = .ok (.astore_n 3, 1) := by decide +kernel
theorem dL_lane_8 : decode cL_lane 8 = .ok (.bipush (-101), 2) := by decide +kernel
theorem dL_lane_10 : decode cL_lane 10 = .ok (.ireturn, 1) := by decide +kernel
set_option maxRecDepth 20000 in
theorem ggL_call_X9_call : GoodIn wsL_call wsX9_call := goodIn_ca (goodIn_ca (goodIn_r _ [7, 8, 9, 10, 11, 12, 13, 14, 15, 16, 6, 17, 18, 19, 20, 21, 22, 23, 24, 25, 26, 27, 28, 29, 30, 31, 32, 33, 34, 35, 36, 37, 38, 39] (by decide +kernel) (by decide +kernel)) (goodIn_sub (fun _ h => List.mem_cons_of_mem _ (List.mem_append_left _ (List.mem_append_right _ h))) (by decide +kernel))) (goodIn_sub (fun _ h => List.mem_cons_of_mem _ (List.mem_append_right _ h)) (by decide +kernel))
set_option maxRecDepth 20000 in
theorem gL_call_X9_call : GoodIn wsL_call (wsV RL 70 RX9 yX9_call wsX9_call) := goodIn_app (goodIn_of _ (by decide +kernel)) ggL_call_X9_call
theorem dL_call_0 : decode cL_call 0 = .ok (.aload_n 0, 1) := by decide +kernel
theorem dL_call_1 : decode cL_call 1 = .ok (.iload_n 1, 1) := by decide +kernel
theorem dL_call_2 : decode cL_call 2 = .ok (.iload_n 2, 1) := by decide +kernel
theorem dL_call_3 : decode cL_call 3 = .ok (.invokevirtual 70, 3) := by decide +kernel
theorem dL_call_6 : decode cL_call 6 = .ok (.ireturn, 1) := by decide +kernel
theorem dL_call_7 : decode cL_call 7 = .ok (.astore_n 3, 1) := by decide +kernel
theorem dL_call_8 : decode cL_call 8 = .ok (.bipush (-101), 2) := by decide +kernel
theorem dL_call_10 : decode cL_call 10 = .ok (.ireturn, 1) := by decide +kernel
theorem dL_call_11 : decode cL_call 11 = .ok (.astore_n 3, 1) := by decide +kernel
theorem dL_call_12 : decode cL_call 12 = .ok (.bipush (-102), 2) := by decide +kernel
theorem dL_call_14 : decode cL_call 14 = .ok (.ireturn, 1) := by decide +kernel
set_option maxRecDepth 20000 in
theorem ggL_tide_X9_tide : GoodIn wsL_tide wsX9_tide := goodIn_ca (goodIn_r _ [6, 7, 8, 9, 10, 11, 12, 13, 14, 15, 16, 17, 18, 19, 20, 21, 22, 23, 24, 25, 26, 27, 28, 29, 30, 31, 32, 33, 34, 35, 36, 37] (by decide +kernel) (by decide +kernel)) (goodIn_sub (fun _ h => List.mem_cons_of_mem _ (List.mem_append_right _ h)) (by decide +kernel))
set_option maxRecDepth 20000 in
theorem gL_tide_X9_tide : GoodIn wsL_tide (wsV RL 73 RX9 yX9_tide wsX9_tide) := goodIn_app (goodIn_of _ (by decide +kernel)) ggL_tide_X9_tide
theorem dL_tide_0 : decode cL_tide 0 = .ok (.aload_n 0, 1) := by decide +kernel
theorem dL_tide_1 : decode cL_tide 1 = .ok (.iload_n 1, 1) := by decide +kernel
theorem dL_tide_2 : decode cL_tide 2 = .ok (.invokevirtual 73, 3) := by decide +kernel
theorem dL_tide_5 : decode cL_tide 5 = .ok (.ireturn, 1) := by decide +kernel
theorem dL_tide_6 : decode cL_tide 6 = .ok (.astore_n 2, 1) := by decide +kernel
theorem dL_tide_7 : decode cL_tide 7 = .ok (.bipush (-102), 2) := by decide +kernel
theorem dL_tide_9 : decode cL_tide 9 = .ok (.ireturn, 1) := by decide +kernel
set_option maxRecDepth 20000 in
theorem ggL_deck_X9_deck : GoodIn wsL_deck wsX9_deck := goodIn_ca (goodIn_r _ [6, 7, 8, 9, 10, 11, 12, 13, 14, 15, 16, 17, 18, 19, 20, 21, 22, 23, 24, 25, 26, 27, 28, 29, 30, 31, 32, 33, 34, 35, 36, 37, 38, 39, 40, 41, 42] (by decide +kernel) (by decide +kernel)) (goodIn_sub (fun _ h => List.mem_cons_of_mem _ (List.mem_append_right _ h)) (by decide +kernel))
set_option maxRecDepth 20000 in
theorem gL_deck_X9_deck : GoodIn wsL_deck (wsV RL 76 RX9 yX9_deck wsX9_deck) := goodIn_app (goodIn_of _ (by decide +kernel)) ggL_deck_X9_deck
theorem dL_deck_0 : decode cL_deck 0 = .ok (.aload_n 0, 1) := by decide +kernel
theorem dL_deck_1 : decode cL_deck 1 = .ok (.iload_n 1, 1) := by decide +kernel
theorem dL_deck_2 : decode cL_deck 2 = .ok (.invokevirtual 76, 3) := by decide +kernel
theorem dL_deck_5 : decode cL_deck 5 = .ok (.ireturn, 1) := by decide +kernel
theorem dL_deck_6 : decode cL_deck 6 = .ok (.astore_n 2, 1) := by decide +kernel
theorem dL_deck_7 : decode cL_deck 7 = .ok (.bipush (-102), 2) := by decide +kernel
theorem dL_deck_9 : decode cL_deck 9 = .ok (.ireturn, 1) := by decide +kernel
set_option maxRecDepth 20000 in
theorem ggL_whyNot_X9_whyNot : GoodIn wsL_whyNot wsX9_whyNot := goodIn_ca (goodIn_r _ [6, 7, 8, 9, 10, 11, 12, 13, 14, 15, 16, 17, 18, 19, 20, 21, 22, 23, 24, 25, 26, 27, 28, 29, 30, 31, 32, 33, 34, 35, 36, 37, 38, 39, 40, 41, 42, 43, 44, 45, 46, 47, 48, 49, 50, 51, 52, 53, 54, 55, 56, 57, 58, 59, 60, 61, 62, 63, 64, 65] (by decide +kernel) (by decide +kernel)) (goodIn_sub (fun _ h => List.mem_cons_of_mem _ (List.mem_append_right _ h)) (by decide +kernel))
set_option maxRecDepth 20000 in
theorem gL_whyNot_X9_whyNot : GoodIn wsL_whyNot (wsV RL 79 RX9 yX9_whyNot wsX9_whyNot) := goodIn_app (goodIn_of _ (by decide +kernel)) ggL_whyNot_X9_whyNot
theorem dL_whyNot_0 : decode cL_whyNot 0 = .ok (.aload_n 0, 1) := by decide +kernel
theorem dL_whyNot_1 : decode cL_whyNot 1 = .ok (.iload_n 1, 1) := by decide +kernel
theorem dL_whyNot_2 : decode cL_whyNot 2 = .ok (.invokevirtual 79, 3) := by decide +kernel
theorem dL_whyNot_5 : decode cL_whyNot 5 = .ok (.ireturn, 1) := by decide +kernel
theorem dL_whyNot_6 : decode cL_whyNot 6 = .ok (.astore_n 2, 1) := by decide +kernel
theorem dL_whyNot_7 : decode cL_whyNot 7 = .ok (.bipush (-101), 2) := by decide +kernel
theorem dL_whyNot_9 : decode cL_whyNot 9 = .ok (.ireturn, 1) := by decide +kernel
set_option maxRecDepth 20000 in
theorem ggL_boardIn_X9_boardIn : GoodIn wsL_boardIn wsX9_boardIn := goodIn_ca (goodIn_r _ [6, 7, 8, 9, 10, 11, 12, 13, 14, 15, 16, 17, 18, 19, 20, 21, 22, 23, 24, 25, 26, 27, 28, 29, 30, 31, 32, 33, 34, 35, 36, 37, 38, 39, 40, 41, 42, 43, 44, 45, 46, 47, 48, 49, 50, 51, 52, 53, 5, 54, 55, 56, 57, 58, 59, 60, 61, 62, 63, 64, 65, 66, 67, 68, 69, 70, 71, 72, 73, 74, 75, 76, 77, 78, 79, 80, 81, 82, 83, 84, 85, 86, 87, 88, 89, 90, 91, 92, 93, 94, 95, 96, 97, 98, 99, 100, 101, 102, 103, 104, 105, 106, 107, 108, 109, 110, 111, 112, 113, 114, 115, 116, 117, 118, 119, 120, 121, 122, 123, 124, 125, 126, 127, 128, 129, 130, 131, 132, 133, 134, 135, 136, 137, 138, 139, 140, 141, 142] (by decide +kernel) (by decide +kernel)) (goodIn_sub (fun _ h => List.mem_cons_of_mem _ (List.mem_append_right _ h)) (by decide +kernel))
set_option maxRecDepth 20000 in
theorem gL_boardIn_X9_boardIn : GoodIn wsL_boardIn (wsV RL 82 RX9 yX9_boardIn wsX9_boardIn) := goodIn_app (goodIn_of _ (by decide +kernel)) ggL_boardIn_X9_boardIn
theorem dL_boardIn_0 : decode cL_boardIn 0 = .ok (.aload_n 0, 1) := by decide +kernel
theorem dL_boardIn_1 : decode cL_boardIn 1 = .ok (.iload_n 1, 1) := by decide +kernel
theorem dL_boardIn_2 : decode cL_boardIn 2 = .ok (.invokevirtual 82, 3) := by decide +kernel
theorem dL_boardIn_5 : decode cL_boardIn 5 = .ok (.ireturn, 1) := by decide +kernel
theorem dL_boardIn_6 : decode cL_boardIn 6 = .ok (.astore_n 2, 1) := by decide +kernel
theorem dL_boardIn_7 : decode cL_boardIn 7 = .ok (.bipush (-102), 2) := by decide +kernel
theorem dL_boardIn_9 : decode cL_boardIn 9 = .ok (.ireturn, 1) := by decide +kernel
set_option maxRecDepth 20000 in
theorem ggL_easyIn_X9_easyIn : GoodIn wsL_easyIn wsX9_easyIn := goodIn_ca (goodIn_r _ [6, 7, 8, 9, 10, 11, 12, 13, 14, 15, 16, 17, 18, 19, 20, 21, 22, 23, 24, 25, 26, 27, 28, 29, 30, 31, 32, 33, 34, 35, 36, 37, 38, 39, 40, 41, 42, 43, 44, 45, 46, 47, 48, 49, 50, 51, 52, 53, 54, 55, 56, 57, 58, 59, 5, 60, 61, 62, 63, 64, 65, 66, 67, 68, 69, 70, 71, 72, 73, 74, 75, 76, 77, 78, 79, 80, 81, 82, 83, 84, 85, 86, 87, 88, 89, 90, 91, 92, 93, 94, 95, 96, 97, 98, 99, 100, 101, 102, 103, 104, 105, 106, 107, 108, 109, 110, 111, 112, 113, 114, 115, 116, 117, 118, 119, 120, 121, 122, 123, 124, 125, 126, 127, 128, 129, 130, 131, 132, 133, 134, 135, 136, 137, 138, 139, 140, 141, 142, 143, 144, 145] (by decide +kernel) (by decide +kernel)) (goodIn_sub (fun _ h => List.mem_cons_of_mem _ (List.mem_append_right _ h)) (by decide +kernel))
set_option maxRecDepth 20000 in
theorem gL_easyIn_X9_easyIn : GoodIn wsL_easyIn (wsV RL 85 RX9 yX9_easyIn wsX9_easyIn) := goodIn_app (goodIn_of _ (by decide +kernel)) ggL_easyIn_X9_easyIn
theorem dL_easyIn_0 : decode cL_easyIn 0 = .ok (.aload_n 0, 1) := by decide +kernel
theorem dL_easyIn_1 : decode cL_easyIn 1 = .ok (.iload_n 1, 1) := by decide +kernel
theorem dL_easyIn_2 : decode cL_easyIn 2 = .ok (.invokevirtual 85, 3) := by decide +kernel
theorem dL_easyIn_5 : decode cL_easyIn 5 = .ok (.ireturn, 1) := by decide +kernel
theorem dL_easyIn_6 : decode cL_easyIn 6 = .ok (.astore_n 2, 1) := by decide +kernel
theorem dL_easyIn_7 : decode cL_easyIn 7 = .ok (.bipush (-101), 2) := by decide +kernel
theorem dL_easyIn_9 : decode cL_easyIn 9 = .ok (.ireturn, 1) := by decide +kernel
set_option maxRecDepth 20000 in
theorem ggL_bestFirst_X9_bestFirst : GoodIn wsL_bestFirst wsX9_bestFirst := goodIn_ca (goodIn_r _ [6, 7, 8, 9, 10, 11, 12, 13, 14, 15, 16, 17, 18, 19, 20, 21, 22, 23, 24, 25, 26, 27, 28, 29, 30, 31, 32, 33, 34, 35, 36, 37, 38, 39, 40, 41, 42, 43, 44, 45, 46, 47, 48, 49, 50, 51, 52, 53, 54, 55, 56, 57, 58, 59, 5, 60, 61, 62, 63, 64, 65, 66, 67, 68, 69, 70, 71, 72, 73, 74, 75, 76, 77, 78, 79, 80, 81, 82, 83, 84, 85, 86, 87, 88, 89, 90, 91, 92, 93, 94, 95, 96, 97, 98, 99, 100, 101, 102, 103, 104, 105, 106, 107, 108, 109, 110, 111, 112, 113, 114, 115, 116, 117, 118, 119, 120, 121, 122, 123, 124, 125, 126, 127, 128, 129, 130, 131, 132, 133, 134, 135, 136, 137, 138, 139, 140, 141, 142, 143, 144, 145, 146, 147, 148, 149] (by decide +kernel) (by decide +kernel)) (goodIn_sub (fun _ h => List.mem_cons_of_mem _ (List.mem_append_right _ h)) (by decide +kernel))
set_option maxRecDepth 20000 in
theorem gL_bestFirst_X9_bestFirst : GoodIn wsL_bestFirst (wsV RL 88 RX9 yX9_bestFirst wsX9_bestFirst) := goodIn_app (goodIn_of _ (by decide +kernel)) ggL_bestFirst_X9_bestFirst
theorem dL_bestFirst_0 : decode cL_bestFirst 0 = .ok (.aload_n 0, 1) := by decide +kernel
theorem dL_bestFirst_1 : decode cL_bestFirst 1 = .ok (.iload_n 1, 1) := by decide +kernel
theorem dL_bestFirst_2 : decode cL_bestFirst 2 = .ok (.invokevirtual 88, 3) := by decide +kernel
theorem dL_bestFirst_5 : decode cL_bestFirst 5 = .ok (.ireturn, 1) := by decide +kernel
theorem dL_bestFirst_6 : decode cL_bestFirst 6 = .ok (.astore_n 2, 1) := by decide +kernel
theorem dL_bestFirst_7 : decode cL_bestFirst 7 = .ok (.bipush (-102), 2) := by decide +kernel
theorem dL_bestFirst_9 : decode cL_bestFirst 9 = .ok (.ireturn, 1) := by decide +kernel
set_option maxRecDepth 20000 in
theorem ggL_tick_X9_tick : GoodIn wsL_tick wsX9_tick := goodIn_ca (goodIn_r _ [6, 7, 8, 9, 10, 11, 5, 12, 13, 14, 15, 16, 17, 18, 19, 20, 21, 22, 23, 24, 25, 26, 27, 28, 29, 30, 31, 32, 33, 34, 35, 36, 37, 38, 39, 40, 41, 42, 43, 44, 45, 46, 47, 48, 49, 50, 51, 52, 53, 54, 55, 56, 57, 58, 59, 60, 61, 62, 63, 64, 65, 66, 67, 68, 69, 70, 71, 72, 73, 74, 75, 76, 77, 78, 79, 80, 81, 82, 83, 84, 85, 86, 87, 88, 89, 90, 91, 92, 93, 94, 95, 96, 97, 98, 99, 100, 101, 102, 103, 104, 105, 106, 107, 108, 109, 110, 111, 112, 113, 114, 115, 116, 117, 118, 119, 120, 121, 122, 123, 124, 125, 126, 127, 128, 129, 130, 131, 132, 133, 134, 135, 136, 137, 138, 139, 140, 141, 142, 143, 144, 145, 146, 147, 148, 149, 150, 151, 152, 153, 154, 155, 156, 157, 158, 159, 160, 161, 162] (by decide +kernel) (by decide +kernel)) (goodIn_sub (fun _ h => List.mem_cons_of_mem _ (List.mem_append_right _ h)) (by decide +kernel))
set_option maxRecDepth 20000 in
theorem gL_tick_X9_tick : GoodIn wsL_tick (wsV RL 91 RX9 yX9_tick wsX9_tick) := goodIn_app (goodIn_of _ (by decide +kernel)) ggL_tick_X9_tick
theorem dL_tick_0 : decode cL_tick 0 = .ok (.aload_n 0, 1) := by decide +kernel
theorem dL_tick_1 : decode cL_tick 1 = .ok (.iload_n 1, 1) := by decide +kernel
theorem dL_tick_2 : decode cL_tick 2 = .ok (.invokevirtual 91, 3) := by decide +kernel
theorem dL_tick_5 : decode cL_tick 5 = .ok (.ireturn, 1) := by decide +kernel
theorem dL_tick_6 : decode cL_tick 6 = .ok (.astore_n 2, 1) := by decide +kernel
theorem dL_tick_7 : decode cL_tick 7 = .ok (.bipush (-102), 2) := by decide +kernel
theorem dL_tick_9 : decode cL_tick 9 = .ok (.ireturn, 1) := by decide +kernel
set_option maxRecDepth 20000 in
theorem ggL_arrive_X9_arrive : GoodIn wsL_arrive wsX9_arrive := goodIn_ca (goodIn_ca (goodIn_r _ [7, 8, 9, 10, 11, 12, 13, 14, 6, 15, 16, 17, 18, 19, 20, 21, 22, 23, 24, 25, 26, 27, 28, 29, 30, 31, 32, 33, 34, 35, 36, 37, 38, 39, 40, 41, 42, 43, 44, 45, 46, 47, 48, 49, 50, 51, 52, 53, 54, 55, 56, 57, 58, 59, 60, 61, 62, 63, 64, 65, 66, 67, 68, 69, 70, 71, 72, 73, 74, 75, 76, 77, 78, 79, 80, 81, 82, 83, 84, 85, 86, 87, 88, 89, 90] (by decide +kernel) (by decide +kernel)) (goodIn_sub (fun _ h => List.mem_cons_of_mem _ (List.mem_append_left _ (List.mem_append_right _ h))) (by decide +kernel))) (goodIn_sub (fun _ h => List.mem_cons_of_mem _ (List.mem_append_right _ h)) (by decide +kernel))
set_option maxRecDepth 20000 in
theorem gL_arrive_X9_arrive : GoodIn wsL_arrive (wsV RL 94 RX9 yX9_arrive wsX9_arrive) := goodIn_app (goodIn_of _ (by decide +kernel)) ggL_arrive_X9_arrive
theorem dL_arrive_0 : decode cL_arrive 0 = .ok (.aload_n 0, 1) := by decide +kernel
theorem dL_arrive_1 : decode cL_arrive 1 = .ok (.iload_n 1, 1) := by decide +kernel
theorem dL_arrive_2 : decode cL_arrive 2 = .ok (.iload_n 2, 1) := by decide +kernel
theorem dL_arrive_3 : decode cL_arrive 3 = .ok (.invokevirtual 94, 3) := by decide +kernel
theorem dL_arrive_6 : decode cL_arrive 6 = .ok (.ireturn, 1) := by decide +kernel
theorem dL_arrive_7 : decode cL_arrive 7 = .ok (.astore_n 3, 1) := by decide +kernel
theorem dL_arrive_8 : decode cL_arrive 8 = .ok (.bipush (-101), 2) := by decide +kernel
theorem dL_arrive_10 : decode cL_arrive 10 = .ok (.ireturn, 1) := by decide +kernel
theorem dL_arrive_11 : decode cL_arrive 11 = .ok (.astore_n 3, 1) := by decide +kernel
theorem dL_arrive_12 : decode cL_arrive 12 = .ok (.bipush (-102), 2) := by decide +kernel
theorem dL_arrive_14 : decode cL_arrive 14 = .ok (.ireturn, 1) := by decide +kernel
set_option maxRecDepth 20000 in
theorem ggL_wave_X9_wave : GoodIn wsL_wave wsX9_wave := goodIn_ca (goodIn_r _ [6, 7, 8, 9, 10, 11, 5, 12, 13, 14, 15, 16, 17, 18, 19, 20, 21, 22, 23, 24, 25, 26, 27, 28, 29, 30, 31, 32, 33, 34, 35, 36, 37, 38, 39, 40, 41, 42, 43, 44, 45, 46, 47, 48, 49, 50, 51, 52, 53, 54, 55, 56, 57, 58, 59, 60, 61, 62, 63, 64, 65, 66, 67, 68, 69, 70, 71, 72, 73, 74, 75, 76, 77, 78, 79, 80, 81, 82, 83, 84, 85, 86] (by decide +kernel) (by decide +kernel)) (goodIn_sub (fun _ h => List.mem_cons_of_mem _ (List.mem_append_right _ h)) (by decide +kernel))
set_option maxRecDepth 20000 in
theorem gL_wave_X9_wave : GoodIn wsL_wave (wsV RL 97 RX9 yX9_wave wsX9_wave) := goodIn_app (goodIn_of _ (by decide +kernel)) ggL_wave_X9_wave
theorem dL_wave_0 : decode cL_wave 0 = .ok (.aload_n 0, 1) := by decide +kernel
theorem dL_wave_1 : decode cL_wave 1 = .ok (.iload_n 1, 1) := by decide +kernel
theorem dL_wave_2 : decode cL_wave 2 = .ok (.invokevirtual 97, 3) := by decide +kernel
theorem dL_wave_5 : decode cL_wave 5 = .ok (.ireturn, 1) := by decide +kernel
theorem dL_wave_6 : decode cL_wave 6 = .ok (.astore_n 2, 1) := by decide +kernel
theorem dL_wave_7 : decode cL_wave 7 = .ok (.bipush (-101), 2) := by decide +kernel
theorem dL_wave_9 : decode cL_wave 9 = .ok (.ireturn, 1) := by decide +kernel
set_option maxRecDepth 20000 in
theorem ggL_dismiss_X9_dismiss : GoodIn wsL_dismiss wsX9_dismiss := goodIn_ca (goodIn_r _ [6, 7, 8, 9, 10, 11, 5, 12, 13, 14, 15, 16, 17, 18, 19, 20, 21, 22, 23, 24, 25, 26, 27, 28, 29, 30, 31, 32, 33, 34, 35, 36, 37, 38, 39, 40, 41, 42, 43, 44, 45, 46, 47, 48, 49, 50, 51, 52, 53, 54, 55, 56, 57, 58, 59, 60, 61, 62, 63, 64, 65, 66, 67, 68, 69, 70, 71, 72, 73, 74, 75, 76, 77, 78, 79, 80, 81, 82, 83, 84, 85, 86, 87, 88, 89, 90, 91] (by decide +kernel) (by decide +kernel)) (goodIn_sub (fun _ h => List.mem_cons_of_mem _ (List.mem_append_right _ h)) (by decide +kernel))
set_option maxRecDepth 20000 in
theorem gL_dismiss_X9_dismiss : GoodIn wsL_dismiss (wsV RL 100 RX9 yX9_dismiss wsX9_dismiss) := goodIn_app (goodIn_of _ (by decide +kernel)) ggL_dismiss_X9_dismiss
theorem dL_dismiss_0 : decode cL_dismiss 0 = .ok (.aload_n 0, 1) := by decide +kernel
theorem dL_dismiss_1 : decode cL_dismiss 1 = .ok (.iload_n 1, 1) := by decide +kernel
theorem dL_dismiss_2 : decode cL_dismiss 2 = .ok (.invokevirtual 100, 3) := by decide +kernel
theorem dL_dismiss_5 : decode cL_dismiss 5 = .ok (.ireturn, 1) := by decide +kernel
theorem dL_dismiss_6 : decode cL_dismiss 6 = .ok (.astore_n 2, 1) := by decide +kernel
theorem dL_dismiss_7 : decode cL_dismiss 7 = .ok (.bipush (-101), 2) := by decide +kernel
theorem dL_dismiss_9 : decode cL_dismiss 9 = .ok (.ireturn, 1) := by decide +kernel
set_option maxRecDepth 20000 in
theorem ggL_unload_X9_unload : GoodIn wsL_unload wsX9_unload := goodIn_ca (goodIn_r _ [6, 7, 8, 9, 10, 11, 5, 12, 13, 14, 15, 16, 17, 18, 19, 20, 21, 22, 23, 24, 25, 26, 27, 28, 29, 30, 31, 32, 33, 34, 35, 36, 37, 38, 39, 40, 41, 42, 43, 44, 45, 46, 47, 48, 49, 50, 51, 52, 53, 54, 55, 56, 57, 58, 59, 60, 61, 62, 63, 64, 65, 66, 67, 68, 69, 70, 71, 72, 73, 74, 75, 76, 77, 78, 79, 80, 81, 82, 83, 84, 85, 86, 87, 88, 89, 90, 91, 92, 93, 94, 95, 96, 97, 98, 99, 100, 101, 102, 103, 104, 105, 106, 107, 108, 109, 110, 111, 112, 113, 114, 115, 116, 117, 118, 119, 120, 121, 122, 123, 124, 125, 126, 127, 128, 129, 130, 131] (by decide +kernel) (by decide +kernel)) (goodIn_sub (fun _ h => List.mem_cons_of_mem _ (List.mem_append_right _ h)) (by decide +kernel))
set_option maxRecDepth 20000 in
theorem gL_unload_X9_unload : GoodIn wsL_unload (wsV RL 103 RX9 yX9_unload wsX9_unload) := goodIn_app (goodIn_of _ (by decide +kernel)) ggL_unload_X9_unload
theorem dL_unload_0 : decode cL_unload 0 = .ok (.aload_n 0, 1) := by decide +kernel
theorem dL_unload_1 : decode cL_unload 1 = .ok (.iload_n 1, 1) := by decide +kernel
theorem dL_unload_2 : decode cL_unload 2 = .ok (.invokevirtual 103, 3) := by decide +kernel
theorem dL_unload_5 : decode cL_unload 5 = .ok (.ireturn, 1) := by decide +kernel
theorem dL_unload_6 : decode cL_unload 6 = .ok (.astore_n 2, 1) := by decide +kernel
theorem dL_unload_7 : decode cL_unload 7 = .ok (.bipush (-101), 2) := by decide +kernel
theorem dL_unload_9 : decode cL_unload 9 = .ok (.ireturn, 1) := by decide +kernel
set_option maxRecDepth 20000 in
theorem ggL_crank_X9_crank : GoodIn wsL_crank wsX9_crank := goodIn_ca (goodIn_r _ [6, 7, 8, 9, 10, 11, 5, 12, 13, 14, 15, 16, 17, 18, 19, 20, 21, 22, 23, 24, 25, 26, 27, 28, 29, 30, 31, 32, 33, 34, 35, 36, 37, 38, 39, 40, 41, 42, 43, 44, 45, 46, 47, 48, 49, 50, 51, 52, 53, 54, 55, 56, 57, 58, 59, 60, 61, 62, 63, 64, 65, 66, 67, 68, 69, 70, 71, 72, 73, 74, 75, 76, 77, 78, 79, 80, 81, 82, 83, 84, 85, 86] (by decide +kernel) (by decide +kernel)) (goodIn_sub (fun _ h => List.mem_cons_of_mem _ (List.mem_append_right _ h)) (by decide +kernel))
set_option maxRecDepth 20000 in
theorem gL_crank_X9_crank : GoodIn wsL_crank (wsV RL 106 RX9 yX9_crank wsX9_crank) := goodIn_app (goodIn_of _ (by decide +kernel)) ggL_crank_X9_crank
theorem dL_crank_0 : decode cL_crank 0 = .ok (.aload_n 0, 1) := by decide +kernel
theorem dL_crank_1 : decode cL_crank 1 = .ok (.iload_n 1, 1) := by decide +kernel
theorem dL_crank_2 : decode cL_crank 2 = .ok (.invokevirtual 106, 3) := by decide +kernel
theorem dL_crank_5 : decode cL_crank 5 = .ok (.ireturn, 1) := by decide +kernel
theorem dL_crank_6 : decode cL_crank 6 = .ok (.astore_n 2, 1) := by decide +kernel
theorem dL_crank_7 : decode cL_crank 7 = .ok (.bipush (-102), 2) := by decide +kernel
theorem dL_crank_9 : decode cL_crank 9 = .ok (.ireturn, 1) := by decide +kernel
set_option maxRecDepth 20000 in
theorem ggL_save_X9_save : GoodIn wsL_save wsX9_save := goodIn_ca (goodIn_r _ [6, 7, 8, 9, 10, 11, 12, 13, 14, 15, 16, 17, 18, 19, 20, 21, 22, 23, 24, 25, 26, 27, 28, 29, 30, 31, 32, 33, 34, 35, 36, 37, 38, 39, 40, 41, 42, 43, 44, 45, 46, 47, 48, 49, 50, 51, 52, 53, 54, 55] (by decide +kernel) (by decide +kernel)) (goodIn_sub (fun _ h => List.mem_cons_of_mem _ (List.mem_append_right _ h)) (by decide +kernel))
set_option maxRecDepth 20000 in
theorem gL_save_X9_save : GoodIn wsL_save (wsV RL 109 RX9 yX9_save wsX9_save) := goodIn_app (goodIn_of _ (by decide +kernel)) ggL_save_X9_save
theorem dL_save_0 : decode cL_save 0 = .ok (.aload_n 0, 1) := by decide +kernel
theorem dL_save_1 : decode cL_save 1 = .ok (.iload_n 1, 1) := by decide +kernel
theorem dL_save_2 : decode cL_save 2 = .ok (.invokevirtual 109, 3) := by decide +kernel
theorem dL_save_5 : decode cL_save 5 = .ok (.iconst 0, 1) := by decide +kernel
theorem dL_save_6 : decode cL_save 6 = .ok (.ireturn, 1) := by decide +kernel
theorem dL_save_7 : decode cL_save 7 = .ok (.astore_n 2, 1) := by decide +kernel
theorem dL_save_8 : decode cL_save 8 = .ok (.bipush (-102), 2) := by decide +kernel
theorem dL_save_10 : decode cL_save 10 = .ok (.ireturn, 1) := by decide +kernel
set_option maxRecDepth 20000 in
theorem ggL_restore_X9_restore : GoodIn wsL_restore wsX9_restore := goodIn_ca (goodIn_ca (goodIn_r _ [7, 8, 9, 10, 11, 12, 13, 14, 15, 16, 17, 18, 19, 20, 21, 22, 23, 24, 25, 26, 27, 28, 29, 30, 31, 32, 33, 34, 35, 36, 37, 38, 39, 40, 41, 42, 43, 44, 45, 46, 47, 48, 49, 50, 51, 52, 53, 54, 55, 56, 57, 58, 59, 60, 61, 62, 63, 64, 65, 66, 67, 68] (by decide +kernel) (by decide +kernel)) (goodIn_sub (fun _ h => List.mem_cons_of_mem _ (List.mem_append_left _ (List.mem_append_right _ h))) (by decide +kernel))) (goodIn_sub (fun _ h => List.mem_cons_of_mem _ (List.mem_append_right _ h)) (by decide +kernel))
set_option maxRecDepth 20000 in
theorem gL_restore_X9_restore : GoodIn wsL_restore (wsV RL 113 RX9 yX9_restore wsX9_restore) := goodIn_app (goodIn_of _ (by decide +kernel)) ggL_restore_X9_restore
theorem dL_restore_0 : decode cL_restore 0 = .ok (.aload_n 0, 1) := by decide +kernel
theorem dL_restore_1 : decode cL_restore 1 = .ok (.iload_n 1, 1) := by decide +kernel
theorem dL_restore_2 : decode cL_restore 2 = .ok (.invokevirtual 113, 3) := by decide +kernel
theorem dL_restore_5 : decode cL_restore 5 = .ok (.iconst 0, 1) := by decide +kernel
theorem dL_restore_6 : decode cL_restore 6 = .ok (.ireturn, 1) := by decide +kernel
theorem dL_restore_7 : decode cL_restore 7 = .ok (.astore_n 2, 1) := by decide +kernel
theorem dL_restore_8 : decode cL_restore 8 = .ok (.bipush (-102), 2) := by decide +kernel
theorem dL_restore_10 : decode cL_restore 10 = .ok (.ireturn, 1) := by decide +kernel
theorem dL_restore_11 : decode cL_restore 11 = .ok (.astore_n 2, 1) := by decide +kernel
theorem dL_restore_12 : decode cL_restore 12 = .ok (.bipush (-103), 2) := by decide +kernel
theorem dL_restore_14 : decode cL_restore 14 = .ok (.ireturn, 1) := by decide +kernel
set_option maxRecDepth 20000 in
theorem ggL_appendText_X9_appendText : GoodIn wsL_appendText wsX9_appendText := goodIn_ca (goodIn_r _ [6, 7, 8, 9, 10, 11, 12, 13, 14, 15, 16, 17, 18, 19, 20, 21, 22, 23, 24, 25, 26, 27, 28, 29, 30, 31, 32, 33, 34, 35, 36, 37] (by decide +kernel) (by decide +kernel)) (goodIn_sub (fun _ h => List.mem_cons_of_mem _ (List.mem_append_right _ h)) (by decide +kernel))
set_option maxRecDepth 20000 in
theorem gL_appendText_X9_appendText : GoodIn wsL_appendText (wsV RL 118 RX9 yX9_appendText wsX9_appendText) := goodIn_app (goodIn_of _ (by decide +kernel)) ggL_appendText_X9_appendText
theorem dL_appendText_0 : decode cL_appendText 0 = .ok (.aload_n 0, 1) := by decide +kernel
theorem dL_appendText_1 : decode cL_appendText 1 = .ok (.iload_n 1, 1) := by decide +kernel
theorem dL_appendText_2 : decode cL_appendText 2 = .ok (.invokevirtual 118, 3) := by decide +kernel
theorem dL_appendText_5 : decode cL_appendText 5 = .ok (.ireturn, 1) := by decide +kernel
theorem dL_appendText_6 : decode cL_appendText 6 = .ok (.astore_n 2, 1) := by decide +kernel
theorem dL_appendText_7 : decode cL_appendText 7 = .ok (.bipush (-103), 2) := by decide +kernel
theorem dL_appendText_9 : decode cL_appendText 9 = .ok (.ireturn, 1) := by decide +kernel
set_option maxRecDepth 20000 in
theorem ggL_truncateText_X9_truncateText : GoodIn wsL_truncateText wsX9_truncateText := goodIn_ca (goodIn_r _ [6, 7, 8, 9, 10, 11, 12, 13, 14, 15, 16, 17, 18, 19, 20, 21, 22, 23, 24, 25, 26, 27, 28, 29, 30] (by decide +kernel) (by decide +kernel)) (goodIn_sub (fun _ h => List.mem_cons_of_mem _ (List.mem_append_right _ h)) (by decide +kernel))
set_option maxRecDepth 20000 in
theorem gL_truncateText_X9_truncateText : GoodIn wsL_truncateText (wsV RL 121 RX9 yX9_truncateText wsX9_truncateText) := goodIn_app (goodIn_of _ (by decide +kernel)) ggL_truncateText_X9_truncateText
theorem dL_truncateText_0 : decode cL_truncateText 0 = .ok (.aload_n 0, 1) := by decide +kernel
theorem dL_truncateText_1 : decode cL_truncateText 1 = .ok (.iload_n 1, 1) := by decide +kernel
theorem dL_truncateText_2 : decode cL_truncateText 2 = .ok (.invokevirtual 121, 3) := by decide +kernel
theorem dL_truncateText_5 : decode cL_truncateText 5 = .ok (.ireturn, 1) := by decide +kernel
theorem dL_truncateText_6 : decode cL_truncateText 6 = .ok (.astore_n 2, 1) := by decide +kernel
theorem dL_truncateText_7 : decode cL_truncateText 7 = .ok (.bipush (-102), 2) := by decide +kernel
theorem dL_truncateText_9 : decode cL_truncateText 9 = .ok (.ireturn, 1) := by decide +kernel
set_option maxRecDepth 20000 in
theorem ggL_lays_L_truncateText : GoodIn wsL_lays wsL_truncateText := goodIn_ca (goodIn_r _ [5, 6, 7, 8, 9, 10, 11, 12, 13, 14, 15, 86, 87, 88, 89, 90, 91, 92, 93, 94, 95, 96, 97, 98, 99, 100, 101, 102, 103, 104, 105] (by decide +kernel) (by decide +kernel)) (goodIn_sub (fun _ h => List.mem_cons_of_mem _ (List.mem_append_left _ (List.mem_append_right _ h))) (by decide +kernel))
set_option maxRecDepth 20000 in
theorem gL_lays_L_truncateText : GoodIn wsL_lays (va_wsS RL 124 yL_truncateText wsL_truncateText) := goodIn_app (goodIn_of _ (by decide +kernel)) ggL_lays_L_truncateText
set_option maxRecDepth 20000 in
theorem ggL_lays_J0_length_8abf5 : GoodIn wsL_lays wsJ0_length_8abf5 := goodIn_r _ [20, 21, 22, 23, 24, 19, 25, 26, 27, 106, 107, 108, 109] (by decide +kernel) (by decide +kernel)
set_option maxRecDepth 20000 in
theorem gL_lays_J0_length_8abf5 : GoodIn wsL_lays (wsV RL 127 RJ0 yJ0_length_8abf5 wsJ0_length_8abf5) := goodIn_app (goodIn_of _ (by decide +kernel)) ggL_lays_J0_length_8abf5
set_option maxRecDepth 20000 in
theorem ggL_lays_J0_charAt_5068e : GoodIn wsL_lays wsJ0_charAt_5068e := goodIn_r _ [31, 21, 32, 33, 34, 19, 35, 26, 27, 36, 37, 38, 39, 40, 41, 42, 43, 44, 45, 46, 47, 48, 49, 50, 51, 52, 53, 54, 55, 56, 57, 58, 59, 60, 61, 62, 63, 64, 106, 107, 108, 109] (by decide +kernel) (by decide +kernel)
set_option maxRecDepth 20000 in
theorem gL_lays_J0_charAt_5068e : GoodIn wsL_lays (wsV RL 133 RJ0 yJ0_charAt_5068e wsJ0_charAt_5068e) := goodIn_app (goodIn_of _ (by decide +kernel)) ggL_lays_J0_charAt_5068e
set_option maxRecDepth 20000 in
theorem ggL_lays_L_appendText : GoodIn wsL_lays wsL_appendText := goodIn_ca (goodIn_r _ [67, 68, 69, 70, 71, 10, 72, 73, 74, 14, 15, 75, 76, 77, 78, 79, 80, 81, 86, 87, 88, 89, 90, 91, 92, 93, 94, 95, 96, 97, 98, 99, 100, 101, 102, 103, 104, 105] (by decide +kernel) (by decide +kernel)) (goodIn_sub (fun _ h => List.mem_cons_of_mem _ (List.mem_append_right _ h)) (by decide +kernel))
set_option maxRecDepth 20000 in
theorem gL_lays_L_appendText : GoodIn wsL_lays (va_wsS RL 137 yL_appendText wsL_appendText) := goodIn_app (goodIn_of _ (by decide +kernel)) ggL_lays_L_appendText
theorem dL_lays_0 : decode cL_lays 0 = .ok (.aload_n 0, 1) := by decide +kernel
theorem dL_lays_1 : decode cL_lays 1 = .ok (.getfield 10, 3) := by decide +kernel
theorem dL_lays_4 : decode cL_lays 4 = .ok (.iconst 0, 1) := by decide +kernel
theorem dL_lays_5 : decode cL_lays 5 = .ok (.invokestatic 124, 3) := by decide +kernel
theorem dL_lays_8 : decode cL_lays 8 = .ok (.ifCond .eq 5, 3) := by decide +kernel
theorem dL_lays_11 : decode cL_lays 11 = .ok (.iconst 0, 1) := by decide +kernel
theorem dL_lays_12 : decode cL_lays 12 = .ok (.ireturn, 1) := by decide +kernel
theorem dL_lays_13 : decode cL_lays 13 = .ok (.iconst 0, 1) := by decide +kernel
theorem dL_lays_14 : decode cL_lays 14 = .ok (.istore_n 2, 1) := by decide +kernel
theorem dL_lays_15 : decode cL_lays 15 = .ok (.iload_n 2, 1) := by decide +kernel
theorem dL_lays_16 : decode cL_lays 16 = .ok (.aload_n 1, 1) := by decide +kernel
theorem dL_lays_17 : decode cL_lays 17 = .ok (.invokevirtual 127, 3) := by decide +kernel
theorem dL_lays_20 : decode cL_lays 20 = .ok (.if_icmp .ge 75, 3) := by decide +kernel
theorem dL_lays_23 : decode cL_lays 23 = .ok (.iconst 0, 1) := by decide +kernel
theorem dL_lays_24 : decode cL_lays 24 = .ok (.istore_n 3, 1) := by decide +kernel
theorem dL_lays_25 : decode cL_lays 25 = .ok (.iconst 0, 1) := by decide +kernel
theorem dL_lays_26 : decode cL_lays 26 = .ok (.istore 4, 2) := by decide +kernel
theorem dL_lays_28 : decode cL_lays 28 = .ok (.iload 4, 2) := by decide +kernel
theorem dL_lays_30 : decode cL_lays 30 = .ok (.iconst 4, 1) := by decide +kernel
theorem dL_lays_31 : decode cL_lays 31 = .ok (.if_icmp .ge 42, 3) := by decide +kernel
theorem dL_lays_34 : decode cL_lays 34 = .ok (.iload_n 3, 1) := by decide +kernel
theorem dL_lays_35 : decode cL_lays 35 = .ok (.bipush 8, 2) := by decide +kernel
theorem dL_lays_37 : decode cL_lays 37 = .ok (.ishl, 1) := by decide +kernel
theorem dL_lays_38 : decode cL_lays 38 = .ok (.iload_n 2, 1) := by decide +kernel
theorem dL_lays_39 : decode cL_lays 39 = .ok (.iload 4, 2) := by decide +kernel
theorem dL_lays_41 : decode cL_lays 41 = .ok (.iadd, 1) := by decide +kernel
theorem dL_lays_42 : decode cL_lays 42 = .ok (.aload_n 1, 1) := by decide +kernel
theorem dL_lays_43 : decode cL_lays 43 = .ok (.invokevirtual 127, 3) := by decide +kernel
theorem dL_lays_46 : decode cL_lays 46 = .ok (.if_icmp .ge 18, 3) := by decide +kernel
theorem dL_lays_49 : decode cL_lays 49 = .ok (.aload_n 1, 1) := by decide +kernel
theorem dL_lays_50 : decode cL_lays 50 = .ok (.iload_n 2, 1) := by decide +kernel
theorem dL_lays_51 : decode cL_lays 51 = .ok (.iload 4, 2) := by decide +kernel
theorem dL_lays_53 : decode cL_lays 53 = .ok (.iadd, 1) := by decide +kernel
theorem dL_lays_54 : decode cL_lays 54 = .ok (.invokevirtual 133, 3) := by decide +kernel
theorem dL_lays_57 : decode cL_lays 57 = .ok (.sipush 255, 3) := by decide +kernel
theorem dL_lays_60 : decode cL_lays 60 = .ok (.iand, 1) := by decide +kernel
theorem dL_lays_61 : decode cL_lays 61 = .ok (.goto 4, 3) := by decide +kernel
theorem dL_lays_64 : decode cL_lays 64 = .ok (.iconst 0, 1) := by decide +kernel
theorem dL_lays_65 : decode cL_lays 65 = .ok (.ior, 1) := by decide +kernel
theorem dL_lays_66 : decode cL_lays 66 = .ok (.istore_n 3, 1) := by decide +kernel
theorem dL_lays_67 : decode cL_lays 67 = .ok (.iinc 4 1, 3) := by decide +kernel
theorem dL_lays_70 : decode cL_lays 70 = .ok (.goto (-42), 3) := by decide +kernel
theorem dL_lays_73 : decode cL_lays 73 = .ok (.aload_n 0, 1) := by decide +kernel
theorem dL_lays_74 : decode cL_lays 74 = .ok (.getfield 10, 3) := by decide +kernel
theorem dL_lays_77 : decode cL_lays 77 = .ok (.iload_n 3, 1) := by decide +kernel
theorem dL_lays_78 : decode cL_lays 78 = .ok (.invokestatic 137, 3) := by decide +kernel
theorem dL_lays_81 : decode cL_lays 81 = .ok (.iload_n 2, 1) := by decide +kernel
theorem dL_lays_82 : decode cL_lays 82 = .ok (.iconst 4, 1) := by decide +kernel
theorem dL_lays_83 : decode cL_lays 83 = .ok (.iadd, 1) := by decide +kernel
theorem dL_lays_84 : decode cL_lays 84 = .ok (.if_icmp .eq 5, 3) := by decide +kernel
theorem dL_lays_87 : decode cL_lays 87 = .ok (.iconst 0, 1) := by decide +kernel
theorem dL_lays_88 : decode cL_lays 88 = .ok (.ireturn, 1) := by decide +kernel
theorem dL_lays_89 : decode cL_lays 89 = .ok (.iinc 2 4, 3) := by decide +kernel
theorem dL_lays_92 : decode cL_lays 92 = .ok (.goto (-77), 3) := by decide +kernel
theorem dL_lays_95 : decode cL_lays 95 = .ok (.aload_n 0, 1) := by decide +kernel
theorem dL_lays_96 : decode cL_lays 96 = .ok (.getfield 10, 3) := by decide +kernel
theorem dL_lays_99 : decode cL_lays 99 = .ok (.aload_n 1, 1) := by decide +kernel
theorem dL_lays_100 : decode cL_lays 100 = .ok (.invokevirtual 127, 3) := by decide +kernel
theorem dL_lays_103 : decode cL_lays 103 = .ok (.invokestatic 124, 3) := by decide +kernel
theorem dL_lays_106 : decode cL_lays 106 = .ok (.aload_n 1, 1) := by decide +kernel
theorem dL_lays_107 : decode cL_lays 107 = .ok (.invokevirtual 127, 3) := by decide +kernel
theorem dL_lays_110 : decode cL_lays 110 = .ok (.if_icmp .ne 7, 3) := by decide +kernel
theorem dL_lays_113 : decode cL_lays 113 = .ok (.iconst 1, 1) := by decide +kernel
theorem dL_lays_114 : decode cL_lays 114 = .ok (.goto 4, 3) := by decide +kernel
theorem dL_lays_117 : decode cL_lays 117 = .ok (.iconst 0, 1) := by decide +kernel
theorem dL_lays_118 : decode cL_lays 118 = .ok (.ireturn, 1) := by decide +kernel
set_option maxRecDepth 20000 in
theorem ggL_loads_L_draw : GoodIn wsL_loads wsL_draw := goodIn_r _ [7, 8, 9, 10, 11, 12, 13, 14, 15, 16, 17, 18, 6, 19, 20, 21, 529, 530, 531, 532] (by decide +kernel) (by decide +kernel)
set_option maxRecDepth 20000 in
theorem gL_loads_L_draw : GoodIn wsL_loads (wsV RL 139 RL yL_draw wsL_draw) := goodIn_app (goodIn_of _ (by decide +kernel)) ggL_loads_L_draw
set_option maxRecDepth 20000 in
theorem ggL_loads_J4_setLength_d00df : GoodIn wsL_loads wsJ4_setLength_d00df := goodIn_r _ [26, 27, 28, 29, 30, 31, 32, 33, 34, 35, 36, 37, 38, 39, 40, 41, 42, 43, 44, 45, 46, 47, 48, 49, 50, 51, 52, 53, 54, 55, 11, 12, 13, 56, 57, 58, 59, 60, 61, 62, 63, 64, 65, 66, 67, 68, 69, 70, 71, 72, 73, 74, 75, 76, 77, 78, 79, 80, 81, 82, 83, 84, 85, 86, 87, 88, 89, 90, 91, 92, 93, 94, 95, 25, 96, 97, 98, 99, 100, 101, 102, 103, 533, 534, 535, 536, 537, 538, 539, 540, 541, 542, 543, 544, 545, 546, 547, 548] (by decide +kernel) (by decide +kernel)
set_option maxRecDepth 20000 in
theorem gL_loads_J4_setLength_d00df : GoodIn wsL_loads (wsV RL 142 RJ4 yJ4_setLength_d00df wsJ4_setLength_d00df) := goodIn_app (goodIn_of _ (by decide +kernel)) ggL_loads_J4_setLength_d00df
set_option maxRecDepth 20000 in
theorem ggL_loads_J4_append_15ec4 : GoodIn wsL_loads wsJ4_append_15ec4 := goodIn_r _ [107, 108, 109, 29, 110, 31, 111, 36, 112, 113, 114, 115, 116, 37, 39, 40, 41, 42, 43, 44, 45, 46, 47, 48, 49, 50, 51, 52, 53, 54, 55, 11, 12, 13, 56, 57, 58, 59, 60, 61, 62, 63, 64, 65, 66, 67, 68, 69, 70, 71, 72, 73, 74, 75, 76, 77, 78, 79, 80, 81, 82, 83, 117, 118, 101, 119, 120, 121, 122, 123, 124, 125, 126, 127, 128, 129, 130, 131, 132, 133, 134, 135, 136, 137, 138, 139, 140, 141, 142, 143, 144, 145, 146, 147, 148, 149, 150, 151, 152, 153, 154, 155, 156, 157, 158, 159, 160, 161, 162, 163, 164, 165, 166, 167, 168, 169, 170, 171, 172, 173, 174, 175, 176, 86, 177, 178, 179, 180, 181, 182, 183, 184, 185, 186, 187, 188, 189, 190, 191, 192, 193, 194, 195, 539, 540, 541, 542, 549, 550, 551, 552] (by decide +kernel) (by decide +kernel)
set_option maxRecDepth 20000 in
theorem gL_loads_J4_append_15ec4 : GoodIn wsL_loads (wsV RL 147 RJ4 yJ4_append_15ec4 wsJ4_append_15ec4) := goodIn_app (goodIn_of _ (by decide +kernel)) ggL_loads_J4_append_15ec4
set_option maxRecDepth 20000 in
theorem ggL_loads_J4_append_bf812 : GoodIn wsL_loads wsJ4_append_bf812 := goodIn_r _ [199, 200, 201, 29, 202, 31, 203, 36, 37, 204, 205, 206, 207, 39, 40, 41, 42, 43, 44, 45, 46, 47, 48, 49, 50, 51, 52, 53, 54, 55, 11, 12, 13, 56, 57, 58, 59, 60, 61, 62, 63, 64, 65, 66, 67, 68, 69, 70, 71, 72, 73, 74, 75, 76, 77, 78, 79, 80, 81, 82, 83, 208, 209, 210, 211, 212, 213, 214, 101, 215, 120, 121, 122, 123, 124, 125, 126, 127, 128, 129, 130, 131, 132, 133, 134, 135, 216, 217, 218, 219, 220, 136, 137, 138, 139, 140, 539, 540, 541, 542] (by decide +kernel) (by decide +kernel)
set_option maxRecDepth 20000 in
theorem gL_loads_J4_append_bf812 : GoodIn wsL_loads (wsV RL 151 RJ4 yJ4_append_bf812 wsJ4_append_bf812) := goodIn_app (goodIn_of _ (by decide +kernel)) ggL_loads_J4_append_bf812
set_option maxRecDepth 20000 in
theorem ggL_loads_J4_append_cf468 : GoodIn wsL_loads wsJ4_append_cf468 := goodIn_r _ [224, 225, 226, 29, 227, 31, 228, 36, 37, 39, 40, 41, 42, 43, 44, 45, 46, 47, 48, 49, 50, 51, 52, 53, 54, 55, 11, 12, 13, 56, 57, 58, 59, 60, 61, 62, 63, 64, 65, 66, 67, 68, 69, 70, 71, 72, 73, 74, 75, 76, 77, 78, 79, 80, 81, 82, 83, 229, 230, 86, 231, 163, 164, 165, 166, 167, 168, 169, 101, 170, 171, 172, 173, 174, 175, 176, 177, 178, 179, 180, 181, 182, 183, 124, 125, 126, 184, 185, 129, 186, 131, 187, 188, 134, 189, 136, 137, 138, 120, 139, 140, 232, 233, 234, 235, 236, 237, 238, 239, 240, 241, 242, 243, 539, 540, 541, 542] (by decide +kernel) (by decide +kernel)
set_option maxRecDepth 20000 in
theorem gL_loads_J4_append_cf468 : GoodIn wsL_loads (wsV RL 154 RJ4 yJ4_append_cf468 wsJ4_append_cf468) := goodIn_app (goodIn_of _ (by decide +kernel)) ggL_loads_J4_append_cf468
set_option maxRecDepth 20000 in
theorem ggL_loads_J4_toString_0e30d : GoodIn wsL_loads wsJ4_toString_0e30d := goodIn_r _ [247, 248, 249, 129, 250, 251, 252, 253, 254, 255, 256, 257, 258, 151, 145, 150, 259, 260, 261, 262, 263, 31, 264, 37, 265, 266, 267, 268, 269, 25, 270, 271, 29, 272, 273, 36, 274, 79, 80, 81, 82, 83, 44, 275, 276, 62, 277, 64, 65, 66, 67, 68, 69, 278, 279, 280, 70, 71, 72, 12, 73, 74, 75, 76, 77, 281, 282, 283, 94, 95, 284, 285, 101, 286, 287, 288, 289, 181, 182, 183, 124, 125, 126, 184, 185, 186, 131, 187, 188, 134, 189, 290, 291, 292, 120, 139, 140, 171, 172, 173, 174, 293, 294, 295, 296, 549, 550, 551, 552, 539, 540, 541, 542] (by decide +kernel) (by decide +kernel)
set_option maxRecDepth 20000 in
theorem gL_loads_J4_toString_0e30d : GoodIn wsL_loads (wsV RL 179 RJ4 yJ4_toString_0e30d wsJ4_toString_0e30d) := goodIn_app (goodIn_of _ (by decide +kernel)) ggL_loads_J4_toString_0e30d
set_option maxRecDepth 20000 in
theorem ggL_loads_L_lays : GoodIn wsL_loads wsL_lays := goodIn_ca (goodIn_ca (goodIn_r _ [300, 2, 301, 302, 6, 303, 304, 305, 306, 307, 308, 309, 310, 311, 312, 313, 314, 142, 143, 129, 144, 145, 146, 147, 148, 149, 150, 151, 315, 316, 317, 318, 319, 320, 321, 322, 323, 324, 86, 325, 326, 239, 240, 131, 241, 242, 134, 243, 327, 328, 101, 329, 235, 236, 237, 124, 125, 126, 238, 290, 291, 292, 120, 139, 140, 330, 331, 332, 333, 334, 335, 336, 337, 338, 339, 340, 341, 342, 343, 344, 345, 346, 529, 530, 531, 532, 553, 554, 555, 556, 557, 558, 559, 560, 561, 562, 563, 564, 565, 566, 567, 568, 569, 570, 571, 572, 549, 550, 551, 552] (by decide +kernel) (by decide +kernel)) (goodIn_sub (fun _ h => List.mem_cons_of_mem _ (List.mem_append_left _ (List.mem_append_right _ h))) (by decide +kernel))) (goodIn_sub (fun _ h => List.mem_cons_of_mem _ (List.mem_append_right _ h)) (by decide +kernel))
set_option maxRecDepth 20000 in
theorem gL_loads_L_lays : GoodIn wsL_loads (wsV RL 183 RL yL_lays wsL_lays) := goodIn_app (goodIn_of _ (by decide +kernel)) ggL_loads_L_lays
set_option maxRecDepth 20000 in
theorem ggL_loads_X9_load : GoodIn wsL_loads wsX9_load := goodIn_r _ [350, 312, 351, 313, 352, 353, 354, 355, 356, 357, 343, 358, 359, 360, 361, 362, 363, 364, 365, 366, 367, 368, 369, 370, 371, 372, 373, 374, 375, 376, 377, 378, 379, 380, 381, 382, 383, 384, 385, 386, 387, 388, 389, 390, 391, 345, 392, 393, 394, 395, 396, 346, 397, 398, 399, 400, 401, 402, 403, 404, 405, 406, 407, 408, 409, 410, 142, 143, 129, 144, 145, 146, 147, 148, 149, 150, 151, 411, 308, 412, 413, 316, 317, 318, 319, 320, 321, 322, 323, 324, 86, 325, 326, 239, 240, 131, 241, 242, 134, 243, 327, 328, 101, 329, 235, 236, 237, 124, 125, 126, 238, 290, 291, 292, 120, 139, 140, 414, 415, 416, 417, 418, 419, 420, 421, 422, 423, 424, 425, 426, 427, 428, 429, 430, 431, 432, 433, 434, 435, 436, 437, 438, 439, 440, 441, 442, 443, 444, 445, 446, 447, 448, 449, 450, 451, 452, 453, 454, 455, 456, 457, 458, 459, 460, 461, 462, 463, 464, 465, 466, 467, 468, 469, 470, 471, 472, 473, 474, 475, 476, 477, 478, 479, 480, 481, 482, 483, 484, 485, 486, 487, 488, 489, 490, 491, 492, 493, 494, 495, 496, 75, 76, 77, 497, 498, 499, 500, 501, 502, 503, 504, 553, 554, 555, 556, 557, 558, 559, 560, 561, 562, 563, 564, 565, 566, 567, 568, 569, 570, 571, 572, 573, 574, 575, 576, 577, 578, 579, 580, 581, 582, 583, 584, 585, 549, 550, 551, 552, 586, 587, 588] (by decide +kernel) (by decide +kernel)
set_option maxRecDepth 20000 in
theorem gL_loads_X9_load : GoodIn wsL_loads (wsV RL 187 RX9 yX9_load wsX9_load) := goodIn_app (goodIn_of _ (by decide +kernel)) ggL_loads_X9_load
set_option maxRecDepth 20000 in
theorem ggL_loads_X9_lip : GoodIn wsL_loads wsX9_lip := goodIn_r _ [508, 352, 509, 553, 554, 555, 556, 557, 558, 559, 560, 561, 573, 574, 575, 576, 577, 578, 579, 580, 581, 582, 583, 584, 585] (by decide +kernel) (by decide +kernel)
set_option maxRecDepth 20000 in
theorem gL_loads_X9_lip : GoodIn wsL_loads (wsV RL 190 RX9 yX9_lip wsX9_lip) := goodIn_app (goodIn_of _ (by decide +kernel)) ggL_loads_X9_lip
set_option maxRecDepth 20000 in
theorem ggL_loads_X9_undo : GoodIn wsL_loads wsX9_undo := goodIn_r _ [513, 353, 352, 514, 515, 516, 502, 517, 504, 518, 519, 520, 493, 494, 366, 495, 368, 496, 75, 76, 77, 376, 381, 462, 457, 497, 369, 370, 371, 498, 483, 488, 489, 553, 554, 555, 556, 557, 558, 559, 560, 561, 586, 587, 588, 573, 574, 575, 576, 577, 578, 579, 580, 581, 582, 583, 584, 585] (by decide +kernel) (by decide +kernel)
set_option maxRecDepth 20000 in
theorem gL_loads_X9_undo : GoodIn wsL_loads (wsV RL 193 RX9 yX9_undo wsX9_undo) := goodIn_app (goodIn_of _ (by decide +kernel)) ggL_loads_X9_undo
set_option maxRecDepth 20000 in
theorem ggL_loads_L_count : GoodIn wsL_loads wsL_count := goodIn_ca (goodIn_r _ [523, 304, 524, 525, 526, 308, 527, 310, 311, 353, 528, 352, 354, 553, 554, 555, 556, 557, 558, 559, 560, 561, 586, 587, 588, 573, 574, 575, 576, 577, 578, 579, 580, 581, 582, 583, 584, 585] (by decide +kernel) (by decide +kernel)) (goodIn_sub (fun _ h => List.mem_cons_of_mem _ (List.mem_append_left _ (List.mem_append_right _ h))) (by decide +kernel))
set_option maxRecDepth 20000 in
theorem gL_loads_L_count : GoodIn wsL_loads (va_wsS RL 196 yL_count wsL_count) := goodIn_app (goodIn_of _ (by decide +kernel)) ggL_loads_L_count
theorem dL_loads_0 : decode cL_loads 0 = .ok (.aload_n 0, 1) := by decide +kernel
theorem dL_loads_1 : decode cL_loads 1 = .ok (.bipush 10, 2) := by decide +kernel
theorem dL_loads_3 : decode cL_loads 3 = .ok (.invokevirtual 139, 3) := by decide +kernel
theorem dL_loads_6 : decode cL_loads 6 = .ok (.istore_n 1, 1) := by decide +kernel
theorem dL_loads_7 : decode cL_loads 7 = .ok (.iconst 3, 1) := by decide +kernel
theorem dL_loads_8 : decode cL_loads 8 = .ok (.aload_n 0, 1) := by decide +kernel
theorem dL_loads_9 : decode cL_loads 9 = .ok (.bipush 6, 2) := by decide +kernel
theorem dL_loads_11 : decode cL_loads 11 = .ok (.invokevirtual 139, 3) := by decide +kernel
theorem dL_loads_14 : decode cL_loads 14 = .ok (.iadd, 1) := by decide +kernel
theorem dL_loads_15 : decode cL_loads 15 = .ok (.istore_n 2, 1) := by decide +kernel
theorem dL_loads_16 : decode cL_loads 16 = .ok (.aload_n 0, 1) := by decide +kernel
theorem dL_loads_17 : decode cL_loads 17 = .ok (.getfield 19, 3) := by decide +kernel
theorem dL_loads_20 : decode cL_loads 20 = .ok (.iconst 0, 1) := by decide +kernel
theorem dL_loads_21 : decode cL_loads 21 = .ok (.invokevirtual 142, 3) := by decide +kernel
theorem dL_loads_24 : decode cL_loads 24 = .ok (.aload_n 0, 1) := by decide +kernel
theorem dL_loads_25 : decode cL_loads 25 = .ok (.getfield 19, 3) := by decide +kernel
theorem dL_loads_28 : decode cL_loads 28 = .ok (.ldc 145, 2) := by decide +kernel
theorem dL_loads_30 : decode cL_loads 30 = .ok (.invokevirtual 147, 3) := by decide +kernel
theorem dL_loads_33 : decode cL_loads 33 = .ok (.iload_n 1, 1) := by decide +kernel
theorem dL_loads_34 : decode cL_loads 34 = .ok (.invokevirtual 151, 3) := by decide +kernel
theorem dL_loads_37 : decode cL_loads 37 = .ok (.bipush 32, 2) := by decide +kernel
theorem dL_loads_39 : decode cL_loads 39 = .ok (.invokevirtual 154, 3) := by decide +kernel
theorem dL_loads_42 : decode cL_loads 42 = .ok (.iload_n 1, 1) := by decide +kernel
theorem dL_loads_43 : decode cL_loads 43 = .ok (.aload_n 0, 1) := by decide +kernel
theorem dL_loads_44 : decode cL_loads 44 = .ok (.bipush 30, 2) := by decide +kernel
theorem dL_loads_46 : decode cL_loads 46 = .ok (.invokevirtual 139, 3) := by decide +kernel
theorem dL_loads_49 : decode cL_loads 49 = .ok (.iadd, 1) := by decide +kernel
theorem dL_loads_50 : decode cL_loads 50 = .ok (.invokevirtual 151, 3) := by decide +kernel
theorem dL_loads_53 : decode cL_loads 53 = .ok (.ldc 157, 2) := by decide +kernel
theorem dL_loads_55 : decode cL_loads 55 = .ok (.invokevirtual 147, 3) := by decide +kernel
theorem dL_loads_58 : decode cL_loads 58 = .ok (.iconst 2, 1) := by decide +kernel
theorem dL_loads_59 : decode cL_loads 59 = .ok (.aload_n 0, 1) := by decide +kernel
theorem dL_loads_60 : decode cL_loads 60 = .ok (.bipush 12, 2) := by decide +kernel
theorem dL_loads_62 : decode cL_loads 62 = .ok (.invokevirtual 139, 3) := by decide +kernel
theorem dL_loads_65 : decode cL_loads 65 = .ok (.iadd, 1) := by decide +kernel
theorem dL_loads_66 : decode cL_loads 66 = .ok (.invokevirtual 151, 3) := by decide +kernel
theorem dL_loads_69 : decode cL_loads 69 = .ok (.ldc 159, 2) := by decide +kernel
theorem dL_loads_71 : decode cL_loads 71 = .ok (.invokevirtual 147, 3) := by decide +kernel
theorem dL_loads_74 : decode cL_loads 74 = .ok (.aload_n 0, 1) := by decide +kernel
theorem dL_loads_75 : decode cL_loads 75 = .ok (.bipush 8, 2) := by decide +kernel
theorem dL_loads_77 : decode cL_loads 77 = .ok (.invokevirtual 139, 3) := by decide +kernel
theorem dL_loads_80 : decode cL_loads 80 = .ok (.invokevirtual 151, 3) := by decide +kernel
theorem dL_loads_83 : decode cL_loads 83 = .ok (.ldc 161, 2) := by decide +kernel
theorem dL_loads_85 : decode cL_loads 85 = .ok (.invokevirtual 147, 3) := by decide +kernel
theorem dL_loads_88 : decode cL_loads 88 = .ok (.iconst 5, 1) := by decide +kernel
theorem dL_loads_89 : decode cL_loads 89 = .ok (.aload_n 0, 1) := by decide +kernel
theorem dL_loads_90 : decode cL_loads 90 = .ok (.bipush 40, 2) := by decide +kernel
theorem dL_loads_92 : decode cL_loads 92 = .ok (.invokevirtual 139, 3) := by decide +kernel
theorem dL_loads_95 : decode cL_loads 95 = .ok (.iadd, 1) := by decide +kernel
theorem dL_loads_96 : decode cL_loads 96 = .ok (.invokevirtual 151, 3) := by decide +kernel
theorem dL_loads_99 : decode cL_loads 99 = .ok (.ldc 163, 2) := by decide +kernel
theorem dL_loads_101 : decode cL_loads 101 = .ok (.invokevirtual 147, 3) := by decide +kernel
theorem dL_loads_104 : decode cL_loads 104 = .ok (.iconst 3, 1) := by decide +kernel
theorem dL_loads_105 : decode cL_loads 105 = .ok (.aload_n 0, 1) := by decide +kernel
theorem dL_loads_106 : decode cL_loads 106 = .ok (.bipush 6, 2) := by decide +kernel
theorem dL_loads_108 : decode cL_loads 108 = .ok (.invokevirtual 139, 3) := by decide +kernel
theorem dL_loads_111 : decode cL_loads 111 = .ok (.iadd, 1) := by decide +kernel
theorem dL_loads_112 : decode cL_loads 112 = .ok (.invokevirtual 151, 3) := by decide +kernel
theorem dL_loads_115 : decode cL_loads 115 = .ok (.ldc 165, 2) := by decide +kernel
theorem dL_loads_117 : decode cL_loads 117 = .ok (.invokevirtual 147, 3) := by decide +kernel
theorem dL_loads_120 : decode cL_loads 120 = .ok (.sipush 150, 3) := by decide +kernel
theorem dL_loads_123 : decode cL_loads 123 = .ok (.aload_n 0, 1) := by decide +kernel
theorem dL_loads_124 : decode cL_loads 124 = .ok (.sipush 500, 3) := by decide +kernel
theorem dL_loads_127 : decode cL_loads 127 = .ok (.invokevirtual 139, 3) := by decide +kernel
theorem dL_loads_130 : decode cL_loads 130 = .ok (.iadd, 1) := by decide +kernel
theorem dL_loads_131 : decode cL_loads 131 = .ok (.invokevirtual 151, 3) := by decide +kernel
theorem dL_loads_134 : decode cL_loads 134 = .ok (.ldc 167, 2) := by decide +kernel
theorem dL_loads_136 : decode cL_loads 136 = .ok (.invokevirtual 147, 3) := by decide +kernel
theorem dL_loads_139 : decode cL_loads 139 = .ok (.bipush 40, 2) := by decide +kernel
theorem dL_loads_141 : decode cL_loads 141 = .ok (.aload_n 0, 1) := by decide +kernel
theorem dL_loads_142 : decode cL_loads 142 = .ok (.sipush 160, 3) := by decide +kernel
theorem dL_loads_145 : decode cL_loads 145 = .ok (.invokevirtual 139, 3) := by decide +kernel
theorem dL_loads_148 : decode cL_loads 148 = .ok (.iadd, 1) := by decide +kernel
theorem dL_loads_149 : decode cL_loads 149 = .ok (.invokevirtual 151, 3) := by decide +kernel
theorem dL_loads_152 : decode cL_loads 152 = .ok (.ldc 169, 2) := by decide +kernel
theorem dL_loads_154 : decode cL_loads 154 = .ok (.invokevirtual 147, 3) := by decide +kernel
theorem dL_loads_157 : decode cL_loads 157 = .ok (.iconst 1, 1) := by decide +kernel
theorem dL_loads_158 : decode cL_loads 158 = .ok (.aload_n 0, 1) := by decide +kernel
theorem dL_loads_159 : decode cL_loads 159 = .ok (.iconst 3, 1) := by decide +kernel
theorem dL_loads_160 : decode cL_loads 160 = .ok (.invokevirtual 139, 3) := by decide +kernel
theorem dL_loads_163 : decode cL_loads 163 = .ok (.iadd, 1) := by decide +kernel
theorem dL_loads_164 : decode cL_loads 164 = .ok (.invokevirtual 151, 3) := by decide +kernel
theorem dL_loads_167 : decode cL_loads 167 = .ok (.bipush 32, 2) := by decide +kernel
theorem dL_loads_169 : decode cL_loads 169 = .ok (.invokevirtual 154, 3) := by decide +kernel
theorem dL_loads_172 : decode cL_loads 172 = .ok (.aload_n 0, 1) := by decide +kernel
theorem dL_loads_173 : decode cL_loads 173 = .ok (.iconst 5, 1) := by decide +kernel
theorem dL_loads_174 : decode cL_loads 174 = .ok (.invokevirtual 139, 3) := by decide +kernel
theorem dL_loads_177 : decode cL_loads 177 = .ok (.invokevirtual 151, 3) := by decide +kernel
theorem dL_loads_180 : decode cL_loads 180 = .ok (.bipush 32, 2) := by decide +kernel
theorem dL_loads_182 : decode cL_loads 182 = .ok (.invokevirtual 154, 3) := by decide +kernel
theorem dL_loads_185 : decode cL_loads 185 = .ok (.aload_n 0, 1) := by decide +kernel
theorem dL_loads_186 : decode cL_loads 186 = .ok (.iconst 3, 1) := by decide +kernel
theorem dL_loads_187 : decode cL_loads 187 = .ok (.invokevirtual 139, 3) := by decide +kernel
theorem dL_loads_190 : decode cL_loads 190 = .ok (.invokevirtual 151, 3) := by decide +kernel
theorem dL_loads_193 : decode cL_loads 193 = .ok (.ldc 171, 2) := by decide +kernel
theorem dL_loads_195 : decode cL_loads 195 = .ok (.invokevirtual 147, 3) := by decide +kernel
theorem dL_loads_198 : decode cL_loads 198 = .ok (.iconst 1, 1) := by decide +kernel
theorem dL_loads_199 : decode cL_loads 199 = .ok (.aload_n 0, 1) := by decide +kernel
theorem dL_loads_200 : decode cL_loads 200 = .ok (.iconst 3, 1) := by decide +kernel
theorem dL_loads_201 : decode cL_loads 201 = .ok (.invokevirtual 139, 3) := by decide +kernel
theorem dL_loads_204 : decode cL_loads 204 = .ok (.iadd, 1) := by decide +kernel
theorem dL_loads_205 : decode cL_loads 205 = .ok (.invokevirtual 151, 3) := by decide +kernel
theorem dL_loads_208 : decode cL_loads 208 = .ok (.ldc 173, 2) := by decide +kernel
theorem dL_loads_210 : decode cL_loads 210 = .ok (.invokevirtual 147, 3) := by decide +kernel
theorem dL_loads_213 : decode cL_loads 213 = .ok (.iconst 1, 1) := by decide +kernel
theorem dL_loads_214 : decode cL_loads 214 = .ok (.aload_n 0, 1) := by decide +kernel
theorem dL_loads_215 : decode cL_loads 215 = .ok (.iconst 4, 1) := by decide +kernel
theorem dL_loads_216 : decode cL_loads 216 = .ok (.invokevirtual 139, 3) := by decide +kernel
theorem dL_loads_219 : decode cL_loads 219 = .ok (.iadd, 1) := by decide +kernel
theorem dL_loads_220 : decode cL_loads 220 = .ok (.invokevirtual 151, 3) := by decide +kernel
theorem dL_loads_223 : decode cL_loads 223 = .ok (.bipush 59, 2) := by decide +kernel
theorem dL_loads_225 : decode cL_loads 225 = .ok (.invokevirtual 154, 3) := by decide +kernel
theorem dL_loads_228 : decode cL_loads 228 = .ok (.pop, 1) := by decide +kernel
theorem dL_loads_229 : decode cL_loads 229 = .ok (.iconst 0, 1) := by decide +kernel
theorem dL_loads_230 : decode cL_loads 230 = .ok (.istore_n 3, 1) := by decide +kernel
theorem dL_loads_231 : decode cL_loads 231 = .ok (.iload_n 3, 1) := by decide +kernel
theorem dL_loads_232 : decode cL_loads 232 = .ok (.iconst 4, 1) := by decide +kernel
theorem dL_loads_233 : decode cL_loads 233 = .ok (.if_icmp .ge 84, 3) := by decide +kernel
theorem dL_loads_236 : decode cL_loads 236 = .ok (.aload_n 0, 1) := by decide +kernel
theorem dL_loads_237 : decode cL_loads 237 = .ok (.iconst 2, 1) := by decide +kernel
theorem dL_loads_238 : decode cL_loads 238 = .ok (.invokevirtual 139, 3) := by decide +kernel
theorem dL_loads_241 : decode cL_loads 241 = .ok (.ifCond .ne 70, 3) := by decide +kernel
theorem dL_loads_244 : decode cL_loads 244 = .ok (.aload_n 0, 1) := by decide +kernel
theorem dL_loads_245 : decode cL_loads 245 = .ok (.getfield 19, 3) := by decide +kernel
theorem dL_loads_248 : decode cL_loads 248 = .ok (.ldc 175, 2) := by decide +kernel
theorem dL_loads_250 : decode cL_loads 250 = .ok (.invokevirtual 147, 3) := by decide +kernel
theorem dL_loads_253 : decode cL_loads 253 = .ok (.iload_n 3, 1) := by decide +kernel
theorem dL_loads_254 : decode cL_loads 254 = .ok (.invokevirtual 151, 3) := by decide +kernel
theorem dL_loads_257 : decode cL_loads 257 = .ok (.bipush 32, 2) := by decide +kernel
theorem dL_loads_259 : decode cL_loads 259 = .ok (.invokevirtual 154, 3) := by decide +kernel
theorem dL_loads_262 : decode cL_loads 262 = .ok (.bipush 8, 2) := by decide +kernel
theorem dL_loads_264 : decode cL_loads 264 = .ok (.aload_n 0, 1) := by decide +kernel
theorem dL_loads_265 : decode cL_loads 265 = .ok (.bipush 30, 2) := by decide +kernel
theorem dL_loads_267 : decode cL_loads 267 = .ok (.invokevirtual 139, 3) := by decide +kernel
theorem dL_loads_270 : decode cL_loads 270 = .ok (.iadd, 1) := by decide +kernel
theorem dL_loads_271 : decode cL_loads 271 = .ok (.invokevirtual 151, 3) := by decide +kernel
theorem dL_loads_274 : decode cL_loads 274 = .ok (.bipush 32, 2) := by decide +kernel
theorem dL_loads_276 : decode cL_loads 276 = .ok (.invokevirtual 154, 3) := by decide +kernel
theorem dL_loads_279 : decode cL_loads 279 = .ok (.iconst 2, 1) := by decide +kernel
theorem dL_loads_280 : decode cL_loads 280 = .ok (.aload_n 0, 1) := by decide +kernel
theorem dL_loads_281 : decode cL_loads 281 = .ok (.bipush 9, 2) := by decide +kernel
theorem dL_loads_283 : decode cL_loads 283 = .ok (.invokevirtual 139, 3) := by decide +kernel
theorem dL_loads_286 : decode cL_loads 286 = .ok (.iadd, 1) := by decide +kernel
theorem dL_loads_287 : decode cL_loads 287 = .ok (.invokevirtual 151, 3) := by decide +kernel
theorem dL_loads_290 : decode cL_loads 290 = .ok (.bipush 32, 2) := by decide +kernel
theorem dL_loads_292 : decode cL_loads 292 = .ok (.invokevirtual 154, 3) := by decide +kernel
theorem dL_loads_295 : decode cL_loads 295 = .ok (.iconst 1, 1) := by decide +kernel
theorem dL_loads_296 : decode cL_loads 296 = .ok (.aload_n 0, 1) := by decide +kernel
theorem dL_loads_297 : decode cL_loads 297 = .ok (.iconst 3, 1) := by decide +kernel
theorem dL_loads_298 : decode cL_loads 298 = .ok (.invokevirtual 139, 3) := by decide +kernel
theorem dL_loads_301 : decode cL_loads 301 = .ok (.iadd, 1) := by decide +kernel
theorem dL_loads_302 : decode cL_loads 302 = .ok (.invokevirtual 151, 3) := by decide +kernel
theorem dL_loads_305 : decode cL_loads 305 = .ok (.bipush 59, 2) := by decide +kernel
theorem dL_loads_307 : decode cL_loads 307 = .ok (.invokevirtual 154, 3) := by decide +kernel
theorem dL_loads_310 : decode cL_loads 310 = .ok (.pop, 1) := by decide +kernel
theorem dL_loads_311 : decode cL_loads 311 = .ok (.iinc 3 1, 3) := by decide +kernel
theorem dL_loads_314 : decode cL_loads 314 = .ok (.goto (-83), 3) := by decide +kernel
theorem dL_loads_317 : decode cL_loads 317 = .ok (.iconst 0, 1) := by decide +kernel
theorem dL_loads_318 : decode cL_loads 318 = .ok (.istore_n 3, 1) := by decide +kernel
theorem dL_loads_319 : decode cL_loads 319 = .ok (.iload_n 3, 1) := by decide +kernel
theorem dL_loads_320 : decode cL_loads 320 = .ok (.iload_n 2, 1) := by decide +kernel
theorem dL_loads_321 : decode cL_loads 321 = .ok (.if_icmp .ge 48, 3) := by decide +kernel
theorem dL_loads_324 : decode cL_loads 324 = .ok (.aload_n 0, 1) := by decide +kernel
theorem dL_loads_325 : decode cL_loads 325 = .ok (.getfield 19, 3) := by decide +kernel
theorem dL_loads_328 : decode cL_loads 328 = .ok (.ldc 177, 2) := by decide +kernel
theorem dL_loads_330 : decode cL_loads 330 = .ok (.invokevirtual 147, 3) := by decide +kernel
theorem dL_loads_333 : decode cL_loads 333 = .ok (.aload_n 0, 1) := by decide +kernel
theorem dL_loads_334 : decode cL_loads 334 = .ok (.iconst 4, 1) := by decide +kernel
theorem dL_loads_335 : decode cL_loads 335 = .ok (.invokevirtual 139, 3) := by decide +kernel
theorem dL_loads_338 : decode cL_loads 338 = .ok (.invokevirtual 151, 3) := by decide +kernel
theorem dL_loads_341 : decode cL_loads 341 = .ok (.bipush 32, 2) := by decide +kernel
theorem dL_loads_343 : decode cL_loads 343 = .ok (.invokevirtual 154, 3) := by decide +kernel
theorem dL_loads_346 : decode cL_loads 346 = .ok (.iconst 1, 1) := by decide +kernel
theorem dL_loads_347 : decode cL_loads 347 = .ok (.aload_n 0, 1) := by decide +kernel
theorem dL_loads_348 : decode cL_loads 348 = .ok (.bipush 120, 2) := by decide +kernel
theorem dL_loads_350 : decode cL_loads 350 = .ok (.invokevirtual 139, 3) := by decide +kernel
theorem dL_loads_353 : decode cL_loads 353 = .ok (.iadd, 1) := by decide +kernel
theorem dL_loads_354 : decode cL_loads 354 = .ok (.invokevirtual 151, 3) := by decide +kernel
theorem dL_loads_357 : decode cL_loads 357 = .ok (.bipush 59, 2) := by decide +kernel
theorem dL_loads_359 : decode cL_loads 359 = .ok (.invokevirtual 154, 3) := by decide +kernel
theorem dL_loads_362 : decode cL_loads 362 = .ok (.pop, 1) := by decide +kernel
theorem dL_loads_363 : decode cL_loads 363 = .ok (.iinc 3 1, 3) := by decide +kernel
theorem dL_loads_366 : decode cL_loads 366 = .ok (.goto (-47), 3) := by decide +kernel
theorem dL_loads_369 : decode cL_loads 369 = .ok (.aload_n 0, 1) := by decide +kernel
theorem dL_loads_370 : decode cL_loads 370 = .ok (.aload_n 0, 1) := by decide +kernel
theorem dL_loads_371 : decode cL_loads 371 = .ok (.getfield 19, 3) := by decide +kernel
theorem dL_loads_374 : decode cL_loads 374 = .ok (.invokevirtual 179, 3) := by decide +kernel
theorem dL_loads_377 : decode cL_loads 377 = .ok (.invokevirtual 183, 3) := by decide +kernel
theorem dL_loads_380 : decode cL_loads 380 = .ok (.ifCond .eq 51, 3) := by decide +kernel
theorem dL_loads_383 : decode cL_loads 383 = .ok (.aload_n 0, 1) := by decide +kernel
theorem dL_loads_384 : decode cL_loads 384 = .ok (.getfield 10, 3) := by decide +kernel
theorem dL_loads_387 : decode cL_loads 387 = .ok (.invokevirtual 187, 3) := by decide +kernel
theorem dL_loads_390 : decode cL_loads 390 = .ok (.iload_n 2, 1) := by decide +kernel
theorem dL_loads_391 : decode cL_loads 391 = .ok (.if_icmp .ne 40, 3) := by decide +kernel
theorem dL_loads_394 : decode cL_loads 394 = .ok (.aload_n 0, 1) := by decide +kernel
theorem dL_loads_395 : decode cL_loads 395 = .ok (.getfield 10, 3) := by decide +kernel
theorem dL_loads_398 : decode cL_loads 398 = .ok (.invokevirtual 190, 3) := by decide +kernel
theorem dL_loads_401 : decode cL_loads 401 = .ok (.ifCond .ne 30, 3) := by decide +kernel
theorem dL_loads_404 : decode cL_loads 404 = .ok (.aload_n 0, 1) := by decide +kernel
theorem dL_loads_405 : decode cL_loads 405 = .ok (.getfield 10, 3) := by decide +kernel
theorem dL_loads_408 : decode cL_loads 408 = .ok (.invokevirtual 193, 3) := by decide +kernel
theorem dL_loads_411 : decode cL_loads 411 = .ok (.iconst (-1), 1) := by decide +kernel
theorem dL_loads_412 : decode cL_loads 412 = .ok (.if_icmp .ne 19, 3) := by decide +kernel
theorem dL_loads_415 : decode cL_loads 415 = .ok (.aload_n 0, 1) := by decide +kernel
theorem dL_loads_416 : decode cL_loads 416 = .ok (.getfield 10, 3) := by decide +kernel
theorem dL_loads_419 : decode cL_loads 419 = .ok (.iconst 1, 1) := by decide +kernel
theorem dL_loads_420 : decode cL_loads 420 = .ok (.invokestatic 196, 3) := by decide +kernel
theorem dL_loads_423 : decode cL_loads 423 = .ok (.iload_n 2, 1) := by decide +kernel
theorem dL_loads_424 : decode cL_loads 424 = .ok (.if_icmp .ne 7, 3) := by decide +kernel
theorem dL_loads_427 : decode cL_loads 427 = .ok (.iconst 1, 1) := by decide +kernel
theorem dL_loads_428 : decode cL_loads 428 = .ok (.goto 4, 3) := by decide +kernel
theorem dL_loads_431 : decode cL_loads 431 = .ok (.iconst 0, 1) := by decide +kernel
theorem dL_loads_432 : decode cL_loads 432 = .ok (.ireturn, 1) := by decide +kernel
set_option maxRecDepth 20000 in
theorem ggL_addsUp_L_count : GoodIn wsL_addsUp wsL_count := goodIn_ca (goodIn_r _ [13, 14, 15, 16, 17, 18, 19, 20, 21, 22, 23, 24, 25, 143, 144, 145, 146, 147, 148, 149, 150, 151, 152, 153, 154, 155, 156, 157, 158, 159, 160, 161, 162, 163, 164, 165, 166, 167] (by decide +kernel) (by decide +kernel)) (goodIn_sub (fun _ h => List.mem_cons_of_mem _ (List.mem_append_left _ (List.mem_append_right _ h))) (by decide +kernel))
set_option maxRecDepth 20000 in
theorem gL_addsUp_L_count : GoodIn wsL_addsUp (va_wsS RL 196 yL_count wsL_count) := goodIn_app (goodIn_of _ (by decide +kernel)) ggL_addsUp_L_count
set_option maxRecDepth 20000 in
theorem ggL_addsUp_L_setting : GoodIn wsL_addsUp wsL_setting := goodIn_ca (goodIn_r _ [28, 14, 29, 30, 31, 18, 32, 20, 21, 24, 33, 143, 144, 145, 146, 147, 148, 149, 150, 151, 155, 156, 157, 158, 159, 160, 161, 162, 163, 164, 165, 166, 167] (by decide +kernel) (by decide +kernel)) (goodIn_sub (fun _ h => List.mem_cons_of_mem _ (List.mem_append_left _ (List.mem_append_right _ h))) (by decide +kernel))
set_option maxRecDepth 20000 in
theorem gL_addsUp_L_setting : GoodIn wsL_addsUp (va_wsS RL 198 yL_setting wsL_setting) := goodIn_app (goodIn_of _ (by decide +kernel)) ggL_addsUp_L_setting
set_option maxRecDepth 20000 in
theorem ggL_addsUp_L_car : GoodIn wsL_addsUp wsL_car := goodIn_ca (goodIn_ca (goodIn_r _ [36, 37, 14, 38, 39, 40, 18, 41, 42, 43, 20, 21, 24, 25, 44, 45, 46, 47, 48, 49, 143, 144, 145, 146, 147, 148, 149, 150, 151, 155, 156, 157, 158, 159, 160, 161, 162, 163, 164, 165, 166, 167] (by decide +kernel) (by decide +kernel)) (goodIn_sub (fun _ h => List.mem_cons_of_mem _ (List.mem_append_right _ h)) (by decide +kernel))) (goodIn_sub (fun _ h => List.mem_cons_of_mem _ (List.mem_append_left _ (List.mem_append_right _ h))) (by decide +kernel))
set_option maxRecDepth 20000 in
theorem gL_addsUp_L_car : GoodIn wsL_addsUp (va_wsS RL 200 yL_car wsL_car) := goodIn_app (goodIn_of _ (by decide +kernel)) ggL_addsUp_L_car
set_option maxRecDepth 20000 in
theorem ggL_addsUp_L_kind : GoodIn wsL_addsUp wsL_kind := goodIn_ca (goodIn_ca (goodIn_r _ [52, 37, 14, 53, 54, 55, 18, 56, 42, 43, 20, 21, 24, 57, 58, 59, 47, 60, 61, 143, 144, 145, 146, 147, 148, 149, 150, 151, 155, 156, 157, 158, 159, 160, 161, 162, 163, 164, 165, 166, 167] (by decide +kernel) (by decide +kernel)) (goodIn_sub (fun _ h => List.mem_cons_of_mem _ (List.mem_append_right _ h)) (by decide +kernel))) (goodIn_sub (fun _ h => List.mem_cons_of_mem _ (List.mem_append_left _ (List.mem_append_right _ h))) (by decide +kernel))
set_option maxRecDepth 20000 in
theorem gL_addsUp_L_kind : GoodIn wsL_addsUp (va_wsS RL 203 yL_kind wsL_kind) := goodIn_app (goodIn_of _ (by decide +kernel)) ggL_addsUp_L_kind
set_option maxRecDepth 20000 in
theorem ggL_addsUp_L_lane : GoodIn wsL_addsUp wsL_lane := goodIn_ca (goodIn_r _ [64, 37, 65, 66, 67, 18, 68, 42, 43, 24, 33, 69, 70, 143, 144, 145, 146, 147, 148, 149, 150, 151, 155, 156, 157, 158, 159, 160, 161, 162, 163, 164, 165, 166, 167] (by decide +kernel) (by decide +kernel)) (goodIn_sub (fun _ h => List.mem_cons_of_mem _ (List.mem_append_right _ h)) (by decide +kernel))
set_option maxRecDepth 20000 in
theorem gL_addsUp_L_lane : GoodIn wsL_addsUp (va_wsS RL 205 yL_lane wsL_lane) := goodIn_app (goodIn_of _ (by decide +kernel)) ggL_addsUp_L_lane
set_option maxRecDepth 20000 in
theorem ggL_addsUp_L_standing : GoodIn wsL_addsUp wsL_standing := goodIn_ca (goodIn_r _ [73, 37, 74, 75, 76, 18, 77, 42, 43, 24, 78, 79, 80, 47, 81, 82, 83, 84, 85, 143, 144, 145, 146, 147, 148, 149, 150, 151, 155, 156, 157, 158, 159, 160, 161, 162, 163, 164, 165, 166, 167] (by decide +kernel) (by decide +kernel)) (goodIn_sub (fun _ h => List.mem_cons_of_mem _ (List.mem_append_right _ h)) (by decide +kernel))
set_option maxRecDepth 20000 in
theorem gL_addsUp_L_standing : GoodIn wsL_addsUp (va_wsS RL 208 yL_standing wsL_standing) := goodIn_app (goodIn_of _ (by decide +kernel)) ggL_addsUp_L_standing
set_option maxRecDepth 20000 in
theorem ggL_addsUp_X9_queued : GoodIn wsL_addsUp wsX9_queued := goodIn_r _ [89, 24, 25, 90, 91, 84, 18, 85, 143, 144, 145, 146, 147, 148, 149, 150, 151, 155, 156, 157, 158, 159, 160, 161, 162, 163, 164, 165, 166, 167] (by decide +kernel) (by decide +kernel)
set_option maxRecDepth 20000 in
theorem gL_addsUp_X9_queued : GoodIn wsL_addsUp (wsV RL 210 RX9 yX9_queued wsX9_queued) := goodIn_app (goodIn_of _ (by decide +kernel)) ggL_addsUp_X9_queued
set_option maxRecDepth 20000 in
theorem ggL_addsUp_L_deck : GoodIn wsL_addsUp wsL_deck := goodIn_ca (goodIn_r _ [94, 14, 95, 96, 97, 18, 98, 20, 21, 24, 99, 100, 101, 47, 102, 103, 104, 105, 106, 107, 108, 143, 144, 145, 146, 147, 148, 149, 150, 151, 155, 156, 157, 158, 159, 160, 161, 162, 163, 164, 165, 166, 167] (by decide +kernel) (by decide +kernel)) (goodIn_sub (fun _ h => List.mem_cons_of_mem _ (List.mem_append_left _ (List.mem_append_right _ h))) (by decide +kernel))
set_option maxRecDepth 20000 in
theorem gL_addsUp_L_deck : GoodIn wsL_addsUp (va_wsS RL 213 yL_deck wsL_deck) := goodIn_app (goodIn_of _ (by decide +kernel)) ggL_addsUp_L_deck
set_option maxRecDepth 20000 in
theorem ggL_addsUp_L_tide : GoodIn wsL_addsUp wsL_tide := goodIn_ca (goodIn_r _ [111, 14, 112, 113, 114, 18, 115, 20, 21, 24, 116, 106, 107, 47, 108, 103, 143, 144, 145, 146, 147, 148, 149, 150, 151, 155, 156, 157, 158, 159, 160, 161, 162, 163, 164, 165, 166, 167] (by decide +kernel) (by decide +kernel)) (goodIn_sub (fun _ h => List.mem_cons_of_mem _ (List.mem_append_left _ (List.mem_append_right _ h))) (by decide +kernel))
set_option maxRecDepth 20000 in
theorem gL_addsUp_L_tide : GoodIn wsL_addsUp (va_wsS RL 215 yL_tide wsL_tide) := goodIn_app (goodIn_of _ (by decide +kernel)) ggL_addsUp_L_tide
set_option maxRecDepth 20000 in
theorem ggL_addsUp_X9_lip : GoodIn wsL_addsUp wsX9_lip := goodIn_r _ [120, 24, 121, 143, 144, 145, 146, 147, 148, 149, 150, 151, 155, 156, 157, 158, 159, 160, 161, 162, 163, 164, 165, 166, 167] (by decide +kernel) (by decide +kernel)
set_option maxRecDepth 20000 in
theorem gL_addsUp_X9_lip : GoodIn wsL_addsUp (wsV RL 190 RX9 yX9_lip wsX9_lip) := goodIn_app (goodIn_of _ (by decide +kernel)) ggL_addsUp_X9_lip
set_option maxRecDepth 20000 in
theorem ggL_addsUp_X9_slope : GoodIn wsL_addsUp wsX9_slope := goodIn_r _ [125, 24, 126, 143, 144, 145, 146, 147, 148, 149, 150, 151, 155, 156, 157, 158, 159, 160, 161, 162, 163, 164, 165, 166, 167] (by decide +kernel) (by decide +kernel)
set_option maxRecDepth 20000 in
theorem gL_addsUp_X9_slope : GoodIn wsL_addsUp (wsV RL 220 RX9 yX9_slope wsX9_slope) := goodIn_app (goodIn_of _ (by decide +kernel)) ggL_addsUp_X9_slope
set_option maxRecDepth 20000 in
theorem ggL_addsUp_X9_waterIn : GoodIn wsL_addsUp wsX9_waterIn := goodIn_r _ [130, 24, 33, 25, 143, 144, 145, 146, 147, 148, 149, 150, 151, 155, 156, 157, 158, 159, 160, 161, 162, 163, 164, 165, 166, 167] (by decide +kernel) (by decide +kernel)
set_option maxRecDepth 20000 in
theorem gL_addsUp_X9_waterIn : GoodIn wsL_addsUp (wsV RL 223 RX9 yX9_waterIn wsX9_waterIn) := goodIn_app (goodIn_of _ (by decide +kernel)) ggL_addsUp_X9_waterIn
set_option maxRecDepth 20000 in
theorem ggL_addsUp_X9_list : GoodIn wsL_addsUp wsX9_list := goodIn_r _ [134, 24, 70, 143, 144, 145, 146, 147, 148, 149, 150, 151, 155, 156, 157, 158, 159, 160, 161, 162, 163, 164, 165, 166, 167] (by decide +kernel) (by decide +kernel)
set_option maxRecDepth 20000 in
theorem gL_addsUp_X9_list : GoodIn wsL_addsUp (wsV RL 227 RX9 yX9_list wsX9_list) := goodIn_app (goodIn_of _ (by decide +kernel)) ggL_addsUp_X9_list
set_option maxRecDepth 20000 in
theorem ggL_addsUp_X9_fullness : GoodIn wsL_addsUp wsX9_fullness := goodIn_r _ [138, 24, 33, 25, 143, 144, 145, 146, 147, 148, 149, 150, 151, 155, 156, 157, 158, 159, 160, 161, 162, 163, 164, 165, 166, 167] (by decide +kernel) (by decide +kernel)
set_option maxRecDepth 20000 in
theorem gL_addsUp_X9_fullness : GoodIn wsL_addsUp (wsV RL 230 RX9 yX9_fullness wsX9_fullness) := goodIn_app (goodIn_of _ (by decide +kernel)) ggL_addsUp_X9_fullness
theorem dL_addsUp_0 : decode cL_addsUp 0 = .ok (.aload_n 0, 1) := by decide +kernel
theorem dL_addsUp_1 : decode cL_addsUp 1 = .ok (.getfield 10, 3) := by decide +kernel
theorem dL_addsUp_4 : decode cL_addsUp 4 = .ok (.iconst 3, 1) := by decide +kernel
theorem dL_addsUp_5 : decode cL_addsUp 5 = .ok (.invokestatic 196, 3) := by decide +kernel
theorem dL_addsUp_8 : decode cL_addsUp 8 = .ok (.istore_n 1, 1) := by decide +kernel
theorem dL_addsUp_9 : decode cL_addsUp 9 = .ok (.iconst 0, 1) := by decide +kernel
theorem dL_addsUp_10 : decode cL_addsUp 10 = .ok (.istore_n 2, 1) := by decide +kernel
theorem dL_addsUp_11 : decode cL_addsUp 11 = .ok (.iconst 0, 1) := by decide +kernel
theorem dL_addsUp_12 : decode cL_addsUp 12 = .ok (.istore_n 3, 1) := by decide +kernel
theorem dL_addsUp_13 : decode cL_addsUp 13 = .ok (.iconst 0, 1) := by decide +kernel
theorem dL_addsUp_14 : decode cL_addsUp 14 = .ok (.istore 4, 2) := by decide +kernel
theorem dL_addsUp_16 : decode cL_addsUp 16 = .ok (.iconst 0, 1) := by decide +kernel
theorem dL_addsUp_17 : decode cL_addsUp 17 = .ok (.istore 5, 2) := by decide +kernel
theorem dL_addsUp_19 : decode cL_addsUp 19 = .ok (.iconst 0, 1) := by decide +kernel
theorem dL_addsUp_20 : decode cL_addsUp 20 = .ok (.istore 6, 2) := by decide +kernel
theorem dL_addsUp_22 : decode cL_addsUp 22 = .ok (.iconst (-1), 1) := by decide +kernel
theorem dL_addsUp_23 : decode cL_addsUp 23 = .ok (.istore 7, 2) := by decide +kernel
theorem dL_addsUp_25 : decode cL_addsUp 25 = .ok (.aload_n 0, 1) := by decide +kernel
theorem dL_addsUp_26 : decode cL_addsUp 26 = .ok (.getfield 10, 3) := by decide +kernel
theorem dL_addsUp_29 : decode cL_addsUp 29 = .ok (.iconst 0, 1) := by decide +kernel
theorem dL_addsUp_30 : decode cL_addsUp 30 = .ok (.invokestatic 196, 3) := by decide +kernel
theorem dL_addsUp_33 : decode cL_addsUp 33 = .ok (.istore 8, 2) := by decide +kernel
theorem dL_addsUp_35 : decode cL_addsUp 35 = .ok (.iconst 3, 1) := by decide +kernel
theorem dL_addsUp_36 : decode cL_addsUp 36 = .ok (.newarray .int, 2) := by decide +kernel
theorem dL_addsUp_38 : decode cL_addsUp 38 = .ok (.astore 9, 2) := by decide +kernel
theorem dL_addsUp_40 : decode cL_addsUp 40 = .ok (.iconst 3, 1) := by decide +kernel
theorem dL_addsUp_41 : decode cL_addsUp 41 = .ok (.newarray .int, 2) := by decide +kernel
theorem dL_addsUp_43 : decode cL_addsUp 43 = .ok (.astore 10, 2) := by decide +kernel
theorem dL_addsUp_45 : decode cL_addsUp 45 = .ok (.iconst 0, 1) := by decide +kernel
theorem dL_addsUp_46 : decode cL_addsUp 46 = .ok (.istore 11, 2) := by decide +kernel
theorem dL_addsUp_48 : decode cL_addsUp 48 = .ok (.iload 11, 2) := by decide +kernel
theorem dL_addsUp_50 : decode cL_addsUp 50 = .ok (.iconst 3, 1) := by decide +kernel
theorem dL_addsUp_51 : decode cL_addsUp 51 = .ok (.if_icmp .ge 23, 3) := by decide +kernel
theorem dL_addsUp_54 : decode cL_addsUp 54 = .ok (.aload 10, 2) := by decide +kernel
theorem dL_addsUp_56 : decode cL_addsUp 56 = .ok (.iload 11, 2) := by decide +kernel
theorem dL_addsUp_58 : decode cL_addsUp 58 = .ok (.aload_n 0, 1) := by decide +kernel
theorem dL_addsUp_59 : decode cL_addsUp 59 = .ok (.getfield 10, 3) := by decide +kernel
theorem dL_addsUp_62 : decode cL_addsUp 62 = .ok (.bipush 6, 2) := by decide +kernel
theorem dL_addsUp_64 : decode cL_addsUp 64 = .ok (.invokestatic 198, 3) := by decide +kernel
theorem dL_addsUp_67 : decode cL_addsUp 67 = .ok (.iastore, 1) := by decide +kernel
theorem dL_addsUp_68 : decode cL_addsUp 68 = .ok (.iinc 11 1, 3) := by decide +kernel
theorem dL_addsUp_71 : decode cL_addsUp 71 = .ok (.goto (-23), 3) := by decide +kernel
theorem dL_addsUp_74 : decode cL_addsUp 74 = .ok (.iconst 0, 1) := by decide +kernel
theorem dL_addsUp_75 : decode cL_addsUp 75 = .ok (.istore 11, 2) := by decide +kernel
theorem dL_addsUp_77 : decode cL_addsUp 77 = .ok (.iload 11, 2) := by decide +kernel
theorem dL_addsUp_79 : decode cL_addsUp 79 = .ok (.iload_n 1, 1) := by decide +kernel
theorem dL_addsUp_80 : decode cL_addsUp 80 = .ok (.if_icmp .ge 317, 3) := by decide +kernel
theorem dL_addsUp_83 : decode cL_addsUp 83 = .ok (.aload_n 0, 1) := by decide +kernel
theorem dL_addsUp_84 : decode cL_addsUp 84 = .ok (.getfield 10, 3) := by decide +kernel
theorem dL_addsUp_87 : decode cL_addsUp 87 = .ok (.iload 11, 2) := by decide +kernel
theorem dL_addsUp_89 : decode cL_addsUp 89 = .ok (.iconst 2, 1) := by decide +kernel
theorem dL_addsUp_90 : decode cL_addsUp 90 = .ok (.invokestatic 200, 3) := by decide +kernel
theorem dL_addsUp_93 : decode cL_addsUp 93 = .ok (.istore 12, 2) := by decide +kernel
theorem dL_addsUp_95 : decode cL_addsUp 95 = .ok (.aload_n 0, 1) := by decide +kernel
theorem dL_addsUp_96 : decode cL_addsUp 96 = .ok (.getfield 10, 3) := by decide +kernel
theorem dL_addsUp_99 : decode cL_addsUp 99 = .ok (.iload 11, 2) := by decide +kernel
theorem dL_addsUp_101 : decode cL_addsUp 101 = .ok (.iconst 1, 1) := by decide +kernel
theorem dL_addsUp_102 : decode cL_addsUp 102 = .ok (.invokestatic 200, 3) := by decide +kernel
theorem dL_addsUp_105 : decode cL_addsUp 105 = .ok (.istore 13, 2) := by decide +kernel
theorem dL_addsUp_107 : decode cL_addsUp 107 = .ok (.aload_n 0, 1) := by decide +kernel
theorem dL_addsUp_108 : decode cL_addsUp 108 = .ok (.getfield 10, 3) := by decide +kernel
theorem dL_addsUp_111 : decode cL_addsUp 111 = .ok (.iload 11, 2) := by decide +kernel
theorem dL_addsUp_113 : decode cL_addsUp 113 = .ok (.iconst 3, 1) := by decide +kernel
theorem dL_addsUp_114 : decode cL_addsUp 114 = .ok (.invokestatic 200, 3) := by decide +kernel
theorem dL_addsUp_117 : decode cL_addsUp 117 = .ok (.istore 14, 2) := by decide +kernel
theorem dL_addsUp_119 : decode cL_addsUp 119 = .ok (.aload_n 0, 1) := by decide +kernel
theorem dL_addsUp_120 : decode cL_addsUp 120 = .ok (.getfield 10, 3) := by decide +kernel
theorem dL_addsUp_123 : decode cL_addsUp 123 = .ok (.iload 11, 2) := by decide +kernel
theorem dL_addsUp_125 : decode cL_addsUp 125 = .ok (.iconst 5, 1) := by decide +kernel
theorem dL_addsUp_126 : decode cL_addsUp 126 = .ok (.invokestatic 200, 3) := by decide +kernel
theorem dL_addsUp_129 : decode cL_addsUp 129 = .ok (.istore 15, 2) := by decide +kernel
theorem dL_addsUp_131 : decode cL_addsUp 131 = .ok (.aload_n 0, 1) := by decide +kernel
theorem dL_addsUp_132 : decode cL_addsUp 132 = .ok (.getfield 10, 3) := by decide +kernel
theorem dL_addsUp_135 : decode cL_addsUp 135 = .ok (.iload 11, 2) := by decide +kernel
theorem dL_addsUp_137 : decode cL_addsUp 137 = .ok (.bipush 6, 2) := by decide +kernel
theorem dL_addsUp_139 : decode cL_addsUp 139 = .ok (.invokestatic 200, 3) := by decide +kernel
theorem dL_addsUp_142 : decode cL_addsUp 142 = .ok (.istore 16, 2) := by decide +kernel
theorem dL_addsUp_144 : decode cL_addsUp 144 = .ok (.iload_n 3, 1) := by decide +kernel
theorem dL_addsUp_145 : decode cL_addsUp 145 = .ok (.iload 12, 2) := by decide +kernel
theorem dL_addsUp_147 : decode cL_addsUp 147 = .ok (.ifCond .ne 7, 3) := by decide +kernel
theorem dL_addsUp_150 : decode cL_addsUp 150 = .ok (.iconst 1, 1) := by decide +kernel
theorem dL_addsUp_151 : decode cL_addsUp 151 = .ok (.goto 4, 3) := by decide +kernel
theorem dL_addsUp_154 : decode cL_addsUp 154 = .ok (.iconst 0, 1) := by decide +kernel
theorem dL_addsUp_155 : decode cL_addsUp 155 = .ok (.iadd, 1) := by decide +kernel
theorem dL_addsUp_156 : decode cL_addsUp 156 = .ok (.istore_n 3, 1) := by decide +kernel
theorem dL_addsUp_157 : decode cL_addsUp 157 = .ok (.iload 4, 2) := by decide +kernel
theorem dL_addsUp_159 : decode cL_addsUp 159 = .ok (.iload 12, 2) := by decide +kernel
theorem dL_addsUp_161 : decode cL_addsUp 161 = .ok (.iconst 2, 1) := by decide +kernel
theorem dL_addsUp_162 : decode cL_addsUp 162 = .ok (.if_icmp .ne 7, 3) := by decide +kernel
theorem dL_addsUp_165 : decode cL_addsUp 165 = .ok (.iconst 1, 1) := by decide +kernel
theorem dL_addsUp_166 : decode cL_addsUp 166 = .ok (.goto 4, 3) := by decide +kernel
theorem dL_addsUp_169 : decode cL_addsUp 169 = .ok (.iconst 0, 1) := by decide +kernel
theorem dL_addsUp_170 : decode cL_addsUp 170 = .ok (.iadd, 1) := by decide +kernel
theorem dL_addsUp_171 : decode cL_addsUp 171 = .ok (.istore 4, 2) := by decide +kernel
theorem dL_addsUp_173 : decode cL_addsUp 173 = .ok (.iload 5, 2) := by decide +kernel
theorem dL_addsUp_175 : decode cL_addsUp 175 = .ok (.iload 12, 2) := by decide +kernel
theorem dL_addsUp_177 : decode cL_addsUp 177 = .ok (.iconst 3, 1) := by decide +kernel
theorem dL_addsUp_178 : decode cL_addsUp 178 = .ok (.if_icmp .ne 7, 3) := by decide +kernel
theorem dL_addsUp_181 : decode cL_addsUp 181 = .ok (.iconst 1, 1) := by decide +kernel
theorem dL_addsUp_182 : decode cL_addsUp 182 = .ok (.goto 4, 3) := by decide +kernel
theorem dL_addsUp_185 : decode cL_addsUp 185 = .ok (.iconst 0, 1) := by decide +kernel
theorem dL_addsUp_186 : decode cL_addsUp 186 = .ok (.iadd, 1) := by decide +kernel
theorem dL_addsUp_187 : decode cL_addsUp 187 = .ok (.istore 5, 2) := by decide +kernel
theorem dL_addsUp_189 : decode cL_addsUp 189 = .ok (.iload 6, 2) := by decide +kernel
theorem dL_addsUp_191 : decode cL_addsUp 191 = .ok (.iload 16, 2) := by decide +kernel
theorem dL_addsUp_193 : decode cL_addsUp 193 = .ok (.ifCond .lt 7, 3) := by decide +kernel
theorem dL_addsUp_196 : decode cL_addsUp 196 = .ok (.iconst 1, 1) := by decide +kernel
theorem dL_addsUp_197 : decode cL_addsUp 197 = .ok (.goto 4, 3) := by decide +kernel
theorem dL_addsUp_200 : decode cL_addsUp 200 = .ok (.iconst 0, 1) := by decide +kernel
theorem dL_addsUp_201 : decode cL_addsUp 201 = .ok (.iadd, 1) := by decide +kernel
theorem dL_addsUp_202 : decode cL_addsUp 202 = .ok (.istore 6, 2) := by decide +kernel
theorem dL_addsUp_204 : decode cL_addsUp 204 = .ok (.iload_n 2, 1) := by decide +kernel
theorem dL_addsUp_205 : decode cL_addsUp 205 = .ok (.iload 12, 2) := by decide +kernel
theorem dL_addsUp_207 : decode cL_addsUp 207 = .ok (.iconst 2, 1) := by decide +kernel
theorem dL_addsUp_208 : decode cL_addsUp 208 = .ok (.if_icmp .ne 8, 3) := by decide +kernel
theorem dL_addsUp_211 : decode cL_addsUp 211 = .ok (.iload 13, 2) := by decide +kernel
theorem dL_addsUp_213 : decode cL_addsUp 213 = .ok (.goto 4, 3) := by decide +kernel
theorem dL_addsUp_216 : decode cL_addsUp 216 = .ok (.iconst 0, 1) := by decide +kernel
theorem dL_addsUp_217 : decode cL_addsUp 217 = .ok (.iadd, 1) := by decide +kernel
theorem dL_addsUp_218 : decode cL_addsUp 218 = .ok (.istore_n 2, 1) := by decide +kernel
theorem dL_addsUp_219 : decode cL_addsUp 219 = .ok (.iload 12, 2) := by decide +kernel
theorem dL_addsUp_221 : decode cL_addsUp 221 = .ok (.iconst 1, 1) := by decide +kernel
theorem dL_addsUp_222 : decode cL_addsUp 222 = .ok (.if_icmp .ne 8, 3) := by decide +kernel
theorem dL_addsUp_225 : decode cL_addsUp 225 = .ok (.iload 11, 2) := by decide +kernel
theorem dL_addsUp_227 : decode cL_addsUp 227 = .ok (.goto 5, 3) := by decide +kernel
theorem dL_addsUp_230 : decode cL_addsUp 230 = .ok (.iload 7, 2) := by decide +kernel
theorem dL_addsUp_232 : decode cL_addsUp 232 = .ok (.istore 7, 2) := by decide +kernel
theorem dL_addsUp_234 : decode cL_addsUp 234 = .ok (.iload 14, 2) := by decide +kernel
theorem dL_addsUp_236 : decode cL_addsUp 236 = .ok (.ifCond .ge 7, 3) := by decide +kernel
theorem dL_addsUp_239 : decode cL_addsUp 239 = .ok (.iconst 1, 1) := by decide +kernel
theorem dL_addsUp_240 : decode cL_addsUp 240 = .ok (.goto 4, 3) := by decide +kernel
theorem dL_addsUp_243 : decode cL_addsUp 243 = .ok (.iconst 0, 1) := by decide +kernel
theorem dL_addsUp_244 : decode cL_addsUp 244 = .ok (.iload 15, 2) := by decide +kernel
theorem dL_addsUp_246 : decode cL_addsUp 246 = .ok (.ifCond .ge 7, 3) := by decide +kernel
theorem dL_addsUp_249 : decode cL_addsUp 249 = .ok (.iconst 1, 1) := by decide +kernel
theorem dL_addsUp_250 : decode cL_addsUp 250 = .ok (.goto 4, 3) := by decide +kernel
theorem dL_addsUp_253 : decode cL_addsUp 253 = .ok (.iconst 0, 1) := by decide +kernel
theorem dL_addsUp_254 : decode cL_addsUp 254 = .ok (.if_icmp .ne 84, 3) := by decide +kernel
theorem dL_addsUp_257 : decode cL_addsUp 257 = .ok (.iload 16, 2) := by decide +kernel
theorem dL_addsUp_259 : decode cL_addsUp 259 = .ok (.ifCond .lt 7, 3) := by decide +kernel
theorem dL_addsUp_262 : decode cL_addsUp 262 = .ok (.iconst 1, 1) := by decide +kernel
theorem dL_addsUp_263 : decode cL_addsUp 263 = .ok (.goto 4, 3) := by decide +kernel
theorem dL_addsUp_266 : decode cL_addsUp 266 = .ok (.iconst 0, 1) := by decide +kernel
theorem dL_addsUp_267 : decode cL_addsUp 267 = .ok (.iload 12, 2) := by decide +kernel
theorem dL_addsUp_269 : decode cL_addsUp 269 = .ok (.iconst 2, 1) := by decide +kernel
theorem dL_addsUp_270 : decode cL_addsUp 270 = .ok (.if_icmp .eq 9, 3) := by decide +kernel
theorem dL_addsUp_273 : decode cL_addsUp 273 = .ok (.iload 12, 2) := by decide +kernel
theorem dL_addsUp_275 : decode cL_addsUp 275 = .ok (.iconst 3, 1) := by decide +kernel
theorem dL_addsUp_276 : decode cL_addsUp 276 = .ok (.if_icmp .ne 7, 3) := by decide +kernel
theorem dL_addsUp_279 : decode cL_addsUp 279 = .ok (.iconst 1, 1) := by decide +kernel
theorem dL_addsUp_280 : decode cL_addsUp 280 = .ok (.goto 4, 3) := by decide +kernel
theorem dL_addsUp_283 : decode cL_addsUp 283 = .ok (.iconst 0, 1) := by decide +kernel
theorem dL_addsUp_284 : decode cL_addsUp 284 = .ok (.if_icmp .ne 54, 3) := by decide +kernel
theorem dL_addsUp_287 : decode cL_addsUp 287 = .ok (.iload 16, 2) := by decide +kernel
theorem dL_addsUp_289 : decode cL_addsUp 289 = .ok (.ifCond .lt 12, 3) := by decide +kernel
theorem dL_addsUp_292 : decode cL_addsUp 292 = .ok (.iload 16, 2) := by decide +kernel
theorem dL_addsUp_294 : decode cL_addsUp 294 = .ok (.iload 15, 2) := by decide +kernel
theorem dL_addsUp_296 : decode cL_addsUp 296 = .ok (.iconst 1, 1) := by decide +kernel
theorem dL_addsUp_297 : decode cL_addsUp 297 = .ok (.iadd, 1) := by decide +kernel
theorem dL_addsUp_298 : decode cL_addsUp 298 = .ok (.if_icmp .lt 40, 3) := by decide +kernel
theorem dL_addsUp_301 : decode cL_addsUp 301 = .ok (.iload 15, 2) := by decide +kernel
theorem dL_addsUp_303 : decode cL_addsUp 303 = .ok (.iload 8, 2) := by decide +kernel
theorem dL_addsUp_305 : decode cL_addsUp 305 = .ok (.if_icmp .gt 33, 3) := by decide +kernel
theorem dL_addsUp_308 : decode cL_addsUp 308 = .ok (.iload 15, 2) := by decide +kernel
theorem dL_addsUp_310 : decode cL_addsUp 310 = .ok (.ifCond .lt 18, 3) := by decide +kernel
theorem dL_addsUp_313 : decode cL_addsUp 313 = .ok (.iload 15, 2) := by decide +kernel
theorem dL_addsUp_315 : decode cL_addsUp 315 = .ok (.aload_n 0, 1) := by decide +kernel
theorem dL_addsUp_316 : decode cL_addsUp 316 = .ok (.getfield 10, 3) := by decide +kernel
theorem dL_addsUp_319 : decode cL_addsUp 319 = .ok (.iload 11, 2) := by decide +kernel
theorem dL_addsUp_321 : decode cL_addsUp 321 = .ok (.iconst 4, 1) := by decide +kernel
theorem dL_addsUp_322 : decode cL_addsUp 322 = .ok (.invokestatic 200, 3) := by decide +kernel
theorem dL_addsUp_325 : decode cL_addsUp 325 = .ok (.if_icmp .lt 13, 3) := by decide +kernel
theorem dL_addsUp_328 : decode cL_addsUp 328 = .ok (.iload 12, 2) := by decide +kernel
theorem dL_addsUp_330 : decode cL_addsUp 330 = .ok (.ifCond .ne 10, 3) := by decide +kernel
theorem dL_addsUp_333 : decode cL_addsUp 333 = .ok (.iload 15, 2) := by decide +kernel
theorem dL_addsUp_335 : decode cL_addsUp 335 = .ok (.ifCond .lt 5, 3) := by decide +kernel
theorem dL_addsUp_338 : decode cL_addsUp 338 = .ok (.iconst 0, 1) := by decide +kernel
theorem dL_addsUp_339 : decode cL_addsUp 339 = .ok (.ireturn, 1) := by decide +kernel
theorem dL_addsUp_340 : decode cL_addsUp 340 = .ok (.iload 12, 2) := by decide +kernel
theorem dL_addsUp_342 : decode cL_addsUp 342 = .ok (.iconst 1, 1) := by decide +kernel
theorem dL_addsUp_343 : decode cL_addsUp 343 = .ok (.if_icmp .eq 12, 3) := by decide +kernel
theorem dL_addsUp_346 : decode cL_addsUp 346 = .ok (.iload 12, 2) := by decide +kernel
theorem dL_addsUp_348 : decode cL_addsUp 348 = .ok (.iconst 2, 1) := by decide +kernel
theorem dL_addsUp_349 : decode cL_addsUp 349 = .ok (.if_icmp .eq 6, 3) := by decide +kernel
theorem dL_addsUp_352 : decode cL_addsUp 352 = .ok (.goto 39, 3) := by decide +kernel
theorem dL_addsUp_355 : decode cL_addsUp 355 = .ok (.aload 9, 2) := by decide +kernel
theorem dL_addsUp_357 : decode cL_addsUp 357 = .ok (.iload 14, 2) := by decide +kernel
theorem dL_addsUp_359 : decode cL_addsUp 359 = .ok (.dup2, 1) := by decide +kernel
theorem dL_addsUp_360 : decode cL_addsUp 360 = .ok (.iaload, 1) := by decide +kernel
theorem dL_addsUp_361 : decode cL_addsUp 361 = .ok (.iload 13, 2) := by decide +kernel
theorem dL_addsUp_363 : decode cL_addsUp 363 = .ok (.iadd, 1) := by decide +kernel
theorem dL_addsUp_364 : decode cL_addsUp 364 = .ok (.iastore, 1) := by decide +kernel
theorem dL_addsUp_365 : decode cL_addsUp 365 = .ok (.aload 10, 2) := by decide +kernel
theorem dL_addsUp_367 : decode cL_addsUp 367 = .ok (.iload 14, 2) := by decide +kernel
theorem dL_addsUp_369 : decode cL_addsUp 369 = .ok (.dup2, 1) := by decide +kernel
theorem dL_addsUp_370 : decode cL_addsUp 370 = .ok (.iaload, 1) := by decide +kernel
theorem dL_addsUp_371 : decode cL_addsUp 371 = .ok (.aload_n 0, 1) := by decide +kernel
theorem dL_addsUp_372 : decode cL_addsUp 372 = .ok (.getfield 10, 3) := by decide +kernel
theorem dL_addsUp_375 : decode cL_addsUp 375 = .ok (.aload_n 0, 1) := by decide +kernel
theorem dL_addsUp_376 : decode cL_addsUp 376 = .ok (.getfield 10, 3) := by decide +kernel
theorem dL_addsUp_379 : decode cL_addsUp 379 = .ok (.iload 11, 2) := by decide +kernel
theorem dL_addsUp_381 : decode cL_addsUp 381 = .ok (.iconst 0, 1) := by decide +kernel
theorem dL_addsUp_382 : decode cL_addsUp 382 = .ok (.invokestatic 200, 3) := by decide +kernel
theorem dL_addsUp_385 : decode cL_addsUp 385 = .ok (.iconst 2, 1) := by decide +kernel
theorem dL_addsUp_386 : decode cL_addsUp 386 = .ok (.invokestatic 203, 3) := by decide +kernel
theorem dL_addsUp_389 : decode cL_addsUp 389 = .ok (.isub, 1) := by decide +kernel
theorem dL_addsUp_390 : decode cL_addsUp 390 = .ok (.iastore, 1) := by decide +kernel
theorem dL_addsUp_391 : decode cL_addsUp 391 = .ok (.iinc 11 1, 3) := by decide +kernel
theorem dL_addsUp_394 : decode cL_addsUp 394 = .ok (.goto (-317), 3) := by decide +kernel
theorem dL_addsUp_397 : decode cL_addsUp 397 = .ok (.iconst 0, 1) := by decide +kernel
theorem dL_addsUp_398 : decode cL_addsUp 398 = .ok (.istore 11, 2) := by decide +kernel
theorem dL_addsUp_400 : decode cL_addsUp 400 = .ok (.iload 11, 2) := by decide +kernel
theorem dL_addsUp_402 : decode cL_addsUp 402 = .ok (.iconst 3, 1) := by decide +kernel
theorem dL_addsUp_403 : decode cL_addsUp 403 = .ok (.if_icmp .ge 155, 3) := by decide +kernel
theorem dL_addsUp_406 : decode cL_addsUp 406 = .ok (.aload_n 0, 1) := by decide +kernel
theorem dL_addsUp_407 : decode cL_addsUp 407 = .ok (.getfield 10, 3) := by decide +kernel
theorem dL_addsUp_410 : decode cL_addsUp 410 = .ok (.iload 11, 2) := by decide +kernel
theorem dL_addsUp_412 : decode cL_addsUp 412 = .ok (.iconst 0, 1) := by decide +kernel
theorem dL_addsUp_413 : decode cL_addsUp 413 = .ok (.invokestatic 205, 3) := by decide +kernel
theorem dL_addsUp_416 : decode cL_addsUp 416 = .ok (.aload 9, 2) := by decide +kernel
theorem dL_addsUp_418 : decode cL_addsUp 418 = .ok (.iload 11, 2) := by decide +kernel
theorem dL_addsUp_420 : decode cL_addsUp 420 = .ok (.iaload, 1) := by decide +kernel
theorem dL_addsUp_421 : decode cL_addsUp 421 = .ok (.if_icmp .ne 29, 3) := by decide +kernel
theorem dL_addsUp_424 : decode cL_addsUp 424 = .ok (.aload_n 0, 1) := by decide +kernel
theorem dL_addsUp_425 : decode cL_addsUp 425 = .ok (.getfield 10, 3) := by decide +kernel
theorem dL_addsUp_428 : decode cL_addsUp 428 = .ok (.iload 11, 2) := by decide +kernel
theorem dL_addsUp_430 : decode cL_addsUp 430 = .ok (.iconst 1, 1) := by decide +kernel
theorem dL_addsUp_431 : decode cL_addsUp 431 = .ok (.invokestatic 205, 3) := by decide +kernel
theorem dL_addsUp_434 : decode cL_addsUp 434 = .ok (.aload 10, 2) := by decide +kernel
theorem dL_addsUp_436 : decode cL_addsUp 436 = .ok (.iload 11, 2) := by decide +kernel
theorem dL_addsUp_438 : decode cL_addsUp 438 = .ok (.iaload, 1) := by decide +kernel
theorem dL_addsUp_439 : decode cL_addsUp 439 = .ok (.if_icmp .ne 11, 3) := by decide +kernel
theorem dL_addsUp_442 : decode cL_addsUp 442 = .ok (.aload 10, 2) := by decide +kernel
theorem dL_addsUp_444 : decode cL_addsUp 444 = .ok (.iload 11, 2) := by decide +kernel
theorem dL_addsUp_446 : decode cL_addsUp 446 = .ok (.iaload, 1) := by decide +kernel
theorem dL_addsUp_447 : decode cL_addsUp 447 = .ok (.ifCond .ge 5, 3) := by decide +kernel
theorem dL_addsUp_450 : decode cL_addsUp 450 = .ok (.iconst 0, 1) := by decide +kernel
theorem dL_addsUp_451 : decode cL_addsUp 451 = .ok (.ireturn, 1) := by decide +kernel
theorem dL_addsUp_452 : decode cL_addsUp 452 = .ok (.iconst (-1), 1) := by decide +kernel
theorem dL_addsUp_453 : decode cL_addsUp 453 = .ok (.istore 12, 2) := by decide +kernel
theorem dL_addsUp_455 : decode cL_addsUp 455 = .ok (.iconst 0, 1) := by decide +kernel
theorem dL_addsUp_456 : decode cL_addsUp 456 = .ok (.istore 13, 2) := by decide +kernel
theorem dL_addsUp_458 : decode cL_addsUp 458 = .ok (.aload_n 0, 1) := by decide +kernel
theorem dL_addsUp_459 : decode cL_addsUp 459 = .ok (.getfield 10, 3) := by decide +kernel
theorem dL_addsUp_462 : decode cL_addsUp 462 = .ok (.iload 11, 2) := by decide +kernel
theorem dL_addsUp_464 : decode cL_addsUp 464 = .ok (.iload 13, 2) := by decide +kernel
theorem dL_addsUp_466 : decode cL_addsUp 466 = .ok (.invokestatic 208, 3) := by decide +kernel
theorem dL_addsUp_469 : decode cL_addsUp 469 = .ok (.ifCond .lt 83, 3) := by decide +kernel
theorem dL_addsUp_472 : decode cL_addsUp 472 = .ok (.aload_n 0, 1) := by decide +kernel
theorem dL_addsUp_473 : decode cL_addsUp 473 = .ok (.getfield 10, 3) := by decide +kernel
theorem dL_addsUp_476 : decode cL_addsUp 476 = .ok (.iload 11, 2) := by decide +kernel
theorem dL_addsUp_478 : decode cL_addsUp 478 = .ok (.iload 13, 2) := by decide +kernel
theorem dL_addsUp_480 : decode cL_addsUp 480 = .ok (.invokestatic 208, 3) := by decide +kernel
theorem dL_addsUp_483 : decode cL_addsUp 483 = .ok (.istore 14, 2) := by decide +kernel
theorem dL_addsUp_485 : decode cL_addsUp 485 = .ok (.aload_n 0, 1) := by decide +kernel
theorem dL_addsUp_486 : decode cL_addsUp 486 = .ok (.getfield 10, 3) := by decide +kernel
theorem dL_addsUp_489 : decode cL_addsUp 489 = .ok (.iload 14, 2) := by decide +kernel
theorem dL_addsUp_491 : decode cL_addsUp 491 = .ok (.iconst 2, 1) := by decide +kernel
theorem dL_addsUp_492 : decode cL_addsUp 492 = .ok (.invokestatic 200, 3) := by decide +kernel
theorem dL_addsUp_495 : decode cL_addsUp 495 = .ok (.iconst 2, 1) := by decide +kernel
theorem dL_addsUp_496 : decode cL_addsUp 496 = .ok (.if_icmp .ne 33, 3) := by decide +kernel
theorem dL_addsUp_499 : decode cL_addsUp 499 = .ok (.aload_n 0, 1) := by decide +kernel
theorem dL_addsUp_500 : decode cL_addsUp 500 = .ok (.getfield 10, 3) := by decide +kernel
theorem dL_addsUp_503 : decode cL_addsUp 503 = .ok (.iload 14, 2) := by decide +kernel
theorem dL_addsUp_505 : decode cL_addsUp 505 = .ok (.iconst 3, 1) := by decide +kernel
theorem dL_addsUp_506 : decode cL_addsUp 506 = .ok (.invokestatic 200, 3) := by decide +kernel
theorem dL_addsUp_509 : decode cL_addsUp 509 = .ok (.iload 11, 2) := by decide +kernel
theorem dL_addsUp_511 : decode cL_addsUp 511 = .ok (.if_icmp .ne 18, 3) := by decide +kernel
theorem dL_addsUp_514 : decode cL_addsUp 514 = .ok (.aload_n 0, 1) := by decide +kernel
theorem dL_addsUp_515 : decode cL_addsUp 515 = .ok (.getfield 10, 3) := by decide +kernel
theorem dL_addsUp_518 : decode cL_addsUp 518 = .ok (.iload 14, 2) := by decide +kernel
theorem dL_addsUp_520 : decode cL_addsUp 520 = .ok (.iconst 5, 1) := by decide +kernel
theorem dL_addsUp_521 : decode cL_addsUp 521 = .ok (.invokestatic 200, 3) := by decide +kernel
theorem dL_addsUp_524 : decode cL_addsUp 524 = .ok (.iload 12, 2) := by decide +kernel
theorem dL_addsUp_526 : decode cL_addsUp 526 = .ok (.if_icmp .gt 5, 3) := by decide +kernel
theorem dL_addsUp_529 : decode cL_addsUp 529 = .ok (.iconst 0, 1) := by decide +kernel
theorem dL_addsUp_530 : decode cL_addsUp 530 = .ok (.ireturn, 1) := by decide +kernel
theorem dL_addsUp_531 : decode cL_addsUp 531 = .ok (.aload_n 0, 1) := by decide +kernel
theorem dL_addsUp_532 : decode cL_addsUp 532 = .ok (.getfield 10, 3) := by decide +kernel
theorem dL_addsUp_535 : decode cL_addsUp 535 = .ok (.iload 14, 2) := by decide +kernel
theorem dL_addsUp_537 : decode cL_addsUp 537 = .ok (.iconst 5, 1) := by decide +kernel
theorem dL_addsUp_538 : decode cL_addsUp 538 = .ok (.invokestatic 200, 3) := by decide +kernel
theorem dL_addsUp_541 : decode cL_addsUp 541 = .ok (.istore 12, 2) := by decide +kernel
theorem dL_addsUp_543 : decode cL_addsUp 543 = .ok (.iinc 4 (-1), 3) := by decide +kernel
theorem dL_addsUp_546 : decode cL_addsUp 546 = .ok (.iinc 13 1, 3) := by decide +kernel
theorem dL_addsUp_549 : decode cL_addsUp 549 = .ok (.goto (-91), 3) := by decide +kernel
theorem dL_addsUp_552 : decode cL_addsUp 552 = .ok (.iinc 11 1, 3) := by decide +kernel
theorem dL_addsUp_555 : decode cL_addsUp 555 = .ok (.goto (-155), 3) := by decide +kernel
theorem dL_addsUp_558 : decode cL_addsUp 558 = .ok (.iconst 0, 1) := by decide +kernel
theorem dL_addsUp_559 : decode cL_addsUp 559 = .ok (.istore 11, 2) := by decide +kernel
theorem dL_addsUp_561 : decode cL_addsUp 561 = .ok (.iload 11, 2) := by decide +kernel
theorem dL_addsUp_563 : decode cL_addsUp 563 = .ok (.iload_n 3, 1) := by decide +kernel
theorem dL_addsUp_564 : decode cL_addsUp 564 = .ok (.if_icmp .ge 43, 3) := by decide +kernel
theorem dL_addsUp_567 : decode cL_addsUp 567 = .ok (.aload_n 0, 1) := by decide +kernel
theorem dL_addsUp_568 : decode cL_addsUp 568 = .ok (.getfield 10, 3) := by decide +kernel
theorem dL_addsUp_571 : decode cL_addsUp 571 = .ok (.iload 11, 2) := by decide +kernel
theorem dL_addsUp_573 : decode cL_addsUp 573 = .ok (.invokevirtual 210, 3) := by decide +kernel
theorem dL_addsUp_576 : decode cL_addsUp 576 = .ok (.ifCond .lt 23, 3) := by decide +kernel
theorem dL_addsUp_579 : decode cL_addsUp 579 = .ok (.aload_n 0, 1) := by decide +kernel
theorem dL_addsUp_580 : decode cL_addsUp 580 = .ok (.getfield 10, 3) := by decide +kernel
theorem dL_addsUp_583 : decode cL_addsUp 583 = .ok (.aload_n 0, 1) := by decide +kernel
theorem dL_addsUp_584 : decode cL_addsUp 584 = .ok (.getfield 10, 3) := by decide +kernel
theorem dL_addsUp_587 : decode cL_addsUp 587 = .ok (.iload 11, 2) := by decide +kernel
theorem dL_addsUp_589 : decode cL_addsUp 589 = .ok (.invokevirtual 210, 3) := by decide +kernel
theorem dL_addsUp_592 : decode cL_addsUp 592 = .ok (.iconst 2, 1) := by decide +kernel
theorem dL_addsUp_593 : decode cL_addsUp 593 = .ok (.invokestatic 200, 3) := by decide +kernel
theorem dL_addsUp_596 : decode cL_addsUp 596 = .ok (.ifCond .eq 5, 3) := by decide +kernel
theorem dL_addsUp_599 : decode cL_addsUp 599 = .ok (.iconst 0, 1) := by decide +kernel
theorem dL_addsUp_600 : decode cL_addsUp 600 = .ok (.ireturn, 1) := by decide +kernel
theorem dL_addsUp_601 : decode cL_addsUp 601 = .ok (.iinc 11 1, 3) := by decide +kernel
theorem dL_addsUp_604 : decode cL_addsUp 604 = .ok (.goto (-43), 3) := by decide +kernel
theorem dL_addsUp_607 : decode cL_addsUp 607 = .ok (.aload_n 0, 1) := by decide +kernel
theorem dL_addsUp_608 : decode cL_addsUp 608 = .ok (.getfield 10, 3) := by decide +kernel
theorem dL_addsUp_611 : decode cL_addsUp 611 = .ok (.iconst 4, 1) := by decide +kernel
theorem dL_addsUp_612 : decode cL_addsUp 612 = .ok (.invokestatic 196, 3) := by decide +kernel
theorem dL_addsUp_615 : decode cL_addsUp 615 = .ok (.istore 11, 2) := by decide +kernel
theorem dL_addsUp_617 : decode cL_addsUp 617 = .ok (.aload_n 0, 1) := by decide +kernel
theorem dL_addsUp_618 : decode cL_addsUp 618 = .ok (.getfield 10, 3) := by decide +kernel
theorem dL_addsUp_621 : decode cL_addsUp 621 = .ok (.iload 8, 2) := by decide +kernel
theorem dL_addsUp_623 : decode cL_addsUp 623 = .ok (.invokestatic 213, 3) := by decide +kernel
theorem dL_addsUp_626 : decode cL_addsUp 626 = .ok (.istore 12, 2) := by decide +kernel
theorem dL_addsUp_628 : decode cL_addsUp 628 = .ok (.aload_n 0, 1) := by decide +kernel
theorem dL_addsUp_629 : decode cL_addsUp 629 = .ok (.getfield 10, 3) := by decide +kernel
theorem dL_addsUp_632 : decode cL_addsUp 632 = .ok (.iload 8, 2) := by decide +kernel
theorem dL_addsUp_634 : decode cL_addsUp 634 = .ok (.invokestatic 215, 3) := by decide +kernel
theorem dL_addsUp_637 : decode cL_addsUp 637 = .ok (.istore 13, 2) := by decide +kernel
theorem dL_addsUp_639 : decode cL_addsUp 639 = .ok (.iload 12, 2) := by decide +kernel
theorem dL_addsUp_641 : decode cL_addsUp 641 = .ok (.iload 13, 2) := by decide +kernel
theorem dL_addsUp_643 : decode cL_addsUp 643 = .ok (.aload_n 0, 1) := by decide +kernel
theorem dL_addsUp_644 : decode cL_addsUp 644 = .ok (.getfield 10, 3) := by decide +kernel
theorem dL_addsUp_647 : decode cL_addsUp 647 = .ok (.iconst 4, 1) := by decide +kernel
theorem dL_addsUp_648 : decode cL_addsUp 648 = .ok (.invokestatic 198, 3) := by decide +kernel
theorem dL_addsUp_651 : decode cL_addsUp 651 = .ok (.iadd, 1) := by decide +kernel
theorem dL_addsUp_652 : decode cL_addsUp 652 = .ok (.iload_n 2, 1) := by decide +kernel
theorem dL_addsUp_653 : decode cL_addsUp 653 = .ok (.aload_n 0, 1) := by decide +kernel
theorem dL_addsUp_654 : decode cL_addsUp 654 = .ok (.getfield 10, 3) := by decide +kernel
theorem dL_addsUp_657 : decode cL_addsUp 657 = .ok (.iconst 5, 1) := by decide +kernel
theorem dL_addsUp_658 : decode cL_addsUp 658 = .ok (.invokestatic 198, 3) := by decide +kernel
theorem dL_addsUp_661 : decode cL_addsUp 661 = .ok (.idiv, 1) := by decide +kernel
theorem dL_addsUp_662 : decode cL_addsUp 662 = .ok (.isub, 1) := by decide +kernel
theorem dL_addsUp_663 : decode cL_addsUp 663 = .ok (.if_icmp .ne 154, 3) := by decide +kernel
theorem dL_addsUp_666 : decode cL_addsUp 666 = .ok (.aload_n 0, 1) := by decide +kernel
theorem dL_addsUp_667 : decode cL_addsUp 667 = .ok (.getfield 10, 3) := by decide +kernel
theorem dL_addsUp_670 : decode cL_addsUp 670 = .ok (.invokevirtual 190, 3) := by decide +kernel
theorem dL_addsUp_673 : decode cL_addsUp 673 = .ok (.iload 11, 2) := by decide +kernel
theorem dL_addsUp_675 : decode cL_addsUp 675 = .ok (.iload 12, 2) := by decide +kernel
theorem dL_addsUp_677 : decode cL_addsUp 677 = .ok (.isub, 1) := by decide +kernel
theorem dL_addsUp_678 : decode cL_addsUp 678 = .ok (.invokestatic 217, 3) := by decide +kernel
theorem dL_addsUp_681 : decode cL_addsUp 681 = .ok (.if_icmp .ne 136, 3) := by decide +kernel
theorem dL_addsUp_684 : decode cL_addsUp 684 = .ok (.aload_n 0, 1) := by decide +kernel
theorem dL_addsUp_685 : decode cL_addsUp 685 = .ok (.getfield 10, 3) := by decide +kernel
theorem dL_addsUp_688 : decode cL_addsUp 688 = .ok (.invokevirtual 220, 3) := by decide +kernel
theorem dL_addsUp_691 : decode cL_addsUp 691 = .ok (.iload 11, 2) := by decide +kernel
theorem dL_addsUp_693 : decode cL_addsUp 693 = .ok (.aload_n 0, 1) := by decide +kernel
theorem dL_addsUp_694 : decode cL_addsUp 694 = .ok (.getfield 10, 3) := by decide +kernel
theorem dL_addsUp_697 : decode cL_addsUp 697 = .ok (.iconst 3, 1) := by decide +kernel
theorem dL_addsUp_698 : decode cL_addsUp 698 = .ok (.invokestatic 198, 3) := by decide +kernel
theorem dL_addsUp_701 : decode cL_addsUp 701 = .ok (.isub, 1) := by decide +kernel
theorem dL_addsUp_702 : decode cL_addsUp 702 = .ok (.invokestatic 217, 3) := by decide +kernel
theorem dL_addsUp_705 : decode cL_addsUp 705 = .ok (.if_icmp .ne 112, 3) := by decide +kernel
theorem dL_addsUp_708 : decode cL_addsUp 708 = .ok (.iload 13, 2) := by decide +kernel
theorem dL_addsUp_710 : decode cL_addsUp 710 = .ok (.aload_n 0, 1) := by decide +kernel
theorem dL_addsUp_711 : decode cL_addsUp 711 = .ok (.getfield 10, 3) := by decide +kernel
theorem dL_addsUp_714 : decode cL_addsUp 714 = .ok (.iconst 0, 1) := by decide +kernel
theorem dL_addsUp_715 : decode cL_addsUp 715 = .ok (.invokestatic 198, 3) := by decide +kernel
theorem dL_addsUp_718 : decode cL_addsUp 718 = .ok (.if_icmp .lt 99, 3) := by decide +kernel
theorem dL_addsUp_721 : decode cL_addsUp 721 = .ok (.iload 13, 2) := by decide +kernel
theorem dL_addsUp_723 : decode cL_addsUp 723 = .ok (.aload_n 0, 1) := by decide +kernel
theorem dL_addsUp_724 : decode cL_addsUp 724 = .ok (.getfield 10, 3) := by decide +kernel
theorem dL_addsUp_727 : decode cL_addsUp 727 = .ok (.iconst 1, 1) := by decide +kernel
theorem dL_addsUp_728 : decode cL_addsUp 728 = .ok (.invokestatic 198, 3) := by decide +kernel
theorem dL_addsUp_731 : decode cL_addsUp 731 = .ok (.if_icmp .gt 86, 3) := by decide +kernel
theorem dL_addsUp_734 : decode cL_addsUp 734 = .ok (.aload_n 0, 1) := by decide +kernel
theorem dL_addsUp_735 : decode cL_addsUp 735 = .ok (.getfield 10, 3) := by decide +kernel
theorem dL_addsUp_738 : decode cL_addsUp 738 = .ok (.iload 8, 2) := by decide +kernel
theorem dL_addsUp_740 : decode cL_addsUp 740 = .ok (.aload_n 0, 1) := by decide +kernel
theorem dL_addsUp_741 : decode cL_addsUp 741 = .ok (.getfield 10, 3) := by decide +kernel
theorem dL_addsUp_744 : decode cL_addsUp 744 = .ok (.iconst 1, 1) := by decide +kernel
theorem dL_addsUp_745 : decode cL_addsUp 745 = .ok (.invokevirtual 223, 3) := by decide +kernel
theorem dL_addsUp_748 : decode cL_addsUp 748 = .ok (.iadd, 1) := by decide +kernel
theorem dL_addsUp_749 : decode cL_addsUp 749 = .ok (.invokestatic 215, 3) := by decide +kernel
theorem dL_addsUp_752 : decode cL_addsUp 752 = .ok (.aload_n 0, 1) := by decide +kernel
theorem dL_addsUp_753 : decode cL_addsUp 753 = .ok (.getfield 10, 3) := by decide +kernel
theorem dL_addsUp_756 : decode cL_addsUp 756 = .ok (.iconst 1, 1) := by decide +kernel
theorem dL_addsUp_757 : decode cL_addsUp 757 = .ok (.invokestatic 198, 3) := by decide +kernel
theorem dL_addsUp_760 : decode cL_addsUp 760 = .ok (.if_icmp .ne 57, 3) := by decide +kernel
theorem dL_addsUp_763 : decode cL_addsUp 763 = .ok (.aload_n 0, 1) := by decide +kernel
theorem dL_addsUp_764 : decode cL_addsUp 764 = .ok (.getfield 10, 3) := by decide +kernel
theorem dL_addsUp_767 : decode cL_addsUp 767 = .ok (.iload 8, 2) := by decide +kernel
theorem dL_addsUp_769 : decode cL_addsUp 769 = .ok (.aload_n 0, 1) := by decide +kernel
theorem dL_addsUp_770 : decode cL_addsUp 770 = .ok (.getfield 10, 3) := by decide +kernel
theorem dL_addsUp_773 : decode cL_addsUp 773 = .ok (.iconst 0, 1) := by decide +kernel
theorem dL_addsUp_774 : decode cL_addsUp 774 = .ok (.invokevirtual 223, 3) := by decide +kernel
theorem dL_addsUp_777 : decode cL_addsUp 777 = .ok (.iadd, 1) := by decide +kernel
theorem dL_addsUp_778 : decode cL_addsUp 778 = .ok (.invokestatic 215, 3) := by decide +kernel
theorem dL_addsUp_781 : decode cL_addsUp 781 = .ok (.aload_n 0, 1) := by decide +kernel
theorem dL_addsUp_782 : decode cL_addsUp 782 = .ok (.getfield 10, 3) := by decide +kernel
theorem dL_addsUp_785 : decode cL_addsUp 785 = .ok (.iconst 0, 1) := by decide +kernel
theorem dL_addsUp_786 : decode cL_addsUp 786 = .ok (.invokestatic 198, 3) := by decide +kernel
theorem dL_addsUp_789 : decode cL_addsUp 789 = .ok (.if_icmp .ne 28, 3) := by decide +kernel
theorem dL_addsUp_792 : decode cL_addsUp 792 = .ok (.aload_n 0, 1) := by decide +kernel
theorem dL_addsUp_793 : decode cL_addsUp 793 = .ok (.getfield 10, 3) := by decide +kernel
theorem dL_addsUp_796 : decode cL_addsUp 796 = .ok (.iload 8, 2) := by decide +kernel
theorem dL_addsUp_798 : decode cL_addsUp 798 = .ok (.iconst 2, 1) := by decide +kernel
theorem dL_addsUp_799 : decode cL_addsUp 799 = .ok (.aload_n 0, 1) := by decide +kernel
theorem dL_addsUp_800 : decode cL_addsUp 800 = .ok (.getfield 10, 3) := by decide +kernel
theorem dL_addsUp_803 : decode cL_addsUp 803 = .ok (.iconst 2, 1) := by decide +kernel
theorem dL_addsUp_804 : decode cL_addsUp 804 = .ok (.invokestatic 198, 3) := by decide +kernel
theorem dL_addsUp_807 : decode cL_addsUp 807 = .ok (.imul, 1) := by decide +kernel
theorem dL_addsUp_808 : decode cL_addsUp 808 = .ok (.iadd, 1) := by decide +kernel
theorem dL_addsUp_809 : decode cL_addsUp 809 = .ok (.invokestatic 215, 3) := by decide +kernel
theorem dL_addsUp_812 : decode cL_addsUp 812 = .ok (.iload 13, 2) := by decide +kernel
theorem dL_addsUp_814 : decode cL_addsUp 814 = .ok (.if_icmp .eq 5, 3) := by decide +kernel
theorem dL_addsUp_817 : decode cL_addsUp 817 = .ok (.iconst 0, 1) := by decide +kernel
theorem dL_addsUp_818 : decode cL_addsUp 818 = .ok (.ireturn, 1) := by decide +kernel
theorem dL_addsUp_819 : decode cL_addsUp 819 = .ok (.iload 4, 2) := by decide +kernel
theorem dL_addsUp_821 : decode cL_addsUp 821 = .ok (.ifCond .ne 211, 3) := by decide +kernel
theorem dL_addsUp_824 : decode cL_addsUp 824 = .ok (.iload_n 3, 1) := by decide +kernel
theorem dL_addsUp_825 : decode cL_addsUp 825 = .ok (.aload_n 0, 1) := by decide +kernel
theorem dL_addsUp_826 : decode cL_addsUp 826 = .ok (.getfield 10, 3) := by decide +kernel
theorem dL_addsUp_829 : decode cL_addsUp 829 = .ok (.iconst 1, 1) := by decide +kernel
theorem dL_addsUp_830 : decode cL_addsUp 830 = .ok (.invokestatic 196, 3) := by decide +kernel
theorem dL_addsUp_833 : decode cL_addsUp 833 = .ok (.if_icmp .ne 199, 3) := by decide +kernel
theorem dL_addsUp_836 : decode cL_addsUp 836 = .ok (.iload_n 2, 1) := by decide +kernel
theorem dL_addsUp_837 : decode cL_addsUp 837 = .ok (.aload_n 0, 1) := by decide +kernel
theorem dL_addsUp_838 : decode cL_addsUp 838 = .ok (.getfield 10, 3) := by decide +kernel
theorem dL_addsUp_841 : decode cL_addsUp 841 = .ok (.bipush 7, 2) := by decide +kernel
theorem dL_addsUp_843 : decode cL_addsUp 843 = .ok (.invokestatic 196, 3) := by decide +kernel
theorem dL_addsUp_846 : decode cL_addsUp 846 = .ok (.if_icmp .ne 186, 3) := by decide +kernel
theorem dL_addsUp_849 : decode cL_addsUp 849 = .ok (.iload_n 2, 1) := by decide +kernel
theorem dL_addsUp_850 : decode cL_addsUp 850 = .ok (.aload_n 0, 1) := by decide +kernel
theorem dL_addsUp_851 : decode cL_addsUp 851 = .ok (.getfield 10, 3) := by decide +kernel
theorem dL_addsUp_854 : decode cL_addsUp 854 = .ok (.bipush 7, 2) := by decide +kernel
theorem dL_addsUp_856 : decode cL_addsUp 856 = .ok (.invokestatic 198, 3) := by decide +kernel
theorem dL_addsUp_859 : decode cL_addsUp 859 = .ok (.if_icmp .gt 173, 3) := by decide +kernel
theorem dL_addsUp_862 : decode cL_addsUp 862 = .ok (.iload 7, 2) := by decide +kernel
theorem dL_addsUp_864 : decode cL_addsUp 864 = .ok (.aload_n 0, 1) := by decide +kernel
theorem dL_addsUp_865 : decode cL_addsUp 865 = .ok (.getfield 10, 3) := by decide +kernel
theorem dL_addsUp_868 : decode cL_addsUp 868 = .ok (.bipush 8, 2) := by decide +kernel
theorem dL_addsUp_870 : decode cL_addsUp 870 = .ok (.invokestatic 196, 3) := by decide +kernel
theorem dL_addsUp_873 : decode cL_addsUp 873 = .ok (.if_icmp .ne 159, 3) := by decide +kernel
theorem dL_addsUp_876 : decode cL_addsUp 876 = .ok (.iload 6, 2) := by decide +kernel
theorem dL_addsUp_878 : decode cL_addsUp 878 = .ok (.aload_n 0, 1) := by decide +kernel
theorem dL_addsUp_879 : decode cL_addsUp 879 = .ok (.getfield 10, 3) := by decide +kernel
theorem dL_addsUp_882 : decode cL_addsUp 882 = .ok (.bipush 13, 2) := by decide +kernel
theorem dL_addsUp_884 : decode cL_addsUp 884 = .ok (.invokestatic 196, 3) := by decide +kernel
theorem dL_addsUp_887 : decode cL_addsUp 887 = .ok (.if_icmp .ne 145, 3) := by decide +kernel
theorem dL_addsUp_890 : decode cL_addsUp 890 = .ok (.iload 5, 2) := by decide +kernel
theorem dL_addsUp_892 : decode cL_addsUp 892 = .ok (.aload_n 0, 1) := by decide +kernel
theorem dL_addsUp_893 : decode cL_addsUp 893 = .ok (.getfield 10, 3) := by decide +kernel
theorem dL_addsUp_896 : decode cL_addsUp 896 = .ok (.bipush 14, 2) := by decide +kernel
theorem dL_addsUp_898 : decode cL_addsUp 898 = .ok (.invokestatic 196, 3) := by decide +kernel
theorem dL_addsUp_901 : decode cL_addsUp 901 = .ok (.if_icmp .ne 131, 3) := by decide +kernel
theorem dL_addsUp_904 : decode cL_addsUp 904 = .ok (.aload_n 0, 1) := by decide +kernel
theorem dL_addsUp_905 : decode cL_addsUp 905 = .ok (.getfield 10, 3) := by decide +kernel
theorem dL_addsUp_908 : decode cL_addsUp 908 = .ok (.invokevirtual 227, 3) := by decide +kernel
theorem dL_addsUp_911 : decode cL_addsUp 911 = .ok (.aload 9, 2) := by decide +kernel
theorem dL_addsUp_913 : decode cL_addsUp 913 = .ok (.iconst 0, 1) := by decide +kernel
theorem dL_addsUp_914 : decode cL_addsUp 914 = .ok (.iaload, 1) := by decide +kernel
theorem dL_addsUp_915 : decode cL_addsUp 915 = .ok (.aload 9, 2) := by decide +kernel
theorem dL_addsUp_917 : decode cL_addsUp 917 = .ok (.iconst 2, 1) := by decide +kernel
theorem dL_addsUp_918 : decode cL_addsUp 918 = .ok (.iaload, 1) := by decide +kernel
theorem dL_addsUp_919 : decode cL_addsUp 919 = .ok (.isub, 1) := by decide +kernel
theorem dL_addsUp_920 : decode cL_addsUp 920 = .ok (.if_icmp .ne 112, 3) := by decide +kernel
theorem dL_addsUp_923 : decode cL_addsUp 923 = .ok (.aload_n 0, 1) := by decide +kernel
theorem dL_addsUp_924 : decode cL_addsUp 924 = .ok (.getfield 10, 3) := by decide +kernel
theorem dL_addsUp_927 : decode cL_addsUp 927 = .ok (.iload_n 3, 1) := by decide +kernel
theorem dL_addsUp_928 : decode cL_addsUp 928 = .ok (.invokevirtual 210, 3) := by decide +kernel
theorem dL_addsUp_931 : decode cL_addsUp 931 = .ok (.iconst (-1), 1) := by decide +kernel
theorem dL_addsUp_932 : decode cL_addsUp 932 = .ok (.if_icmp .ne 100, 3) := by decide +kernel
theorem dL_addsUp_935 : decode cL_addsUp 935 = .ok (.aload_n 0, 1) := by decide +kernel
theorem dL_addsUp_936 : decode cL_addsUp 936 = .ok (.getfield 10, 3) := by decide +kernel
theorem dL_addsUp_939 : decode cL_addsUp 939 = .ok (.bipush 6, 2) := by decide +kernel
theorem dL_addsUp_941 : decode cL_addsUp 941 = .ok (.invokestatic 196, 3) := by decide +kernel
theorem dL_addsUp_944 : decode cL_addsUp 944 = .ok (.ifCond .eq 15, 3) := by decide +kernel
theorem dL_addsUp_947 : decode cL_addsUp 947 = .ok (.aload_n 0, 1) := by decide +kernel
theorem dL_addsUp_948 : decode cL_addsUp 948 = .ok (.getfield 10, 3) := by decide +kernel
theorem dL_addsUp_951 : decode cL_addsUp 951 = .ok (.iconst 5, 1) := by decide +kernel
theorem dL_addsUp_952 : decode cL_addsUp 952 = .ok (.invokestatic 196, 3) := by decide +kernel
theorem dL_addsUp_955 : decode cL_addsUp 955 = .ok (.iconst 1, 1) := by decide +kernel
theorem dL_addsUp_956 : decode cL_addsUp 956 = .ok (.if_icmp .ne 76, 3) := by decide +kernel
theorem dL_addsUp_959 : decode cL_addsUp 959 = .ok (.iload 7, 2) := by decide +kernel
theorem dL_addsUp_961 : decode cL_addsUp 961 = .ok (.ifCond .ge 15, 3) := by decide +kernel
theorem dL_addsUp_964 : decode cL_addsUp 964 = .ok (.aload_n 0, 1) := by decide +kernel
theorem dL_addsUp_965 : decode cL_addsUp 965 = .ok (.getfield 10, 3) := by decide +kernel
theorem dL_addsUp_968 : decode cL_addsUp 968 = .ok (.bipush 9, 2) := by decide +kernel
theorem dL_addsUp_970 : decode cL_addsUp 970 = .ok (.invokestatic 196, 3) := by decide +kernel
theorem dL_addsUp_973 : decode cL_addsUp 973 = .ok (.ifCond .ne 59, 3) := by decide +kernel
theorem dL_addsUp_976 : decode cL_addsUp 976 = .ok (.aload_n 0, 1) := by decide +kernel
theorem dL_addsUp_977 : decode cL_addsUp 977 = .ok (.getfield 10, 3) := by decide +kernel
theorem dL_addsUp_980 : decode cL_addsUp 980 = .ok (.bipush 9, 2) := by decide +kernel
theorem dL_addsUp_982 : decode cL_addsUp 982 = .ok (.invokestatic 196, 3) := by decide +kernel
theorem dL_addsUp_985 : decode cL_addsUp 985 = .ok (.iconst 2, 1) := by decide +kernel
theorem dL_addsUp_986 : decode cL_addsUp 986 = .ok (.aload_n 0, 1) := by decide +kernel
theorem dL_addsUp_987 : decode cL_addsUp 987 = .ok (.getfield 10, 3) := by decide +kernel
theorem dL_addsUp_990 : decode cL_addsUp 990 = .ok (.bipush 12, 2) := by decide +kernel
theorem dL_addsUp_992 : decode cL_addsUp 992 = .ok (.invokestatic 198, 3) := by decide +kernel
theorem dL_addsUp_995 : decode cL_addsUp 995 = .ok (.bipush 20, 2) := by decide +kernel
theorem dL_addsUp_997 : decode cL_addsUp 997 = .ok (.iadd, 1) := by decide +kernel
theorem dL_addsUp_998 : decode cL_addsUp 998 = .ok (.invokestatic 33, 3) := by decide +kernel
theorem dL_addsUp_1001 : decode cL_addsUp 1001 = .ok (.if_icmp .ge 31, 3) := by decide +kernel
theorem dL_addsUp_1004 : decode cL_addsUp 1004 = .ok (.aload_n 0, 1) := by decide +kernel
theorem dL_addsUp_1005 : decode cL_addsUp 1005 = .ok (.getfield 10, 3) := by decide +kernel
theorem dL_addsUp_1008 : decode cL_addsUp 1008 = .ok (.invokevirtual 230, 3) := by decide +kernel
theorem dL_addsUp_1011 : decode cL_addsUp 1011 = .ok (.iload_n 2, 1) := by decide +kernel
theorem dL_addsUp_1012 : decode cL_addsUp 1012 = .ok (.i2f, 1) := by decide +kernel
theorem dL_addsUp_1013 : decode cL_addsUp 1013 = .ok (.aload_n 0, 1) := by decide +kernel
theorem dL_addsUp_1014 : decode cL_addsUp 1014 = .ok (.getfield 10, 3) := by decide +kernel
theorem dL_addsUp_1017 : decode cL_addsUp 1017 = .ok (.bipush 7, 2) := by decide +kernel
theorem dL_addsUp_1019 : decode cL_addsUp 1019 = .ok (.invokestatic 198, 3) := by decide +kernel
theorem dL_addsUp_1022 : decode cL_addsUp 1022 = .ok (.i2f, 1) := by decide +kernel
theorem dL_addsUp_1023 : decode cL_addsUp 1023 = .ok (.fdiv, 1) := by decide +kernel
theorem dL_addsUp_1024 : decode cL_addsUp 1024 = .ok (.fcmp .l, 1) := by decide +kernel
theorem dL_addsUp_1025 : decode cL_addsUp 1025 = .ok (.ifCond .ne 7, 3) := by decide +kernel
theorem dL_addsUp_1028 : decode cL_addsUp 1028 = .ok (.iconst 1, 1) := by decide +kernel
theorem dL_addsUp_1029 : decode cL_addsUp 1029 = .ok (.goto 4, 3) := by decide +kernel
theorem dL_addsUp_1032 : decode cL_addsUp 1032 = .ok (.iconst 0, 1) := by decide +kernel
theorem dL_addsUp_1033 : decode cL_addsUp 1033 = .ok (.ireturn, 1) := by decide +kernel
set_option maxRecDepth 20000 in
theorem ggL_ticks_L_count : GoodIn wsL_ticks wsL_count := goodIn_ca (goodIn_r _ [12, 13, 14, 15, 16, 17, 18, 19, 20, 21, 22, 23, 24, 233, 234, 235, 236, 237, 238, 239, 240, 241, 242, 243, 244, 245, 246, 247, 248, 249, 250, 251, 252, 253, 254, 255, 256, 257] (by decide +kernel) (by decide +kernel)) (goodIn_sub (fun _ h => List.mem_cons_of_mem _ (List.mem_append_left _ (List.mem_append_right _ h))) (by decide +kernel))
set_option maxRecDepth 20000 in
theorem gL_ticks_L_count : GoodIn wsL_ticks (va_wsS RL 196 yL_count wsL_count) := goodIn_app (goodIn_of _ (by decide +kernel)) ggL_ticks_L_count
set_option maxRecDepth 20000 in
theorem ggL_ticks_X9_queued : GoodIn wsL_ticks wsX9_queued := goodIn_r _ [28, 23, 24, 29, 30, 31, 17, 32, 233, 234, 235, 236, 237, 238, 239, 240, 241, 245, 246, 247, 248, 249, 250, 251, 252, 253, 254, 255, 256, 257] (by decide +kernel) (by decide +kernel)
set_option maxRecDepth 20000 in
theorem gL_ticks_X9_queued : GoodIn wsL_ticks (wsV RL 210 RX9 yX9_queued wsX9_queued) := goodIn_app (goodIn_of _ (by decide +kernel)) ggL_ticks_X9_queued
set_option maxRecDepth 20000 in
theorem ggL_ticks_X9_startIn : GoodIn wsL_ticks wsX9_startIn := goodIn_r _ [36, 37, 23, 24, 38, 39, 40, 41, 42, 43, 44, 45, 46, 47, 48, 49, 50, 51, 52, 53, 54, 55, 56, 57, 58, 59, 60, 61, 62, 63, 64, 65, 66, 67, 68, 69, 70, 71, 72, 73, 74, 75, 76, 77, 78, 79, 80, 17, 81, 82, 83, 84, 85, 86, 87, 88, 89, 90, 91, 92, 93, 94, 95, 96, 97, 98, 99, 100, 101, 102, 103, 104, 105, 106, 107, 108, 109, 110, 111, 112, 113, 114, 115, 116, 117, 118, 119, 120, 121, 122, 123, 124, 125, 126, 127, 128, 129, 130, 131, 132, 133, 31, 32, 134, 135, 136, 137, 138, 139, 140, 141, 142, 143, 144, 145, 233, 234, 235, 236, 237, 238, 239, 240, 241, 245, 246, 247, 248, 249, 250, 251, 252, 253, 254, 255, 256, 257] (by decide +kernel) (by decide +kernel)
set_option maxRecDepth 20000 in
theorem gL_ticks_X9_startIn : GoodIn wsL_ticks (wsV RL 234 RX9 yX9_startIn wsX9_startIn) := goodIn_app (goodIn_of _ (by decide +kernel)) ggL_ticks_X9_startIn
set_option maxRecDepth 20000 in
theorem ggL_ticks_L_boardIn : GoodIn wsL_ticks wsL_boardIn := goodIn_ca (goodIn_r _ [148, 13, 149, 150, 151, 17, 152, 19, 20, 37, 23, 38, 39, 40, 41, 42, 43, 44, 45, 46, 47, 48, 49, 50, 51, 52, 53, 54, 55, 56, 57, 58, 59, 60, 61, 62, 63, 64, 65, 66, 67, 68, 69, 70, 71, 72, 73, 74, 75, 76, 77, 78, 79, 80, 81, 82, 83, 84, 85, 86, 87, 88, 89, 90, 91, 92, 93, 94, 95, 96, 97, 98, 99, 100, 101, 102, 103, 104, 105, 106, 107, 108, 109, 110, 111, 112, 113, 114, 115, 116, 117, 118, 119, 120, 121, 122, 123, 124, 125, 126, 127, 128, 129, 130, 131, 132, 133, 31, 32, 134, 135, 136, 137, 138, 139, 140, 141, 142, 143, 144, 145, 233, 234, 235, 236, 237, 238, 239, 240, 241, 245, 246, 247, 248, 249, 250, 251, 252, 253, 254, 255, 256, 257] (by decide +kernel) (by decide +kernel)) (goodIn_sub (fun _ h => List.mem_cons_of_mem _ (List.mem_append_left _ (List.mem_append_right _ h))) (by decide +kernel))
set_option maxRecDepth 20000 in
theorem gL_ticks_L_boardIn : GoodIn wsL_ticks (va_wsS RL 237 yL_boardIn wsL_boardIn) := goodIn_app (goodIn_of _ (by decide +kernel)) ggL_ticks_L_boardIn
set_option maxRecDepth 20000 in
theorem ggL_ticks_X9_wakesIn : GoodIn wsL_ticks wsX9_wakesIn := goodIn_r _ [156, 37, 23, 24, 38, 39, 40, 41, 42, 43, 44, 45, 46, 47, 48, 49, 50, 51, 52, 53, 54, 55, 56, 57, 58, 59, 60, 61, 62, 63, 64, 65, 66, 67, 68, 69, 70, 71, 72, 73, 74, 75, 76, 77, 78, 79, 80, 17, 81, 82, 83, 84, 85, 86, 87, 88, 89, 90, 91, 92, 93, 94, 95, 96, 97, 98, 99, 100, 101, 102, 103, 104, 105, 106, 107, 108, 109, 110, 111, 112, 113, 114, 115, 116, 117, 118, 119, 120, 121, 122, 123, 124, 125, 126, 127, 128, 129, 130, 131, 132, 133, 31, 32, 134, 135, 136, 137, 138, 139, 140, 141, 142, 143, 144, 145, 233, 234, 235, 236, 237, 238, 239, 240, 241, 245, 246, 247, 248, 249, 250, 251, 252, 253, 254, 255, 256, 257] (by decide +kernel) (by decide +kernel)
set_option maxRecDepth 20000 in
theorem gL_ticks_X9_wakesIn : GoodIn wsL_ticks (wsV RL 239 RX9 yX9_wakesIn wsX9_wakesIn) := goodIn_app (goodIn_of _ (by decide +kernel)) ggL_ticks_X9_wakesIn
set_option maxRecDepth 20000 in
theorem ggL_ticks_L_setting : GoodIn wsL_ticks wsL_setting := goodIn_ca (goodIn_r _ [159, 13, 160, 161, 162, 17, 163, 19, 20, 23, 164, 233, 234, 235, 236, 237, 238, 239, 240, 241, 245, 246, 247, 248, 249, 250, 251, 252, 253, 254, 255, 256, 257] (by decide +kernel) (by decide +kernel)) (goodIn_sub (fun _ h => List.mem_cons_of_mem _ (List.mem_append_left _ (List.mem_append_right _ h))) (by decide +kernel))
set_option maxRecDepth 20000 in
theorem gL_ticks_L_setting : GoodIn wsL_ticks (va_wsS RL 198 yL_setting wsL_setting) := goodIn_app (goodIn_of _ (by decide +kernel)) ggL_ticks_L_setting
set_option maxRecDepth 20000 in
theorem ggL_ticks_L_deck : GoodIn wsL_ticks wsL_deck := goodIn_ca (goodIn_r _ [167, 13, 168, 169, 170, 17, 171, 19, 20, 23, 172, 69, 70, 41, 71, 48, 43, 72, 73, 74, 75, 233, 234, 235, 236, 237, 238, 239, 240, 241, 245, 246, 247, 248, 249, 250, 251, 252, 253, 254, 255, 256, 257] (by decide +kernel) (by decide +kernel)) (goodIn_sub (fun _ h => List.mem_cons_of_mem _ (List.mem_append_left _ (List.mem_append_right _ h))) (by decide +kernel))
set_option maxRecDepth 20000 in
theorem gL_ticks_L_deck : GoodIn wsL_ticks (va_wsS RL 213 yL_deck wsL_deck) := goodIn_app (goodIn_of _ (by decide +kernel)) ggL_ticks_L_deck
set_option maxRecDepth 20000 in
theorem ggL_ticks_L_tick : GoodIn wsL_ticks wsL_tick := goodIn_ca (goodIn_r _ [175, 13, 176, 177, 178, 17, 179, 19, 20, 180, 181, 182, 183, 23, 184, 185, 186, 187, 21, 188, 189, 190, 191, 192, 193, 194, 195, 196, 197, 39, 40, 41, 42, 43, 44, 45, 46, 47, 48, 49, 50, 51, 52, 53, 54, 55, 56, 57, 58, 59, 60, 61, 62, 63, 64, 65, 66, 67, 68, 69, 70, 71, 72, 73, 74, 75, 76, 77, 78, 79, 80, 81, 82, 83, 84, 85, 86, 87, 88, 89, 90, 91, 92, 93, 94, 95, 96, 97, 98, 99, 100, 101, 102, 103, 104, 105, 106, 107, 108, 109, 110, 111, 112, 113, 114, 115, 116, 117, 118, 119, 120, 121, 122, 123, 124, 125, 126, 127, 128, 129, 130, 131, 132, 133, 31, 32, 134, 135, 136, 137, 138, 139, 140, 141, 142, 143, 144, 145, 233, 234, 235, 236, 237, 238, 239, 240, 241, 242, 243, 244, 245, 246, 247, 248, 249, 250, 251, 252, 253, 254, 255, 256, 257] (by decide +kernel) (by decide +kernel)) (goodIn_sub (fun _ h => List.mem_cons_of_mem _ (List.mem_append_left _ (List.mem_append_right _ h))) (by decide +kernel))
set_option maxRecDepth 20000 in
theorem gL_ticks_L_tick : GoodIn wsL_ticks (va_wsS RL 242 yL_tick wsL_tick) := goodIn_app (goodIn_of _ (by decide +kernel)) ggL_ticks_L_tick
set_option maxRecDepth 20000 in
theorem ggL_ticks_L_car : GoodIn wsL_ticks wsL_car := goodIn_ca (goodIn_ca (goodIn_r _ [200, 201, 13, 202, 203, 204, 17, 205, 206, 207, 19, 20, 23, 24, 208, 99, 100, 41, 101, 50, 233, 234, 235, 236, 237, 238, 239, 240, 241, 245, 246, 247, 248, 249, 250, 251, 252, 253, 254, 255, 256, 257] (by decide +kernel) (by decide +kernel)) (goodIn_sub (fun _ h => List.mem_cons_of_mem _ (List.mem_append_right _ h)) (by decide +kernel))) (goodIn_sub (fun _ h => List.mem_cons_of_mem _ (List.mem_append_left _ (List.mem_append_right _ h))) (by decide +kernel))
set_option maxRecDepth 20000 in
theorem gL_ticks_L_car : GoodIn wsL_ticks (va_wsS RL 200 yL_car wsL_car) := goodIn_app (goodIn_of _ (by decide +kernel)) ggL_ticks_L_car
set_option maxRecDepth 20000 in
theorem ggL_ticks_L_call : GoodIn wsL_ticks wsL_call := goodIn_ca (goodIn_ca (goodIn_r _ [211, 201, 13, 212, 213, 214, 17, 215, 206, 207, 19, 20, 23, 24, 216, 30, 31, 32, 233, 234, 235, 236, 237, 238, 239, 240, 241, 245, 246, 247, 248, 249, 250, 251, 252, 253, 254, 255, 256, 257] (by decide +kernel) (by decide +kernel)) (goodIn_sub (fun _ h => List.mem_cons_of_mem _ (List.mem_append_right _ h)) (by decide +kernel))) (goodIn_sub (fun _ h => List.mem_cons_of_mem _ (List.mem_append_left _ (List.mem_append_right _ h))) (by decide +kernel))
set_option maxRecDepth 20000 in
theorem gL_ticks_L_call : GoodIn wsL_ticks (va_wsS RL 247 yL_call wsL_call) := goodIn_app (goodIn_of _ (by decide +kernel)) ggL_ticks_L_call
set_option maxRecDepth 20000 in
theorem ggL_ticks_L_whyNot : GoodIn wsL_ticks wsL_whyNot := goodIn_ca (goodIn_r _ [219, 201, 220, 221, 222, 17, 223, 206, 207, 23, 224, 225, 226, 41, 227, 43, 51, 228, 119, 120, 121, 48, 58, 59, 98, 99, 100, 101, 50, 102, 103, 104, 105, 49, 122, 123, 124, 125, 55, 126, 127, 128, 129, 54, 233, 234, 235, 236, 237, 238, 239, 240, 241, 245, 246, 247, 248, 249, 250, 251, 252, 253, 254, 255, 256, 257] (by decide +kernel) (by decide +kernel)) (goodIn_sub (fun _ h => List.mem_cons_of_mem _ (List.mem_append_right _ h)) (by decide +kernel))
set_option maxRecDepth 20000 in
theorem gL_ticks_L_whyNot : GoodIn wsL_ticks (va_wsS RL 249 yL_whyNot wsL_whyNot) := goodIn_app (goodIn_of _ (by decide +kernel)) ggL_ticks_L_whyNot
theorem dL_ticks_0 : decode cL_ticks 0 = .ok (.aload_n 0, 1) := by decide +kernel
theorem dL_ticks_1 : decode cL_ticks 1 = .ok (.getfield 10, 3) := by decide +kernel
theorem dL_ticks_4 : decode cL_ticks 4 = .ok (.bipush 8, 2) := by decide +kernel
theorem dL_ticks_6 : decode cL_ticks 6 = .ok (.invokestatic 196, 3) := by decide +kernel
theorem dL_ticks_9 : decode cL_ticks 9 = .ok (.istore_n 1, 1) := by decide +kernel
theorem dL_ticks_10 : decode cL_ticks 10 = .ok (.aload_n 0, 1) := by decide +kernel
theorem dL_ticks_11 : decode cL_ticks 11 = .ok (.getfield 10, 3) := by decide +kernel
theorem dL_ticks_14 : decode cL_ticks 14 = .ok (.bipush 9, 2) := by decide +kernel
theorem dL_ticks_16 : decode cL_ticks 16 = .ok (.invokestatic 196, 3) := by decide +kernel
theorem dL_ticks_19 : decode cL_ticks 19 = .ok (.istore_n 2, 1) := by decide +kernel
theorem dL_ticks_20 : decode cL_ticks 20 = .ok (.aload_n 0, 1) := by decide +kernel
theorem dL_ticks_21 : decode cL_ticks 21 = .ok (.getfield 10, 3) := by decide +kernel
theorem dL_ticks_24 : decode cL_ticks 24 = .ok (.bipush 10, 2) := by decide +kernel
theorem dL_ticks_26 : decode cL_ticks 26 = .ok (.invokestatic 196, 3) := by decide +kernel
theorem dL_ticks_29 : decode cL_ticks 29 = .ok (.istore_n 3, 1) := by decide +kernel
theorem dL_ticks_30 : decode cL_ticks 30 = .ok (.aload_n 0, 1) := by decide +kernel
theorem dL_ticks_31 : decode cL_ticks 31 = .ok (.getfield 10, 3) := by decide +kernel
theorem dL_ticks_34 : decode cL_ticks 34 = .ok (.iconst 4, 1) := by decide +kernel
theorem dL_ticks_35 : decode cL_ticks 35 = .ok (.invokestatic 196, 3) := by decide +kernel
theorem dL_ticks_38 : decode cL_ticks 38 = .ok (.istore 4, 2) := by decide +kernel
theorem dL_ticks_40 : decode cL_ticks 40 = .ok (.aload_n 0, 1) := by decide +kernel
theorem dL_ticks_41 : decode cL_ticks 41 = .ok (.getfield 10, 3) := by decide +kernel
theorem dL_ticks_44 : decode cL_ticks 44 = .ok (.iconst 5, 1) := by decide +kernel
theorem dL_ticks_45 : decode cL_ticks 45 = .ok (.invokestatic 196, 3) := by decide +kernel
theorem dL_ticks_48 : decode cL_ticks 48 = .ok (.istore 5, 2) := by decide +kernel
theorem dL_ticks_50 : decode cL_ticks 50 = .ok (.aload_n 0, 1) := by decide +kernel
theorem dL_ticks_51 : decode cL_ticks 51 = .ok (.getfield 10, 3) := by decide +kernel
theorem dL_ticks_54 : decode cL_ticks 54 = .ok (.bipush 6, 2) := by decide +kernel
theorem dL_ticks_56 : decode cL_ticks 56 = .ok (.invokestatic 196, 3) := by decide +kernel
theorem dL_ticks_59 : decode cL_ticks 59 = .ok (.istore 6, 2) := by decide +kernel
theorem dL_ticks_61 : decode cL_ticks 61 = .ok (.aload_n 0, 1) := by decide +kernel
theorem dL_ticks_62 : decode cL_ticks 62 = .ok (.getfield 10, 3) := by decide +kernel
theorem dL_ticks_65 : decode cL_ticks 65 = .ok (.iconst 0, 1) := by decide +kernel
theorem dL_ticks_66 : decode cL_ticks 66 = .ok (.invokevirtual 210, 3) := by decide +kernel
theorem dL_ticks_69 : decode cL_ticks 69 = .ok (.istore 7, 2) := by decide +kernel
theorem dL_ticks_71 : decode cL_ticks 71 = .ok (.aload_n 0, 1) := by decide +kernel
theorem dL_ticks_72 : decode cL_ticks 72 = .ok (.getfield 10, 3) := by decide +kernel
theorem dL_ticks_75 : decode cL_ticks 75 = .ok (.bipush 11, 2) := by decide +kernel
theorem dL_ticks_77 : decode cL_ticks 77 = .ok (.invokestatic 196, 3) := by decide +kernel
theorem dL_ticks_80 : decode cL_ticks 80 = .ok (.istore 8, 2) := by decide +kernel
theorem dL_ticks_82 : decode cL_ticks 82 = .ok (.aload_n 0, 1) := by decide +kernel
theorem dL_ticks_83 : decode cL_ticks 83 = .ok (.getfield 10, 3) := by decide +kernel
theorem dL_ticks_86 : decode cL_ticks 86 = .ok (.bipush 12, 2) := by decide +kernel
theorem dL_ticks_88 : decode cL_ticks 88 = .ok (.invokestatic 196, 3) := by decide +kernel
theorem dL_ticks_91 : decode cL_ticks 91 = .ok (.istore 9, 2) := by decide +kernel
theorem dL_ticks_93 : decode cL_ticks 93 = .ok (.aload_n 0, 1) := by decide +kernel
theorem dL_ticks_94 : decode cL_ticks 94 = .ok (.getfield 10, 3) := by decide +kernel
theorem dL_ticks_97 : decode cL_ticks 97 = .ok (.invokevirtual 234, 3) := by decide +kernel
theorem dL_ticks_100 : decode cL_ticks 100 = .ok (.istore 10, 2) := by decide +kernel
theorem dL_ticks_102 : decode cL_ticks 102 = .ok (.aload_n 0, 1) := by decide +kernel
theorem dL_ticks_103 : decode cL_ticks 103 = .ok (.getfield 10, 3) := by decide +kernel
theorem dL_ticks_106 : decode cL_ticks 106 = .ok (.iconst 1, 1) := by decide +kernel
theorem dL_ticks_107 : decode cL_ticks 107 = .ok (.invokestatic 237, 3) := by decide +kernel
theorem dL_ticks_110 : decode cL_ticks 110 = .ok (.istore 11, 2) := by decide +kernel
theorem dL_ticks_112 : decode cL_ticks 112 = .ok (.aload_n 0, 1) := by decide +kernel
theorem dL_ticks_113 : decode cL_ticks 113 = .ok (.getfield 10, 3) := by decide +kernel
theorem dL_ticks_116 : decode cL_ticks 116 = .ok (.invokevirtual 239, 3) := by decide +kernel
theorem dL_ticks_119 : decode cL_ticks 119 = .ok (.istore 12, 2) := by decide +kernel
theorem dL_ticks_121 : decode cL_ticks 121 = .ok (.aload_n 0, 1) := by decide +kernel
theorem dL_ticks_122 : decode cL_ticks 122 = .ok (.getfield 10, 3) := by decide +kernel
theorem dL_ticks_125 : decode cL_ticks 125 = .ok (.bipush 13, 2) := by decide +kernel
theorem dL_ticks_127 : decode cL_ticks 127 = .ok (.invokestatic 196, 3) := by decide +kernel
theorem dL_ticks_130 : decode cL_ticks 130 = .ok (.istore 13, 2) := by decide +kernel
theorem dL_ticks_132 : decode cL_ticks 132 = .ok (.aload_n 0, 1) := by decide +kernel
theorem dL_ticks_133 : decode cL_ticks 133 = .ok (.getfield 10, 3) := by decide +kernel
theorem dL_ticks_136 : decode cL_ticks 136 = .ok (.bipush 10, 2) := by decide +kernel
theorem dL_ticks_138 : decode cL_ticks 138 = .ok (.invokestatic 198, 3) := by decide +kernel
theorem dL_ticks_141 : decode cL_ticks 141 = .ok (.istore 14, 2) := by decide +kernel
theorem dL_ticks_143 : decode cL_ticks 143 = .ok (.aload_n 0, 1) := by decide +kernel
theorem dL_ticks_144 : decode cL_ticks 144 = .ok (.getfield 10, 3) := by decide +kernel
theorem dL_ticks_147 : decode cL_ticks 147 = .ok (.aload_n 0, 1) := by decide +kernel
theorem dL_ticks_148 : decode cL_ticks 148 = .ok (.getfield 10, 3) := by decide +kernel
theorem dL_ticks_151 : decode cL_ticks 151 = .ok (.iconst 0, 1) := by decide +kernel
theorem dL_ticks_152 : decode cL_ticks 152 = .ok (.invokestatic 196, 3) := by decide +kernel
theorem dL_ticks_155 : decode cL_ticks 155 = .ok (.iconst 1, 1) := by decide +kernel
theorem dL_ticks_156 : decode cL_ticks 156 = .ok (.iadd, 1) := by decide +kernel
theorem dL_ticks_157 : decode cL_ticks 157 = .ok (.invokestatic 213, 3) := by decide +kernel
theorem dL_ticks_160 : decode cL_ticks 160 = .ok (.istore 15, 2) := by decide +kernel
theorem dL_ticks_162 : decode cL_ticks 162 = .ok (.iload 4, 2) := by decide +kernel
theorem dL_ticks_164 : decode cL_ticks 164 = .ok (.iload 15, 2) := by decide +kernel
theorem dL_ticks_166 : decode cL_ticks 166 = .ok (.isub, 1) := by decide +kernel
theorem dL_ticks_167 : decode cL_ticks 167 = .ok (.invokestatic 217, 3) := by decide +kernel
theorem dL_ticks_170 : decode cL_ticks 170 = .ok (.istore 16, 2) := by decide +kernel
theorem dL_ticks_172 : decode cL_ticks 172 = .ok (.aload_n 0, 1) := by decide +kernel
theorem dL_ticks_173 : decode cL_ticks 173 = .ok (.getfield 10, 3) := by decide +kernel
theorem dL_ticks_176 : decode cL_ticks 176 = .ok (.iconst 1, 1) := by decide +kernel
theorem dL_ticks_177 : decode cL_ticks 177 = .ok (.invokestatic 242, 3) := by decide +kernel
theorem dL_ticks_180 : decode cL_ticks 180 = .ok (.istore 17, 2) := by decide +kernel
theorem dL_ticks_182 : decode cL_ticks 182 = .ok (.aload_n 0, 1) := by decide +kernel
theorem dL_ticks_183 : decode cL_ticks 183 = .ok (.getfield 10, 3) := by decide +kernel
theorem dL_ticks_186 : decode cL_ticks 186 = .ok (.iconst 5, 1) := by decide +kernel
theorem dL_ticks_187 : decode cL_ticks 187 = .ok (.invokestatic 196, 3) := by decide +kernel
theorem dL_ticks_190 : decode cL_ticks 190 = .ok (.istore 18, 2) := by decide +kernel
theorem dL_ticks_192 : decode cL_ticks 192 = .ok (.aload_n 0, 1) := by decide +kernel
theorem dL_ticks_193 : decode cL_ticks 193 = .ok (.getfield 10, 3) := by decide +kernel
theorem dL_ticks_196 : decode cL_ticks 196 = .ok (.iconst 4, 1) := by decide +kernel
theorem dL_ticks_197 : decode cL_ticks 197 = .ok (.invokestatic 196, 3) := by decide +kernel
theorem dL_ticks_200 : decode cL_ticks 200 = .ok (.iload 4, 2) := by decide +kernel
theorem dL_ticks_202 : decode cL_ticks 202 = .ok (.isub, 1) := by decide +kernel
theorem dL_ticks_203 : decode cL_ticks 203 = .ok (.invokestatic 217, 3) := by decide +kernel
theorem dL_ticks_206 : decode cL_ticks 206 = .ok (.istore 19, 2) := by decide +kernel
theorem dL_ticks_208 : decode cL_ticks 208 = .ok (.iload 17, 2) := by decide +kernel
theorem dL_ticks_210 : decode cL_ticks 210 = .ok (.iload 11, 2) := by decide +kernel
theorem dL_ticks_212 : decode cL_ticks 212 = .ok (.if_icmp .ne 70, 3) := by decide +kernel
theorem dL_ticks_215 : decode cL_ticks 215 = .ok (.aload_n 0, 1) := by decide +kernel
theorem dL_ticks_216 : decode cL_ticks 216 = .ok (.getfield 10, 3) := by decide +kernel
theorem dL_ticks_219 : decode cL_ticks 219 = .ok (.bipush 13, 2) := by decide +kernel
theorem dL_ticks_221 : decode cL_ticks 221 = .ok (.invokestatic 196, 3) := by decide +kernel
theorem dL_ticks_224 : decode cL_ticks 224 = .ok (.iload 13, 2) := by decide +kernel
theorem dL_ticks_226 : decode cL_ticks 226 = .ok (.iload 17, 2) := by decide +kernel
theorem dL_ticks_228 : decode cL_ticks 228 = .ok (.iadd, 1) := by decide +kernel
theorem dL_ticks_229 : decode cL_ticks 229 = .ok (.if_icmp .ne 53, 3) := by decide +kernel
theorem dL_ticks_232 : decode cL_ticks 232 = .ok (.iload 17, 2) := by decide +kernel
theorem dL_ticks_234 : decode cL_ticks 234 = .ok (.iconst 1, 1) := by decide +kernel
theorem dL_ticks_235 : decode cL_ticks 235 = .ok (.if_icmp .gt 47, 3) := by decide +kernel
theorem dL_ticks_238 : decode cL_ticks 238 = .ok (.iload 17, 2) := by decide +kernel
theorem dL_ticks_240 : decode cL_ticks 240 = .ok (.iconst 1, 1) := by decide +kernel
theorem dL_ticks_241 : decode cL_ticks 241 = .ok (.if_icmp .ne 43, 3) := by decide +kernel
theorem dL_ticks_244 : decode cL_ticks 244 = .ok (.iload_n 1, 1) := by decide +kernel
theorem dL_ticks_245 : decode cL_ticks 245 = .ok (.ifCond .lt 37, 3) := by decide +kernel
theorem dL_ticks_248 : decode cL_ticks 248 = .ok (.aload_n 0, 1) := by decide +kernel
theorem dL_ticks_249 : decode cL_ticks 249 = .ok (.getfield 10, 3) := by decide +kernel
theorem dL_ticks_252 : decode cL_ticks 252 = .ok (.iload_n 1, 1) := by decide +kernel
theorem dL_ticks_253 : decode cL_ticks 253 = .ok (.iconst 2, 1) := by decide +kernel
theorem dL_ticks_254 : decode cL_ticks 254 = .ok (.invokestatic 200, 3) := by decide +kernel
theorem dL_ticks_257 : decode cL_ticks 257 = .ok (.iconst 2, 1) := by decide +kernel
theorem dL_ticks_258 : decode cL_ticks 258 = .ok (.if_icmp .ne 24, 3) := by decide +kernel
theorem dL_ticks_261 : decode cL_ticks 261 = .ok (.aload_n 0, 1) := by decide +kernel
theorem dL_ticks_262 : decode cL_ticks 262 = .ok (.getfield 10, 3) := by decide +kernel
theorem dL_ticks_265 : decode cL_ticks 265 = .ok (.iload_n 1, 1) := by decide +kernel
theorem dL_ticks_266 : decode cL_ticks 266 = .ok (.bipush 6, 2) := by decide +kernel
theorem dL_ticks_268 : decode cL_ticks 268 = .ok (.invokestatic 200, 3) := by decide +kernel
theorem dL_ticks_271 : decode cL_ticks 271 = .ok (.aload_n 0, 1) := by decide +kernel
theorem dL_ticks_272 : decode cL_ticks 272 = .ok (.getfield 10, 3) := by decide +kernel
theorem dL_ticks_275 : decode cL_ticks 275 = .ok (.iconst 0, 1) := by decide +kernel
theorem dL_ticks_276 : decode cL_ticks 276 = .ok (.invokestatic 196, 3) := by decide +kernel
theorem dL_ticks_279 : decode cL_ticks 279 = .ok (.if_icmp .eq 5, 3) := by decide +kernel
theorem dL_ticks_282 : decode cL_ticks 282 = .ok (.iconst 0, 1) := by decide +kernel
theorem dL_ticks_283 : decode cL_ticks 283 = .ok (.ireturn, 1) := by decide +kernel
theorem dL_ticks_284 : decode cL_ticks 284 = .ok (.iload 5, 2) := by decide +kernel
theorem dL_ticks_286 : decode cL_ticks 286 = .ok (.iconst 2, 1) := by decide +kernel
theorem dL_ticks_287 : decode cL_ticks 287 = .ok (.if_icmp .eq 39, 3) := by decide +kernel
theorem dL_ticks_290 : decode cL_ticks 290 = .ok (.iload 5, 2) := by decide +kernel
theorem dL_ticks_292 : decode cL_ticks 292 = .ok (.iconst 1, 1) := by decide +kernel
theorem dL_ticks_293 : decode cL_ticks 293 = .ok (.if_icmp .ne 9, 3) := by decide +kernel
theorem dL_ticks_296 : decode cL_ticks 296 = .ok (.iload 6, 2) := by decide +kernel
theorem dL_ticks_298 : decode cL_ticks 298 = .ok (.iconst 1, 1) := by decide +kernel
theorem dL_ticks_299 : decode cL_ticks 299 = .ok (.if_icmp .eq 27, 3) := by decide +kernel
theorem dL_ticks_302 : decode cL_ticks 302 = .ok (.iload 5, 2) := by decide +kernel
theorem dL_ticks_304 : decode cL_ticks 304 = .ok (.ifCond .ne 26, 3) := by decide +kernel
theorem dL_ticks_307 : decode cL_ticks 307 = .ok (.iload 16, 2) := by decide +kernel
theorem dL_ticks_309 : decode cL_ticks 309 = .ok (.iload 14, 2) := by decide +kernel
theorem dL_ticks_311 : decode cL_ticks 311 = .ok (.if_icmp .le 19, 3) := by decide +kernel
theorem dL_ticks_314 : decode cL_ticks 314 = .ok (.aload_n 0, 1) := by decide +kernel
theorem dL_ticks_315 : decode cL_ticks 315 = .ok (.getfield 10, 3) := by decide +kernel
theorem dL_ticks_318 : decode cL_ticks 318 = .ok (.bipush 11, 2) := by decide +kernel
theorem dL_ticks_320 : decode cL_ticks 320 = .ok (.invokestatic 198, 3) := by decide +kernel
theorem dL_ticks_323 : decode cL_ticks 323 = .ok (.ifCond .ne 7, 3) := by decide +kernel
theorem dL_ticks_326 : decode cL_ticks 326 = .ok (.iconst 1, 1) := by decide +kernel
theorem dL_ticks_327 : decode cL_ticks 327 = .ok (.goto 4, 3) := by decide +kernel
theorem dL_ticks_330 : decode cL_ticks 330 = .ok (.iconst 0, 1) := by decide +kernel
theorem dL_ticks_331 : decode cL_ticks 331 = .ok (.istore 20, 2) := by decide +kernel
theorem dL_ticks_333 : decode cL_ticks 333 = .ok (.iload 19, 2) := by decide +kernel
theorem dL_ticks_335 : decode cL_ticks 335 = .ok (.iload 20, 2) := by decide +kernel
theorem dL_ticks_337 : decode cL_ticks 337 = .ok (.ifCond .eq 20, 3) := by decide +kernel
theorem dL_ticks_340 : decode cL_ticks 340 = .ok (.aload_n 0, 1) := by decide +kernel
theorem dL_ticks_341 : decode cL_ticks 341 = .ok (.getfield 10, 3) := by decide +kernel
theorem dL_ticks_344 : decode cL_ticks 344 = .ok (.bipush 9, 2) := by decide +kernel
theorem dL_ticks_346 : decode cL_ticks 346 = .ok (.invokestatic 198, 3) := by decide +kernel
theorem dL_ticks_349 : decode cL_ticks 349 = .ok (.iload 16, 2) := by decide +kernel
theorem dL_ticks_351 : decode cL_ticks 351 = .ok (.invokestatic 244, 3) := by decide +kernel
theorem dL_ticks_354 : decode cL_ticks 354 = .ok (.goto 4, 3) := by decide +kernel
theorem dL_ticks_357 : decode cL_ticks 357 = .ok (.iconst 0, 1) := by decide +kernel
theorem dL_ticks_358 : decode cL_ticks 358 = .ok (.if_icmp .ne 86, 3) := by decide +kernel
theorem dL_ticks_361 : decode cL_ticks 361 = .ok (.iload 18, 2) := by decide +kernel
theorem dL_ticks_363 : decode cL_ticks 363 = .ok (.iload 20, 2) := by decide +kernel
theorem dL_ticks_365 : decode cL_ticks 365 = .ok (.ifCond .eq 18, 3) := by decide +kernel
theorem dL_ticks_368 : decode cL_ticks 368 = .ok (.iload 16, 2) := by decide +kernel
theorem dL_ticks_370 : decode cL_ticks 370 = .ok (.iload 19, 2) := by decide +kernel
theorem dL_ticks_372 : decode cL_ticks 372 = .ok (.if_icmp .ne 7, 3) := by decide +kernel
theorem dL_ticks_375 : decode cL_ticks 375 = .ok (.iconst 0, 1) := by decide +kernel
theorem dL_ticks_376 : decode cL_ticks 376 = .ok (.goto 25, 3) := by decide +kernel
theorem dL_ticks_379 : decode cL_ticks 379 = .ok (.iconst 2, 1) := by decide +kernel
theorem dL_ticks_380 : decode cL_ticks 380 = .ok (.goto 21, 3) := by decide +kernel
theorem dL_ticks_383 : decode cL_ticks 383 = .ok (.iload 5, 2) := by decide +kernel
theorem dL_ticks_385 : decode cL_ticks 385 = .ok (.iconst 1, 1) := by decide +kernel
theorem dL_ticks_386 : decode cL_ticks 386 = .ok (.if_icmp .eq 10, 3) := by decide +kernel
theorem dL_ticks_389 : decode cL_ticks 389 = .ok (.iload 16, 2) := by decide +kernel
theorem dL_ticks_391 : decode cL_ticks 391 = .ok (.iload 14, 2) := by decide +kernel
theorem dL_ticks_393 : decode cL_ticks 393 = .ok (.if_icmp .le 7, 3) := by decide +kernel
theorem dL_ticks_396 : decode cL_ticks 396 = .ok (.iconst 1, 1) := by decide +kernel
theorem dL_ticks_397 : decode cL_ticks 397 = .ok (.goto 4, 3) := by decide +kernel
theorem dL_ticks_400 : decode cL_ticks 400 = .ok (.iconst 0, 1) := by decide +kernel
theorem dL_ticks_401 : decode cL_ticks 401 = .ok (.if_icmp .ne 43, 3) := by decide +kernel
theorem dL_ticks_404 : decode cL_ticks 404 = .ok (.iload 18, 2) := by decide +kernel
theorem dL_ticks_406 : decode cL_ticks 406 = .ok (.iconst 1, 1) := by decide +kernel
theorem dL_ticks_407 : decode cL_ticks 407 = .ok (.if_icmp .ne 39, 3) := by decide +kernel
theorem dL_ticks_410 : decode cL_ticks 410 = .ok (.aload_n 0, 1) := by decide +kernel
theorem dL_ticks_411 : decode cL_ticks 411 = .ok (.getfield 10, 3) := by decide +kernel
theorem dL_ticks_414 : decode cL_ticks 414 = .ok (.bipush 6, 2) := by decide +kernel
theorem dL_ticks_416 : decode cL_ticks 416 = .ok (.invokestatic 196, 3) := by decide +kernel
theorem dL_ticks_419 : decode cL_ticks 419 = .ok (.iload 5, 2) := by decide +kernel
theorem dL_ticks_421 : decode cL_ticks 421 = .ok (.iconst 1, 1) := by decide +kernel
theorem dL_ticks_422 : decode cL_ticks 422 = .ok (.if_icmp .ne 10, 3) := by decide +kernel
theorem dL_ticks_425 : decode cL_ticks 425 = .ok (.iload 6, 2) := by decide +kernel
theorem dL_ticks_427 : decode cL_ticks 427 = .ok (.iconst 1, 1) := by decide +kernel
theorem dL_ticks_428 : decode cL_ticks 428 = .ok (.isub, 1) := by decide +kernel
theorem dL_ticks_429 : decode cL_ticks 429 = .ok (.goto 12, 3) := by decide +kernel
theorem dL_ticks_432 : decode cL_ticks 432 = .ok (.aload_n 0, 1) := by decide +kernel
theorem dL_ticks_433 : decode cL_ticks 433 = .ok (.getfield 10, 3) := by decide +kernel
theorem dL_ticks_436 : decode cL_ticks 436 = .ok (.bipush 11, 2) := by decide +kernel
theorem dL_ticks_438 : decode cL_ticks 438 = .ok (.invokestatic 198, 3) := by decide +kernel
theorem dL_ticks_441 : decode cL_ticks 441 = .ok (.if_icmp .eq 5, 3) := by decide +kernel
theorem dL_ticks_444 : decode cL_ticks 444 = .ok (.iconst 0, 1) := by decide +kernel
theorem dL_ticks_445 : decode cL_ticks 445 = .ok (.ireturn, 1) := by decide +kernel
theorem dL_ticks_446 : decode cL_ticks 446 = .ok (.iload 12, 2) := by decide +kernel
theorem dL_ticks_448 : decode cL_ticks 448 = .ok (.ifCond .lt 7, 3) := by decide +kernel
theorem dL_ticks_451 : decode cL_ticks 451 = .ok (.iconst 1, 1) := by decide +kernel
theorem dL_ticks_452 : decode cL_ticks 452 = .ok (.goto 4, 3) := by decide +kernel
theorem dL_ticks_455 : decode cL_ticks 455 = .ok (.iconst 0, 1) := by decide +kernel
theorem dL_ticks_456 : decode cL_ticks 456 = .ok (.iload 12, 2) := by decide +kernel
theorem dL_ticks_458 : decode cL_ticks 458 = .ok (.ifCond .eq 8, 3) := by decide +kernel
theorem dL_ticks_461 : decode cL_ticks 461 = .ok (.iload 12, 2) := by decide +kernel
theorem dL_ticks_463 : decode cL_ticks 463 = .ok (.ifCond .le 7, 3) := by decide +kernel
theorem dL_ticks_466 : decode cL_ticks 466 = .ok (.iconst 1, 1) := by decide +kernel
theorem dL_ticks_467 : decode cL_ticks 467 = .ok (.goto 4, 3) := by decide +kernel
theorem dL_ticks_470 : decode cL_ticks 470 = .ok (.iconst 0, 1) := by decide +kernel
theorem dL_ticks_471 : decode cL_ticks 471 = .ok (.if_icmp .ne 53, 3) := by decide +kernel
theorem dL_ticks_474 : decode cL_ticks 474 = .ok (.iload 12, 2) := by decide +kernel
theorem dL_ticks_476 : decode cL_ticks 476 = .ok (.ifCond .ne 7, 3) := by decide +kernel
theorem dL_ticks_479 : decode cL_ticks 479 = .ok (.iconst 1, 1) := by decide +kernel
theorem dL_ticks_480 : decode cL_ticks 480 = .ok (.goto 4, 3) := by decide +kernel
theorem dL_ticks_483 : decode cL_ticks 483 = .ok (.iconst 0, 1) := by decide +kernel
theorem dL_ticks_484 : decode cL_ticks 484 = .ok (.iload 5, 2) := by decide +kernel
theorem dL_ticks_486 : decode cL_ticks 486 = .ok (.ifCond .le 7, 3) := by decide +kernel
theorem dL_ticks_489 : decode cL_ticks 489 = .ok (.iconst 1, 1) := by decide +kernel
theorem dL_ticks_490 : decode cL_ticks 490 = .ok (.goto 4, 3) := by decide +kernel
theorem dL_ticks_493 : decode cL_ticks 493 = .ok (.iconst 0, 1) := by decide +kernel
theorem dL_ticks_494 : decode cL_ticks 494 = .ok (.if_icmp .ne 30, 3) := by decide +kernel
theorem dL_ticks_497 : decode cL_ticks 497 = .ok (.iload 12, 2) := by decide +kernel
theorem dL_ticks_499 : decode cL_ticks 499 = .ok (.iconst 1, 1) := by decide +kernel
theorem dL_ticks_500 : decode cL_ticks 500 = .ok (.if_icmp .ne 8, 3) := by decide +kernel
theorem dL_ticks_503 : decode cL_ticks 503 = .ok (.iload 18, 2) := by decide +kernel
theorem dL_ticks_505 : decode cL_ticks 505 = .ok (.ifCond .eq 19, 3) := by decide +kernel
theorem dL_ticks_508 : decode cL_ticks 508 = .ok (.iload 12, 2) := by decide +kernel
theorem dL_ticks_510 : decode cL_ticks 510 = .ok (.iconst 1, 1) := by decide +kernel
theorem dL_ticks_511 : decode cL_ticks 511 = .ok (.if_icmp .eq 15, 3) := by decide +kernel
theorem dL_ticks_514 : decode cL_ticks 514 = .ok (.iload 5, 2) := by decide +kernel
theorem dL_ticks_516 : decode cL_ticks 516 = .ok (.ifCond .ne 10, 3) := by decide +kernel
theorem dL_ticks_519 : decode cL_ticks 519 = .ok (.iload 18, 2) := by decide +kernel
theorem dL_ticks_521 : decode cL_ticks 521 = .ok (.ifCond .le 5, 3) := by decide +kernel
theorem dL_ticks_524 : decode cL_ticks 524 = .ok (.iconst 0, 1) := by decide +kernel
theorem dL_ticks_525 : decode cL_ticks 525 = .ok (.ireturn, 1) := by decide +kernel
theorem dL_ticks_526 : decode cL_ticks 526 = .ok (.iload_n 1, 1) := by decide +kernel
theorem dL_ticks_527 : decode cL_ticks 527 = .ok (.ifCond .lt 36, 3) := by decide +kernel
theorem dL_ticks_530 : decode cL_ticks 530 = .ok (.iload 17, 2) := by decide +kernel
theorem dL_ticks_532 : decode cL_ticks 532 = .ok (.ifCond .ne 31, 3) := by decide +kernel
theorem dL_ticks_535 : decode cL_ticks 535 = .ok (.aload_n 0, 1) := by decide +kernel
theorem dL_ticks_536 : decode cL_ticks 536 = .ok (.getfield 10, 3) := by decide +kernel
theorem dL_ticks_539 : decode cL_ticks 539 = .ok (.bipush 10, 2) := by decide +kernel
theorem dL_ticks_541 : decode cL_ticks 541 = .ok (.invokestatic 196, 3) := by decide +kernel
theorem dL_ticks_544 : decode cL_ticks 544 = .ok (.iload_n 3, 1) := by decide +kernel
theorem dL_ticks_545 : decode cL_ticks 545 = .ok (.if_icmp .ne 18, 3) := by decide +kernel
theorem dL_ticks_548 : decode cL_ticks 548 = .ok (.aload_n 0, 1) := by decide +kernel
theorem dL_ticks_549 : decode cL_ticks 549 = .ok (.getfield 10, 3) := by decide +kernel
theorem dL_ticks_552 : decode cL_ticks 552 = .ok (.bipush 9, 2) := by decide +kernel
theorem dL_ticks_554 : decode cL_ticks 554 = .ok (.invokestatic 196, 3) := by decide +kernel
theorem dL_ticks_557 : decode cL_ticks 557 = .ok (.iload_n 2, 1) := by decide +kernel
theorem dL_ticks_558 : decode cL_ticks 558 = .ok (.iconst 1, 1) := by decide +kernel
theorem dL_ticks_559 : decode cL_ticks 559 = .ok (.iadd, 1) := by decide +kernel
theorem dL_ticks_560 : decode cL_ticks 560 = .ok (.if_icmp .ne 51, 3) := by decide +kernel
theorem dL_ticks_563 : decode cL_ticks 563 = .ok (.iload_n 1, 1) := by decide +kernel
theorem dL_ticks_564 : decode cL_ticks 564 = .ok (.ifCond .lt 49, 3) := by decide +kernel
theorem dL_ticks_567 : decode cL_ticks 567 = .ok (.aload_n 0, 1) := by decide +kernel
theorem dL_ticks_568 : decode cL_ticks 568 = .ok (.getfield 10, 3) := by decide +kernel
theorem dL_ticks_571 : decode cL_ticks 571 = .ok (.bipush 10, 2) := by decide +kernel
theorem dL_ticks_573 : decode cL_ticks 573 = .ok (.invokestatic 196, 3) := by decide +kernel
theorem dL_ticks_576 : decode cL_ticks 576 = .ok (.iload_n 3, 1) := by decide +kernel
theorem dL_ticks_577 : decode cL_ticks 577 = .ok (.if_icmp .le 36, 3) := by decide +kernel
theorem dL_ticks_580 : decode cL_ticks 580 = .ok (.iload 17, 2) := by decide +kernel
theorem dL_ticks_582 : decode cL_ticks 582 = .ok (.ifCond .gt 29, 3) := by decide +kernel
theorem dL_ticks_585 : decode cL_ticks 585 = .ok (.aload_n 0, 1) := by decide +kernel
theorem dL_ticks_586 : decode cL_ticks 586 = .ok (.getfield 10, 3) := by decide +kernel
theorem dL_ticks_589 : decode cL_ticks 589 = .ok (.bipush 9, 2) := by decide +kernel
theorem dL_ticks_591 : decode cL_ticks 591 = .ok (.invokestatic 196, 3) := by decide +kernel
theorem dL_ticks_594 : decode cL_ticks 594 = .ok (.iload_n 2, 1) := by decide +kernel
theorem dL_ticks_595 : decode cL_ticks 595 = .ok (.if_icmp .ne 16, 3) := by decide +kernel
theorem dL_ticks_598 : decode cL_ticks 598 = .ok (.aload_n 0, 1) := by decide +kernel
theorem dL_ticks_599 : decode cL_ticks 599 = .ok (.getfield 10, 3) := by decide +kernel
theorem dL_ticks_602 : decode cL_ticks 602 = .ok (.bipush 8, 2) := by decide +kernel
theorem dL_ticks_604 : decode cL_ticks 604 = .ok (.invokestatic 196, 3) := by decide +kernel
theorem dL_ticks_607 : decode cL_ticks 607 = .ok (.iload_n 1, 1) := by decide +kernel
theorem dL_ticks_608 : decode cL_ticks 608 = .ok (.if_icmp .eq 5, 3) := by decide +kernel
theorem dL_ticks_611 : decode cL_ticks 611 = .ok (.iconst 0, 1) := by decide +kernel
theorem dL_ticks_612 : decode cL_ticks 612 = .ok (.ireturn, 1) := by decide +kernel
theorem dL_ticks_613 : decode cL_ticks 613 = .ok (.aload_n 0, 1) := by decide +kernel
theorem dL_ticks_614 : decode cL_ticks 614 = .ok (.getfield 10, 3) := by decide +kernel
theorem dL_ticks_617 : decode cL_ticks 617 = .ok (.bipush 8, 2) := by decide +kernel
theorem dL_ticks_619 : decode cL_ticks 619 = .ok (.invokestatic 196, 3) := by decide +kernel
theorem dL_ticks_622 : decode cL_ticks 622 = .ok (.istore 21, 2) := by decide +kernel
theorem dL_ticks_624 : decode cL_ticks 624 = .ok (.iload 21, 2) := by decide +kernel
theorem dL_ticks_626 : decode cL_ticks 626 = .ok (.ifCond .lt 28, 3) := by decide +kernel
theorem dL_ticks_629 : decode cL_ticks 629 = .ok (.aload_n 0, 1) := by decide +kernel
theorem dL_ticks_630 : decode cL_ticks 630 = .ok (.getfield 10, 3) := by decide +kernel
theorem dL_ticks_633 : decode cL_ticks 633 = .ok (.iload 21, 2) := by decide +kernel
theorem dL_ticks_635 : decode cL_ticks 635 = .ok (.iconst 5, 1) := by decide +kernel
theorem dL_ticks_636 : decode cL_ticks 636 = .ok (.invokestatic 200, 3) := by decide +kernel
theorem dL_ticks_639 : decode cL_ticks 639 = .ok (.aload_n 0, 1) := by decide +kernel
theorem dL_ticks_640 : decode cL_ticks 640 = .ok (.getfield 10, 3) := by decide +kernel
theorem dL_ticks_643 : decode cL_ticks 643 = .ok (.iconst 0, 1) := by decide +kernel
theorem dL_ticks_644 : decode cL_ticks 644 = .ok (.invokestatic 196, 3) := by decide +kernel
theorem dL_ticks_647 : decode cL_ticks 647 = .ok (.if_icmp .ne 7, 3) := by decide +kernel
theorem dL_ticks_650 : decode cL_ticks 650 = .ok (.iconst 1, 1) := by decide +kernel
theorem dL_ticks_651 : decode cL_ticks 651 = .ok (.goto 4, 3) := by decide +kernel
theorem dL_ticks_654 : decode cL_ticks 654 = .ok (.iconst 0, 1) := by decide +kernel
theorem dL_ticks_655 : decode cL_ticks 655 = .ok (.istore 22, 2) := by decide +kernel
theorem dL_ticks_657 : decode cL_ticks 657 = .ok (.iload 10, 2) := by decide +kernel
theorem dL_ticks_659 : decode cL_ticks 659 = .ok (.iconst 1, 1) := by decide +kernel
theorem dL_ticks_660 : decode cL_ticks 660 = .ok (.if_icmp .ne 7, 3) := by decide +kernel
theorem dL_ticks_663 : decode cL_ticks 663 = .ok (.iconst 1, 1) := by decide +kernel
theorem dL_ticks_664 : decode cL_ticks 664 = .ok (.goto 4, 3) := by decide +kernel
theorem dL_ticks_667 : decode cL_ticks 667 = .ok (.iconst 0, 1) := by decide +kernel
theorem dL_ticks_668 : decode cL_ticks 668 = .ok (.iload 22, 2) := by decide +kernel
theorem dL_ticks_670 : decode cL_ticks 670 = .ok (.if_icmp .ne 62, 3) := by decide +kernel
theorem dL_ticks_673 : decode cL_ticks 673 = .ok (.iload 22, 2) := by decide +kernel
theorem dL_ticks_675 : decode cL_ticks 675 = .ok (.ifCond .eq 15, 3) := by decide +kernel
theorem dL_ticks_678 : decode cL_ticks 678 = .ok (.aload_n 0, 1) := by decide +kernel
theorem dL_ticks_679 : decode cL_ticks 679 = .ok (.getfield 10, 3) := by decide +kernel
theorem dL_ticks_682 : decode cL_ticks 682 = .ok (.bipush 11, 2) := by decide +kernel
theorem dL_ticks_684 : decode cL_ticks 684 = .ok (.invokestatic 196, 3) := by decide +kernel
theorem dL_ticks_687 : decode cL_ticks 687 = .ok (.ifCond .ne 45, 3) := by decide +kernel
theorem dL_ticks_690 : decode cL_ticks 690 = .ok (.iload 9, 2) := by decide +kernel
theorem dL_ticks_692 : decode cL_ticks 692 = .ok (.aload_n 0, 1) := by decide +kernel
theorem dL_ticks_693 : decode cL_ticks 693 = .ok (.getfield 10, 3) := by decide +kernel
theorem dL_ticks_696 : decode cL_ticks 696 = .ok (.bipush 12, 2) := by decide +kernel
theorem dL_ticks_698 : decode cL_ticks 698 = .ok (.invokestatic 196, 3) := by decide +kernel
theorem dL_ticks_701 : decode cL_ticks 701 = .ok (.if_icmp .gt 31, 3) := by decide +kernel
theorem dL_ticks_704 : decode cL_ticks 704 = .ok (.iload 22, 2) := by decide +kernel
theorem dL_ticks_706 : decode cL_ticks 706 = .ok (.ifCond .eq 28, 3) := by decide +kernel
theorem dL_ticks_709 : decode cL_ticks 709 = .ok (.iload 21, 2) := by decide +kernel
theorem dL_ticks_711 : decode cL_ticks 711 = .ok (.iload 7, 2) := by decide +kernel
theorem dL_ticks_713 : decode cL_ticks 713 = .ok (.if_icmp .eq 21, 3) := by decide +kernel
theorem dL_ticks_716 : decode cL_ticks 716 = .ok (.aload_n 0, 1) := by decide +kernel
theorem dL_ticks_717 : decode cL_ticks 717 = .ok (.getfield 10, 3) := by decide +kernel
theorem dL_ticks_720 : decode cL_ticks 720 = .ok (.bipush 12, 2) := by decide +kernel
theorem dL_ticks_722 : decode cL_ticks 722 = .ok (.invokestatic 196, 3) := by decide +kernel
theorem dL_ticks_725 : decode cL_ticks 725 = .ok (.iload 9, 2) := by decide +kernel
theorem dL_ticks_727 : decode cL_ticks 727 = .ok (.iconst 1, 1) := by decide +kernel
theorem dL_ticks_728 : decode cL_ticks 728 = .ok (.iadd, 1) := by decide +kernel
theorem dL_ticks_729 : decode cL_ticks 729 = .ok (.if_icmp .eq 5, 3) := by decide +kernel
theorem dL_ticks_732 : decode cL_ticks 732 = .ok (.iconst 0, 1) := by decide +kernel
theorem dL_ticks_733 : decode cL_ticks 733 = .ok (.ireturn, 1) := by decide +kernel
theorem dL_ticks_734 : decode cL_ticks 734 = .ok (.aload_n 0, 1) := by decide +kernel
theorem dL_ticks_735 : decode cL_ticks 735 = .ok (.getfield 10, 3) := by decide +kernel
theorem dL_ticks_738 : decode cL_ticks 738 = .ok (.bipush 12, 2) := by decide +kernel
theorem dL_ticks_740 : decode cL_ticks 740 = .ok (.invokestatic 196, 3) := by decide +kernel
theorem dL_ticks_743 : decode cL_ticks 743 = .ok (.iload 9, 2) := by decide +kernel
theorem dL_ticks_745 : decode cL_ticks 745 = .ok (.if_icmp .le 123, 3) := by decide +kernel
theorem dL_ticks_748 : decode cL_ticks 748 = .ok (.aload_n 0, 1) := by decide +kernel
theorem dL_ticks_749 : decode cL_ticks 749 = .ok (.getfield 10, 3) := by decide +kernel
theorem dL_ticks_752 : decode cL_ticks 752 = .ok (.bipush 12, 2) := by decide +kernel
theorem dL_ticks_754 : decode cL_ticks 754 = .ok (.invokestatic 196, 3) := by decide +kernel
theorem dL_ticks_757 : decode cL_ticks 757 = .ok (.iload 9, 2) := by decide +kernel
theorem dL_ticks_759 : decode cL_ticks 759 = .ok (.iconst 1, 1) := by decide +kernel
theorem dL_ticks_760 : decode cL_ticks 760 = .ok (.iadd, 1) := by decide +kernel
theorem dL_ticks_761 : decode cL_ticks 761 = .ok (.if_icmp .ne 105, 3) := by decide +kernel
theorem dL_ticks_764 : decode cL_ticks 764 = .ok (.aload_n 0, 1) := by decide +kernel
theorem dL_ticks_765 : decode cL_ticks 765 = .ok (.getfield 10, 3) := by decide +kernel
theorem dL_ticks_768 : decode cL_ticks 768 = .ok (.iconst 0, 1) := by decide +kernel
theorem dL_ticks_769 : decode cL_ticks 769 = .ok (.iconst 0, 1) := by decide +kernel
theorem dL_ticks_770 : decode cL_ticks 770 = .ok (.invokestatic 247, 3) := by decide +kernel
theorem dL_ticks_773 : decode cL_ticks 773 = .ok (.aload_n 0, 1) := by decide +kernel
theorem dL_ticks_774 : decode cL_ticks 774 = .ok (.getfield 10, 3) := by decide +kernel
theorem dL_ticks_777 : decode cL_ticks 777 = .ok (.iconst 0, 1) := by decide +kernel
theorem dL_ticks_778 : decode cL_ticks 778 = .ok (.invokestatic 196, 3) := by decide +kernel
theorem dL_ticks_781 : decode cL_ticks 781 = .ok (.if_icmp .ne 85, 3) := by decide +kernel
theorem dL_ticks_784 : decode cL_ticks 784 = .ok (.aload_n 0, 1) := by decide +kernel
theorem dL_ticks_785 : decode cL_ticks 785 = .ok (.getfield 10, 3) := by decide +kernel
theorem dL_ticks_788 : decode cL_ticks 788 = .ok (.iconst 0, 1) := by decide +kernel
theorem dL_ticks_789 : decode cL_ticks 789 = .ok (.iconst 1, 1) := by decide +kernel
theorem dL_ticks_790 : decode cL_ticks 790 = .ok (.invokestatic 247, 3) := by decide +kernel
theorem dL_ticks_793 : decode cL_ticks 793 = .ok (.iload 7, 2) := by decide +kernel
theorem dL_ticks_795 : decode cL_ticks 795 = .ok (.if_icmp .ne 71, 3) := by decide +kernel
theorem dL_ticks_798 : decode cL_ticks 798 = .ok (.aload_n 0, 1) := by decide +kernel
theorem dL_ticks_799 : decode cL_ticks 799 = .ok (.getfield 10, 3) := by decide +kernel
theorem dL_ticks_802 : decode cL_ticks 802 = .ok (.iconst 0, 1) := by decide +kernel
theorem dL_ticks_803 : decode cL_ticks 803 = .ok (.iconst 2, 1) := by decide +kernel
theorem dL_ticks_804 : decode cL_ticks 804 = .ok (.invokestatic 247, 3) := by decide +kernel
theorem dL_ticks_807 : decode cL_ticks 807 = .ok (.iconst 1, 1) := by decide +kernel
theorem dL_ticks_808 : decode cL_ticks 808 = .ok (.if_icmp .le 58, 3) := by decide +kernel
theorem dL_ticks_811 : decode cL_ticks 811 = .ok (.aload_n 0, 1) := by decide +kernel
theorem dL_ticks_812 : decode cL_ticks 812 = .ok (.getfield 10, 3) := by decide +kernel
theorem dL_ticks_815 : decode cL_ticks 815 = .ok (.iconst 0, 1) := by decide +kernel
theorem dL_ticks_816 : decode cL_ticks 816 = .ok (.iconst 3, 1) := by decide +kernel
theorem dL_ticks_817 : decode cL_ticks 817 = .ok (.invokestatic 247, 3) := by decide +kernel
theorem dL_ticks_820 : decode cL_ticks 820 = .ok (.iload 22, 2) := by decide +kernel
theorem dL_ticks_822 : decode cL_ticks 822 = .ok (.ifCond .eq 8, 3) := by decide +kernel
theorem dL_ticks_825 : decode cL_ticks 825 = .ok (.iload 21, 2) := by decide +kernel
theorem dL_ticks_827 : decode cL_ticks 827 = .ok (.goto 4, 3) := by decide +kernel
theorem dL_ticks_830 : decode cL_ticks 830 = .ok (.iconst (-1), 1) := by decide +kernel
theorem dL_ticks_831 : decode cL_ticks 831 = .ok (.if_icmp .ne 35, 3) := by decide +kernel
theorem dL_ticks_834 : decode cL_ticks 834 = .ok (.aload_n 0, 1) := by decide +kernel
theorem dL_ticks_835 : decode cL_ticks 835 = .ok (.getfield 10, 3) := by decide +kernel
theorem dL_ticks_838 : decode cL_ticks 838 = .ok (.bipush 11, 2) := by decide +kernel
theorem dL_ticks_840 : decode cL_ticks 840 = .ok (.invokestatic 196, 3) := by decide +kernel
theorem dL_ticks_843 : decode cL_ticks 843 = .ok (.ifCond .ne 23, 3) := by decide +kernel
theorem dL_ticks_846 : decode cL_ticks 846 = .ok (.iload 8, 2) := by decide +kernel
theorem dL_ticks_848 : decode cL_ticks 848 = .ok (.iconst 1, 1) := by decide +kernel
theorem dL_ticks_849 : decode cL_ticks 849 = .ok (.iadd, 1) := by decide +kernel
theorem dL_ticks_850 : decode cL_ticks 850 = .ok (.aload_n 0, 1) := by decide +kernel
theorem dL_ticks_851 : decode cL_ticks 851 = .ok (.getfield 10, 3) := by decide +kernel
theorem dL_ticks_854 : decode cL_ticks 854 = .ok (.bipush 13, 2) := by decide +kernel
theorem dL_ticks_856 : decode cL_ticks 856 = .ok (.invokestatic 198, 3) := by decide +kernel
theorem dL_ticks_859 : decode cL_ticks 859 = .ok (.if_icmp .lt 7, 3) := by decide +kernel
theorem dL_ticks_862 : decode cL_ticks 862 = .ok (.iconst 1, 1) := by decide +kernel
theorem dL_ticks_863 : decode cL_ticks 863 = .ok (.goto 4, 3) := by decide +kernel
theorem dL_ticks_866 : decode cL_ticks 866 = .ok (.iconst 0, 1) := by decide +kernel
theorem dL_ticks_867 : decode cL_ticks 867 = .ok (.ireturn, 1) := by decide +kernel
theorem dL_ticks_868 : decode cL_ticks 868 = .ok (.iload 22, 2) := by decide +kernel
theorem dL_ticks_870 : decode cL_ticks 870 = .ok (.ifCond .ne 46, 3) := by decide +kernel
theorem dL_ticks_873 : decode cL_ticks 873 = .ok (.aload_n 0, 1) := by decide +kernel
theorem dL_ticks_874 : decode cL_ticks 874 = .ok (.getfield 10, 3) := by decide +kernel
theorem dL_ticks_877 : decode cL_ticks 877 = .ok (.bipush 11, 2) := by decide +kernel
theorem dL_ticks_879 : decode cL_ticks 879 = .ok (.invokestatic 196, 3) := by decide +kernel
theorem dL_ticks_882 : decode cL_ticks 882 = .ok (.iload 8, 2) := by decide +kernel
theorem dL_ticks_884 : decode cL_ticks 884 = .ok (.if_icmp .eq 32, 3) := by decide +kernel
theorem dL_ticks_887 : decode cL_ticks 887 = .ok (.aload_n 0, 1) := by decide +kernel
theorem dL_ticks_888 : decode cL_ticks 888 = .ok (.getfield 10, 3) := by decide +kernel
theorem dL_ticks_891 : decode cL_ticks 891 = .ok (.bipush 11, 2) := by decide +kernel
theorem dL_ticks_893 : decode cL_ticks 893 = .ok (.invokestatic 196, 3) := by decide +kernel
theorem dL_ticks_896 : decode cL_ticks 896 = .ok (.iload 8, 2) := by decide +kernel
theorem dL_ticks_898 : decode cL_ticks 898 = .ok (.iconst 1, 1) := by decide +kernel
theorem dL_ticks_899 : decode cL_ticks 899 = .ok (.iadd, 1) := by decide +kernel
theorem dL_ticks_900 : decode cL_ticks 900 = .ok (.if_icmp .ne 20, 3) := by decide +kernel
theorem dL_ticks_903 : decode cL_ticks 903 = .ok (.aload_n 0, 1) := by decide +kernel
theorem dL_ticks_904 : decode cL_ticks 904 = .ok (.getfield 10, 3) := by decide +kernel
theorem dL_ticks_907 : decode cL_ticks 907 = .ok (.iload 7, 2) := by decide +kernel
theorem dL_ticks_909 : decode cL_ticks 909 = .ok (.invokestatic 249, 3) := by decide +kernel
theorem dL_ticks_912 : decode cL_ticks 912 = .ok (.iconst 2, 1) := by decide +kernel
theorem dL_ticks_913 : decode cL_ticks 913 = .ok (.if_icmp .le 7, 3) := by decide +kernel
theorem dL_ticks_916 : decode cL_ticks 916 = .ok (.iconst 1, 1) := by decide +kernel
theorem dL_ticks_917 : decode cL_ticks 917 = .ok (.goto 4, 3) := by decide +kernel
theorem dL_ticks_920 : decode cL_ticks 920 = .ok (.iconst 0, 1) := by decide +kernel
theorem dL_ticks_921 : decode cL_ticks 921 = .ok (.ireturn, 1) := by decide +kernel
set_option maxRecDepth 20000 in
theorem ggL_comes_L_draw : GoodIn wsL_comes wsL_draw := goodIn_r _ [6, 7, 8, 9, 10, 11, 12, 13, 14, 15, 16, 17, 5, 18, 19, 20, 242, 243, 244, 245] (by decide +kernel) (by decide +kernel)
set_option maxRecDepth 20000 in
theorem gL_comes_L_draw : GoodIn wsL_comes (wsV RL 139 RL yL_draw wsL_draw) := goodIn_app (goodIn_of _ (by decide +kernel)) ggL_comes_L_draw
set_option maxRecDepth 20000 in
theorem ggL_comes_L_boardIn : GoodIn wsL_comes wsL_boardIn := goodIn_ca (goodIn_r _ [23, 24, 25, 26, 27, 28, 29, 30, 31, 32, 33, 34, 35, 36, 37, 38, 39, 40, 41, 42, 43, 44, 45, 46, 47, 48, 49, 50, 51, 52, 53, 54, 55, 56, 57, 58, 59, 60, 61, 62, 63, 64, 65, 66, 67, 68, 69, 70, 71, 72, 73, 74, 75, 76, 77, 78, 79, 80, 81, 82, 83, 84, 85, 86, 87, 88, 89, 90, 91, 92, 93, 94, 95, 96, 97, 98, 99, 100, 101, 102, 103, 104, 105, 106, 107, 108, 109, 110, 111, 112, 113, 114, 115, 116, 117, 118, 119, 120, 121, 122, 123, 124, 125, 126, 127, 128, 129, 130, 131, 132, 133, 134, 135, 136, 137, 138, 139, 140, 141, 142, 143, 246, 247, 248, 249, 250, 251, 252, 253, 254, 255, 256, 257, 258, 259, 260, 261, 262, 263, 264, 265, 266, 267] (by decide +kernel) (by decide +kernel)) (goodIn_sub (fun _ h => List.mem_cons_of_mem _ (List.mem_append_left _ (List.mem_append_left _ (List.mem_append_right _ h)))) (by decide +kernel))
set_option maxRecDepth 20000 in
theorem gL_comes_L_boardIn : GoodIn wsL_comes (va_wsS RL 237 yL_boardIn wsL_boardIn) := goodIn_app (goodIn_of _ (by decide +kernel)) ggL_comes_L_boardIn
set_option maxRecDepth 20000 in
theorem ggL_comes_L_easyIn : GoodIn wsL_comes wsL_easyIn := goodIn_ca (goodIn_r _ [146, 147, 148, 149, 150, 28, 151, 152, 153, 32, 33, 154, 155, 34, 35, 36, 37, 38, 39, 40, 41, 42, 43, 44, 45, 46, 47, 48, 49, 50, 51, 52, 53, 54, 55, 156, 99, 100, 101, 56, 57, 58, 59, 60, 61, 62, 63, 64, 65, 66, 67, 68, 69, 70, 71, 72, 73, 74, 75, 76, 77, 78, 79, 80, 81, 82, 83, 84, 85, 86, 87, 88, 89, 90, 91, 92, 93, 94, 95, 96, 97, 98, 102, 103, 104, 105, 106, 107, 108, 109, 110, 111, 112, 113, 114, 115, 116, 117, 118, 119, 120, 121, 122, 123, 124, 125, 126, 127, 128, 129, 130, 131, 132, 133, 134, 135, 136, 137, 138, 139, 140, 141, 142, 143, 246, 247, 248, 249, 250, 251, 252, 253, 254, 255, 256, 257, 258, 259, 260, 261, 262, 263, 264, 265, 266, 267] (by decide +kernel) (by decide +kernel)) (goodIn_sub (fun _ h => List.mem_cons_of_mem _ (List.mem_append_left _ (List.mem_append_right _ h))) (by decide +kernel))
set_option maxRecDepth 20000 in
theorem gL_comes_L_easyIn : GoodIn wsL_comes (va_wsS RL 251 yL_easyIn wsL_easyIn) := goodIn_app (goodIn_of _ (by decide +kernel)) ggL_comes_L_easyIn
set_option maxRecDepth 20000 in
theorem ggL_comes_X9_startIn : GoodIn wsL_comes wsX9_startIn := goodIn_r _ [160, 32, 33, 161, 34, 35, 36, 37, 38, 39, 40, 41, 42, 43, 44, 45, 46, 47, 48, 49, 50, 51, 52, 53, 54, 55, 56, 57, 58, 59, 60, 61, 62, 63, 64, 65, 66, 67, 68, 69, 70, 71, 72, 73, 74, 75, 76, 28, 77, 78, 79, 80, 81, 82, 83, 84, 85, 86, 87, 88, 89, 90, 91, 92, 93, 94, 95, 96, 97, 98, 99, 100, 101, 102, 103, 104, 105, 106, 107, 108, 109, 110, 111, 112, 113, 114, 115, 116, 117, 118, 119, 120, 121, 122, 123, 124, 125, 126, 127, 128, 129, 130, 131, 132, 133, 134, 135, 136, 137, 138, 139, 140, 141, 142, 143, 246, 247, 248, 249, 250, 251, 252, 253, 254, 255, 256, 257, 258, 259, 260, 261, 262, 263, 264, 265, 266, 267] (by decide +kernel) (by decide +kernel)
set_option maxRecDepth 20000 in
theorem gL_comes_X9_startIn : GoodIn wsL_comes (wsV RL 234 RX9 yX9_startIn wsX9_startIn) := goodIn_app (goodIn_of _ (by decide +kernel)) ggL_comes_X9_startIn
set_option maxRecDepth 20000 in
theorem ggL_comes_L_count : GoodIn wsL_comes wsL_count := goodIn_ca (goodIn_r _ [164, 24, 165, 166, 167, 28, 168, 30, 31, 169, 170, 33, 161, 246, 247, 248, 249, 250, 251, 252, 253, 254, 268, 269, 270, 255, 256, 257, 258, 259, 260, 261, 262, 263, 264, 265, 266, 267] (by decide +kernel) (by decide +kernel)) (goodIn_sub (fun _ h => List.mem_cons_of_mem _ (List.mem_append_left _ (List.mem_append_left _ (List.mem_append_right _ h)))) (by decide +kernel))
set_option maxRecDepth 20000 in
theorem gL_comes_L_count : GoodIn wsL_comes (va_wsS RL 196 yL_count wsL_count) := goodIn_app (goodIn_of _ (by decide +kernel)) ggL_comes_L_count
set_option maxRecDepth 20000 in
theorem ggL_comes_L_save : GoodIn wsL_comes wsL_save := goodIn_ca (goodIn_r _ [173, 24, 174, 175, 176, 28, 177, 30, 31, 178, 33, 179, 34, 35, 36, 37, 38, 39, 40, 41, 42, 43, 44, 45, 46, 47, 48, 49, 50, 51, 52, 53, 54, 55, 246, 247, 248, 249, 250, 251, 252, 253, 254, 255, 256, 257, 258, 259, 260, 261, 262, 263, 264, 265, 266, 267] (by decide +kernel) (by decide +kernel)) (goodIn_sub (fun _ h => List.mem_cons_of_mem _ (List.mem_append_left _ (List.mem_append_left _ (List.mem_append_right _ h)))) (by decide +kernel))
set_option maxRecDepth 20000 in
theorem gL_comes_L_save : GoodIn wsL_comes (va_wsS RL 253 yL_save wsL_save) := goodIn_app (goodIn_of _ (by decide +kernel)) ggL_comes_L_save
set_option maxRecDepth 20000 in
theorem ggL_comes_X9_slope : GoodIn wsL_comes wsX9_slope := goodIn_r _ [183, 33, 154, 246, 247, 248, 249, 250, 251, 252, 253, 254, 255, 256, 257, 258, 259, 260, 261, 262, 263, 264, 265, 266, 267] (by decide +kernel) (by decide +kernel)
set_option maxRecDepth 20000 in
theorem gL_comes_X9_slope : GoodIn wsL_comes (wsV RL 220 RX9 yX9_slope wsX9_slope) := goodIn_app (goodIn_of _ (by decide +kernel)) ggL_comes_X9_slope
set_option maxRecDepth 20000 in
theorem ggL_comes_L_kind : GoodIn wsL_comes wsL_kind := goodIn_ca (goodIn_ca (goodIn_r _ [186, 147, 24, 187, 188, 189, 28, 190, 152, 153, 30, 31, 33, 156, 99, 100, 37, 101, 45, 246, 247, 248, 249, 250, 251, 252, 253, 254, 255, 256, 257, 258, 259, 260, 261, 262, 263, 264, 265, 266, 267] (by decide +kernel) (by decide +kernel)) (goodIn_sub (fun _ h => List.mem_cons_of_mem _ (List.mem_append_left _ (List.mem_append_right _ h))) (by decide +kernel))) (goodIn_sub (fun _ h => List.mem_cons_of_mem _ (List.mem_append_left _ (List.mem_append_left _ (List.mem_append_right _ h)))) (by decide +kernel))
set_option maxRecDepth 20000 in
theorem gL_comes_L_kind : GoodIn wsL_comes (va_wsS RL 203 yL_kind wsL_kind) := goodIn_app (goodIn_of _ (by decide +kernel)) ggL_comes_L_kind
set_option maxRecDepth 20000 in
theorem ggL_comes_X9_lip : GoodIn wsL_comes wsX9_lip := goodIn_r _ [194, 33, 155, 246, 247, 248, 249, 250, 251, 252, 253, 254, 255, 256, 257, 258, 259, 260, 261, 262, 263, 264, 265, 266, 267] (by decide +kernel) (by decide +kernel)
set_option maxRecDepth 20000 in
theorem gL_comes_X9_lip : GoodIn wsL_comes (wsV RL 190 RX9 yX9_lip wsX9_lip) := goodIn_app (goodIn_of _ (by decide +kernel)) ggL_comes_X9_lip
set_option maxRecDepth 20000 in
theorem ggL_comes_L_tick : GoodIn wsL_comes wsL_tick := goodIn_ca (goodIn_r _ [197, 24, 198, 199, 200, 28, 201, 30, 31, 202, 203, 204, 205, 33, 206, 207, 208, 209, 169, 210, 211, 212, 213, 214, 215, 216, 217, 218, 219, 35, 36, 37, 38, 39, 40, 41, 42, 43, 44, 45, 46, 47, 48, 49, 50, 51, 52, 53, 54, 55, 56, 57, 58, 59, 60, 61, 62, 63, 64, 65, 66, 67, 68, 69, 70, 71, 72, 73, 74, 75, 76, 77, 78, 79, 80, 81, 82, 83, 84, 85, 86, 87, 88, 89, 90, 91, 92, 93, 94, 95, 96, 97, 98, 99, 100, 101, 102, 103, 104, 105, 106, 107, 108, 109, 110, 111, 112, 113, 114, 115, 116, 117, 118, 119, 120, 121, 122, 123, 124, 125, 126, 127, 128, 129, 130, 131, 132, 133, 134, 135, 136, 137, 138, 139, 140, 141, 142, 143, 246, 247, 248, 249, 250, 251, 252, 253, 254, 268, 269, 270, 255, 256, 257, 258, 259, 260, 261, 262, 263, 264, 265, 266, 267] (by decide +kernel) (by decide +kernel)) (goodIn_sub (fun _ h => List.mem_cons_of_mem _ (List.mem_append_left _ (List.mem_append_left _ (List.mem_append_right _ h)))) (by decide +kernel))
set_option maxRecDepth 20000 in
theorem gL_comes_L_tick : GoodIn wsL_comes (va_wsS RL 242 yL_tick wsL_tick) := goodIn_app (goodIn_of _ (by decide +kernel)) ggL_comes_L_tick
set_option maxRecDepth 20000 in
theorem ggL_comes_L_restore : GoodIn wsL_comes wsL_restore := goodIn_ca (goodIn_ca (goodIn_r _ [222, 24, 223, 224, 225, 226, 28, 227, 30, 31, 228, 229, 178, 179, 33, 169, 34, 35, 36, 37, 38, 39, 40, 41, 42, 43, 44, 45, 46, 47, 48, 49, 50, 51, 52, 53, 54, 55, 230, 231, 232, 214, 233, 218, 246, 247, 248, 249, 250, 251, 252, 253, 254, 255, 256, 257, 258, 259, 260, 261, 262, 263, 264, 265, 266, 267, 268, 269, 270] (by decide +kernel) (by decide +kernel)) (goodIn_sub (fun _ h => List.mem_cons_of_mem _ (List.mem_append_left _ (List.mem_append_left _ (List.mem_append_right _ h)))) (by decide +kernel))) (goodIn_sub (fun _ h => List.mem_cons_of_mem _ (List.mem_append_right _ h)) (by decide +kernel))
set_option maxRecDepth 20000 in
theorem gL_comes_L_restore : GoodIn wsL_comes (va_wsS RL 255 yL_restore wsL_restore) := goodIn_app (goodIn_of _ (by decide +kernel)) ggL_comes_L_restore
set_option maxRecDepth 20000 in
theorem ggL_comes_L_car : GoodIn wsL_comes wsL_car := goodIn_ca (goodIn_ca (goodIn_r _ [236, 147, 24, 237, 238, 239, 28, 240, 152, 153, 30, 31, 33, 161, 241, 95, 96, 37, 97, 46, 246, 247, 248, 249, 250, 251, 252, 253, 254, 255, 256, 257, 258, 259, 260, 261, 262, 263, 264, 265, 266, 267] (by decide +kernel) (by decide +kernel)) (goodIn_sub (fun _ h => List.mem_cons_of_mem _ (List.mem_append_left _ (List.mem_append_right _ h))) (by decide +kernel))) (goodIn_sub (fun _ h => List.mem_cons_of_mem _ (List.mem_append_left _ (List.mem_append_left _ (List.mem_append_right _ h)))) (by decide +kernel))
set_option maxRecDepth 20000 in
theorem gL_comes_L_car : GoodIn wsL_comes (va_wsS RL 200 yL_car wsL_car) := goodIn_app (goodIn_of _ (by decide +kernel)) ggL_comes_L_car
theorem dL_comes_0 : decode cL_comes 0 = .ok (.iconst 1, 1) := by decide +kernel
theorem dL_comes_1 : decode cL_comes 1 = .ok (.aload_n 0, 1) := by decide +kernel
theorem dL_comes_2 : decode cL_comes 2 = .ok (.bipush 30, 2) := by decide +kernel
theorem dL_comes_4 : decode cL_comes 4 = .ok (.invokevirtual 139, 3) := by decide +kernel
theorem dL_comes_7 : decode cL_comes 7 = .ok (.iadd, 1) := by decide +kernel
theorem dL_comes_8 : decode cL_comes 8 = .ok (.istore_n 1, 1) := by decide +kernel
theorem dL_comes_9 : decode cL_comes 9 = .ok (.aload_n 0, 1) := by decide +kernel
theorem dL_comes_10 : decode cL_comes 10 = .ok (.getfield 10, 3) := by decide +kernel
theorem dL_comes_13 : decode cL_comes 13 = .ok (.iload_n 1, 1) := by decide +kernel
theorem dL_comes_14 : decode cL_comes 14 = .ok (.invokestatic 237, 3) := by decide +kernel
theorem dL_comes_17 : decode cL_comes 17 = .ok (.istore_n 2, 1) := by decide +kernel
theorem dL_comes_18 : decode cL_comes 18 = .ok (.aload_n 0, 1) := by decide +kernel
theorem dL_comes_19 : decode cL_comes 19 = .ok (.iconst 4, 1) := by decide +kernel
theorem dL_comes_20 : decode cL_comes 20 = .ok (.invokevirtual 139, 3) := by decide +kernel
theorem dL_comes_23 : decode cL_comes 23 = .ok (.istore_n 3, 1) := by decide +kernel
theorem dL_comes_24 : decode cL_comes 24 = .ok (.aload_n 0, 1) := by decide +kernel
theorem dL_comes_25 : decode cL_comes 25 = .ok (.getfield 10, 3) := by decide +kernel
theorem dL_comes_28 : decode cL_comes 28 = .ok (.iload_n 3, 1) := by decide +kernel
theorem dL_comes_29 : decode cL_comes 29 = .ok (.invokestatic 251, 3) := by decide +kernel
theorem dL_comes_32 : decode cL_comes 32 = .ok (.istore 4, 2) := by decide +kernel
theorem dL_comes_34 : decode cL_comes 34 = .ok (.aload_n 0, 1) := by decide +kernel
theorem dL_comes_35 : decode cL_comes 35 = .ok (.getfield 10, 3) := by decide +kernel
theorem dL_comes_38 : decode cL_comes 38 = .ok (.invokevirtual 234, 3) := by decide +kernel
theorem dL_comes_41 : decode cL_comes 41 = .ok (.istore 5, 2) := by decide +kernel
theorem dL_comes_43 : decode cL_comes 43 = .ok (.aload_n 0, 1) := by decide +kernel
theorem dL_comes_44 : decode cL_comes 44 = .ok (.getfield 10, 3) := by decide +kernel
theorem dL_comes_47 : decode cL_comes 47 = .ok (.bipush 8, 2) := by decide +kernel
theorem dL_comes_49 : decode cL_comes 49 = .ok (.invokestatic 196, 3) := by decide +kernel
theorem dL_comes_52 : decode cL_comes 52 = .ok (.istore 6, 2) := by decide +kernel
theorem dL_comes_54 : decode cL_comes 54 = .ok (.aload_n 0, 1) := by decide +kernel
theorem dL_comes_55 : decode cL_comes 55 = .ok (.getfield 10, 3) := by decide +kernel
theorem dL_comes_58 : decode cL_comes 58 = .ok (.iconst 0, 1) := by decide +kernel
theorem dL_comes_59 : decode cL_comes 59 = .ok (.invokestatic 253, 3) := by decide +kernel
theorem dL_comes_62 : decode cL_comes 62 = .ok (.ifCond .eq 5, 3) := by decide +kernel
theorem dL_comes_65 : decode cL_comes 65 = .ok (.iconst 0, 1) := by decide +kernel
theorem dL_comes_66 : decode cL_comes 66 = .ok (.ireturn, 1) := by decide +kernel
theorem dL_comes_67 : decode cL_comes 67 = .ok (.iload 4, 2) := by decide +kernel
theorem dL_comes_69 : decode cL_comes 69 = .ok (.ifCond .lt 121, 3) := by decide +kernel
theorem dL_comes_72 : decode cL_comes 72 = .ok (.iconst 0, 1) := by decide +kernel
theorem dL_comes_73 : decode cL_comes 73 = .ok (.istore 7, 2) := by decide +kernel
theorem dL_comes_75 : decode cL_comes 75 = .ok (.iload 7, 2) := by decide +kernel
theorem dL_comes_77 : decode cL_comes 77 = .ok (.iload 4, 2) := by decide +kernel
theorem dL_comes_79 : decode cL_comes 79 = .ok (.if_icmp .ge 60, 3) := by decide +kernel
theorem dL_comes_82 : decode cL_comes 82 = .ok (.aload_n 0, 1) := by decide +kernel
theorem dL_comes_83 : decode cL_comes 83 = .ok (.getfield 10, 3) := by decide +kernel
theorem dL_comes_86 : decode cL_comes 86 = .ok (.invokevirtual 220, 3) := by decide +kernel
theorem dL_comes_89 : decode cL_comes 89 = .ok (.aload_n 0, 1) := by decide +kernel
theorem dL_comes_90 : decode cL_comes 90 = .ok (.getfield 10, 3) := by decide +kernel
theorem dL_comes_93 : decode cL_comes 93 = .ok (.iload_n 3, 1) := by decide +kernel
theorem dL_comes_94 : decode cL_comes 94 = .ok (.iconst 0, 1) := by decide +kernel
theorem dL_comes_95 : decode cL_comes 95 = .ok (.invokestatic 203, 3) := by decide +kernel
theorem dL_comes_98 : decode cL_comes 98 = .ok (.if_icmp .gt 22, 3) := by decide +kernel
theorem dL_comes_101 : decode cL_comes 101 = .ok (.aload_n 0, 1) := by decide +kernel
theorem dL_comes_102 : decode cL_comes 102 = .ok (.getfield 10, 3) := by decide +kernel
theorem dL_comes_105 : decode cL_comes 105 = .ok (.invokevirtual 190, 3) := by decide +kernel
theorem dL_comes_108 : decode cL_comes 108 = .ok (.aload_n 0, 1) := by decide +kernel
theorem dL_comes_109 : decode cL_comes 109 = .ok (.getfield 10, 3) := by decide +kernel
theorem dL_comes_112 : decode cL_comes 112 = .ok (.iload_n 3, 1) := by decide +kernel
theorem dL_comes_113 : decode cL_comes 113 = .ok (.iconst 1, 1) := by decide +kernel
theorem dL_comes_114 : decode cL_comes 114 = .ok (.invokestatic 203, 3) := by decide +kernel
theorem dL_comes_117 : decode cL_comes 117 = .ok (.if_icmp .le 14, 3) := by decide +kernel
theorem dL_comes_120 : decode cL_comes 120 = .ok (.aload_n 0, 1) := by decide +kernel
theorem dL_comes_121 : decode cL_comes 121 = .ok (.getfield 10, 3) := by decide +kernel
theorem dL_comes_124 : decode cL_comes 124 = .ok (.iconst 1, 1) := by decide +kernel
theorem dL_comes_125 : decode cL_comes 125 = .ok (.invokestatic 242, 3) := by decide +kernel
theorem dL_comes_128 : decode cL_comes 128 = .ok (.ifCond .ge 5, 3) := by decide +kernel
theorem dL_comes_131 : decode cL_comes 131 = .ok (.iconst 0, 1) := by decide +kernel
theorem dL_comes_132 : decode cL_comes 132 = .ok (.ireturn, 1) := by decide +kernel
theorem dL_comes_133 : decode cL_comes 133 = .ok (.iinc 7 1, 3) := by decide +kernel
theorem dL_comes_136 : decode cL_comes 136 = .ok (.goto (-61), 3) := by decide +kernel
theorem dL_comes_139 : decode cL_comes 139 = .ok (.aload_n 0, 1) := by decide +kernel
theorem dL_comes_140 : decode cL_comes 140 = .ok (.getfield 10, 3) := by decide +kernel
theorem dL_comes_143 : decode cL_comes 143 = .ok (.invokevirtual 220, 3) := by decide +kernel
theorem dL_comes_146 : decode cL_comes 146 = .ok (.aload_n 0, 1) := by decide +kernel
theorem dL_comes_147 : decode cL_comes 147 = .ok (.getfield 10, 3) := by decide +kernel
theorem dL_comes_150 : decode cL_comes 150 = .ok (.iload_n 3, 1) := by decide +kernel
theorem dL_comes_151 : decode cL_comes 151 = .ok (.iconst 0, 1) := by decide +kernel
theorem dL_comes_152 : decode cL_comes 152 = .ok (.invokestatic 203, 3) := by decide +kernel
theorem dL_comes_155 : decode cL_comes 155 = .ok (.if_icmp .gt 33, 3) := by decide +kernel
theorem dL_comes_158 : decode cL_comes 158 = .ok (.aload_n 0, 1) := by decide +kernel
theorem dL_comes_159 : decode cL_comes 159 = .ok (.getfield 10, 3) := by decide +kernel
theorem dL_comes_162 : decode cL_comes 162 = .ok (.invokevirtual 190, 3) := by decide +kernel
theorem dL_comes_165 : decode cL_comes 165 = .ok (.aload_n 0, 1) := by decide +kernel
theorem dL_comes_166 : decode cL_comes 166 = .ok (.getfield 10, 3) := by decide +kernel
theorem dL_comes_169 : decode cL_comes 169 = .ok (.iload_n 3, 1) := by decide +kernel
theorem dL_comes_170 : decode cL_comes 170 = .ok (.iconst 1, 1) := by decide +kernel
theorem dL_comes_171 : decode cL_comes 171 = .ok (.invokestatic 203, 3) := by decide +kernel
theorem dL_comes_174 : decode cL_comes 174 = .ok (.if_icmp .gt 14, 3) := by decide +kernel
theorem dL_comes_177 : decode cL_comes 177 = .ok (.aload_n 0, 1) := by decide +kernel
theorem dL_comes_178 : decode cL_comes 178 = .ok (.getfield 10, 3) := by decide +kernel
theorem dL_comes_181 : decode cL_comes 181 = .ok (.iconst 0, 1) := by decide +kernel
theorem dL_comes_182 : decode cL_comes 182 = .ok (.invokestatic 255, 3) := by decide +kernel
theorem dL_comes_185 : decode cL_comes 185 = .ok (.ifCond .eq 5, 3) := by decide +kernel
theorem dL_comes_188 : decode cL_comes 188 = .ok (.iconst 0, 1) := by decide +kernel
theorem dL_comes_189 : decode cL_comes 189 = .ok (.ireturn, 1) := by decide +kernel
theorem dL_comes_190 : decode cL_comes 190 = .ok (.iload 5, 2) := by decide +kernel
theorem dL_comes_192 : decode cL_comes 192 = .ok (.ifCond .lt 89, 3) := by decide +kernel
theorem dL_comes_195 : decode cL_comes 195 = .ok (.iconst 0, 1) := by decide +kernel
theorem dL_comes_196 : decode cL_comes 196 = .ok (.istore 7, 2) := by decide +kernel
theorem dL_comes_198 : decode cL_comes 198 = .ok (.iload 7, 2) := by decide +kernel
theorem dL_comes_200 : decode cL_comes 200 = .ok (.iload 5, 2) := by decide +kernel
theorem dL_comes_202 : decode cL_comes 202 = .ok (.if_icmp .ge 22, 3) := by decide +kernel
theorem dL_comes_205 : decode cL_comes 205 = .ok (.aload_n 0, 1) := by decide +kernel
theorem dL_comes_206 : decode cL_comes 206 = .ok (.getfield 10, 3) := by decide +kernel
theorem dL_comes_209 : decode cL_comes 209 = .ok (.iconst 1, 1) := by decide +kernel
theorem dL_comes_210 : decode cL_comes 210 = .ok (.invokestatic 242, 3) := by decide +kernel
theorem dL_comes_213 : decode cL_comes 213 = .ok (.ifCond .ge 5, 3) := by decide +kernel
theorem dL_comes_216 : decode cL_comes 216 = .ok (.iconst 0, 1) := by decide +kernel
theorem dL_comes_217 : decode cL_comes 217 = .ok (.ireturn, 1) := by decide +kernel
theorem dL_comes_218 : decode cL_comes 218 = .ok (.iinc 7 1, 3) := by decide +kernel
theorem dL_comes_221 : decode cL_comes 221 = .ok (.goto (-23), 3) := by decide +kernel
theorem dL_comes_224 : decode cL_comes 224 = .ok (.aload_n 0, 1) := by decide +kernel
theorem dL_comes_225 : decode cL_comes 225 = .ok (.getfield 10, 3) := by decide +kernel
theorem dL_comes_228 : decode cL_comes 228 = .ok (.bipush 8, 2) := by decide +kernel
theorem dL_comes_230 : decode cL_comes 230 = .ok (.invokestatic 196, 3) := by decide +kernel
theorem dL_comes_233 : decode cL_comes 233 = .ok (.istore 7, 2) := by decide +kernel
theorem dL_comes_235 : decode cL_comes 235 = .ok (.iload 7, 2) := by decide +kernel
theorem dL_comes_237 : decode cL_comes 237 = .ok (.ifCond .lt 42, 3) := by decide +kernel
theorem dL_comes_240 : decode cL_comes 240 = .ok (.iload 7, 2) := by decide +kernel
theorem dL_comes_242 : decode cL_comes 242 = .ok (.iload 6, 2) := by decide +kernel
theorem dL_comes_244 : decode cL_comes 244 = .ok (.if_icmp .eq 35, 3) := by decide +kernel
theorem dL_comes_247 : decode cL_comes 247 = .ok (.aload_n 0, 1) := by decide +kernel
theorem dL_comes_248 : decode cL_comes 248 = .ok (.getfield 10, 3) := by decide +kernel
theorem dL_comes_251 : decode cL_comes 251 = .ok (.iload 7, 2) := by decide +kernel
theorem dL_comes_253 : decode cL_comes 253 = .ok (.iconst 5, 1) := by decide +kernel
theorem dL_comes_254 : decode cL_comes 254 = .ok (.invokestatic 200, 3) := by decide +kernel
theorem dL_comes_257 : decode cL_comes 257 = .ok (.aload_n 0, 1) := by decide +kernel
theorem dL_comes_258 : decode cL_comes 258 = .ok (.getfield 10, 3) := by decide +kernel
theorem dL_comes_261 : decode cL_comes 261 = .ok (.iconst 0, 1) := by decide +kernel
theorem dL_comes_262 : decode cL_comes 262 = .ok (.invokestatic 196, 3) := by decide +kernel
theorem dL_comes_265 : decode cL_comes 265 = .ok (.if_icmp .ne 14, 3) := by decide +kernel
theorem dL_comes_268 : decode cL_comes 268 = .ok (.aload_n 0, 1) := by decide +kernel
theorem dL_comes_269 : decode cL_comes 269 = .ok (.getfield 10, 3) := by decide +kernel
theorem dL_comes_272 : decode cL_comes 272 = .ok (.iconst 0, 1) := by decide +kernel
theorem dL_comes_273 : decode cL_comes 273 = .ok (.invokestatic 255, 3) := by decide +kernel
theorem dL_comes_276 : decode cL_comes 276 = .ok (.ifCond .eq 5, 3) := by decide +kernel
theorem dL_comes_279 : decode cL_comes 279 = .ok (.iconst 0, 1) := by decide +kernel
theorem dL_comes_280 : decode cL_comes 280 = .ok (.ireturn, 1) := by decide +kernel
theorem dL_comes_281 : decode cL_comes 281 = .ok (.aload_n 0, 1) := by decide +kernel
theorem dL_comes_282 : decode cL_comes 282 = .ok (.getfield 10, 3) := by decide +kernel
theorem dL_comes_285 : decode cL_comes 285 = .ok (.bipush 13, 2) := by decide +kernel
theorem dL_comes_287 : decode cL_comes 287 = .ok (.invokestatic 196, 3) := by decide +kernel
theorem dL_comes_290 : decode cL_comes 290 = .ok (.istore 7, 2) := by decide +kernel
theorem dL_comes_292 : decode cL_comes 292 = .ok (.iconst 0, 1) := by decide +kernel
theorem dL_comes_293 : decode cL_comes 293 = .ok (.istore 8, 2) := by decide +kernel
theorem dL_comes_295 : decode cL_comes 295 = .ok (.aload_n 0, 1) := by decide +kernel
theorem dL_comes_296 : decode cL_comes 296 = .ok (.iload_n 1, 1) := by decide +kernel
theorem dL_comes_297 : decode cL_comes 297 = .ok (.invokevirtual 139, 3) := by decide +kernel
theorem dL_comes_300 : decode cL_comes 300 = .ok (.istore 9, 2) := by decide +kernel
theorem dL_comes_302 : decode cL_comes 302 = .ok (.iload 9, 2) := by decide +kernel
theorem dL_comes_304 : decode cL_comes 304 = .ok (.ifCond .le 14, 3) := by decide +kernel
theorem dL_comes_307 : decode cL_comes 307 = .ok (.aload_n 0, 1) := by decide +kernel
theorem dL_comes_308 : decode cL_comes 308 = .ok (.getfield 10, 3) := by decide +kernel
theorem dL_comes_311 : decode cL_comes 311 = .ok (.iload 9, 2) := by decide +kernel
theorem dL_comes_313 : decode cL_comes 313 = .ok (.invokestatic 242, 3) := by decide +kernel
theorem dL_comes_316 : decode cL_comes 316 = .ok (.istore 8, 2) := by decide +kernel
theorem dL_comes_318 : decode cL_comes 318 = .ok (.iload 8, 2) := by decide +kernel
theorem dL_comes_320 : decode cL_comes 320 = .ok (.aload_n 0, 1) := by decide +kernel
theorem dL_comes_321 : decode cL_comes 321 = .ok (.getfield 10, 3) := by decide +kernel
theorem dL_comes_324 : decode cL_comes 324 = .ok (.iload_n 1, 1) := by decide +kernel
theorem dL_comes_325 : decode cL_comes 325 = .ok (.iload 9, 2) := by decide +kernel
theorem dL_comes_327 : decode cL_comes 327 = .ok (.isub, 1) := by decide +kernel
theorem dL_comes_328 : decode cL_comes 328 = .ok (.invokestatic 242, 3) := by decide +kernel
theorem dL_comes_331 : decode cL_comes 331 = .ok (.iadd, 1) := by decide +kernel
theorem dL_comes_332 : decode cL_comes 332 = .ok (.istore 8, 2) := by decide +kernel
theorem dL_comes_334 : decode cL_comes 334 = .ok (.iload 8, 2) := by decide +kernel
theorem dL_comes_336 : decode cL_comes 336 = .ok (.iload_n 2, 1) := by decide +kernel
theorem dL_comes_337 : decode cL_comes 337 = .ok (.if_icmp .ne 77, 3) := by decide +kernel
theorem dL_comes_340 : decode cL_comes 340 = .ok (.aload_n 0, 1) := by decide +kernel
theorem dL_comes_341 : decode cL_comes 341 = .ok (.getfield 10, 3) := by decide +kernel
theorem dL_comes_344 : decode cL_comes 344 = .ok (.bipush 13, 2) := by decide +kernel
theorem dL_comes_346 : decode cL_comes 346 = .ok (.invokestatic 196, 3) := by decide +kernel
theorem dL_comes_349 : decode cL_comes 349 = .ok (.iload 7, 2) := by decide +kernel
theorem dL_comes_351 : decode cL_comes 351 = .ok (.iload_n 2, 1) := by decide +kernel
theorem dL_comes_352 : decode cL_comes 352 = .ok (.iadd, 1) := by decide +kernel
theorem dL_comes_353 : decode cL_comes 353 = .ok (.if_icmp .ne 61, 3) := by decide +kernel
theorem dL_comes_356 : decode cL_comes 356 = .ok (.aload_n 0, 1) := by decide +kernel
theorem dL_comes_357 : decode cL_comes 357 = .ok (.getfield 10, 3) := by decide +kernel
theorem dL_comes_360 : decode cL_comes 360 = .ok (.sipush 200, 3) := by decide +kernel
theorem dL_comes_363 : decode cL_comes 363 = .ok (.invokestatic 237, 3) := by decide +kernel
theorem dL_comes_366 : decode cL_comes 366 = .ok (.aload_n 0, 1) := by decide +kernel
theorem dL_comes_367 : decode cL_comes 367 = .ok (.getfield 10, 3) := by decide +kernel
theorem dL_comes_370 : decode cL_comes 370 = .ok (.iconst 1, 1) := by decide +kernel
theorem dL_comes_371 : decode cL_comes 371 = .ok (.invokestatic 237, 3) := by decide +kernel
theorem dL_comes_374 : decode cL_comes 374 = .ok (.if_icmp .lt 40, 3) := by decide +kernel
theorem dL_comes_377 : decode cL_comes 377 = .ok (.aload_n 0, 1) := by decide +kernel
theorem dL_comes_378 : decode cL_comes 378 = .ok (.iconst 2, 1) := by decide +kernel
theorem dL_comes_379 : decode cL_comes 379 = .ok (.invokevirtual 139, 3) := by decide +kernel
theorem dL_comes_382 : decode cL_comes 382 = .ok (.ifCond .eq 28, 3) := by decide +kernel
theorem dL_comes_385 : decode cL_comes 385 = .ok (.aload_n 0, 1) := by decide +kernel
theorem dL_comes_386 : decode cL_comes 386 = .ok (.getfield 10, 3) := by decide +kernel
theorem dL_comes_389 : decode cL_comes 389 = .ok (.iconst 0, 1) := by decide +kernel
theorem dL_comes_390 : decode cL_comes 390 = .ok (.invokestatic 255, 3) := by decide +kernel
theorem dL_comes_393 : decode cL_comes 393 = .ok (.ifCond .ne 21, 3) := by decide +kernel
theorem dL_comes_396 : decode cL_comes 396 = .ok (.aload_n 0, 1) := by decide +kernel
theorem dL_comes_397 : decode cL_comes 397 = .ok (.getfield 10, 3) := by decide +kernel
theorem dL_comes_400 : decode cL_comes 400 = .ok (.bipush 13, 2) := by decide +kernel
theorem dL_comes_402 : decode cL_comes 402 = .ok (.invokestatic 196, 3) := by decide +kernel
theorem dL_comes_405 : decode cL_comes 405 = .ok (.iload 7, 2) := by decide +kernel
theorem dL_comes_407 : decode cL_comes 407 = .ok (.if_icmp .ne 7, 3) := by decide +kernel
theorem dL_comes_410 : decode cL_comes 410 = .ok (.iconst 1, 1) := by decide +kernel
theorem dL_comes_411 : decode cL_comes 411 = .ok (.goto 4, 3) := by decide +kernel
theorem dL_comes_414 : decode cL_comes 414 = .ok (.iconst 0, 1) := by decide +kernel
theorem dL_comes_415 : decode cL_comes 415 = .ok (.ireturn, 1) := by decide +kernel
set_option maxRecDepth 20000 in
theorem ggL_best_L_draw : GoodIn wsL_best wsL_draw := goodIn_r _ [6, 7, 8, 9, 10, 11, 12, 13, 14, 15, 16, 17, 5, 18, 19, 20, 230, 231, 232, 233] (by decide +kernel) (by decide +kernel)
set_option maxRecDepth 20000 in
theorem gL_best_L_draw : GoodIn wsL_best (wsV RL 139 RL yL_draw wsL_draw) := goodIn_app (goodIn_of _ (by decide +kernel)) ggL_best_L_draw
set_option maxRecDepth 20000 in
theorem ggL_best_L_bestFirst : GoodIn wsL_best wsL_bestFirst := goodIn_ca (goodIn_r _ [23, 24, 25, 26, 27, 28, 29, 30, 31, 32, 33, 34, 35, 36, 37, 38, 39, 40, 41, 42, 43, 44, 45, 46, 47, 48, 49, 50, 51, 52, 53, 54, 55, 56, 57, 58, 59, 60, 61, 62, 63, 64, 65, 66, 67, 68, 69, 70, 71, 72, 73, 74, 75, 76, 77, 78, 79, 80, 81, 82, 83, 84, 85, 86, 87, 88, 89, 90, 91, 92, 93, 94, 95, 96, 97, 98, 99, 100, 101, 102, 103, 104, 105, 106, 107, 108, 109, 110, 111, 112, 113, 114, 115, 116, 117, 118, 119, 120, 121, 122, 123, 124, 125, 126, 127, 128, 129, 130, 131, 132, 133, 134, 135, 136, 137, 138, 139, 140, 141, 142, 143, 144, 145, 146, 147, 148, 149, 150, 234, 235, 236, 237, 238, 239, 240, 241, 242, 243, 244, 245, 246, 247, 248, 249, 250, 251, 252, 253, 254, 255] (by decide +kernel) (by decide +kernel)) (goodIn_sub (fun _ h => List.mem_cons_of_mem _ (List.mem_append_left _ (List.mem_append_left _ (List.mem_append_right _ h)))) (by decide +kernel))
set_option maxRecDepth 20000 in
theorem gL_best_L_bestFirst : GoodIn wsL_best (va_wsS RL 257 yL_bestFirst wsL_bestFirst) := goodIn_app (goodIn_of _ (by decide +kernel)) ggL_best_L_bestFirst
set_option maxRecDepth 20000 in
theorem ggL_best_L_count : GoodIn wsL_best wsL_count := goodIn_ca (goodIn_r _ [153, 24, 154, 155, 156, 28, 157, 30, 31, 158, 159, 32, 33, 234, 235, 236, 237, 238, 239, 240, 241, 242, 256, 257, 258, 243, 244, 245, 246, 247, 248, 249, 250, 251, 252, 253, 254, 255] (by decide +kernel) (by decide +kernel)) (goodIn_sub (fun _ h => List.mem_cons_of_mem _ (List.mem_append_left _ (List.mem_append_left _ (List.mem_append_right _ h)))) (by decide +kernel))
set_option maxRecDepth 20000 in
theorem gL_best_L_count : GoodIn wsL_best (va_wsS RL 196 yL_count wsL_count) := goodIn_app (goodIn_of _ (by decide +kernel)) ggL_best_L_count
set_option maxRecDepth 20000 in
theorem ggL_best_L_save : GoodIn wsL_best wsL_save := goodIn_ca (goodIn_r _ [162, 24, 163, 164, 165, 28, 166, 30, 31, 167, 32, 168, 36, 37, 38, 39, 40, 41, 42, 43, 44, 45, 46, 47, 48, 49, 50, 51, 52, 53, 54, 55, 56, 57, 234, 235, 236, 237, 238, 239, 240, 241, 242, 243, 244, 245, 246, 247, 248, 249, 250, 251, 252, 253, 254, 255] (by decide +kernel) (by decide +kernel)) (goodIn_sub (fun _ h => List.mem_cons_of_mem _ (List.mem_append_left _ (List.mem_append_left _ (List.mem_append_right _ h)))) (by decide +kernel))
set_option maxRecDepth 20000 in
theorem gL_best_L_save : GoodIn wsL_best (va_wsS RL 253 yL_save wsL_save) := goodIn_app (goodIn_of _ (by decide +kernel)) ggL_best_L_save
set_option maxRecDepth 20000 in
theorem ggL_best_L_wave : GoodIn wsL_best wsL_wave := goodIn_ca (goodIn_r _ [171, 172, 173, 174, 175, 28, 176, 177, 178, 179, 180, 181, 182, 32, 183, 184, 185, 39, 186, 41, 49, 187, 188, 189, 190, 191, 192, 193, 194, 195, 158, 196, 197, 198, 199, 200, 201, 202, 203, 204, 37, 38, 40, 42, 43, 44, 45, 46, 47, 48, 50, 51, 52, 53, 54, 55, 56, 57, 58, 59, 60, 61, 234, 235, 236, 237, 238, 239, 240, 241, 242, 243, 244, 245, 246, 247, 248, 249, 250, 251, 252, 253, 254, 255, 256, 257, 258] (by decide +kernel) (by decide +kernel)) (goodIn_sub (fun _ h => List.mem_cons_of_mem _ (List.mem_append_left _ (List.mem_append_right _ h))) (by decide +kernel))
set_option maxRecDepth 20000 in
theorem gL_best_L_wave : GoodIn wsL_best (va_wsS RL 259 yL_wave wsL_wave) := goodIn_app (goodIn_of _ (by decide +kernel)) ggL_best_L_wave
set_option maxRecDepth 20000 in
theorem ggL_best_L_boardIn : GoodIn wsL_best wsL_boardIn := goodIn_ca (goodIn_r _ [207, 24, 208, 209, 210, 28, 211, 30, 31, 34, 32, 36, 37, 38, 39, 40, 41, 42, 43, 44, 45, 46, 47, 48, 49, 50, 51, 52, 53, 54, 55, 56, 57, 62, 63, 64, 65, 66, 67, 68, 69, 70, 71, 72, 73, 74, 75, 76, 77, 78, 79, 80, 81, 82, 83, 84, 85, 86, 87, 88, 89, 90, 91, 92, 93, 94, 95, 96, 97, 98, 99, 100, 101, 102, 103, 104, 105, 106, 107, 108, 109, 110, 111, 112, 113, 114, 115, 116, 117, 118, 119, 120, 121, 122, 123, 124, 125, 126, 127, 128, 129, 130, 131, 132, 133, 134, 135, 136, 137, 138, 139, 140, 141, 142, 143, 144, 145, 146, 147, 148, 149, 234, 235, 236, 237, 238, 239, 240, 241, 242, 243, 244, 245, 246, 247, 248, 249, 250, 251, 252, 253, 254, 255] (by decide +kernel) (by decide +kernel)) (goodIn_sub (fun _ h => List.mem_cons_of_mem _ (List.mem_append_left _ (List.mem_append_left _ (List.mem_append_right _ h)))) (by decide +kernel))
set_option maxRecDepth 20000 in
theorem gL_best_L_boardIn : GoodIn wsL_best (va_wsS RL 237 yL_boardIn wsL_boardIn) := goodIn_app (goodIn_of _ (by decide +kernel)) ggL_best_L_boardIn
set_option maxRecDepth 20000 in
theorem ggL_best_X9_queued : GoodIn wsL_best wsX9_queued := goodIn_r _ [215, 32, 33, 35, 150, 136, 28, 137, 234, 235, 236, 237, 238, 239, 240, 241, 242, 243, 244, 245, 246, 247, 248, 249, 250, 251, 252, 253, 254, 255] (by decide +kernel) (by decide +kernel)
set_option maxRecDepth 20000 in
theorem gL_best_X9_queued : GoodIn wsL_best (wsV RL 210 RX9 yX9_queued wsX9_queued) := goodIn_app (goodIn_of _ (by decide +kernel)) ggL_best_X9_queued
set_option maxRecDepth 20000 in
theorem ggL_best_L_restore : GoodIn wsL_best wsL_restore := goodIn_ca (goodIn_ca (goodIn_r _ [218, 24, 219, 220, 221, 222, 28, 223, 30, 31, 224, 225, 167, 168, 32, 158, 36, 37, 38, 39, 40, 41, 42, 43, 44, 45, 46, 47, 48, 49, 50, 51, 52, 53, 54, 55, 56, 57, 226, 227, 228, 199, 229, 203, 234, 235, 236, 237, 238, 239, 240, 241, 242, 243, 244, 245, 246, 247, 248, 249, 250, 251, 252, 253, 254, 255, 256, 257, 258] (by decide +kernel) (by decide +kernel)) (goodIn_sub (fun _ h => List.mem_cons_of_mem _ (List.mem_append_left _ (List.mem_append_left _ (List.mem_append_right _ h)))) (by decide +kernel))) (goodIn_sub (fun _ h => List.mem_cons_of_mem _ (List.mem_append_right _ h)) (by decide +kernel))
set_option maxRecDepth 20000 in
theorem gL_best_L_restore : GoodIn wsL_best (va_wsS RL 255 yL_restore wsL_restore) := goodIn_app (goodIn_of _ (by decide +kernel)) ggL_best_L_restore
theorem dL_best_0 : decode cL_best 0 = .ok (.iconst 1, 1) := by decide +kernel
theorem dL_best_1 : decode cL_best 1 = .ok (.aload_n 0, 1) := by decide +kernel
theorem dL_best_2 : decode cL_best 2 = .ok (.bipush 40, 2) := by decide +kernel
theorem dL_best_4 : decode cL_best 4 = .ok (.invokevirtual 139, 3) := by decide +kernel
theorem dL_best_7 : decode cL_best 7 = .ok (.iadd, 1) := by decide +kernel
theorem dL_best_8 : decode cL_best 8 = .ok (.istore_n 1, 1) := by decide +kernel
theorem dL_best_9 : decode cL_best 9 = .ok (.aload_n 0, 1) := by decide +kernel
theorem dL_best_10 : decode cL_best 10 = .ok (.getfield 10, 3) := by decide +kernel
theorem dL_best_13 : decode cL_best 13 = .ok (.iload_n 1, 1) := by decide +kernel
theorem dL_best_14 : decode cL_best 14 = .ok (.invokestatic 257, 3) := by decide +kernel
theorem dL_best_17 : decode cL_best 17 = .ok (.istore_n 2, 1) := by decide +kernel
theorem dL_best_18 : decode cL_best 18 = .ok (.aload_n 0, 1) := by decide +kernel
theorem dL_best_19 : decode cL_best 19 = .ok (.getfield 10, 3) := by decide +kernel
theorem dL_best_22 : decode cL_best 22 = .ok (.iconst 1, 1) := by decide +kernel
theorem dL_best_23 : decode cL_best 23 = .ok (.invokestatic 196, 3) := by decide +kernel
theorem dL_best_26 : decode cL_best 26 = .ok (.istore_n 3, 1) := by decide +kernel
theorem dL_best_27 : decode cL_best 27 = .ok (.iload_n 3, 1) := by decide +kernel
theorem dL_best_28 : decode cL_best 28 = .ok (.ifCond .ne 14, 3) := by decide +kernel
theorem dL_best_31 : decode cL_best 31 = .ok (.iload_n 2, 1) := by decide +kernel
theorem dL_best_32 : decode cL_best 32 = .ok (.iconst (-1), 1) := by decide +kernel
theorem dL_best_33 : decode cL_best 33 = .ok (.if_icmp .ne 7, 3) := by decide +kernel
theorem dL_best_36 : decode cL_best 36 = .ok (.iconst 1, 1) := by decide +kernel
theorem dL_best_37 : decode cL_best 37 = .ok (.goto 4, 3) := by decide +kernel
theorem dL_best_40 : decode cL_best 40 = .ok (.iconst 0, 1) := by decide +kernel
theorem dL_best_41 : decode cL_best 41 = .ok (.ireturn, 1) := by decide +kernel
theorem dL_best_42 : decode cL_best 42 = .ok (.aload_n 0, 1) := by decide +kernel
theorem dL_best_43 : decode cL_best 43 = .ok (.getfield 10, 3) := by decide +kernel
theorem dL_best_46 : decode cL_best 46 = .ok (.iconst 1, 1) := by decide +kernel
theorem dL_best_47 : decode cL_best 47 = .ok (.invokestatic 253, 3) := by decide +kernel
theorem dL_best_50 : decode cL_best 50 = .ok (.ifCond .ne 7, 3) := by decide +kernel
theorem dL_best_53 : decode cL_best 53 = .ok (.iload_n 2, 1) := by decide +kernel
theorem dL_best_54 : decode cL_best 54 = .ok (.ifCond .ge 5, 3) := by decide +kernel
theorem dL_best_57 : decode cL_best 57 = .ok (.iconst 0, 1) := by decide +kernel
theorem dL_best_58 : decode cL_best 58 = .ok (.ireturn, 1) := by decide +kernel
theorem dL_best_59 : decode cL_best 59 = .ok (.aload_n 0, 1) := by decide +kernel
theorem dL_best_60 : decode cL_best 60 = .ok (.getfield 10, 3) := by decide +kernel
theorem dL_best_63 : decode cL_best 63 = .ok (.iload_n 2, 1) := by decide +kernel
theorem dL_best_64 : decode cL_best 64 = .ok (.invokestatic 259, 3) := by decide +kernel
theorem dL_best_67 : decode cL_best 67 = .ok (.istore 4, 2) := by decide +kernel
theorem dL_best_69 : decode cL_best 69 = .ok (.aload_n 0, 1) := by decide +kernel
theorem dL_best_70 : decode cL_best 70 = .ok (.getfield 10, 3) := by decide +kernel
theorem dL_best_73 : decode cL_best 73 = .ok (.iload_n 1, 1) := by decide +kernel
theorem dL_best_74 : decode cL_best 74 = .ok (.invokestatic 237, 3) := by decide +kernel
theorem dL_best_77 : decode cL_best 77 = .ok (.istore 5, 2) := by decide +kernel
theorem dL_best_79 : decode cL_best 79 = .ok (.iload 4, 2) := by decide +kernel
theorem dL_best_81 : decode cL_best 81 = .ok (.bipush (-2), 2) := by decide +kernel
theorem dL_best_83 : decode cL_best 83 = .ok (.if_icmp .eq 9, 3) := by decide +kernel
theorem dL_best_86 : decode cL_best 86 = .ok (.iload 4, 2) := by decide +kernel
theorem dL_best_88 : decode cL_best 88 = .ok (.iconst 1, 1) := by decide +kernel
theorem dL_best_89 : decode cL_best 89 = .ok (.if_icmp .lt 26, 3) := by decide +kernel
theorem dL_best_92 : decode cL_best 92 = .ok (.aload_n 0, 1) := by decide +kernel
theorem dL_best_93 : decode cL_best 93 = .ok (.getfield 10, 3) := by decide +kernel
theorem dL_best_96 : decode cL_best 96 = .ok (.iconst 0, 1) := by decide +kernel
theorem dL_best_97 : decode cL_best 97 = .ok (.invokevirtual 210, 3) := by decide +kernel
theorem dL_best_100 : decode cL_best 100 = .ok (.iload_n 2, 1) := by decide +kernel
theorem dL_best_101 : decode cL_best 101 = .ok (.if_icmp .ne 14, 3) := by decide +kernel
theorem dL_best_104 : decode cL_best 104 = .ok (.aload_n 0, 1) := by decide +kernel
theorem dL_best_105 : decode cL_best 105 = .ok (.getfield 10, 3) := by decide +kernel
theorem dL_best_108 : decode cL_best 108 = .ok (.iconst 1, 1) := by decide +kernel
theorem dL_best_109 : decode cL_best 109 = .ok (.invokestatic 255, 3) := by decide +kernel
theorem dL_best_112 : decode cL_best 112 = .ok (.ifCond .eq 5, 3) := by decide +kernel
theorem dL_best_115 : decode cL_best 115 = .ok (.iconst 0, 1) := by decide +kernel
theorem dL_best_116 : decode cL_best 116 = .ok (.ireturn, 1) := by decide +kernel
theorem dL_best_117 : decode cL_best 117 = .ok (.aload_n 0, 1) := by decide +kernel
theorem dL_best_118 : decode cL_best 118 = .ok (.getfield 10, 3) := by decide +kernel
theorem dL_best_121 : decode cL_best 121 = .ok (.aload_n 0, 1) := by decide +kernel
theorem dL_best_122 : decode cL_best 122 = .ok (.iload_n 3, 1) := by decide +kernel
theorem dL_best_123 : decode cL_best 123 = .ok (.invokevirtual 139, 3) := by decide +kernel
theorem dL_best_126 : decode cL_best 126 = .ok (.invokevirtual 210, 3) := by decide +kernel
theorem dL_best_129 : decode cL_best 129 = .ok (.istore 6, 2) := by decide +kernel
theorem dL_best_131 : decode cL_best 131 = .ok (.aload_n 0, 1) := by decide +kernel
theorem dL_best_132 : decode cL_best 132 = .ok (.getfield 10, 3) := by decide +kernel
theorem dL_best_135 : decode cL_best 135 = .ok (.iload 6, 2) := by decide +kernel
theorem dL_best_137 : decode cL_best 137 = .ok (.invokestatic 259, 3) := by decide +kernel
theorem dL_best_140 : decode cL_best 140 = .ok (.istore 4, 2) := by decide +kernel
theorem dL_best_142 : decode cL_best 142 = .ok (.aload_n 0, 1) := by decide +kernel
theorem dL_best_143 : decode cL_best 143 = .ok (.getfield 10, 3) := by decide +kernel
theorem dL_best_146 : decode cL_best 146 = .ok (.iload_n 1, 1) := by decide +kernel
theorem dL_best_147 : decode cL_best 147 = .ok (.invokestatic 237, 3) := by decide +kernel
theorem dL_best_150 : decode cL_best 150 = .ok (.iload 5, 2) := by decide +kernel
theorem dL_best_152 : decode cL_best 152 = .ok (.if_icmp .gt 18, 3) := by decide +kernel
theorem dL_best_155 : decode cL_best 155 = .ok (.aload_n 0, 1) := by decide +kernel
theorem dL_best_156 : decode cL_best 156 = .ok (.getfield 10, 3) := by decide +kernel
theorem dL_best_159 : decode cL_best 159 = .ok (.iconst 1, 1) := by decide +kernel
theorem dL_best_160 : decode cL_best 160 = .ok (.invokestatic 255, 3) := by decide +kernel
theorem dL_best_163 : decode cL_best 163 = .ok (.ifCond .ne 7, 3) := by decide +kernel
theorem dL_best_166 : decode cL_best 166 = .ok (.iconst 1, 1) := by decide +kernel
theorem dL_best_167 : decode cL_best 167 = .ok (.goto 4, 3) := by decide +kernel
theorem dL_best_170 : decode cL_best 170 = .ok (.iconst 0, 1) := by decide +kernel
theorem dL_best_171 : decode cL_best 171 = .ok (.ireturn, 1) := by decide +kernel
set_option maxRecDepth 20000 in
theorem ggL_others_L_count : GoodIn wsL_others wsL_count := goodIn_ca (goodIn_r _ [5, 6, 7, 8, 9, 10, 11, 12, 13, 14, 15, 16, 17, 245, 246, 247, 248, 249, 250, 251, 252, 253, 254, 255, 256, 257, 258, 259, 260, 261, 262, 263, 264, 265, 266, 267, 268, 269] (by decide +kernel) (by decide +kernel)) (goodIn_sub (fun _ h => List.mem_cons_of_mem _ (List.mem_append_left _ (List.mem_append_right _ h))) (by decide +kernel))
set_option maxRecDepth 20000 in
theorem gL_others_L_count : GoodIn wsL_others (va_wsS RL 196 yL_count wsL_count) := goodIn_app (goodIn_of _ (by decide +kernel)) ggL_others_L_count
set_option maxRecDepth 20000 in
theorem ggL_others_L_draw : GoodIn wsL_others wsL_draw := goodIn_r _ [21, 22, 23, 24, 25, 26, 27, 28, 29, 30, 31, 32, 4, 33, 34, 35, 241, 242, 243, 244] (by decide +kernel) (by decide +kernel)
set_option maxRecDepth 20000 in
theorem gL_others_L_draw : GoodIn wsL_others (wsV RL 139 RL yL_draw wsL_draw) := goodIn_app (goodIn_of _ (by decide +kernel)) ggL_others_L_draw
set_option maxRecDepth 20000 in
theorem ggL_others_L_arrive : GoodIn wsL_others wsL_arrive := goodIn_ca (goodIn_ca (goodIn_r _ [38, 39, 6, 40, 41, 42, 10, 43, 44, 45, 12, 13, 46, 47, 48, 49, 16, 17, 50, 51, 52, 53, 54, 55, 56, 57, 58, 14, 59, 60, 61, 62, 63, 64, 65, 66, 67, 68, 69, 70, 71, 72, 73, 74, 75, 76, 77, 78, 79, 80, 81, 82, 83, 84, 85, 86, 87, 88, 89, 90, 91, 92, 93, 94, 95, 96, 245, 246, 247, 248, 249, 250, 251, 252, 253, 257, 258, 259, 260, 261, 262, 263, 264, 265, 266, 267, 268, 269, 254, 255, 256] (by decide +kernel) (by decide +kernel)) (goodIn_sub (fun _ h => List.mem_cons_of_mem _ (List.mem_append_right _ h)) (by decide +kernel))) (goodIn_sub (fun _ h => List.mem_cons_of_mem _ (List.mem_append_left _ (List.mem_append_right _ h))) (by decide +kernel))
set_option maxRecDepth 20000 in
theorem gL_others_L_arrive : GoodIn wsL_others (va_wsS RL 261 yL_arrive wsL_arrive) := goodIn_app (goodIn_of _ (by decide +kernel)) ggL_others_L_arrive
set_option maxRecDepth 20000 in
theorem ggL_others_X9_queued : GoodIn wsL_others wsX9_queued := goodIn_r _ [100, 16, 17, 101, 102, 103, 10, 104, 245, 246, 247, 248, 249, 250, 251, 252, 253, 257, 258, 259, 260, 261, 262, 263, 264, 265, 266, 267, 268, 269] (by decide +kernel) (by decide +kernel)
set_option maxRecDepth 20000 in
theorem gL_others_X9_queued : GoodIn wsL_others (wsV RL 210 RX9 yX9_queued wsX9_queued) := goodIn_app (goodIn_of _ (by decide +kernel)) ggL_others_X9_queued
set_option maxRecDepth 20000 in
theorem ggL_others_L_car : GoodIn wsL_others wsL_car := goodIn_ca (goodIn_ca (goodIn_r _ [107, 39, 6, 108, 109, 110, 10, 111, 44, 45, 12, 13, 16, 17, 112, 113, 114, 70, 115, 79, 245, 246, 247, 248, 249, 250, 251, 252, 253, 257, 258, 259, 260, 261, 262, 263, 264, 265, 266, 267, 268, 269] (by decide +kernel) (by decide +kernel)) (goodIn_sub (fun _ h => List.mem_cons_of_mem _ (List.mem_append_right _ h)) (by decide +kernel))) (goodIn_sub (fun _ h => List.mem_cons_of_mem _ (List.mem_append_left _ (List.mem_append_right _ h))) (by decide +kernel))
set_option maxRecDepth 20000 in
theorem gL_others_L_car : GoodIn wsL_others (va_wsS RL 200 yL_car wsL_car) := goodIn_app (goodIn_of _ (by decide +kernel)) ggL_others_L_car
set_option maxRecDepth 20000 in
theorem ggL_others_L_whyNot : GoodIn wsL_others wsL_whyNot := goodIn_ca (goodIn_r _ [118, 39, 119, 120, 121, 10, 122, 44, 45, 16, 123, 124, 125, 70, 126, 72, 80, 127, 128, 129, 130, 77, 87, 88, 131, 113, 114, 115, 79, 132, 133, 134, 135, 78, 136, 137, 138, 139, 84, 140, 141, 142, 143, 83, 245, 246, 247, 248, 249, 250, 251, 252, 253, 257, 258, 259, 260, 261, 262, 263, 264, 265, 266, 267, 268, 269] (by decide +kernel) (by decide +kernel)) (goodIn_sub (fun _ h => List.mem_cons_of_mem _ (List.mem_append_right _ h)) (by decide +kernel))
set_option maxRecDepth 20000 in
theorem gL_others_L_whyNot : GoodIn wsL_others (va_wsS RL 249 yL_whyNot wsL_whyNot) := goodIn_app (goodIn_of _ (by decide +kernel)) ggL_others_L_whyNot
set_option maxRecDepth 20000 in
theorem ggL_others_L_unload : GoodIn wsL_others wsL_unload := goodIn_ca (goodIn_r _ [146, 39, 147, 148, 149, 10, 150, 44, 45, 151, 152, 153, 154, 16, 17, 155, 156, 157, 158, 159, 70, 160, 82, 161, 162, 163, 164, 81, 103, 104, 50, 51, 52, 53, 54, 165, 166, 167, 168, 131, 113, 114, 115, 79, 132, 133, 134, 135, 78, 55, 56, 57, 58, 14, 59, 60, 61, 62, 63, 64, 65, 66, 67, 68, 69, 71, 72, 73, 74, 75, 76, 77, 80, 83, 84, 85, 86, 87, 88, 169, 170, 171, 172, 173, 174, 93, 94, 95, 96, 175, 176, 177, 178, 179, 180, 181, 182, 183, 184, 185, 186, 187, 188, 189, 190, 191, 192, 245, 246, 247, 248, 249, 250, 251, 252, 253, 257, 258, 259, 260, 261, 262, 263, 264, 265, 266, 267, 268, 269, 254, 255, 256] (by decide +kernel) (by decide +kernel)) (goodIn_sub (fun _ h => List.mem_cons_of_mem _ (List.mem_append_right _ h)) (by decide +kernel))
set_option maxRecDepth 20000 in
theorem gL_others_L_unload : GoodIn wsL_others (va_wsS RL 263 yL_unload wsL_unload) := goodIn_app (goodIn_of _ (by decide +kernel)) ggL_others_L_unload
set_option maxRecDepth 20000 in
theorem ggL_others_L_standing : GoodIn wsL_others wsL_standing := goodIn_ca (goodIn_r _ [195, 39, 196, 197, 198, 10, 199, 44, 45, 16, 200, 162, 163, 70, 164, 82, 81, 103, 104, 245, 246, 247, 248, 249, 250, 251, 252, 253, 257, 258, 259, 260, 261, 262, 263, 264, 265, 266, 267, 268, 269] (by decide +kernel) (by decide +kernel)) (goodIn_sub (fun _ h => List.mem_cons_of_mem _ (List.mem_append_right _ h)) (by decide +kernel))
set_option maxRecDepth 20000 in
theorem gL_others_L_standing : GoodIn wsL_others (va_wsS RL 208 yL_standing wsL_standing) := goodIn_app (goodIn_of _ (by decide +kernel)) ggL_others_L_standing
set_option maxRecDepth 20000 in
theorem ggL_others_X9_undo : GoodIn wsL_others wsX9_undo := goodIn_r _ [204, 14, 16, 205, 206, 207, 62, 208, 66, 64, 65, 67, 68, 69, 70, 71, 72, 73, 74, 75, 76, 77, 78, 79, 80, 81, 82, 83, 84, 85, 86, 87, 88, 245, 246, 247, 248, 249, 250, 251, 252, 253, 254, 255, 256, 257, 258, 259, 260, 261, 262, 263, 264, 265, 266, 267, 268, 269] (by decide +kernel) (by decide +kernel)
set_option maxRecDepth 20000 in
theorem gL_others_X9_undo : GoodIn wsL_others (wsV RL 193 RX9 yX9_undo wsX9_undo) := goodIn_app (goodIn_of _ (by decide +kernel)) ggL_others_X9_undo
set_option maxRecDepth 20000 in
theorem ggL_others_L_crank : GoodIn wsL_others wsL_crank := goodIn_ca (goodIn_r _ [211, 6, 212, 213, 214, 10, 215, 12, 13, 216, 217, 218, 219, 16, 17, 156, 50, 51, 52, 53, 54, 55, 56, 57, 58, 14, 59, 60, 61, 62, 63, 64, 65, 66, 67, 68, 69, 70, 71, 72, 73, 74, 75, 76, 77, 78, 79, 80, 81, 82, 83, 84, 85, 86, 87, 88, 220, 188, 189, 190, 191, 192, 245, 246, 247, 248, 249, 250, 251, 252, 253, 257, 258, 259, 260, 261, 262, 263, 264, 265, 266, 267, 268, 269, 254, 255, 256] (by decide +kernel) (by decide +kernel)) (goodIn_sub (fun _ h => List.mem_cons_of_mem _ (List.mem_append_left _ (List.mem_append_right _ h))) (by decide +kernel))
set_option maxRecDepth 20000 in
theorem gL_others_L_crank : GoodIn wsL_others (va_wsS RL 265 yL_crank wsL_crank) := goodIn_app (goodIn_of _ (by decide +kernel)) ggL_others_L_crank
set_option maxRecDepth 20000 in
theorem ggL_others_X9_lip : GoodIn wsL_others wsX9_lip := goodIn_r _ [224, 16, 156, 245, 246, 247, 248, 249, 250, 251, 252, 253, 257, 258, 259, 260, 261, 262, 263, 264, 265, 266, 267, 268, 269] (by decide +kernel) (by decide +kernel)
set_option maxRecDepth 20000 in
theorem gL_others_X9_lip : GoodIn wsL_others (wsV RL 190 RX9 yX9_lip wsX9_lip) := goodIn_app (goodIn_of _ (by decide +kernel)) ggL_others_X9_lip
set_option maxRecDepth 20000 in
theorem ggL_others_L_dismiss : GoodIn wsL_others wsL_dismiss := goodIn_ca (goodIn_r _ [227, 39, 228, 229, 230, 10, 231, 44, 45, 232, 233, 234, 235, 16, 17, 123, 124, 125, 70, 126, 72, 80, 50, 51, 52, 53, 54, 55, 56, 57, 58, 14, 59, 60, 61, 62, 63, 64, 65, 66, 67, 68, 69, 71, 73, 74, 75, 76, 77, 78, 79, 81, 82, 83, 84, 85, 86, 87, 88, 236, 237, 238, 239, 240, 94, 95, 96, 245, 246, 247, 248, 249, 250, 251, 252, 253, 257, 258, 259, 260, 261, 262, 263, 264, 265, 266, 267, 268, 269, 254, 255, 256] (by decide +kernel) (by decide +kernel)) (goodIn_sub (fun _ h => List.mem_cons_of_mem _ (List.mem_append_right _ h)) (by decide +kernel))
set_option maxRecDepth 20000 in
theorem gL_others_L_dismiss : GoodIn wsL_others (va_wsS RL 267 yL_dismiss wsL_dismiss) := goodIn_app (goodIn_of _ (by decide +kernel)) ggL_others_L_dismiss
theorem dL_others_0 : decode cL_others 0 = .ok (.aload_n 0, 1) := by decide +kernel
theorem dL_others_1 : decode cL_others 1 = .ok (.getfield 10, 3) := by decide +kernel
theorem dL_others_4 : decode cL_others 4 = .ok (.iconst 1, 1) := by decide +kernel
theorem dL_others_5 : decode cL_others 5 = .ok (.invokestatic 196, 3) := by decide +kernel
theorem dL_others_8 : decode cL_others 8 = .ok (.istore_n 1, 1) := by decide +kernel
theorem dL_others_9 : decode cL_others 9 = .ok (.aload_n 0, 1) := by decide +kernel
theorem dL_others_10 : decode cL_others 10 = .ok (.getfield 10, 3) := by decide +kernel
theorem dL_others_13 : decode cL_others 13 = .ok (.iconst 3, 1) := by decide +kernel
theorem dL_others_14 : decode cL_others 14 = .ok (.invokestatic 196, 3) := by decide +kernel
theorem dL_others_17 : decode cL_others 17 = .ok (.istore_n 2, 1) := by decide +kernel
theorem dL_others_18 : decode cL_others 18 = .ok (.iconst 1, 1) := by decide +kernel
theorem dL_others_19 : decode cL_others 19 = .ok (.aload_n 0, 1) := by decide +kernel
theorem dL_others_20 : decode cL_others 20 = .ok (.sipush 150, 3) := by decide +kernel
theorem dL_others_23 : decode cL_others 23 = .ok (.invokevirtual 139, 3) := by decide +kernel
theorem dL_others_26 : decode cL_others 26 = .ok (.iadd, 1) := by decide +kernel
theorem dL_others_27 : decode cL_others 27 = .ok (.istore_n 3, 1) := by decide +kernel
theorem dL_others_28 : decode cL_others 28 = .ok (.aload_n 0, 1) := by decide +kernel
theorem dL_others_29 : decode cL_others 29 = .ok (.iconst 4, 1) := by decide +kernel
theorem dL_others_30 : decode cL_others 30 = .ok (.invokevirtual 139, 3) := by decide +kernel
theorem dL_others_33 : decode cL_others 33 = .ok (.istore 4, 2) := by decide +kernel
theorem dL_others_35 : decode cL_others 35 = .ok (.aload_n 0, 1) := by decide +kernel
theorem dL_others_36 : decode cL_others 36 = .ok (.iconst 3, 1) := by decide +kernel
theorem dL_others_37 : decode cL_others 37 = .ok (.invokevirtual 139, 3) := by decide +kernel
theorem dL_others_40 : decode cL_others 40 = .ok (.istore 5, 2) := by decide +kernel
theorem dL_others_42 : decode cL_others 42 = .ok (.aload_n 0, 1) := by decide +kernel
theorem dL_others_43 : decode cL_others 43 = .ok (.getfield 10, 3) := by decide +kernel
theorem dL_others_46 : decode cL_others 46 = .ok (.bipush 7, 2) := by decide +kernel
theorem dL_others_48 : decode cL_others 48 = .ok (.invokestatic 196, 3) := by decide +kernel
theorem dL_others_51 : decode cL_others 51 = .ok (.istore 6, 2) := by decide +kernel
theorem dL_others_53 : decode cL_others 53 = .ok (.aload_n 0, 1) := by decide +kernel
theorem dL_others_54 : decode cL_others 54 = .ok (.iconst 5, 1) := by decide +kernel
theorem dL_others_55 : decode cL_others 55 = .ok (.invokevirtual 139, 3) := by decide +kernel
theorem dL_others_58 : decode cL_others 58 = .ok (.tableswitch 457 0 3 #[30, 30, 154, 350], 30) := by decide +kernel
theorem dL_others_88 : decode cL_others 88 = .ok (.aload_n 0, 1) := by decide +kernel
theorem dL_others_89 : decode cL_others 89 = .ok (.getfield 10, 3) := by decide +kernel
theorem dL_others_92 : decode cL_others 92 = .ok (.iload 4, 2) := by decide +kernel
theorem dL_others_94 : decode cL_others 94 = .ok (.iload_n 3, 1) := by decide +kernel
theorem dL_others_95 : decode cL_others 95 = .ok (.invokestatic 261, 3) := by decide +kernel
theorem dL_others_98 : decode cL_others 98 = .ok (.istore 7, 2) := by decide +kernel
theorem dL_others_100 : decode cL_others 100 = .ok (.iload 7, 2) := by decide +kernel
theorem dL_others_102 : decode cL_others 102 = .ok (.ifCond .ge 38, 3) := by decide +kernel
theorem dL_others_105 : decode cL_others 105 = .ok (.iload 7, 2) := by decide +kernel
theorem dL_others_107 : decode cL_others 107 = .ok (.iload_n 2, 1) := by decide +kernel
theorem dL_others_108 : decode cL_others 108 = .ok (.bipush 60, 2) := by decide +kernel
theorem dL_others_110 : decode cL_others 110 = .ok (.if_icmp .ne 7, 3) := by decide +kernel
theorem dL_others_113 : decode cL_others 113 = .ok (.iconst (-1), 1) := by decide +kernel
theorem dL_others_114 : decode cL_others 114 = .ok (.goto 5, 3) := by decide +kernel
theorem dL_others_117 : decode cL_others 117 = .ok (.bipush (-2), 2) := by decide +kernel
theorem dL_others_119 : decode cL_others 119 = .ok (.if_icmp .ne 19, 3) := by decide +kernel
theorem dL_others_122 : decode cL_others 122 = .ok (.iload_n 2, 1) := by decide +kernel
theorem dL_others_123 : decode cL_others 123 = .ok (.bipush 60, 2) := by decide +kernel
theorem dL_others_125 : decode cL_others 125 = .ok (.if_icmp .eq 9, 3) := by decide +kernel
theorem dL_others_128 : decode cL_others 128 = .ok (.iload_n 1, 1) := by decide +kernel
theorem dL_others_129 : decode cL_others 129 = .ok (.bipush 20, 2) := by decide +kernel
theorem dL_others_131 : decode cL_others 131 = .ok (.if_icmp .ne 7, 3) := by decide +kernel
theorem dL_others_134 : decode cL_others 134 = .ok (.iconst 1, 1) := by decide +kernel
theorem dL_others_135 : decode cL_others 135 = .ok (.goto 4, 3) := by decide +kernel
theorem dL_others_138 : decode cL_others 138 = .ok (.iconst 0, 1) := by decide +kernel
theorem dL_others_139 : decode cL_others 139 = .ok (.ireturn, 1) := by decide +kernel
theorem dL_others_140 : decode cL_others 140 = .ok (.iload 7, 2) := by decide +kernel
theorem dL_others_142 : decode cL_others 142 = .ok (.iload_n 2, 1) := by decide +kernel
theorem dL_others_143 : decode cL_others 143 = .ok (.if_icmp .ne 67, 3) := by decide +kernel
theorem dL_others_146 : decode cL_others 146 = .ok (.aload_n 0, 1) := by decide +kernel
theorem dL_others_147 : decode cL_others 147 = .ok (.getfield 10, 3) := by decide +kernel
theorem dL_others_150 : decode cL_others 150 = .ok (.iconst 1, 1) := by decide +kernel
theorem dL_others_151 : decode cL_others 151 = .ok (.invokestatic 196, 3) := by decide +kernel
theorem dL_others_154 : decode cL_others 154 = .ok (.iload_n 1, 1) := by decide +kernel
theorem dL_others_155 : decode cL_others 155 = .ok (.iconst 1, 1) := by decide +kernel
theorem dL_others_156 : decode cL_others 156 = .ok (.iadd, 1) := by decide +kernel
theorem dL_others_157 : decode cL_others 157 = .ok (.if_icmp .ne 53, 3) := by decide +kernel
theorem dL_others_160 : decode cL_others 160 = .ok (.aload_n 0, 1) := by decide +kernel
theorem dL_others_161 : decode cL_others 161 = .ok (.getfield 10, 3) := by decide +kernel
theorem dL_others_164 : decode cL_others 164 = .ok (.iload_n 1, 1) := by decide +kernel
theorem dL_others_165 : decode cL_others 165 = .ok (.invokevirtual 210, 3) := by decide +kernel
theorem dL_others_168 : decode cL_others 168 = .ok (.iload 7, 2) := by decide +kernel
theorem dL_others_170 : decode cL_others 170 = .ok (.if_icmp .ne 40, 3) := by decide +kernel
theorem dL_others_173 : decode cL_others 173 = .ok (.aload_n 0, 1) := by decide +kernel
theorem dL_others_174 : decode cL_others 174 = .ok (.getfield 10, 3) := by decide +kernel
theorem dL_others_177 : decode cL_others 177 = .ok (.iload 7, 2) := by decide +kernel
theorem dL_others_179 : decode cL_others 179 = .ok (.iconst 4, 1) := by decide +kernel
theorem dL_others_180 : decode cL_others 180 = .ok (.invokestatic 200, 3) := by decide +kernel
theorem dL_others_183 : decode cL_others 183 = .ok (.aload_n 0, 1) := by decide +kernel
theorem dL_others_184 : decode cL_others 184 = .ok (.getfield 10, 3) := by decide +kernel
theorem dL_others_187 : decode cL_others 187 = .ok (.iconst 0, 1) := by decide +kernel
theorem dL_others_188 : decode cL_others 188 = .ok (.invokestatic 196, 3) := by decide +kernel
theorem dL_others_191 : decode cL_others 191 = .ok (.if_icmp .ne 19, 3) := by decide +kernel
theorem dL_others_194 : decode cL_others 194 = .ok (.aload_n 0, 1) := by decide +kernel
theorem dL_others_195 : decode cL_others 195 = .ok (.getfield 10, 3) := by decide +kernel
theorem dL_others_198 : decode cL_others 198 = .ok (.iload 7, 2) := by decide +kernel
theorem dL_others_200 : decode cL_others 200 = .ok (.invokestatic 249, 3) := by decide +kernel
theorem dL_others_203 : decode cL_others 203 = .ok (.ifCond .lt 7, 3) := by decide +kernel
theorem dL_others_206 : decode cL_others 206 = .ok (.iconst 1, 1) := by decide +kernel
theorem dL_others_207 : decode cL_others 207 = .ok (.goto 4, 3) := by decide +kernel
theorem dL_others_210 : decode cL_others 210 = .ok (.iconst 0, 1) := by decide +kernel
theorem dL_others_211 : decode cL_others 211 = .ok (.ireturn, 1) := by decide +kernel
theorem dL_others_212 : decode cL_others 212 = .ok (.aload_n 0, 1) := by decide +kernel
theorem dL_others_213 : decode cL_others 213 = .ok (.getfield 10, 3) := by decide +kernel
theorem dL_others_216 : decode cL_others 216 = .ok (.iload 5, 2) := by decide +kernel
theorem dL_others_218 : decode cL_others 218 = .ok (.invokestatic 263, 3) := by decide +kernel
theorem dL_others_221 : decode cL_others 221 = .ok (.istore 7, 2) := by decide +kernel
theorem dL_others_223 : decode cL_others 223 = .ok (.iload 7, 2) := by decide +kernel
theorem dL_others_225 : decode cL_others 225 = .ok (.ifCond .ge 77, 3) := by decide +kernel
theorem dL_others_228 : decode cL_others 228 = .ok (.iload 7, 2) := by decide +kernel
theorem dL_others_230 : decode cL_others 230 = .ok (.iconst (-1), 1) := by decide +kernel
theorem dL_others_231 : decode cL_others 231 = .ok (.if_icmp .ne 25, 3) := by decide +kernel
theorem dL_others_234 : decode cL_others 234 = .ok (.aload_n 0, 1) := by decide +kernel
theorem dL_others_235 : decode cL_others 235 = .ok (.getfield 10, 3) := by decide +kernel
theorem dL_others_238 : decode cL_others 238 = .ok (.iload 5, 2) := by decide +kernel
theorem dL_others_240 : decode cL_others 240 = .ok (.iconst 0, 1) := by decide +kernel
theorem dL_others_241 : decode cL_others 241 = .ok (.invokestatic 208, 3) := by decide +kernel
theorem dL_others_244 : decode cL_others 244 = .ok (.iconst (-1), 1) := by decide +kernel
theorem dL_others_245 : decode cL_others 245 = .ok (.if_icmp .ne 7, 3) := by decide +kernel
theorem dL_others_248 : decode cL_others 248 = .ok (.iconst 1, 1) := by decide +kernel
theorem dL_others_249 : decode cL_others 249 = .ok (.goto 52, 3) := by decide +kernel
theorem dL_others_252 : decode cL_others 252 = .ok (.iconst 0, 1) := by decide +kernel
theorem dL_others_253 : decode cL_others 253 = .ok (.goto 48, 3) := by decide +kernel
theorem dL_others_256 : decode cL_others 256 = .ok (.iload 7, 2) := by decide +kernel
theorem dL_others_258 : decode cL_others 258 = .ok (.bipush (-2), 2) := by decide +kernel
theorem dL_others_260 : decode cL_others 260 = .ok (.if_icmp .ne 23, 3) := by decide +kernel
theorem dL_others_263 : decode cL_others 263 = .ok (.aload_n 0, 1) := by decide +kernel
theorem dL_others_264 : decode cL_others 264 = .ok (.getfield 10, 3) := by decide +kernel
theorem dL_others_267 : decode cL_others 267 = .ok (.bipush 8, 2) := by decide +kernel
theorem dL_others_269 : decode cL_others 269 = .ok (.invokestatic 196, 3) := by decide +kernel
theorem dL_others_272 : decode cL_others 272 = .ok (.ifCond .lt 7, 3) := by decide +kernel
theorem dL_others_275 : decode cL_others 275 = .ok (.iconst 1, 1) := by decide +kernel
theorem dL_others_276 : decode cL_others 276 = .ok (.goto 25, 3) := by decide +kernel
theorem dL_others_279 : decode cL_others 279 = .ok (.iconst 0, 1) := by decide +kernel
theorem dL_others_280 : decode cL_others 280 = .ok (.goto 21, 3) := by decide +kernel
theorem dL_others_283 : decode cL_others 283 = .ok (.aload_n 0, 1) := by decide +kernel
theorem dL_others_284 : decode cL_others 284 = .ok (.getfield 10, 3) := by decide +kernel
theorem dL_others_287 : decode cL_others 287 = .ok (.iload 5, 2) := by decide +kernel
theorem dL_others_289 : decode cL_others 289 = .ok (.iconst 0, 1) := by decide +kernel
theorem dL_others_290 : decode cL_others 290 = .ok (.invokestatic 208, 3) := by decide +kernel
theorem dL_others_293 : decode cL_others 293 = .ok (.ifCond .lt 7, 3) := by decide +kernel
theorem dL_others_296 : decode cL_others 296 = .ok (.iconst 1, 1) := by decide +kernel
theorem dL_others_297 : decode cL_others 297 = .ok (.goto 4, 3) := by decide +kernel
theorem dL_others_300 : decode cL_others 300 = .ok (.iconst 0, 1) := by decide +kernel
theorem dL_others_301 : decode cL_others 301 = .ok (.ireturn, 1) := by decide +kernel
theorem dL_others_302 : decode cL_others 302 = .ok (.aload_n 0, 1) := by decide +kernel
theorem dL_others_303 : decode cL_others 303 = .ok (.getfield 10, 3) := by decide +kernel
theorem dL_others_306 : decode cL_others 306 = .ok (.iload 7, 2) := by decide +kernel
theorem dL_others_308 : decode cL_others 308 = .ok (.iconst 2, 1) := by decide +kernel
theorem dL_others_309 : decode cL_others 309 = .ok (.invokestatic 200, 3) := by decide +kernel
theorem dL_others_312 : decode cL_others 312 = .ok (.iconst 3, 1) := by decide +kernel
theorem dL_others_313 : decode cL_others 313 = .ok (.if_icmp .ne 93, 3) := by decide +kernel
theorem dL_others_316 : decode cL_others 316 = .ok (.aload_n 0, 1) := by decide +kernel
theorem dL_others_317 : decode cL_others 317 = .ok (.getfield 10, 3) := by decide +kernel
theorem dL_others_320 : decode cL_others 320 = .ok (.iload 7, 2) := by decide +kernel
theorem dL_others_322 : decode cL_others 322 = .ok (.iconst 3, 1) := by decide +kernel
theorem dL_others_323 : decode cL_others 323 = .ok (.invokestatic 200, 3) := by decide +kernel
theorem dL_others_326 : decode cL_others 326 = .ok (.iload 5, 2) := by decide +kernel
theorem dL_others_328 : decode cL_others 328 = .ok (.if_icmp .ne 78, 3) := by decide +kernel
theorem dL_others_331 : decode cL_others 331 = .ok (.aload_n 0, 1) := by decide +kernel
theorem dL_others_332 : decode cL_others 332 = .ok (.getfield 10, 3) := by decide +kernel
theorem dL_others_335 : decode cL_others 335 = .ok (.bipush 7, 2) := by decide +kernel
theorem dL_others_337 : decode cL_others 337 = .ok (.invokestatic 196, 3) := by decide +kernel
theorem dL_others_340 : decode cL_others 340 = .ok (.iload 6, 2) := by decide +kernel
theorem dL_others_342 : decode cL_others 342 = .ok (.aload_n 0, 1) := by decide +kernel
theorem dL_others_343 : decode cL_others 343 = .ok (.getfield 10, 3) := by decide +kernel
theorem dL_others_346 : decode cL_others 346 = .ok (.iload 7, 2) := by decide +kernel
theorem dL_others_348 : decode cL_others 348 = .ok (.iconst 1, 1) := by decide +kernel
theorem dL_others_349 : decode cL_others 349 = .ok (.invokestatic 200, 3) := by decide +kernel
theorem dL_others_352 : decode cL_others 352 = .ok (.isub, 1) := by decide +kernel
theorem dL_others_353 : decode cL_others 353 = .ok (.if_icmp .ne 53, 3) := by decide +kernel
theorem dL_others_356 : decode cL_others 356 = .ok (.aload_n 0, 1) := by decide +kernel
theorem dL_others_357 : decode cL_others 357 = .ok (.iconst 2, 1) := by decide +kernel
theorem dL_others_358 : decode cL_others 358 = .ok (.invokevirtual 139, 3) := by decide +kernel
theorem dL_others_361 : decode cL_others 361 = .ok (.ifCond .eq 41, 3) := by decide +kernel
theorem dL_others_364 : decode cL_others 364 = .ok (.aload_n 0, 1) := by decide +kernel
theorem dL_others_365 : decode cL_others 365 = .ok (.getfield 10, 3) := by decide +kernel
theorem dL_others_368 : decode cL_others 368 = .ok (.invokevirtual 193, 3) := by decide +kernel
theorem dL_others_371 : decode cL_others 371 = .ok (.ifCond .lt 35, 3) := by decide +kernel
theorem dL_others_374 : decode cL_others 374 = .ok (.aload_n 0, 1) := by decide +kernel
theorem dL_others_375 : decode cL_others 375 = .ok (.getfield 10, 3) := by decide +kernel
theorem dL_others_378 : decode cL_others 378 = .ok (.bipush 7, 2) := by decide +kernel
theorem dL_others_380 : decode cL_others 380 = .ok (.invokestatic 196, 3) := by decide +kernel
theorem dL_others_383 : decode cL_others 383 = .ok (.iload 6, 2) := by decide +kernel
theorem dL_others_385 : decode cL_others 385 = .ok (.if_icmp .ne 21, 3) := by decide +kernel
theorem dL_others_388 : decode cL_others 388 = .ok (.aload_n 0, 1) := by decide +kernel
theorem dL_others_389 : decode cL_others 389 = .ok (.getfield 10, 3) := by decide +kernel
theorem dL_others_392 : decode cL_others 392 = .ok (.iload 7, 2) := by decide +kernel
theorem dL_others_394 : decode cL_others 394 = .ok (.iconst 2, 1) := by decide +kernel
theorem dL_others_395 : decode cL_others 395 = .ok (.invokestatic 200, 3) := by decide +kernel
theorem dL_others_398 : decode cL_others 398 = .ok (.iconst 2, 1) := by decide +kernel
theorem dL_others_399 : decode cL_others 399 = .ok (.if_icmp .ne 7, 3) := by decide +kernel
theorem dL_others_402 : decode cL_others 402 = .ok (.iconst 1, 1) := by decide +kernel
theorem dL_others_403 : decode cL_others 403 = .ok (.goto 4, 3) := by decide +kernel
theorem dL_others_406 : decode cL_others 406 = .ok (.iconst 0, 1) := by decide +kernel
theorem dL_others_407 : decode cL_others 407 = .ok (.ireturn, 1) := by decide +kernel
theorem dL_others_408 : decode cL_others 408 = .ok (.aload_n 0, 1) := by decide +kernel
theorem dL_others_409 : decode cL_others 409 = .ok (.bipush 9, 2) := by decide +kernel
theorem dL_others_411 : decode cL_others 411 = .ok (.invokevirtual 139, 3) := by decide +kernel
theorem dL_others_414 : decode cL_others 414 = .ok (.iconst 4, 1) := by decide +kernel
theorem dL_others_415 : decode cL_others 415 = .ok (.isub, 1) := by decide +kernel
theorem dL_others_416 : decode cL_others 416 = .ok (.istore 7, 2) := by decide +kernel
theorem dL_others_418 : decode cL_others 418 = .ok (.aload_n 0, 1) := by decide +kernel
theorem dL_others_419 : decode cL_others 419 = .ok (.getfield 10, 3) := by decide +kernel
theorem dL_others_422 : decode cL_others 422 = .ok (.iconst 4, 1) := by decide +kernel
theorem dL_others_423 : decode cL_others 423 = .ok (.invokestatic 196, 3) := by decide +kernel
theorem dL_others_426 : decode cL_others 426 = .ok (.istore 8, 2) := by decide +kernel
theorem dL_others_428 : decode cL_others 428 = .ok (.aload_n 0, 1) := by decide +kernel
theorem dL_others_429 : decode cL_others 429 = .ok (.getfield 10, 3) := by decide +kernel
theorem dL_others_432 : decode cL_others 432 = .ok (.iload 7, 2) := by decide +kernel
theorem dL_others_434 : decode cL_others 434 = .ok (.invokestatic 265, 3) := by decide +kernel
theorem dL_others_437 : decode cL_others 437 = .ok (.istore 9, 2) := by decide +kernel
theorem dL_others_439 : decode cL_others 439 = .ok (.iload 9, 2) := by decide +kernel
theorem dL_others_441 : decode cL_others 441 = .ok (.ifCond .ge 40, 3) := by decide +kernel
theorem dL_others_444 : decode cL_others 444 = .ok (.iload 9, 2) := by decide +kernel
theorem dL_others_446 : decode cL_others 446 = .ok (.iload 7, 2) := by decide +kernel
theorem dL_others_448 : decode cL_others 448 = .ok (.ifCond .ne 7, 3) := by decide +kernel
theorem dL_others_451 : decode cL_others 451 = .ok (.iconst (-1), 1) := by decide +kernel
theorem dL_others_452 : decode cL_others 452 = .ok (.goto 5, 3) := by decide +kernel
theorem dL_others_455 : decode cL_others 455 = .ok (.bipush (-2), 2) := by decide +kernel
theorem dL_others_457 : decode cL_others 457 = .ok (.if_icmp .ne 20, 3) := by decide +kernel
theorem dL_others_460 : decode cL_others 460 = .ok (.aload_n 0, 1) := by decide +kernel
theorem dL_others_461 : decode cL_others 461 = .ok (.getfield 10, 3) := by decide +kernel
theorem dL_others_464 : decode cL_others 464 = .ok (.iconst 4, 1) := by decide +kernel
theorem dL_others_465 : decode cL_others 465 = .ok (.invokestatic 196, 3) := by decide +kernel
theorem dL_others_468 : decode cL_others 468 = .ok (.iload 8, 2) := by decide +kernel
theorem dL_others_470 : decode cL_others 470 = .ok (.if_icmp .ne 7, 3) := by decide +kernel
theorem dL_others_473 : decode cL_others 473 = .ok (.iconst 1, 1) := by decide +kernel
theorem dL_others_474 : decode cL_others 474 = .ok (.goto 40, 3) := by decide +kernel
theorem dL_others_477 : decode cL_others 477 = .ok (.iconst 0, 1) := by decide +kernel
theorem dL_others_478 : decode cL_others 478 = .ok (.goto 36, 3) := by decide +kernel
theorem dL_others_481 : decode cL_others 481 = .ok (.aload_n 0, 1) := by decide +kernel
theorem dL_others_482 : decode cL_others 482 = .ok (.getfield 10, 3) := by decide +kernel
theorem dL_others_485 : decode cL_others 485 = .ok (.iconst 4, 1) := by decide +kernel
theorem dL_others_486 : decode cL_others 486 = .ok (.invokestatic 196, 3) := by decide +kernel
theorem dL_others_489 : decode cL_others 489 = .ok (.iload 8, 2) := by decide +kernel
theorem dL_others_491 : decode cL_others 491 = .ok (.iload 7, 2) := by decide +kernel
theorem dL_others_493 : decode cL_others 493 = .ok (.iadd, 1) := by decide +kernel
theorem dL_others_494 : decode cL_others 494 = .ok (.if_icmp .ne 19, 3) := by decide +kernel
theorem dL_others_497 : decode cL_others 497 = .ok (.iload 9, 2) := by decide +kernel
theorem dL_others_499 : decode cL_others 499 = .ok (.aload_n 0, 1) := by decide +kernel
theorem dL_others_500 : decode cL_others 500 = .ok (.getfield 10, 3) := by decide +kernel
theorem dL_others_503 : decode cL_others 503 = .ok (.invokevirtual 190, 3) := by decide +kernel
theorem dL_others_506 : decode cL_others 506 = .ok (.if_icmp .ne 7, 3) := by decide +kernel
theorem dL_others_509 : decode cL_others 509 = .ok (.iconst 1, 1) := by decide +kernel
theorem dL_others_510 : decode cL_others 510 = .ok (.goto 4, 3) := by decide +kernel
theorem dL_others_513 : decode cL_others 513 = .ok (.iconst 0, 1) := by decide +kernel
theorem dL_others_514 : decode cL_others 514 = .ok (.ireturn, 1) := by decide +kernel
theorem dL_others_515 : decode cL_others 515 = .ok (.iload_n 1, 1) := by decide +kernel
theorem dL_others_516 : decode cL_others 516 = .ok (.ifCond .ne 5, 3) := by decide +kernel
theorem dL_others_519 : decode cL_others 519 = .ok (.iconst 1, 1) := by decide +kernel
theorem dL_others_520 : decode cL_others 520 = .ok (.ireturn, 1) := by decide +kernel
theorem dL_others_521 : decode cL_others 521 = .ok (.aload_n 0, 1) := by decide +kernel
theorem dL_others_522 : decode cL_others 522 = .ok (.getfield 10, 3) := by decide +kernel
theorem dL_others_525 : decode cL_others 525 = .ok (.aload_n 0, 1) := by decide +kernel
theorem dL_others_526 : decode cL_others 526 = .ok (.iload_n 1, 1) := by decide +kernel
theorem dL_others_527 : decode cL_others 527 = .ok (.invokevirtual 139, 3) := by decide +kernel
theorem dL_others_530 : decode cL_others 530 = .ok (.invokevirtual 210, 3) := by decide +kernel
theorem dL_others_533 : decode cL_others 533 = .ok (.istore 7, 2) := by decide +kernel
theorem dL_others_535 : decode cL_others 535 = .ok (.aload_n 0, 1) := by decide +kernel
theorem dL_others_536 : decode cL_others 536 = .ok (.getfield 10, 3) := by decide +kernel
theorem dL_others_539 : decode cL_others 539 = .ok (.iload 7, 2) := by decide +kernel
theorem dL_others_541 : decode cL_others 541 = .ok (.invokestatic 267, 3) := by decide +kernel
theorem dL_others_544 : decode cL_others 544 = .ok (.istore 8, 2) := by decide +kernel
theorem dL_others_546 : decode cL_others 546 = .ok (.iload 8, 2) := by decide +kernel
theorem dL_others_548 : decode cL_others 548 = .ok (.iload_n 1, 1) := by decide +kernel
theorem dL_others_549 : decode cL_others 549 = .ok (.iconst 1, 1) := by decide +kernel
theorem dL_others_550 : decode cL_others 550 = .ok (.isub, 1) := by decide +kernel
theorem dL_others_551 : decode cL_others 551 = .ok (.if_icmp .ne 35, 3) := by decide +kernel
theorem dL_others_554 : decode cL_others 554 = .ok (.aload_n 0, 1) := by decide +kernel
theorem dL_others_555 : decode cL_others 555 = .ok (.getfield 10, 3) := by decide +kernel
theorem dL_others_558 : decode cL_others 558 = .ok (.iload 7, 2) := by decide +kernel
theorem dL_others_560 : decode cL_others 560 = .ok (.iconst 2, 1) := by decide +kernel
theorem dL_others_561 : decode cL_others 561 = .ok (.invokestatic 200, 3) := by decide +kernel
theorem dL_others_564 : decode cL_others 564 = .ok (.iconst 4, 1) := by decide +kernel
theorem dL_others_565 : decode cL_others 565 = .ok (.if_icmp .ne 21, 3) := by decide +kernel
theorem dL_others_568 : decode cL_others 568 = .ok (.aload_n 0, 1) := by decide +kernel
theorem dL_others_569 : decode cL_others 569 = .ok (.getfield 10, 3) := by decide +kernel
theorem dL_others_572 : decode cL_others 572 = .ok (.bipush 7, 2) := by decide +kernel
theorem dL_others_574 : decode cL_others 574 = .ok (.invokestatic 196, 3) := by decide +kernel
theorem dL_others_577 : decode cL_others 577 = .ok (.iload 6, 2) := by decide +kernel
theorem dL_others_579 : decode cL_others 579 = .ok (.if_icmp .ne 7, 3) := by decide +kernel
theorem dL_others_582 : decode cL_others 582 = .ok (.iconst 1, 1) := by decide +kernel
theorem dL_others_583 : decode cL_others 583 = .ok (.goto 4, 3) := by decide +kernel
theorem dL_others_586 : decode cL_others 586 = .ok (.iconst 0, 1) := by decide +kernel
theorem dL_others_587 : decode cL_others 587 = .ok (.ireturn, 1) := by decide +kernel
set_option maxRecDepth 20000 in
theorem ggL_law_L_init : GoodIn wsL_law wsL_init := goodIn_r _ [5, 6, 7, 8, 9, 10, 11, 12, 13, 14, 15, 16, 17, 18, 19, 20, 21, 22, 23, 24, 25, 26, 27, 28, 29, 30, 31, 32, 33, 34, 35, 36, 37, 38, 39, 40, 41, 42, 43, 44, 45, 46, 47, 48, 49, 50, 51, 52, 53, 54, 55, 56, 57, 58, 59, 60, 61, 62, 63, 64, 65, 66, 67, 68, 69, 70, 71, 72, 73, 74, 75, 76, 77, 78, 79, 80, 81, 82, 83, 84, 85, 86, 87, 88, 89, 90, 91, 92, 93, 94, 95, 96, 97, 98, 99, 100, 101, 102, 103, 104, 105, 106, 107, 108, 109, 110, 111, 112, 113, 114, 115, 116, 117, 118, 119, 120, 121, 122, 123, 124, 125, 126, 127, 128, 129, 130, 131, 132, 922, 923, 924, 925, 926, 927, 928, 929, 930, 918, 919, 920, 921, 931, 932, 933, 934, 935, 936, 937, 938, 939, 940, 941, 942, 943, 944, 945, 946, 947, 948, 949, 950, 951, 952, 953, 954, 955, 956, 957, 958, 959, 960, 961] (by decide +kernel) (by decide +kernel)
set_option maxRecDepth 20000 in
theorem gL_law_L_init : GoodIn wsL_law (wsL_init) := ggL_law_L_init
set_option maxRecDepth 20000 in
theorem ggL_law_L_holds : GoodIn wsL_law wsL_holds := goodIn_ca (goodIn_ca (goodIn_ca (goodIn_r _ [136, 137, 138, 139, 140, 2, 141, 16, 12, 142, 143, 144, 145, 146, 147, 148, 149, 150, 151, 152, 153, 154, 155, 156, 157, 158, 159, 160, 161, 15, 162, 163, 164, 165, 166, 118, 167, 168, 169, 170, 171, 123, 172, 173, 174, 175, 176, 177, 124, 178, 179, 180, 181, 182, 183, 184, 185, 186, 187, 188, 189, 190, 191, 192, 193, 194, 195, 196, 197, 198, 199, 200, 201, 202, 122, 203, 204, 205, 206, 207, 208, 209, 210, 211, 212, 213, 214, 121, 215, 216, 217, 218, 219, 220, 221, 222, 223, 224, 225, 14, 226, 227, 228, 229, 230, 127, 231, 232, 233, 234, 235, 236, 237, 238, 239, 240, 241, 242, 243, 244, 245, 246, 247, 248, 249, 250, 251, 252, 253, 254, 255, 256, 257, 258, 259, 260, 261, 262, 263, 264, 265, 266, 267, 268, 269, 270, 271, 272, 273, 274, 275, 276, 277, 278, 279, 280, 281, 282, 283, 284, 285, 286, 287, 288, 289, 290, 291, 292, 293, 294, 295, 296, 125, 126, 128, 129, 130, 131, 132, 297, 298, 299, 300, 301, 302, 303, 304, 305, 306, 307, 308, 309, 310, 311, 312, 313, 314, 315, 316, 317, 318, 319, 320, 321, 322, 323, 324, 325, 326, 327, 328, 329, 330, 331, 332, 333, 334, 335, 336, 337, 338, 339, 340, 341, 342, 343, 344, 345, 346, 347, 348, 349, 350, 351, 352, 353, 354, 355, 356, 357, 358, 359, 360, 361, 362, 363, 364, 365, 366, 367, 368, 369, 370, 371, 372, 373, 374, 375, 376, 377, 378, 7, 8, 379, 380, 381, 382, 383, 384, 385, 386, 387, 388, 389, 390, 391, 392, 393, 394, 395, 396, 397, 398, 399, 400, 401, 402, 403, 404, 405, 406, 407, 408, 409, 410, 411, 412, 413, 414, 415, 416, 417, 418, 419, 420, 421, 422, 423, 424, 425, 426, 427, 11, 428, 429, 430, 36, 431, 432, 433, 434, 435, 436, 437, 438, 439, 440, 441, 442, 443, 444, 445, 446, 447, 448, 449, 450, 451, 452, 453, 454, 455, 456, 457, 458, 459, 460, 35, 461, 69, 68, 462, 463, 464, 465, 25, 24, 29, 466, 467, 468, 469, 470, 77, 78, 74, 70, 471, 80, 81, 23, 82, 44, 50, 51, 52, 83, 84, 85, 86, 45, 87, 88, 89, 90, 46, 472, 473, 474, 475, 71, 76, 476, 477, 478, 479, 75, 480, 481, 482, 483, 484, 485, 486, 487, 488, 489, 490, 491, 492, 493, 494, 495, 496, 497, 498, 499, 500, 501, 502, 503, 504, 505, 506, 507, 508, 509, 510, 511, 512, 513, 514, 515, 516, 517, 518, 519, 520, 521, 522, 523, 524, 525, 526, 527, 528, 529, 530, 531, 532, 533, 534, 535, 536, 537, 538, 539, 540, 541, 542, 543, 48, 544, 545, 546, 547, 47, 548, 549, 550, 551, 552, 92, 93, 94, 95, 96, 97, 98, 99, 100, 101, 102, 103, 104, 105, 106, 54, 107, 108, 109, 110, 55, 56, 111, 112, 553, 554, 555, 556, 557, 49, 53, 558, 559, 560, 28, 561, 64, 562, 563, 564, 565, 566, 567, 568, 569, 570, 571, 572, 573, 574, 63, 62, 575, 576, 577, 578, 579, 580, 581, 582, 583, 584, 585, 586, 587, 37, 588, 589, 590, 591, 592, 593, 594, 595, 596, 597, 598, 599, 600, 601, 602, 603, 604, 605, 606, 607, 608, 609, 610, 611, 612, 613, 614, 615, 616, 617, 618, 619, 620, 621, 622, 623, 624, 625, 626, 627, 628, 629, 630, 631, 632, 633, 634, 635, 636, 637, 638, 639, 640, 641, 642, 643, 644, 645, 646, 647, 648, 649, 650, 651, 652, 653, 654, 655, 656, 657, 658, 659, 660, 661, 662, 663, 664, 665, 666, 667, 668, 669, 670, 671, 672, 673, 674, 675, 676, 677, 678, 679, 680, 681, 682, 683, 684, 685, 686, 687, 688, 689, 690, 691, 692, 693, 694, 695, 696, 697, 698, 699, 700, 701, 38, 702, 703, 704, 705, 706, 707, 708, 709, 710, 711, 712, 713, 714, 715, 716, 717, 718, 719, 720, 721, 722, 723, 724, 725, 726, 727, 728, 729, 730, 731, 732, 733, 734, 735, 736, 737, 738, 739, 740, 741, 742, 743, 744, 745, 746, 747, 748, 749, 750, 751, 752, 753, 754, 755, 756, 757, 758, 759, 760, 761, 762, 763, 764, 765, 766, 767, 768, 769, 770, 771, 772, 773, 774, 775, 776, 777, 778, 779, 780, 781, 782, 783, 784, 785, 786, 787, 788, 789, 790, 791, 792, 793, 794, 795, 796, 797, 798, 799, 800, 801, 802, 803, 804, 805, 806, 807, 808, 809, 810, 811, 812, 813, 814, 815, 816, 817, 818, 819, 820, 821, 822, 823, 824, 825, 826, 827, 828, 829, 830, 831, 832, 833, 834, 835, 836, 837, 838, 839, 840, 841, 842, 843, 844, 845, 846, 847, 848, 849, 850, 851, 852, 853, 854, 855, 856, 30, 32, 857, 858, 859, 860, 861, 862, 863, 864, 865, 866, 867, 868, 869, 870, 871, 872, 873, 874, 875, 876, 877, 878, 879, 880, 881, 882, 883, 884, 885, 886, 887, 888, 889, 890, 891, 892, 893, 894, 895, 896, 897, 898, 899, 900, 901, 902, 903, 904, 905, 906, 907, 908, 909, 910, 911, 912, 913, 914, 915, 916, 917, 918, 919, 920, 921, 962, 963, 964, 965, 966, 967, 931, 932, 933, 934, 968, 969, 970, 971, 972, 973, 974, 975, 976, 977, 922, 923, 924, 925, 926, 927, 928, 929, 930, 951, 952, 953, 954, 955, 956, 957, 958, 959, 960, 961, 935, 936, 937, 938, 939, 940, 941, 942, 943, 944, 945, 946, 947, 948, 949, 950] (by decide +kernel) (by decide +kernel)) (goodIn_sub (fun _ h => (List.mem_append_left _ (List.mem_append_left _ (List.mem_append_right _ h)))) (by decide +kernel))) (goodIn_sub (fun _ h => (List.mem_append_left _ (List.mem_append_right _ h))) (by decide +kernel))) (goodIn_sub (fun _ h => (List.mem_append_right _ h)) (by decide +kernel))
set_option maxRecDepth 20000 in
theorem gL_law_L_holds : GoodIn wsL_law (wsV RL 270 RL yL_holds wsL_holds) := goodIn_app (goodIn_of _ (by decide +kernel)) ggL_law_L_holds
theorem dL_law_0 : decode cL_law 0 = .ok (.new 11, 3) := by decide +kernel
theorem dL_law_3 : decode cL_law 3 = .ok (.dup, 1) := by decide +kernel
theorem dL_law_4 : decode cL_law 4 = .ok (.invokespecial 269, 3) := by decide +kernel
theorem dL_law_7 : decode cL_law 7 = .ok (.aload_n 0, 1) := by decide +kernel
theorem dL_law_8 : decode cL_law 8 = .ok (.invokevirtual 270, 3) := by decide +kernel
theorem dL_law_11 : decode cL_law 11 = .ok (.ireturn, 1) := by decide +kernel
set_option maxRecDepth 20000 in
theorem ggL_holds_L_loads : GoodIn wsL_holds wsL_loads := goodIn_ca (goodIn_ca (goodIn_r _ [6, 7, 8, 9, 10, 11, 5, 12, 1, 13, 14, 15, 16, 17, 18, 19, 20, 21, 22, 23, 24, 25, 26, 27, 28, 29, 30, 31, 32, 33, 34, 35, 36, 37, 38, 39, 40, 41, 42, 43, 44, 45, 46, 47, 48, 49, 50, 51, 52, 53, 54, 55, 56, 57, 58, 59, 60, 61, 62, 63, 64, 65, 66, 67, 68, 69, 70, 71, 72, 73, 74, 75, 76, 77, 78, 79, 80, 81, 82, 83, 84, 85, 86, 87, 88, 89, 90, 91, 92, 93, 94, 95, 96, 97, 98, 99, 100, 101, 102, 103, 104, 105, 106, 107, 108, 109, 110, 111, 112, 113, 114, 115, 116, 117, 118, 119, 120, 121, 122, 123, 124, 125, 126, 127, 128, 129, 130, 131, 132, 133, 134, 135, 136, 137, 138, 139, 140, 141, 142, 143, 144, 145, 146, 147, 148, 149, 150, 151, 152, 153, 154, 155, 156, 157, 158, 159, 160, 161, 162, 163, 164, 165, 166, 167, 168, 169, 170, 171, 172, 173, 174, 175, 176, 177, 178, 179, 180, 181, 182, 183, 184, 185, 186, 187, 188, 189, 190, 191, 192, 193, 194, 195, 196, 197, 198, 199, 200, 201, 202, 203, 204, 205, 206, 207, 208, 209, 210, 211, 212, 213, 214, 215, 216, 217, 218, 219, 220, 221, 222, 223, 224, 225, 226, 227, 228, 229, 230, 231, 232, 233, 234, 235, 236, 237, 238, 239, 240, 241, 242, 243, 244, 245, 246, 247, 248, 249, 250, 251, 252, 253, 254, 255, 256, 257, 258, 259, 260, 261, 262, 263, 264, 265, 266, 267, 268, 269, 270, 271, 272, 273, 274, 275, 276, 277, 278, 279, 280, 281, 282, 283, 284, 285, 286, 287, 288, 289, 290, 291, 292, 293, 294, 295, 296, 297, 298, 299, 300, 301, 302, 303, 304, 305, 306, 307, 308, 309, 310, 311, 312, 313, 314, 315, 316, 317, 318, 319, 320, 321, 322, 323, 324, 325, 326, 327, 328, 329, 330, 331, 332, 333, 334, 335, 336, 337, 338, 339, 340, 341, 342, 343, 344, 345, 346, 347, 348, 349, 350, 351, 352, 353, 354, 355, 356, 357, 358, 359, 360, 361, 362, 363, 364, 365, 366, 367, 368, 369, 370, 371, 372, 373, 374, 375, 376, 377, 378, 379, 380, 381, 382, 383, 384, 385, 386, 387, 388, 389, 390, 391, 392, 393, 394, 395, 396, 397, 398, 399, 400, 401, 402, 403, 404, 405, 406, 407, 408, 409, 410, 411, 412, 413, 414, 415, 416, 417, 418, 419, 420, 421, 422, 423, 424, 425, 426, 427, 428, 429, 430, 431, 432, 433, 434, 435, 436, 437, 438, 439, 440, 441, 442, 443, 444, 445, 446, 447, 448, 449, 450, 451, 452, 453, 454, 455, 456, 457, 458, 459, 460, 461, 462, 463, 464, 465, 466, 467, 468, 469, 470, 471, 472, 473, 474, 475, 476, 477, 478, 479, 480, 481, 482, 483, 484, 485, 486, 487, 488, 489, 490, 491, 492, 493, 494, 495, 496, 497, 498, 499, 500, 501, 502, 503, 504, 505, 506, 507, 508, 509, 510, 511, 512, 513, 514, 515, 516, 517, 518, 519, 520, 521, 522, 523, 524, 525, 526, 527, 528, 529, 530, 531, 532, 871, 872, 873, 874, 875, 876, 877, 878, 879, 880, 881, 882, 883, 884, 885, 886, 887, 888, 889, 890, 891, 892, 893, 894, 895, 896, 897, 898, 899, 900, 901, 902, 903, 904, 905, 906, 907, 908, 909, 910, 911, 912, 913, 914, 915, 916, 917, 918, 919, 920, 921, 922, 923, 924, 925, 926, 927, 928, 929, 930] (by decide +kernel) (by decide +kernel)) (goodIn_sub (fun _ h => List.mem_cons_of_mem _ (List.mem_append_left _ (List.mem_append_left _ (List.mem_append_right _ h)))) (by decide +kernel))) (goodIn_sub (fun _ h => List.mem_cons_of_mem _ (List.mem_append_left _ (List.mem_append_right _ h))) (by decide +kernel))
set_option maxRecDepth 20000 in
theorem gL_holds_L_loads : GoodIn wsL_holds (wsV RL 274 RL yL_loads wsL_loads) := goodIn_app (goodIn_of _ (by decide +kernel)) ggL_holds_L_loads
set_option maxRecDepth 20000 in
theorem ggL_holds_L_addsUp : GoodIn wsL_holds wsL_addsUp := goodIn_ca (goodIn_ca (goodIn_r _ [536, 8, 537, 538, 539, 16, 540, 14, 15, 17, 525, 526, 5, 527, 308, 528, 529, 530, 312, 531, 314, 315, 357, 532, 356, 358, 541, 542, 543, 544, 545, 546, 547, 548, 549, 550, 551, 552, 553, 554, 555, 556, 557, 558, 559, 560, 561, 370, 562, 466, 563, 564, 565, 566, 567, 568, 569, 570, 571, 572, 573, 385, 574, 575, 576, 577, 578, 579, 580, 581, 582, 583, 584, 585, 586, 587, 588, 589, 590, 591, 592, 593, 373, 501, 415, 416, 594, 595, 596, 597, 598, 599, 600, 601, 602, 603, 604, 605, 606, 607, 476, 477, 478, 380, 372, 479, 480, 481, 482, 608, 609, 610, 611, 612, 613, 614, 615, 509, 510, 511, 512, 513, 616, 617, 618, 619, 620, 621, 622, 623, 624, 625, 626, 627, 628, 629, 630, 631, 632, 871, 872, 873, 874, 895, 896, 897, 898, 899, 900, 901, 902, 903, 928, 929, 930, 915, 916, 917, 918, 919, 920, 921, 922, 923, 924, 925, 926, 927] (by decide +kernel) (by decide +kernel)) (goodIn_sub (fun _ h => List.mem_cons_of_mem _ (List.mem_append_left _ (List.mem_append_left _ (List.mem_append_right _ h)))) (by decide +kernel))) (goodIn_sub (fun _ h => List.mem_cons_of_mem _ (List.mem_append_right _ h)) (by decide +kernel))
set_option maxRecDepth 20000 in
theorem gL_holds_L_addsUp : GoodIn wsL_holds (wsV RL 278 RL yL_addsUp wsL_addsUp) := goodIn_app (goodIn_of _ (by decide +kernel)) ggL_holds_L_addsUp
set_option maxRecDepth 20000 in
theorem ggL_holds_L_draw : GoodIn wsL_holds wsL_draw := goodIn_r _ [12, 1, 13, 14, 15, 16, 17, 18, 19, 20, 21, 22, 5, 23, 24, 25, 871, 872, 873, 874] (by decide +kernel) (by decide +kernel)
set_option maxRecDepth 20000 in
theorem gL_holds_L_draw : GoodIn wsL_holds (wsV RL 139 RL yL_draw wsL_draw) := goodIn_app (goodIn_of _ (by decide +kernel)) ggL_holds_L_draw
set_option maxRecDepth 20000 in
theorem ggL_holds_L_others : GoodIn wsL_holds wsL_others := goodIn_ca (goodIn_ca (goodIn_r _ [636, 8, 525, 526, 5, 527, 308, 528, 529, 530, 312, 531, 314, 315, 357, 532, 356, 358, 9, 10, 11, 12, 1, 13, 14, 15, 16, 17, 18, 19, 20, 21, 22, 23, 24, 25, 637, 638, 639, 552, 640, 641, 642, 643, 557, 558, 644, 645, 646, 647, 648, 649, 650, 651, 652, 653, 654, 655, 656, 657, 658, 659, 506, 660, 522, 523, 508, 524, 497, 498, 370, 499, 372, 500, 79, 80, 81, 380, 385, 466, 461, 501, 373, 374, 375, 502, 487, 492, 493, 661, 458, 459, 460, 462, 463, 464, 465, 594, 595, 596, 597, 598, 599, 415, 416, 549, 550, 551, 553, 554, 555, 556, 559, 560, 561, 562, 662, 663, 664, 665, 666, 667, 668, 669, 670, 671, 672, 673, 674, 675, 676, 677, 678, 571, 572, 573, 679, 680, 681, 682, 683, 684, 685, 686, 687, 688, 689, 690, 691, 692, 693, 694, 695, 696, 697, 620, 513, 698, 699, 700, 701, 702, 591, 592, 593, 703, 704, 705, 706, 707, 708, 709, 710, 711, 712, 483, 484, 485, 486, 475, 476, 477, 478, 479, 480, 481, 482, 488, 489, 490, 491, 494, 495, 583, 584, 585, 586, 587, 588, 589, 590, 514, 515, 516, 517, 518, 519, 520, 521, 713, 714, 715, 716, 717, 718, 719, 720, 721, 722, 723, 724, 509, 510, 511, 512, 725, 726, 727, 728, 729, 730, 731, 732, 733, 734, 735, 736, 737, 738, 739, 740, 871, 872, 873, 874, 895, 896, 897, 898, 899, 900, 901, 902, 903, 928, 929, 930, 915, 916, 917, 918, 919, 920, 921, 922, 923, 924, 925, 926, 927] (by decide +kernel) (by decide +kernel)) (goodIn_sub (fun _ h => List.mem_cons_of_mem _ (List.mem_append_left _ (List.mem_append_left _ (List.mem_append_right _ h)))) (by decide +kernel))) (goodIn_sub (fun _ h => List.mem_cons_of_mem _ (List.mem_append_right _ h)) (by decide +kernel))
set_option maxRecDepth 20000 in
theorem gL_holds_L_others : GoodIn wsL_holds (wsV RL 281 RL yL_others wsL_others) := goodIn_app (goodIn_of _ (by decide +kernel)) ggL_holds_L_others
set_option maxRecDepth 20000 in
theorem ggL_holds_L_comes : GoodIn wsL_holds wsL_comes := goodIn_ca (goodIn_ca (goodIn_ca (goodIn_r _ [744, 8, 9, 10, 11, 5, 12, 1, 13, 14, 15, 16, 17, 18, 19, 20, 21, 22, 23, 24, 25, 745, 746, 747, 308, 748, 749, 750, 312, 751, 314, 315, 355, 356, 496, 497, 498, 370, 499, 372, 500, 79, 80, 81, 380, 385, 466, 461, 501, 373, 374, 375, 502, 487, 492, 493, 752, 753, 754, 755, 483, 484, 485, 486, 475, 476, 477, 478, 479, 480, 481, 482, 488, 489, 490, 491, 494, 495, 756, 757, 758, 759, 760, 761, 762, 763, 764, 765, 766, 767, 712, 704, 705, 706, 677, 560, 561, 562, 678, 571, 572, 573, 768, 769, 770, 771, 462, 463, 464, 465, 772, 773, 774, 775, 776, 674, 675, 676, 679, 680, 681, 682, 683, 684, 685, 686, 777, 778, 779, 780, 415, 416, 781, 737, 738, 739, 782, 783, 784, 785, 786, 787, 788, 789, 790, 791, 792, 552, 793, 794, 795, 796, 557, 558, 620, 513, 570, 797, 798, 799, 800, 358, 525, 526, 527, 528, 529, 530, 531, 357, 532, 801, 802, 803, 804, 805, 806, 807, 808, 809, 616, 617, 618, 619, 563, 564, 565, 566, 567, 568, 569, 509, 510, 511, 512, 810, 811, 812, 813, 814, 815, 816, 817, 818, 819, 820, 653, 654, 655, 656, 652, 657, 658, 659, 506, 660, 522, 523, 508, 524, 821, 822, 823, 337, 824, 825, 826, 827, 342, 343, 503, 504, 505, 507, 549, 550, 551, 553, 554, 555, 556, 559, 871, 872, 873, 874, 895, 896, 897, 898, 899, 900, 901, 902, 903, 915, 916, 917, 918, 919, 920, 921, 922, 923, 924, 925, 926, 927, 928, 929, 930] (by decide +kernel) (by decide +kernel)) (goodIn_sub (fun _ h => List.mem_cons_of_mem _ (List.mem_append_left _ (List.mem_append_left _ (List.mem_append_right _ h)))) (by decide +kernel))) (goodIn_sub (fun _ h => List.mem_cons_of_mem _ (List.mem_append_right _ h)) (by decide +kernel))) (goodIn_sub (fun _ h => List.mem_cons_of_mem _ (List.mem_append_left _ (List.mem_append_right _ h))) (by decide +kernel))
set_option maxRecDepth 20000 in
theorem gL_holds_L_comes : GoodIn wsL_holds (wsV RL 284 RL yL_comes wsL_comes) := goodIn_app (goodIn_of _ (by decide +kernel)) ggL_holds_L_comes
set_option maxRecDepth 20000 in
theorem ggL_holds_L_best : GoodIn wsL_holds wsL_best := goodIn_ca (goodIn_ca (goodIn_ca (goodIn_r _ [831, 8, 9, 10, 11, 5, 12, 1, 13, 14, 15, 16, 17, 18, 19, 20, 21, 22, 23, 24, 25, 832, 833, 834, 308, 835, 836, 837, 312, 838, 314, 315, 356, 358, 355, 598, 496, 497, 498, 370, 499, 372, 500, 79, 80, 81, 380, 385, 466, 461, 501, 373, 374, 375, 502, 487, 492, 493, 839, 840, 841, 842, 752, 753, 754, 755, 483, 484, 485, 486, 475, 476, 477, 478, 479, 480, 481, 482, 488, 489, 490, 491, 494, 495, 756, 757, 758, 759, 760, 761, 762, 763, 764, 765, 766, 767, 712, 704, 705, 706, 677, 560, 561, 562, 678, 571, 572, 573, 768, 769, 770, 771, 462, 463, 464, 465, 772, 773, 774, 775, 776, 674, 675, 676, 679, 680, 681, 682, 683, 684, 685, 686, 777, 778, 779, 780, 415, 416, 781, 737, 738, 739, 782, 783, 784, 785, 786, 787, 788, 789, 599, 525, 526, 527, 528, 529, 530, 531, 357, 532, 801, 802, 803, 804, 805, 806, 807, 808, 809, 843, 844, 845, 552, 846, 847, 848, 849, 557, 558, 850, 851, 852, 853, 669, 670, 671, 672, 648, 649, 650, 651, 652, 653, 654, 655, 656, 657, 658, 659, 506, 660, 522, 523, 508, 524, 745, 746, 747, 748, 749, 750, 751, 594, 595, 596, 597, 821, 822, 823, 337, 824, 825, 826, 827, 342, 343, 503, 504, 505, 507, 871, 872, 873, 874, 895, 896, 897, 898, 899, 900, 901, 902, 903, 915, 916, 917, 918, 919, 920, 921, 922, 923, 924, 925, 926, 927, 928, 929, 930] (by decide +kernel) (by decide +kernel)) (goodIn_sub (fun _ h => List.mem_cons_of_mem _ (List.mem_append_left _ (List.mem_append_left _ (List.mem_append_right _ h)))) (by decide +kernel))) (goodIn_sub (fun _ h => List.mem_cons_of_mem _ (List.mem_append_right _ h)) (by decide +kernel))) (goodIn_sub (fun _ h => List.mem_cons_of_mem _ (List.mem_append_left _ (List.mem_append_right _ h))) (by decide +kernel))
set_option maxRecDepth 20000 in
theorem gL_holds_L_best : GoodIn wsL_holds (wsV RL 287 RL yL_best wsL_best) := goodIn_app (goodIn_of _ (by decide +kernel)) ggL_holds_L_best
set_option maxRecDepth 20000 in
theorem ggL_holds_L_ticks : GoodIn wsL_holds wsL_ticks := goodIn_ca (goodIn_ca (goodIn_r _ [857, 8, 538, 539, 16, 540, 858, 76, 77, 525, 526, 5, 527, 308, 528, 529, 530, 312, 531, 314, 315, 357, 532, 356, 358, 594, 595, 596, 597, 598, 599, 415, 416, 797, 798, 799, 800, 355, 496, 497, 498, 370, 499, 372, 500, 79, 80, 81, 380, 385, 466, 461, 501, 373, 374, 375, 502, 487, 492, 493, 752, 753, 754, 755, 483, 484, 485, 486, 475, 476, 477, 478, 479, 480, 481, 482, 488, 489, 490, 491, 494, 495, 756, 757, 758, 759, 760, 761, 762, 763, 764, 765, 766, 767, 712, 704, 705, 706, 677, 560, 561, 562, 678, 571, 572, 573, 768, 769, 770, 771, 462, 463, 464, 465, 772, 773, 774, 775, 776, 674, 675, 676, 679, 680, 681, 682, 683, 684, 685, 686, 777, 778, 779, 780, 781, 737, 738, 739, 782, 783, 784, 785, 786, 787, 788, 789, 745, 746, 747, 748, 749, 750, 751, 859, 860, 861, 862, 541, 542, 543, 544, 545, 546, 547, 548, 600, 601, 602, 603, 604, 605, 606, 607, 810, 811, 812, 813, 814, 815, 816, 817, 818, 819, 820, 653, 654, 655, 656, 652, 657, 658, 659, 506, 660, 522, 523, 508, 524, 549, 550, 551, 552, 553, 554, 555, 556, 557, 558, 559, 863, 864, 865, 866, 867, 868, 869, 870, 662, 663, 664, 665, 666, 667, 668, 669, 670, 671, 672, 673, 871, 872, 873, 874, 895, 896, 897, 898, 899, 900, 901, 902, 903, 928, 929, 930, 915, 916, 917, 918, 919, 920, 921, 922, 923, 924, 925, 926, 927] (by decide +kernel) (by decide +kernel)) (goodIn_sub (fun _ h => List.mem_cons_of_mem _ (List.mem_append_left _ (List.mem_append_left _ (List.mem_append_right _ h)))) (by decide +kernel))) (goodIn_sub (fun _ h => List.mem_cons_of_mem _ (List.mem_append_right _ h)) (by decide +kernel))
set_option maxRecDepth 20000 in
theorem gL_holds_L_ticks : GoodIn wsL_holds (wsV RL 290 RL yL_ticks wsL_ticks) := goodIn_app (goodIn_of _ (by decide +kernel)) ggL_holds_L_ticks
theorem dL_holds_0 : decode cL_holds 0 = .ok (.aload_n 0, 1) := by decide +kernel
theorem dL_holds_1 : decode cL_holds 1 = .ok (.aload_n 1, 1) := by decide +kernel
theorem dL_holds_2 : decode cL_holds 2 = .ok (.putfield 25, 3) := by decide +kernel
theorem dL_holds_5 : decode cL_holds 5 = .ok (.iconst 0, 1) := by decide +kernel
theorem dL_holds_6 : decode cL_holds 6 = .ok (.istore_n 2, 1) := by decide +kernel
theorem dL_holds_7 : decode cL_holds 7 = .ok (.iload_n 2, 1) := by decide +kernel
theorem dL_holds_8 : decode cL_holds 8 = .ok (.iconst 3, 1) := by decide +kernel
theorem dL_holds_9 : decode cL_holds 9 = .ok (.if_icmp .ge 171, 3) := by decide +kernel
theorem dL_holds_12 : decode cL_holds 12 = .ok (.aload_n 0, 1) := by decide +kernel
theorem dL_holds_13 : decode cL_holds 13 = .ok (.invokevirtual 274, 3) := by decide +kernel
theorem dL_holds_16 : decode cL_holds 16 = .ok (.ifCond .eq 10, 3) := by decide +kernel
theorem dL_holds_19 : decode cL_holds 19 = .ok (.aload_n 0, 1) := by decide +kernel
theorem dL_holds_20 : decode cL_holds 20 = .ok (.invokevirtual 278, 3) := by decide +kernel
theorem dL_holds_23 : decode cL_holds 23 = .ok (.ifCond .ne 5, 3) := by decide +kernel
theorem dL_holds_26 : decode cL_holds 26 = .ok (.iconst 0, 1) := by decide +kernel
theorem dL_holds_27 : decode cL_holds 27 = .ok (.ireturn, 1) := by decide +kernel
theorem dL_holds_28 : decode cL_holds 28 = .ok (.iconst 0, 1) := by decide +kernel
theorem dL_holds_29 : decode cL_holds 29 = .ok (.istore_n 3, 1) := by decide +kernel
theorem dL_holds_30 : decode cL_holds 30 = .ok (.iload_n 3, 1) := by decide +kernel
theorem dL_holds_31 : decode cL_holds 31 = .ok (.bipush 60, 2) := by decide +kernel
theorem dL_holds_33 : decode cL_holds 33 = .ok (.if_icmp .ge 132, 3) := by decide +kernel
theorem dL_holds_36 : decode cL_holds 36 = .ok (.aload_n 0, 1) := by decide +kernel
theorem dL_holds_37 : decode cL_holds 37 = .ok (.bipush 10, 2) := by decide +kernel
theorem dL_holds_39 : decode cL_holds 39 = .ok (.invokevirtual 139, 3) := by decide +kernel
theorem dL_holds_42 : decode cL_holds 42 = .ok (.tableswitch 89 0 3 #[30, 30, 39, 64], 30) := by decide +kernel
theorem dL_holds_72 : decode cL_holds 72 = .ok (.aload_n 0, 1) := by decide +kernel
theorem dL_holds_73 : decode cL_holds 73 = .ok (.invokevirtual 281, 3) := by decide +kernel
theorem dL_holds_76 : decode cL_holds 76 = .ok (.istore 4, 2) := by decide +kernel
theorem dL_holds_78 : decode cL_holds 78 = .ok (.goto 59, 3) := by decide +kernel
theorem dL_holds_81 : decode cL_holds 81 = .ok (.aload_n 0, 1) := by decide +kernel
theorem dL_holds_82 : decode cL_holds 82 = .ok (.iconst 2, 1) := by decide +kernel
theorem dL_holds_83 : decode cL_holds 83 = .ok (.invokevirtual 139, 3) := by decide +kernel
theorem dL_holds_86 : decode cL_holds 86 = .ok (.ifCond .gt 10, 3) := by decide +kernel
theorem dL_holds_89 : decode cL_holds 89 = .ok (.aload_n 0, 1) := by decide +kernel
theorem dL_holds_90 : decode cL_holds 90 = .ok (.invokevirtual 284, 3) := by decide +kernel
theorem dL_holds_93 : decode cL_holds 93 = .ok (.ifCond .eq 7, 3) := by decide +kernel
theorem dL_holds_96 : decode cL_holds 96 = .ok (.iconst 1, 1) := by decide +kernel
theorem dL_holds_97 : decode cL_holds 97 = .ok (.goto 4, 3) := by decide +kernel
theorem dL_holds_100 : decode cL_holds 100 = .ok (.iconst 0, 1) := by decide +kernel
theorem dL_holds_101 : decode cL_holds 101 = .ok (.istore 4, 2) := by decide +kernel
theorem dL_holds_103 : decode cL_holds 103 = .ok (.goto 34, 3) := by decide +kernel
theorem dL_holds_106 : decode cL_holds 106 = .ok (.aload_n 0, 1) := by decide +kernel
theorem dL_holds_107 : decode cL_holds 107 = .ok (.iconst 3, 1) := by decide +kernel
theorem dL_holds_108 : decode cL_holds 108 = .ok (.invokevirtual 139, 3) := by decide +kernel
theorem dL_holds_111 : decode cL_holds 111 = .ok (.ifCond .gt 10, 3) := by decide +kernel
theorem dL_holds_114 : decode cL_holds 114 = .ok (.aload_n 0, 1) := by decide +kernel
theorem dL_holds_115 : decode cL_holds 115 = .ok (.invokevirtual 287, 3) := by decide +kernel
theorem dL_holds_118 : decode cL_holds 118 = .ok (.ifCond .eq 7, 3) := by decide +kernel
theorem dL_holds_121 : decode cL_holds 121 = .ok (.iconst 1, 1) := by decide +kernel
theorem dL_holds_122 : decode cL_holds 122 = .ok (.goto 4, 3) := by decide +kernel
theorem dL_holds_125 : decode cL_holds 125 = .ok (.iconst 0, 1) := by decide +kernel
theorem dL_holds_126 : decode cL_holds 126 = .ok (.istore 4, 2) := by decide +kernel
theorem dL_holds_128 : decode cL_holds 128 = .ok (.goto 9, 3) := by decide +kernel
theorem dL_holds_131 : decode cL_holds 131 = .ok (.aload_n 0, 1) := by decide +kernel
theorem dL_holds_132 : decode cL_holds 132 = .ok (.invokevirtual 290, 3) := by decide +kernel
theorem dL_holds_135 : decode cL_holds 135 = .ok (.istore 4, 2) := by decide +kernel
theorem dL_holds_137 : decode cL_holds 137 = .ok (.iload 4, 2) := by decide +kernel
theorem dL_holds_139 : decode cL_holds 139 = .ok (.ifCond .eq 18, 3) := by decide +kernel
theorem dL_holds_142 : decode cL_holds 142 = .ok (.iload_n 3, 1) := by decide +kernel
theorem dL_holds_143 : decode cL_holds 143 = .ok (.bipush 6, 2) := by decide +kernel
theorem dL_holds_145 : decode cL_holds 145 = .ok (.irem, 1) := by decide +kernel
theorem dL_holds_146 : decode cL_holds 146 = .ok (.iconst 2, 1) := by decide +kernel
theorem dL_holds_147 : decode cL_holds 147 = .ok (.if_icmp .ne 12, 3) := by decide +kernel
theorem dL_holds_150 : decode cL_holds 150 = .ok (.aload_n 0, 1) := by decide +kernel
theorem dL_holds_151 : decode cL_holds 151 = .ok (.invokevirtual 278, 3) := by decide +kernel
theorem dL_holds_154 : decode cL_holds 154 = .ok (.ifCond .ne 5, 3) := by decide +kernel
theorem dL_holds_157 : decode cL_holds 157 = .ok (.iconst 0, 1) := by decide +kernel
theorem dL_holds_158 : decode cL_holds 158 = .ok (.ireturn, 1) := by decide +kernel
theorem dL_holds_159 : decode cL_holds 159 = .ok (.iinc 3 1, 3) := by decide +kernel
theorem dL_holds_162 : decode cL_holds 162 = .ok (.goto (-132), 3) := by decide +kernel
theorem dL_holds_165 : decode cL_holds 165 = .ok (.aload_n 0, 1) := by decide +kernel
theorem dL_holds_166 : decode cL_holds 166 = .ok (.invokevirtual 278, 3) := by decide +kernel
theorem dL_holds_169 : decode cL_holds 169 = .ok (.ifCond .ne 5, 3) := by decide +kernel
theorem dL_holds_172 : decode cL_holds 172 = .ok (.iconst 0, 1) := by decide +kernel
theorem dL_holds_173 : decode cL_holds 173 = .ok (.ireturn, 1) := by decide +kernel
theorem dL_holds_174 : decode cL_holds 174 = .ok (.iinc 2 1, 3) := by decide +kernel
theorem dL_holds_177 : decode cL_holds 177 = .ok (.goto (-170), 3) := by decide +kernel
theorem dL_holds_180 : decode cL_holds 180 = .ok (.iconst 1, 1) := by decide +kernel
theorem dL_holds_181 : decode cL_holds 181 = .ok (.ireturn, 1) := by decide +kernel

