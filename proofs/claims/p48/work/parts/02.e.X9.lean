set_option maxRecDepth 20000 in
theorem ggX9_init_X8_init : GoodIn wsX9_init wsX8_init := goodIn_r _ [25, 26, 2, 3, 20, 27, 28, 29, 30, 31, 32, 33, 34, 35, 36, 37, 38, 39, 97, 98, 99, 100, 101, 102, 103, 104, 105, 106, 107, 108, 109] (by decide +kernel) (by decide +kernel)
set_option maxRecDepth 20000 in
theorem gX9_init_X8_init_n9 : GoodIn wsX9_init (wsX8_init) := ggX9_init_X8_init
set_option maxRecDepth 20000 in
theorem ggX9_init_X4_init : GoodIn wsX9_init wsX4_init := goodIn_r _ [42, 43, 2, 3, 44, 45, 46, 47, 5, 6, 24, 25, 26, 20, 27, 28, 29, 30, 31, 32, 33, 34, 35, 36, 37, 38, 39, 119, 120, 121, 97, 98, 99, 100, 101, 102, 103, 104, 105, 106, 107, 108, 109] (by decide +kernel) (by decide +kernel)
set_option maxRecDepth 20000 in
theorem gX9_init_X4_init : GoodIn wsX9_init (wsX4_init) := ggX9_init_X4_init
set_option maxRecDepth 20000 in
theorem ggX9_init_X6_init : GoodIn wsX9_init wsX6_init := goodIn_r _ [49, 50, 2, 3, 20, 51, 52, 53, 54, 55, 56, 57, 58, 59, 60, 61, 122, 123, 124, 125, 126, 127, 128, 129, 130, 131, 132] (by decide +kernel) (by decide +kernel)
set_option maxRecDepth 20000 in
theorem gX9_init_X6_init_n36 : GoodIn wsX9_init (wsX6_init) := ggX9_init_X6_init
set_option maxRecDepth 20000 in
theorem ggX9_init_X8_becomeNew : GoodIn wsX9_init wsX8_becomeNew := goodIn_r _ [65, 27, 33, 34, 35, 66, 67, 68, 6, 69, 28, 70, 71, 72, 73, 29, 97, 98, 99, 100, 101, 102, 103, 104, 105, 106, 107, 108, 109] (by decide +kernel) (by decide +kernel)
set_option maxRecDepth 20000 in
theorem gX9_init_X8_becomeNew : GoodIn wsX9_init (wsV RX9 52 RX8 yX8_becomeNew wsX8_becomeNew) := goodIn_app (goodIn_of _ (by decide +kernel)) ggX9_init_X8_becomeNew
set_option maxRecDepth 20000 in
theorem ggX9_init_X8_becomeLevel : GoodIn wsX9_init wsX8_becomeLevel := goodIn_r _ [77, 27, 78, 79, 80, 6, 81, 28, 82, 83, 84, 85, 86, 87, 88, 89, 37, 90, 91, 92, 93, 38, 39, 94, 95, 96, 97, 98, 99, 100, 101, 102, 103, 104, 105, 106, 107, 108, 109] (by decide +kernel) (by decide +kernel)
set_option maxRecDepth 20000 in
theorem gX9_init_X8_becomeLevel : GoodIn wsX9_init (wsV RX9 55 RX8 yX8_becomeLevel wsX8_becomeLevel) := goodIn_app (goodIn_of _ (by decide +kernel)) ggX9_init_X8_becomeLevel
theorem dX9_init_0 : decode cX9_init 0 = .ok (.aload_n 0, 1) := by decide +kernel
theorem dX9_init_1 : decode cX9_init 1 = .ok (.invokespecial 1, 3) := by decide +kernel
theorem dX9_init_4 : decode cX9_init 4 = .ok (.aload_n 0, 1) := by decide +kernel
theorem dX9_init_5 : decode cX9_init 5 = .ok (.new 7, 3) := by decide +kernel
theorem dX9_init_8 : decode cX9_init 8 = .ok (.dup, 1) := by decide +kernel
theorem dX9_init_9 : decode cX9_init 9 = .ok (.invokespecial 9, 3) := by decide +kernel
theorem dX9_init_12 : decode cX9_init 12 = .ok (.putfield 10, 3) := by decide +kernel
theorem dX9_init_15 : decode cX9_init 15 = .ok (.aload_n 0, 1) := by decide +kernel
theorem dX9_init_16 : decode cX9_init 16 = .ok (.new 7, 3) := by decide +kernel
theorem dX9_init_19 : decode cX9_init 19 = .ok (.dup, 1) := by decide +kernel
theorem dX9_init_20 : decode cX9_init 20 = .ok (.invokespecial 9, 3) := by decide +kernel
theorem dX9_init_23 : decode cX9_init 23 = .ok (.putfield 16, 3) := by decide +kernel
theorem dX9_init_26 : decode cX9_init 26 = .ok (.aload_n 0, 1) := by decide +kernel
theorem dX9_init_27 : decode cX9_init 27 = .ok (.new 19, 3) := by decide +kernel
theorem dX9_init_30 : decode cX9_init 30 = .ok (.dup, 1) := by decide +kernel
theorem dX9_init_31 : decode cX9_init 31 = .ok (.invokespecial 21, 3) := by decide +kernel
theorem dX9_init_34 : decode cX9_init 34 = .ok (.putfield 22, 3) := by decide +kernel
theorem dX9_init_37 : decode cX9_init 37 = .ok (.aload_n 0, 1) := by decide +kernel
theorem dX9_init_38 : decode cX9_init 38 = .ok (.iconst 2, 1) := by decide +kernel
theorem dX9_init_39 : decode cX9_init 39 = .ok (.anewarray 7, 3) := by decide +kernel
theorem dX9_init_42 : decode cX9_init 42 = .ok (.putfield 26, 3) := by decide +kernel
theorem dX9_init_45 : decode cX9_init 45 = .ok (.aload_n 0, 1) := by decide +kernel
theorem dX9_init_46 : decode cX9_init 46 = .ok (.iconst 2, 1) := by decide +kernel
theorem dX9_init_47 : decode cX9_init 47 = .ok (.newarray .boolean, 2) := by decide +kernel
theorem dX9_init_49 : decode cX9_init 49 = .ok (.putfield 30, 3) := by decide +kernel
theorem dX9_init_52 : decode cX9_init 52 = .ok (.aload_n 0, 1) := by decide +kernel
theorem dX9_init_53 : decode cX9_init 53 = .ok (.new 34, 3) := by decide +kernel
theorem dX9_init_56 : decode cX9_init 56 = .ok (.dup, 1) := by decide +kernel
theorem dX9_init_57 : decode cX9_init 57 = .ok (.invokespecial 36, 3) := by decide +kernel
theorem dX9_init_60 : decode cX9_init 60 = .ok (.putfield 37, 3) := by decide +kernel
theorem dX9_init_63 : decode cX9_init 63 = .ok (.aload_n 0, 1) := by decide +kernel
theorem dX9_init_64 : decode cX9_init 64 = .ok (.iconst 5, 1) := by decide +kernel
theorem dX9_init_65 : decode cX9_init 65 = .ok (.newarray .int, 2) := by decide +kernel
theorem dX9_init_67 : decode cX9_init 67 = .ok (.putfield 41, 3) := by decide +kernel
theorem dX9_init_70 : decode cX9_init 70 = .ok (.aload_n 0, 1) := by decide +kernel
theorem dX9_init_71 : decode cX9_init 71 = .ok (.sipush 256, 3) := by decide +kernel
theorem dX9_init_74 : decode cX9_init 74 = .ok (.newarray .int, 2) := by decide +kernel
theorem dX9_init_76 : decode cX9_init 76 = .ok (.putfield 45, 3) := by decide +kernel
theorem dX9_init_79 : decode cX9_init 79 = .ok (.aload_n 0, 1) := by decide +kernel
theorem dX9_init_80 : decode cX9_init 80 = .ok (.iconst 0, 1) := by decide +kernel
theorem dX9_init_81 : decode cX9_init 81 = .ok (.putfield 48, 3) := by decide +kernel
theorem dX9_init_84 : decode cX9_init 84 = .ok (.iconst 0, 1) := by decide +kernel
theorem dX9_init_85 : decode cX9_init 85 = .ok (.istore_n 1, 1) := by decide +kernel
theorem dX9_init_86 : decode cX9_init 86 = .ok (.iload_n 1, 1) := by decide +kernel
theorem dX9_init_87 : decode cX9_init 87 = .ok (.iconst 2, 1) := by decide +kernel
theorem dX9_init_88 : decode cX9_init 88 = .ok (.if_icmp .ge 22, 3) := by decide +kernel
theorem dX9_init_91 : decode cX9_init 91 = .ok (.aload_n 0, 1) := by decide +kernel
theorem dX9_init_92 : decode cX9_init 92 = .ok (.getfield 26, 3) := by decide +kernel
theorem dX9_init_95 : decode cX9_init 95 = .ok (.iload_n 1, 1) := by decide +kernel
theorem dX9_init_96 : decode cX9_init 96 = .ok (.new 7, 3) := by decide +kernel
theorem dX9_init_99 : decode cX9_init 99 = .ok (.dup, 1) := by decide +kernel
theorem dX9_init_100 : decode cX9_init 100 = .ok (.invokespecial 9, 3) := by decide +kernel
theorem dX9_init_103 : decode cX9_init 103 = .ok (.aastore, 1) := by decide +kernel
theorem dX9_init_104 : decode cX9_init 104 = .ok (.iinc 1 1, 3) := by decide +kernel
theorem dX9_init_107 : decode cX9_init 107 = .ok (.goto (-21), 3) := by decide +kernel
theorem dX9_init_110 : decode cX9_init 110 = .ok (.aload_n 0, 1) := by decide +kernel
theorem dX9_init_111 : decode cX9_init 111 = .ok (.getfield 10, 3) := by decide +kernel
theorem dX9_init_114 : decode cX9_init 114 = .ok (.invokevirtual 52, 3) := by decide +kernel
theorem dX9_init_117 : decode cX9_init 117 = .ok (.aload_n 0, 1) := by decide +kernel
theorem dX9_init_118 : decode cX9_init 118 = .ok (.getfield 10, 3) := by decide +kernel
theorem dX9_init_121 : decode cX9_init 121 = .ok (.invokevirtual 55, 3) := by decide +kernel
theorem dX9_init_124 : decode cX9_init 124 = .ok (.return_, 1) := by decide +kernel
set_option maxRecDepth 20000 in
theorem ggX9_appendText_X6_addByte : GoodIn wsX9_appendText wsX6_addByte := goodIn_r _ [9, 10, 11, 21, 22, 23, 24, 25, 26, 27, 28, 29, 30, 31] (by decide +kernel) (by decide +kernel)
set_option maxRecDepth 20000 in
theorem gX9_appendText_X6_addByte : GoodIn wsX9_appendText (wsV RX9 68 RX6 yX6_addByte wsX6_addByte) := goodIn_app (goodIn_of _ (by decide +kernel)) ggX9_appendText_X6_addByte
theorem dX9_appendText_0 : decode cX9_appendText 0 = .ok (.aload_n 0, 1) := by decide +kernel
theorem dX9_appendText_1 : decode cX9_appendText 1 = .ok (.getfield 37, 3) := by decide +kernel
theorem dX9_appendText_4 : decode cX9_appendText 4 = .ok (.getfield 58, 3) := by decide +kernel
theorem dX9_appendText_7 : decode cX9_appendText 7 = .ok (.iconst 4, 1) := by decide +kernel
theorem dX9_appendText_8 : decode cX9_appendText 8 = .ok (.iadd, 1) := by decide +kernel
theorem dX9_appendText_9 : decode cX9_appendText 9 = .ok (.sipush 500, 3) := by decide +kernel
theorem dX9_appendText_12 : decode cX9_appendText 12 = .ok (.if_icmp .le 13, 3) := by decide +kernel
theorem dX9_appendText_15 : decode cX9_appendText 15 = .ok (.new 61, 3) := by decide +kernel
theorem dX9_appendText_18 : decode cX9_appendText 18 = .ok (.dup, 1) := by decide +kernel
theorem dX9_appendText_19 : decode cX9_appendText 19 = .ok (.ldc 63, 2) := by decide +kernel
theorem dX9_appendText_21 : decode cX9_appendText 21 = .ok (.invokespecial 65, 3) := by decide +kernel
theorem dX9_appendText_24 : decode cX9_appendText 24 = .ok (.athrow, 1) := by decide +kernel
theorem dX9_appendText_25 : decode cX9_appendText 25 = .ok (.bipush 24, 2) := by decide +kernel
theorem dX9_appendText_27 : decode cX9_appendText 27 = .ok (.istore_n 2, 1) := by decide +kernel
theorem dX9_appendText_28 : decode cX9_appendText 28 = .ok (.iload_n 2, 1) := by decide +kernel
theorem dX9_appendText_29 : decode cX9_appendText 29 = .ok (.ifCond .lt 23, 3) := by decide +kernel
theorem dX9_appendText_32 : decode cX9_appendText 32 = .ok (.aload_n 0, 1) := by decide +kernel
theorem dX9_appendText_33 : decode cX9_appendText 33 = .ok (.getfield 37, 3) := by decide +kernel
theorem dX9_appendText_36 : decode cX9_appendText 36 = .ok (.iload_n 1, 1) := by decide +kernel
theorem dX9_appendText_37 : decode cX9_appendText 37 = .ok (.iload_n 2, 1) := by decide +kernel
theorem dX9_appendText_38 : decode cX9_appendText 38 = .ok (.iushr, 1) := by decide +kernel
theorem dX9_appendText_39 : decode cX9_appendText 39 = .ok (.sipush 255, 3) := by decide +kernel
theorem dX9_appendText_42 : decode cX9_appendText 42 = .ok (.iand, 1) := by decide +kernel
theorem dX9_appendText_43 : decode cX9_appendText 43 = .ok (.invokevirtual 68, 3) := by decide +kernel
theorem dX9_appendText_46 : decode cX9_appendText 46 = .ok (.iinc 2 (-8), 3) := by decide +kernel
theorem dX9_appendText_49 : decode cX9_appendText 49 = .ok (.goto (-21), 3) := by decide +kernel
theorem dX9_appendText_52 : decode cX9_appendText 52 = .ok (.aload_n 0, 1) := by decide +kernel
theorem dX9_appendText_53 : decode cX9_appendText 53 = .ok (.getfield 37, 3) := by decide +kernel
theorem dX9_appendText_56 : decode cX9_appendText 56 = .ok (.getfield 58, 3) := by decide +kernel
theorem dX9_appendText_59 : decode cX9_appendText 59 = .ok (.ireturn, 1) := by decide +kernel
theorem dX9_truncateText_0 : decode cX9_truncateText 0 = .ok (.iload_n 1, 1) := by decide +kernel
theorem dX9_truncateText_1 : decode cX9_truncateText 1 = .ok (.ifCond .lt 14, 3) := by decide +kernel
theorem dX9_truncateText_4 : decode cX9_truncateText 4 = .ok (.iload_n 1, 1) := by decide +kernel
theorem dX9_truncateText_5 : decode cX9_truncateText 5 = .ok (.aload_n 0, 1) := by decide +kernel
theorem dX9_truncateText_6 : decode cX9_truncateText 6 = .ok (.getfield 37, 3) := by decide +kernel
theorem dX9_truncateText_9 : decode cX9_truncateText 9 = .ok (.getfield 58, 3) := by decide +kernel
theorem dX9_truncateText_12 : decode cX9_truncateText 12 = .ok (.if_icmp .le 13, 3) := by decide +kernel
theorem dX9_truncateText_15 : decode cX9_truncateText 15 = .ok (.new 72, 3) := by decide +kernel
theorem dX9_truncateText_18 : decode cX9_truncateText 18 = .ok (.dup, 1) := by decide +kernel
theorem dX9_truncateText_19 : decode cX9_truncateText 19 = .ok (.ldc 74, 2) := by decide +kernel
theorem dX9_truncateText_21 : decode cX9_truncateText 21 = .ok (.invokespecial 75, 3) := by decide +kernel
theorem dX9_truncateText_24 : decode cX9_truncateText 24 = .ok (.athrow, 1) := by decide +kernel
theorem dX9_truncateText_25 : decode cX9_truncateText 25 = .ok (.aload_n 0, 1) := by decide +kernel
theorem dX9_truncateText_26 : decode cX9_truncateText 26 = .ok (.getfield 37, 3) := by decide +kernel
theorem dX9_truncateText_29 : decode cX9_truncateText 29 = .ok (.iload_n 1, 1) := by decide +kernel
theorem dX9_truncateText_30 : decode cX9_truncateText 30 = .ok (.putfield 58, 3) := by decide +kernel
theorem dX9_truncateText_33 : decode cX9_truncateText 33 = .ok (.iload_n 1, 1) := by decide +kernel
theorem dX9_truncateText_34 : decode cX9_truncateText 34 = .ok (.ireturn, 1) := by decide +kernel
set_option maxRecDepth 20000 in
theorem ggX9_load_X6_readSetup : GoodIn wsX9_load wsX6_readSetup := goodIn_r _ [11, 12, 13, 14, 15, 16, 17, 18, 19, 20, 21, 22, 23, 24, 25, 26, 27, 28, 29, 30, 31, 32, 33, 34, 35, 36, 37, 10, 38, 39, 40, 41, 42, 43, 44, 45, 46, 47, 48, 49, 50, 51, 52, 53, 54, 55, 56, 57, 58, 59, 60, 61, 62, 63, 64, 65, 66, 67, 68, 69, 70, 71, 72, 73, 74, 75, 76, 77, 78, 79, 80, 81, 82, 83, 84, 85, 86, 87, 88, 89, 90, 91, 92, 93, 94, 95, 96, 97, 98, 99, 100, 101, 102, 103, 104, 105, 106, 107, 108, 109, 110, 111, 112, 113, 114, 115, 116, 117, 118, 119, 120, 121, 122, 123, 124, 125, 126, 127, 128, 129, 130, 131, 132, 133, 134, 135, 136, 137, 138, 139, 140, 141, 142, 143, 144, 145, 146, 147, 148, 149, 150, 151, 152, 153, 154, 155, 156, 157, 158, 159, 160, 161, 162, 163, 164, 165, 166, 167, 168, 169, 170, 171, 172, 173, 174, 175, 176, 177, 178, 179, 180, 181, 182, 183, 184, 185, 186, 187, 188, 189, 190, 191, 192, 193, 194, 220, 221, 222, 223, 224, 225, 226, 227, 228, 229, 230, 231, 232, 233, 234, 235, 236, 237, 238, 239, 240, 241, 242, 243, 244, 245, 246, 247] (by decide +kernel) (by decide +kernel)
set_option maxRecDepth 20000 in
theorem gX9_load_X6_readSetup : GoodIn wsX9_load (wsV RX9 76 RX6 yX6_readSetup wsX6_readSetup) := goodIn_app (goodIn_of _ (by decide +kernel)) ggX9_load_X6_readSetup
set_option maxRecDepth 20000 in
theorem ggX9_load_X8_copyFrom : GoodIn wsX9_load wsX8_copyFrom := goodIn_r _ [198, 21, 199, 200, 201, 202, 29, 34, 165, 160, 203, 22, 23, 24, 204, 186, 191, 192, 231, 232, 233, 234, 235, 236, 237, 238, 239, 240, 241, 242, 243] (by decide +kernel) (by decide +kernel)
set_option maxRecDepth 20000 in
theorem gX9_load_X8_copyFrom : GoodIn wsX9_load (wsV RX9 80 RX8 yX8_copyFrom wsX8_copyFrom) := goodIn_app (goodIn_of _ (by decide +kernel)) ggX9_load_X8_copyFrom
set_option maxRecDepth 20000 in
theorem ggX9_load_X4_forget : GoodIn wsX9_load wsX4_forget := goodIn_r _ [209, 210, 248, 249, 250] (by decide +kernel) (by decide +kernel)
set_option maxRecDepth 20000 in
theorem gX9_load_X4_forget : GoodIn wsX9_load (wsV RX9 84 RX4 yX4_forget wsX4_forget) := goodIn_app (goodIn_of _ (by decide +kernel)) ggX9_load_X4_forget
theorem dX9_load_0 : decode cX9_load 0 = .ok (.aload_n 0, 1) := by decide +kernel
theorem dX9_load_1 : decode cX9_load 1 = .ok (.getfield 37, 3) := by decide +kernel
theorem dX9_load_4 : decode cX9_load 4 = .ok (.aload_n 0, 1) := by decide +kernel
theorem dX9_load_5 : decode cX9_load 5 = .ok (.getfield 16, 3) := by decide +kernel
theorem dX9_load_8 : decode cX9_load 8 = .ok (.invokevirtual 76, 3) := by decide +kernel
theorem dX9_load_11 : decode cX9_load 11 = .ok (.istore_n 1, 1) := by decide +kernel
theorem dX9_load_12 : decode cX9_load 12 = .ok (.aload_n 0, 1) := by decide +kernel
theorem dX9_load_13 : decode cX9_load 13 = .ok (.getfield 37, 3) := by decide +kernel
theorem dX9_load_16 : decode cX9_load 16 = .ok (.iconst 0, 1) := by decide +kernel
theorem dX9_load_17 : decode cX9_load 17 = .ok (.putfield 58, 3) := by decide +kernel
theorem dX9_load_20 : decode cX9_load 20 = .ok (.iload_n 1, 1) := by decide +kernel
theorem dX9_load_21 : decode cX9_load 21 = .ok (.ifCond .ne 5, 3) := by decide +kernel
theorem dX9_load_24 : decode cX9_load 24 = .ok (.iconst (-1), 1) := by decide +kernel
theorem dX9_load_25 : decode cX9_load 25 = .ok (.ireturn, 1) := by decide +kernel
theorem dX9_load_26 : decode cX9_load 26 = .ok (.aload_n 0, 1) := by decide +kernel
theorem dX9_load_27 : decode cX9_load 27 = .ok (.getfield 10, 3) := by decide +kernel
theorem dX9_load_30 : decode cX9_load 30 = .ok (.aload_n 0, 1) := by decide +kernel
theorem dX9_load_31 : decode cX9_load 31 = .ok (.getfield 16, 3) := by decide +kernel
theorem dX9_load_34 : decode cX9_load 34 = .ok (.invokevirtual 80, 3) := by decide +kernel
theorem dX9_load_37 : decode cX9_load 37 = .ok (.aload_n 0, 1) := by decide +kernel
theorem dX9_load_38 : decode cX9_load 38 = .ok (.getfield 22, 3) := by decide +kernel
theorem dX9_load_41 : decode cX9_load 41 = .ok (.invokevirtual 84, 3) := by decide +kernel
theorem dX9_load_44 : decode cX9_load 44 = .ok (.aload_n 0, 1) := by decide +kernel
theorem dX9_load_45 : decode cX9_load 45 = .ok (.getfield 10, 3) := by decide +kernel
theorem dX9_load_48 : decode cX9_load 48 = .ok (.getfield 87, 3) := by decide +kernel
theorem dX9_load_51 : decode cX9_load 51 = .ok (.iconst 1, 1) := by decide +kernel
theorem dX9_load_52 : decode cX9_load 52 = .ok (.iaload, 1) := by decide +kernel
theorem dX9_load_53 : decode cX9_load 53 = .ok (.ireturn, 1) := by decide +kernel
theorem dX9_count_0 : decode cX9_count 0 = .ok (.iload_n 1, 1) := by decide +kernel
theorem dX9_count_1 : decode cX9_count 1 = .ok (.bipush 17, 2) := by decide +kernel
theorem dX9_count_3 : decode cX9_count 3 = .ok (.if_icmp .ne 11, 3) := by decide +kernel
theorem dX9_count_6 : decode cX9_count 6 = .ok (.aload_n 0, 1) := by decide +kernel
theorem dX9_count_7 : decode cX9_count 7 = .ok (.getfield 22, 3) := by decide +kernel
theorem dX9_count_10 : decode cX9_count 10 = .ok (.getfield 109, 3) := by decide +kernel
theorem dX9_count_13 : decode cX9_count 13 = .ok (.ireturn, 1) := by decide +kernel
theorem dX9_count_14 : decode cX9_count 14 = .ok (.iload_n 1, 1) := by decide +kernel
theorem dX9_count_15 : decode cX9_count 15 = .ok (.ifCond .lt 9, 3) := by decide +kernel
theorem dX9_count_18 : decode cX9_count 18 = .ok (.iload_n 1, 1) := by decide +kernel
theorem dX9_count_19 : decode cX9_count 19 = .ok (.bipush 17, 2) := by decide +kernel
theorem dX9_count_21 : decode cX9_count 21 = .ok (.if_icmp .le 13, 3) := by decide +kernel
theorem dX9_count_24 : decode cX9_count 24 = .ok (.new 72, 3) := by decide +kernel
theorem dX9_count_27 : decode cX9_count 27 = .ok (.dup, 1) := by decide +kernel
theorem dX9_count_28 : decode cX9_count 28 = .ok (.ldc 112, 2) := by decide +kernel
theorem dX9_count_30 : decode cX9_count 30 = .ok (.invokespecial 75, 3) := by decide +kernel
theorem dX9_count_33 : decode cX9_count 33 = .ok (.athrow, 1) := by decide +kernel
theorem dX9_count_34 : decode cX9_count 34 = .ok (.aload_n 0, 1) := by decide +kernel
theorem dX9_count_35 : decode cX9_count 35 = .ok (.getfield 10, 3) := by decide +kernel
theorem dX9_count_38 : decode cX9_count 38 = .ok (.getfield 87, 3) := by decide +kernel
theorem dX9_count_41 : decode cX9_count 41 = .ok (.iload_n 1, 1) := by decide +kernel
theorem dX9_count_42 : decode cX9_count 42 = .ok (.iaload, 1) := by decide +kernel
theorem dX9_count_43 : decode cX9_count 43 = .ok (.ireturn, 1) := by decide +kernel
theorem dX9_setting_0 : decode cX9_setting 0 = .ok (.iload_n 1, 1) := by decide +kernel
theorem dX9_setting_1 : decode cX9_setting 1 = .ok (.ifCond .lt 9, 3) := by decide +kernel
theorem dX9_setting_4 : decode cX9_setting 4 = .ok (.iload_n 1, 1) := by decide +kernel
theorem dX9_setting_5 : decode cX9_setting 5 = .ok (.bipush 14, 2) := by decide +kernel
theorem dX9_setting_7 : decode cX9_setting 7 = .ok (.if_icmp .lt 13, 3) := by decide +kernel
theorem dX9_setting_10 : decode cX9_setting 10 = .ok (.new 72, 3) := by decide +kernel
theorem dX9_setting_13 : decode cX9_setting 13 = .ok (.dup, 1) := by decide +kernel
theorem dX9_setting_14 : decode cX9_setting 14 = .ok (.ldc 112, 2) := by decide +kernel
theorem dX9_setting_16 : decode cX9_setting 16 = .ok (.invokespecial 75, 3) := by decide +kernel
theorem dX9_setting_19 : decode cX9_setting 19 = .ok (.athrow, 1) := by decide +kernel
theorem dX9_setting_20 : decode cX9_setting 20 = .ok (.aload_n 0, 1) := by decide +kernel
theorem dX9_setting_21 : decode cX9_setting 21 = .ok (.getfield 10, 3) := by decide +kernel
theorem dX9_setting_24 : decode cX9_setting 24 = .ok (.getfield 116, 3) := by decide +kernel
theorem dX9_setting_27 : decode cX9_setting 27 = .ok (.iload_n 1, 1) := by decide +kernel
theorem dX9_setting_28 : decode cX9_setting 28 = .ok (.iaload, 1) := by decide +kernel
theorem dX9_setting_29 : decode cX9_setting 29 = .ok (.ireturn, 1) := by decide +kernel
set_option maxRecDepth 20000 in
theorem ggX9_kind_X8_kindFact : GoodIn wsX9_kind wsX8_kindFact := goodIn_r _ [10, 11, 21, 22, 23, 24, 25, 26, 27, 28, 29, 30, 31, 32, 33] (by decide +kernel) (by decide +kernel)
set_option maxRecDepth 20000 in
theorem gX9_kind_X8_kindFact : GoodIn wsX9_kind (wsV RX9 126 RX8 yX8_kindFact wsX8_kindFact) := goodIn_app (goodIn_of _ (by decide +kernel)) ggX9_kind_X8_kindFact
theorem dX9_kind_0 : decode cX9_kind 0 = .ok (.iload_n 1, 1) := by decide +kernel
theorem dX9_kind_1 : decode cX9_kind 1 = .ok (.ifCond .lt 8, 3) := by decide +kernel
theorem dX9_kind_4 : decode cX9_kind 4 = .ok (.iload_n 1, 1) := by decide +kernel
theorem dX9_kind_5 : decode cX9_kind 5 = .ok (.iconst 4, 1) := by decide +kernel
theorem dX9_kind_6 : decode cX9_kind 6 = .ok (.if_icmp .lt 13, 3) := by decide +kernel
theorem dX9_kind_9 : decode cX9_kind 9 = .ok (.new 119, 3) := by decide +kernel
theorem dX9_kind_12 : decode cX9_kind 12 = .ok (.dup, 1) := by decide +kernel
theorem dX9_kind_13 : decode cX9_kind 13 = .ok (.ldc 121, 2) := by decide +kernel
theorem dX9_kind_15 : decode cX9_kind 15 = .ok (.invokespecial 123, 3) := by decide +kernel
theorem dX9_kind_18 : decode cX9_kind 18 = .ok (.athrow, 1) := by decide +kernel
theorem dX9_kind_19 : decode cX9_kind 19 = .ok (.iload_n 2, 1) := by decide +kernel
theorem dX9_kind_20 : decode cX9_kind 20 = .ok (.ifCond .lt 8, 3) := by decide +kernel
theorem dX9_kind_23 : decode cX9_kind 23 = .ok (.iload_n 2, 1) := by decide +kernel
theorem dX9_kind_24 : decode cX9_kind 24 = .ok (.iconst 3, 1) := by decide +kernel
theorem dX9_kind_25 : decode cX9_kind 25 = .ok (.if_icmp .lt 13, 3) := by decide +kernel
theorem dX9_kind_28 : decode cX9_kind 28 = .ok (.new 72, 3) := by decide +kernel
theorem dX9_kind_31 : decode cX9_kind 31 = .ok (.dup, 1) := by decide +kernel
theorem dX9_kind_32 : decode cX9_kind 32 = .ok (.ldc 112, 2) := by decide +kernel
theorem dX9_kind_34 : decode cX9_kind 34 = .ok (.invokespecial 75, 3) := by decide +kernel
theorem dX9_kind_37 : decode cX9_kind 37 = .ok (.athrow, 1) := by decide +kernel
theorem dX9_kind_38 : decode cX9_kind 38 = .ok (.aload_n 0, 1) := by decide +kernel
theorem dX9_kind_39 : decode cX9_kind 39 = .ok (.getfield 10, 3) := by decide +kernel
theorem dX9_kind_42 : decode cX9_kind 42 = .ok (.iload_n 1, 1) := by decide +kernel
theorem dX9_kind_43 : decode cX9_kind 43 = .ok (.iload_n 2, 1) := by decide +kernel
theorem dX9_kind_44 : decode cX9_kind 44 = .ok (.invokevirtual 126, 3) := by decide +kernel
theorem dX9_kind_47 : decode cX9_kind 47 = .ok (.ireturn, 1) := by decide +kernel
set_option maxRecDepth 20000 in
theorem ggX9_car_X8_carFact : GoodIn wsX9_car wsX8_carFact := goodIn_r _ [11, 12, 22, 23, 24, 25, 26, 27, 28, 29, 30, 31, 32, 33, 34] (by decide +kernel) (by decide +kernel)
set_option maxRecDepth 20000 in
theorem gX9_car_X8_carFact : GoodIn wsX9_car (wsV RX9 134 RX8 yX8_carFact wsX8_carFact) := goodIn_app (goodIn_of _ (by decide +kernel)) ggX9_car_X8_carFact
theorem dX9_car_0 : decode cX9_car 0 = .ok (.iload_n 1, 1) := by decide +kernel
theorem dX9_car_1 : decode cX9_car 1 = .ok (.ifCond .lt 16, 3) := by decide +kernel
theorem dX9_car_4 : decode cX9_car 4 = .ok (.iload_n 1, 1) := by decide +kernel
theorem dX9_car_5 : decode cX9_car 5 = .ok (.aload_n 0, 1) := by decide +kernel
theorem dX9_car_6 : decode cX9_car 6 = .ok (.getfield 10, 3) := by decide +kernel
theorem dX9_car_9 : decode cX9_car 9 = .ok (.getfield 87, 3) := by decide +kernel
theorem dX9_car_12 : decode cX9_car 12 = .ok (.iconst 3, 1) := by decide +kernel
theorem dX9_car_13 : decode cX9_car 13 = .ok (.iaload, 1) := by decide +kernel
theorem dX9_car_14 : decode cX9_car 14 = .ok (.if_icmp .lt 13, 3) := by decide +kernel
theorem dX9_car_17 : decode cX9_car 17 = .ok (.new 119, 3) := by decide +kernel
theorem dX9_car_20 : decode cX9_car 20 = .ok (.dup, 1) := by decide +kernel
theorem dX9_car_21 : decode cX9_car 21 = .ok (.ldc 130, 2) := by decide +kernel
theorem dX9_car_23 : decode cX9_car 23 = .ok (.invokespecial 123, 3) := by decide +kernel
theorem dX9_car_26 : decode cX9_car 26 = .ok (.athrow, 1) := by decide +kernel
theorem dX9_car_27 : decode cX9_car 27 = .ok (.iload_n 2, 1) := by decide +kernel
theorem dX9_car_28 : decode cX9_car 28 = .ok (.ifCond .lt 9, 3) := by decide +kernel
theorem dX9_car_31 : decode cX9_car 31 = .ok (.iload_n 2, 1) := by decide +kernel
theorem dX9_car_32 : decode cX9_car 32 = .ok (.bipush 7, 2) := by decide +kernel
theorem dX9_car_34 : decode cX9_car 34 = .ok (.if_icmp .lt 13, 3) := by decide +kernel
theorem dX9_car_37 : decode cX9_car 37 = .ok (.new 72, 3) := by decide +kernel
theorem dX9_car_40 : decode cX9_car 40 = .ok (.dup, 1) := by decide +kernel
theorem dX9_car_41 : decode cX9_car 41 = .ok (.ldc 112, 2) := by decide +kernel
theorem dX9_car_43 : decode cX9_car 43 = .ok (.invokespecial 75, 3) := by decide +kernel
theorem dX9_car_46 : decode cX9_car 46 = .ok (.athrow, 1) := by decide +kernel
theorem dX9_car_47 : decode cX9_car 47 = .ok (.aload_n 0, 1) := by decide +kernel
theorem dX9_car_48 : decode cX9_car 48 = .ok (.getfield 10, 3) := by decide +kernel
theorem dX9_car_51 : decode cX9_car 51 = .ok (.iload_n 1, 1) := by decide +kernel
theorem dX9_car_52 : decode cX9_car 52 = .ok (.iload_n 2, 1) := by decide +kernel
theorem dX9_car_53 : decode cX9_car 53 = .ok (.invokevirtual 134, 3) := by decide +kernel
theorem dX9_car_56 : decode cX9_car 56 = .ok (.ireturn, 1) := by decide +kernel
set_option maxRecDepth 20000 in
theorem ggX9_queued_X9_at : GoodIn wsX9_queued wsX9_at := goodIn_r _ [7] (by decide +kernel) (by decide +kernel)
set_option maxRecDepth 20000 in
theorem gX9_queued_X9_at : GoodIn wsX9_queued (va_wsS RX9 140 yX9_at wsX9_at) := goodIn_app (goodIn_of _ (by decide +kernel)) ggX9_queued_X9_at
theorem dX9_queued_0 : decode cX9_queued 0 = .ok (.iload_n 1, 1) := by decide +kernel
theorem dX9_queued_1 : decode cX9_queued 1 = .ok (.ifCond .lt 30, 3) := by decide +kernel
theorem dX9_queued_4 : decode cX9_queued 4 = .ok (.iload_n 1, 1) := by decide +kernel
theorem dX9_queued_5 : decode cX9_queued 5 = .ok (.aload_n 0, 1) := by decide +kernel
theorem dX9_queued_6 : decode cX9_queued 6 = .ok (.getfield 10, 3) := by decide +kernel
theorem dX9_queued_9 : decode cX9_queued 9 = .ok (.getfield 87, 3) := by decide +kernel
theorem dX9_queued_12 : decode cX9_queued 12 = .ok (.iconst 1, 1) := by decide +kernel
theorem dX9_queued_13 : decode cX9_queued 13 = .ok (.iaload, 1) := by decide +kernel
theorem dX9_queued_14 : decode cX9_queued 14 = .ok (.if_icmp .ge 17, 3) := by decide +kernel
theorem dX9_queued_17 : decode cX9_queued 17 = .ok (.aload_n 0, 1) := by decide +kernel
theorem dX9_queued_18 : decode cX9_queued 18 = .ok (.getfield 10, 3) := by decide +kernel
theorem dX9_queued_21 : decode cX9_queued 21 = .ok (.getfield 137, 3) := by decide +kernel
theorem dX9_queued_24 : decode cX9_queued 24 = .ok (.iload_n 1, 1) := by decide +kernel
theorem dX9_queued_25 : decode cX9_queued 25 = .ok (.invokestatic 140, 3) := by decide +kernel
theorem dX9_queued_28 : decode cX9_queued 28 = .ok (.goto 4, 3) := by decide +kernel
theorem dX9_queued_31 : decode cX9_queued 31 = .ok (.iconst (-1), 1) := by decide +kernel
theorem dX9_queued_32 : decode cX9_queued 32 = .ok (.ireturn, 1) := by decide +kernel
set_option maxRecDepth 20000 in
theorem ggX9_standing_X8_carOnDeck : GoodIn wsX9_standing wsX8_carOnDeck := goodIn_r _ [8, 9, 10, 11, 12, 13, 23, 24, 25, 26, 27, 28, 29, 30, 31, 32, 33, 34, 35] (by decide +kernel) (by decide +kernel)
set_option maxRecDepth 20000 in
theorem gX9_standing_X8_carOnDeck : GoodIn wsX9_standing (wsV RX9 146 RX8 yX8_carOnDeck wsX8_carOnDeck) := goodIn_app (goodIn_of _ (by decide +kernel)) ggX9_standing_X8_carOnDeck
theorem dX9_standing_0 : decode cX9_standing 0 = .ok (.iload_n 1, 1) := by decide +kernel
theorem dX9_standing_1 : decode cX9_standing 1 = .ok (.ifCond .lt 8, 3) := by decide +kernel
theorem dX9_standing_4 : decode cX9_standing 4 = .ok (.iload_n 1, 1) := by decide +kernel
theorem dX9_standing_5 : decode cX9_standing 5 = .ok (.iconst 3, 1) := by decide +kernel
theorem dX9_standing_6 : decode cX9_standing 6 = .ok (.if_icmp .lt 13, 3) := by decide +kernel
theorem dX9_standing_9 : decode cX9_standing 9 = .ok (.new 119, 3) := by decide +kernel
theorem dX9_standing_12 : decode cX9_standing 12 = .ok (.dup, 1) := by decide +kernel
theorem dX9_standing_13 : decode cX9_standing 13 = .ok (.ldc 144, 2) := by decide +kernel
theorem dX9_standing_15 : decode cX9_standing 15 = .ok (.invokespecial 123, 3) := by decide +kernel
theorem dX9_standing_18 : decode cX9_standing 18 = .ok (.athrow, 1) := by decide +kernel
theorem dX9_standing_19 : decode cX9_standing 19 = .ok (.aload_n 0, 1) := by decide +kernel
theorem dX9_standing_20 : decode cX9_standing 20 = .ok (.getfield 10, 3) := by decide +kernel
theorem dX9_standing_23 : decode cX9_standing 23 = .ok (.iload_n 1, 1) := by decide +kernel
theorem dX9_standing_24 : decode cX9_standing 24 = .ok (.iload_n 2, 1) := by decide +kernel
theorem dX9_standing_25 : decode cX9_standing 25 = .ok (.invokevirtual 146, 3) := by decide +kernel
theorem dX9_standing_28 : decode cX9_standing 28 = .ok (.ireturn, 1) := by decide +kernel
theorem dX9_lane_0 : decode cX9_lane 0 = .ok (.iload_n 1, 1) := by decide +kernel
theorem dX9_lane_1 : decode cX9_lane 1 = .ok (.ifCond .lt 8, 3) := by decide +kernel
theorem dX9_lane_4 : decode cX9_lane 4 = .ok (.iload_n 1, 1) := by decide +kernel
theorem dX9_lane_5 : decode cX9_lane 5 = .ok (.iconst 3, 1) := by decide +kernel
theorem dX9_lane_6 : decode cX9_lane 6 = .ok (.if_icmp .lt 13, 3) := by decide +kernel
theorem dX9_lane_9 : decode cX9_lane 9 = .ok (.new 119, 3) := by decide +kernel
theorem dX9_lane_12 : decode cX9_lane 12 = .ok (.dup, 1) := by decide +kernel
theorem dX9_lane_13 : decode cX9_lane 13 = .ok (.ldc 144, 2) := by decide +kernel
theorem dX9_lane_15 : decode cX9_lane 15 = .ok (.invokespecial 123, 3) := by decide +kernel
theorem dX9_lane_18 : decode cX9_lane 18 = .ok (.athrow, 1) := by decide +kernel
theorem dX9_lane_19 : decode cX9_lane 19 = .ok (.iload_n 2, 1) := by decide +kernel
theorem dX9_lane_20 : decode cX9_lane 20 = .ok (.ifCond .eq 26, 3) := by decide +kernel
theorem dX9_lane_23 : decode cX9_lane 23 = .ok (.aload_n 0, 1) := by decide +kernel
theorem dX9_lane_24 : decode cX9_lane 24 = .ok (.getfield 10, 3) := by decide +kernel
theorem dX9_lane_27 : decode cX9_lane 27 = .ok (.getfield 116, 3) := by decide +kernel
theorem dX9_lane_30 : decode cX9_lane 30 = .ok (.bipush 6, 2) := by decide +kernel
theorem dX9_lane_32 : decode cX9_lane 32 = .ok (.iaload, 1) := by decide +kernel
theorem dX9_lane_33 : decode cX9_lane 33 = .ok (.aload_n 0, 1) := by decide +kernel
theorem dX9_lane_34 : decode cX9_lane 34 = .ok (.getfield 10, 3) := by decide +kernel
theorem dX9_lane_37 : decode cX9_lane 37 = .ok (.getfield 149, 3) := by decide +kernel
theorem dX9_lane_40 : decode cX9_lane 40 = .ok (.iload_n 1, 1) := by decide +kernel
theorem dX9_lane_41 : decode cX9_lane 41 = .ok (.iaload, 1) := by decide +kernel
theorem dX9_lane_42 : decode cX9_lane 42 = .ok (.isub, 1) := by decide +kernel
theorem dX9_lane_43 : decode cX9_lane 43 = .ok (.goto 12, 3) := by decide +kernel
theorem dX9_lane_46 : decode cX9_lane 46 = .ok (.aload_n 0, 1) := by decide +kernel
theorem dX9_lane_47 : decode cX9_lane 47 = .ok (.getfield 10, 3) := by decide +kernel
theorem dX9_lane_50 : decode cX9_lane 50 = .ok (.getfield 152, 3) := by decide +kernel
theorem dX9_lane_53 : decode cX9_lane 53 = .ok (.iload_n 1, 1) := by decide +kernel
theorem dX9_lane_54 : decode cX9_lane 54 = .ok (.iaload, 1) := by decide +kernel
theorem dX9_lane_55 : decode cX9_lane 55 = .ok (.ireturn, 1) := by decide +kernel
set_option maxRecDepth 20000 in
theorem ggX9_call_X9_at : GoodIn wsX9_call wsX9_at := goodIn_r _ [11] (by decide +kernel) (by decide +kernel)
set_option maxRecDepth 20000 in
theorem gX9_call_X9_at : GoodIn wsX9_call (va_wsS RX9 140 yX9_at wsX9_at) := goodIn_app (goodIn_of _ (by decide +kernel)) ggX9_call_X9_at
theorem dX9_call_0 : decode cX9_call 0 = .ok (.aload_n 0, 1) := by decide +kernel
theorem dX9_call_1 : decode cX9_call 1 = .ok (.getfield 10, 3) := by decide +kernel
theorem dX9_call_4 : decode cX9_call 4 = .ok (.getfield 87, 3) := by decide +kernel
theorem dX9_call_7 : decode cX9_call 7 = .ok (.bipush 12, 2) := by decide +kernel
theorem dX9_call_9 : decode cX9_call 9 = .ok (.iaload, 1) := by decide +kernel
theorem dX9_call_10 : decode cX9_call 10 = .ok (.istore_n 3, 1) := by decide +kernel
theorem dX9_call_11 : decode cX9_call 11 = .ok (.iload_n 1, 1) := by decide +kernel
theorem dX9_call_12 : decode cX9_call 12 = .ok (.ifCond .lt 14, 3) := by decide +kernel
theorem dX9_call_15 : decode cX9_call 15 = .ok (.iload_n 1, 1) := by decide +kernel
theorem dX9_call_16 : decode cX9_call 16 = .ok (.iload_n 3, 1) := by decide +kernel
theorem dX9_call_17 : decode cX9_call 17 = .ok (.if_icmp .ge 9, 3) := by decide +kernel
theorem dX9_call_20 : decode cX9_call 20 = .ok (.iload_n 1, 1) := by decide +kernel
theorem dX9_call_21 : decode cX9_call 21 = .ok (.bipush 20, 2) := by decide +kernel
theorem dX9_call_23 : decode cX9_call 23 = .ok (.if_icmp .lt 13, 3) := by decide +kernel
theorem dX9_call_26 : decode cX9_call 26 = .ok (.new 119, 3) := by decide +kernel
theorem dX9_call_29 : decode cX9_call 29 = .ok (.dup, 1) := by decide +kernel
theorem dX9_call_30 : decode cX9_call 30 = .ok (.ldc 155, 2) := by decide +kernel
theorem dX9_call_32 : decode cX9_call 32 = .ok (.invokespecial 123, 3) := by decide +kernel
theorem dX9_call_35 : decode cX9_call 35 = .ok (.athrow, 1) := by decide +kernel
theorem dX9_call_36 : decode cX9_call 36 = .ok (.iload_n 2, 1) := by decide +kernel
theorem dX9_call_37 : decode cX9_call 37 = .ok (.ifCond .lt 8, 3) := by decide +kernel
theorem dX9_call_40 : decode cX9_call 40 = .ok (.iload_n 2, 1) := by decide +kernel
theorem dX9_call_41 : decode cX9_call 41 = .ok (.iconst 4, 1) := by decide +kernel
theorem dX9_call_42 : decode cX9_call 42 = .ok (.if_icmp .lt 13, 3) := by decide +kernel
theorem dX9_call_45 : decode cX9_call 45 = .ok (.new 72, 3) := by decide +kernel
theorem dX9_call_48 : decode cX9_call 48 = .ok (.dup, 1) := by decide +kernel
theorem dX9_call_49 : decode cX9_call 49 = .ok (.ldc 112, 2) := by decide +kernel
theorem dX9_call_51 : decode cX9_call 51 = .ok (.invokespecial 75, 3) := by decide +kernel
theorem dX9_call_54 : decode cX9_call 54 = .ok (.athrow, 1) := by decide +kernel
theorem dX9_call_55 : decode cX9_call 55 = .ok (.aload_n 0, 1) := by decide +kernel
theorem dX9_call_56 : decode cX9_call 56 = .ok (.getfield 10, 3) := by decide +kernel
theorem dX9_call_59 : decode cX9_call 59 = .ok (.getfield 159, 3) := by decide +kernel
theorem dX9_call_62 : decode cX9_call 62 = .ok (.iload_n 3, 1) := by decide +kernel
theorem dX9_call_63 : decode cX9_call 63 = .ok (.iconst 1, 1) := by decide +kernel
theorem dX9_call_64 : decode cX9_call 64 = .ok (.isub, 1) := by decide +kernel
theorem dX9_call_65 : decode cX9_call 65 = .ok (.iload_n 1, 1) := by decide +kernel
theorem dX9_call_66 : decode cX9_call 66 = .ok (.isub, 1) := by decide +kernel
theorem dX9_call_67 : decode cX9_call 67 = .ok (.bipush 20, 2) := by decide +kernel
theorem dX9_call_69 : decode cX9_call 69 = .ok (.irem, 1) := by decide +kernel
theorem dX9_call_70 : decode cX9_call 70 = .ok (.iconst 4, 1) := by decide +kernel
theorem dX9_call_71 : decode cX9_call 71 = .ok (.imul, 1) := by decide +kernel
theorem dX9_call_72 : decode cX9_call 72 = .ok (.iload_n 2, 1) := by decide +kernel
theorem dX9_call_73 : decode cX9_call 73 = .ok (.iadd, 1) := by decide +kernel
theorem dX9_call_74 : decode cX9_call 74 = .ok (.invokestatic 140, 3) := by decide +kernel
theorem dX9_call_77 : decode cX9_call 77 = .ok (.ireturn, 1) := by decide +kernel
set_option maxRecDepth 20000 in
theorem ggX9_tide_X8_tideAt : GoodIn wsX9_tide wsX8_tideAt := goodIn_r _ [8, 9, 19, 20, 21, 22, 23, 24, 25, 26, 27, 28, 29, 30, 31] (by decide +kernel) (by decide +kernel)
set_option maxRecDepth 20000 in
theorem gX9_tide_X8_tideAt : GoodIn wsX9_tide (wsV RX9 164 RX8 yX8_tideAt wsX8_tideAt) := goodIn_app (goodIn_of _ (by decide +kernel)) ggX9_tide_X8_tideAt
theorem dX9_tide_0 : decode cX9_tide 0 = .ok (.iload_n 1, 1) := by decide +kernel
theorem dX9_tide_1 : decode cX9_tide 1 = .ok (.ifCond .ge 13, 3) := by decide +kernel
theorem dX9_tide_4 : decode cX9_tide 4 = .ok (.new 72, 3) := by decide +kernel
theorem dX9_tide_7 : decode cX9_tide 7 = .ok (.dup, 1) := by decide +kernel
theorem dX9_tide_8 : decode cX9_tide 8 = .ok (.ldc 162, 2) := by decide +kernel
theorem dX9_tide_10 : decode cX9_tide 10 = .ok (.invokespecial 75, 3) := by decide +kernel
theorem dX9_tide_13 : decode cX9_tide 13 = .ok (.athrow, 1) := by decide +kernel
theorem dX9_tide_14 : decode cX9_tide 14 = .ok (.aload_n 0, 1) := by decide +kernel
theorem dX9_tide_15 : decode cX9_tide 15 = .ok (.getfield 10, 3) := by decide +kernel
theorem dX9_tide_18 : decode cX9_tide 18 = .ok (.iload_n 1, 1) := by decide +kernel
theorem dX9_tide_19 : decode cX9_tide 19 = .ok (.invokevirtual 164, 3) := by decide +kernel
theorem dX9_tide_22 : decode cX9_tide 22 = .ok (.ireturn, 1) := by decide +kernel
set_option maxRecDepth 20000 in
theorem ggX9_deck_X8_deckAt : GoodIn wsX9_deck wsX8_deckAt := goodIn_r _ [8, 9, 10, 11, 12, 13, 7, 14, 24, 25, 26, 27, 28, 29, 30, 31, 32, 33, 34, 35, 36] (by decide +kernel) (by decide +kernel)
set_option maxRecDepth 20000 in
theorem gX9_deck_X8_deckAt : GoodIn wsX9_deck (wsV RX9 167 RX8 yX8_deckAt wsX8_deckAt) := goodIn_app (goodIn_of _ (by decide +kernel)) ggX9_deck_X8_deckAt
theorem dX9_deck_0 : decode cX9_deck 0 = .ok (.iload_n 1, 1) := by decide +kernel
theorem dX9_deck_1 : decode cX9_deck 1 = .ok (.ifCond .ge 13, 3) := by decide +kernel
theorem dX9_deck_4 : decode cX9_deck 4 = .ok (.new 72, 3) := by decide +kernel
theorem dX9_deck_7 : decode cX9_deck 7 = .ok (.dup, 1) := by decide +kernel
theorem dX9_deck_8 : decode cX9_deck 8 = .ok (.ldc 162, 2) := by decide +kernel
theorem dX9_deck_10 : decode cX9_deck 10 = .ok (.invokespecial 75, 3) := by decide +kernel
theorem dX9_deck_13 : decode cX9_deck 13 = .ok (.athrow, 1) := by decide +kernel
theorem dX9_deck_14 : decode cX9_deck 14 = .ok (.aload_n 0, 1) := by decide +kernel
theorem dX9_deck_15 : decode cX9_deck 15 = .ok (.getfield 10, 3) := by decide +kernel
theorem dX9_deck_18 : decode cX9_deck 18 = .ok (.iload_n 1, 1) := by decide +kernel
theorem dX9_deck_19 : decode cX9_deck 19 = .ok (.invokevirtual 167, 3) := by decide +kernel
theorem dX9_deck_22 : decode cX9_deck 22 = .ok (.ireturn, 1) := by decide +kernel
theorem dX9_slope_0 : decode cX9_slope 0 = .ok (.aload_n 0, 1) := by decide +kernel
theorem dX9_slope_1 : decode cX9_slope 1 = .ok (.getfield 10, 3) := by decide +kernel
theorem dX9_slope_4 : decode cX9_slope 4 = .ok (.getfield 170, 3) := by decide +kernel
theorem dX9_slope_7 : decode cX9_slope 7 = .ok (.ireturn, 1) := by decide +kernel
theorem dX9_lip_0 : decode cX9_lip 0 = .ok (.aload_n 0, 1) := by decide +kernel
theorem dX9_lip_1 : decode cX9_lip 1 = .ok (.getfield 10, 3) := by decide +kernel
theorem dX9_lip_4 : decode cX9_lip 4 = .ok (.getfield 173, 3) := by decide +kernel
theorem dX9_lip_7 : decode cX9_lip 7 = .ok (.ireturn, 1) := by decide +kernel
theorem dX9_waterIn_0 : decode cX9_waterIn 0 = .ok (.aload_n 0, 1) := by decide +kernel
theorem dX9_waterIn_1 : decode cX9_waterIn 1 = .ok (.getfield 10, 3) := by decide +kernel
theorem dX9_waterIn_4 : decode cX9_waterIn 4 = .ok (.getfield 116, 3) := by decide +kernel
theorem dX9_waterIn_7 : decode cX9_waterIn 7 = .ok (.iconst 2, 1) := by decide +kernel
theorem dX9_waterIn_8 : decode cX9_waterIn 8 = .ok (.iaload, 1) := by decide +kernel
theorem dX9_waterIn_9 : decode cX9_waterIn 9 = .ok (.istore_n 2, 1) := by decide +kernel
theorem dX9_waterIn_10 : decode cX9_waterIn 10 = .ok (.iload_n 2, 1) := by decide +kernel
theorem dX9_waterIn_11 : decode cX9_waterIn 11 = .ok (.iconst 1, 1) := by decide +kernel
theorem dX9_waterIn_12 : decode cX9_waterIn 12 = .ok (.if_icmp .ge 5, 3) := by decide +kernel
theorem dX9_waterIn_15 : decode cX9_waterIn 15 = .ok (.iconst 0, 1) := by decide +kernel
theorem dX9_waterIn_16 : decode cX9_waterIn 16 = .ok (.ireturn, 1) := by decide +kernel
theorem dX9_waterIn_17 : decode cX9_waterIn 17 = .ok (.iconst 2, 1) := by decide +kernel
theorem dX9_waterIn_18 : decode cX9_waterIn 18 = .ok (.iload_n 2, 1) := by decide +kernel
theorem dX9_waterIn_19 : decode cX9_waterIn 19 = .ok (.imul, 1) := by decide +kernel
theorem dX9_waterIn_20 : decode cX9_waterIn 20 = .ok (.istore_n 3, 1) := by decide +kernel
theorem dX9_waterIn_21 : decode cX9_waterIn 21 = .ok (.iload_n 1, 1) := by decide +kernel
theorem dX9_waterIn_22 : decode cX9_waterIn 22 = .ok (.ifCond .eq 7, 3) := by decide +kernel
theorem dX9_waterIn_25 : decode cX9_waterIn 25 = .ok (.iload_n 2, 1) := by decide +kernel
theorem dX9_waterIn_26 : decode cX9_waterIn 26 = .ok (.goto 4, 3) := by decide +kernel
theorem dX9_waterIn_29 : decode cX9_waterIn 29 = .ok (.iconst 0, 1) := by decide +kernel
theorem dX9_waterIn_30 : decode cX9_waterIn 30 = .ok (.istore 4, 2) := by decide +kernel
theorem dX9_waterIn_32 : decode cX9_waterIn 32 = .ok (.iload 4, 2) := by decide +kernel
theorem dX9_waterIn_34 : decode cX9_waterIn 34 = .ok (.iload_n 3, 1) := by decide +kernel
theorem dX9_waterIn_35 : decode cX9_waterIn 35 = .ok (.iadd, 1) := by decide +kernel
theorem dX9_waterIn_36 : decode cX9_waterIn 36 = .ok (.aload_n 0, 1) := by decide +kernel
theorem dX9_waterIn_37 : decode cX9_waterIn 37 = .ok (.getfield 10, 3) := by decide +kernel
theorem dX9_waterIn_40 : decode cX9_waterIn 40 = .ok (.getfield 87, 3) := by decide +kernel
theorem dX9_waterIn_43 : decode cX9_waterIn 43 = .ok (.iconst 0, 1) := by decide +kernel
theorem dX9_waterIn_44 : decode cX9_waterIn 44 = .ok (.iaload, 1) := by decide +kernel
theorem dX9_waterIn_45 : decode cX9_waterIn 45 = .ok (.iload_n 3, 1) := by decide +kernel
theorem dX9_waterIn_46 : decode cX9_waterIn 46 = .ok (.irem, 1) := by decide +kernel
theorem dX9_waterIn_47 : decode cX9_waterIn 47 = .ok (.isub, 1) := by decide +kernel
theorem dX9_waterIn_48 : decode cX9_waterIn 48 = .ok (.iload_n 3, 1) := by decide +kernel
theorem dX9_waterIn_49 : decode cX9_waterIn 49 = .ok (.irem, 1) := by decide +kernel
theorem dX9_waterIn_50 : decode cX9_waterIn 50 = .ok (.ireturn, 1) := by decide +kernel
theorem dX9_list_0 : decode cX9_list 0 = .ok (.aload_n 0, 1) := by decide +kernel
theorem dX9_list_1 : decode cX9_list 1 = .ok (.getfield 10, 3) := by decide +kernel
theorem dX9_list_4 : decode cX9_list 4 = .ok (.getfield 152, 3) := by decide +kernel
theorem dX9_list_7 : decode cX9_list 7 = .ok (.iconst 0, 1) := by decide +kernel
theorem dX9_list_8 : decode cX9_list 8 = .ok (.iaload, 1) := by decide +kernel
theorem dX9_list_9 : decode cX9_list 9 = .ok (.aload_n 0, 1) := by decide +kernel
theorem dX9_list_10 : decode cX9_list 10 = .ok (.getfield 10, 3) := by decide +kernel
theorem dX9_list_13 : decode cX9_list 13 = .ok (.getfield 152, 3) := by decide +kernel
theorem dX9_list_16 : decode cX9_list 16 = .ok (.iconst 2, 1) := by decide +kernel
theorem dX9_list_17 : decode cX9_list 17 = .ok (.iaload, 1) := by decide +kernel
theorem dX9_list_18 : decode cX9_list 18 = .ok (.isub, 1) := by decide +kernel
theorem dX9_list_19 : decode cX9_list 19 = .ok (.ireturn, 1) := by decide +kernel
set_option maxRecDepth 20000 in
theorem ggX9_whyNot_X8_placeOf : GoodIn wsX9_whyNot wsX8_placeOf := goodIn_r _ [8, 9, 10, 47, 48, 49, 50, 51, 52, 53, 54, 55, 56, 57, 58, 59] (by decide +kernel) (by decide +kernel)
set_option maxRecDepth 20000 in
theorem gX9_whyNot_X8_placeOf : GoodIn wsX9_whyNot (wsV RX9 176 RX8 yX8_placeOf wsX8_placeOf) := goodIn_app (goodIn_of _ (by decide +kernel)) ggX9_whyNot_X8_placeOf
set_option maxRecDepth 20000 in
theorem ggX9_whyNot_X8_reasonFor : GoodIn wsX9_whyNot wsX8_reasonFor := goodIn_r _ [14, 9, 15, 16, 17, 18, 19, 20, 7, 21, 22, 23, 24, 25, 26, 27, 28, 29, 30, 31, 32, 33, 34, 35, 36, 37, 47, 48, 49, 50, 51, 52, 53, 54, 55, 56, 57, 58, 59] (by decide +kernel) (by decide +kernel)
set_option maxRecDepth 20000 in
theorem gX9_whyNot_X8_reasonFor : GoodIn wsX9_whyNot (wsV RX9 179 RX8 yX8_reasonFor wsX8_reasonFor) := goodIn_app (goodIn_of _ (by decide +kernel)) ggX9_whyNot_X8_reasonFor
theorem dX9_whyNot_0 : decode cX9_whyNot 0 = .ok (.aload_n 0, 1) := by decide +kernel
theorem dX9_whyNot_1 : decode cX9_whyNot 1 = .ok (.getfield 10, 3) := by decide +kernel
theorem dX9_whyNot_4 : decode cX9_whyNot 4 = .ok (.iload_n 1, 1) := by decide +kernel
theorem dX9_whyNot_5 : decode cX9_whyNot 5 = .ok (.invokevirtual 176, 3) := by decide +kernel
theorem dX9_whyNot_8 : decode cX9_whyNot 8 = .ok (.iconst (-1), 1) := by decide +kernel
theorem dX9_whyNot_9 : decode cX9_whyNot 9 = .ok (.if_icmp .ne 13, 3) := by decide +kernel
theorem dX9_whyNot_12 : decode cX9_whyNot 12 = .ok (.new 119, 3) := by decide +kernel
theorem dX9_whyNot_15 : decode cX9_whyNot 15 = .ok (.dup, 1) := by decide +kernel
theorem dX9_whyNot_16 : decode cX9_whyNot 16 = .ok (.ldc 130, 2) := by decide +kernel
theorem dX9_whyNot_18 : decode cX9_whyNot 18 = .ok (.invokespecial 123, 3) := by decide +kernel
theorem dX9_whyNot_21 : decode cX9_whyNot 21 = .ok (.athrow, 1) := by decide +kernel
theorem dX9_whyNot_22 : decode cX9_whyNot 22 = .ok (.aload_n 0, 1) := by decide +kernel
theorem dX9_whyNot_23 : decode cX9_whyNot 23 = .ok (.getfield 10, 3) := by decide +kernel
theorem dX9_whyNot_26 : decode cX9_whyNot 26 = .ok (.iload_n 1, 1) := by decide +kernel
theorem dX9_whyNot_27 : decode cX9_whyNot 27 = .ok (.invokevirtual 179, 3) := by decide +kernel
theorem dX9_whyNot_30 : decode cX9_whyNot 30 = .ok (.ireturn, 1) := by decide +kernel
set_option maxRecDepth 20000 in
theorem ggX9_startIn_X8_copyFrom : GoodIn wsX9_startIn wsX8_copyFrom := goodIn_r _ [8, 9, 10, 11, 12, 13, 14, 15, 16, 17, 18, 19, 20, 21, 22, 23, 24, 25, 124, 125, 126, 127, 128, 129, 130, 131, 132, 133, 134, 135, 136] (by decide +kernel) (by decide +kernel)
set_option maxRecDepth 20000 in
theorem gX9_startIn_X8_copyFrom : GoodIn wsX9_startIn (wsV RX9 80 RX8 yX8_copyFrom wsX8_copyFrom) := goodIn_app (goodIn_of _ (by decide +kernel)) ggX9_startIn_X8_copyFrom
set_option maxRecDepth 20000 in
theorem ggX9_startIn_X8_passTicks : GoodIn wsX9_startIn wsX8_passTicks := goodIn_r _ [29, 9, 30, 31, 32, 7, 33, 23, 34, 35, 36, 37, 14, 38, 39, 40, 41, 42, 43, 44, 45, 24, 25, 46, 47, 48, 49, 50, 51, 52, 53, 54, 55, 56, 57, 58, 59, 60, 61, 62, 63, 64, 65, 66, 67, 68, 16, 69, 70, 71, 72, 15, 73, 74, 75, 76, 19, 18, 77, 78, 79, 80, 81, 82, 83, 84, 17, 85, 86, 87, 88, 89, 90, 91, 92, 21, 93, 94, 95, 96, 20, 97, 98, 99, 100, 101, 102, 103, 104, 105, 106, 107, 108, 109, 110, 111, 112, 113, 114, 22, 124, 125, 126, 127, 128, 129, 130, 131, 132, 133, 134, 135, 136] (by decide +kernel) (by decide +kernel)
set_option maxRecDepth 20000 in
theorem gX9_startIn_X8_passTicks : GoodIn wsX9_startIn (wsV RX9 188 RX8 yX8_passTicks wsX8_passTicks) := goodIn_app (goodIn_of _ (by decide +kernel)) ggX9_startIn_X8_passTicks
theorem dX9_startIn_0 : decode cX9_startIn 0 = .ok (.aload_n 0, 1) := by decide +kernel
theorem dX9_startIn_1 : decode cX9_startIn 1 = .ok (.getfield 16, 3) := by decide +kernel
theorem dX9_startIn_4 : decode cX9_startIn 4 = .ok (.aload_n 0, 1) := by decide +kernel
theorem dX9_startIn_5 : decode cX9_startIn 5 = .ok (.getfield 10, 3) := by decide +kernel
theorem dX9_startIn_8 : decode cX9_startIn 8 = .ok (.invokevirtual 80, 3) := by decide +kernel
theorem dX9_startIn_11 : decode cX9_startIn 11 = .ok (.iconst 1, 1) := by decide +kernel
theorem dX9_startIn_12 : decode cX9_startIn 12 = .ok (.istore_n 1, 1) := by decide +kernel
theorem dX9_startIn_13 : decode cX9_startIn 13 = .ok (.iload_n 1, 1) := by decide +kernel
theorem dX9_startIn_14 : decode cX9_startIn 14 = .ok (.sipush 200, 3) := by decide +kernel
theorem dX9_startIn_17 : decode cX9_startIn 17 = .ok (.if_icmp .gt 52, 3) := by decide +kernel
theorem dX9_startIn_20 : decode cX9_startIn 20 = .ok (.aload_n 0, 1) := by decide +kernel
theorem dX9_startIn_21 : decode cX9_startIn 21 = .ok (.getfield 16, 3) := by decide +kernel
theorem dX9_startIn_24 : decode cX9_startIn 24 = .ok (.getfield 87, 3) := by decide +kernel
theorem dX9_startIn_27 : decode cX9_startIn 27 = .ok (.bipush 8, 2) := by decide +kernel
theorem dX9_startIn_29 : decode cX9_startIn 29 = .ok (.iaload, 1) := by decide +kernel
theorem dX9_startIn_30 : decode cX9_startIn 30 = .ok (.istore_n 2, 1) := by decide +kernel
theorem dX9_startIn_31 : decode cX9_startIn 31 = .ok (.aload_n 0, 1) := by decide +kernel
theorem dX9_startIn_32 : decode cX9_startIn 32 = .ok (.getfield 16, 3) := by decide +kernel
theorem dX9_startIn_35 : decode cX9_startIn 35 = .ok (.iconst 1, 1) := by decide +kernel
theorem dX9_startIn_36 : decode cX9_startIn 36 = .ok (.invokevirtual 188, 3) := by decide +kernel
theorem dX9_startIn_39 : decode cX9_startIn 39 = .ok (.pop, 1) := by decide +kernel
theorem dX9_startIn_40 : decode cX9_startIn 40 = .ok (.aload_n 0, 1) := by decide +kernel
theorem dX9_startIn_41 : decode cX9_startIn 41 = .ok (.getfield 16, 3) := by decide +kernel
theorem dX9_startIn_44 : decode cX9_startIn 44 = .ok (.getfield 87, 3) := by decide +kernel
theorem dX9_startIn_47 : decode cX9_startIn 47 = .ok (.bipush 8, 2) := by decide +kernel
theorem dX9_startIn_49 : decode cX9_startIn 49 = .ok (.iaload, 1) := by decide +kernel
theorem dX9_startIn_50 : decode cX9_startIn 50 = .ok (.istore_n 3, 1) := by decide +kernel
theorem dX9_startIn_51 : decode cX9_startIn 51 = .ok (.iload_n 3, 1) := by decide +kernel
theorem dX9_startIn_52 : decode cX9_startIn 52 = .ok (.iconst (-1), 1) := by decide +kernel
theorem dX9_startIn_53 : decode cX9_startIn 53 = .ok (.if_icmp .eq 10, 3) := by decide +kernel
theorem dX9_startIn_56 : decode cX9_startIn 56 = .ok (.iload_n 3, 1) := by decide +kernel
theorem dX9_startIn_57 : decode cX9_startIn 57 = .ok (.iload_n 2, 1) := by decide +kernel
theorem dX9_startIn_58 : decode cX9_startIn 58 = .ok (.if_icmp .eq 5, 3) := by decide +kernel
theorem dX9_startIn_61 : decode cX9_startIn 61 = .ok (.iload_n 1, 1) := by decide +kernel
theorem dX9_startIn_62 : decode cX9_startIn 62 = .ok (.ireturn, 1) := by decide +kernel
theorem dX9_startIn_63 : decode cX9_startIn 63 = .ok (.iinc 1 1, 3) := by decide +kernel
theorem dX9_startIn_66 : decode cX9_startIn 66 = .ok (.goto (-53), 3) := by decide +kernel
theorem dX9_startIn_69 : decode cX9_startIn 69 = .ok (.iconst (-1), 1) := by decide +kernel
theorem dX9_startIn_70 : decode cX9_startIn 70 = .ok (.ireturn, 1) := by decide +kernel
set_option maxRecDepth 20000 in
theorem ggX9_boardIn_X8_copyFrom : GoodIn wsX9_boardIn wsX8_copyFrom := goodIn_r _ [9, 10, 11, 12, 13, 14, 15, 16, 17, 18, 19, 20, 21, 22, 23, 24, 25, 26, 125, 126, 127, 128, 129, 130, 131, 132, 133, 134, 135, 136, 137] (by decide +kernel) (by decide +kernel)
set_option maxRecDepth 20000 in
theorem gX9_boardIn_X8_copyFrom : GoodIn wsX9_boardIn (wsV RX9 80 RX8 yX8_copyFrom wsX8_copyFrom) := goodIn_app (goodIn_of _ (by decide +kernel)) ggX9_boardIn_X8_copyFrom
set_option maxRecDepth 20000 in
theorem ggX9_boardIn_X8_passTicks : GoodIn wsX9_boardIn wsX8_passTicks := goodIn_r _ [30, 10, 31, 32, 33, 8, 34, 24, 35, 36, 37, 38, 15, 39, 40, 41, 42, 43, 44, 45, 46, 25, 26, 47, 48, 49, 50, 51, 52, 53, 54, 55, 56, 57, 58, 59, 60, 61, 62, 63, 64, 65, 66, 67, 68, 69, 17, 70, 71, 72, 73, 16, 74, 75, 76, 77, 20, 19, 78, 79, 80, 81, 82, 83, 84, 85, 18, 86, 87, 88, 89, 90, 91, 92, 93, 22, 94, 95, 96, 97, 21, 98, 99, 100, 101, 102, 103, 104, 105, 106, 107, 108, 109, 110, 111, 112, 113, 114, 115, 23, 125, 126, 127, 128, 129, 130, 131, 132, 133, 134, 135, 136, 137] (by decide +kernel) (by decide +kernel)
set_option maxRecDepth 20000 in
theorem gX9_boardIn_X8_passTicks : GoodIn wsX9_boardIn (wsV RX9 188 RX8 yX8_passTicks wsX8_passTicks) := goodIn_app (goodIn_of _ (by decide +kernel)) ggX9_boardIn_X8_passTicks
theorem dX9_boardIn_0 : decode cX9_boardIn 0 = .ok (.iload_n 1, 1) := by decide +kernel
theorem dX9_boardIn_1 : decode cX9_boardIn 1 = .ok (.iconst 1, 1) := by decide +kernel
theorem dX9_boardIn_2 : decode cX9_boardIn 2 = .ok (.if_icmp .lt 10, 3) := by decide +kernel
theorem dX9_boardIn_5 : decode cX9_boardIn 5 = .ok (.iload_n 1, 1) := by decide +kernel
theorem dX9_boardIn_6 : decode cX9_boardIn 6 = .ok (.sipush 200, 3) := by decide +kernel
theorem dX9_boardIn_9 : decode cX9_boardIn 9 = .ok (.if_icmp .le 13, 3) := by decide +kernel
theorem dX9_boardIn_12 : decode cX9_boardIn 12 = .ok (.new 72, 3) := by decide +kernel
theorem dX9_boardIn_15 : decode cX9_boardIn 15 = .ok (.dup, 1) := by decide +kernel
theorem dX9_boardIn_16 : decode cX9_boardIn 16 = .ok (.ldc 191, 2) := by decide +kernel
theorem dX9_boardIn_18 : decode cX9_boardIn 18 = .ok (.invokespecial 75, 3) := by decide +kernel
theorem dX9_boardIn_21 : decode cX9_boardIn 21 = .ok (.athrow, 1) := by decide +kernel
theorem dX9_boardIn_22 : decode cX9_boardIn 22 = .ok (.aload_n 0, 1) := by decide +kernel
theorem dX9_boardIn_23 : decode cX9_boardIn 23 = .ok (.getfield 16, 3) := by decide +kernel
theorem dX9_boardIn_26 : decode cX9_boardIn 26 = .ok (.aload_n 0, 1) := by decide +kernel
theorem dX9_boardIn_27 : decode cX9_boardIn 27 = .ok (.getfield 10, 3) := by decide +kernel
theorem dX9_boardIn_30 : decode cX9_boardIn 30 = .ok (.invokevirtual 80, 3) := by decide +kernel
theorem dX9_boardIn_33 : decode cX9_boardIn 33 = .ok (.aload_n 0, 1) := by decide +kernel
theorem dX9_boardIn_34 : decode cX9_boardIn 34 = .ok (.getfield 16, 3) := by decide +kernel
theorem dX9_boardIn_37 : decode cX9_boardIn 37 = .ok (.iload_n 1, 1) := by decide +kernel
theorem dX9_boardIn_38 : decode cX9_boardIn 38 = .ok (.invokevirtual 188, 3) := by decide +kernel
theorem dX9_boardIn_41 : decode cX9_boardIn 41 = .ok (.ireturn, 1) := by decide +kernel
set_option maxRecDepth 20000 in
theorem ggX9_wakesIn_X8_copyFrom : GoodIn wsX9_wakesIn wsX8_copyFrom := goodIn_r _ [8, 9, 10, 11, 12, 13, 14, 15, 16, 17, 18, 19, 20, 21, 22, 23, 24, 25, 124, 125, 126, 127, 128, 129, 130, 131, 132, 133, 134, 135, 136] (by decide +kernel) (by decide +kernel)
set_option maxRecDepth 20000 in
theorem gX9_wakesIn_X8_copyFrom : GoodIn wsX9_wakesIn (wsV RX9 80 RX8 yX8_copyFrom wsX8_copyFrom) := goodIn_app (goodIn_of _ (by decide +kernel)) ggX9_wakesIn_X8_copyFrom
set_option maxRecDepth 20000 in
theorem ggX9_wakesIn_X8_passTicks : GoodIn wsX9_wakesIn wsX8_passTicks := goodIn_r _ [29, 9, 30, 31, 32, 7, 33, 23, 34, 35, 36, 37, 14, 38, 39, 40, 41, 42, 43, 44, 45, 24, 25, 46, 47, 48, 49, 50, 51, 52, 53, 54, 55, 56, 57, 58, 59, 60, 61, 62, 63, 64, 65, 66, 67, 68, 16, 69, 70, 71, 72, 15, 73, 74, 75, 76, 19, 18, 77, 78, 79, 80, 81, 82, 83, 84, 17, 85, 86, 87, 88, 89, 90, 91, 92, 21, 93, 94, 95, 96, 20, 97, 98, 99, 100, 101, 102, 103, 104, 105, 106, 107, 108, 109, 110, 111, 112, 113, 114, 22, 124, 125, 126, 127, 128, 129, 130, 131, 132, 133, 134, 135, 136] (by decide +kernel) (by decide +kernel)
set_option maxRecDepth 20000 in
theorem gX9_wakesIn_X8_passTicks : GoodIn wsX9_wakesIn (wsV RX9 188 RX8 yX8_passTicks wsX8_passTicks) := goodIn_app (goodIn_of _ (by decide +kernel)) ggX9_wakesIn_X8_passTicks
theorem dX9_wakesIn_0 : decode cX9_wakesIn 0 = .ok (.aload_n 0, 1) := by decide +kernel
theorem dX9_wakesIn_1 : decode cX9_wakesIn 1 = .ok (.getfield 16, 3) := by decide +kernel
theorem dX9_wakesIn_4 : decode cX9_wakesIn 4 = .ok (.aload_n 0, 1) := by decide +kernel
theorem dX9_wakesIn_5 : decode cX9_wakesIn 5 = .ok (.getfield 10, 3) := by decide +kernel
theorem dX9_wakesIn_8 : decode cX9_wakesIn 8 = .ok (.invokevirtual 80, 3) := by decide +kernel
theorem dX9_wakesIn_11 : decode cX9_wakesIn 11 = .ok (.iconst 0, 1) := by decide +kernel
theorem dX9_wakesIn_12 : decode cX9_wakesIn 12 = .ok (.istore_n 1, 1) := by decide +kernel
theorem dX9_wakesIn_13 : decode cX9_wakesIn 13 = .ok (.iload_n 1, 1) := by decide +kernel
theorem dX9_wakesIn_14 : decode cX9_wakesIn 14 = .ok (.sipush 200, 3) := by decide +kernel
theorem dX9_wakesIn_17 : decode cX9_wakesIn 17 = .ok (.if_icmp .gt 32, 3) := by decide +kernel
theorem dX9_wakesIn_20 : decode cX9_wakesIn 20 = .ok (.aload_n 0, 1) := by decide +kernel
theorem dX9_wakesIn_21 : decode cX9_wakesIn 21 = .ok (.getfield 16, 3) := by decide +kernel
theorem dX9_wakesIn_24 : decode cX9_wakesIn 24 = .ok (.getfield 87, 3) := by decide +kernel
theorem dX9_wakesIn_27 : decode cX9_wakesIn 27 = .ok (.iconst 5, 1) := by decide +kernel
theorem dX9_wakesIn_28 : decode cX9_wakesIn 28 = .ok (.iaload, 1) := by decide +kernel
theorem dX9_wakesIn_29 : decode cX9_wakesIn 29 = .ok (.ifCond .eq 5, 3) := by decide +kernel
theorem dX9_wakesIn_32 : decode cX9_wakesIn 32 = .ok (.iload_n 1, 1) := by decide +kernel
theorem dX9_wakesIn_33 : decode cX9_wakesIn 33 = .ok (.ireturn, 1) := by decide +kernel
theorem dX9_wakesIn_34 : decode cX9_wakesIn 34 = .ok (.aload_n 0, 1) := by decide +kernel
theorem dX9_wakesIn_35 : decode cX9_wakesIn 35 = .ok (.getfield 16, 3) := by decide +kernel
theorem dX9_wakesIn_38 : decode cX9_wakesIn 38 = .ok (.iconst 1, 1) := by decide +kernel
theorem dX9_wakesIn_39 : decode cX9_wakesIn 39 = .ok (.invokevirtual 188, 3) := by decide +kernel
theorem dX9_wakesIn_42 : decode cX9_wakesIn 42 = .ok (.pop, 1) := by decide +kernel
theorem dX9_wakesIn_43 : decode cX9_wakesIn 43 = .ok (.iinc 1 1, 3) := by decide +kernel
theorem dX9_wakesIn_46 : decode cX9_wakesIn 46 = .ok (.goto (-33), 3) := by decide +kernel
theorem dX9_wakesIn_49 : decode cX9_wakesIn 49 = .ok (.iconst (-1), 1) := by decide +kernel
theorem dX9_wakesIn_50 : decode cX9_wakesIn 50 = .ok (.ireturn, 1) := by decide +kernel
set_option maxRecDepth 20000 in
theorem ggX9_easyIn_X8_copyFrom : GoodIn wsX9_easyIn wsX8_copyFrom := goodIn_r _ [11, 12, 13, 14, 15, 16, 17, 18, 19, 20, 21, 22, 23, 24, 25, 26, 27, 28, 128, 129, 130, 131, 132, 133, 134, 135, 136, 137, 138, 139, 140] (by decide +kernel) (by decide +kernel)
set_option maxRecDepth 20000 in
theorem gX9_easyIn_X8_copyFrom : GoodIn wsX9_easyIn (wsV RX9 80 RX8 yX8_copyFrom wsX8_copyFrom) := goodIn_app (goodIn_of _ (by decide +kernel)) ggX9_easyIn_X8_copyFrom
set_option maxRecDepth 20000 in
theorem ggX9_easyIn_X8_kindFact : GoodIn wsX9_easyIn wsX8_kindFact := goodIn_r _ [32, 18, 128, 129, 130, 131, 132, 133, 134, 135, 136, 137, 138, 139, 140] (by decide +kernel) (by decide +kernel)
set_option maxRecDepth 20000 in
theorem gX9_easyIn_X8_kindFact : GoodIn wsX9_easyIn (wsV RX9 126 RX8 yX8_kindFact wsX8_kindFact) := goodIn_app (goodIn_of _ (by decide +kernel)) ggX9_easyIn_X8_kindFact
set_option maxRecDepth 20000 in
theorem ggX9_easyIn_X8_passTicks : GoodIn wsX9_easyIn wsX8_passTicks := goodIn_r _ [36, 12, 37, 38, 39, 10, 40, 26, 41, 42, 43, 44, 17, 45, 46, 47, 48, 49, 50, 51, 52, 27, 28, 53, 54, 55, 56, 57, 58, 59, 60, 61, 62, 63, 64, 65, 66, 67, 68, 69, 70, 71, 72, 73, 74, 75, 19, 76, 30, 31, 32, 18, 77, 78, 79, 80, 22, 21, 81, 82, 83, 84, 85, 86, 87, 88, 20, 89, 90, 91, 92, 93, 94, 95, 96, 24, 97, 98, 99, 100, 23, 101, 102, 103, 104, 105, 106, 107, 108, 109, 110, 111, 112, 113, 114, 115, 116, 117, 118, 25, 128, 129, 130, 131, 132, 133, 134, 135, 136, 137, 138, 139, 140] (by decide +kernel) (by decide +kernel)
set_option maxRecDepth 20000 in
theorem gX9_easyIn_X8_passTicks : GoodIn wsX9_easyIn (wsV RX9 188 RX8 yX8_passTicks wsX8_passTicks) := goodIn_app (goodIn_of _ (by decide +kernel)) ggX9_easyIn_X8_passTicks
theorem dX9_easyIn_0 : decode cX9_easyIn 0 = .ok (.iload_n 1, 1) := by decide +kernel
theorem dX9_easyIn_1 : decode cX9_easyIn 1 = .ok (.ifCond .lt 8, 3) := by decide +kernel
theorem dX9_easyIn_4 : decode cX9_easyIn 4 = .ok (.iload_n 1, 1) := by decide +kernel
theorem dX9_easyIn_5 : decode cX9_easyIn 5 = .ok (.iconst 4, 1) := by decide +kernel
theorem dX9_easyIn_6 : decode cX9_easyIn 6 = .ok (.if_icmp .lt 13, 3) := by decide +kernel
theorem dX9_easyIn_9 : decode cX9_easyIn 9 = .ok (.new 119, 3) := by decide +kernel
theorem dX9_easyIn_12 : decode cX9_easyIn 12 = .ok (.dup, 1) := by decide +kernel
theorem dX9_easyIn_13 : decode cX9_easyIn 13 = .ok (.ldc 121, 2) := by decide +kernel
theorem dX9_easyIn_15 : decode cX9_easyIn 15 = .ok (.invokespecial 123, 3) := by decide +kernel
theorem dX9_easyIn_18 : decode cX9_easyIn 18 = .ok (.athrow, 1) := by decide +kernel
theorem dX9_easyIn_19 : decode cX9_easyIn 19 = .ok (.aload_n 0, 1) := by decide +kernel
theorem dX9_easyIn_20 : decode cX9_easyIn 20 = .ok (.getfield 16, 3) := by decide +kernel
theorem dX9_easyIn_23 : decode cX9_easyIn 23 = .ok (.aload_n 0, 1) := by decide +kernel
theorem dX9_easyIn_24 : decode cX9_easyIn 24 = .ok (.getfield 10, 3) := by decide +kernel
theorem dX9_easyIn_27 : decode cX9_easyIn 27 = .ok (.invokevirtual 80, 3) := by decide +kernel
theorem dX9_easyIn_30 : decode cX9_easyIn 30 = .ok (.iconst 0, 1) := by decide +kernel
theorem dX9_easyIn_31 : decode cX9_easyIn 31 = .ok (.istore_n 2, 1) := by decide +kernel
theorem dX9_easyIn_32 : decode cX9_easyIn 32 = .ok (.iload_n 2, 1) := by decide +kernel
theorem dX9_easyIn_33 : decode cX9_easyIn 33 = .ok (.sipush 200, 3) := by decide +kernel
theorem dX9_easyIn_36 : decode cX9_easyIn 36 = .ok (.if_icmp .gt 58, 3) := by decide +kernel
theorem dX9_easyIn_39 : decode cX9_easyIn 39 = .ok (.aload_n 0, 1) := by decide +kernel
theorem dX9_easyIn_40 : decode cX9_easyIn 40 = .ok (.getfield 16, 3) := by decide +kernel
theorem dX9_easyIn_43 : decode cX9_easyIn 43 = .ok (.getfield 170, 3) := by decide +kernel
theorem dX9_easyIn_46 : decode cX9_easyIn 46 = .ok (.aload_n 0, 1) := by decide +kernel
theorem dX9_easyIn_47 : decode cX9_easyIn 47 = .ok (.getfield 16, 3) := by decide +kernel
theorem dX9_easyIn_50 : decode cX9_easyIn 50 = .ok (.iload_n 1, 1) := by decide +kernel
theorem dX9_easyIn_51 : decode cX9_easyIn 51 = .ok (.iconst 0, 1) := by decide +kernel
theorem dX9_easyIn_52 : decode cX9_easyIn 52 = .ok (.invokevirtual 126, 3) := by decide +kernel
theorem dX9_easyIn_55 : decode cX9_easyIn 55 = .ok (.if_icmp .gt 24, 3) := by decide +kernel
theorem dX9_easyIn_58 : decode cX9_easyIn 58 = .ok (.aload_n 0, 1) := by decide +kernel
theorem dX9_easyIn_59 : decode cX9_easyIn 59 = .ok (.getfield 16, 3) := by decide +kernel
theorem dX9_easyIn_62 : decode cX9_easyIn 62 = .ok (.getfield 173, 3) := by decide +kernel
theorem dX9_easyIn_65 : decode cX9_easyIn 65 = .ok (.aload_n 0, 1) := by decide +kernel
theorem dX9_easyIn_66 : decode cX9_easyIn 66 = .ok (.getfield 16, 3) := by decide +kernel
theorem dX9_easyIn_69 : decode cX9_easyIn 69 = .ok (.iload_n 1, 1) := by decide +kernel
theorem dX9_easyIn_70 : decode cX9_easyIn 70 = .ok (.iconst 1, 1) := by decide +kernel
theorem dX9_easyIn_71 : decode cX9_easyIn 71 = .ok (.invokevirtual 126, 3) := by decide +kernel
theorem dX9_easyIn_74 : decode cX9_easyIn 74 = .ok (.if_icmp .gt 5, 3) := by decide +kernel
theorem dX9_easyIn_77 : decode cX9_easyIn 77 = .ok (.iload_n 2, 1) := by decide +kernel
theorem dX9_easyIn_78 : decode cX9_easyIn 78 = .ok (.ireturn, 1) := by decide +kernel
theorem dX9_easyIn_79 : decode cX9_easyIn 79 = .ok (.aload_n 0, 1) := by decide +kernel
theorem dX9_easyIn_80 : decode cX9_easyIn 80 = .ok (.getfield 16, 3) := by decide +kernel
theorem dX9_easyIn_83 : decode cX9_easyIn 83 = .ok (.iconst 1, 1) := by decide +kernel
theorem dX9_easyIn_84 : decode cX9_easyIn 84 = .ok (.invokevirtual 188, 3) := by decide +kernel
theorem dX9_easyIn_87 : decode cX9_easyIn 87 = .ok (.pop, 1) := by decide +kernel
theorem dX9_easyIn_88 : decode cX9_easyIn 88 = .ok (.iinc 2 1, 3) := by decide +kernel
theorem dX9_easyIn_91 : decode cX9_easyIn 91 = .ok (.goto (-59), 3) := by decide +kernel
theorem dX9_easyIn_94 : decode cX9_easyIn 94 = .ok (.iconst (-1), 1) := by decide +kernel
theorem dX9_easyIn_95 : decode cX9_easyIn 95 = .ok (.ireturn, 1) := by decide +kernel
set_option maxRecDepth 20000 in
theorem ggX9_bestFirst_X8_copyFrom : GoodIn wsX9_bestFirst wsX8_copyFrom := goodIn_r _ [11, 12, 13, 14, 15, 16, 17, 18, 19, 20, 21, 22, 23, 24, 25, 26, 27, 28, 132, 133, 134, 135, 136, 137, 138, 139, 140, 141, 142, 143, 144] (by decide +kernel) (by decide +kernel)
set_option maxRecDepth 20000 in
theorem gX9_bestFirst_X8_copyFrom : GoodIn wsX9_bestFirst (wsV RX9 80 RX8 yX8_copyFrom wsX8_copyFrom) := goodIn_app (goodIn_of _ (by decide +kernel)) ggX9_bestFirst_X8_copyFrom
set_option maxRecDepth 20000 in
theorem ggX9_bestFirst_X8_bringToFront : GoodIn wsX9_bestFirst wsX8_bringToFront := goodIn_r _ [32, 12, 20, 132, 133, 134, 135, 136, 137, 138, 139, 140, 141, 142, 143, 144] (by decide +kernel) (by decide +kernel)
set_option maxRecDepth 20000 in
theorem gX9_bestFirst_X8_bringToFront : GoodIn wsX9_bestFirst (wsV RX9 193 RX8 yX8_bringToFront wsX8_bringToFront) := goodIn_app (goodIn_of _ (by decide +kernel)) ggX9_bestFirst_X8_bringToFront
set_option maxRecDepth 20000 in
theorem ggX9_bestFirst_X8_passTicks : GoodIn wsX9_bestFirst wsX8_passTicks := goodIn_r _ [36, 12, 37, 38, 39, 10, 40, 26, 41, 42, 43, 44, 17, 45, 46, 47, 48, 49, 50, 51, 52, 27, 28, 53, 54, 55, 56, 57, 58, 59, 60, 61, 62, 63, 64, 65, 66, 67, 68, 69, 70, 71, 72, 73, 74, 75, 19, 76, 77, 78, 79, 18, 80, 81, 82, 83, 22, 21, 84, 85, 86, 87, 88, 89, 90, 91, 20, 92, 93, 94, 95, 96, 97, 98, 99, 24, 100, 101, 102, 103, 23, 104, 105, 106, 107, 108, 109, 110, 111, 112, 113, 114, 115, 116, 117, 118, 119, 120, 121, 25, 132, 133, 134, 135, 136, 137, 138, 139, 140, 141, 142, 143, 144] (by decide +kernel) (by decide +kernel)
set_option maxRecDepth 20000 in
theorem gX9_bestFirst_X8_passTicks : GoodIn wsX9_bestFirst (wsV RX9 188 RX8 yX8_passTicks wsX8_passTicks) := goodIn_app (goodIn_of _ (by decide +kernel)) ggX9_bestFirst_X8_passTicks
set_option maxRecDepth 20000 in
theorem ggX9_bestFirst_X9_at : GoodIn wsX9_bestFirst wsX9_at := goodIn_r _ [109] (by decide +kernel) (by decide +kernel)
set_option maxRecDepth 20000 in
theorem gX9_bestFirst_X9_at : GoodIn wsX9_bestFirst (va_wsS RX9 140 yX9_at wsX9_at) := goodIn_app (goodIn_of _ (by decide +kernel)) ggX9_bestFirst_X9_at
theorem dX9_bestFirst_0 : decode cX9_bestFirst 0 = .ok (.iload_n 1, 1) := by decide +kernel
theorem dX9_bestFirst_1 : decode cX9_bestFirst 1 = .ok (.iconst 1, 1) := by decide +kernel
theorem dX9_bestFirst_2 : decode cX9_bestFirst 2 = .ok (.if_icmp .lt 9, 3) := by decide +kernel
theorem dX9_bestFirst_5 : decode cX9_bestFirst 5 = .ok (.iload_n 1, 1) := by decide +kernel
theorem dX9_bestFirst_6 : decode cX9_bestFirst 6 = .ok (.bipush 99, 2) := by decide +kernel
theorem dX9_bestFirst_8 : decode cX9_bestFirst 8 = .ok (.if_icmp .le 13, 3) := by decide +kernel
theorem dX9_bestFirst_11 : decode cX9_bestFirst 11 = .ok (.new 72, 3) := by decide +kernel
theorem dX9_bestFirst_14 : decode cX9_bestFirst 14 = .ok (.dup, 1) := by decide +kernel
theorem dX9_bestFirst_15 : decode cX9_bestFirst 15 = .ok (.ldc 191, 2) := by decide +kernel
theorem dX9_bestFirst_17 : decode cX9_bestFirst 17 = .ok (.invokespecial 75, 3) := by decide +kernel
theorem dX9_bestFirst_20 : decode cX9_bestFirst 20 = .ok (.athrow, 1) := by decide +kernel
theorem dX9_bestFirst_21 : decode cX9_bestFirst 21 = .ok (.iconst (-1), 1) := by decide +kernel
theorem dX9_bestFirst_22 : decode cX9_bestFirst 22 = .ok (.istore_n 2, 1) := by decide +kernel
theorem dX9_bestFirst_23 : decode cX9_bestFirst 23 = .ok (.iconst (-1), 1) := by decide +kernel
theorem dX9_bestFirst_24 : decode cX9_bestFirst 24 = .ok (.istore_n 3, 1) := by decide +kernel
theorem dX9_bestFirst_25 : decode cX9_bestFirst 25 = .ok (.iconst 0, 1) := by decide +kernel
theorem dX9_bestFirst_26 : decode cX9_bestFirst 26 = .ok (.istore 4, 2) := by decide +kernel
theorem dX9_bestFirst_28 : decode cX9_bestFirst 28 = .ok (.iload 4, 2) := by decide +kernel
theorem dX9_bestFirst_30 : decode cX9_bestFirst 30 = .ok (.aload_n 0, 1) := by decide +kernel
theorem dX9_bestFirst_31 : decode cX9_bestFirst 31 = .ok (.getfield 10, 3) := by decide +kernel
theorem dX9_bestFirst_34 : decode cX9_bestFirst 34 = .ok (.getfield 87, 3) := by decide +kernel
theorem dX9_bestFirst_37 : decode cX9_bestFirst 37 = .ok (.iconst 1, 1) := by decide +kernel
theorem dX9_bestFirst_38 : decode cX9_bestFirst 38 = .ok (.iaload, 1) := by decide +kernel
theorem dX9_bestFirst_39 : decode cX9_bestFirst 39 = .ok (.if_icmp .ge 61, 3) := by decide +kernel
theorem dX9_bestFirst_42 : decode cX9_bestFirst 42 = .ok (.aload_n 0, 1) := by decide +kernel
theorem dX9_bestFirst_43 : decode cX9_bestFirst 43 = .ok (.getfield 16, 3) := by decide +kernel
theorem dX9_bestFirst_46 : decode cX9_bestFirst 46 = .ok (.aload_n 0, 1) := by decide +kernel
theorem dX9_bestFirst_47 : decode cX9_bestFirst 47 = .ok (.getfield 10, 3) := by decide +kernel
theorem dX9_bestFirst_50 : decode cX9_bestFirst 50 = .ok (.invokevirtual 80, 3) := by decide +kernel
theorem dX9_bestFirst_53 : decode cX9_bestFirst 53 = .ok (.aload_n 0, 1) := by decide +kernel
theorem dX9_bestFirst_54 : decode cX9_bestFirst 54 = .ok (.getfield 16, 3) := by decide +kernel
theorem dX9_bestFirst_57 : decode cX9_bestFirst 57 = .ok (.iload 4, 2) := by decide +kernel
theorem dX9_bestFirst_59 : decode cX9_bestFirst 59 = .ok (.invokevirtual 193, 3) := by decide +kernel
theorem dX9_bestFirst_62 : decode cX9_bestFirst 62 = .ok (.aload_n 0, 1) := by decide +kernel
theorem dX9_bestFirst_63 : decode cX9_bestFirst 63 = .ok (.getfield 16, 3) := by decide +kernel
theorem dX9_bestFirst_66 : decode cX9_bestFirst 66 = .ok (.iload_n 1, 1) := by decide +kernel
theorem dX9_bestFirst_67 : decode cX9_bestFirst 67 = .ok (.invokevirtual 188, 3) := by decide +kernel
theorem dX9_bestFirst_70 : decode cX9_bestFirst 70 = .ok (.istore 5, 2) := by decide +kernel
theorem dX9_bestFirst_72 : decode cX9_bestFirst 72 = .ok (.iload 5, 2) := by decide +kernel
theorem dX9_bestFirst_74 : decode cX9_bestFirst 74 = .ok (.iload_n 3, 1) := by decide +kernel
theorem dX9_bestFirst_75 : decode cX9_bestFirst 75 = .ok (.if_icmp .le 19, 3) := by decide +kernel
theorem dX9_bestFirst_78 : decode cX9_bestFirst 78 = .ok (.aload_n 0, 1) := by decide +kernel
theorem dX9_bestFirst_79 : decode cX9_bestFirst 79 = .ok (.getfield 10, 3) := by decide +kernel
theorem dX9_bestFirst_82 : decode cX9_bestFirst 82 = .ok (.getfield 137, 3) := by decide +kernel
theorem dX9_bestFirst_85 : decode cX9_bestFirst 85 = .ok (.iload 4, 2) := by decide +kernel
theorem dX9_bestFirst_87 : decode cX9_bestFirst 87 = .ok (.invokestatic 140, 3) := by decide +kernel
theorem dX9_bestFirst_90 : decode cX9_bestFirst 90 = .ok (.istore_n 2, 1) := by decide +kernel
theorem dX9_bestFirst_91 : decode cX9_bestFirst 91 = .ok (.iload 5, 2) := by decide +kernel
theorem dX9_bestFirst_93 : decode cX9_bestFirst 93 = .ok (.istore_n 3, 1) := by decide +kernel
theorem dX9_bestFirst_94 : decode cX9_bestFirst 94 = .ok (.iinc 4 1, 3) := by decide +kernel
theorem dX9_bestFirst_97 : decode cX9_bestFirst 97 = .ok (.goto (-69), 3) := by decide +kernel
theorem dX9_bestFirst_100 : decode cX9_bestFirst 100 = .ok (.iload_n 2, 1) := by decide +kernel
theorem dX9_bestFirst_101 : decode cX9_bestFirst 101 = .ok (.ireturn, 1) := by decide +kernel
theorem dX9_fullness_0 : decode cX9_fullness 0 = .ok (.aload_n 0, 1) := by decide +kernel
theorem dX9_fullness_1 : decode cX9_fullness 1 = .ok (.getfield 10, 3) := by decide +kernel
theorem dX9_fullness_4 : decode cX9_fullness 4 = .ok (.getfield 116, 3) := by decide +kernel
theorem dX9_fullness_7 : decode cX9_fullness 7 = .ok (.bipush 7, 2) := by decide +kernel
theorem dX9_fullness_9 : decode cX9_fullness 9 = .ok (.iaload, 1) := by decide +kernel
theorem dX9_fullness_10 : decode cX9_fullness 10 = .ok (.istore_n 1, 1) := by decide +kernel
theorem dX9_fullness_11 : decode cX9_fullness 11 = .ok (.iload_n 1, 1) := by decide +kernel
theorem dX9_fullness_12 : decode cX9_fullness 12 = .ok (.iconst 1, 1) := by decide +kernel
theorem dX9_fullness_13 : decode cX9_fullness 13 = .ok (.if_icmp .ge 7, 3) := by decide +kernel
theorem dX9_fullness_16 : decode cX9_fullness 16 = .ok (.fconst 0, 1) := by decide +kernel
theorem dX9_fullness_17 : decode cX9_fullness 17 = .ok (.goto 17, 3) := by decide +kernel
theorem dX9_fullness_20 : decode cX9_fullness 20 = .ok (.aload_n 0, 1) := by decide +kernel
theorem dX9_fullness_21 : decode cX9_fullness 21 = .ok (.getfield 10, 3) := by decide +kernel
theorem dX9_fullness_24 : decode cX9_fullness 24 = .ok (.getfield 87, 3) := by decide +kernel
theorem dX9_fullness_27 : decode cX9_fullness 27 = .ok (.bipush 7, 2) := by decide +kernel
theorem dX9_fullness_29 : decode cX9_fullness 29 = .ok (.iaload, 1) := by decide +kernel
theorem dX9_fullness_30 : decode cX9_fullness 30 = .ok (.i2f, 1) := by decide +kernel
theorem dX9_fullness_31 : decode cX9_fullness 31 = .ok (.iload_n 1, 1) := by decide +kernel
theorem dX9_fullness_32 : decode cX9_fullness 32 = .ok (.i2f, 1) := by decide +kernel
theorem dX9_fullness_33 : decode cX9_fullness 33 = .ok (.fdiv, 1) := by decide +kernel
theorem dX9_fullness_34 : decode cX9_fullness 34 = .ok (.freturn, 1) := by decide +kernel
set_option maxRecDepth 20000 in
theorem ggX9_tick_X9_doTick : GoodIn wsX9_tick wsX9_doTick := goodIn_r _ [7, 8, 9, 10, 11, 6, 12, 13, 14, 15, 16, 17, 18, 19, 20, 21, 22, 23, 24, 25, 26, 27, 28, 29, 30, 31, 32, 33, 34, 35, 36, 37, 38, 39, 40, 41, 42, 43, 44, 45, 46, 47, 48, 49, 50, 51, 52, 53, 54, 55, 56, 57, 58, 59, 60, 61, 62, 63, 64, 65, 66, 67, 68, 69, 70, 71, 72, 73, 74, 75, 76, 77, 78, 79, 80, 81, 82, 83, 84, 85, 86, 87, 88, 89, 90, 91, 92, 93, 94, 95, 96, 97, 98, 99, 100, 101, 102, 103, 104, 105, 106, 107, 108, 109, 110, 111, 112, 113, 114, 115, 116, 117, 118, 119, 120, 121, 122, 123, 124, 125, 126, 127, 128, 129, 130, 131, 132, 133, 134, 135, 136, 137, 138, 139, 140, 141, 142, 143, 144, 145, 146, 147, 148, 149, 150, 151, 152, 153, 154, 155, 156, 157] (by decide +kernel) (by decide +kernel)
set_option maxRecDepth 20000 in
theorem gX9_tick_X9_doTick : GoodIn wsX9_tick (wsV RX9 197 RX9 yX9_doTick wsX9_doTick) := goodIn_app (goodIn_of _ (by decide +kernel)) ggX9_tick_X9_doTick
theorem dX9_tick_0 : decode cX9_tick 0 = .ok (.iload_n 1, 1) := by decide +kernel
theorem dX9_tick_1 : decode cX9_tick 1 = .ok (.iconst 1, 1) := by decide +kernel
theorem dX9_tick_2 : decode cX9_tick 2 = .ok (.if_icmp .lt 9, 3) := by decide +kernel
theorem dX9_tick_5 : decode cX9_tick 5 = .ok (.iload_n 1, 1) := by decide +kernel
theorem dX9_tick_6 : decode cX9_tick 6 = .ok (.bipush 50, 2) := by decide +kernel
theorem dX9_tick_8 : decode cX9_tick 8 = .ok (.if_icmp .le 13, 3) := by decide +kernel
theorem dX9_tick_11 : decode cX9_tick 11 = .ok (.new 72, 3) := by decide +kernel
theorem dX9_tick_14 : decode cX9_tick 14 = .ok (.dup, 1) := by decide +kernel
theorem dX9_tick_15 : decode cX9_tick 15 = .ok (.ldc 196, 2) := by decide +kernel
theorem dX9_tick_17 : decode cX9_tick 17 = .ok (.invokespecial 75, 3) := by decide +kernel
theorem dX9_tick_20 : decode cX9_tick 20 = .ok (.athrow, 1) := by decide +kernel
theorem dX9_tick_21 : decode cX9_tick 21 = .ok (.aload_n 0, 1) := by decide +kernel
theorem dX9_tick_22 : decode cX9_tick 22 = .ok (.iload_n 1, 1) := by decide +kernel
theorem dX9_tick_23 : decode cX9_tick 23 = .ok (.invokevirtual 197, 3) := by decide +kernel
theorem dX9_tick_26 : decode cX9_tick 26 = .ok (.ireturn, 1) := by decide +kernel
set_option maxRecDepth 20000 in
theorem ggX9_arrive_X9_doArrive : GoodIn wsX9_arrive wsX9_doArrive := goodIn_r _ [9, 10, 11, 12, 13, 14, 8, 15, 16, 17, 18, 19, 20, 21, 22, 23, 24, 25, 26, 27, 28, 29, 30, 31, 32, 33, 34, 35, 36, 37, 38, 39, 40, 41, 42, 43, 44, 45, 46, 47, 48, 49, 50, 51, 52, 53, 54, 55, 56, 57, 58, 59, 60, 61, 62, 63, 64, 65, 66, 67, 68, 69, 70, 71, 72, 73, 74, 75, 76, 77, 78, 79, 80, 81, 82, 83, 84] (by decide +kernel) (by decide +kernel)
set_option maxRecDepth 20000 in
theorem gX9_arrive_X9_doArrive : GoodIn wsX9_arrive (wsV RX9 202 RX9 yX9_doArrive wsX9_doArrive) := goodIn_app (goodIn_of _ (by decide +kernel)) ggX9_arrive_X9_doArrive
theorem dX9_arrive_0 : decode cX9_arrive 0 = .ok (.iload_n 1, 1) := by decide +kernel
theorem dX9_arrive_1 : decode cX9_arrive 1 = .ok (.ifCond .lt 8, 3) := by decide +kernel
theorem dX9_arrive_4 : decode cX9_arrive 4 = .ok (.iload_n 1, 1) := by decide +kernel
theorem dX9_arrive_5 : decode cX9_arrive 5 = .ok (.iconst 4, 1) := by decide +kernel
theorem dX9_arrive_6 : decode cX9_arrive 6 = .ok (.if_icmp .lt 13, 3) := by decide +kernel
theorem dX9_arrive_9 : decode cX9_arrive 9 = .ok (.new 119, 3) := by decide +kernel
theorem dX9_arrive_12 : decode cX9_arrive 12 = .ok (.dup, 1) := by decide +kernel
theorem dX9_arrive_13 : decode cX9_arrive 13 = .ok (.ldc 121, 2) := by decide +kernel
theorem dX9_arrive_15 : decode cX9_arrive 15 = .ok (.invokespecial 123, 3) := by decide +kernel
theorem dX9_arrive_18 : decode cX9_arrive 18 = .ok (.athrow, 1) := by decide +kernel
theorem dX9_arrive_19 : decode cX9_arrive 19 = .ok (.iload_n 2, 1) := by decide +kernel
theorem dX9_arrive_20 : decode cX9_arrive 20 = .ok (.iconst 1, 1) := by decide +kernel
theorem dX9_arrive_21 : decode cX9_arrive 21 = .ok (.if_icmp .lt 10, 3) := by decide +kernel
theorem dX9_arrive_24 : decode cX9_arrive 24 = .ok (.iload_n 2, 1) := by decide +kernel
theorem dX9_arrive_25 : decode cX9_arrive 25 = .ok (.sipush 999, 3) := by decide +kernel
theorem dX9_arrive_28 : decode cX9_arrive 28 = .ok (.if_icmp .le 13, 3) := by decide +kernel
theorem dX9_arrive_31 : decode cX9_arrive 31 = .ok (.new 72, 3) := by decide +kernel
theorem dX9_arrive_34 : decode cX9_arrive 34 = .ok (.dup, 1) := by decide +kernel
theorem dX9_arrive_35 : decode cX9_arrive 35 = .ok (.ldc 200, 2) := by decide +kernel
theorem dX9_arrive_37 : decode cX9_arrive 37 = .ok (.invokespecial 75, 3) := by decide +kernel
theorem dX9_arrive_40 : decode cX9_arrive 40 = .ok (.athrow, 1) := by decide +kernel
theorem dX9_arrive_41 : decode cX9_arrive 41 = .ok (.aload_n 0, 1) := by decide +kernel
theorem dX9_arrive_42 : decode cX9_arrive 42 = .ok (.iload_n 1, 1) := by decide +kernel
theorem dX9_arrive_43 : decode cX9_arrive 43 = .ok (.iload_n 2, 1) := by decide +kernel
theorem dX9_arrive_44 : decode cX9_arrive 44 = .ok (.invokevirtual 202, 3) := by decide +kernel
theorem dX9_arrive_47 : decode cX9_arrive 47 = .ok (.ireturn, 1) := by decide +kernel
set_option maxRecDepth 20000 in
theorem ggX9_wave_X9_doWave : GoodIn wsX9_wave wsX9_doWave := goodIn_r _ [7, 8, 9, 10, 11, 12, 13, 14, 15, 16, 17, 18, 6, 19, 20, 21, 22, 23, 24, 25, 26, 27, 28, 29, 30, 31, 32, 33, 34, 35, 36, 37, 38, 39, 40, 41, 42, 43, 44, 45, 46, 47, 48, 49, 50, 51, 52, 53, 54, 55, 56, 57, 58, 59, 60, 61, 62, 63, 64, 65, 66, 67, 68, 69, 70, 71, 72, 73, 74, 75, 76, 77, 78, 79, 80, 81] (by decide +kernel) (by decide +kernel)
set_option maxRecDepth 20000 in
theorem gX9_wave_X9_doWave : GoodIn wsX9_wave (wsV RX9 205 RX9 yX9_doWave wsX9_doWave) := goodIn_app (goodIn_of _ (by decide +kernel)) ggX9_wave_X9_doWave
theorem dX9_wave_0 : decode cX9_wave 0 = .ok (.iload_n 1, 1) := by decide +kernel
theorem dX9_wave_1 : decode cX9_wave 1 = .ok (.ifCond .lt 9, 3) := by decide +kernel
theorem dX9_wave_4 : decode cX9_wave 4 = .ok (.iload_n 1, 1) := by decide +kernel
theorem dX9_wave_5 : decode cX9_wave 5 = .ok (.bipush 60, 2) := by decide +kernel
theorem dX9_wave_7 : decode cX9_wave 7 = .ok (.if_icmp .lt 13, 3) := by decide +kernel
theorem dX9_wave_10 : decode cX9_wave 10 = .ok (.new 119, 3) := by decide +kernel
theorem dX9_wave_13 : decode cX9_wave 13 = .ok (.dup, 1) := by decide +kernel
theorem dX9_wave_14 : decode cX9_wave 14 = .ok (.ldc 130, 2) := by decide +kernel
theorem dX9_wave_16 : decode cX9_wave 16 = .ok (.invokespecial 123, 3) := by decide +kernel
theorem dX9_wave_19 : decode cX9_wave 19 = .ok (.athrow, 1) := by decide +kernel
theorem dX9_wave_20 : decode cX9_wave 20 = .ok (.aload_n 0, 1) := by decide +kernel
theorem dX9_wave_21 : decode cX9_wave 21 = .ok (.iload_n 1, 1) := by decide +kernel
theorem dX9_wave_22 : decode cX9_wave 22 = .ok (.invokevirtual 205, 3) := by decide +kernel
theorem dX9_wave_25 : decode cX9_wave 25 = .ok (.ireturn, 1) := by decide +kernel
set_option maxRecDepth 20000 in
theorem ggX9_dismiss_X9_doDismiss : GoodIn wsX9_dismiss wsX9_doDismiss := goodIn_r _ [7, 8, 9, 10, 11, 12, 13, 14, 15, 16, 17, 18, 19, 6, 20, 21, 22, 23, 24, 25, 26, 27, 28, 29, 30, 31, 32, 33, 34, 35, 36, 37, 38, 39, 40, 41, 42, 43, 44, 45, 46, 47, 48, 49, 50, 51, 52, 53, 54, 55, 56, 57, 58, 59, 60, 61, 62, 63, 64, 65, 66, 67, 68, 69, 70, 71, 72, 73, 74, 75, 76, 77, 78, 79, 80, 81, 82, 83, 84, 85, 86] (by decide +kernel) (by decide +kernel)
set_option maxRecDepth 20000 in
theorem gX9_dismiss_X9_doDismiss : GoodIn wsX9_dismiss (wsV RX9 208 RX9 yX9_doDismiss wsX9_doDismiss) := goodIn_app (goodIn_of _ (by decide +kernel)) ggX9_dismiss_X9_doDismiss
theorem dX9_dismiss_0 : decode cX9_dismiss 0 = .ok (.iload_n 1, 1) := by decide +kernel
theorem dX9_dismiss_1 : decode cX9_dismiss 1 = .ok (.ifCond .lt 9, 3) := by decide +kernel
theorem dX9_dismiss_4 : decode cX9_dismiss 4 = .ok (.iload_n 1, 1) := by decide +kernel
theorem dX9_dismiss_5 : decode cX9_dismiss 5 = .ok (.bipush 60, 2) := by decide +kernel
theorem dX9_dismiss_7 : decode cX9_dismiss 7 = .ok (.if_icmp .lt 13, 3) := by decide +kernel
theorem dX9_dismiss_10 : decode cX9_dismiss 10 = .ok (.new 119, 3) := by decide +kernel
theorem dX9_dismiss_13 : decode cX9_dismiss 13 = .ok (.dup, 1) := by decide +kernel
theorem dX9_dismiss_14 : decode cX9_dismiss 14 = .ok (.ldc 130, 2) := by decide +kernel
theorem dX9_dismiss_16 : decode cX9_dismiss 16 = .ok (.invokespecial 123, 3) := by decide +kernel
theorem dX9_dismiss_19 : decode cX9_dismiss 19 = .ok (.athrow, 1) := by decide +kernel
theorem dX9_dismiss_20 : decode cX9_dismiss 20 = .ok (.aload_n 0, 1) := by decide +kernel
theorem dX9_dismiss_21 : decode cX9_dismiss 21 = .ok (.iload_n 1, 1) := by decide +kernel
theorem dX9_dismiss_22 : decode cX9_dismiss 22 = .ok (.invokevirtual 208, 3) := by decide +kernel
theorem dX9_dismiss_25 : decode cX9_dismiss 25 = .ok (.ireturn, 1) := by decide +kernel
set_option maxRecDepth 20000 in
theorem ggX9_unload_X9_doUnload : GoodIn wsX9_unload wsX9_doUnload := goodIn_r _ [7, 8, 9, 10, 11, 12, 13, 14, 15, 16, 17, 18, 19, 20, 21, 22, 23, 6, 24, 25, 26, 27, 28, 29, 30, 31, 32, 33, 34, 35, 36, 37, 38, 39, 40, 41, 42, 43, 44, 45, 46, 47, 48, 49, 50, 51, 52, 53, 54, 55, 56, 57, 58, 59, 60, 61, 62, 63, 64, 65, 66, 67, 68, 69, 70, 71, 72, 73, 74, 75, 76, 77, 78, 79, 80, 81, 82, 83, 84, 85, 86, 87, 88, 89, 90, 91, 92, 93, 94, 95, 96, 97, 98, 99, 100, 101, 102, 103, 104, 105, 106, 107, 108, 109, 110, 111, 112, 113, 114, 115, 116, 117, 118, 119, 120, 121, 122, 123, 124, 125, 126] (by decide +kernel) (by decide +kernel)
set_option maxRecDepth 20000 in
theorem gX9_unload_X9_doUnload : GoodIn wsX9_unload (wsV RX9 211 RX9 yX9_doUnload wsX9_doUnload) := goodIn_app (goodIn_of _ (by decide +kernel)) ggX9_unload_X9_doUnload
theorem dX9_unload_0 : decode cX9_unload 0 = .ok (.iload_n 1, 1) := by decide +kernel
theorem dX9_unload_1 : decode cX9_unload 1 = .ok (.ifCond .lt 8, 3) := by decide +kernel
theorem dX9_unload_4 : decode cX9_unload 4 = .ok (.iload_n 1, 1) := by decide +kernel
theorem dX9_unload_5 : decode cX9_unload 5 = .ok (.iconst 3, 1) := by decide +kernel
theorem dX9_unload_6 : decode cX9_unload 6 = .ok (.if_icmp .lt 13, 3) := by decide +kernel
theorem dX9_unload_9 : decode cX9_unload 9 = .ok (.new 119, 3) := by decide +kernel
theorem dX9_unload_12 : decode cX9_unload 12 = .ok (.dup, 1) := by decide +kernel
theorem dX9_unload_13 : decode cX9_unload 13 = .ok (.ldc 144, 2) := by decide +kernel
theorem dX9_unload_15 : decode cX9_unload 15 = .ok (.invokespecial 123, 3) := by decide +kernel
theorem dX9_unload_18 : decode cX9_unload 18 = .ok (.athrow, 1) := by decide +kernel
theorem dX9_unload_19 : decode cX9_unload 19 = .ok (.aload_n 0, 1) := by decide +kernel
theorem dX9_unload_20 : decode cX9_unload 20 = .ok (.iload_n 1, 1) := by decide +kernel
theorem dX9_unload_21 : decode cX9_unload 21 = .ok (.invokevirtual 211, 3) := by decide +kernel
theorem dX9_unload_24 : decode cX9_unload 24 = .ok (.ireturn, 1) := by decide +kernel
set_option maxRecDepth 20000 in
theorem ggX9_crank_X9_doCrank : GoodIn wsX9_crank wsX9_doCrank := goodIn_r _ [7, 8, 9, 10, 11, 12, 13, 6, 14, 15, 16, 17, 18, 19, 20, 21, 22, 23, 24, 25, 26, 27, 28, 29, 30, 31, 32, 33, 34, 35, 36, 37, 38, 39, 40, 41, 42, 43, 44, 45, 46, 47, 48, 49, 50, 51, 52, 53, 54, 55, 56, 57, 58, 59, 60, 61, 62, 63, 64, 65, 66, 67, 68, 69, 70, 71, 72, 73, 74, 75, 76, 77, 78, 79, 80, 81] (by decide +kernel) (by decide +kernel)
set_option maxRecDepth 20000 in
theorem gX9_crank_X9_doCrank : GoodIn wsX9_crank (wsV RX9 219 RX9 yX9_doCrank wsX9_doCrank) := goodIn_app (goodIn_of _ (by decide +kernel)) ggX9_crank_X9_doCrank
theorem dX9_crank_0 : decode cX9_crank 0 = .ok (.iload_n 1, 1) := by decide +kernel
theorem dX9_crank_1 : decode cX9_crank 1 = .ok (.bipush (-20), 2) := by decide +kernel
theorem dX9_crank_3 : decode cX9_crank 3 = .ok (.if_icmp .lt 9, 3) := by decide +kernel
theorem dX9_crank_6 : decode cX9_crank 6 = .ok (.iload_n 1, 1) := by decide +kernel
theorem dX9_crank_7 : decode cX9_crank 7 = .ok (.bipush 20, 2) := by decide +kernel
theorem dX9_crank_9 : decode cX9_crank 9 = .ok (.if_icmp .le 13, 3) := by decide +kernel
theorem dX9_crank_12 : decode cX9_crank 12 = .ok (.new 72, 3) := by decide +kernel
theorem dX9_crank_15 : decode cX9_crank 15 = .ok (.dup, 1) := by decide +kernel
theorem dX9_crank_16 : decode cX9_crank 16 = .ok (.ldc 217, 2) := by decide +kernel
theorem dX9_crank_18 : decode cX9_crank 18 = .ok (.invokespecial 75, 3) := by decide +kernel
theorem dX9_crank_21 : decode cX9_crank 21 = .ok (.athrow, 1) := by decide +kernel
theorem dX9_crank_22 : decode cX9_crank 22 = .ok (.aload_n 0, 1) := by decide +kernel
theorem dX9_crank_23 : decode cX9_crank 23 = .ok (.iload_n 1, 1) := by decide +kernel
theorem dX9_crank_24 : decode cX9_crank 24 = .ok (.invokevirtual 219, 3) := by decide +kernel
theorem dX9_crank_27 : decode cX9_crank 27 = .ok (.ireturn, 1) := by decide +kernel
set_option maxRecDepth 20000 in
theorem ggX9_undo_X4_takeBack : GoodIn wsX9_undo wsX4_takeBack := goodIn_r _ [7, 8, 9, 10, 11, 12, 13, 14, 15, 16, 17, 18, 19, 20, 21, 22, 23, 24, 25, 26, 27, 28, 29, 30, 31, 32, 42, 43, 44, 45, 46, 47, 48, 49, 50, 51, 52, 53, 54, 55, 56, 57] (by decide +kernel) (by decide +kernel)
set_option maxRecDepth 20000 in
theorem gX9_undo_X4_takeBack : GoodIn wsX9_undo (wsV RX9 248 RX4 yX4_takeBack wsX4_takeBack) := goodIn_app (goodIn_of _ (by decide +kernel)) ggX9_undo_X4_takeBack
theorem dX9_undo_0 : decode cX9_undo 0 = .ok (.aload_n 0, 1) := by decide +kernel
theorem dX9_undo_1 : decode cX9_undo 1 = .ok (.getfield 22, 3) := by decide +kernel
theorem dX9_undo_4 : decode cX9_undo 4 = .ok (.aload_n 0, 1) := by decide +kernel
theorem dX9_undo_5 : decode cX9_undo 5 = .ok (.getfield 10, 3) := by decide +kernel
theorem dX9_undo_8 : decode cX9_undo 8 = .ok (.invokevirtual 248, 3) := by decide +kernel
theorem dX9_undo_11 : decode cX9_undo 11 = .ok (.ireturn, 1) := by decide +kernel
set_option maxRecDepth 20000 in
theorem ggX9_save_X8_copyFrom : GoodIn wsX9_save wsX8_copyFrom := goodIn_r _ [10, 11, 12, 13, 14, 15, 16, 17, 18, 19, 20, 21, 22, 23, 24, 25, 26, 27, 37, 38, 39, 40, 41, 42, 43, 44, 45, 46, 47, 48, 49] (by decide +kernel) (by decide +kernel)
set_option maxRecDepth 20000 in
theorem gX9_save_X8_copyFrom : GoodIn wsX9_save (wsV RX9 80 RX8 yX8_copyFrom wsX8_copyFrom) := goodIn_app (goodIn_of _ (by decide +kernel)) ggX9_save_X8_copyFrom
theorem dX9_save_0 : decode cX9_save 0 = .ok (.iload_n 1, 1) := by decide +kernel
theorem dX9_save_1 : decode cX9_save 1 = .ok (.ifCond .lt 8, 3) := by decide +kernel
theorem dX9_save_4 : decode cX9_save 4 = .ok (.iload_n 1, 1) := by decide +kernel
theorem dX9_save_5 : decode cX9_save 5 = .ok (.iconst 2, 1) := by decide +kernel
theorem dX9_save_6 : decode cX9_save 6 = .ok (.if_icmp .lt 13, 3) := by decide +kernel
theorem dX9_save_9 : decode cX9_save 9 = .ok (.new 72, 3) := by decide +kernel
theorem dX9_save_12 : decode cX9_save 12 = .ok (.dup, 1) := by decide +kernel
theorem dX9_save_13 : decode cX9_save 13 = .ok (.ldc 252, 2) := by decide +kernel
theorem dX9_save_15 : decode cX9_save 15 = .ok (.invokespecial 75, 3) := by decide +kernel
theorem dX9_save_18 : decode cX9_save 18 = .ok (.athrow, 1) := by decide +kernel
theorem dX9_save_19 : decode cX9_save 19 = .ok (.aload_n 0, 1) := by decide +kernel
theorem dX9_save_20 : decode cX9_save 20 = .ok (.getfield 26, 3) := by decide +kernel
theorem dX9_save_23 : decode cX9_save 23 = .ok (.iload_n 1, 1) := by decide +kernel
theorem dX9_save_24 : decode cX9_save 24 = .ok (.aaload, 1) := by decide +kernel
theorem dX9_save_25 : decode cX9_save 25 = .ok (.astore_n 2, 1) := by decide +kernel
theorem dX9_save_26 : decode cX9_save 26 = .ok (.aload_n 2, 1) := by decide +kernel
theorem dX9_save_27 : decode cX9_save 27 = .ok (.ifnull 18, 3) := by decide +kernel
theorem dX9_save_30 : decode cX9_save 30 = .ok (.aload_n 2, 1) := by decide +kernel
theorem dX9_save_31 : decode cX9_save 31 = .ok (.aload_n 0, 1) := by decide +kernel
theorem dX9_save_32 : decode cX9_save 32 = .ok (.getfield 10, 3) := by decide +kernel
theorem dX9_save_35 : decode cX9_save 35 = .ok (.invokevirtual 80, 3) := by decide +kernel
theorem dX9_save_38 : decode cX9_save 38 = .ok (.aload_n 0, 1) := by decide +kernel
theorem dX9_save_39 : decode cX9_save 39 = .ok (.getfield 30, 3) := by decide +kernel
theorem dX9_save_42 : decode cX9_save 42 = .ok (.iload_n 1, 1) := by decide +kernel
theorem dX9_save_43 : decode cX9_save 43 = .ok (.iconst 1, 1) := by decide +kernel
theorem dX9_save_44 : decode cX9_save 44 = .ok (.bastore, 1) := by decide +kernel
theorem dX9_save_45 : decode cX9_save 45 = .ok (.return_, 1) := by decide +kernel
set_option maxRecDepth 20000 in
theorem ggX9_restore_X8_copyFrom : GoodIn wsX9_restore wsX8_copyFrom := goodIn_r _ [13, 14, 15, 16, 17, 18, 19, 20, 21, 22, 23, 24, 25, 26, 27, 28, 29, 30, 46, 47, 48, 49, 50, 51, 52, 53, 54, 55, 56, 57, 58] (by decide +kernel) (by decide +kernel)
set_option maxRecDepth 20000 in
theorem gX9_restore_X8_copyFrom : GoodIn wsX9_restore (wsV RX9 80 RX8 yX8_copyFrom wsX8_copyFrom) := goodIn_app (goodIn_of _ (by decide +kernel)) ggX9_restore_X8_copyFrom
set_option maxRecDepth 20000 in
theorem ggX9_restore_X4_forget : GoodIn wsX9_restore wsX4_forget := goodIn_r _ [35, 36, 59, 60, 61] (by decide +kernel) (by decide +kernel)
set_option maxRecDepth 20000 in
theorem gX9_restore_X4_forget : GoodIn wsX9_restore (wsV RX9 84 RX4 yX4_forget wsX4_forget) := goodIn_app (goodIn_of _ (by decide +kernel)) ggX9_restore_X4_forget
theorem dX9_restore_0 : decode cX9_restore 0 = .ok (.iload_n 1, 1) := by decide +kernel
theorem dX9_restore_1 : decode cX9_restore 1 = .ok (.ifCond .lt 8, 3) := by decide +kernel
theorem dX9_restore_4 : decode cX9_restore 4 = .ok (.iload_n 1, 1) := by decide +kernel
theorem dX9_restore_5 : decode cX9_restore 5 = .ok (.iconst 2, 1) := by decide +kernel
theorem dX9_restore_6 : decode cX9_restore 6 = .ok (.if_icmp .lt 13, 3) := by decide +kernel
theorem dX9_restore_9 : decode cX9_restore 9 = .ok (.new 72, 3) := by decide +kernel
theorem dX9_restore_12 : decode cX9_restore 12 = .ok (.dup, 1) := by decide +kernel
theorem dX9_restore_13 : decode cX9_restore 13 = .ok (.ldc 252, 2) := by decide +kernel
theorem dX9_restore_15 : decode cX9_restore 15 = .ok (.invokespecial 75, 3) := by decide +kernel
theorem dX9_restore_18 : decode cX9_restore 18 = .ok (.athrow, 1) := by decide +kernel
theorem dX9_restore_19 : decode cX9_restore 19 = .ok (.aload_n 0, 1) := by decide +kernel
theorem dX9_restore_20 : decode cX9_restore 20 = .ok (.getfield 26, 3) := by decide +kernel
theorem dX9_restore_23 : decode cX9_restore 23 = .ok (.iload_n 1, 1) := by decide +kernel
theorem dX9_restore_24 : decode cX9_restore 24 = .ok (.aaload, 1) := by decide +kernel
theorem dX9_restore_25 : decode cX9_restore 25 = .ok (.astore_n 2, 1) := by decide +kernel
theorem dX9_restore_26 : decode cX9_restore 26 = .ok (.aload_n 0, 1) := by decide +kernel
theorem dX9_restore_27 : decode cX9_restore 27 = .ok (.getfield 30, 3) := by decide +kernel
theorem dX9_restore_30 : decode cX9_restore 30 = .ok (.iload_n 1, 1) := by decide +kernel
theorem dX9_restore_31 : decode cX9_restore 31 = .ok (.baload, 1) := by decide +kernel
theorem dX9_restore_32 : decode cX9_restore 32 = .ok (.ifCond .eq 7, 3) := by decide +kernel
theorem dX9_restore_35 : decode cX9_restore 35 = .ok (.aload_n 2, 1) := by decide +kernel
theorem dX9_restore_36 : decode cX9_restore 36 = .ok (.ifnonnull 13, 3) := by decide +kernel
theorem dX9_restore_39 : decode cX9_restore 39 = .ok (.new 61, 3) := by decide +kernel
theorem dX9_restore_42 : decode cX9_restore 42 = .ok (.dup, 1) := by decide +kernel
theorem dX9_restore_43 : decode cX9_restore 43 = .ok (.ldc 254, 2) := by decide +kernel
theorem dX9_restore_45 : decode cX9_restore 45 = .ok (.invokespecial 65, 3) := by decide +kernel
theorem dX9_restore_48 : decode cX9_restore 48 = .ok (.athrow, 1) := by decide +kernel
theorem dX9_restore_49 : decode cX9_restore 49 = .ok (.aload_n 0, 1) := by decide +kernel
theorem dX9_restore_50 : decode cX9_restore 50 = .ok (.getfield 10, 3) := by decide +kernel
theorem dX9_restore_53 : decode cX9_restore 53 = .ok (.aload_n 2, 1) := by decide +kernel
theorem dX9_restore_54 : decode cX9_restore 54 = .ok (.invokevirtual 80, 3) := by decide +kernel
theorem dX9_restore_57 : decode cX9_restore 57 = .ok (.aload_n 0, 1) := by decide +kernel
theorem dX9_restore_58 : decode cX9_restore 58 = .ok (.getfield 22, 3) := by decide +kernel
theorem dX9_restore_61 : decode cX9_restore 61 = .ok (.invokevirtual 84, 3) := by decide +kernel
theorem dX9_restore_64 : decode cX9_restore 64 = .ok (.return_, 1) := by decide +kernel
set_option maxRecDepth 20000 in
theorem ggX9_doTick_X9_accept : GoodIn wsX9_doTick wsX9_accept := goodIn_r _ [6, 7, 1, 8, 9, 10, 11, 12, 13, 14, 15, 16, 17, 18, 19, 20, 21, 22, 23, 24, 25, 26, 27, 28, 29, 30, 31, 32, 33, 34, 35, 36, 37, 38, 127, 128, 129, 130, 131, 132, 133, 134, 135, 136, 137, 138, 139, 140, 141, 142, 143, 144, 145, 146, 147, 148, 149, 150, 151] (by decide +kernel) (by decide +kernel)
set_option maxRecDepth 20000 in
theorem gX9_doTick_X9_accept : GoodIn wsX9_doTick (wsV RX9 261 RX9 yX9_accept wsX9_accept) := goodIn_app (goodIn_of _ (by decide +kernel)) ggX9_doTick_X9_accept
set_option maxRecDepth 20000 in
theorem ggX9_doTick_X8_passTicks : GoodIn wsX9_doTick wsX8_passTicks := goodIn_r _ [42, 22, 43, 44, 45, 20, 46, 36, 47, 48, 49, 50, 27, 51, 52, 53, 54, 55, 56, 57, 58, 37, 38, 59, 5, 60, 61, 62, 63, 64, 65, 66, 67, 68, 69, 70, 71, 72, 73, 74, 75, 76, 77, 78, 79, 80, 29, 81, 82, 83, 84, 28, 85, 86, 87, 88, 32, 31, 89, 90, 91, 92, 93, 94, 95, 96, 30, 97, 98, 99, 100, 101, 102, 103, 104, 34, 105, 106, 107, 108, 33, 109, 110, 111, 112, 113, 114, 115, 116, 117, 118, 119, 120, 121, 122, 123, 124, 125, 126, 35, 139, 140, 141, 142, 143, 144, 145, 146, 147, 148, 149, 150, 151] (by decide +kernel) (by decide +kernel)
set_option maxRecDepth 20000 in
theorem gX9_doTick_X8_passTicks : GoodIn wsX9_doTick (wsV RX9 188 RX8 yX8_passTicks wsX8_passTicks) := goodIn_app (goodIn_of _ (by decide +kernel)) ggX9_doTick_X8_passTicks
theorem dX9_doTick_0 : decode cX9_doTick 0 = .ok (.aload_n 0, 1) := by decide +kernel
theorem dX9_doTick_1 : decode cX9_doTick 1 = .ok (.invokevirtual 261, 3) := by decide +kernel
theorem dX9_doTick_4 : decode cX9_doTick 4 = .ok (.aload_n 0, 1) := by decide +kernel
theorem dX9_doTick_5 : decode cX9_doTick 5 = .ok (.getfield 10, 3) := by decide +kernel
theorem dX9_doTick_8 : decode cX9_doTick 8 = .ok (.iload_n 1, 1) := by decide +kernel
theorem dX9_doTick_9 : decode cX9_doTick 9 = .ok (.invokevirtual 188, 3) := by decide +kernel
theorem dX9_doTick_12 : decode cX9_doTick 12 = .ok (.ireturn, 1) := by decide +kernel
set_option maxRecDepth 20000 in
theorem ggX9_doArrive_X9_refuse : GoodIn wsX9_doArrive wsX9_refuse := goodIn_r _ [7, 8, 52, 53, 54, 55, 56, 57, 58, 59, 60] (by decide +kernel) (by decide +kernel)
set_option maxRecDepth 20000 in
theorem gX9_doArrive_X9_refuse : GoodIn wsX9_doArrive (wsV RX9 264 RX9 yX9_refuse wsX9_refuse) := goodIn_app (goodIn_of _ (by decide +kernel)) ggX9_doArrive_X9_refuse
set_option maxRecDepth 20000 in
theorem ggX9_doArrive_X9_accept : GoodIn wsX9_doArrive wsX9_accept := goodIn_r _ [12, 13, 1, 8, 14, 15, 16, 17, 18, 19, 20, 21, 22, 23, 24, 25, 26, 27, 28, 29, 30, 31, 32, 33, 34, 35, 36, 37, 38, 39, 40, 41, 42, 43, 52, 53, 54, 55, 56, 57, 58, 59, 60, 74, 75, 76, 61, 62, 63, 64, 65, 66, 67, 68, 69, 70, 71, 72, 73] (by decide +kernel) (by decide +kernel)
set_option maxRecDepth 20000 in
theorem gX9_doArrive_X9_accept : GoodIn wsX9_doArrive (wsV RX9 261 RX9 yX9_accept wsX9_accept) := goodIn_app (goodIn_of _ (by decide +kernel)) ggX9_doArrive_X9_accept
set_option maxRecDepth 20000 in
theorem ggX9_doArrive_X8_addCar : GoodIn wsX9_doArrive wsX8_addCar := goodIn_r _ [47, 27, 35, 48, 49, 50, 25, 51, 34, 61, 62, 63, 64, 65, 66, 67, 68, 69, 70, 71, 72, 73] (by decide +kernel) (by decide +kernel)
set_option maxRecDepth 20000 in
theorem gX9_doArrive_X8_addCar : GoodIn wsX9_doArrive (wsV RX9 267 RX8 yX8_addCar wsX8_addCar) := goodIn_app (goodIn_of _ (by decide +kernel)) ggX9_doArrive_X8_addCar
theorem dX9_doArrive_0 : decode cX9_doArrive 0 = .ok (.aload_n 0, 1) := by decide +kernel
theorem dX9_doArrive_1 : decode cX9_doArrive 1 = .ok (.getfield 10, 3) := by decide +kernel
theorem dX9_doArrive_4 : decode cX9_doArrive 4 = .ok (.getfield 87, 3) := by decide +kernel
theorem dX9_doArrive_7 : decode cX9_doArrive 7 = .ok (.iconst 3, 1) := by decide +kernel
theorem dX9_doArrive_8 : decode cX9_doArrive 8 = .ok (.iaload, 1) := by decide +kernel
theorem dX9_doArrive_9 : decode cX9_doArrive 9 = .ok (.bipush 60, 2) := by decide +kernel
theorem dX9_doArrive_11 : decode cX9_doArrive 11 = .ok (.if_icmp .lt 9, 3) := by decide +kernel
theorem dX9_doArrive_14 : decode cX9_doArrive 14 = .ok (.aload_n 0, 1) := by decide +kernel
theorem dX9_doArrive_15 : decode cX9_doArrive 15 = .ok (.iconst 1, 1) := by decide +kernel
theorem dX9_doArrive_16 : decode cX9_doArrive 16 = .ok (.invokevirtual 264, 3) := by decide +kernel
theorem dX9_doArrive_19 : decode cX9_doArrive 19 = .ok (.ireturn, 1) := by decide +kernel
theorem dX9_doArrive_20 : decode cX9_doArrive 20 = .ok (.aload_n 0, 1) := by decide +kernel
theorem dX9_doArrive_21 : decode cX9_doArrive 21 = .ok (.getfield 10, 3) := by decide +kernel
theorem dX9_doArrive_24 : decode cX9_doArrive 24 = .ok (.getfield 87, 3) := by decide +kernel
theorem dX9_doArrive_27 : decode cX9_doArrive 27 = .ok (.iconst 1, 1) := by decide +kernel
theorem dX9_doArrive_28 : decode cX9_doArrive 28 = .ok (.iaload, 1) := by decide +kernel
theorem dX9_doArrive_29 : decode cX9_doArrive 29 = .ok (.bipush 20, 2) := by decide +kernel
theorem dX9_doArrive_31 : decode cX9_doArrive 31 = .ok (.if_icmp .lt 9, 3) := by decide +kernel
theorem dX9_doArrive_34 : decode cX9_doArrive 34 = .ok (.aload_n 0, 1) := by decide +kernel
theorem dX9_doArrive_35 : decode cX9_doArrive 35 = .ok (.iconst 2, 1) := by decide +kernel
theorem dX9_doArrive_36 : decode cX9_doArrive 36 = .ok (.invokevirtual 264, 3) := by decide +kernel
theorem dX9_doArrive_39 : decode cX9_doArrive 39 = .ok (.ireturn, 1) := by decide +kernel
theorem dX9_doArrive_40 : decode cX9_doArrive 40 = .ok (.aload_n 0, 1) := by decide +kernel
theorem dX9_doArrive_41 : decode cX9_doArrive 41 = .ok (.invokevirtual 261, 3) := by decide +kernel
theorem dX9_doArrive_44 : decode cX9_doArrive 44 = .ok (.aload_n 0, 1) := by decide +kernel
theorem dX9_doArrive_45 : decode cX9_doArrive 45 = .ok (.getfield 10, 3) := by decide +kernel
theorem dX9_doArrive_48 : decode cX9_doArrive 48 = .ok (.iload_n 1, 1) := by decide +kernel
theorem dX9_doArrive_49 : decode cX9_doArrive 49 = .ok (.iload_n 2, 1) := by decide +kernel
theorem dX9_doArrive_50 : decode cX9_doArrive 50 = .ok (.invokevirtual 267, 3) := by decide +kernel
theorem dX9_doArrive_53 : decode cX9_doArrive 53 = .ok (.ireturn, 1) := by decide +kernel
set_option maxRecDepth 20000 in
theorem ggX9_doWave_X8_placeOf : GoodIn wsX9_doWave wsX8_placeOf := goodIn_r _ [6, 7, 8, 60, 61, 62, 63, 64, 65, 66, 67, 68, 69, 70, 71, 72] (by decide +kernel) (by decide +kernel)
set_option maxRecDepth 20000 in
theorem gX9_doWave_X8_placeOf : GoodIn wsX9_doWave (wsV RX9 176 RX8 yX8_placeOf wsX8_placeOf) := goodIn_app (goodIn_of _ (by decide +kernel)) ggX9_doWave_X8_placeOf
set_option maxRecDepth 20000 in
theorem ggX9_doWave_X9_refuse : GoodIn wsX9_doWave wsX9_refuse := goodIn_r _ [13, 14, 51, 52, 53, 54, 55, 56, 57, 58, 59] (by decide +kernel) (by decide +kernel)
set_option maxRecDepth 20000 in
theorem gX9_doWave_X9_refuse : GoodIn wsX9_doWave (wsV RX9 264 RX9 yX9_refuse wsX9_refuse) := goodIn_app (goodIn_of _ (by decide +kernel)) ggX9_doWave_X9_refuse
set_option maxRecDepth 20000 in
theorem ggX9_doWave_X9_accept : GoodIn wsX9_doWave wsX9_accept := goodIn_r _ [18, 19, 1, 14, 20, 21, 22, 23, 24, 25, 26, 27, 28, 29, 30, 5, 31, 7, 32, 33, 34, 35, 36, 37, 38, 8, 39, 40, 41, 42, 43, 44, 45, 46, 51, 52, 53, 54, 55, 56, 57, 58, 59, 73, 74, 75, 60, 61, 62, 63, 64, 65, 66, 67, 68, 69, 70, 71, 72] (by decide +kernel) (by decide +kernel)
set_option maxRecDepth 20000 in
theorem gX9_doWave_X9_accept : GoodIn wsX9_doWave (wsV RX9 261 RX9 yX9_accept wsX9_accept) := goodIn_app (goodIn_of _ (by decide +kernel)) ggX9_doWave_X9_accept
set_option maxRecDepth 20000 in
theorem ggX9_doWave_X8_bringToFront : GoodIn wsX9_doWave wsX8_bringToFront := goodIn_r _ [50, 7, 8, 60, 61, 62, 63, 64, 65, 66, 67, 68, 69, 70, 71, 72] (by decide +kernel) (by decide +kernel)
set_option maxRecDepth 20000 in
theorem gX9_doWave_X8_bringToFront : GoodIn wsX9_doWave (wsV RX9 193 RX8 yX8_bringToFront wsX8_bringToFront) := goodIn_app (goodIn_of _ (by decide +kernel)) ggX9_doWave_X8_bringToFront
theorem dX9_doWave_0 : decode cX9_doWave 0 = .ok (.aload_n 0, 1) := by decide +kernel
theorem dX9_doWave_1 : decode cX9_doWave 1 = .ok (.getfield 10, 3) := by decide +kernel
theorem dX9_doWave_4 : decode cX9_doWave 4 = .ok (.iload_n 1, 1) := by decide +kernel
theorem dX9_doWave_5 : decode cX9_doWave 5 = .ok (.invokevirtual 176, 3) := by decide +kernel
theorem dX9_doWave_8 : decode cX9_doWave 8 = .ok (.istore_n 2, 1) := by decide +kernel
theorem dX9_doWave_9 : decode cX9_doWave 9 = .ok (.iload_n 2, 1) := by decide +kernel
theorem dX9_doWave_10 : decode cX9_doWave 10 = .ok (.iconst (-1), 1) := by decide +kernel
theorem dX9_doWave_11 : decode cX9_doWave 11 = .ok (.if_icmp .ne 9, 3) := by decide +kernel
theorem dX9_doWave_14 : decode cX9_doWave 14 = .ok (.aload_n 0, 1) := by decide +kernel
theorem dX9_doWave_15 : decode cX9_doWave 15 = .ok (.iconst 1, 1) := by decide +kernel
theorem dX9_doWave_16 : decode cX9_doWave 16 = .ok (.invokevirtual 264, 3) := by decide +kernel
theorem dX9_doWave_19 : decode cX9_doWave 19 = .ok (.ireturn, 1) := by decide +kernel
theorem dX9_doWave_20 : decode cX9_doWave 20 = .ok (.iload_n 2, 1) := by decide +kernel
theorem dX9_doWave_21 : decode cX9_doWave 21 = .ok (.ifCond .ne 9, 3) := by decide +kernel
theorem dX9_doWave_24 : decode cX9_doWave 24 = .ok (.aload_n 0, 1) := by decide +kernel
theorem dX9_doWave_25 : decode cX9_doWave 25 = .ok (.iconst 2, 1) := by decide +kernel
theorem dX9_doWave_26 : decode cX9_doWave 26 = .ok (.invokevirtual 264, 3) := by decide +kernel
theorem dX9_doWave_29 : decode cX9_doWave 29 = .ok (.ireturn, 1) := by decide +kernel
theorem dX9_doWave_30 : decode cX9_doWave 30 = .ok (.aload_n 0, 1) := by decide +kernel
theorem dX9_doWave_31 : decode cX9_doWave 31 = .ok (.invokevirtual 261, 3) := by decide +kernel
theorem dX9_doWave_34 : decode cX9_doWave 34 = .ok (.aload_n 0, 1) := by decide +kernel
theorem dX9_doWave_35 : decode cX9_doWave 35 = .ok (.getfield 10, 3) := by decide +kernel
theorem dX9_doWave_38 : decode cX9_doWave 38 = .ok (.iload_n 2, 1) := by decide +kernel
theorem dX9_doWave_39 : decode cX9_doWave 39 = .ok (.invokevirtual 193, 3) := by decide +kernel
theorem dX9_doWave_42 : decode cX9_doWave 42 = .ok (.iload_n 2, 1) := by decide +kernel
theorem dX9_doWave_43 : decode cX9_doWave 43 = .ok (.ireturn, 1) := by decide +kernel
set_option maxRecDepth 20000 in
theorem ggX9_doDismiss_X8_placeOf : GoodIn wsX9_doDismiss wsX8_placeOf := goodIn_r _ [7, 8, 9, 65, 66, 67, 68, 69, 70, 71, 72, 73, 74, 75, 76, 77] (by decide +kernel) (by decide +kernel)
set_option maxRecDepth 20000 in
theorem gX9_doDismiss_X8_placeOf : GoodIn wsX9_doDismiss (wsV RX9 176 RX8 yX8_placeOf wsX8_placeOf) := goodIn_app (goodIn_of _ (by decide +kernel)) ggX9_doDismiss_X8_placeOf
set_option maxRecDepth 20000 in
theorem ggX9_doDismiss_X9_refuse : GoodIn wsX9_doDismiss wsX9_refuse := goodIn_r _ [14, 15, 56, 57, 58, 59, 60, 61, 62, 63, 64] (by decide +kernel) (by decide +kernel)
set_option maxRecDepth 20000 in
theorem gX9_doDismiss_X9_refuse : GoodIn wsX9_doDismiss (wsV RX9 264 RX9 yX9_refuse wsX9_refuse) := goodIn_app (goodIn_of _ (by decide +kernel)) ggX9_doDismiss_X9_refuse
set_option maxRecDepth 20000 in
theorem ggX9_doDismiss_X9_accept : GoodIn wsX9_doDismiss wsX9_accept := goodIn_r _ [19, 20, 1, 15, 21, 22, 23, 24, 25, 26, 27, 28, 29, 30, 31, 6, 32, 8, 33, 34, 35, 36, 37, 38, 39, 9, 40, 41, 42, 43, 44, 45, 46, 47, 56, 57, 58, 59, 60, 61, 62, 63, 64, 78, 79, 80, 65, 66, 67, 68, 69, 70, 71, 72, 73, 74, 75, 76, 77] (by decide +kernel) (by decide +kernel)
set_option maxRecDepth 20000 in
theorem gX9_doDismiss_X9_accept : GoodIn wsX9_doDismiss (wsV RX9 261 RX9 yX9_accept wsX9_accept) := goodIn_app (goodIn_of _ (by decide +kernel)) ggX9_doDismiss_X9_accept
set_option maxRecDepth 20000 in
theorem ggX9_doDismiss_X8_takeFromQueue : GoodIn wsX9_doDismiss wsX8_takeFromQueue := goodIn_r _ [51, 8, 9, 65, 66, 67, 68, 69, 70, 71, 72, 73, 74, 75, 76, 77] (by decide +kernel) (by decide +kernel)
set_option maxRecDepth 20000 in
theorem gX9_doDismiss_X8_takeFromQueue : GoodIn wsX9_doDismiss (wsV RX9 270 RX8 yX8_takeFromQueue wsX8_takeFromQueue) := goodIn_app (goodIn_of _ (by decide +kernel)) ggX9_doDismiss_X8_takeFromQueue
set_option maxRecDepth 20000 in
theorem ggX9_doDismiss_X8_setCarFact : GoodIn wsX9_doDismiss wsX8_setCarFact := goodIn_r _ [55, 39, 65, 66, 67, 68, 69, 70, 71, 72, 73, 74, 75, 76, 77] (by decide +kernel) (by decide +kernel)
set_option maxRecDepth 20000 in
theorem gX9_doDismiss_X8_setCarFact : GoodIn wsX9_doDismiss (wsV RX9 273 RX8 yX8_setCarFact wsX8_setCarFact) := goodIn_app (goodIn_of _ (by decide +kernel)) ggX9_doDismiss_X8_setCarFact
theorem dX9_doDismiss_0 : decode cX9_doDismiss 0 = .ok (.aload_n 0, 1) := by decide +kernel
theorem dX9_doDismiss_1 : decode cX9_doDismiss 1 = .ok (.getfield 10, 3) := by decide +kernel
theorem dX9_doDismiss_4 : decode cX9_doDismiss 4 = .ok (.iload_n 1, 1) := by decide +kernel
theorem dX9_doDismiss_5 : decode cX9_doDismiss 5 = .ok (.invokevirtual 176, 3) := by decide +kernel
theorem dX9_doDismiss_8 : decode cX9_doDismiss 8 = .ok (.istore_n 2, 1) := by decide +kernel
theorem dX9_doDismiss_9 : decode cX9_doDismiss 9 = .ok (.iload_n 2, 1) := by decide +kernel
theorem dX9_doDismiss_10 : decode cX9_doDismiss 10 = .ok (.iconst (-1), 1) := by decide +kernel
theorem dX9_doDismiss_11 : decode cX9_doDismiss 11 = .ok (.if_icmp .ne 9, 3) := by decide +kernel
theorem dX9_doDismiss_14 : decode cX9_doDismiss 14 = .ok (.aload_n 0, 1) := by decide +kernel
theorem dX9_doDismiss_15 : decode cX9_doDismiss 15 = .ok (.iconst 1, 1) := by decide +kernel
theorem dX9_doDismiss_16 : decode cX9_doDismiss 16 = .ok (.invokevirtual 264, 3) := by decide +kernel
theorem dX9_doDismiss_19 : decode cX9_doDismiss 19 = .ok (.ireturn, 1) := by decide +kernel
theorem dX9_doDismiss_20 : decode cX9_doDismiss 20 = .ok (.aload_n 0, 1) := by decide +kernel
theorem dX9_doDismiss_21 : decode cX9_doDismiss 21 = .ok (.invokevirtual 261, 3) := by decide +kernel
theorem dX9_doDismiss_24 : decode cX9_doDismiss 24 = .ok (.aload_n 0, 1) := by decide +kernel
theorem dX9_doDismiss_25 : decode cX9_doDismiss 25 = .ok (.getfield 10, 3) := by decide +kernel
theorem dX9_doDismiss_28 : decode cX9_doDismiss 28 = .ok (.iload_n 2, 1) := by decide +kernel
theorem dX9_doDismiss_29 : decode cX9_doDismiss 29 = .ok (.invokevirtual 270, 3) := by decide +kernel
theorem dX9_doDismiss_32 : decode cX9_doDismiss 32 = .ok (.aload_n 0, 1) := by decide +kernel
theorem dX9_doDismiss_33 : decode cX9_doDismiss 33 = .ok (.getfield 10, 3) := by decide +kernel
theorem dX9_doDismiss_36 : decode cX9_doDismiss 36 = .ok (.iload_n 1, 1) := by decide +kernel
theorem dX9_doDismiss_37 : decode cX9_doDismiss 37 = .ok (.iconst 2, 1) := by decide +kernel
theorem dX9_doDismiss_38 : decode cX9_doDismiss 38 = .ok (.iconst 4, 1) := by decide +kernel
theorem dX9_doDismiss_39 : decode cX9_doDismiss 39 = .ok (.invokevirtual 273, 3) := by decide +kernel
theorem dX9_doDismiss_42 : decode cX9_doDismiss 42 = .ok (.aload_n 0, 1) := by decide +kernel
theorem dX9_doDismiss_43 : decode cX9_doDismiss 43 = .ok (.getfield 10, 3) := by decide +kernel
theorem dX9_doDismiss_46 : decode cX9_doDismiss 46 = .ok (.getfield 87, 3) := by decide +kernel
theorem dX9_doDismiss_49 : decode cX9_doDismiss 49 = .ok (.iconst 1, 1) := by decide +kernel
theorem dX9_doDismiss_50 : decode cX9_doDismiss 50 = .ok (.iaload, 1) := by decide +kernel
theorem dX9_doDismiss_51 : decode cX9_doDismiss 51 = .ok (.ireturn, 1) := by decide +kernel
set_option maxRecDepth 20000 in
theorem ggX9_doUnload_X8_lastOnDeck : GoodIn wsX9_doUnload wsX8_lastOnDeck := goodIn_r _ [9, 10, 11, 12, 13, 8, 14, 15, 16, 17, 18, 105, 106, 107, 108, 109, 110, 111, 112, 113, 114, 115, 116, 117] (by decide +kernel) (by decide +kernel)
set_option maxRecDepth 20000 in
theorem gX9_doUnload_X8_lastOnDeck : GoodIn wsX9_doUnload (wsV RX9 277 RX8 yX8_lastOnDeck wsX8_lastOnDeck) := goodIn_app (goodIn_of _ (by decide +kernel)) ggX9_doUnload_X8_lastOnDeck
set_option maxRecDepth 20000 in
theorem ggX9_doUnload_X9_refuse : GoodIn wsX9_doUnload wsX9_refuse := goodIn_r _ [22, 23, 96, 97, 98, 99, 100, 101, 102, 103, 104] (by decide +kernel) (by decide +kernel)
set_option maxRecDepth 20000 in
theorem gX9_doUnload_X9_refuse : GoodIn wsX9_doUnload (wsV RX9 264 RX9 yX9_refuse wsX9_refuse) := goodIn_app (goodIn_of _ (by decide +kernel)) ggX9_doUnload_X9_refuse
set_option maxRecDepth 20000 in
theorem ggX9_doUnload_X8_carKindFact : GoodIn wsX9_doUnload wsX8_carKindFact := goodIn_r _ [27, 28, 29, 30, 8, 31, 32, 33, 34, 35, 36, 37, 105, 106, 107, 108, 109, 110, 111, 112, 113, 114, 115, 116, 117] (by decide +kernel) (by decide +kernel)
set_option maxRecDepth 20000 in
theorem gX9_doUnload_X8_carKindFact : GoodIn wsX9_doUnload (wsV RX9 182 RX8 yX8_carKindFact wsX8_carKindFact) := goodIn_app (goodIn_of _ (by decide +kernel)) ggX9_doUnload_X8_carKindFact
set_option maxRecDepth 20000 in
theorem ggX9_doUnload_X9_accept : GoodIn wsX9_doUnload wsX9_accept := goodIn_r _ [41, 42, 1, 23, 43, 44, 45, 46, 47, 48, 49, 50, 51, 52, 53, 8, 54, 55, 56, 57, 58, 59, 60, 37, 32, 61, 15, 10, 62, 63, 64, 65, 66, 67, 96, 97, 98, 99, 100, 101, 102, 103, 104, 118, 119, 120, 105, 106, 107, 108, 109, 110, 111, 112, 113, 114, 115, 116, 117] (by decide +kernel) (by decide +kernel)
set_option maxRecDepth 20000 in
theorem gX9_doUnload_X9_accept : GoodIn wsX9_doUnload (wsV RX9 261 RX9 yX9_accept wsX9_accept) := goodIn_app (goodIn_of _ (by decide +kernel)) ggX9_doUnload_X9_accept
set_option maxRecDepth 20000 in
theorem ggX9_doUnload_X8_takeFromDeck : GoodIn wsX9_doUnload wsX8_takeFromDeck := goodIn_r _ [71, 10, 62, 63, 55, 72, 6, 7, 8, 9, 11, 12, 13, 14, 15, 16, 17, 18, 28, 29, 30, 31, 32, 73, 25, 26, 27, 33, 34, 35, 36, 37, 74, 75, 76, 77, 78, 79, 80, 81, 65, 82, 83, 84, 85, 60, 86, 87, 88, 89, 90, 91, 92, 93, 66, 67, 94, 95, 105, 106, 107, 108, 109, 110, 111, 112, 113, 114, 115, 116, 117] (by decide +kernel) (by decide +kernel)
set_option maxRecDepth 20000 in
theorem gX9_doUnload_X8_takeFromDeck : GoodIn wsX9_doUnload (wsV RX9 280 RX8 yX8_takeFromDeck wsX8_takeFromDeck) := goodIn_app (goodIn_of _ (by decide +kernel)) ggX9_doUnload_X8_takeFromDeck
theorem dX9_doUnload_0 : decode cX9_doUnload 0 = .ok (.aload_n 0, 1) := by decide +kernel
theorem dX9_doUnload_1 : decode cX9_doUnload 1 = .ok (.getfield 10, 3) := by decide +kernel
theorem dX9_doUnload_4 : decode cX9_doUnload 4 = .ok (.iload_n 1, 1) := by decide +kernel
theorem dX9_doUnload_5 : decode cX9_doUnload 5 = .ok (.invokevirtual 277, 3) := by decide +kernel
theorem dX9_doUnload_8 : decode cX9_doUnload 8 = .ok (.istore_n 2, 1) := by decide +kernel
theorem dX9_doUnload_9 : decode cX9_doUnload 9 = .ok (.iload_n 2, 1) := by decide +kernel
theorem dX9_doUnload_10 : decode cX9_doUnload 10 = .ok (.iconst (-1), 1) := by decide +kernel
theorem dX9_doUnload_11 : decode cX9_doUnload 11 = .ok (.if_icmp .ne 9, 3) := by decide +kernel
theorem dX9_doUnload_14 : decode cX9_doUnload 14 = .ok (.aload_n 0, 1) := by decide +kernel
theorem dX9_doUnload_15 : decode cX9_doUnload 15 = .ok (.iconst 1, 1) := by decide +kernel
theorem dX9_doUnload_16 : decode cX9_doUnload 16 = .ok (.invokevirtual 264, 3) := by decide +kernel
theorem dX9_doUnload_19 : decode cX9_doUnload 19 = .ok (.ireturn, 1) := by decide +kernel
theorem dX9_doUnload_20 : decode cX9_doUnload 20 = .ok (.aload_n 0, 1) := by decide +kernel
theorem dX9_doUnload_21 : decode cX9_doUnload 21 = .ok (.getfield 10, 3) := by decide +kernel
theorem dX9_doUnload_24 : decode cX9_doUnload 24 = .ok (.getfield 87, 3) := by decide +kernel
theorem dX9_doUnload_27 : decode cX9_doUnload 27 = .ok (.bipush 8, 2) := by decide +kernel
theorem dX9_doUnload_29 : decode cX9_doUnload 29 = .ok (.iaload, 1) := by decide +kernel
theorem dX9_doUnload_30 : decode cX9_doUnload 30 = .ok (.iconst (-1), 1) := by decide +kernel
theorem dX9_doUnload_31 : decode cX9_doUnload 31 = .ok (.if_icmp .eq 9, 3) := by decide +kernel
theorem dX9_doUnload_34 : decode cX9_doUnload 34 = .ok (.aload_n 0, 1) := by decide +kernel
theorem dX9_doUnload_35 : decode cX9_doUnload 35 = .ok (.iconst 2, 1) := by decide +kernel
theorem dX9_doUnload_36 : decode cX9_doUnload 36 = .ok (.invokevirtual 264, 3) := by decide +kernel
theorem dX9_doUnload_39 : decode cX9_doUnload 39 = .ok (.ireturn, 1) := by decide +kernel
theorem dX9_doUnload_40 : decode cX9_doUnload 40 = .ok (.aload_n 0, 1) := by decide +kernel
theorem dX9_doUnload_41 : decode cX9_doUnload 41 = .ok (.getfield 10, 3) := by decide +kernel
theorem dX9_doUnload_44 : decode cX9_doUnload 44 = .ok (.getfield 170, 3) := by decide +kernel
theorem dX9_doUnload_47 : decode cX9_doUnload 47 = .ok (.aload_n 0, 1) := by decide +kernel
theorem dX9_doUnload_48 : decode cX9_doUnload 48 = .ok (.getfield 10, 3) := by decide +kernel
theorem dX9_doUnload_51 : decode cX9_doUnload 51 = .ok (.iload_n 2, 1) := by decide +kernel
theorem dX9_doUnload_52 : decode cX9_doUnload 52 = .ok (.iconst 0, 1) := by decide +kernel
theorem dX9_doUnload_53 : decode cX9_doUnload 53 = .ok (.invokevirtual 182, 3) := by decide +kernel
theorem dX9_doUnload_56 : decode cX9_doUnload 56 = .ok (.if_icmp .le 9, 3) := by decide +kernel
theorem dX9_doUnload_59 : decode cX9_doUnload 59 = .ok (.aload_n 0, 1) := by decide +kernel
theorem dX9_doUnload_60 : decode cX9_doUnload 60 = .ok (.iconst 3, 1) := by decide +kernel
theorem dX9_doUnload_61 : decode cX9_doUnload 61 = .ok (.invokevirtual 264, 3) := by decide +kernel
theorem dX9_doUnload_64 : decode cX9_doUnload 64 = .ok (.ireturn, 1) := by decide +kernel
theorem dX9_doUnload_65 : decode cX9_doUnload 65 = .ok (.aload_n 0, 1) := by decide +kernel
theorem dX9_doUnload_66 : decode cX9_doUnload 66 = .ok (.getfield 10, 3) := by decide +kernel
theorem dX9_doUnload_69 : decode cX9_doUnload 69 = .ok (.getfield 173, 3) := by decide +kernel
theorem dX9_doUnload_72 : decode cX9_doUnload 72 = .ok (.aload_n 0, 1) := by decide +kernel
theorem dX9_doUnload_73 : decode cX9_doUnload 73 = .ok (.getfield 10, 3) := by decide +kernel
theorem dX9_doUnload_76 : decode cX9_doUnload 76 = .ok (.iload_n 2, 1) := by decide +kernel
theorem dX9_doUnload_77 : decode cX9_doUnload 77 = .ok (.iconst 1, 1) := by decide +kernel
theorem dX9_doUnload_78 : decode cX9_doUnload 78 = .ok (.invokevirtual 182, 3) := by decide +kernel
theorem dX9_doUnload_81 : decode cX9_doUnload 81 = .ok (.if_icmp .le 9, 3) := by decide +kernel
theorem dX9_doUnload_84 : decode cX9_doUnload 84 = .ok (.aload_n 0, 1) := by decide +kernel
theorem dX9_doUnload_85 : decode cX9_doUnload 85 = .ok (.iconst 4, 1) := by decide +kernel
theorem dX9_doUnload_86 : decode cX9_doUnload 86 = .ok (.invokevirtual 264, 3) := by decide +kernel
theorem dX9_doUnload_89 : decode cX9_doUnload 89 = .ok (.ireturn, 1) := by decide +kernel
theorem dX9_doUnload_90 : decode cX9_doUnload 90 = .ok (.aload_n 0, 1) := by decide +kernel
theorem dX9_doUnload_91 : decode cX9_doUnload 91 = .ok (.invokevirtual 261, 3) := by decide +kernel
theorem dX9_doUnload_94 : decode cX9_doUnload 94 = .ok (.aload_n 0, 1) := by decide +kernel
theorem dX9_doUnload_95 : decode cX9_doUnload 95 = .ok (.getfield 10, 3) := by decide +kernel
theorem dX9_doUnload_98 : decode cX9_doUnload 98 = .ok (.iload_n 1, 1) := by decide +kernel
theorem dX9_doUnload_99 : decode cX9_doUnload 99 = .ok (.invokevirtual 280, 3) := by decide +kernel
theorem dX9_doUnload_102 : decode cX9_doUnload 102 = .ok (.iload_n 2, 1) := by decide +kernel
theorem dX9_doUnload_103 : decode cX9_doUnload 103 = .ok (.ireturn, 1) := by decide +kernel
set_option maxRecDepth 20000 in
theorem ggX9_doCrank_X9_refuse : GoodIn wsX9_doCrank wsX9_refuse := goodIn_r _ [8, 9, 51, 52, 53, 54, 55, 56, 57, 58, 59] (by decide +kernel) (by decide +kernel)
set_option maxRecDepth 20000 in
theorem gX9_doCrank_X9_refuse : GoodIn wsX9_doCrank (wsV RX9 264 RX9 yX9_refuse wsX9_refuse) := goodIn_app (goodIn_of _ (by decide +kernel)) ggX9_doCrank_X9_refuse
set_option maxRecDepth 20000 in
theorem ggX9_doCrank_X9_accept : GoodIn wsX9_doCrank wsX9_accept := goodIn_r _ [13, 14, 1, 9, 15, 16, 17, 18, 19, 20, 21, 22, 23, 24, 25, 26, 27, 28, 29, 30, 31, 32, 33, 34, 35, 36, 37, 38, 39, 40, 41, 42, 43, 44, 51, 52, 53, 54, 55, 56, 57, 58, 59, 73, 74, 75, 60, 61, 62, 63, 64, 65, 66, 67, 68, 69, 70, 71, 72] (by decide +kernel) (by decide +kernel)
set_option maxRecDepth 20000 in
theorem gX9_doCrank_X9_accept : GoodIn wsX9_doCrank (wsV RX9 261 RX9 yX9_accept wsX9_accept) := goodIn_app (goodIn_of _ (by decide +kernel)) ggX9_doCrank_X9_accept
set_option maxRecDepth 20000 in
theorem ggX9_doCrank_X8_measureRamp : GoodIn wsX9_doCrank wsX8_measureRamp := goodIn_r _ [48, 28, 33, 43, 42, 44, 49, 7, 50, 60, 61, 62, 63, 64, 65, 66, 67, 68, 69, 70, 71, 72] (by decide +kernel) (by decide +kernel)
set_option maxRecDepth 20000 in
theorem gX9_doCrank_X8_measureRamp : GoodIn wsX9_doCrank (wsV RX9 283 RX8 yX8_measureRamp wsX8_measureRamp) := goodIn_app (goodIn_of _ (by decide +kernel)) ggX9_doCrank_X8_measureRamp
theorem dX9_doCrank_0 : decode cX9_doCrank 0 = .ok (.iload_n 1, 1) := by decide +kernel
theorem dX9_doCrank_1 : decode cX9_doCrank 1 = .ok (.ifCond .ne 9, 3) := by decide +kernel
theorem dX9_doCrank_4 : decode cX9_doCrank 4 = .ok (.aload_n 0, 1) := by decide +kernel
theorem dX9_doCrank_5 : decode cX9_doCrank 5 = .ok (.iconst 1, 1) := by decide +kernel
theorem dX9_doCrank_6 : decode cX9_doCrank 6 = .ok (.invokevirtual 264, 3) := by decide +kernel
theorem dX9_doCrank_9 : decode cX9_doCrank 9 = .ok (.ireturn, 1) := by decide +kernel
theorem dX9_doCrank_10 : decode cX9_doCrank 10 = .ok (.aload_n 0, 1) := by decide +kernel
theorem dX9_doCrank_11 : decode cX9_doCrank 11 = .ok (.getfield 10, 3) := by decide +kernel
theorem dX9_doCrank_14 : decode cX9_doCrank 14 = .ok (.getfield 87, 3) := by decide +kernel
theorem dX9_doCrank_17 : decode cX9_doCrank 17 = .ok (.bipush 8, 2) := by decide +kernel
theorem dX9_doCrank_19 : decode cX9_doCrank 19 = .ok (.iaload, 1) := by decide +kernel
theorem dX9_doCrank_20 : decode cX9_doCrank 20 = .ok (.iconst (-1), 1) := by decide +kernel
theorem dX9_doCrank_21 : decode cX9_doCrank 21 = .ok (.if_icmp .eq 9, 3) := by decide +kernel
theorem dX9_doCrank_24 : decode cX9_doCrank 24 = .ok (.aload_n 0, 1) := by decide +kernel
theorem dX9_doCrank_25 : decode cX9_doCrank 25 = .ok (.iconst 2, 1) := by decide +kernel
theorem dX9_doCrank_26 : decode cX9_doCrank 26 = .ok (.invokevirtual 264, 3) := by decide +kernel
theorem dX9_doCrank_29 : decode cX9_doCrank 29 = .ok (.ireturn, 1) := by decide +kernel
theorem dX9_doCrank_30 : decode cX9_doCrank 30 = .ok (.aload_n 0, 1) := by decide +kernel
theorem dX9_doCrank_31 : decode cX9_doCrank 31 = .ok (.invokevirtual 261, 3) := by decide +kernel
theorem dX9_doCrank_34 : decode cX9_doCrank 34 = .ok (.aload_n 0, 1) := by decide +kernel
theorem dX9_doCrank_35 : decode cX9_doCrank 35 = .ok (.getfield 10, 3) := by decide +kernel
theorem dX9_doCrank_38 : decode cX9_doCrank 38 = .ok (.getfield 87, 3) := by decide +kernel
theorem dX9_doCrank_41 : decode cX9_doCrank 41 = .ok (.iconst 4, 1) := by decide +kernel
theorem dX9_doCrank_42 : decode cX9_doCrank 42 = .ok (.dup2, 1) := by decide +kernel
theorem dX9_doCrank_43 : decode cX9_doCrank 43 = .ok (.iaload, 1) := by decide +kernel
theorem dX9_doCrank_44 : decode cX9_doCrank 44 = .ok (.iload_n 1, 1) := by decide +kernel
theorem dX9_doCrank_45 : decode cX9_doCrank 45 = .ok (.iadd, 1) := by decide +kernel
theorem dX9_doCrank_46 : decode cX9_doCrank 46 = .ok (.iastore, 1) := by decide +kernel
theorem dX9_doCrank_47 : decode cX9_doCrank 47 = .ok (.aload_n 0, 1) := by decide +kernel
theorem dX9_doCrank_48 : decode cX9_doCrank 48 = .ok (.getfield 10, 3) := by decide +kernel
theorem dX9_doCrank_51 : decode cX9_doCrank 51 = .ok (.invokevirtual 283, 3) := by decide +kernel
theorem dX9_doCrank_54 : decode cX9_doCrank 54 = .ok (.aload_n 0, 1) := by decide +kernel
theorem dX9_doCrank_55 : decode cX9_doCrank 55 = .ok (.getfield 10, 3) := by decide +kernel
theorem dX9_doCrank_58 : decode cX9_doCrank 58 = .ok (.getfield 173, 3) := by decide +kernel
theorem dX9_doCrank_61 : decode cX9_doCrank 61 = .ok (.ireturn, 1) := by decide +kernel
set_option maxRecDepth 20000 in
theorem ggX9_accept_X4_remember : GoodIn wsX9_accept wsX4_remember := goodIn_r _ [8, 9, 10, 11, 12, 13, 14, 15, 16, 17, 18, 19, 20, 21, 22, 23, 24, 25, 26, 27, 28, 29, 30, 31, 32, 33, 43, 44, 45, 46, 47, 48, 49, 50, 51, 52, 53, 54, 55, 56, 57, 58] (by decide +kernel) (by decide +kernel)
set_option maxRecDepth 20000 in
theorem gX9_accept_X4_remember : GoodIn wsX9_accept (wsV RX9 286 RX4 yX4_remember wsX4_remember) := goodIn_app (goodIn_of _ (by decide +kernel)) ggX9_accept_X4_remember
theorem dX9_accept_0 : decode cX9_accept 0 = .ok (.aload_n 0, 1) := by decide +kernel
theorem dX9_accept_1 : decode cX9_accept 1 = .ok (.getfield 22, 3) := by decide +kernel
theorem dX9_accept_4 : decode cX9_accept 4 = .ok (.aload_n 0, 1) := by decide +kernel
theorem dX9_accept_5 : decode cX9_accept 5 = .ok (.getfield 10, 3) := by decide +kernel
theorem dX9_accept_8 : decode cX9_accept 8 = .ok (.invokevirtual 286, 3) := by decide +kernel
theorem dX9_accept_11 : decode cX9_accept 11 = .ok (.aload_n 0, 1) := by decide +kernel
theorem dX9_accept_12 : decode cX9_accept 12 = .ok (.getfield 41, 3) := by decide +kernel
theorem dX9_accept_15 : decode cX9_accept 15 = .ok (.iconst 0, 1) := by decide +kernel
theorem dX9_accept_16 : decode cX9_accept 16 = .ok (.dup2, 1) := by decide +kernel
theorem dX9_accept_17 : decode cX9_accept 17 = .ok (.iaload, 1) := by decide +kernel
theorem dX9_accept_18 : decode cX9_accept 18 = .ok (.iconst 1, 1) := by decide +kernel
theorem dX9_accept_19 : decode cX9_accept 19 = .ok (.iadd, 1) := by decide +kernel
theorem dX9_accept_20 : decode cX9_accept 20 = .ok (.iastore, 1) := by decide +kernel
theorem dX9_accept_21 : decode cX9_accept 21 = .ok (.return_, 1) := by decide +kernel
theorem dX9_refuse_0 : decode cX9_refuse 0 = .ok (.iload_n 1, 1) := by decide +kernel
theorem dX9_refuse_1 : decode cX9_refuse 1 = .ok (.iconst 1, 1) := by decide +kernel
theorem dX9_refuse_2 : decode cX9_refuse 2 = .ok (.if_icmp .lt 22, 3) := by decide +kernel
theorem dX9_refuse_5 : decode cX9_refuse 5 = .ok (.iload_n 1, 1) := by decide +kernel
theorem dX9_refuse_6 : decode cX9_refuse 6 = .ok (.aload_n 0, 1) := by decide +kernel
theorem dX9_refuse_7 : decode cX9_refuse 7 = .ok (.getfield 41, 3) := by decide +kernel
theorem dX9_refuse_10 : decode cX9_refuse 10 = .ok (.arraylength, 1) := by decide +kernel
theorem dX9_refuse_11 : decode cX9_refuse 11 = .ok (.if_icmp .ge 13, 3) := by decide +kernel
theorem dX9_refuse_14 : decode cX9_refuse 14 = .ok (.aload_n 0, 1) := by decide +kernel
theorem dX9_refuse_15 : decode cX9_refuse 15 = .ok (.getfield 41, 3) := by decide +kernel
theorem dX9_refuse_18 : decode cX9_refuse 18 = .ok (.iload_n 1, 1) := by decide +kernel
theorem dX9_refuse_19 : decode cX9_refuse 19 = .ok (.dup2, 1) := by decide +kernel
theorem dX9_refuse_20 : decode cX9_refuse 20 = .ok (.iaload, 1) := by decide +kernel
theorem dX9_refuse_21 : decode cX9_refuse 21 = .ok (.iconst 1, 1) := by decide +kernel
theorem dX9_refuse_22 : decode cX9_refuse 22 = .ok (.iadd, 1) := by decide +kernel
theorem dX9_refuse_23 : decode cX9_refuse 23 = .ok (.iastore, 1) := by decide +kernel
theorem dX9_refuse_24 : decode cX9_refuse 24 = .ok (.iload_n 1, 1) := by decide +kernel
theorem dX9_refuse_25 : decode cX9_refuse 25 = .ok (.ineg, 1) := by decide +kernel
theorem dX9_refuse_26 : decode cX9_refuse 26 = .ok (.ireturn, 1) := by decide +kernel
theorem dX9_at_0 : decode cX9_at 0 = .ok (.iload_n 1, 1) := by decide +kernel
theorem dX9_at_1 : decode cX9_at 1 = .ok (.ifCond .lt 15, 3) := by decide +kernel
theorem dX9_at_4 : decode cX9_at 4 = .ok (.iload_n 1, 1) := by decide +kernel
theorem dX9_at_5 : decode cX9_at 5 = .ok (.aload_n 0, 1) := by decide +kernel
theorem dX9_at_6 : decode cX9_at 6 = .ok (.arraylength, 1) := by decide +kernel
theorem dX9_at_7 : decode cX9_at 7 = .ok (.if_icmp .ge 9, 3) := by decide +kernel
theorem dX9_at_10 : decode cX9_at 10 = .ok (.aload_n 0, 1) := by decide +kernel
theorem dX9_at_11 : decode cX9_at 11 = .ok (.iload_n 1, 1) := by decide +kernel
theorem dX9_at_12 : decode cX9_at 12 = .ok (.iaload, 1) := by decide +kernel
theorem dX9_at_13 : decode cX9_at 13 = .ok (.goto 4, 3) := by decide +kernel
theorem dX9_at_16 : decode cX9_at 16 = .ok (.iconst (-1), 1) := by decide +kernel
theorem dX9_at_17 : decode cX9_at 17 = .ok (.ireturn, 1) := by decide +kernel
theorem dX9_gap_0 : decode cX9_gap 0 = .ok (.iload_n 0, 1) := by decide +kernel
theorem dX9_gap_1 : decode cX9_gap 1 = .ok (.iload_n 1, 1) := by decide +kernel
theorem dX9_gap_2 : decode cX9_gap 2 = .ok (.if_icmp .le 9, 3) := by decide +kernel
theorem dX9_gap_5 : decode cX9_gap 5 = .ok (.iload_n 0, 1) := by decide +kernel
theorem dX9_gap_6 : decode cX9_gap 6 = .ok (.iload_n 1, 1) := by decide +kernel
theorem dX9_gap_7 : decode cX9_gap 7 = .ok (.isub, 1) := by decide +kernel
theorem dX9_gap_8 : decode cX9_gap 8 = .ok (.goto 6, 3) := by decide +kernel
theorem dX9_gap_11 : decode cX9_gap 11 = .ok (.iload_n 1, 1) := by decide +kernel
theorem dX9_gap_12 : decode cX9_gap 12 = .ok (.iload_n 0, 1) := by decide +kernel
theorem dX9_gap_13 : decode cX9_gap 13 = .ok (.isub, 1) := by decide +kernel
theorem dX9_gap_14 : decode cX9_gap 14 = .ok (.ireturn, 1) := by decide +kernel
