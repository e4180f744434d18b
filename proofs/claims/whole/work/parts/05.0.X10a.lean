set_option maxRecDepth 20000 in
theorem ggX10_init_X10_begin : GoodIn wsX10_init wsX10_begin := goodIn_r _ [21, 5, 22, 23, 24, 20, 25, 26, 27, 28, 29, 30, 31, 32, 33, 34, 35, 36, 37, 38, 39, 40, 41, 42, 43, 44, 45, 46, 47, 48] (by decide +kernel) (by decide +kernel)
set_option maxRecDepth 20000 in
theorem gX10_init_X10_begin : GoodIn wsX10_init (wsV RX10 45 RX10 yX10_begin wsX10_begin) := goodIn_app (goodIn_of _ (by decide +kernel)) ggX10_init_X10_begin
theorem dX10_init_0 : decode cX10_init 0 = .ok (.aload_n 0, 1) := by decide +kernel
theorem dX10_init_1 : decode cX10_init 1 = .ok (.invokespecial 1, 3) := by decide +kernel
theorem dX10_init_4 : decode cX10_init 4 = .ok (.aload_n 0, 1) := by decide +kernel
theorem dX10_init_5 : decode cX10_init 5 = .ok (.sipush 561, 3) := by decide +kernel
theorem dX10_init_8 : decode cX10_init 8 = .ok (.newarray .int, 2) := by decide +kernel
theorem dX10_init_10 : decode cX10_init 10 = .ok (.putfield 7, 3) := by decide +kernel
theorem dX10_init_13 : decode cX10_init 13 = .ok (.aload_n 0, 1) := by decide +kernel
theorem dX10_init_14 : decode cX10_init 14 = .ok (.sipush 561, 3) := by decide +kernel
theorem dX10_init_17 : decode cX10_init 17 = .ok (.newarray .int, 2) := by decide +kernel
theorem dX10_init_19 : decode cX10_init 19 = .ok (.putfield 13, 3) := by decide +kernel
theorem dX10_init_22 : decode cX10_init 22 = .ok (.aload_n 0, 1) := by decide +kernel
theorem dX10_init_23 : decode cX10_init 23 = .ok (.sipush 561, 3) := by decide +kernel
theorem dX10_init_26 : decode cX10_init 26 = .ok (.newarray .int, 2) := by decide +kernel
theorem dX10_init_28 : decode cX10_init 28 = .ok (.putfield 16, 3) := by decide +kernel
theorem dX10_init_31 : decode cX10_init 31 = .ok (.aload_n 0, 1) := by decide +kernel
theorem dX10_init_32 : decode cX10_init 32 = .ok (.sipush 4488, 3) := by decide +kernel
theorem dX10_init_35 : decode cX10_init 35 = .ok (.newarray .int, 2) := by decide +kernel
theorem dX10_init_37 : decode cX10_init 37 = .ok (.putfield 19, 3) := by decide +kernel
theorem dX10_init_40 : decode cX10_init 40 = .ok (.aload_n 0, 1) := by decide +kernel
theorem dX10_init_41 : decode cX10_init 41 = .ok (.sipush 1122, 3) := by decide +kernel
theorem dX10_init_44 : decode cX10_init 44 = .ok (.newarray .int, 2) := by decide +kernel
theorem dX10_init_46 : decode cX10_init 46 = .ok (.putfield 22, 3) := by decide +kernel
theorem dX10_init_49 : decode cX10_init 49 = .ok (.aload_n 0, 1) := by decide +kernel
theorem dX10_init_50 : decode cX10_init 50 = .ok (.iconst 2, 1) := by decide +kernel
theorem dX10_init_51 : decode cX10_init 51 = .ok (.newarray .boolean, 2) := by decide +kernel
theorem dX10_init_53 : decode cX10_init 53 = .ok (.putfield 25, 3) := by decide +kernel
theorem dX10_init_56 : decode cX10_init 56 = .ok (.aload_n 0, 1) := by decide +kernel
theorem dX10_init_57 : decode cX10_init 57 = .ok (.iconst 5, 1) := by decide +kernel
theorem dX10_init_58 : decode cX10_init 58 = .ok (.newarray .int, 2) := by decide +kernel
theorem dX10_init_60 : decode cX10_init 60 = .ok (.putfield 29, 3) := by decide +kernel
theorem dX10_init_63 : decode cX10_init 63 = .ok (.aload_n 0, 1) := by decide +kernel
theorem dX10_init_64 : decode cX10_init 64 = .ok (.sipush 500, 3) := by decide +kernel
theorem dX10_init_67 : decode cX10_init 67 = .ok (.newarray .int, 2) := by decide +kernel
theorem dX10_init_69 : decode cX10_init 69 = .ok (.putfield 32, 3) := by decide +kernel
theorem dX10_init_72 : decode cX10_init 72 = .ok (.aload_n 0, 1) := by decide +kernel
theorem dX10_init_73 : decode cX10_init 73 = .ok (.sipush 160, 3) := by decide +kernel
theorem dX10_init_76 : decode cX10_init 76 = .ok (.newarray .int, 2) := by decide +kernel
theorem dX10_init_78 : decode cX10_init 78 = .ok (.putfield 35, 3) := by decide +kernel
theorem dX10_init_81 : decode cX10_init 81 = .ok (.aload_n 0, 1) := by decide +kernel
theorem dX10_init_82 : decode cX10_init 82 = .ok (.iconst (-1), 1) := by decide +kernel
theorem dX10_init_83 : decode cX10_init 83 = .ok (.putfield 38, 3) := by decide +kernel
theorem dX10_init_86 : decode cX10_init 86 = .ok (.aload_n 0, 1) := by decide +kernel
theorem dX10_init_87 : decode cX10_init 87 = .ok (.sipush 300, 3) := by decide +kernel
theorem dX10_init_90 : decode cX10_init 90 = .ok (.newarray .int, 2) := by decide +kernel
theorem dX10_init_92 : decode cX10_init 92 = .ok (.putfield 42, 3) := by decide +kernel
theorem dX10_init_95 : decode cX10_init 95 = .ok (.aload_n 0, 1) := by decide +kernel
theorem dX10_init_96 : decode cX10_init 96 = .ok (.invokevirtual 45, 3) := by decide +kernel
theorem dX10_init_99 : decode cX10_init 99 = .ok (.return_, 1) := by decide +kernel
theorem dX10_thrown_0 : decode cX10_thrown 0 = .ok (.aload_n 0, 1) := by decide +kernel
theorem dX10_thrown_1 : decode cX10_thrown 1 = .ok (.getfield 48, 3) := by decide +kernel
theorem dX10_thrown_4 : decode cX10_thrown 4 = .ok (.ireturn, 1) := by decide +kernel
theorem dX10_fail_0 : decode cX10_fail 0 = .ok (.aload_n 0, 1) := by decide +kernel
theorem dX10_fail_1 : decode cX10_fail 1 = .ok (.iload_n 1, 1) := by decide +kernel
theorem dX10_fail_2 : decode cX10_fail 2 = .ok (.putfield 48, 3) := by decide +kernel
theorem dX10_fail_5 : decode cX10_fail 5 = .ok (.iconst 0, 1) := by decide +kernel
theorem dX10_fail_6 : decode cX10_fail 6 = .ok (.ireturn, 1) := by decide +kernel
theorem dX10_isBetween_0 : decode cX10_isBetween 0 = .ok (.iload_n 0, 1) := by decide +kernel
theorem dX10_isBetween_1 : decode cX10_isBetween 1 = .ok (.iload_n 1, 1) := by decide +kernel
theorem dX10_isBetween_2 : decode cX10_isBetween 2 = .ok (.if_icmp .lt 12, 3) := by decide +kernel
theorem dX10_isBetween_5 : decode cX10_isBetween 5 = .ok (.iload_n 0, 1) := by decide +kernel
theorem dX10_isBetween_6 : decode cX10_isBetween 6 = .ok (.iload_n 2, 1) := by decide +kernel
theorem dX10_isBetween_7 : decode cX10_isBetween 7 = .ok (.if_icmp .gt 7, 3) := by decide +kernel
theorem dX10_isBetween_10 : decode cX10_isBetween 10 = .ok (.iconst 1, 1) := by decide +kernel
theorem dX10_isBetween_11 : decode cX10_isBetween 11 = .ok (.goto 4, 3) := by decide +kernel
theorem dX10_isBetween_14 : decode cX10_isBetween 14 = .ok (.iconst 0, 1) := by decide +kernel
theorem dX10_isBetween_15 : decode cX10_isBetween 15 = .ok (.ireturn, 1) := by decide +kernel
theorem dX10_copy_0 : decode cX10_copy 0 = .ok (.iconst 0, 1) := by decide +kernel
theorem dX10_copy_1 : decode cX10_copy 1 = .ok (.istore 4, 2) := by decide +kernel
theorem dX10_copy_3 : decode cX10_copy 3 = .ok (.iload 4, 2) := by decide +kernel
theorem dX10_copy_5 : decode cX10_copy 5 = .ok (.sipush 561, 3) := by decide +kernel
theorem dX10_copy_8 : decode cX10_copy 8 = .ok (.if_icmp .ge 21, 3) := by decide +kernel
theorem dX10_copy_11 : decode cX10_copy 11 = .ok (.aload_n 2, 1) := by decide +kernel
theorem dX10_copy_12 : decode cX10_copy 12 = .ok (.iload_n 3, 1) := by decide +kernel
theorem dX10_copy_13 : decode cX10_copy 13 = .ok (.iload 4, 2) := by decide +kernel
theorem dX10_copy_15 : decode cX10_copy 15 = .ok (.iadd, 1) := by decide +kernel
theorem dX10_copy_16 : decode cX10_copy 16 = .ok (.aload_n 0, 1) := by decide +kernel
theorem dX10_copy_17 : decode cX10_copy 17 = .ok (.iload_n 1, 1) := by decide +kernel
theorem dX10_copy_18 : decode cX10_copy 18 = .ok (.iload 4, 2) := by decide +kernel
theorem dX10_copy_20 : decode cX10_copy 20 = .ok (.iadd, 1) := by decide +kernel
theorem dX10_copy_21 : decode cX10_copy 21 = .ok (.iaload, 1) := by decide +kernel
theorem dX10_copy_22 : decode cX10_copy 22 = .ok (.iastore, 1) := by decide +kernel
theorem dX10_copy_23 : decode cX10_copy 23 = .ok (.iinc 4 1, 3) := by decide +kernel
theorem dX10_copy_26 : decode cX10_copy 26 = .ok (.goto (-23), 3) := by decide +kernel
theorem dX10_copy_29 : decode cX10_copy 29 = .ok (.return_, 1) := by decide +kernel
set_option maxRecDepth 20000 in
theorem ggX10_begin_X10_layKind : GoodIn wsX10_begin wsX10_layKind := goodIn_r _ [6, 1, 7, 8, 9, 10, 11, 12, 13, 14, 15, 16, 17, 18, 19, 20, 21, 22, 23, 24, 25, 26, 27, 28, 29] (by decide +kernel) (by decide +kernel)
set_option maxRecDepth 20000 in
theorem gX10_begin_X10_layKind : GoodIn wsX10_begin (wsV RX10 51 RX10 yX10_layKind wsX10_layKind) := goodIn_app (goodIn_of _ (by decide +kernel)) ggX10_begin_X10_layKind
theorem dX10_begin_0 : decode cX10_begin 0 = .ok (.iconst 0, 1) := by decide +kernel
theorem dX10_begin_1 : decode cX10_begin 1 = .ok (.istore_n 1, 1) := by decide +kernel
theorem dX10_begin_2 : decode cX10_begin 2 = .ok (.iload_n 1, 1) := by decide +kernel
theorem dX10_begin_3 : decode cX10_begin 3 = .ok (.sipush 561, 3) := by decide +kernel
theorem dX10_begin_6 : decode cX10_begin 6 = .ok (.if_icmp .ge 16, 3) := by decide +kernel
theorem dX10_begin_9 : decode cX10_begin 9 = .ok (.aload_n 0, 1) := by decide +kernel
theorem dX10_begin_10 : decode cX10_begin 10 = .ok (.getfield 7, 3) := by decide +kernel
theorem dX10_begin_13 : decode cX10_begin 13 = .ok (.iload_n 1, 1) := by decide +kernel
theorem dX10_begin_14 : decode cX10_begin 14 = .ok (.iconst 0, 1) := by decide +kernel
theorem dX10_begin_15 : decode cX10_begin 15 = .ok (.iastore, 1) := by decide +kernel
theorem dX10_begin_16 : decode cX10_begin 16 = .ok (.iinc 1 1, 3) := by decide +kernel
theorem dX10_begin_19 : decode cX10_begin 19 = .ok (.goto (-17), 3) := by decide +kernel
theorem dX10_begin_22 : decode cX10_begin 22 = .ok (.aload_n 0, 1) := by decide +kernel
theorem dX10_begin_23 : decode cX10_begin 23 = .ok (.getfield 7, 3) := by decide +kernel
theorem dX10_begin_26 : decode cX10_begin 26 = .ok (.iconst 4, 1) := by decide +kernel
theorem dX10_begin_27 : decode cX10_begin 27 = .ok (.iconst (-1), 1) := by decide +kernel
theorem dX10_begin_28 : decode cX10_begin 28 = .ok (.iastore, 1) := by decide +kernel
theorem dX10_begin_29 : decode cX10_begin 29 = .ok (.aload_n 0, 1) := by decide +kernel
theorem dX10_begin_30 : decode cX10_begin 30 = .ok (.getfield 7, 3) := by decide +kernel
theorem dX10_begin_33 : decode cX10_begin 33 = .ok (.bipush 12, 2) := by decide +kernel
theorem dX10_begin_35 : decode cX10_begin 35 = .ok (.iconst 1, 1) := by decide +kernel
theorem dX10_begin_36 : decode cX10_begin 36 = .ok (.iastore, 1) := by decide +kernel
theorem dX10_begin_37 : decode cX10_begin 37 = .ok (.aload_n 0, 1) := by decide +kernel
theorem dX10_begin_38 : decode cX10_begin 38 = .ok (.getfield 7, 3) := by decide +kernel
theorem dX10_begin_41 : decode cX10_begin 41 = .ok (.bipush 17, 2) := by decide +kernel
theorem dX10_begin_43 : decode cX10_begin 43 = .ok (.bipush 10, 2) := by decide +kernel
theorem dX10_begin_45 : decode cX10_begin 45 = .ok (.iastore, 1) := by decide +kernel
theorem dX10_begin_46 : decode cX10_begin 46 = .ok (.aload_n 0, 1) := by decide +kernel
theorem dX10_begin_47 : decode cX10_begin 47 = .ok (.getfield 7, 3) := by decide +kernel
theorem dX10_begin_50 : decode cX10_begin 50 = .ok (.bipush 20, 2) := by decide +kernel
theorem dX10_begin_52 : decode cX10_begin 52 = .ok (.bipush 100, 2) := by decide +kernel
theorem dX10_begin_54 : decode cX10_begin 54 = .ok (.iastore, 1) := by decide +kernel
theorem dX10_begin_55 : decode cX10_begin 55 = .ok (.aload_n 0, 1) := by decide +kernel
theorem dX10_begin_56 : decode cX10_begin 56 = .ok (.getfield 7, 3) := by decide +kernel
theorem dX10_begin_59 : decode cX10_begin 59 = .ok (.bipush 21, 2) := by decide +kernel
theorem dX10_begin_61 : decode cX10_begin 61 = .ok (.bipush 10, 2) := by decide +kernel
theorem dX10_begin_63 : decode cX10_begin 63 = .ok (.iastore, 1) := by decide +kernel
theorem dX10_begin_64 : decode cX10_begin 64 = .ok (.aload_n 0, 1) := by decide +kernel
theorem dX10_begin_65 : decode cX10_begin 65 = .ok (.getfield 7, 3) := by decide +kernel
theorem dX10_begin_68 : decode cX10_begin 68 = .ok (.bipush 22, 2) := by decide +kernel
theorem dX10_begin_70 : decode cX10_begin 70 = .ok (.sipush 1000, 3) := by decide +kernel
theorem dX10_begin_73 : decode cX10_begin 73 = .ok (.iastore, 1) := by decide +kernel
theorem dX10_begin_74 : decode cX10_begin 74 = .ok (.aload_n 0, 1) := by decide +kernel
theorem dX10_begin_75 : decode cX10_begin 75 = .ok (.getfield 7, 3) := by decide +kernel
theorem dX10_begin_78 : decode cX10_begin 78 = .ok (.bipush 23, 2) := by decide +kernel
theorem dX10_begin_80 : decode cX10_begin 80 = .ok (.sipush 1000, 3) := by decide +kernel
theorem dX10_begin_83 : decode cX10_begin 83 = .ok (.iastore, 1) := by decide +kernel
theorem dX10_begin_84 : decode cX10_begin 84 = .ok (.aload_n 0, 1) := by decide +kernel
theorem dX10_begin_85 : decode cX10_begin 85 = .ok (.getfield 7, 3) := by decide +kernel
theorem dX10_begin_88 : decode cX10_begin 88 = .ok (.bipush 24, 2) := by decide +kernel
theorem dX10_begin_90 : decode cX10_begin 90 = .ok (.iconst 2, 1) := by decide +kernel
theorem dX10_begin_91 : decode cX10_begin 91 = .ok (.iastore, 1) := by decide +kernel
theorem dX10_begin_92 : decode cX10_begin 92 = .ok (.aload_n 0, 1) := by decide +kernel
theorem dX10_begin_93 : decode cX10_begin 93 = .ok (.getfield 7, 3) := by decide +kernel
theorem dX10_begin_96 : decode cX10_begin 96 = .ok (.bipush 25, 2) := by decide +kernel
theorem dX10_begin_98 : decode cX10_begin 98 = .ok (.iconst 5, 1) := by decide +kernel
theorem dX10_begin_99 : decode cX10_begin 99 = .ok (.iastore, 1) := by decide +kernel
theorem dX10_begin_100 : decode cX10_begin 100 = .ok (.aload_n 0, 1) := by decide +kernel
theorem dX10_begin_101 : decode cX10_begin 101 = .ok (.getfield 7, 3) := by decide +kernel
theorem dX10_begin_104 : decode cX10_begin 104 = .ok (.bipush 26, 2) := by decide +kernel
theorem dX10_begin_106 : decode cX10_begin 106 = .ok (.iconst 2, 1) := by decide +kernel
theorem dX10_begin_107 : decode cX10_begin 107 = .ok (.iastore, 1) := by decide +kernel
theorem dX10_begin_108 : decode cX10_begin 108 = .ok (.aload_n 0, 1) := by decide +kernel
theorem dX10_begin_109 : decode cX10_begin 109 = .ok (.getfield 7, 3) := by decide +kernel
theorem dX10_begin_112 : decode cX10_begin 112 = .ok (.bipush 27, 2) := by decide +kernel
theorem dX10_begin_114 : decode cX10_begin 114 = .ok (.iconst 3, 1) := by decide +kernel
theorem dX10_begin_115 : decode cX10_begin 115 = .ok (.iastore, 1) := by decide +kernel
theorem dX10_begin_116 : decode cX10_begin 116 = .ok (.aload_n 0, 1) := by decide +kernel
theorem dX10_begin_117 : decode cX10_begin 117 = .ok (.getfield 7, 3) := by decide +kernel
theorem dX10_begin_120 : decode cX10_begin 120 = .ok (.bipush 28, 2) := by decide +kernel
theorem dX10_begin_122 : decode cX10_begin 122 = .ok (.iconst 5, 1) := by decide +kernel
theorem dX10_begin_123 : decode cX10_begin 123 = .ok (.iastore, 1) := by decide +kernel
theorem dX10_begin_124 : decode cX10_begin 124 = .ok (.iconst 0, 1) := by decide +kernel
theorem dX10_begin_125 : decode cX10_begin 125 = .ok (.istore_n 1, 1) := by decide +kernel
theorem dX10_begin_126 : decode cX10_begin 126 = .ok (.iload_n 1, 1) := by decide +kernel
theorem dX10_begin_127 : decode cX10_begin 127 = .ok (.iconst 4, 1) := by decide +kernel
theorem dX10_begin_128 : decode cX10_begin 128 = .ok (.if_icmp .ge 21, 3) := by decide +kernel
theorem dX10_begin_131 : decode cX10_begin 131 = .ok (.aload_n 0, 1) := by decide +kernel
theorem dX10_begin_132 : decode cX10_begin 132 = .ok (.iload_n 1, 1) := by decide +kernel
theorem dX10_begin_133 : decode cX10_begin 133 = .ok (.bipush 100, 2) := by decide +kernel
theorem dX10_begin_135 : decode cX10_begin 135 = .ok (.bipush 10, 2) := by decide +kernel
theorem dX10_begin_137 : decode cX10_begin 137 = .ok (.iload_n 1, 1) := by decide +kernel
theorem dX10_begin_138 : decode cX10_begin 138 = .ok (.iconst 1, 1) := by decide +kernel
theorem dX10_begin_139 : decode cX10_begin 139 = .ok (.iadd, 1) := by decide +kernel
theorem dX10_begin_140 : decode cX10_begin 140 = .ok (.invokevirtual 51, 3) := by decide +kernel
theorem dX10_begin_143 : decode cX10_begin 143 = .ok (.iinc 1 1, 3) := by decide +kernel
theorem dX10_begin_146 : decode cX10_begin 146 = .ok (.goto (-20), 3) := by decide +kernel
theorem dX10_begin_149 : decode cX10_begin 149 = .ok (.return_, 1) := by decide +kernel
theorem dX10_ofKind_0 : decode cX10_ofKind 0 = .ok (.aload_n 0, 1) := by decide +kernel
theorem dX10_ofKind_1 : decode cX10_ofKind 1 = .ok (.getfield 7, 3) := by decide +kernel
theorem dX10_ofKind_4 : decode cX10_ofKind 4 = .ok (.bipush 29, 2) := by decide +kernel
theorem dX10_ofKind_6 : decode cX10_ofKind 6 = .ok (.iconst 3, 1) := by decide +kernel
theorem dX10_ofKind_7 : decode cX10_ofKind 7 = .ok (.iload_n 1, 1) := by decide +kernel
theorem dX10_ofKind_8 : decode cX10_ofKind 8 = .ok (.imul, 1) := by decide +kernel
theorem dX10_ofKind_9 : decode cX10_ofKind 9 = .ok (.iadd, 1) := by decide +kernel
theorem dX10_ofKind_10 : decode cX10_ofKind 10 = .ok (.iload_n 2, 1) := by decide +kernel
theorem dX10_ofKind_11 : decode cX10_ofKind 11 = .ok (.iadd, 1) := by decide +kernel
theorem dX10_ofKind_12 : decode cX10_ofKind 12 = .ok (.iaload, 1) := by decide +kernel
theorem dX10_ofKind_13 : decode cX10_ofKind 13 = .ok (.ireturn, 1) := by decide +kernel
theorem dX10_layKind_0 : decode cX10_layKind 0 = .ok (.bipush 29, 2) := by decide +kernel
theorem dX10_layKind_2 : decode cX10_layKind 2 = .ok (.iconst 3, 1) := by decide +kernel
theorem dX10_layKind_3 : decode cX10_layKind 3 = .ok (.iload_n 1, 1) := by decide +kernel
theorem dX10_layKind_4 : decode cX10_layKind 4 = .ok (.imul, 1) := by decide +kernel
theorem dX10_layKind_5 : decode cX10_layKind 5 = .ok (.iadd, 1) := by decide +kernel
theorem dX10_layKind_6 : decode cX10_layKind 6 = .ok (.istore 5, 2) := by decide +kernel
theorem dX10_layKind_8 : decode cX10_layKind 8 = .ok (.aload_n 0, 1) := by decide +kernel
theorem dX10_layKind_9 : decode cX10_layKind 9 = .ok (.getfield 7, 3) := by decide +kernel
theorem dX10_layKind_12 : decode cX10_layKind 12 = .ok (.iload 5, 2) := by decide +kernel
theorem dX10_layKind_14 : decode cX10_layKind 14 = .ok (.iload_n 2, 1) := by decide +kernel
theorem dX10_layKind_15 : decode cX10_layKind 15 = .ok (.iastore, 1) := by decide +kernel
theorem dX10_layKind_16 : decode cX10_layKind 16 = .ok (.aload_n 0, 1) := by decide +kernel
theorem dX10_layKind_17 : decode cX10_layKind 17 = .ok (.getfield 7, 3) := by decide +kernel
theorem dX10_layKind_20 : decode cX10_layKind 20 = .ok (.iload 5, 2) := by decide +kernel
theorem dX10_layKind_22 : decode cX10_layKind 22 = .ok (.iconst 1, 1) := by decide +kernel
theorem dX10_layKind_23 : decode cX10_layKind 23 = .ok (.iadd, 1) := by decide +kernel
theorem dX10_layKind_24 : decode cX10_layKind 24 = .ok (.iload_n 3, 1) := by decide +kernel
theorem dX10_layKind_25 : decode cX10_layKind 25 = .ok (.iastore, 1) := by decide +kernel
theorem dX10_layKind_26 : decode cX10_layKind 26 = .ok (.aload_n 0, 1) := by decide +kernel
theorem dX10_layKind_27 : decode cX10_layKind 27 = .ok (.getfield 7, 3) := by decide +kernel
theorem dX10_layKind_30 : decode cX10_layKind 30 = .ok (.iload 5, 2) := by decide +kernel
theorem dX10_layKind_32 : decode cX10_layKind 32 = .ok (.iconst 2, 1) := by decide +kernel
theorem dX10_layKind_33 : decode cX10_layKind 33 = .ok (.iadd, 1) := by decide +kernel
theorem dX10_layKind_34 : decode cX10_layKind 34 = .ok (.iload 4, 2) := by decide +kernel
theorem dX10_layKind_36 : decode cX10_layKind 36 = .ok (.iastore, 1) := by decide +kernel
theorem dX10_layKind_37 : decode cX10_layKind 37 = .ok (.return_, 1) := by decide +kernel
theorem dX10_ofCar_0 : decode cX10_ofCar 0 = .ok (.aload_n 0, 1) := by decide +kernel
theorem dX10_ofCar_1 : decode cX10_ofCar 1 = .ok (.getfield 7, 3) := by decide +kernel
theorem dX10_ofCar_4 : decode cX10_ofCar 4 = .ok (.bipush 61, 2) := by decide +kernel
theorem dX10_ofCar_6 : decode cX10_ofCar 6 = .ok (.bipush 7, 2) := by decide +kernel
theorem dX10_ofCar_8 : decode cX10_ofCar 8 = .ok (.iload_n 1, 1) := by decide +kernel
theorem dX10_ofCar_9 : decode cX10_ofCar 9 = .ok (.imul, 1) := by decide +kernel
theorem dX10_ofCar_10 : decode cX10_ofCar 10 = .ok (.iadd, 1) := by decide +kernel
theorem dX10_ofCar_11 : decode cX10_ofCar 11 = .ok (.iload_n 2, 1) := by decide +kernel
theorem dX10_ofCar_12 : decode cX10_ofCar 12 = .ok (.iadd, 1) := by decide +kernel
theorem dX10_ofCar_13 : decode cX10_ofCar 13 = .ok (.iaload, 1) := by decide +kernel
theorem dX10_ofCar_14 : decode cX10_ofCar 14 = .ok (.ireturn, 1) := by decide +kernel
theorem dX10_layCar_0 : decode cX10_layCar 0 = .ok (.aload_n 0, 1) := by decide +kernel
theorem dX10_layCar_1 : decode cX10_layCar 1 = .ok (.getfield 7, 3) := by decide +kernel
theorem dX10_layCar_4 : decode cX10_layCar 4 = .ok (.bipush 61, 2) := by decide +kernel
theorem dX10_layCar_6 : decode cX10_layCar 6 = .ok (.bipush 7, 2) := by decide +kernel
theorem dX10_layCar_8 : decode cX10_layCar 8 = .ok (.iload_n 1, 1) := by decide +kernel
theorem dX10_layCar_9 : decode cX10_layCar 9 = .ok (.imul, 1) := by decide +kernel
theorem dX10_layCar_10 : decode cX10_layCar 10 = .ok (.iadd, 1) := by decide +kernel
theorem dX10_layCar_11 : decode cX10_layCar 11 = .ok (.iload_n 2, 1) := by decide +kernel
theorem dX10_layCar_12 : decode cX10_layCar 12 = .ok (.iadd, 1) := by decide +kernel
theorem dX10_layCar_13 : decode cX10_layCar 13 = .ok (.iload_n 3, 1) := by decide +kernel
theorem dX10_layCar_14 : decode cX10_layCar 14 = .ok (.iastore, 1) := by decide +kernel
theorem dX10_layCar_15 : decode cX10_layCar 15 = .ok (.return_, 1) := by decide +kernel
set_option maxRecDepth 20000 in
theorem ggX10_kindOf_X10_ofCar : GoodIn wsX10_kindOf wsX10_ofCar := goodIn_r _ [5, 6, 11, 12, 13, 14, 15, 16, 17, 18, 19, 20, 21, 22, 23, 24, 25, 26, 27, 28, 29, 30, 31, 32, 33] (by decide +kernel) (by decide +kernel)
set_option maxRecDepth 20000 in
theorem gX10_kindOf_X10_ofCar : GoodIn wsX10_kindOf (wsV RX10 55 RX10 yX10_ofCar wsX10_ofCar) := goodIn_app (goodIn_of _ (by decide +kernel)) ggX10_kindOf_X10_ofCar
set_option maxRecDepth 20000 in
theorem ggX10_kindOf_X10_ofKind : GoodIn wsX10_kindOf wsX10_ofKind := goodIn_r _ [10, 6, 11, 12, 13, 14, 15, 16, 17, 18, 19, 20, 21, 22, 23, 24, 25, 26, 27, 28, 29, 30, 31, 32, 33] (by decide +kernel) (by decide +kernel)
set_option maxRecDepth 20000 in
theorem gX10_kindOf_X10_ofKind : GoodIn wsX10_kindOf (wsV RX10 59 RX10 yX10_ofKind wsX10_ofKind) := goodIn_app (goodIn_of _ (by decide +kernel)) ggX10_kindOf_X10_ofKind
theorem dX10_kindOf_0 : decode cX10_kindOf 0 = .ok (.aload_n 0, 1) := by decide +kernel
theorem dX10_kindOf_1 : decode cX10_kindOf 1 = .ok (.aload_n 0, 1) := by decide +kernel
theorem dX10_kindOf_2 : decode cX10_kindOf 2 = .ok (.iload_n 1, 1) := by decide +kernel
theorem dX10_kindOf_3 : decode cX10_kindOf 3 = .ok (.iconst 0, 1) := by decide +kernel
theorem dX10_kindOf_4 : decode cX10_kindOf 4 = .ok (.invokevirtual 55, 3) := by decide +kernel
theorem dX10_kindOf_7 : decode cX10_kindOf 7 = .ok (.iload_n 2, 1) := by decide +kernel
theorem dX10_kindOf_8 : decode cX10_kindOf 8 = .ok (.invokevirtual 59, 3) := by decide +kernel
theorem dX10_kindOf_11 : decode cX10_kindOf 11 = .ok (.ireturn, 1) := by decide +kernel
set_option maxRecDepth 20000 in
theorem ggX10_isCar_X10_isBetween : GoodIn wsX10_isCar wsX10_isBetween := goodIn_r _ [5] (by decide +kernel) (by decide +kernel)
set_option maxRecDepth 20000 in
theorem gX10_isCar_X10_isBetween : GoodIn wsX10_isCar (va_wsS RX10 62 yX10_isBetween wsX10_isBetween) := goodIn_app (goodIn_of _ (by decide +kernel)) ggX10_isCar_X10_isBetween
theorem dX10_isCar_0 : decode cX10_isCar 0 = .ok (.iload_n 1, 1) := by decide +kernel
theorem dX10_isCar_1 : decode cX10_isCar 1 = .ok (.iconst 0, 1) := by decide +kernel
theorem dX10_isCar_2 : decode cX10_isCar 2 = .ok (.aload_n 0, 1) := by decide +kernel
theorem dX10_isCar_3 : decode cX10_isCar 3 = .ok (.getfield 7, 3) := by decide +kernel
theorem dX10_isCar_6 : decode cX10_isCar 6 = .ok (.bipush 13, 2) := by decide +kernel
theorem dX10_isCar_8 : decode cX10_isCar 8 = .ok (.iaload, 1) := by decide +kernel
theorem dX10_isCar_9 : decode cX10_isCar 9 = .ok (.iconst 1, 1) := by decide +kernel
theorem dX10_isCar_10 : decode cX10_isCar 10 = .ok (.isub, 1) := by decide +kernel
theorem dX10_isCar_11 : decode cX10_isCar 11 = .ok (.invokestatic 62, 3) := by decide +kernel
theorem dX10_isCar_14 : decode cX10_isCar 14 = .ok (.ireturn, 1) := by decide +kernel
set_option maxRecDepth 20000 in
theorem ggX10_isKind_X10_isBetween : GoodIn wsX10_isKind wsX10_isBetween := goodIn_r _ [4] (by decide +kernel) (by decide +kernel)
set_option maxRecDepth 20000 in
theorem gX10_isKind_X10_isBetween : GoodIn wsX10_isKind (va_wsS RX10 62 yX10_isBetween wsX10_isBetween) := goodIn_app (goodIn_of _ (by decide +kernel)) ggX10_isKind_X10_isBetween
theorem dX10_isKind_0 : decode cX10_isKind 0 = .ok (.iload_n 0, 1) := by decide +kernel
theorem dX10_isKind_1 : decode cX10_isKind 1 = .ok (.iconst 0, 1) := by decide +kernel
theorem dX10_isKind_2 : decode cX10_isKind 2 = .ok (.iconst 3, 1) := by decide +kernel
theorem dX10_isKind_3 : decode cX10_isKind 3 = .ok (.invokestatic 62, 3) := by decide +kernel
theorem dX10_isKind_6 : decode cX10_isKind 6 = .ok (.ireturn, 1) := by decide +kernel
set_option maxRecDepth 20000 in
theorem ggX10_isLane_X10_isBetween : GoodIn wsX10_isLane wsX10_isBetween := goodIn_r _ [4] (by decide +kernel) (by decide +kernel)
set_option maxRecDepth 20000 in
theorem gX10_isLane_X10_isBetween : GoodIn wsX10_isLane (va_wsS RX10 62 yX10_isBetween wsX10_isBetween) := goodIn_app (goodIn_of _ (by decide +kernel)) ggX10_isLane_X10_isBetween
theorem dX10_isLane_0 : decode cX10_isLane 0 = .ok (.iload_n 0, 1) := by decide +kernel
theorem dX10_isLane_1 : decode cX10_isLane 1 = .ok (.iconst 0, 1) := by decide +kernel
theorem dX10_isLane_2 : decode cX10_isLane 2 = .ok (.iconst 2, 1) := by decide +kernel
theorem dX10_isLane_3 : decode cX10_isLane 3 = .ok (.invokestatic 62, 3) := by decide +kernel
theorem dX10_isLane_6 : decode cX10_isLane 6 = .ok (.ireturn, 1) := by decide +kernel
set_option maxRecDepth 20000 in
theorem ggX10_isQueued_X10_isCar : GoodIn wsX10_isQueued wsX10_isCar := goodIn_r _ [5, 6, 7, 8, 4, 9, 14, 15, 16, 17, 18, 19, 20, 21, 22, 23, 24, 25, 26, 27, 28, 29, 30, 31, 32, 33, 34, 35, 36] (by decide +kernel) (by decide +kernel)
set_option maxRecDepth 20000 in
theorem gX10_isQueued_X10_isCar : GoodIn wsX10_isQueued (wsV RX10 66 RX10 yX10_isCar wsX10_isCar) := goodIn_app (goodIn_of _ (by decide +kernel)) ggX10_isQueued_X10_isCar
set_option maxRecDepth 20000 in
theorem ggX10_isQueued_X10_ofCar : GoodIn wsX10_isQueued wsX10_ofCar := goodIn_r _ [13, 6, 14, 15, 16, 17, 18, 19, 20, 21, 22, 23, 24, 25, 26, 27, 28, 29, 30, 31, 32, 33, 34, 35, 36] (by decide +kernel) (by decide +kernel)
set_option maxRecDepth 20000 in
theorem gX10_isQueued_X10_ofCar : GoodIn wsX10_isQueued (wsV RX10 55 RX10 yX10_ofCar wsX10_ofCar) := goodIn_app (goodIn_of _ (by decide +kernel)) ggX10_isQueued_X10_ofCar
theorem dX10_isQueued_0 : decode cX10_isQueued 0 = .ok (.aload_n 0, 1) := by decide +kernel
theorem dX10_isQueued_1 : decode cX10_isQueued 1 = .ok (.iload_n 1, 1) := by decide +kernel
theorem dX10_isQueued_2 : decode cX10_isQueued 2 = .ok (.invokevirtual 66, 3) := by decide +kernel
theorem dX10_isQueued_5 : decode cX10_isQueued 5 = .ok (.ifCond .eq 16, 3) := by decide +kernel
theorem dX10_isQueued_8 : decode cX10_isQueued 8 = .ok (.aload_n 0, 1) := by decide +kernel
theorem dX10_isQueued_9 : decode cX10_isQueued 9 = .ok (.iload_n 1, 1) := by decide +kernel
theorem dX10_isQueued_10 : decode cX10_isQueued 10 = .ok (.iconst 2, 1) := by decide +kernel
theorem dX10_isQueued_11 : decode cX10_isQueued 11 = .ok (.invokevirtual 55, 3) := by decide +kernel
theorem dX10_isQueued_14 : decode cX10_isQueued 14 = .ok (.ifCond .ne 7, 3) := by decide +kernel
theorem dX10_isQueued_17 : decode cX10_isQueued 17 = .ok (.iconst 1, 1) := by decide +kernel
theorem dX10_isQueued_18 : decode cX10_isQueued 18 = .ok (.goto 4, 3) := by decide +kernel
theorem dX10_isQueued_21 : decode cX10_isQueued 21 = .ok (.iconst 0, 1) := by decide +kernel
theorem dX10_isQueued_22 : decode cX10_isQueued 22 = .ok (.ireturn, 1) := by decide +kernel
theorem dX10_tideAt_0 : decode cX10_tideAt 0 = .ok (.aload_n 0, 1) := by decide +kernel
theorem dX10_tideAt_1 : decode cX10_tideAt 1 = .ok (.getfield 7, 3) := by decide +kernel
theorem dX10_tideAt_4 : decode cX10_tideAt 4 = .ok (.bipush 17, 2) := by decide +kernel
theorem dX10_tideAt_6 : decode cX10_tideAt 6 = .ok (.iaload, 1) := by decide +kernel
theorem dX10_tideAt_7 : decode cX10_tideAt 7 = .ok (.istore_n 2, 1) := by decide +kernel
theorem dX10_tideAt_8 : decode cX10_tideAt 8 = .ok (.iload_n 1, 1) := by decide +kernel
theorem dX10_tideAt_9 : decode cX10_tideAt 9 = .ok (.iconst 2, 1) := by decide +kernel
theorem dX10_tideAt_10 : decode cX10_tideAt 10 = .ok (.iload_n 2, 1) := by decide +kernel
theorem dX10_tideAt_11 : decode cX10_tideAt 11 = .ok (.imul, 1) := by decide +kernel
theorem dX10_tideAt_12 : decode cX10_tideAt 12 = .ok (.irem, 1) := by decide +kernel
theorem dX10_tideAt_13 : decode cX10_tideAt 13 = .ok (.istore_n 3, 1) := by decide +kernel
theorem dX10_tideAt_14 : decode cX10_tideAt 14 = .ok (.iload_n 3, 1) := by decide +kernel
theorem dX10_tideAt_15 : decode cX10_tideAt 15 = .ok (.iload_n 2, 1) := by decide +kernel
theorem dX10_tideAt_16 : decode cX10_tideAt 16 = .ok (.if_icmp .gt 7, 3) := by decide +kernel
theorem dX10_tideAt_19 : decode cX10_tideAt 19 = .ok (.iload_n 3, 1) := by decide +kernel
theorem dX10_tideAt_20 : decode cX10_tideAt 20 = .ok (.goto 8, 3) := by decide +kernel
theorem dX10_tideAt_23 : decode cX10_tideAt 23 = .ok (.iconst 2, 1) := by decide +kernel
theorem dX10_tideAt_24 : decode cX10_tideAt 24 = .ok (.iload_n 2, 1) := by decide +kernel
theorem dX10_tideAt_25 : decode cX10_tideAt 25 = .ok (.imul, 1) := by decide +kernel
theorem dX10_tideAt_26 : decode cX10_tideAt 26 = .ok (.iload_n 3, 1) := by decide +kernel
theorem dX10_tideAt_27 : decode cX10_tideAt 27 = .ok (.isub, 1) := by decide +kernel
theorem dX10_tideAt_28 : decode cX10_tideAt 28 = .ok (.istore 4, 2) := by decide +kernel
theorem dX10_tideAt_30 : decode cX10_tideAt 30 = .ok (.aload_n 0, 1) := by decide +kernel
theorem dX10_tideAt_31 : decode cX10_tideAt 31 = .ok (.getfield 7, 3) := by decide +kernel
theorem dX10_tideAt_34 : decode cX10_tideAt 34 = .ok (.bipush 15, 2) := by decide +kernel
theorem dX10_tideAt_36 : decode cX10_tideAt 36 = .ok (.iaload, 1) := by decide +kernel
theorem dX10_tideAt_37 : decode cX10_tideAt 37 = .ok (.aload_n 0, 1) := by decide +kernel
theorem dX10_tideAt_38 : decode cX10_tideAt 38 = .ok (.getfield 7, 3) := by decide +kernel
theorem dX10_tideAt_41 : decode cX10_tideAt 41 = .ok (.bipush 16, 2) := by decide +kernel
theorem dX10_tideAt_43 : decode cX10_tideAt 43 = .ok (.iaload, 1) := by decide +kernel
theorem dX10_tideAt_44 : decode cX10_tideAt 44 = .ok (.aload_n 0, 1) := by decide +kernel
theorem dX10_tideAt_45 : decode cX10_tideAt 45 = .ok (.getfield 7, 3) := by decide +kernel
theorem dX10_tideAt_48 : decode cX10_tideAt 48 = .ok (.bipush 15, 2) := by decide +kernel
theorem dX10_tideAt_50 : decode cX10_tideAt 50 = .ok (.iaload, 1) := by decide +kernel
theorem dX10_tideAt_51 : decode cX10_tideAt 51 = .ok (.isub, 1) := by decide +kernel
theorem dX10_tideAt_52 : decode cX10_tideAt 52 = .ok (.iload 4, 2) := by decide +kernel
theorem dX10_tideAt_54 : decode cX10_tideAt 54 = .ok (.imul, 1) := by decide +kernel
theorem dX10_tideAt_55 : decode cX10_tideAt 55 = .ok (.iload_n 2, 1) := by decide +kernel
theorem dX10_tideAt_56 : decode cX10_tideAt 56 = .ok (.idiv, 1) := by decide +kernel
theorem dX10_tideAt_57 : decode cX10_tideAt 57 = .ok (.iadd, 1) := by decide +kernel
theorem dX10_tideAt_58 : decode cX10_tideAt 58 = .ok (.ireturn, 1) := by decide +kernel
set_option maxRecDepth 20000 in
theorem ggX10_weightOnDeck_X10_ofCar : GoodIn wsX10_weightOnDeck wsX10_ofCar := goodIn_r _ [6, 1, 7, 8, 9, 10, 11, 12, 13, 14, 15, 16, 17, 18, 19, 20, 21, 22, 23, 24, 25, 26, 27, 28, 29] (by decide +kernel) (by decide +kernel)
set_option maxRecDepth 20000 in
theorem gX10_weightOnDeck_X10_ofCar : GoodIn wsX10_weightOnDeck (wsV RX10 55 RX10 yX10_ofCar wsX10_ofCar) := goodIn_app (goodIn_of _ (by decide +kernel)) ggX10_weightOnDeck_X10_ofCar
theorem dX10_weightOnDeck_0 : decode cX10_weightOnDeck 0 = .ok (.iconst 0, 1) := by decide +kernel
theorem dX10_weightOnDeck_1 : decode cX10_weightOnDeck 1 = .ok (.istore_n 1, 1) := by decide +kernel
theorem dX10_weightOnDeck_2 : decode cX10_weightOnDeck 2 = .ok (.iconst 0, 1) := by decide +kernel
theorem dX10_weightOnDeck_3 : decode cX10_weightOnDeck 3 = .ok (.istore_n 2, 1) := by decide +kernel
theorem dX10_weightOnDeck_4 : decode cX10_weightOnDeck 4 = .ok (.iload_n 2, 1) := by decide +kernel
theorem dX10_weightOnDeck_5 : decode cX10_weightOnDeck 5 = .ok (.aload_n 0, 1) := by decide +kernel
theorem dX10_weightOnDeck_6 : decode cX10_weightOnDeck 6 = .ok (.getfield 7, 3) := by decide +kernel
theorem dX10_weightOnDeck_9 : decode cX10_weightOnDeck 9 = .ok (.bipush 13, 2) := by decide +kernel
theorem dX10_weightOnDeck_11 : decode cX10_weightOnDeck 11 = .ok (.iaload, 1) := by decide +kernel
theorem dX10_weightOnDeck_12 : decode cX10_weightOnDeck 12 = .ok (.if_icmp .ge 32, 3) := by decide +kernel
theorem dX10_weightOnDeck_15 : decode cX10_weightOnDeck 15 = .ok (.iload_n 1, 1) := by decide +kernel
theorem dX10_weightOnDeck_16 : decode cX10_weightOnDeck 16 = .ok (.aload_n 0, 1) := by decide +kernel
theorem dX10_weightOnDeck_17 : decode cX10_weightOnDeck 17 = .ok (.iload_n 2, 1) := by decide +kernel
theorem dX10_weightOnDeck_18 : decode cX10_weightOnDeck 18 = .ok (.iconst 2, 1) := by decide +kernel
theorem dX10_weightOnDeck_19 : decode cX10_weightOnDeck 19 = .ok (.invokevirtual 55, 3) := by decide +kernel
theorem dX10_weightOnDeck_22 : decode cX10_weightOnDeck 22 = .ok (.iconst 2, 1) := by decide +kernel
theorem dX10_weightOnDeck_23 : decode cX10_weightOnDeck 23 = .ok (.if_icmp .ne 12, 3) := by decide +kernel
theorem dX10_weightOnDeck_26 : decode cX10_weightOnDeck 26 = .ok (.aload_n 0, 1) := by decide +kernel
theorem dX10_weightOnDeck_27 : decode cX10_weightOnDeck 27 = .ok (.iload_n 2, 1) := by decide +kernel
theorem dX10_weightOnDeck_28 : decode cX10_weightOnDeck 28 = .ok (.iconst 1, 1) := by decide +kernel
theorem dX10_weightOnDeck_29 : decode cX10_weightOnDeck 29 = .ok (.invokevirtual 55, 3) := by decide +kernel
theorem dX10_weightOnDeck_32 : decode cX10_weightOnDeck 32 = .ok (.goto 4, 3) := by decide +kernel
theorem dX10_weightOnDeck_35 : decode cX10_weightOnDeck 35 = .ok (.iconst 0, 1) := by decide +kernel
theorem dX10_weightOnDeck_36 : decode cX10_weightOnDeck 36 = .ok (.iadd, 1) := by decide +kernel
theorem dX10_weightOnDeck_37 : decode cX10_weightOnDeck 37 = .ok (.istore_n 1, 1) := by decide +kernel
theorem dX10_weightOnDeck_38 : decode cX10_weightOnDeck 38 = .ok (.iinc 2 1, 3) := by decide +kernel
theorem dX10_weightOnDeck_41 : decode cX10_weightOnDeck 41 = .ok (.goto (-37), 3) := by decide +kernel
theorem dX10_weightOnDeck_44 : decode cX10_weightOnDeck 44 = .ok (.iload_n 1, 1) := by decide +kernel
theorem dX10_weightOnDeck_45 : decode cX10_weightOnDeck 45 = .ok (.ireturn, 1) := by decide +kernel
set_option maxRecDepth 20000 in
theorem ggX10_deckAt_X10_tideAt : GoodIn wsX10_deckAt wsX10_tideAt := goodIn_r _ [6, 1, 15, 16, 17, 18, 19, 20, 21, 22, 23, 24, 25, 26, 27, 28, 29, 30, 31, 32, 33, 34, 35, 36, 37] (by decide +kernel) (by decide +kernel)
set_option maxRecDepth 20000 in
theorem gX10_deckAt_X10_tideAt : GoodIn wsX10_deckAt (wsV RX10 70 RX10 yX10_tideAt wsX10_tideAt) := goodIn_app (goodIn_of _ (by decide +kernel)) ggX10_deckAt_X10_tideAt
set_option maxRecDepth 20000 in
theorem ggX10_deckAt_X10_weightOnDeck : GoodIn wsX10_deckAt wsX10_weightOnDeck := goodIn_r _ [10, 1, 11, 12, 13, 5, 14, 15, 16, 17, 18, 19, 20, 21, 22, 23, 24, 25, 26, 27, 28, 29, 30, 31, 32, 33, 34, 35, 36, 37] (by decide +kernel) (by decide +kernel)
set_option maxRecDepth 20000 in
theorem gX10_deckAt_X10_weightOnDeck : GoodIn wsX10_deckAt (wsV RX10 74 RX10 yX10_weightOnDeck wsX10_weightOnDeck) := goodIn_app (goodIn_of _ (by decide +kernel)) ggX10_deckAt_X10_weightOnDeck
theorem dX10_deckAt_0 : decode cX10_deckAt 0 = .ok (.aload_n 0, 1) := by decide +kernel
theorem dX10_deckAt_1 : decode cX10_deckAt 1 = .ok (.iload_n 1, 1) := by decide +kernel
theorem dX10_deckAt_2 : decode cX10_deckAt 2 = .ok (.invokevirtual 70, 3) := by decide +kernel
theorem dX10_deckAt_5 : decode cX10_deckAt 5 = .ok (.aload_n 0, 1) := by decide +kernel
theorem dX10_deckAt_6 : decode cX10_deckAt 6 = .ok (.getfield 7, 3) := by decide +kernel
theorem dX10_deckAt_9 : decode cX10_deckAt 9 = .ok (.bipush 19, 2) := by decide +kernel
theorem dX10_deckAt_11 : decode cX10_deckAt 11 = .ok (.iaload, 1) := by decide +kernel
theorem dX10_deckAt_12 : decode cX10_deckAt 12 = .ok (.iadd, 1) := by decide +kernel
theorem dX10_deckAt_13 : decode cX10_deckAt 13 = .ok (.aload_n 0, 1) := by decide +kernel
theorem dX10_deckAt_14 : decode cX10_deckAt 14 = .ok (.invokevirtual 74, 3) := by decide +kernel
theorem dX10_deckAt_17 : decode cX10_deckAt 17 = .ok (.aload_n 0, 1) := by decide +kernel
theorem dX10_deckAt_18 : decode cX10_deckAt 18 = .ok (.getfield 7, 3) := by decide +kernel
theorem dX10_deckAt_21 : decode cX10_deckAt 21 = .ok (.bipush 20, 2) := by decide +kernel
theorem dX10_deckAt_23 : decode cX10_deckAt 23 = .ok (.iaload, 1) := by decide +kernel
theorem dX10_deckAt_24 : decode cX10_deckAt 24 = .ok (.idiv, 1) := by decide +kernel
theorem dX10_deckAt_25 : decode cX10_deckAt 25 = .ok (.isub, 1) := by decide +kernel
theorem dX10_deckAt_26 : decode cX10_deckAt 26 = .ok (.ireturn, 1) := by decide +kernel
set_option maxRecDepth 20000 in
theorem ggX10_lipNow_X10_deckAt : GoodIn wsX10_lipNow wsX10_deckAt := goodIn_r _ [10, 1, 11, 12, 13, 9, 14, 15, 16, 17, 18, 19, 20, 21, 22, 23, 24, 25, 26, 27, 28, 29, 30, 31, 32, 33, 34, 35, 36, 37, 38, 39, 40, 41, 42, 43, 44, 45] (by decide +kernel) (by decide +kernel)
set_option maxRecDepth 20000 in
theorem gX10_lipNow_X10_deckAt : GoodIn wsX10_lipNow (wsV RX10 78 RX10 yX10_deckAt wsX10_deckAt) := goodIn_app (goodIn_of _ (by decide +kernel)) ggX10_lipNow_X10_deckAt
theorem dX10_lipNow_0 : decode cX10_lipNow 0 = .ok (.aload_n 0, 1) := by decide +kernel
theorem dX10_lipNow_1 : decode cX10_lipNow 1 = .ok (.getfield 7, 3) := by decide +kernel
theorem dX10_lipNow_4 : decode cX10_lipNow 4 = .ok (.iconst 1, 1) := by decide +kernel
theorem dX10_lipNow_5 : decode cX10_lipNow 5 = .ok (.iaload, 1) := by decide +kernel
theorem dX10_lipNow_6 : decode cX10_lipNow 6 = .ok (.aload_n 0, 1) := by decide +kernel
theorem dX10_lipNow_7 : decode cX10_lipNow 7 = .ok (.aload_n 0, 1) := by decide +kernel
theorem dX10_lipNow_8 : decode cX10_lipNow 8 = .ok (.getfield 7, 3) := by decide +kernel
theorem dX10_lipNow_11 : decode cX10_lipNow 11 = .ok (.iconst 0, 1) := by decide +kernel
theorem dX10_lipNow_12 : decode cX10_lipNow 12 = .ok (.iaload, 1) := by decide +kernel
theorem dX10_lipNow_13 : decode cX10_lipNow 13 = .ok (.invokevirtual 78, 3) := by decide +kernel
theorem dX10_lipNow_16 : decode cX10_lipNow 16 = .ok (.isub, 1) := by decide +kernel
theorem dX10_lipNow_17 : decode cX10_lipNow 17 = .ok (.invokestatic 81, 3) := by decide +kernel
theorem dX10_lipNow_20 : decode cX10_lipNow 20 = .ok (.ireturn, 1) := by decide +kernel
theorem dX10_slopeNow_0 : decode cX10_slopeNow 0 = .ok (.aload_n 0, 1) := by decide +kernel
theorem dX10_slopeNow_1 : decode cX10_slopeNow 1 = .ok (.getfield 7, 3) := by decide +kernel
theorem dX10_slopeNow_4 : decode cX10_slopeNow 4 = .ok (.iconst 1, 1) := by decide +kernel
theorem dX10_slopeNow_5 : decode cX10_slopeNow 5 = .ok (.iaload, 1) := by decide +kernel
theorem dX10_slopeNow_6 : decode cX10_slopeNow 6 = .ok (.aload_n 0, 1) := by decide +kernel
theorem dX10_slopeNow_7 : decode cX10_slopeNow 7 = .ok (.getfield 7, 3) := by decide +kernel
theorem dX10_slopeNow_10 : decode cX10_slopeNow 10 = .ok (.bipush 18, 2) := by decide +kernel
theorem dX10_slopeNow_12 : decode cX10_slopeNow 12 = .ok (.iaload, 1) := by decide +kernel
theorem dX10_slopeNow_13 : decode cX10_slopeNow 13 = .ok (.isub, 1) := by decide +kernel
theorem dX10_slopeNow_14 : decode cX10_slopeNow 14 = .ok (.invokestatic 81, 3) := by decide +kernel
theorem dX10_slopeNow_17 : decode cX10_slopeNow 17 = .ok (.ireturn, 1) := by decide +kernel
set_option maxRecDepth 20000 in
theorem ggX10_isFor_X10_ofCar : GoodIn wsX10_isFor wsX10_ofCar := goodIn_r _ [5, 6, 7, 8, 9, 10, 11, 12, 13, 14, 15, 16, 17, 18, 19, 20, 21, 22, 23, 24, 25, 26, 27, 28, 29] (by decide +kernel) (by decide +kernel)
set_option maxRecDepth 20000 in
theorem gX10_isFor_X10_ofCar : GoodIn wsX10_isFor (wsV RX10 55 RX10 yX10_ofCar wsX10_ofCar) := goodIn_app (goodIn_of _ (by decide +kernel)) ggX10_isFor_X10_ofCar
theorem dX10_isFor_0 : decode cX10_isFor 0 = .ok (.aload_n 0, 1) := by decide +kernel
theorem dX10_isFor_1 : decode cX10_isFor 1 = .ok (.iload_n 1, 1) := by decide +kernel
theorem dX10_isFor_2 : decode cX10_isFor 2 = .ok (.iconst 2, 1) := by decide +kernel
theorem dX10_isFor_3 : decode cX10_isFor 3 = .ok (.invokevirtual 55, 3) := by decide +kernel
theorem dX10_isFor_6 : decode cX10_isFor 6 = .ok (.istore_n 3, 1) := by decide +kernel
theorem dX10_isFor_7 : decode cX10_isFor 7 = .ok (.iload_n 3, 1) := by decide +kernel
theorem dX10_isFor_8 : decode cX10_isFor 8 = .ok (.iconst 2, 1) := by decide +kernel
theorem dX10_isFor_9 : decode cX10_isFor 9 = .ok (.if_icmp .eq 8, 3) := by decide +kernel
theorem dX10_isFor_12 : decode cX10_isFor 12 = .ok (.iload_n 3, 1) := by decide +kernel
theorem dX10_isFor_13 : decode cX10_isFor 13 = .ok (.iconst 1, 1) := by decide +kernel
theorem dX10_isFor_14 : decode cX10_isFor 14 = .ok (.if_icmp .ne 17, 3) := by decide +kernel
theorem dX10_isFor_17 : decode cX10_isFor 17 = .ok (.aload_n 0, 1) := by decide +kernel
theorem dX10_isFor_18 : decode cX10_isFor 18 = .ok (.iload_n 1, 1) := by decide +kernel
theorem dX10_isFor_19 : decode cX10_isFor 19 = .ok (.iconst 3, 1) := by decide +kernel
theorem dX10_isFor_20 : decode cX10_isFor 20 = .ok (.invokevirtual 55, 3) := by decide +kernel
theorem dX10_isFor_23 : decode cX10_isFor 23 = .ok (.iload_n 2, 1) := by decide +kernel
theorem dX10_isFor_24 : decode cX10_isFor 24 = .ok (.if_icmp .ne 7, 3) := by decide +kernel
theorem dX10_isFor_27 : decode cX10_isFor 27 = .ok (.iconst 1, 1) := by decide +kernel
theorem dX10_isFor_28 : decode cX10_isFor 28 = .ok (.goto 4, 3) := by decide +kernel
theorem dX10_isFor_31 : decode cX10_isFor 31 = .ok (.iconst 0, 1) := by decide +kernel
theorem dX10_isFor_32 : decode cX10_isFor 32 = .ok (.ireturn, 1) := by decide +kernel
set_option maxRecDepth 20000 in
theorem ggX10_weightOf_X10_isFor : GoodIn wsX10_weightOf wsX10_isFor := goodIn_r _ [6, 7, 8, 9, 5, 10, 1, 11, 12, 13, 14, 15, 16, 17, 18, 19, 20, 21, 22, 23, 24, 25, 26, 27, 28, 29, 30, 31, 32, 33] (by decide +kernel) (by decide +kernel)
set_option maxRecDepth 20000 in
theorem gX10_weightOf_X10_isFor : GoodIn wsX10_weightOf (wsV RX10 86 RX10 yX10_isFor wsX10_isFor) := goodIn_app (goodIn_of _ (by decide +kernel)) ggX10_weightOf_X10_isFor
set_option maxRecDepth 20000 in
theorem ggX10_weightOf_X10_ofCar : GoodIn wsX10_weightOf wsX10_ofCar := goodIn_r _ [10, 1, 11, 12, 13, 14, 15, 16, 17, 18, 19, 20, 21, 22, 23, 24, 25, 26, 27, 28, 29, 30, 31, 32, 33] (by decide +kernel) (by decide +kernel)
set_option maxRecDepth 20000 in
theorem gX10_weightOf_X10_ofCar : GoodIn wsX10_weightOf (wsV RX10 55 RX10 yX10_ofCar wsX10_ofCar) := goodIn_app (goodIn_of _ (by decide +kernel)) ggX10_weightOf_X10_ofCar
theorem dX10_weightOf_0 : decode cX10_weightOf 0 = .ok (.iconst 0, 1) := by decide +kernel
theorem dX10_weightOf_1 : decode cX10_weightOf 1 = .ok (.istore_n 2, 1) := by decide +kernel
theorem dX10_weightOf_2 : decode cX10_weightOf 2 = .ok (.iconst 0, 1) := by decide +kernel
theorem dX10_weightOf_3 : decode cX10_weightOf 3 = .ok (.istore_n 3, 1) := by decide +kernel
theorem dX10_weightOf_4 : decode cX10_weightOf 4 = .ok (.iload_n 3, 1) := by decide +kernel
theorem dX10_weightOf_5 : decode cX10_weightOf 5 = .ok (.aload_n 0, 1) := by decide +kernel
theorem dX10_weightOf_6 : decode cX10_weightOf 6 = .ok (.getfield 7, 3) := by decide +kernel
theorem dX10_weightOf_9 : decode cX10_weightOf 9 = .ok (.bipush 13, 2) := by decide +kernel
theorem dX10_weightOf_11 : decode cX10_weightOf 11 = .ok (.iaload, 1) := by decide +kernel
theorem dX10_weightOf_12 : decode cX10_weightOf 12 = .ok (.if_icmp .ge 31, 3) := by decide +kernel
theorem dX10_weightOf_15 : decode cX10_weightOf 15 = .ok (.iload_n 2, 1) := by decide +kernel
theorem dX10_weightOf_16 : decode cX10_weightOf 16 = .ok (.aload_n 0, 1) := by decide +kernel
theorem dX10_weightOf_17 : decode cX10_weightOf 17 = .ok (.iload_n 3, 1) := by decide +kernel
theorem dX10_weightOf_18 : decode cX10_weightOf 18 = .ok (.iload_n 1, 1) := by decide +kernel
theorem dX10_weightOf_19 : decode cX10_weightOf 19 = .ok (.invokevirtual 86, 3) := by decide +kernel
theorem dX10_weightOf_22 : decode cX10_weightOf 22 = .ok (.ifCond .eq 12, 3) := by decide +kernel
theorem dX10_weightOf_25 : decode cX10_weightOf 25 = .ok (.aload_n 0, 1) := by decide +kernel
theorem dX10_weightOf_26 : decode cX10_weightOf 26 = .ok (.iload_n 3, 1) := by decide +kernel
theorem dX10_weightOf_27 : decode cX10_weightOf 27 = .ok (.iconst 1, 1) := by decide +kernel
theorem dX10_weightOf_28 : decode cX10_weightOf 28 = .ok (.invokevirtual 55, 3) := by decide +kernel
theorem dX10_weightOf_31 : decode cX10_weightOf 31 = .ok (.goto 4, 3) := by decide +kernel
theorem dX10_weightOf_34 : decode cX10_weightOf 34 = .ok (.iconst 0, 1) := by decide +kernel
theorem dX10_weightOf_35 : decode cX10_weightOf 35 = .ok (.iadd, 1) := by decide +kernel
theorem dX10_weightOf_36 : decode cX10_weightOf 36 = .ok (.istore_n 2, 1) := by decide +kernel
theorem dX10_weightOf_37 : decode cX10_weightOf 37 = .ok (.iinc 3 1, 3) := by decide +kernel
theorem dX10_weightOf_40 : decode cX10_weightOf 40 = .ok (.goto (-36), 3) := by decide +kernel
theorem dX10_weightOf_43 : decode cX10_weightOf 43 = .ok (.iload_n 2, 1) := by decide +kernel
theorem dX10_weightOf_44 : decode cX10_weightOf 44 = .ok (.ireturn, 1) := by decide +kernel
set_option maxRecDepth 20000 in
theorem ggX10_freeOf_X10_isFor : GoodIn wsX10_freeOf wsX10_isFor := goodIn_r _ [6, 7, 8, 9, 5, 10, 1, 19, 20, 21, 22, 23, 24, 25, 26, 27, 28, 29, 30, 31, 32, 33, 34, 35, 36, 37, 38, 39, 40, 41] (by decide +kernel) (by decide +kernel)
set_option maxRecDepth 20000 in
theorem gX10_freeOf_X10_isFor : GoodIn wsX10_freeOf (wsV RX10 86 RX10 yX10_isFor wsX10_isFor) := goodIn_app (goodIn_of _ (by decide +kernel)) ggX10_freeOf_X10_isFor
set_option maxRecDepth 20000 in
theorem ggX10_freeOf_X10_kindOf : GoodIn wsX10_freeOf wsX10_kindOf := goodIn_r _ [14, 7, 8, 9, 5, 10, 1, 15, 16, 17, 18, 19, 20, 21, 22, 23, 24, 25, 26, 27, 28, 29, 30, 31, 32, 33, 34, 35, 36, 37, 38, 39, 40, 41] (by decide +kernel) (by decide +kernel)
set_option maxRecDepth 20000 in
theorem gX10_freeOf_X10_kindOf : GoodIn wsX10_freeOf (wsV RX10 90 RX10 yX10_kindOf wsX10_kindOf) := goodIn_app (goodIn_of _ (by decide +kernel)) ggX10_freeOf_X10_kindOf
theorem dX10_freeOf_0 : decode cX10_freeOf 0 = .ok (.aload_n 0, 1) := by decide +kernel
theorem dX10_freeOf_1 : decode cX10_freeOf 1 = .ok (.getfield 7, 3) := by decide +kernel
theorem dX10_freeOf_4 : decode cX10_freeOf 4 = .ok (.bipush 21, 2) := by decide +kernel
theorem dX10_freeOf_6 : decode cX10_freeOf 6 = .ok (.iaload, 1) := by decide +kernel
theorem dX10_freeOf_7 : decode cX10_freeOf 7 = .ok (.istore_n 2, 1) := by decide +kernel
theorem dX10_freeOf_8 : decode cX10_freeOf 8 = .ok (.iconst 0, 1) := by decide +kernel
theorem dX10_freeOf_9 : decode cX10_freeOf 9 = .ok (.istore_n 3, 1) := by decide +kernel
theorem dX10_freeOf_10 : decode cX10_freeOf 10 = .ok (.iload_n 3, 1) := by decide +kernel
theorem dX10_freeOf_11 : decode cX10_freeOf 11 = .ok (.aload_n 0, 1) := by decide +kernel
theorem dX10_freeOf_12 : decode cX10_freeOf 12 = .ok (.getfield 7, 3) := by decide +kernel
theorem dX10_freeOf_15 : decode cX10_freeOf 15 = .ok (.bipush 13, 2) := by decide +kernel
theorem dX10_freeOf_17 : decode cX10_freeOf 17 = .ok (.iaload, 1) := by decide +kernel
theorem dX10_freeOf_18 : decode cX10_freeOf 18 = .ok (.if_icmp .ge 31, 3) := by decide +kernel
theorem dX10_freeOf_21 : decode cX10_freeOf 21 = .ok (.iload_n 2, 1) := by decide +kernel
theorem dX10_freeOf_22 : decode cX10_freeOf 22 = .ok (.aload_n 0, 1) := by decide +kernel
theorem dX10_freeOf_23 : decode cX10_freeOf 23 = .ok (.iload_n 3, 1) := by decide +kernel
theorem dX10_freeOf_24 : decode cX10_freeOf 24 = .ok (.iload_n 1, 1) := by decide +kernel
theorem dX10_freeOf_25 : decode cX10_freeOf 25 = .ok (.invokevirtual 86, 3) := by decide +kernel
theorem dX10_freeOf_28 : decode cX10_freeOf 28 = .ok (.ifCond .eq 12, 3) := by decide +kernel
theorem dX10_freeOf_31 : decode cX10_freeOf 31 = .ok (.aload_n 0, 1) := by decide +kernel
theorem dX10_freeOf_32 : decode cX10_freeOf 32 = .ok (.iload_n 3, 1) := by decide +kernel
theorem dX10_freeOf_33 : decode cX10_freeOf 33 = .ok (.iconst 2, 1) := by decide +kernel
theorem dX10_freeOf_34 : decode cX10_freeOf 34 = .ok (.invokevirtual 90, 3) := by decide +kernel
theorem dX10_freeOf_37 : decode cX10_freeOf 37 = .ok (.goto 4, 3) := by decide +kernel
theorem dX10_freeOf_40 : decode cX10_freeOf 40 = .ok (.iconst 0, 1) := by decide +kernel
theorem dX10_freeOf_41 : decode cX10_freeOf 41 = .ok (.isub, 1) := by decide +kernel
theorem dX10_freeOf_42 : decode cX10_freeOf 42 = .ok (.istore_n 2, 1) := by decide +kernel
theorem dX10_freeOf_43 : decode cX10_freeOf 43 = .ok (.iinc 3 1, 3) := by decide +kernel
theorem dX10_freeOf_46 : decode cX10_freeOf 46 = .ok (.goto (-36), 3) := by decide +kernel
theorem dX10_freeOf_49 : decode cX10_freeOf 49 = .ok (.iload_n 2, 1) := by decide +kernel
theorem dX10_freeOf_50 : decode cX10_freeOf 50 = .ok (.ireturn, 1) := by decide +kernel
set_option maxRecDepth 20000 in
theorem ggX10_listNow_X10_weightOf : GoodIn wsX10_listNow wsX10_weightOf := goodIn_r _ [5, 6, 7, 8, 9, 4, 10, 11, 12, 13, 14, 15, 16, 17, 18, 19, 20, 21, 22, 23, 24, 25, 26, 27, 28, 29, 30, 31, 32, 33, 34, 35, 36, 37] (by decide +kernel) (by decide +kernel)
set_option maxRecDepth 20000 in
theorem gX10_listNow_X10_weightOf : GoodIn wsX10_listNow (wsV RX10 93 RX10 yX10_weightOf wsX10_weightOf) := goodIn_app (goodIn_of _ (by decide +kernel)) ggX10_listNow_X10_weightOf
theorem dX10_listNow_0 : decode cX10_listNow 0 = .ok (.aload_n 0, 1) := by decide +kernel
theorem dX10_listNow_1 : decode cX10_listNow 1 = .ok (.iconst 0, 1) := by decide +kernel
theorem dX10_listNow_2 : decode cX10_listNow 2 = .ok (.invokevirtual 93, 3) := by decide +kernel
theorem dX10_listNow_5 : decode cX10_listNow 5 = .ok (.aload_n 0, 1) := by decide +kernel
theorem dX10_listNow_6 : decode cX10_listNow 6 = .ok (.iconst 2, 1) := by decide +kernel
theorem dX10_listNow_7 : decode cX10_listNow 7 = .ok (.invokevirtual 93, 3) := by decide +kernel
theorem dX10_listNow_10 : decode cX10_listNow 10 = .ok (.isub, 1) := by decide +kernel
theorem dX10_listNow_11 : decode cX10_listNow 11 = .ok (.ireturn, 1) := by decide +kernel
set_option maxRecDepth 20000 in
theorem ggX10_hasFree_X10_freeOf : GoodIn wsX10_hasFree wsX10_freeOf := goodIn_r _ [5, 6, 7, 8, 9, 4, 10, 11, 12, 13, 14, 15, 16, 17, 18, 19, 20, 21, 22, 23, 24, 25, 26, 27, 28, 29, 30, 31, 32, 33, 34, 35, 36, 37, 38, 39, 40, 41, 42, 43, 44, 45] (by decide +kernel) (by decide +kernel)
set_option maxRecDepth 20000 in
theorem gX10_hasFree_X10_freeOf : GoodIn wsX10_hasFree (wsV RX10 96 RX10 yX10_freeOf wsX10_freeOf) := goodIn_app (goodIn_of _ (by decide +kernel)) ggX10_hasFree_X10_freeOf
set_option maxRecDepth 20000 in
theorem ggX10_hasFree_X10_kindOf : GoodIn wsX10_hasFree wsX10_kindOf := goodIn_r _ [18, 11, 12, 13, 4, 14, 6, 19, 20, 21, 22, 23, 24, 25, 26, 27, 28, 29, 30, 31, 32, 33, 34, 35, 36, 37, 38, 39, 40, 41, 42, 43, 44, 45] (by decide +kernel) (by decide +kernel)
set_option maxRecDepth 20000 in
theorem gX10_hasFree_X10_kindOf : GoodIn wsX10_hasFree (wsV RX10 90 RX10 yX10_kindOf wsX10_kindOf) := goodIn_app (goodIn_of _ (by decide +kernel)) ggX10_hasFree_X10_kindOf
theorem dX10_hasFree_0 : decode cX10_hasFree 0 = .ok (.aload_n 0, 1) := by decide +kernel
theorem dX10_hasFree_1 : decode cX10_hasFree 1 = .ok (.iload_n 1, 1) := by decide +kernel
theorem dX10_hasFree_2 : decode cX10_hasFree 2 = .ok (.invokevirtual 96, 3) := by decide +kernel
theorem dX10_hasFree_5 : decode cX10_hasFree 5 = .ok (.aload_n 0, 1) := by decide +kernel
theorem dX10_hasFree_6 : decode cX10_hasFree 6 = .ok (.iload_n 2, 1) := by decide +kernel
theorem dX10_hasFree_7 : decode cX10_hasFree 7 = .ok (.iconst 2, 1) := by decide +kernel
theorem dX10_hasFree_8 : decode cX10_hasFree 8 = .ok (.invokevirtual 90, 3) := by decide +kernel
theorem dX10_hasFree_11 : decode cX10_hasFree 11 = .ok (.if_icmp .lt 7, 3) := by decide +kernel
theorem dX10_hasFree_14 : decode cX10_hasFree 14 = .ok (.iconst 1, 1) := by decide +kernel
theorem dX10_hasFree_15 : decode cX10_hasFree 15 = .ok (.goto 4, 3) := by decide +kernel
theorem dX10_hasFree_18 : decode cX10_hasFree 18 = .ok (.iconst 0, 1) := by decide +kernel
theorem dX10_hasFree_19 : decode cX10_hasFree 19 = .ok (.ireturn, 1) := by decide +kernel
set_option maxRecDepth 20000 in
theorem ggX10_suits_X10_ofCar : GoodIn wsX10_suits wsX10_ofCar := goodIn_r _ [10, 5, 39, 40, 41, 42, 43, 44, 45, 46, 47, 48, 49, 50, 51, 52, 53, 54, 55, 56, 57, 58, 59, 60, 61] (by decide +kernel) (by decide +kernel)
set_option maxRecDepth 20000 in
theorem gX10_suits_X10_ofCar : GoodIn wsX10_suits (wsV RX10 55 RX10 yX10_ofCar wsX10_ofCar) := goodIn_app (goodIn_of _ (by decide +kernel)) ggX10_suits_X10_ofCar
set_option maxRecDepth 20000 in
theorem ggX10_suits_X10_listNow : GoodIn wsX10_suits wsX10_listNow := goodIn_r _ [14, 15, 16, 17, 9, 18, 5, 19, 20, 21, 22, 6, 7, 8, 10, 39, 40, 41, 42, 43, 44, 45, 46, 47, 48, 49, 50, 51, 52, 53, 54, 55, 56, 57, 58, 59, 60, 61] (by decide +kernel) (by decide +kernel)
set_option maxRecDepth 20000 in
theorem gX10_suits_X10_listNow : GoodIn wsX10_suits (wsV RX10 99 RX10 yX10_listNow wsX10_listNow) := goodIn_app (goodIn_of _ (by decide +kernel)) ggX10_suits_X10_listNow
set_option maxRecDepth 20000 in
theorem ggX10_suits_X10_hasFree : GoodIn wsX10_suits wsX10_hasFree := goodIn_r _ [26, 27, 28, 29, 9, 30, 5, 19, 20, 21, 22, 6, 7, 8, 10, 31, 32, 33, 34, 35, 36, 37, 38, 39, 40, 41, 42, 43, 44, 45, 46, 47, 48, 49, 50, 51, 52, 53, 54, 55, 56, 57, 58, 59, 60, 61] (by decide +kernel) (by decide +kernel)
set_option maxRecDepth 20000 in
theorem gX10_suits_X10_hasFree : GoodIn wsX10_suits (wsV RX10 102 RX10 yX10_hasFree wsX10_hasFree) := goodIn_app (goodIn_of _ (by decide +kernel)) ggX10_suits_X10_hasFree
theorem dX10_suits_0 : decode cX10_suits 0 = .ok (.aload_n 0, 1) := by decide +kernel
theorem dX10_suits_1 : decode cX10_suits 1 = .ok (.iload_n 2, 1) := by decide +kernel
theorem dX10_suits_2 : decode cX10_suits 2 = .ok (.iconst 1, 1) := by decide +kernel
theorem dX10_suits_3 : decode cX10_suits 3 = .ok (.invokevirtual 55, 3) := by decide +kernel
theorem dX10_suits_6 : decode cX10_suits 6 = .ok (.istore_n 3, 1) := by decide +kernel
theorem dX10_suits_7 : decode cX10_suits 7 = .ok (.aload_n 0, 1) := by decide +kernel
theorem dX10_suits_8 : decode cX10_suits 8 = .ok (.invokevirtual 99, 3) := by decide +kernel
theorem dX10_suits_11 : decode cX10_suits 11 = .ok (.iload_n 1, 1) := by decide +kernel
theorem dX10_suits_12 : decode cX10_suits 12 = .ok (.ifCond .ne 7, 3) := by decide +kernel
theorem dX10_suits_15 : decode cX10_suits 15 = .ok (.iload_n 3, 1) := by decide +kernel
theorem dX10_suits_16 : decode cX10_suits 16 = .ok (.goto 14, 3) := by decide +kernel
theorem dX10_suits_19 : decode cX10_suits 19 = .ok (.iload_n 1, 1) := by decide +kernel
theorem dX10_suits_20 : decode cX10_suits 20 = .ok (.iconst 2, 1) := by decide +kernel
theorem dX10_suits_21 : decode cX10_suits 21 = .ok (.if_icmp .ne 8, 3) := by decide +kernel
theorem dX10_suits_24 : decode cX10_suits 24 = .ok (.iload_n 3, 1) := by decide +kernel
theorem dX10_suits_25 : decode cX10_suits 25 = .ok (.ineg, 1) := by decide +kernel
theorem dX10_suits_26 : decode cX10_suits 26 = .ok (.goto 4, 3) := by decide +kernel
theorem dX10_suits_29 : decode cX10_suits 29 = .ok (.iconst 0, 1) := by decide +kernel
theorem dX10_suits_30 : decode cX10_suits 30 = .ok (.iadd, 1) := by decide +kernel
theorem dX10_suits_31 : decode cX10_suits 31 = .ok (.istore 4, 2) := by decide +kernel
theorem dX10_suits_33 : decode cX10_suits 33 = .ok (.aload_n 0, 1) := by decide +kernel
theorem dX10_suits_34 : decode cX10_suits 34 = .ok (.iload_n 1, 1) := by decide +kernel
theorem dX10_suits_35 : decode cX10_suits 35 = .ok (.iload_n 2, 1) := by decide +kernel
theorem dX10_suits_36 : decode cX10_suits 36 = .ok (.invokevirtual 102, 3) := by decide +kernel
theorem dX10_suits_39 : decode cX10_suits 39 = .ok (.ifCond .eq 22, 3) := by decide +kernel
theorem dX10_suits_42 : decode cX10_suits 42 = .ok (.iload 4, 2) := by decide +kernel
theorem dX10_suits_44 : decode cX10_suits 44 = .ok (.invokestatic 81, 3) := by decide +kernel
theorem dX10_suits_47 : decode cX10_suits 47 = .ok (.aload_n 0, 1) := by decide +kernel
theorem dX10_suits_48 : decode cX10_suits 48 = .ok (.getfield 7, 3) := by decide +kernel
theorem dX10_suits_51 : decode cX10_suits 51 = .ok (.bipush 23, 2) := by decide +kernel
theorem dX10_suits_53 : decode cX10_suits 53 = .ok (.iaload, 1) := by decide +kernel
theorem dX10_suits_54 : decode cX10_suits 54 = .ok (.if_icmp .gt 7, 3) := by decide +kernel
theorem dX10_suits_57 : decode cX10_suits 57 = .ok (.iconst 1, 1) := by decide +kernel
theorem dX10_suits_58 : decode cX10_suits 58 = .ok (.goto 4, 3) := by decide +kernel
theorem dX10_suits_61 : decode cX10_suits 61 = .ok (.iconst 0, 1) := by decide +kernel
theorem dX10_suits_62 : decode cX10_suits 62 = .ok (.ireturn, 1) := by decide +kernel
set_option maxRecDepth 20000 in
theorem ggX10_laneOf_X10_suits : GoodIn wsX10_laneOf wsX10_suits := goodIn_r _ [5, 6, 7, 8, 9, 10, 11, 12, 13, 4, 14, 15, 16, 17, 18, 19, 20, 21, 22, 23, 24, 25, 26, 27, 28, 29, 30, 31, 32, 33, 34, 35, 36, 37, 38, 39, 40, 41, 42, 43, 44, 45, 46, 47, 48, 49, 50, 51, 52, 53, 54, 55, 56, 57, 58, 59, 60, 61, 62, 63, 64, 65] (by decide +kernel) (by decide +kernel)
set_option maxRecDepth 20000 in
theorem gX10_laneOf_X10_suits : GoodIn wsX10_laneOf (wsV RX10 105 RX10 yX10_suits wsX10_suits) := goodIn_app (goodIn_of _ (by decide +kernel)) ggX10_laneOf_X10_suits
set_option maxRecDepth 20000 in
theorem ggX10_laneOf_X10_weightOf : GoodIn wsX10_laneOf wsX10_weightOf := goodIn_r _ [22, 10, 23, 24, 25, 4, 26, 11, 12, 13, 14, 43, 44, 45, 46, 47, 48, 49, 50, 51, 52, 53, 54, 55, 56, 57, 58, 59, 60, 61, 62, 63, 64, 65] (by decide +kernel) (by decide +kernel)
set_option maxRecDepth 20000 in
theorem gX10_laneOf_X10_weightOf : GoodIn wsX10_laneOf (wsV RX10 93 RX10 yX10_weightOf wsX10_weightOf) := goodIn_app (goodIn_of _ (by decide +kernel)) ggX10_laneOf_X10_weightOf
theorem dX10_laneOf_0 : decode cX10_laneOf 0 = .ok (.iconst (-1), 1) := by decide +kernel
theorem dX10_laneOf_1 : decode cX10_laneOf 1 = .ok (.istore_n 2, 1) := by decide +kernel
theorem dX10_laneOf_2 : decode cX10_laneOf 2 = .ok (.iconst 0, 1) := by decide +kernel
theorem dX10_laneOf_3 : decode cX10_laneOf 3 = .ok (.istore_n 3, 1) := by decide +kernel
theorem dX10_laneOf_4 : decode cX10_laneOf 4 = .ok (.iload_n 3, 1) := by decide +kernel
theorem dX10_laneOf_5 : decode cX10_laneOf 5 = .ok (.iconst 3, 1) := by decide +kernel
theorem dX10_laneOf_6 : decode cX10_laneOf 6 = .ok (.if_icmp .ge 42, 3) := by decide +kernel
theorem dX10_laneOf_9 : decode cX10_laneOf 9 = .ok (.aload_n 0, 1) := by decide +kernel
theorem dX10_laneOf_10 : decode cX10_laneOf 10 = .ok (.iload_n 3, 1) := by decide +kernel
theorem dX10_laneOf_11 : decode cX10_laneOf 11 = .ok (.iload_n 1, 1) := by decide +kernel
theorem dX10_laneOf_12 : decode cX10_laneOf 12 = .ok (.invokevirtual 105, 3) := by decide +kernel
theorem dX10_laneOf_15 : decode cX10_laneOf 15 = .ok (.ifCond .eq 27, 3) := by decide +kernel
theorem dX10_laneOf_18 : decode cX10_laneOf 18 = .ok (.iload_n 2, 1) := by decide +kernel
theorem dX10_laneOf_19 : decode cX10_laneOf 19 = .ok (.iconst (-1), 1) := by decide +kernel
theorem dX10_laneOf_20 : decode cX10_laneOf 20 = .ok (.if_icmp .eq 16, 3) := by decide +kernel
theorem dX10_laneOf_23 : decode cX10_laneOf 23 = .ok (.aload_n 0, 1) := by decide +kernel
theorem dX10_laneOf_24 : decode cX10_laneOf 24 = .ok (.iload_n 3, 1) := by decide +kernel
theorem dX10_laneOf_25 : decode cX10_laneOf 25 = .ok (.invokevirtual 93, 3) := by decide +kernel
theorem dX10_laneOf_28 : decode cX10_laneOf 28 = .ok (.aload_n 0, 1) := by decide +kernel
theorem dX10_laneOf_29 : decode cX10_laneOf 29 = .ok (.iload_n 2, 1) := by decide +kernel
theorem dX10_laneOf_30 : decode cX10_laneOf 30 = .ok (.invokevirtual 93, 3) := by decide +kernel
theorem dX10_laneOf_33 : decode cX10_laneOf 33 = .ok (.if_icmp .ge 7, 3) := by decide +kernel
theorem dX10_laneOf_36 : decode cX10_laneOf 36 = .ok (.iload_n 3, 1) := by decide +kernel
theorem dX10_laneOf_37 : decode cX10_laneOf 37 = .ok (.goto 4, 3) := by decide +kernel
theorem dX10_laneOf_40 : decode cX10_laneOf 40 = .ok (.iload_n 2, 1) := by decide +kernel
theorem dX10_laneOf_41 : decode cX10_laneOf 41 = .ok (.istore_n 2, 1) := by decide +kernel
theorem dX10_laneOf_42 : decode cX10_laneOf 42 = .ok (.iinc 3 1, 3) := by decide +kernel
theorem dX10_laneOf_45 : decode cX10_laneOf 45 = .ok (.goto (-41), 3) := by decide +kernel
theorem dX10_laneOf_48 : decode cX10_laneOf 48 = .ok (.iload_n 2, 1) := by decide +kernel
theorem dX10_laneOf_49 : decode cX10_laneOf 49 = .ok (.ireturn, 1) := by decide +kernel
set_option maxRecDepth 20000 in
theorem ggX10_whyNotNow_X10_hasFree : GoodIn wsX10_whyNotNow wsX10_hasFree := goodIn_r _ [6, 7, 8, 9, 5, 10, 1, 11, 12, 13, 14, 15, 16, 17, 18, 19, 20, 21, 22, 23, 24, 25, 26, 67, 68, 69, 70, 71, 72, 73, 74, 75, 76, 77, 78, 79, 80, 81, 82, 83, 84, 85, 86, 87, 88, 89] (by decide +kernel) (by decide +kernel)
set_option maxRecDepth 20000 in
theorem gX10_whyNotNow_X10_hasFree : GoodIn wsX10_whyNotNow (wsV RX10 102 RX10 yX10_hasFree wsX10_hasFree) := goodIn_app (goodIn_of _ (by decide +kernel)) ggX10_whyNotNow_X10_hasFree
set_option maxRecDepth 20000 in
theorem ggX10_whyNotNow_X10_weightOnDeck : GoodIn wsX10_whyNotNow wsX10_weightOnDeck := goodIn_r _ [30, 1, 15, 16, 17, 5, 18, 67, 68, 69, 70, 71, 72, 73, 74, 75, 76, 77, 78, 79, 80, 81, 82, 83, 84, 85, 86, 87, 88, 89] (by decide +kernel) (by decide +kernel)
set_option maxRecDepth 20000 in
theorem gX10_whyNotNow_X10_weightOnDeck : GoodIn wsX10_whyNotNow (wsV RX10 74 RX10 yX10_weightOnDeck wsX10_weightOnDeck) := goodIn_app (goodIn_of _ (by decide +kernel)) ggX10_whyNotNow_X10_weightOnDeck
set_option maxRecDepth 20000 in
theorem ggX10_whyNotNow_X10_ofCar : GoodIn wsX10_whyNotNow wsX10_ofCar := goodIn_r _ [18, 1, 67, 68, 69, 70, 71, 72, 73, 74, 75, 76, 77, 78, 79, 80, 81, 82, 83, 84, 85, 86, 87, 88, 89] (by decide +kernel) (by decide +kernel)
set_option maxRecDepth 20000 in
theorem gX10_whyNotNow_X10_ofCar : GoodIn wsX10_whyNotNow (wsV RX10 55 RX10 yX10_ofCar wsX10_ofCar) := goodIn_app (goodIn_of _ (by decide +kernel)) ggX10_whyNotNow_X10_ofCar
set_option maxRecDepth 20000 in
theorem ggX10_whyNotNow_X10_laneOf : GoodIn wsX10_whyNotNow wsX10_laneOf := goodIn_r _ [34, 35, 36, 37, 5, 38, 39, 40, 41, 42, 1, 15, 16, 17, 18, 43, 44, 45, 46, 47, 48, 49, 50, 11, 12, 13, 14, 2, 3, 4, 6, 7, 8, 9, 10, 19, 20, 21, 22, 23, 24, 25, 26, 67, 68, 69, 70, 71, 72, 73, 74, 75, 76, 77, 78, 79, 80, 81, 82, 83, 84, 85, 86, 87, 88, 89] (by decide +kernel) (by decide +kernel)
set_option maxRecDepth 20000 in
theorem gX10_whyNotNow_X10_laneOf : GoodIn wsX10_whyNotNow (wsV RX10 108 RX10 yX10_laneOf wsX10_laneOf) := goodIn_app (goodIn_of _ (by decide +kernel)) ggX10_whyNotNow_X10_laneOf
set_option maxRecDepth 20000 in
theorem ggX10_whyNotNow_X10_slopeNow : GoodIn wsX10_whyNotNow wsX10_slopeNow := goodIn_r _ [54, 1, 39, 40, 41, 42, 67, 68, 69, 70, 71, 72, 73, 74, 75, 76, 77, 78, 79, 80, 81, 82, 83, 84, 85, 86, 87, 88, 89] (by decide +kernel) (by decide +kernel)
set_option maxRecDepth 20000 in
theorem gX10_whyNotNow_X10_slopeNow : GoodIn wsX10_whyNotNow (wsV RX10 111 RX10 yX10_slopeNow wsX10_slopeNow) := goodIn_app (goodIn_of _ (by decide +kernel)) ggX10_whyNotNow_X10_slopeNow
set_option maxRecDepth 20000 in
theorem ggX10_whyNotNow_X10_kindOf : GoodIn wsX10_whyNotNow wsX10_kindOf := goodIn_r _ [22, 15, 16, 17, 5, 18, 1, 23, 24, 25, 26, 67, 68, 69, 70, 71, 72, 73, 74, 75, 76, 77, 78, 79, 80, 81, 82, 83, 84, 85, 86, 87, 88, 89] (by decide +kernel) (by decide +kernel)
set_option maxRecDepth 20000 in
theorem gX10_whyNotNow_X10_kindOf : GoodIn wsX10_whyNotNow (wsV RX10 90 RX10 yX10_kindOf wsX10_kindOf) := goodIn_app (goodIn_of _ (by decide +kernel)) ggX10_whyNotNow_X10_kindOf
set_option maxRecDepth 20000 in
theorem ggX10_whyNotNow_X10_lipNow : GoodIn wsX10_whyNotNow wsX10_lipNow := goodIn_r _ [58, 1, 39, 40, 41, 42, 59, 60, 61, 5, 62, 63, 64, 65, 66, 27, 28, 29, 30, 15, 16, 17, 18, 67, 68, 69, 70, 71, 72, 73, 74, 75, 76, 77, 78, 79, 80, 81, 82, 83, 84, 85, 86, 87, 88, 89] (by decide +kernel) (by decide +kernel)
set_option maxRecDepth 20000 in
theorem gX10_whyNotNow_X10_lipNow : GoodIn wsX10_whyNotNow (wsV RX10 114 RX10 yX10_lipNow wsX10_lipNow) := goodIn_app (goodIn_of _ (by decide +kernel)) ggX10_whyNotNow_X10_lipNow
theorem dX10_whyNotNow_0 : decode cX10_whyNotNow 0 = .ok (.aload_n 0, 1) := by decide +kernel
theorem dX10_whyNotNow_1 : decode cX10_whyNotNow 1 = .ok (.getfield 7, 3) := by decide +kernel
theorem dX10_whyNotNow_4 : decode cX10_whyNotNow 4 = .ok (.bipush 12, 2) := by decide +kernel
theorem dX10_whyNotNow_6 : decode cX10_whyNotNow 6 = .ok (.iaload, 1) := by decide +kernel
theorem dX10_whyNotNow_7 : decode cX10_whyNotNow 7 = .ok (.ifCond .ne 5, 3) := by decide +kernel
theorem dX10_whyNotNow_10 : decode cX10_whyNotNow 10 = .ok (.iconst 1, 1) := by decide +kernel
theorem dX10_whyNotNow_11 : decode cX10_whyNotNow 11 = .ok (.ireturn, 1) := by decide +kernel
theorem dX10_whyNotNow_12 : decode cX10_whyNotNow 12 = .ok (.aload_n 0, 1) := by decide +kernel
theorem dX10_whyNotNow_13 : decode cX10_whyNotNow 13 = .ok (.getfield 7, 3) := by decide +kernel
theorem dX10_whyNotNow_16 : decode cX10_whyNotNow 16 = .ok (.iconst 4, 1) := by decide +kernel
theorem dX10_whyNotNow_17 : decode cX10_whyNotNow 17 = .ok (.iaload, 1) := by decide +kernel
theorem dX10_whyNotNow_18 : decode cX10_whyNotNow 18 = .ok (.iconst (-1), 1) := by decide +kernel
theorem dX10_whyNotNow_19 : decode cX10_whyNotNow 19 = .ok (.if_icmp .eq 5, 3) := by decide +kernel
theorem dX10_whyNotNow_22 : decode cX10_whyNotNow 22 = .ok (.iconst 2, 1) := by decide +kernel
theorem dX10_whyNotNow_23 : decode cX10_whyNotNow 23 = .ok (.ireturn, 1) := by decide +kernel
theorem dX10_whyNotNow_24 : decode cX10_whyNotNow 24 = .ok (.aload_n 0, 1) := by decide +kernel
theorem dX10_whyNotNow_25 : decode cX10_whyNotNow 25 = .ok (.iconst 0, 1) := by decide +kernel
theorem dX10_whyNotNow_26 : decode cX10_whyNotNow 26 = .ok (.iload_n 1, 1) := by decide +kernel
theorem dX10_whyNotNow_27 : decode cX10_whyNotNow 27 = .ok (.invokevirtual 102, 3) := by decide +kernel
theorem dX10_whyNotNow_30 : decode cX10_whyNotNow 30 = .ok (.ifCond .ne 23, 3) := by decide +kernel
theorem dX10_whyNotNow_33 : decode cX10_whyNotNow 33 = .ok (.aload_n 0, 1) := by decide +kernel
theorem dX10_whyNotNow_34 : decode cX10_whyNotNow 34 = .ok (.iconst 1, 1) := by decide +kernel
theorem dX10_whyNotNow_35 : decode cX10_whyNotNow 35 = .ok (.iload_n 1, 1) := by decide +kernel
theorem dX10_whyNotNow_36 : decode cX10_whyNotNow 36 = .ok (.invokevirtual 102, 3) := by decide +kernel
theorem dX10_whyNotNow_39 : decode cX10_whyNotNow 39 = .ok (.ifCond .ne 14, 3) := by decide +kernel
theorem dX10_whyNotNow_42 : decode cX10_whyNotNow 42 = .ok (.aload_n 0, 1) := by decide +kernel
theorem dX10_whyNotNow_43 : decode cX10_whyNotNow 43 = .ok (.iconst 2, 1) := by decide +kernel
theorem dX10_whyNotNow_44 : decode cX10_whyNotNow 44 = .ok (.iload_n 1, 1) := by decide +kernel
theorem dX10_whyNotNow_45 : decode cX10_whyNotNow 45 = .ok (.invokevirtual 102, 3) := by decide +kernel
theorem dX10_whyNotNow_48 : decode cX10_whyNotNow 48 = .ok (.ifCond .ne 5, 3) := by decide +kernel
theorem dX10_whyNotNow_51 : decode cX10_whyNotNow 51 = .ok (.iconst 3, 1) := by decide +kernel
theorem dX10_whyNotNow_52 : decode cX10_whyNotNow 52 = .ok (.ireturn, 1) := by decide +kernel
theorem dX10_whyNotNow_53 : decode cX10_whyNotNow 53 = .ok (.aload_n 0, 1) := by decide +kernel
theorem dX10_whyNotNow_54 : decode cX10_whyNotNow 54 = .ok (.invokevirtual 74, 3) := by decide +kernel
theorem dX10_whyNotNow_57 : decode cX10_whyNotNow 57 = .ok (.aload_n 0, 1) := by decide +kernel
theorem dX10_whyNotNow_58 : decode cX10_whyNotNow 58 = .ok (.iload_n 1, 1) := by decide +kernel
theorem dX10_whyNotNow_59 : decode cX10_whyNotNow 59 = .ok (.iconst 1, 1) := by decide +kernel
theorem dX10_whyNotNow_60 : decode cX10_whyNotNow 60 = .ok (.invokevirtual 55, 3) := by decide +kernel
theorem dX10_whyNotNow_63 : decode cX10_whyNotNow 63 = .ok (.iadd, 1) := by decide +kernel
theorem dX10_whyNotNow_64 : decode cX10_whyNotNow 64 = .ok (.aload_n 0, 1) := by decide +kernel
theorem dX10_whyNotNow_65 : decode cX10_whyNotNow 65 = .ok (.getfield 7, 3) := by decide +kernel
theorem dX10_whyNotNow_68 : decode cX10_whyNotNow 68 = .ok (.bipush 22, 2) := by decide +kernel
theorem dX10_whyNotNow_70 : decode cX10_whyNotNow 70 = .ok (.iaload, 1) := by decide +kernel
theorem dX10_whyNotNow_71 : decode cX10_whyNotNow 71 = .ok (.if_icmp .le 5, 3) := by decide +kernel
theorem dX10_whyNotNow_74 : decode cX10_whyNotNow 74 = .ok (.iconst 4, 1) := by decide +kernel
theorem dX10_whyNotNow_75 : decode cX10_whyNotNow 75 = .ok (.ireturn, 1) := by decide +kernel
theorem dX10_whyNotNow_76 : decode cX10_whyNotNow 76 = .ok (.aload_n 0, 1) := by decide +kernel
theorem dX10_whyNotNow_77 : decode cX10_whyNotNow 77 = .ok (.iload_n 1, 1) := by decide +kernel
theorem dX10_whyNotNow_78 : decode cX10_whyNotNow 78 = .ok (.invokevirtual 108, 3) := by decide +kernel
theorem dX10_whyNotNow_81 : decode cX10_whyNotNow 81 = .ok (.iconst (-1), 1) := by decide +kernel
theorem dX10_whyNotNow_82 : decode cX10_whyNotNow 82 = .ok (.if_icmp .ne 5, 3) := by decide +kernel
theorem dX10_whyNotNow_85 : decode cX10_whyNotNow 85 = .ok (.iconst 5, 1) := by decide +kernel
theorem dX10_whyNotNow_86 : decode cX10_whyNotNow 86 = .ok (.ireturn, 1) := by decide +kernel
theorem dX10_whyNotNow_87 : decode cX10_whyNotNow 87 = .ok (.aload_n 0, 1) := by decide +kernel
theorem dX10_whyNotNow_88 : decode cX10_whyNotNow 88 = .ok (.invokevirtual 111, 3) := by decide +kernel
theorem dX10_whyNotNow_91 : decode cX10_whyNotNow 91 = .ok (.aload_n 0, 1) := by decide +kernel
theorem dX10_whyNotNow_92 : decode cX10_whyNotNow 92 = .ok (.iload_n 1, 1) := by decide +kernel
theorem dX10_whyNotNow_93 : decode cX10_whyNotNow 93 = .ok (.iconst 0, 1) := by decide +kernel
theorem dX10_whyNotNow_94 : decode cX10_whyNotNow 94 = .ok (.invokevirtual 90, 3) := by decide +kernel
theorem dX10_whyNotNow_97 : decode cX10_whyNotNow 97 = .ok (.if_icmp .le 6, 3) := by decide +kernel
theorem dX10_whyNotNow_100 : decode cX10_whyNotNow 100 = .ok (.bipush 6, 2) := by decide +kernel
theorem dX10_whyNotNow_102 : decode cX10_whyNotNow 102 = .ok (.ireturn, 1) := by decide +kernel
theorem dX10_whyNotNow_103 : decode cX10_whyNotNow 103 = .ok (.aload_n 0, 1) := by decide +kernel
theorem dX10_whyNotNow_104 : decode cX10_whyNotNow 104 = .ok (.invokevirtual 114, 3) := by decide +kernel
theorem dX10_whyNotNow_107 : decode cX10_whyNotNow 107 = .ok (.aload_n 0, 1) := by decide +kernel
theorem dX10_whyNotNow_108 : decode cX10_whyNotNow 108 = .ok (.iload_n 1, 1) := by decide +kernel
theorem dX10_whyNotNow_109 : decode cX10_whyNotNow 109 = .ok (.iconst 1, 1) := by decide +kernel
theorem dX10_whyNotNow_110 : decode cX10_whyNotNow 110 = .ok (.invokevirtual 90, 3) := by decide +kernel
theorem dX10_whyNotNow_113 : decode cX10_whyNotNow 113 = .ok (.if_icmp .le 8, 3) := by decide +kernel
theorem dX10_whyNotNow_116 : decode cX10_whyNotNow 116 = .ok (.bipush 7, 2) := by decide +kernel
theorem dX10_whyNotNow_118 : decode cX10_whyNotNow 118 = .ok (.goto 4, 3) := by decide +kernel
theorem dX10_whyNotNow_121 : decode cX10_whyNotNow 121 = .ok (.iconst 0, 1) := by decide +kernel
theorem dX10_whyNotNow_122 : decode cX10_whyNotNow 122 = .ok (.ireturn, 1) := by decide +kernel
theorem dX10_placeOf_0 : decode cX10_placeOf 0 = .ok (.iconst 0, 1) := by decide +kernel
theorem dX10_placeOf_1 : decode cX10_placeOf 1 = .ok (.istore_n 2, 1) := by decide +kernel
theorem dX10_placeOf_2 : decode cX10_placeOf 2 = .ok (.aload_n 0, 1) := by decide +kernel
theorem dX10_placeOf_3 : decode cX10_placeOf 3 = .ok (.getfield 7, 3) := by decide +kernel
theorem dX10_placeOf_6 : decode cX10_placeOf 6 = .ok (.bipush 41, 2) := by decide +kernel
theorem dX10_placeOf_8 : decode cX10_placeOf 8 = .ok (.iload_n 2, 1) := by decide +kernel
theorem dX10_placeOf_9 : decode cX10_placeOf 9 = .ok (.iadd, 1) := by decide +kernel
theorem dX10_placeOf_10 : decode cX10_placeOf 10 = .ok (.iaload, 1) := by decide +kernel
theorem dX10_placeOf_11 : decode cX10_placeOf 11 = .ok (.iload_n 1, 1) := by decide +kernel
theorem dX10_placeOf_12 : decode cX10_placeOf 12 = .ok (.if_icmp .eq 9, 3) := by decide +kernel
theorem dX10_placeOf_15 : decode cX10_placeOf 15 = .ok (.iinc 2 1, 3) := by decide +kernel
theorem dX10_placeOf_18 : decode cX10_placeOf 18 = .ok (.goto (-16), 3) := by decide +kernel
theorem dX10_placeOf_21 : decode cX10_placeOf 21 = .ok (.iload_n 2, 1) := by decide +kernel
theorem dX10_placeOf_22 : decode cX10_placeOf 22 = .ok (.ireturn, 1) := by decide +kernel
set_option maxRecDepth 20000 in
theorem ggX10_leaveQueue_X10_placeOf : GoodIn wsX10_leaveQueue wsX10_placeOf := goodIn_r _ [6, 1, 7, 8, 9, 10, 11, 12, 13, 14, 15, 16, 17, 18, 19, 20, 21, 22, 23, 24, 25, 26, 27, 28, 29] (by decide +kernel) (by decide +kernel)
set_option maxRecDepth 20000 in
theorem gX10_leaveQueue_X10_placeOf : GoodIn wsX10_leaveQueue (wsV RX10 117 RX10 yX10_placeOf wsX10_placeOf) := goodIn_app (goodIn_of _ (by decide +kernel)) ggX10_leaveQueue_X10_placeOf
theorem dX10_leaveQueue_0 : decode cX10_leaveQueue 0 = .ok (.aload_n 0, 1) := by decide +kernel
theorem dX10_leaveQueue_1 : decode cX10_leaveQueue 1 = .ok (.getfield 7, 3) := by decide +kernel
theorem dX10_leaveQueue_4 : decode cX10_leaveQueue 4 = .ok (.bipush 14, 2) := by decide +kernel
theorem dX10_leaveQueue_6 : decode cX10_leaveQueue 6 = .ok (.dup2, 1) := by decide +kernel
theorem dX10_leaveQueue_7 : decode cX10_leaveQueue 7 = .ok (.iaload, 1) := by decide +kernel
theorem dX10_leaveQueue_8 : decode cX10_leaveQueue 8 = .ok (.iconst 1, 1) := by decide +kernel
theorem dX10_leaveQueue_9 : decode cX10_leaveQueue 9 = .ok (.isub, 1) := by decide +kernel
theorem dX10_leaveQueue_10 : decode cX10_leaveQueue 10 = .ok (.iastore, 1) := by decide +kernel
theorem dX10_leaveQueue_11 : decode cX10_leaveQueue 11 = .ok (.aload_n 0, 1) := by decide +kernel
theorem dX10_leaveQueue_12 : decode cX10_leaveQueue 12 = .ok (.iload_n 1, 1) := by decide +kernel
theorem dX10_leaveQueue_13 : decode cX10_leaveQueue 13 = .ok (.invokevirtual 117, 3) := by decide +kernel
theorem dX10_leaveQueue_16 : decode cX10_leaveQueue 16 = .ok (.istore_n 2, 1) := by decide +kernel
theorem dX10_leaveQueue_17 : decode cX10_leaveQueue 17 = .ok (.iload_n 2, 1) := by decide +kernel
theorem dX10_leaveQueue_18 : decode cX10_leaveQueue 18 = .ok (.aload_n 0, 1) := by decide +kernel
theorem dX10_leaveQueue_19 : decode cX10_leaveQueue 19 = .ok (.getfield 7, 3) := by decide +kernel
theorem dX10_leaveQueue_22 : decode cX10_leaveQueue 22 = .ok (.bipush 14, 2) := by decide +kernel
theorem dX10_leaveQueue_24 : decode cX10_leaveQueue 24 = .ok (.iaload, 1) := by decide +kernel
theorem dX10_leaveQueue_25 : decode cX10_leaveQueue 25 = .ok (.if_icmp .ge 29, 3) := by decide +kernel
theorem dX10_leaveQueue_28 : decode cX10_leaveQueue 28 = .ok (.aload_n 0, 1) := by decide +kernel
theorem dX10_leaveQueue_29 : decode cX10_leaveQueue 29 = .ok (.getfield 7, 3) := by decide +kernel
theorem dX10_leaveQueue_32 : decode cX10_leaveQueue 32 = .ok (.bipush 41, 2) := by decide +kernel
theorem dX10_leaveQueue_34 : decode cX10_leaveQueue 34 = .ok (.iload_n 2, 1) := by decide +kernel
theorem dX10_leaveQueue_35 : decode cX10_leaveQueue 35 = .ok (.iadd, 1) := by decide +kernel
theorem dX10_leaveQueue_36 : decode cX10_leaveQueue 36 = .ok (.aload_n 0, 1) := by decide +kernel
theorem dX10_leaveQueue_37 : decode cX10_leaveQueue 37 = .ok (.getfield 7, 3) := by decide +kernel
theorem dX10_leaveQueue_40 : decode cX10_leaveQueue 40 = .ok (.bipush 41, 2) := by decide +kernel
theorem dX10_leaveQueue_42 : decode cX10_leaveQueue 42 = .ok (.iload_n 2, 1) := by decide +kernel
theorem dX10_leaveQueue_43 : decode cX10_leaveQueue 43 = .ok (.iadd, 1) := by decide +kernel
theorem dX10_leaveQueue_44 : decode cX10_leaveQueue 44 = .ok (.iconst 1, 1) := by decide +kernel
theorem dX10_leaveQueue_45 : decode cX10_leaveQueue 45 = .ok (.iadd, 1) := by decide +kernel
theorem dX10_leaveQueue_46 : decode cX10_leaveQueue 46 = .ok (.iaload, 1) := by decide +kernel
theorem dX10_leaveQueue_47 : decode cX10_leaveQueue 47 = .ok (.iastore, 1) := by decide +kernel
theorem dX10_leaveQueue_48 : decode cX10_leaveQueue 48 = .ok (.iinc 2 1, 3) := by decide +kernel
theorem dX10_leaveQueue_51 : decode cX10_leaveQueue 51 = .ok (.goto (-34), 3) := by decide +kernel
theorem dX10_leaveQueue_54 : decode cX10_leaveQueue 54 = .ok (.aload_n 0, 1) := by decide +kernel
theorem dX10_leaveQueue_55 : decode cX10_leaveQueue 55 = .ok (.getfield 7, 3) := by decide +kernel
theorem dX10_leaveQueue_58 : decode cX10_leaveQueue 58 = .ok (.bipush 41, 2) := by decide +kernel
theorem dX10_leaveQueue_60 : decode cX10_leaveQueue 60 = .ok (.aload_n 0, 1) := by decide +kernel
theorem dX10_leaveQueue_61 : decode cX10_leaveQueue 61 = .ok (.getfield 7, 3) := by decide +kernel
theorem dX10_leaveQueue_64 : decode cX10_leaveQueue 64 = .ok (.bipush 14, 2) := by decide +kernel
theorem dX10_leaveQueue_66 : decode cX10_leaveQueue 66 = .ok (.iaload, 1) := by decide +kernel
theorem dX10_leaveQueue_67 : decode cX10_leaveQueue 67 = .ok (.iadd, 1) := by decide +kernel
theorem dX10_leaveQueue_68 : decode cX10_leaveQueue 68 = .ok (.iconst 0, 1) := by decide +kernel
theorem dX10_leaveQueue_69 : decode cX10_leaveQueue 69 = .ok (.iastore, 1) := by decide +kernel
theorem dX10_leaveQueue_70 : decode cX10_leaveQueue 70 = .ok (.return_, 1) := by decide +kernel
set_option maxRecDepth 20000 in
theorem ggX10_beginToDrive_X10_laneOf : GoodIn wsX10_beginToDrive wsX10_laneOf := goodIn_r _ [6, 7, 8, 9, 5, 10, 11, 12, 13, 14, 1, 15, 16, 17, 18, 19, 20, 21, 22, 23, 24, 25, 26, 27, 28, 29, 30, 31, 32, 33, 34, 35, 36, 37, 38, 39, 40, 41, 42, 43, 44, 45, 46, 59, 60, 61, 62, 63, 64, 65, 66, 67, 68, 69, 70, 71, 72, 73, 74, 75, 76, 77, 78, 79, 80, 81] (by decide +kernel) (by decide +kernel)
set_option maxRecDepth 20000 in
theorem gX10_beginToDrive_X10_laneOf : GoodIn wsX10_beginToDrive (wsV RX10 108 RX10 yX10_laneOf wsX10_laneOf) := goodIn_app (goodIn_of _ (by decide +kernel)) ggX10_beginToDrive_X10_laneOf
set_option maxRecDepth 20000 in
theorem ggX10_beginToDrive_X10_leaveQueue : GoodIn wsX10_beginToDrive wsX10_leaveQueue := goodIn_r _ [50, 1, 51, 52, 53, 5, 54, 59, 60, 61, 62, 63, 64, 65, 66, 67, 68, 69, 70, 71, 72, 73, 74, 75, 76, 77, 78, 79, 80, 81] (by decide +kernel) (by decide +kernel)
set_option maxRecDepth 20000 in
theorem gX10_beginToDrive_X10_leaveQueue : GoodIn wsX10_beginToDrive (wsV RX10 120 RX10 yX10_leaveQueue wsX10_leaveQueue) := goodIn_app (goodIn_of _ (by decide +kernel)) ggX10_beginToDrive_X10_leaveQueue
set_option maxRecDepth 20000 in
theorem ggX10_beginToDrive_X10_layCar : GoodIn wsX10_beginToDrive wsX10_layCar := goodIn_r _ [58, 1, 59, 60, 61, 62, 63, 64, 65, 66, 67, 68, 69, 70, 71, 72, 73, 74, 75, 76, 77, 78, 79, 80, 81] (by decide +kernel) (by decide +kernel)
set_option maxRecDepth 20000 in
theorem gX10_beginToDrive_X10_layCar : GoodIn wsX10_beginToDrive (wsV RX10 124 RX10 yX10_layCar wsX10_layCar) := goodIn_app (goodIn_of _ (by decide +kernel)) ggX10_beginToDrive_X10_layCar
theorem dX10_beginToDrive_0 : decode cX10_beginToDrive 0 = .ok (.aload_n 0, 1) := by decide +kernel
theorem dX10_beginToDrive_1 : decode cX10_beginToDrive 1 = .ok (.iload_n 1, 1) := by decide +kernel
theorem dX10_beginToDrive_2 : decode cX10_beginToDrive 2 = .ok (.invokevirtual 108, 3) := by decide +kernel
theorem dX10_beginToDrive_5 : decode cX10_beginToDrive 5 = .ok (.istore_n 2, 1) := by decide +kernel
theorem dX10_beginToDrive_6 : decode cX10_beginToDrive 6 = .ok (.aload_n 0, 1) := by decide +kernel
theorem dX10_beginToDrive_7 : decode cX10_beginToDrive 7 = .ok (.iload_n 1, 1) := by decide +kernel
theorem dX10_beginToDrive_8 : decode cX10_beginToDrive 8 = .ok (.invokevirtual 120, 3) := by decide +kernel
theorem dX10_beginToDrive_11 : decode cX10_beginToDrive 11 = .ok (.aload_n 0, 1) := by decide +kernel
theorem dX10_beginToDrive_12 : decode cX10_beginToDrive 12 = .ok (.iload_n 1, 1) := by decide +kernel
theorem dX10_beginToDrive_13 : decode cX10_beginToDrive 13 = .ok (.iconst 2, 1) := by decide +kernel
theorem dX10_beginToDrive_14 : decode cX10_beginToDrive 14 = .ok (.iconst 1, 1) := by decide +kernel
theorem dX10_beginToDrive_15 : decode cX10_beginToDrive 15 = .ok (.invokevirtual 124, 3) := by decide +kernel
theorem dX10_beginToDrive_18 : decode cX10_beginToDrive 18 = .ok (.aload_n 0, 1) := by decide +kernel
theorem dX10_beginToDrive_19 : decode cX10_beginToDrive 19 = .ok (.iload_n 1, 1) := by decide +kernel
theorem dX10_beginToDrive_20 : decode cX10_beginToDrive 20 = .ok (.iconst 3, 1) := by decide +kernel
theorem dX10_beginToDrive_21 : decode cX10_beginToDrive 21 = .ok (.iload_n 2, 1) := by decide +kernel
theorem dX10_beginToDrive_22 : decode cX10_beginToDrive 22 = .ok (.invokevirtual 124, 3) := by decide +kernel
theorem dX10_beginToDrive_25 : decode cX10_beginToDrive 25 = .ok (.aload_n 0, 1) := by decide +kernel
theorem dX10_beginToDrive_26 : decode cX10_beginToDrive 26 = .ok (.iload_n 1, 1) := by decide +kernel
theorem dX10_beginToDrive_27 : decode cX10_beginToDrive 27 = .ok (.iconst 5, 1) := by decide +kernel
theorem dX10_beginToDrive_28 : decode cX10_beginToDrive 28 = .ok (.aload_n 0, 1) := by decide +kernel
theorem dX10_beginToDrive_29 : decode cX10_beginToDrive 29 = .ok (.getfield 7, 3) := by decide +kernel
theorem dX10_beginToDrive_32 : decode cX10_beginToDrive 32 = .ok (.iconst 0, 1) := by decide +kernel
theorem dX10_beginToDrive_33 : decode cX10_beginToDrive 33 = .ok (.iaload, 1) := by decide +kernel
theorem dX10_beginToDrive_34 : decode cX10_beginToDrive 34 = .ok (.invokevirtual 124, 3) := by decide +kernel
theorem dX10_beginToDrive_37 : decode cX10_beginToDrive 37 = .ok (.aload_n 0, 1) := by decide +kernel
theorem dX10_beginToDrive_38 : decode cX10_beginToDrive 38 = .ok (.getfield 7, 3) := by decide +kernel
theorem dX10_beginToDrive_41 : decode cX10_beginToDrive 41 = .ok (.iconst 4, 1) := by decide +kernel
theorem dX10_beginToDrive_42 : decode cX10_beginToDrive 42 = .ok (.iload_n 1, 1) := by decide +kernel
theorem dX10_beginToDrive_43 : decode cX10_beginToDrive 43 = .ok (.iastore, 1) := by decide +kernel
theorem dX10_beginToDrive_44 : decode cX10_beginToDrive 44 = .ok (.aload_n 0, 1) := by decide +kernel
theorem dX10_beginToDrive_45 : decode cX10_beginToDrive 45 = .ok (.getfield 7, 3) := by decide +kernel
theorem dX10_beginToDrive_48 : decode cX10_beginToDrive 48 = .ok (.iconst 5, 1) := by decide +kernel
theorem dX10_beginToDrive_49 : decode cX10_beginToDrive 49 = .ok (.iconst 0, 1) := by decide +kernel
theorem dX10_beginToDrive_50 : decode cX10_beginToDrive 50 = .ok (.iastore, 1) := by decide +kernel
theorem dX10_beginToDrive_51 : decode cX10_beginToDrive 51 = .ok (.aload_n 0, 1) := by decide +kernel
theorem dX10_beginToDrive_52 : decode cX10_beginToDrive 52 = .ok (.getfield 7, 3) := by decide +kernel
theorem dX10_beginToDrive_55 : decode cX10_beginToDrive 55 = .ok (.bipush 7, 2) := by decide +kernel
theorem dX10_beginToDrive_57 : decode cX10_beginToDrive 57 = .ok (.iconst 0, 1) := by decide +kernel
theorem dX10_beginToDrive_58 : decode cX10_beginToDrive 58 = .ok (.iastore, 1) := by decide +kernel
theorem dX10_beginToDrive_59 : decode cX10_beginToDrive 59 = .ok (.return_, 1) := by decide +kernel
set_option maxRecDepth 20000 in
theorem ggX10_pull_X10_deckAt : GoodIn wsX10_pull wsX10_deckAt := goodIn_r _ [10, 1, 11, 12, 13, 9, 14, 15, 16, 17, 18, 19, 20, 21, 22, 30, 31, 32, 33, 34, 35, 36, 37, 38, 39, 40, 41, 42, 43, 44, 45, 46, 47, 48, 49, 50, 51, 52] (by decide +kernel) (by decide +kernel)
set_option maxRecDepth 20000 in
theorem gX10_pull_X10_deckAt : GoodIn wsX10_pull (wsV RX10 78 RX10 yX10_deckAt wsX10_deckAt) := goodIn_app (goodIn_of _ (by decide +kernel)) ggX10_pull_X10_deckAt
set_option maxRecDepth 20000 in
theorem ggX10_pull_X10_lipNow : GoodIn wsX10_pull wsX10_lipNow := goodIn_r _ [26, 1, 27, 28, 4, 29, 6, 7, 8, 9, 10, 11, 12, 13, 14, 15, 16, 17, 18, 19, 20, 21, 22, 30, 31, 32, 33, 34, 35, 36, 37, 38, 39, 40, 41, 42, 43, 44, 45, 46, 47, 48, 49, 50, 51, 52] (by decide +kernel) (by decide +kernel)
set_option maxRecDepth 20000 in
theorem gX10_pull_X10_lipNow : GoodIn wsX10_pull (wsV RX10 114 RX10 yX10_lipNow wsX10_lipNow) := goodIn_app (goodIn_of _ (by decide +kernel)) ggX10_pull_X10_lipNow
theorem dX10_pull_0 : decode cX10_pull 0 = .ok (.aload_n 0, 1) := by decide +kernel
theorem dX10_pull_1 : decode cX10_pull 1 = .ok (.aload_n 0, 1) := by decide +kernel
theorem dX10_pull_2 : decode cX10_pull 2 = .ok (.getfield 7, 3) := by decide +kernel
theorem dX10_pull_5 : decode cX10_pull 5 = .ok (.iconst 0, 1) := by decide +kernel
theorem dX10_pull_6 : decode cX10_pull 6 = .ok (.iaload, 1) := by decide +kernel
theorem dX10_pull_7 : decode cX10_pull 7 = .ok (.invokevirtual 78, 3) := by decide +kernel
theorem dX10_pull_10 : decode cX10_pull 10 = .ok (.istore_n 1, 1) := by decide +kernel
theorem dX10_pull_11 : decode cX10_pull 11 = .ok (.aload_n 0, 1) := by decide +kernel
theorem dX10_pull_12 : decode cX10_pull 12 = .ok (.invokevirtual 114, 3) := by decide +kernel
theorem dX10_pull_15 : decode cX10_pull 15 = .ok (.istore_n 2, 1) := by decide +kernel
theorem dX10_pull_16 : decode cX10_pull 16 = .ok (.aload_n 0, 1) := by decide +kernel
theorem dX10_pull_17 : decode cX10_pull 17 = .ok (.getfield 7, 3) := by decide +kernel
theorem dX10_pull_20 : decode cX10_pull 20 = .ok (.bipush 24, 2) := by decide +kernel
theorem dX10_pull_22 : decode cX10_pull 22 = .ok (.iaload, 1) := by decide +kernel
theorem dX10_pull_23 : decode cX10_pull 23 = .ok (.iload_n 2, 1) := by decide +kernel
theorem dX10_pull_24 : decode cX10_pull 24 = .ok (.invokestatic 128, 3) := by decide +kernel
theorem dX10_pull_27 : decode cX10_pull 27 = .ok (.istore_n 3, 1) := by decide +kernel
theorem dX10_pull_28 : decode cX10_pull 28 = .ok (.aload_n 0, 1) := by decide +kernel
theorem dX10_pull_29 : decode cX10_pull 29 = .ok (.getfield 7, 3) := by decide +kernel
theorem dX10_pull_32 : decode cX10_pull 32 = .ok (.iconst 1, 1) := by decide +kernel
theorem dX10_pull_33 : decode cX10_pull 33 = .ok (.dup2, 1) := by decide +kernel
theorem dX10_pull_34 : decode cX10_pull 34 = .ok (.iaload, 1) := by decide +kernel
theorem dX10_pull_35 : decode cX10_pull 35 = .ok (.iload_n 1, 1) := by decide +kernel
theorem dX10_pull_36 : decode cX10_pull 36 = .ok (.aload_n 0, 1) := by decide +kernel
theorem dX10_pull_37 : decode cX10_pull 37 = .ok (.getfield 7, 3) := by decide +kernel
theorem dX10_pull_40 : decode cX10_pull 40 = .ok (.iconst 1, 1) := by decide +kernel
theorem dX10_pull_41 : decode cX10_pull 41 = .ok (.iaload, 1) := by decide +kernel
theorem dX10_pull_42 : decode cX10_pull 42 = .ok (.if_icmp .le 7, 3) := by decide +kernel
theorem dX10_pull_45 : decode cX10_pull 45 = .ok (.iload_n 3, 1) := by decide +kernel
theorem dX10_pull_46 : decode cX10_pull 46 = .ok (.goto 5, 3) := by decide +kernel
theorem dX10_pull_49 : decode cX10_pull 49 = .ok (.iload_n 3, 1) := by decide +kernel
theorem dX10_pull_50 : decode cX10_pull 50 = .ok (.ineg, 1) := by decide +kernel
theorem dX10_pull_51 : decode cX10_pull 51 = .ok (.iadd, 1) := by decide +kernel
theorem dX10_pull_52 : decode cX10_pull 52 = .ok (.iastore, 1) := by decide +kernel
theorem dX10_pull_53 : decode cX10_pull 53 = .ok (.iload_n 2, 1) := by decide +kernel
theorem dX10_pull_54 : decode cX10_pull 54 = .ok (.iload_n 3, 1) := by decide +kernel
theorem dX10_pull_55 : decode cX10_pull 55 = .ok (.if_icmp .ne 10, 3) := by decide +kernel
theorem dX10_pull_58 : decode cX10_pull 58 = .ok (.aload_n 0, 1) := by decide +kernel
theorem dX10_pull_59 : decode cX10_pull 59 = .ok (.getfield 7, 3) := by decide +kernel
theorem dX10_pull_62 : decode cX10_pull 62 = .ok (.iconst 2, 1) := by decide +kernel
theorem dX10_pull_63 : decode cX10_pull 63 = .ok (.iconst 0, 1) := by decide +kernel
theorem dX10_pull_64 : decode cX10_pull 64 = .ok (.iastore, 1) := by decide +kernel
theorem dX10_pull_65 : decode cX10_pull 65 = .ok (.return_, 1) := by decide +kernel
set_option maxRecDepth 20000 in
theorem ggX10_winch_X10_lipNow : GoodIn wsX10_winch wsX10_lipNow := goodIn_r _ [6, 1, 7, 8, 9, 10, 11, 12, 13, 5, 14, 15, 16, 17, 18, 19, 20, 21, 22, 23, 24, 25, 26, 34, 35, 36, 37, 38, 39, 40, 41, 42, 43, 44, 45, 46, 47, 48, 49, 50, 51, 52, 53, 54, 55, 56] (by decide +kernel) (by decide +kernel)
set_option maxRecDepth 20000 in
theorem gX10_winch_X10_lipNow : GoodIn wsX10_winch (wsV RX10 114 RX10 yX10_lipNow wsX10_lipNow) := goodIn_app (goodIn_of _ (by decide +kernel)) ggX10_winch_X10_lipNow
set_option maxRecDepth 20000 in
theorem ggX10_winch_X10_pull : GoodIn wsX10_winch wsX10_pull := goodIn_r _ [30, 1, 31, 32, 9, 33, 11, 12, 13, 5, 14, 15, 16, 17, 18, 19, 20, 21, 22, 23, 24, 25, 26, 2, 3, 4, 6, 7, 8, 10, 34, 35, 36, 37, 38, 39, 40, 41, 42, 43, 44, 45, 46, 47, 48, 49, 50, 51, 52, 53, 54, 55, 56] (by decide +kernel) (by decide +kernel)
set_option maxRecDepth 20000 in
theorem gX10_winch_X10_pull : GoodIn wsX10_winch (wsV RX10 131 RX10 yX10_pull wsX10_pull) := goodIn_app (goodIn_of _ (by decide +kernel)) ggX10_winch_X10_pull
theorem dX10_winch_0 : decode cX10_winch 0 = .ok (.aload_n 0, 1) := by decide +kernel
theorem dX10_winch_1 : decode cX10_winch 1 = .ok (.getfield 7, 3) := by decide +kernel
theorem dX10_winch_4 : decode cX10_winch 4 = .ok (.iconst 2, 1) := by decide +kernel
theorem dX10_winch_5 : decode cX10_winch 5 = .ok (.iaload, 1) := by decide +kernel
theorem dX10_winch_6 : decode cX10_winch 6 = .ok (.ifCond .ne 40, 3) := by decide +kernel
theorem dX10_winch_9 : decode cX10_winch 9 = .ok (.aload_n 0, 1) := by decide +kernel
theorem dX10_winch_10 : decode cX10_winch 10 = .ok (.invokevirtual 114, 3) := by decide +kernel
theorem dX10_winch_13 : decode cX10_winch 13 = .ok (.aload_n 0, 1) := by decide +kernel
theorem dX10_winch_14 : decode cX10_winch 14 = .ok (.getfield 7, 3) := by decide +kernel
theorem dX10_winch_17 : decode cX10_winch 17 = .ok (.bipush 25, 2) := by decide +kernel
theorem dX10_winch_19 : decode cX10_winch 19 = .ok (.iaload, 1) := by decide +kernel
theorem dX10_winch_20 : decode cX10_winch 20 = .ok (.if_icmp .le 46, 3) := by decide +kernel
theorem dX10_winch_23 : decode cX10_winch 23 = .ok (.aload_n 0, 1) := by decide +kernel
theorem dX10_winch_24 : decode cX10_winch 24 = .ok (.getfield 7, 3) := by decide +kernel
theorem dX10_winch_27 : decode cX10_winch 27 = .ok (.iconst 2, 1) := by decide +kernel
theorem dX10_winch_28 : decode cX10_winch 28 = .ok (.iconst 1, 1) := by decide +kernel
theorem dX10_winch_29 : decode cX10_winch 29 = .ok (.iastore, 1) := by decide +kernel
theorem dX10_winch_30 : decode cX10_winch 30 = .ok (.aload_n 0, 1) := by decide +kernel
theorem dX10_winch_31 : decode cX10_winch 31 = .ok (.getfield 7, 3) := by decide +kernel
theorem dX10_winch_34 : decode cX10_winch 34 = .ok (.iconst 3, 1) := by decide +kernel
theorem dX10_winch_35 : decode cX10_winch 35 = .ok (.aload_n 0, 1) := by decide +kernel
theorem dX10_winch_36 : decode cX10_winch 36 = .ok (.getfield 7, 3) := by decide +kernel
theorem dX10_winch_39 : decode cX10_winch 39 = .ok (.bipush 26, 2) := by decide +kernel
theorem dX10_winch_41 : decode cX10_winch 41 = .ok (.iaload, 1) := by decide +kernel
theorem dX10_winch_42 : decode cX10_winch 42 = .ok (.iastore, 1) := by decide +kernel
theorem dX10_winch_43 : decode cX10_winch 43 = .ok (.goto 23, 3) := by decide +kernel
theorem dX10_winch_46 : decode cX10_winch 46 = .ok (.aload_n 0, 1) := by decide +kernel
theorem dX10_winch_47 : decode cX10_winch 47 = .ok (.getfield 7, 3) := by decide +kernel
theorem dX10_winch_50 : decode cX10_winch 50 = .ok (.iconst 2, 1) := by decide +kernel
theorem dX10_winch_51 : decode cX10_winch 51 = .ok (.iaload, 1) := by decide +kernel
theorem dX10_winch_52 : decode cX10_winch 52 = .ok (.iconst 1, 1) := by decide +kernel
theorem dX10_winch_53 : decode cX10_winch 53 = .ok (.if_icmp .ne 13, 3) := by decide +kernel
theorem dX10_winch_56 : decode cX10_winch 56 = .ok (.aload_n 0, 1) := by decide +kernel
theorem dX10_winch_57 : decode cX10_winch 57 = .ok (.getfield 7, 3) := by decide +kernel
theorem dX10_winch_60 : decode cX10_winch 60 = .ok (.iconst 3, 1) := by decide +kernel
theorem dX10_winch_61 : decode cX10_winch 61 = .ok (.dup2, 1) := by decide +kernel
theorem dX10_winch_62 : decode cX10_winch 62 = .ok (.iaload, 1) := by decide +kernel
theorem dX10_winch_63 : decode cX10_winch 63 = .ok (.iconst 1, 1) := by decide +kernel
theorem dX10_winch_64 : decode cX10_winch 64 = .ok (.isub, 1) := by decide +kernel
theorem dX10_winch_65 : decode cX10_winch 65 = .ok (.iastore, 1) := by decide +kernel
theorem dX10_winch_66 : decode cX10_winch 66 = .ok (.aload_n 0, 1) := by decide +kernel
theorem dX10_winch_67 : decode cX10_winch 67 = .ok (.getfield 7, 3) := by decide +kernel
theorem dX10_winch_70 : decode cX10_winch 70 = .ok (.iconst 2, 1) := by decide +kernel
theorem dX10_winch_71 : decode cX10_winch 71 = .ok (.iaload, 1) := by decide +kernel
theorem dX10_winch_72 : decode cX10_winch 72 = .ok (.iconst 1, 1) := by decide +kernel
theorem dX10_winch_73 : decode cX10_winch 73 = .ok (.if_icmp .ne 19, 3) := by decide +kernel
theorem dX10_winch_76 : decode cX10_winch 76 = .ok (.aload_n 0, 1) := by decide +kernel
theorem dX10_winch_77 : decode cX10_winch 77 = .ok (.getfield 7, 3) := by decide +kernel
theorem dX10_winch_80 : decode cX10_winch 80 = .ok (.iconst 3, 1) := by decide +kernel
theorem dX10_winch_81 : decode cX10_winch 81 = .ok (.iaload, 1) := by decide +kernel
theorem dX10_winch_82 : decode cX10_winch 82 = .ok (.ifCond .ne 10, 3) := by decide +kernel
theorem dX10_winch_85 : decode cX10_winch 85 = .ok (.aload_n 0, 1) := by decide +kernel
theorem dX10_winch_86 : decode cX10_winch 86 = .ok (.getfield 7, 3) := by decide +kernel
theorem dX10_winch_89 : decode cX10_winch 89 = .ok (.iconst 2, 1) := by decide +kernel
theorem dX10_winch_90 : decode cX10_winch 90 = .ok (.iconst 2, 1) := by decide +kernel
theorem dX10_winch_91 : decode cX10_winch 91 = .ok (.iastore, 1) := by decide +kernel
theorem dX10_winch_92 : decode cX10_winch 92 = .ok (.aload_n 0, 1) := by decide +kernel
theorem dX10_winch_93 : decode cX10_winch 93 = .ok (.getfield 7, 3) := by decide +kernel
theorem dX10_winch_96 : decode cX10_winch 96 = .ok (.iconst 2, 1) := by decide +kernel
theorem dX10_winch_97 : decode cX10_winch 97 = .ok (.iaload, 1) := by decide +kernel
theorem dX10_winch_98 : decode cX10_winch 98 = .ok (.iconst 2, 1) := by decide +kernel
theorem dX10_winch_99 : decode cX10_winch 99 = .ok (.if_icmp .ne 7, 3) := by decide +kernel
theorem dX10_winch_102 : decode cX10_winch 102 = .ok (.aload_n 0, 1) := by decide +kernel
theorem dX10_winch_103 : decode cX10_winch 103 = .ok (.invokevirtual 131, 3) := by decide +kernel
theorem dX10_winch_106 : decode cX10_winch 106 = .ok (.return_, 1) := by decide +kernel
set_option maxRecDepth 20000 in
theorem ggX10_drive_X10_slopeNow : GoodIn wsX10_drive wsX10_slopeNow := goodIn_r _ [10, 1, 11, 12, 4, 13, 46, 47, 48, 49, 50, 51, 52, 53, 54, 55, 56, 57, 58, 59, 60, 61, 62, 63, 64, 65, 66, 67, 68] (by decide +kernel) (by decide +kernel)
set_option maxRecDepth 20000 in
theorem gX10_drive_X10_slopeNow : GoodIn wsX10_drive (wsV RX10 111 RX10 yX10_slopeNow wsX10_slopeNow) := goodIn_app (goodIn_of _ (by decide +kernel)) ggX10_drive_X10_slopeNow
set_option maxRecDepth 20000 in
theorem ggX10_drive_X10_kindOf : GoodIn wsX10_drive wsX10_kindOf := goodIn_r _ [17, 18, 19, 20, 9, 21, 1, 22, 23, 24, 25, 46, 47, 48, 49, 50, 51, 52, 53, 54, 55, 56, 57, 58, 59, 60, 61, 62, 63, 64, 65, 66, 67, 68] (by decide +kernel) (by decide +kernel)
set_option maxRecDepth 20000 in
theorem gX10_drive_X10_kindOf : GoodIn wsX10_drive (wsV RX10 90 RX10 yX10_kindOf wsX10_kindOf) := goodIn_app (goodIn_of _ (by decide +kernel)) ggX10_drive_X10_kindOf
set_option maxRecDepth 20000 in
theorem ggX10_drive_X10_lipNow : GoodIn wsX10_drive wsX10_lipNow := goodIn_r _ [29, 1, 11, 12, 4, 13, 30, 31, 32, 9, 33, 34, 35, 36, 37, 38, 39, 40, 41, 18, 19, 20, 21, 46, 47, 48, 49, 50, 51, 52, 53, 54, 55, 56, 57, 58, 59, 60, 61, 62, 63, 64, 65, 66, 67, 68] (by decide +kernel) (by decide +kernel)
set_option maxRecDepth 20000 in
theorem gX10_drive_X10_lipNow : GoodIn wsX10_drive (wsV RX10 114 RX10 yX10_lipNow wsX10_lipNow) := goodIn_app (goodIn_of _ (by decide +kernel)) ggX10_drive_X10_lipNow
set_option maxRecDepth 20000 in
theorem ggX10_drive_X10_layCar : GoodIn wsX10_drive wsX10_layCar := goodIn_r _ [45, 1, 46, 47, 48, 49, 50, 51, 52, 53, 54, 55, 56, 57, 58, 59, 60, 61, 62, 63, 64, 65, 66, 67, 68] (by decide +kernel) (by decide +kernel)
set_option maxRecDepth 20000 in
theorem gX10_drive_X10_layCar : GoodIn wsX10_drive (wsV RX10 124 RX10 yX10_layCar wsX10_layCar) := goodIn_app (goodIn_of _ (by decide +kernel)) ggX10_drive_X10_layCar
theorem dX10_drive_0 : decode cX10_drive 0 = .ok (.aload_n 0, 1) := by decide +kernel
theorem dX10_drive_1 : decode cX10_drive 1 = .ok (.getfield 7, 3) := by decide +kernel
theorem dX10_drive_4 : decode cX10_drive 4 = .ok (.iconst 4, 1) := by decide +kernel
theorem dX10_drive_5 : decode cX10_drive 5 = .ok (.iaload, 1) := by decide +kernel
theorem dX10_drive_6 : decode cX10_drive 6 = .ok (.istore_n 1, 1) := by decide +kernel
theorem dX10_drive_7 : decode cX10_drive 7 = .ok (.aload_n 0, 1) := by decide +kernel
theorem dX10_drive_8 : decode cX10_drive 8 = .ok (.invokevirtual 111, 3) := by decide +kernel
theorem dX10_drive_11 : decode cX10_drive 11 = .ok (.aload_n 0, 1) := by decide +kernel
theorem dX10_drive_12 : decode cX10_drive 12 = .ok (.iload_n 1, 1) := by decide +kernel
theorem dX10_drive_13 : decode cX10_drive 13 = .ok (.iconst 0, 1) := by decide +kernel
theorem dX10_drive_14 : decode cX10_drive 14 = .ok (.invokevirtual 90, 3) := by decide +kernel
theorem dX10_drive_17 : decode cX10_drive 17 = .ok (.if_icmp .gt 16, 3) := by decide +kernel
theorem dX10_drive_20 : decode cX10_drive 20 = .ok (.aload_n 0, 1) := by decide +kernel
theorem dX10_drive_21 : decode cX10_drive 21 = .ok (.invokevirtual 114, 3) := by decide +kernel
theorem dX10_drive_24 : decode cX10_drive 24 = .ok (.aload_n 0, 1) := by decide +kernel
theorem dX10_drive_25 : decode cX10_drive 25 = .ok (.iload_n 1, 1) := by decide +kernel
theorem dX10_drive_26 : decode cX10_drive 26 = .ok (.iconst 1, 1) := by decide +kernel
theorem dX10_drive_27 : decode cX10_drive 27 = .ok (.invokevirtual 90, 3) := by decide +kernel
theorem dX10_drive_30 : decode cX10_drive 30 = .ok (.if_icmp .le 15, 3) := by decide +kernel
theorem dX10_drive_33 : decode cX10_drive 33 = .ok (.aload_n 0, 1) := by decide +kernel
theorem dX10_drive_34 : decode cX10_drive 34 = .ok (.getfield 7, 3) := by decide +kernel
theorem dX10_drive_37 : decode cX10_drive 37 = .ok (.bipush 6, 2) := by decide +kernel
theorem dX10_drive_39 : decode cX10_drive 39 = .ok (.dup2, 1) := by decide +kernel
theorem dX10_drive_40 : decode cX10_drive 40 = .ok (.iaload, 1) := by decide +kernel
theorem dX10_drive_41 : decode cX10_drive 41 = .ok (.iconst 1, 1) := by decide +kernel
theorem dX10_drive_42 : decode cX10_drive 42 = .ok (.iadd, 1) := by decide +kernel
theorem dX10_drive_43 : decode cX10_drive 43 = .ok (.iastore, 1) := by decide +kernel
theorem dX10_drive_44 : decode cX10_drive 44 = .ok (.return_, 1) := by decide +kernel
theorem dX10_drive_45 : decode cX10_drive 45 = .ok (.aload_n 0, 1) := by decide +kernel
theorem dX10_drive_46 : decode cX10_drive 46 = .ok (.getfield 7, 3) := by decide +kernel
theorem dX10_drive_49 : decode cX10_drive 49 = .ok (.iconst 5, 1) := by decide +kernel
theorem dX10_drive_50 : decode cX10_drive 50 = .ok (.dup2, 1) := by decide +kernel
theorem dX10_drive_51 : decode cX10_drive 51 = .ok (.iaload, 1) := by decide +kernel
theorem dX10_drive_52 : decode cX10_drive 52 = .ok (.iconst 1, 1) := by decide +kernel
theorem dX10_drive_53 : decode cX10_drive 53 = .ok (.iadd, 1) := by decide +kernel
theorem dX10_drive_54 : decode cX10_drive 54 = .ok (.iastore, 1) := by decide +kernel
theorem dX10_drive_55 : decode cX10_drive 55 = .ok (.aload_n 0, 1) := by decide +kernel
theorem dX10_drive_56 : decode cX10_drive 56 = .ok (.getfield 7, 3) := by decide +kernel
theorem dX10_drive_59 : decode cX10_drive 59 = .ok (.bipush 11, 2) := by decide +kernel
theorem dX10_drive_61 : decode cX10_drive 61 = .ok (.aload_n 0, 1) := by decide +kernel
theorem dX10_drive_62 : decode cX10_drive 62 = .ok (.getfield 7, 3) := by decide +kernel
theorem dX10_drive_65 : decode cX10_drive 65 = .ok (.bipush 11, 2) := by decide +kernel
theorem dX10_drive_67 : decode cX10_drive 67 = .ok (.iaload, 1) := by decide +kernel
theorem dX10_drive_68 : decode cX10_drive 68 = .ok (.aload_n 0, 1) := by decide +kernel
theorem dX10_drive_69 : decode cX10_drive 69 = .ok (.invokevirtual 111, 3) := by decide +kernel
theorem dX10_drive_72 : decode cX10_drive 72 = .ok (.invokestatic 134, 3) := by decide +kernel
theorem dX10_drive_75 : decode cX10_drive 75 = .ok (.iastore, 1) := by decide +kernel
theorem dX10_drive_76 : decode cX10_drive 76 = .ok (.aload_n 0, 1) := by decide +kernel
theorem dX10_drive_77 : decode cX10_drive 77 = .ok (.getfield 7, 3) := by decide +kernel
theorem dX10_drive_80 : decode cX10_drive 80 = .ok (.iconst 5, 1) := by decide +kernel
theorem dX10_drive_81 : decode cX10_drive 81 = .ok (.iaload, 1) := by decide +kernel
theorem dX10_drive_82 : decode cX10_drive 82 = .ok (.aload_n 0, 1) := by decide +kernel
theorem dX10_drive_83 : decode cX10_drive 83 = .ok (.getfield 7, 3) := by decide +kernel
theorem dX10_drive_86 : decode cX10_drive 86 = .ok (.bipush 27, 2) := by decide +kernel
theorem dX10_drive_88 : decode cX10_drive 88 = .ok (.iaload, 1) := by decide +kernel
theorem dX10_drive_89 : decode cX10_drive 89 = .ok (.if_icmp .lt 48, 3) := by decide +kernel
theorem dX10_drive_92 : decode cX10_drive 92 = .ok (.aload_n 0, 1) := by decide +kernel
theorem dX10_drive_93 : decode cX10_drive 93 = .ok (.iload_n 1, 1) := by decide +kernel
theorem dX10_drive_94 : decode cX10_drive 94 = .ok (.iconst 2, 1) := by decide +kernel
theorem dX10_drive_95 : decode cX10_drive 95 = .ok (.iconst 2, 1) := by decide +kernel
theorem dX10_drive_96 : decode cX10_drive 96 = .ok (.invokevirtual 124, 3) := by decide +kernel
theorem dX10_drive_99 : decode cX10_drive 99 = .ok (.aload_n 0, 1) := by decide +kernel
theorem dX10_drive_100 : decode cX10_drive 100 = .ok (.iload_n 1, 1) := by decide +kernel
theorem dX10_drive_101 : decode cX10_drive 101 = .ok (.bipush 6, 2) := by decide +kernel
theorem dX10_drive_103 : decode cX10_drive 103 = .ok (.aload_n 0, 1) := by decide +kernel
theorem dX10_drive_104 : decode cX10_drive 104 = .ok (.getfield 7, 3) := by decide +kernel
theorem dX10_drive_107 : decode cX10_drive 107 = .ok (.iconst 0, 1) := by decide +kernel
theorem dX10_drive_108 : decode cX10_drive 108 = .ok (.iaload, 1) := by decide +kernel
theorem dX10_drive_109 : decode cX10_drive 109 = .ok (.invokevirtual 124, 3) := by decide +kernel
theorem dX10_drive_112 : decode cX10_drive 112 = .ok (.aload_n 0, 1) := by decide +kernel
theorem dX10_drive_113 : decode cX10_drive 113 = .ok (.getfield 7, 3) := by decide +kernel
theorem dX10_drive_116 : decode cX10_drive 116 = .ok (.iconst 4, 1) := by decide +kernel
theorem dX10_drive_117 : decode cX10_drive 117 = .ok (.iconst (-1), 1) := by decide +kernel
theorem dX10_drive_118 : decode cX10_drive 118 = .ok (.iastore, 1) := by decide +kernel
theorem dX10_drive_119 : decode cX10_drive 119 = .ok (.aload_n 0, 1) := by decide +kernel
theorem dX10_drive_120 : decode cX10_drive 120 = .ok (.getfield 7, 3) := by decide +kernel
theorem dX10_drive_123 : decode cX10_drive 123 = .ok (.iconst 5, 1) := by decide +kernel
theorem dX10_drive_124 : decode cX10_drive 124 = .ok (.iconst 0, 1) := by decide +kernel
theorem dX10_drive_125 : decode cX10_drive 125 = .ok (.iastore, 1) := by decide +kernel
theorem dX10_drive_126 : decode cX10_drive 126 = .ok (.aload_n 0, 1) := by decide +kernel
theorem dX10_drive_127 : decode cX10_drive 127 = .ok (.getfield 7, 3) := by decide +kernel
theorem dX10_drive_130 : decode cX10_drive 130 = .ok (.bipush 9, 2) := by decide +kernel
theorem dX10_drive_132 : decode cX10_drive 132 = .ok (.dup2, 1) := by decide +kernel
theorem dX10_drive_133 : decode cX10_drive 133 = .ok (.iaload, 1) := by decide +kernel
theorem dX10_drive_134 : decode cX10_drive 134 = .ok (.iconst 1, 1) := by decide +kernel
theorem dX10_drive_135 : decode cX10_drive 135 = .ok (.iadd, 1) := by decide +kernel
theorem dX10_drive_136 : decode cX10_drive 136 = .ok (.iastore, 1) := by decide +kernel
theorem dX10_drive_137 : decode cX10_drive 137 = .ok (.return_, 1) := by decide +kernel
set_option maxRecDepth 20000 in
theorem ggX10_callCrew_X10_whyNotNow : GoodIn wsX10_callCrew wsX10_whyNotNow := goodIn_r _ [6, 1, 7, 8, 9, 5, 10, 11, 12, 13, 14, 15, 16, 17, 18, 19, 20, 21, 22, 23, 24, 25, 26, 27, 28, 29, 30, 31, 32, 33, 34, 35, 36, 37, 38, 39, 40, 41, 42, 43, 44, 45, 46, 47, 48, 49, 50, 51, 52, 53, 54, 55, 56, 57, 58, 59, 60, 61, 62, 63, 64, 65, 66, 67, 68, 69, 70, 87, 88, 89, 90, 91, 92, 93, 94, 95, 96, 97, 98, 99, 100, 101, 102, 103, 104, 105, 106, 107, 108, 109] (by decide +kernel) (by decide +kernel)
set_option maxRecDepth 20000 in
theorem gX10_callCrew_X10_whyNotNow : GoodIn wsX10_callCrew (wsV RX10 137 RX10 yX10_whyNotNow wsX10_whyNotNow) := goodIn_app (goodIn_of _ (by decide +kernel)) ggX10_callCrew_X10_whyNotNow
set_option maxRecDepth 20000 in
theorem ggX10_callCrew_X10_beginToDrive : GoodIn wsX10_callCrew wsX10_beginToDrive := goodIn_r _ [74, 1, 35, 36, 37, 5, 38, 39, 40, 41, 42, 43, 44, 45, 46, 19, 20, 21, 22, 47, 48, 49, 50, 51, 52, 53, 54, 15, 16, 17, 18, 7, 8, 9, 10, 11, 12, 13, 14, 23, 24, 25, 26, 27, 28, 29, 30, 75, 76, 77, 78, 79, 80, 81, 82, 83, 84, 85, 86, 87, 88, 89, 90, 91, 92, 93, 94, 95, 96, 97, 98, 99, 100, 101, 102, 103, 104, 105, 106, 107, 108, 109] (by decide +kernel) (by decide +kernel)
set_option maxRecDepth 20000 in
theorem gX10_callCrew_X10_beginToDrive : GoodIn wsX10_callCrew (wsV RX10 140 RX10 yX10_beginToDrive wsX10_beginToDrive) := goodIn_app (goodIn_of _ (by decide +kernel)) ggX10_callCrew_X10_beginToDrive
theorem dX10_callCrew_0 : decode cX10_callCrew 0 = .ok (.aload_n 0, 1) := by decide +kernel
theorem dX10_callCrew_1 : decode cX10_callCrew 1 = .ok (.getfield 7, 3) := by decide +kernel
theorem dX10_callCrew_4 : decode cX10_callCrew 4 = .ok (.bipush 41, 2) := by decide +kernel
theorem dX10_callCrew_6 : decode cX10_callCrew 6 = .ok (.iaload, 1) := by decide +kernel
theorem dX10_callCrew_7 : decode cX10_callCrew 7 = .ok (.istore_n 2, 1) := by decide +kernel
theorem dX10_callCrew_8 : decode cX10_callCrew 8 = .ok (.iconst (-1), 1) := by decide +kernel
theorem dX10_callCrew_9 : decode cX10_callCrew 9 = .ok (.istore_n 3, 1) := by decide +kernel
theorem dX10_callCrew_10 : decode cX10_callCrew 10 = .ok (.iconst 1, 1) := by decide +kernel
theorem dX10_callCrew_11 : decode cX10_callCrew 11 = .ok (.istore 4, 2) := by decide +kernel
theorem dX10_callCrew_13 : decode cX10_callCrew 13 = .ok (.iload 4, 2) := by decide +kernel
theorem dX10_callCrew_15 : decode cX10_callCrew 15 = .ok (.aload_n 0, 1) := by decide +kernel
theorem dX10_callCrew_16 : decode cX10_callCrew 16 = .ok (.getfield 7, 3) := by decide +kernel
theorem dX10_callCrew_19 : decode cX10_callCrew 19 = .ok (.bipush 14, 2) := by decide +kernel
theorem dX10_callCrew_21 : decode cX10_callCrew 21 = .ok (.iaload, 1) := by decide +kernel
theorem dX10_callCrew_22 : decode cX10_callCrew 22 = .ok (.if_icmp .ge 46, 3) := by decide +kernel
theorem dX10_callCrew_25 : decode cX10_callCrew 25 = .ok (.iload_n 3, 1) := by decide +kernel
theorem dX10_callCrew_26 : decode cX10_callCrew 26 = .ok (.iconst (-1), 1) := by decide +kernel
theorem dX10_callCrew_27 : decode cX10_callCrew 27 = .ok (.if_icmp .ne 41, 3) := by decide +kernel
theorem dX10_callCrew_30 : decode cX10_callCrew 30 = .ok (.aload_n 0, 1) := by decide +kernel
theorem dX10_callCrew_31 : decode cX10_callCrew 31 = .ok (.aload_n 0, 1) := by decide +kernel
theorem dX10_callCrew_32 : decode cX10_callCrew 32 = .ok (.getfield 7, 3) := by decide +kernel
theorem dX10_callCrew_35 : decode cX10_callCrew 35 = .ok (.bipush 41, 2) := by decide +kernel
theorem dX10_callCrew_37 : decode cX10_callCrew 37 = .ok (.iload 4, 2) := by decide +kernel
theorem dX10_callCrew_39 : decode cX10_callCrew 39 = .ok (.iadd, 1) := by decide +kernel
theorem dX10_callCrew_40 : decode cX10_callCrew 40 = .ok (.iaload, 1) := by decide +kernel
theorem dX10_callCrew_41 : decode cX10_callCrew 41 = .ok (.invokevirtual 137, 3) := by decide +kernel
theorem dX10_callCrew_44 : decode cX10_callCrew 44 = .ok (.ifCond .ne 16, 3) := by decide +kernel
theorem dX10_callCrew_47 : decode cX10_callCrew 47 = .ok (.aload_n 0, 1) := by decide +kernel
theorem dX10_callCrew_48 : decode cX10_callCrew 48 = .ok (.getfield 7, 3) := by decide +kernel
theorem dX10_callCrew_51 : decode cX10_callCrew 51 = .ok (.bipush 41, 2) := by decide +kernel
theorem dX10_callCrew_53 : decode cX10_callCrew 53 = .ok (.iload 4, 2) := by decide +kernel
theorem dX10_callCrew_55 : decode cX10_callCrew 55 = .ok (.iadd, 1) := by decide +kernel
theorem dX10_callCrew_56 : decode cX10_callCrew 56 = .ok (.iaload, 1) := by decide +kernel
theorem dX10_callCrew_57 : decode cX10_callCrew 57 = .ok (.goto 4, 3) := by decide +kernel
theorem dX10_callCrew_60 : decode cX10_callCrew 60 = .ok (.iconst (-1), 1) := by decide +kernel
theorem dX10_callCrew_61 : decode cX10_callCrew 61 = .ok (.istore_n 3, 1) := by decide +kernel
theorem dX10_callCrew_62 : decode cX10_callCrew 62 = .ok (.iinc 4 1, 3) := by decide +kernel
theorem dX10_callCrew_65 : decode cX10_callCrew 65 = .ok (.goto (-52), 3) := by decide +kernel
theorem dX10_callCrew_68 : decode cX10_callCrew 68 = .ok (.sipush 481, 3) := by decide +kernel
theorem dX10_callCrew_71 : decode cX10_callCrew 71 = .ok (.iconst 4, 1) := by decide +kernel
theorem dX10_callCrew_72 : decode cX10_callCrew 72 = .ok (.aload_n 0, 1) := by decide +kernel
theorem dX10_callCrew_73 : decode cX10_callCrew 73 = .ok (.getfield 7, 3) := by decide +kernel
theorem dX10_callCrew_76 : decode cX10_callCrew 76 = .ok (.bipush 8, 2) := by decide +kernel
theorem dX10_callCrew_78 : decode cX10_callCrew 78 = .ok (.iaload, 1) := by decide +kernel
theorem dX10_callCrew_79 : decode cX10_callCrew 79 = .ok (.bipush 20, 2) := by decide +kernel
theorem dX10_callCrew_81 : decode cX10_callCrew 81 = .ok (.irem, 1) := by decide +kernel
theorem dX10_callCrew_82 : decode cX10_callCrew 82 = .ok (.imul, 1) := by decide +kernel
theorem dX10_callCrew_83 : decode cX10_callCrew 83 = .ok (.iadd, 1) := by decide +kernel
theorem dX10_callCrew_84 : decode cX10_callCrew 84 = .ok (.istore 4, 2) := by decide +kernel
theorem dX10_callCrew_86 : decode cX10_callCrew 86 = .ok (.aload_n 0, 1) := by decide +kernel
theorem dX10_callCrew_87 : decode cX10_callCrew 87 = .ok (.getfield 7, 3) := by decide +kernel
theorem dX10_callCrew_90 : decode cX10_callCrew 90 = .ok (.iload 4, 2) := by decide +kernel
theorem dX10_callCrew_92 : decode cX10_callCrew 92 = .ok (.aload_n 0, 1) := by decide +kernel
theorem dX10_callCrew_93 : decode cX10_callCrew 93 = .ok (.getfield 7, 3) := by decide +kernel
theorem dX10_callCrew_96 : decode cX10_callCrew 96 = .ok (.iconst 0, 1) := by decide +kernel
theorem dX10_callCrew_97 : decode cX10_callCrew 97 = .ok (.iaload, 1) := by decide +kernel
theorem dX10_callCrew_98 : decode cX10_callCrew 98 = .ok (.iastore, 1) := by decide +kernel
theorem dX10_callCrew_99 : decode cX10_callCrew 99 = .ok (.aload_n 0, 1) := by decide +kernel
theorem dX10_callCrew_100 : decode cX10_callCrew 100 = .ok (.getfield 7, 3) := by decide +kernel
theorem dX10_callCrew_103 : decode cX10_callCrew 103 = .ok (.iload 4, 2) := by decide +kernel
theorem dX10_callCrew_105 : decode cX10_callCrew 105 = .ok (.iconst 1, 1) := by decide +kernel
theorem dX10_callCrew_106 : decode cX10_callCrew 106 = .ok (.iadd, 1) := by decide +kernel
theorem dX10_callCrew_107 : decode cX10_callCrew 107 = .ok (.iload_n 2, 1) := by decide +kernel
theorem dX10_callCrew_108 : decode cX10_callCrew 108 = .ok (.iastore, 1) := by decide +kernel
theorem dX10_callCrew_109 : decode cX10_callCrew 109 = .ok (.aload_n 0, 1) := by decide +kernel
theorem dX10_callCrew_110 : decode cX10_callCrew 110 = .ok (.getfield 7, 3) := by decide +kernel
theorem dX10_callCrew_113 : decode cX10_callCrew 113 = .ok (.iload 4, 2) := by decide +kernel
theorem dX10_callCrew_115 : decode cX10_callCrew 115 = .ok (.iconst 2, 1) := by decide +kernel
theorem dX10_callCrew_116 : decode cX10_callCrew 116 = .ok (.iadd, 1) := by decide +kernel
theorem dX10_callCrew_117 : decode cX10_callCrew 117 = .ok (.iload_n 1, 1) := by decide +kernel
theorem dX10_callCrew_118 : decode cX10_callCrew 118 = .ok (.iastore, 1) := by decide +kernel
theorem dX10_callCrew_119 : decode cX10_callCrew 119 = .ok (.aload_n 0, 1) := by decide +kernel
theorem dX10_callCrew_120 : decode cX10_callCrew 120 = .ok (.getfield 7, 3) := by decide +kernel
theorem dX10_callCrew_123 : decode cX10_callCrew 123 = .ok (.iload 4, 2) := by decide +kernel
theorem dX10_callCrew_125 : decode cX10_callCrew 125 = .ok (.iconst 3, 1) := by decide +kernel
theorem dX10_callCrew_126 : decode cX10_callCrew 126 = .ok (.iadd, 1) := by decide +kernel
theorem dX10_callCrew_127 : decode cX10_callCrew 127 = .ok (.iload_n 3, 1) := by decide +kernel
theorem dX10_callCrew_128 : decode cX10_callCrew 128 = .ok (.iastore, 1) := by decide +kernel
theorem dX10_callCrew_129 : decode cX10_callCrew 129 = .ok (.aload_n 0, 1) := by decide +kernel
theorem dX10_callCrew_130 : decode cX10_callCrew 130 = .ok (.getfield 7, 3) := by decide +kernel
theorem dX10_callCrew_133 : decode cX10_callCrew 133 = .ok (.bipush 8, 2) := by decide +kernel
theorem dX10_callCrew_135 : decode cX10_callCrew 135 = .ok (.dup2, 1) := by decide +kernel
theorem dX10_callCrew_136 : decode cX10_callCrew 136 = .ok (.iaload, 1) := by decide +kernel
theorem dX10_callCrew_137 : decode cX10_callCrew 137 = .ok (.iconst 1, 1) := by decide +kernel
theorem dX10_callCrew_138 : decode cX10_callCrew 138 = .ok (.iadd, 1) := by decide +kernel
theorem dX10_callCrew_139 : decode cX10_callCrew 139 = .ok (.iastore, 1) := by decide +kernel
theorem dX10_callCrew_140 : decode cX10_callCrew 140 = .ok (.aload_n 0, 1) := by decide +kernel
theorem dX10_callCrew_141 : decode cX10_callCrew 141 = .ok (.getfield 7, 3) := by decide +kernel
theorem dX10_callCrew_144 : decode cX10_callCrew 144 = .ok (.bipush 7, 2) := by decide +kernel
theorem dX10_callCrew_146 : decode cX10_callCrew 146 = .ok (.iconst 0, 1) := by decide +kernel
theorem dX10_callCrew_147 : decode cX10_callCrew 147 = .ok (.iastore, 1) := by decide +kernel
theorem dX10_callCrew_148 : decode cX10_callCrew 148 = .ok (.iload_n 3, 1) := by decide +kernel
theorem dX10_callCrew_149 : decode cX10_callCrew 149 = .ok (.iconst (-1), 1) := by decide +kernel
theorem dX10_callCrew_150 : decode cX10_callCrew 150 = .ok (.if_icmp .eq 8, 3) := by decide +kernel
theorem dX10_callCrew_153 : decode cX10_callCrew 153 = .ok (.aload_n 0, 1) := by decide +kernel
theorem dX10_callCrew_154 : decode cX10_callCrew 154 = .ok (.iload_n 3, 1) := by decide +kernel
theorem dX10_callCrew_155 : decode cX10_callCrew 155 = .ok (.invokevirtual 140, 3) := by decide +kernel
theorem dX10_callCrew_158 : decode cX10_callCrew 158 = .ok (.return_, 1) := by decide +kernel
set_option maxRecDepth 20000 in
theorem ggX10_admit_X10_whyNotNow : GoodIn wsX10_admit wsX10_whyNotNow := goodIn_r _ [6, 1, 7, 8, 9, 5, 10, 11, 12, 13, 14, 15, 16, 17, 18, 19, 20, 21, 22, 23, 24, 25, 26, 27, 28, 29, 30, 31, 32, 33, 34, 35, 36, 37, 38, 39, 40, 41, 42, 43, 44, 45, 46, 47, 48, 49, 50, 51, 52, 53, 54, 55, 56, 57, 58, 59, 60, 61, 62, 63, 64, 65, 66, 67, 68, 69, 70, 91, 92, 93, 94, 95, 96, 97, 98, 99, 100, 101, 102, 103, 104, 105, 106, 107, 108, 109, 110, 111, 112, 113] (by decide +kernel) (by decide +kernel)
set_option maxRecDepth 20000 in
theorem gX10_admit_X10_whyNotNow : GoodIn wsX10_admit (wsV RX10 137 RX10 yX10_whyNotNow wsX10_whyNotNow) := goodIn_app (goodIn_of _ (by decide +kernel)) ggX10_admit_X10_whyNotNow
set_option maxRecDepth 20000 in
theorem ggX10_admit_X10_beginToDrive : GoodIn wsX10_admit wsX10_beginToDrive := goodIn_r _ [74, 1, 35, 36, 37, 5, 38, 39, 40, 41, 42, 43, 44, 45, 46, 19, 20, 21, 22, 47, 48, 49, 50, 51, 52, 53, 54, 15, 16, 17, 18, 7, 8, 9, 10, 11, 12, 13, 14, 23, 24, 25, 26, 27, 28, 29, 30, 75, 76, 77, 78, 79, 80, 81, 82, 83, 84, 85, 86, 91, 92, 93, 94, 95, 96, 97, 98, 99, 100, 101, 102, 103, 104, 105, 106, 107, 108, 109, 110, 111, 112, 113] (by decide +kernel) (by decide +kernel)
set_option maxRecDepth 20000 in
theorem gX10_admit_X10_beginToDrive : GoodIn wsX10_admit (wsV RX10 140 RX10 yX10_beginToDrive wsX10_beginToDrive) := goodIn_app (goodIn_of _ (by decide +kernel)) ggX10_admit_X10_beginToDrive
set_option maxRecDepth 20000 in
theorem ggX10_admit_X10_callCrew : GoodIn wsX10_admit wsX10_callCrew := goodIn_r _ [90, 1, 2, 3, 4, 5, 6, 7, 8, 9, 10, 11, 12, 13, 14, 15, 16, 17, 18, 19, 20, 21, 22, 23, 24, 25, 26, 27, 28, 29, 30, 31, 32, 33, 34, 35, 36, 37, 38, 39, 40, 41, 42, 43, 44, 45, 46, 47, 48, 49, 50, 51, 52, 53, 54, 55, 56, 57, 58, 59, 60, 61, 62, 63, 64, 65, 66, 67, 68, 69, 70, 71, 72, 73, 74, 75, 76, 77, 78, 79, 80, 81, 82, 83, 84, 85, 86, 91, 92, 93, 94, 95, 96, 97, 98, 99, 100, 101, 102, 103, 104, 105, 106, 107, 108, 109, 110, 111, 112, 113] (by decide +kernel) (by decide +kernel)
set_option maxRecDepth 20000 in
theorem gX10_admit_X10_callCrew : GoodIn wsX10_admit (wsV RX10 143 RX10 yX10_callCrew wsX10_callCrew) := goodIn_app (goodIn_of _ (by decide +kernel)) ggX10_admit_X10_callCrew
theorem dX10_admit_0 : decode cX10_admit 0 = .ok (.aload_n 0, 1) := by decide +kernel
theorem dX10_admit_1 : decode cX10_admit 1 = .ok (.aload_n 0, 1) := by decide +kernel
theorem dX10_admit_2 : decode cX10_admit 2 = .ok (.getfield 7, 3) := by decide +kernel
theorem dX10_admit_5 : decode cX10_admit 5 = .ok (.bipush 41, 2) := by decide +kernel
theorem dX10_admit_7 : decode cX10_admit 7 = .ok (.iaload, 1) := by decide +kernel
theorem dX10_admit_8 : decode cX10_admit 8 = .ok (.invokevirtual 137, 3) := by decide +kernel
theorem dX10_admit_11 : decode cX10_admit 11 = .ok (.istore_n 1, 1) := by decide +kernel
theorem dX10_admit_12 : decode cX10_admit 12 = .ok (.iload_n 1, 1) := by decide +kernel
theorem dX10_admit_13 : decode cX10_admit 13 = .ok (.ifCond .ne 17, 3) := by decide +kernel
theorem dX10_admit_16 : decode cX10_admit 16 = .ok (.aload_n 0, 1) := by decide +kernel
theorem dX10_admit_17 : decode cX10_admit 17 = .ok (.aload_n 0, 1) := by decide +kernel
theorem dX10_admit_18 : decode cX10_admit 18 = .ok (.getfield 7, 3) := by decide +kernel
theorem dX10_admit_21 : decode cX10_admit 21 = .ok (.bipush 41, 2) := by decide +kernel
theorem dX10_admit_23 : decode cX10_admit 23 = .ok (.iaload, 1) := by decide +kernel
theorem dX10_admit_24 : decode cX10_admit 24 = .ok (.invokevirtual 140, 3) := by decide +kernel
theorem dX10_admit_27 : decode cX10_admit 27 = .ok (.goto 41, 3) := by decide +kernel
theorem dX10_admit_30 : decode cX10_admit 30 = .ok (.iload_n 1, 1) := by decide +kernel
theorem dX10_admit_31 : decode cX10_admit 31 = .ok (.iconst 1, 1) := by decide +kernel
theorem dX10_admit_32 : decode cX10_admit 32 = .ok (.if_icmp .eq 36, 3) := by decide +kernel
theorem dX10_admit_35 : decode cX10_admit 35 = .ok (.aload_n 0, 1) := by decide +kernel
theorem dX10_admit_36 : decode cX10_admit 36 = .ok (.getfield 7, 3) := by decide +kernel
theorem dX10_admit_39 : decode cX10_admit 39 = .ok (.bipush 7, 2) := by decide +kernel
theorem dX10_admit_41 : decode cX10_admit 41 = .ok (.dup2, 1) := by decide +kernel
theorem dX10_admit_42 : decode cX10_admit 42 = .ok (.iaload, 1) := by decide +kernel
theorem dX10_admit_43 : decode cX10_admit 43 = .ok (.iconst 1, 1) := by decide +kernel
theorem dX10_admit_44 : decode cX10_admit 44 = .ok (.iadd, 1) := by decide +kernel
theorem dX10_admit_45 : decode cX10_admit 45 = .ok (.iastore, 1) := by decide +kernel
theorem dX10_admit_46 : decode cX10_admit 46 = .ok (.aload_n 0, 1) := by decide +kernel
theorem dX10_admit_47 : decode cX10_admit 47 = .ok (.getfield 7, 3) := by decide +kernel
theorem dX10_admit_50 : decode cX10_admit 50 = .ok (.bipush 7, 2) := by decide +kernel
theorem dX10_admit_52 : decode cX10_admit 52 = .ok (.iaload, 1) := by decide +kernel
theorem dX10_admit_53 : decode cX10_admit 53 = .ok (.aload_n 0, 1) := by decide +kernel
theorem dX10_admit_54 : decode cX10_admit 54 = .ok (.getfield 7, 3) := by decide +kernel
theorem dX10_admit_57 : decode cX10_admit 57 = .ok (.bipush 28, 2) := by decide +kernel
theorem dX10_admit_59 : decode cX10_admit 59 = .ok (.iaload, 1) := by decide +kernel
theorem dX10_admit_60 : decode cX10_admit 60 = .ok (.if_icmp .lt 8, 3) := by decide +kernel
theorem dX10_admit_63 : decode cX10_admit 63 = .ok (.aload_n 0, 1) := by decide +kernel
theorem dX10_admit_64 : decode cX10_admit 64 = .ok (.iload_n 1, 1) := by decide +kernel
theorem dX10_admit_65 : decode cX10_admit 65 = .ok (.invokevirtual 143, 3) := by decide +kernel
theorem dX10_admit_68 : decode cX10_admit 68 = .ok (.return_, 1) := by decide +kernel
set_option maxRecDepth 20000 in
theorem ggX10_tickOnce_X10_winch : GoodIn wsX10_tickOnce wsX10_winch := goodIn_r _ [6, 1, 7, 8, 9, 5, 10, 11, 12, 13, 14, 15, 16, 17, 18, 19, 20, 21, 22, 23, 24, 25, 26, 27, 28, 29, 30, 31, 32, 33, 34, 35, 36, 37, 113, 114, 115, 116, 117, 118, 119, 120, 121, 122, 123, 124, 125, 126, 127, 128, 129, 130, 131, 132, 133, 134, 135] (by decide +kernel) (by decide +kernel)
set_option maxRecDepth 20000 in
theorem gX10_tickOnce_X10_winch : GoodIn wsX10_tickOnce (wsV RX10 146 RX10 yX10_winch wsX10_winch) := goodIn_app (goodIn_of _ (by decide +kernel)) ggX10_tickOnce_X10_winch
set_option maxRecDepth 20000 in
theorem ggX10_tickOnce_X10_drive : GoodIn wsX10_tickOnce wsX10_drive := goodIn_r _ [41, 1, 42, 43, 13, 44, 45, 46, 47, 5, 48, 11, 12, 14, 49, 50, 51, 52, 27, 28, 29, 30, 53, 54, 55, 56, 7, 8, 9, 10, 15, 16, 17, 18, 19, 20, 21, 22, 23, 24, 25, 26, 57, 58, 59, 60, 113, 114, 115, 116, 117, 118, 119, 120, 121, 122, 123, 124, 125, 126, 127, 128, 129, 130, 131, 132, 133, 134, 135] (by decide +kernel) (by decide +kernel)
set_option maxRecDepth 20000 in
theorem gX10_tickOnce_X10_drive : GoodIn wsX10_tickOnce (wsV RX10 149 RX10 yX10_drive wsX10_drive) := goodIn_app (goodIn_of _ (by decide +kernel)) ggX10_tickOnce_X10_drive
set_option maxRecDepth 20000 in
theorem ggX10_tickOnce_X10_admit : GoodIn wsX10_tickOnce wsX10_admit := goodIn_r _ [64, 1, 65, 66, 67, 5, 68, 69, 70, 71, 72, 73, 74, 75, 76, 77, 78, 79, 80, 27, 28, 29, 30, 49, 50, 51, 52, 53, 54, 55, 56, 23, 24, 25, 26, 81, 82, 83, 84, 85, 86, 87, 88, 11, 12, 13, 14, 89, 90, 91, 92, 93, 94, 95, 96, 45, 46, 47, 48, 7, 8, 9, 10, 15, 16, 17, 18, 19, 20, 21, 22, 97, 98, 99, 100, 101, 102, 103, 104, 105, 106, 107, 108, 57, 58, 59, 60, 109, 110, 111, 112, 113, 114, 115, 116, 117, 118, 119, 120, 121, 122, 123, 124, 125, 126, 127, 128, 129, 130, 131, 132, 133, 134, 135] (by decide +kernel) (by decide +kernel)
set_option maxRecDepth 20000 in
theorem gX10_tickOnce_X10_admit : GoodIn wsX10_tickOnce (wsV RX10 152 RX10 yX10_admit wsX10_admit) := goodIn_app (goodIn_of _ (by decide +kernel)) ggX10_tickOnce_X10_admit
theorem dX10_tickOnce_0 : decode cX10_tickOnce 0 = .ok (.aload_n 0, 1) := by decide +kernel
theorem dX10_tickOnce_1 : decode cX10_tickOnce 1 = .ok (.getfield 7, 3) := by decide +kernel
theorem dX10_tickOnce_4 : decode cX10_tickOnce 4 = .ok (.iconst 0, 1) := by decide +kernel
theorem dX10_tickOnce_5 : decode cX10_tickOnce 5 = .ok (.dup2, 1) := by decide +kernel
theorem dX10_tickOnce_6 : decode cX10_tickOnce 6 = .ok (.iaload, 1) := by decide +kernel
theorem dX10_tickOnce_7 : decode cX10_tickOnce 7 = .ok (.iconst 1, 1) := by decide +kernel
theorem dX10_tickOnce_8 : decode cX10_tickOnce 8 = .ok (.iadd, 1) := by decide +kernel
theorem dX10_tickOnce_9 : decode cX10_tickOnce 9 = .ok (.iastore, 1) := by decide +kernel
theorem dX10_tickOnce_10 : decode cX10_tickOnce 10 = .ok (.aload_n 0, 1) := by decide +kernel
theorem dX10_tickOnce_11 : decode cX10_tickOnce 11 = .ok (.invokevirtual 146, 3) := by decide +kernel
theorem dX10_tickOnce_14 : decode cX10_tickOnce 14 = .ok (.aload_n 0, 1) := by decide +kernel
theorem dX10_tickOnce_15 : decode cX10_tickOnce 15 = .ok (.getfield 7, 3) := by decide +kernel
theorem dX10_tickOnce_18 : decode cX10_tickOnce 18 = .ok (.iconst 4, 1) := by decide +kernel
theorem dX10_tickOnce_19 : decode cX10_tickOnce 19 = .ok (.iaload, 1) := by decide +kernel
theorem dX10_tickOnce_20 : decode cX10_tickOnce 20 = .ok (.iconst (-1), 1) := by decide +kernel
theorem dX10_tickOnce_21 : decode cX10_tickOnce 21 = .ok (.if_icmp .eq 7, 3) := by decide +kernel
theorem dX10_tickOnce_24 : decode cX10_tickOnce 24 = .ok (.aload_n 0, 1) := by decide +kernel
theorem dX10_tickOnce_25 : decode cX10_tickOnce 25 = .ok (.invokevirtual 149, 3) := by decide +kernel
theorem dX10_tickOnce_28 : decode cX10_tickOnce 28 = .ok (.aload_n 0, 1) := by decide +kernel
theorem dX10_tickOnce_29 : decode cX10_tickOnce 29 = .ok (.getfield 7, 3) := by decide +kernel
theorem dX10_tickOnce_32 : decode cX10_tickOnce 32 = .ok (.iconst 4, 1) := by decide +kernel
theorem dX10_tickOnce_33 : decode cX10_tickOnce 33 = .ok (.iaload, 1) := by decide +kernel
theorem dX10_tickOnce_34 : decode cX10_tickOnce 34 = .ok (.iconst (-1), 1) := by decide +kernel
theorem dX10_tickOnce_35 : decode cX10_tickOnce 35 = .ok (.if_icmp .ne 17, 3) := by decide +kernel
theorem dX10_tickOnce_38 : decode cX10_tickOnce 38 = .ok (.aload_n 0, 1) := by decide +kernel
theorem dX10_tickOnce_39 : decode cX10_tickOnce 39 = .ok (.getfield 7, 3) := by decide +kernel
theorem dX10_tickOnce_42 : decode cX10_tickOnce 42 = .ok (.bipush 14, 2) := by decide +kernel
theorem dX10_tickOnce_44 : decode cX10_tickOnce 44 = .ok (.iaload, 1) := by decide +kernel
theorem dX10_tickOnce_45 : decode cX10_tickOnce 45 = .ok (.ifCond .le 7, 3) := by decide +kernel
theorem dX10_tickOnce_48 : decode cX10_tickOnce 48 = .ok (.aload_n 0, 1) := by decide +kernel
theorem dX10_tickOnce_49 : decode cX10_tickOnce 49 = .ok (.invokevirtual 152, 3) := by decide +kernel
theorem dX10_tickOnce_52 : decode cX10_tickOnce 52 = .ok (.return_, 1) := by decide +kernel
set_option maxRecDepth 20000 in
theorem ggX10_tickMany_X10_tickOnce : GoodIn wsX10_tickMany wsX10_tickOnce := goodIn_r _ [6, 1, 7, 8, 9, 5, 10, 11, 12, 13, 14, 15, 16, 17, 18, 19, 20, 21, 22, 23, 24, 25, 26, 27, 28, 29, 30, 31, 32, 33, 34, 35, 36, 37, 38, 39, 40, 41, 42, 43, 44, 45, 46, 47, 48, 49, 50, 51, 52, 53, 54, 55, 56, 57, 58, 59, 60, 61, 62, 63, 64, 65, 66, 67, 68, 69, 70, 71, 72, 73, 74, 75, 76, 77, 78, 79, 80, 81, 82, 83, 84, 85, 86, 87, 88, 89, 90, 91, 92, 93, 94, 95, 96, 97, 98, 99, 100, 101, 102, 103, 104, 105, 106, 107, 108, 109, 110, 111, 112, 113, 114, 115, 116, 117, 118, 119, 120, 121, 122, 123, 124, 125, 126, 127, 128, 129, 130, 131, 132, 133, 134, 135, 136, 137, 138, 139] (by decide +kernel) (by decide +kernel)
set_option maxRecDepth 20000 in
theorem gX10_tickMany_X10_tickOnce : GoodIn wsX10_tickMany (wsV RX10 155 RX10 yX10_tickOnce wsX10_tickOnce) := goodIn_app (goodIn_of _ (by decide +kernel)) ggX10_tickMany_X10_tickOnce
theorem dX10_tickMany_0 : decode cX10_tickMany 0 = .ok (.aload_n 0, 1) := by decide +kernel
theorem dX10_tickMany_1 : decode cX10_tickMany 1 = .ok (.getfield 7, 3) := by decide +kernel
theorem dX10_tickMany_4 : decode cX10_tickMany 4 = .ok (.bipush 9, 2) := by decide +kernel
theorem dX10_tickMany_6 : decode cX10_tickMany 6 = .ok (.iaload, 1) := by decide +kernel
theorem dX10_tickMany_7 : decode cX10_tickMany 7 = .ok (.istore_n 2, 1) := by decide +kernel
theorem dX10_tickMany_8 : decode cX10_tickMany 8 = .ok (.iconst 0, 1) := by decide +kernel
theorem dX10_tickMany_9 : decode cX10_tickMany 9 = .ok (.istore_n 3, 1) := by decide +kernel
theorem dX10_tickMany_10 : decode cX10_tickMany 10 = .ok (.iload_n 3, 1) := by decide +kernel
theorem dX10_tickMany_11 : decode cX10_tickMany 11 = .ok (.iload_n 1, 1) := by decide +kernel
theorem dX10_tickMany_12 : decode cX10_tickMany 12 = .ok (.if_icmp .ge 13, 3) := by decide +kernel
theorem dX10_tickMany_15 : decode cX10_tickMany 15 = .ok (.aload_n 0, 1) := by decide +kernel
theorem dX10_tickMany_16 : decode cX10_tickMany 16 = .ok (.invokevirtual 155, 3) := by decide +kernel
theorem dX10_tickMany_19 : decode cX10_tickMany 19 = .ok (.iinc 3 1, 3) := by decide +kernel
theorem dX10_tickMany_22 : decode cX10_tickMany 22 = .ok (.goto (-12), 3) := by decide +kernel
theorem dX10_tickMany_25 : decode cX10_tickMany 25 = .ok (.aload_n 0, 1) := by decide +kernel
theorem dX10_tickMany_26 : decode cX10_tickMany 26 = .ok (.getfield 7, 3) := by decide +kernel
theorem dX10_tickMany_29 : decode cX10_tickMany 29 = .ok (.bipush 9, 2) := by decide +kernel
theorem dX10_tickMany_31 : decode cX10_tickMany 31 = .ok (.iaload, 1) := by decide +kernel
theorem dX10_tickMany_32 : decode cX10_tickMany 32 = .ok (.iload_n 2, 1) := by decide +kernel
theorem dX10_tickMany_33 : decode cX10_tickMany 33 = .ok (.isub, 1) := by decide +kernel
theorem dX10_tickMany_34 : decode cX10_tickMany 34 = .ok (.ireturn, 1) := by decide +kernel
set_option maxRecDepth 20000 in
theorem ggX10_appendText_X10_fail : GoodIn wsX10_appendText wsX10_fail := goodIn_r _ [8, 1, 9, 10, 11, 12, 13, 14, 15, 16, 17, 18, 19, 20, 21, 22, 23, 24, 25, 26, 27, 28, 29, 30, 31] (by decide +kernel) (by decide +kernel)
set_option maxRecDepth 20000 in
theorem gX10_appendText_X10_fail : GoodIn wsX10_appendText (wsV RX10 161 RX10 yX10_fail wsX10_fail) := goodIn_app (goodIn_of _ (by decide +kernel)) ggX10_appendText_X10_fail
theorem dX10_appendText_0 : decode cX10_appendText 0 = .ok (.aload_n 0, 1) := by decide +kernel
theorem dX10_appendText_1 : decode cX10_appendText 1 = .ok (.iconst 0, 1) := by decide +kernel
theorem dX10_appendText_2 : decode cX10_appendText 2 = .ok (.putfield 48, 3) := by decide +kernel
theorem dX10_appendText_5 : decode cX10_appendText 5 = .ok (.aload_n 0, 1) := by decide +kernel
theorem dX10_appendText_6 : decode cX10_appendText 6 = .ok (.getfield 158, 3) := by decide +kernel
theorem dX10_appendText_9 : decode cX10_appendText 9 = .ok (.iconst 4, 1) := by decide +kernel
theorem dX10_appendText_10 : decode cX10_appendText 10 = .ok (.iadd, 1) := by decide +kernel
theorem dX10_appendText_11 : decode cX10_appendText 11 = .ok (.sipush 500, 3) := by decide +kernel
theorem dX10_appendText_14 : decode cX10_appendText 14 = .ok (.if_icmp .le 9, 3) := by decide +kernel
theorem dX10_appendText_17 : decode cX10_appendText 17 = .ok (.aload_n 0, 1) := by decide +kernel
theorem dX10_appendText_18 : decode cX10_appendText 18 = .ok (.iconst 1, 1) := by decide +kernel
theorem dX10_appendText_19 : decode cX10_appendText 19 = .ok (.invokevirtual 161, 3) := by decide +kernel
theorem dX10_appendText_22 : decode cX10_appendText 22 = .ok (.ireturn, 1) := by decide +kernel
theorem dX10_appendText_23 : decode cX10_appendText 23 = .ok (.bipush 24, 2) := by decide +kernel
theorem dX10_appendText_25 : decode cX10_appendText 25 = .ok (.istore_n 2, 1) := by decide +kernel
theorem dX10_appendText_26 : decode cX10_appendText 26 = .ok (.iload_n 2, 1) := by decide +kernel
theorem dX10_appendText_27 : decode cX10_appendText 27 = .ok (.ifCond .lt 35, 3) := by decide +kernel
theorem dX10_appendText_30 : decode cX10_appendText 30 = .ok (.aload_n 0, 1) := by decide +kernel
theorem dX10_appendText_31 : decode cX10_appendText 31 = .ok (.getfield 32, 3) := by decide +kernel
theorem dX10_appendText_34 : decode cX10_appendText 34 = .ok (.aload_n 0, 1) := by decide +kernel
theorem dX10_appendText_35 : decode cX10_appendText 35 = .ok (.getfield 158, 3) := by decide +kernel
theorem dX10_appendText_38 : decode cX10_appendText 38 = .ok (.iload_n 1, 1) := by decide +kernel
theorem dX10_appendText_39 : decode cX10_appendText 39 = .ok (.iload_n 2, 1) := by decide +kernel
theorem dX10_appendText_40 : decode cX10_appendText 40 = .ok (.ishr, 1) := by decide +kernel
theorem dX10_appendText_41 : decode cX10_appendText 41 = .ok (.sipush 255, 3) := by decide +kernel
theorem dX10_appendText_44 : decode cX10_appendText 44 = .ok (.iand, 1) := by decide +kernel
theorem dX10_appendText_45 : decode cX10_appendText 45 = .ok (.iastore, 1) := by decide +kernel
theorem dX10_appendText_46 : decode cX10_appendText 46 = .ok (.aload_n 0, 1) := by decide +kernel
theorem dX10_appendText_47 : decode cX10_appendText 47 = .ok (.dup, 1) := by decide +kernel
theorem dX10_appendText_48 : decode cX10_appendText 48 = .ok (.getfield 158, 3) := by decide +kernel
theorem dX10_appendText_51 : decode cX10_appendText 51 = .ok (.iconst 1, 1) := by decide +kernel
theorem dX10_appendText_52 : decode cX10_appendText 52 = .ok (.iadd, 1) := by decide +kernel
theorem dX10_appendText_53 : decode cX10_appendText 53 = .ok (.putfield 158, 3) := by decide +kernel
theorem dX10_appendText_56 : decode cX10_appendText 56 = .ok (.iinc 2 (-8), 3) := by decide +kernel
theorem dX10_appendText_59 : decode cX10_appendText 59 = .ok (.goto (-33), 3) := by decide +kernel
theorem dX10_appendText_62 : decode cX10_appendText 62 = .ok (.aload_n 0, 1) := by decide +kernel
theorem dX10_appendText_63 : decode cX10_appendText 63 = .ok (.getfield 158, 3) := by decide +kernel
theorem dX10_appendText_66 : decode cX10_appendText 66 = .ok (.ireturn, 1) := by decide +kernel
set_option maxRecDepth 20000 in
theorem ggX10_truncateText_X10_isBetween : GoodIn wsX10_truncateText wsX10_isBetween := goodIn_r _ [6] (by decide +kernel) (by decide +kernel)
set_option maxRecDepth 20000 in
theorem gX10_truncateText_X10_isBetween : GoodIn wsX10_truncateText (va_wsS RX10 62 yX10_isBetween wsX10_isBetween) := goodIn_app (goodIn_of _ (by decide +kernel)) ggX10_truncateText_X10_isBetween
set_option maxRecDepth 20000 in
theorem ggX10_truncateText_X10_fail : GoodIn wsX10_truncateText wsX10_fail := goodIn_r _ [10, 1, 11, 12, 13, 14, 15, 16, 17, 18, 19, 20, 21, 22, 23, 24, 25, 26, 27, 28, 29, 30, 31, 32, 33] (by decide +kernel) (by decide +kernel)
set_option maxRecDepth 20000 in
theorem gX10_truncateText_X10_fail : GoodIn wsX10_truncateText (wsV RX10 161 RX10 yX10_fail wsX10_fail) := goodIn_app (goodIn_of _ (by decide +kernel)) ggX10_truncateText_X10_fail
theorem dX10_truncateText_0 : decode cX10_truncateText 0 = .ok (.aload_n 0, 1) := by decide +kernel
theorem dX10_truncateText_1 : decode cX10_truncateText 1 = .ok (.iconst 0, 1) := by decide +kernel
theorem dX10_truncateText_2 : decode cX10_truncateText 2 = .ok (.putfield 48, 3) := by decide +kernel
theorem dX10_truncateText_5 : decode cX10_truncateText 5 = .ok (.iload_n 1, 1) := by decide +kernel
theorem dX10_truncateText_6 : decode cX10_truncateText 6 = .ok (.iconst 0, 1) := by decide +kernel
theorem dX10_truncateText_7 : decode cX10_truncateText 7 = .ok (.aload_n 0, 1) := by decide +kernel
theorem dX10_truncateText_8 : decode cX10_truncateText 8 = .ok (.getfield 158, 3) := by decide +kernel
theorem dX10_truncateText_11 : decode cX10_truncateText 11 = .ok (.invokestatic 62, 3) := by decide +kernel
theorem dX10_truncateText_14 : decode cX10_truncateText 14 = .ok (.ifCond .ne 9, 3) := by decide +kernel
theorem dX10_truncateText_17 : decode cX10_truncateText 17 = .ok (.aload_n 0, 1) := by decide +kernel
theorem dX10_truncateText_18 : decode cX10_truncateText 18 = .ok (.iconst 1, 1) := by decide +kernel
theorem dX10_truncateText_19 : decode cX10_truncateText 19 = .ok (.invokevirtual 161, 3) := by decide +kernel
theorem dX10_truncateText_22 : decode cX10_truncateText 22 = .ok (.ireturn, 1) := by decide +kernel
theorem dX10_truncateText_23 : decode cX10_truncateText 23 = .ok (.aload_n 0, 1) := by decide +kernel
theorem dX10_truncateText_24 : decode cX10_truncateText 24 = .ok (.iload_n 1, 1) := by decide +kernel
theorem dX10_truncateText_25 : decode cX10_truncateText 25 = .ok (.putfield 158, 3) := by decide +kernel
theorem dX10_truncateText_28 : decode cX10_truncateText 28 = .ok (.aload_n 0, 1) := by decide +kernel
theorem dX10_truncateText_29 : decode cX10_truncateText 29 = .ok (.getfield 158, 3) := by decide +kernel
theorem dX10_truncateText_32 : decode cX10_truncateText 32 = .ok (.ireturn, 1) := by decide +kernel
theorem dX10_byteAt_0 : decode cX10_byteAt 0 = .ok (.iload_n 1, 1) := by decide +kernel
theorem dX10_byteAt_1 : decode cX10_byteAt 1 = .ok (.aload_n 0, 1) := by decide +kernel
theorem dX10_byteAt_2 : decode cX10_byteAt 2 = .ok (.getfield 158, 3) := by decide +kernel
theorem dX10_byteAt_5 : decode cX10_byteAt 5 = .ok (.if_icmp .ge 12, 3) := by decide +kernel
theorem dX10_byteAt_8 : decode cX10_byteAt 8 = .ok (.aload_n 0, 1) := by decide +kernel
theorem dX10_byteAt_9 : decode cX10_byteAt 9 = .ok (.getfield 32, 3) := by decide +kernel
theorem dX10_byteAt_12 : decode cX10_byteAt 12 = .ok (.iload_n 1, 1) := by decide +kernel
theorem dX10_byteAt_13 : decode cX10_byteAt 13 = .ok (.iaload, 1) := by decide +kernel
theorem dX10_byteAt_14 : decode cX10_byteAt 14 = .ok (.goto 4, 3) := by decide +kernel
theorem dX10_byteAt_17 : decode cX10_byteAt 17 = .ok (.iconst (-1), 1) := by decide +kernel
theorem dX10_byteAt_18 : decode cX10_byteAt 18 = .ok (.ireturn, 1) := by decide +kernel
theorem dX10_isLetter_0 : decode cX10_isLetter 0 = .ok (.iload_n 0, 1) := by decide +kernel
theorem dX10_isLetter_1 : decode cX10_isLetter 1 = .ok (.bipush 97, 2) := by decide +kernel
theorem dX10_isLetter_3 : decode cX10_isLetter 3 = .ok (.if_icmp .lt 13, 3) := by decide +kernel
theorem dX10_isLetter_6 : decode cX10_isLetter 6 = .ok (.iload_n 0, 1) := by decide +kernel
theorem dX10_isLetter_7 : decode cX10_isLetter 7 = .ok (.bipush 122, 2) := by decide +kernel
theorem dX10_isLetter_9 : decode cX10_isLetter 9 = .ok (.if_icmp .gt 7, 3) := by decide +kernel
theorem dX10_isLetter_12 : decode cX10_isLetter 12 = .ok (.iconst 1, 1) := by decide +kernel
theorem dX10_isLetter_13 : decode cX10_isLetter 13 = .ok (.goto 4, 3) := by decide +kernel
theorem dX10_isLetter_16 : decode cX10_isLetter 16 = .ok (.iconst 0, 1) := by decide +kernel
theorem dX10_isLetter_17 : decode cX10_isLetter 17 = .ok (.ireturn, 1) := by decide +kernel
theorem dX10_isDigit_0 : decode cX10_isDigit 0 = .ok (.iload_n 0, 1) := by decide +kernel
theorem dX10_isDigit_1 : decode cX10_isDigit 1 = .ok (.bipush 48, 2) := by decide +kernel
theorem dX10_isDigit_3 : decode cX10_isDigit 3 = .ok (.if_icmp .lt 13, 3) := by decide +kernel
theorem dX10_isDigit_6 : decode cX10_isDigit 6 = .ok (.iload_n 0, 1) := by decide +kernel
theorem dX10_isDigit_7 : decode cX10_isDigit 7 = .ok (.bipush 57, 2) := by decide +kernel
theorem dX10_isDigit_9 : decode cX10_isDigit 9 = .ok (.if_icmp .gt 7, 3) := by decide +kernel
theorem dX10_isDigit_12 : decode cX10_isDigit 12 = .ok (.iconst 1, 1) := by decide +kernel
theorem dX10_isDigit_13 : decode cX10_isDigit 13 = .ok (.goto 4, 3) := by decide +kernel
theorem dX10_isDigit_16 : decode cX10_isDigit 16 = .ok (.iconst 0, 1) := by decide +kernel
theorem dX10_isDigit_17 : decode cX10_isDigit 17 = .ok (.ireturn, 1) := by decide +kernel
set_option maxRecDepth 20000 in
theorem ggX10_advance_X10_byteAt : GoodIn wsX10_advance wsX10_byteAt := goodIn_r _ [15, 4, 16, 23, 24, 25, 26, 27, 28, 29, 30, 31, 32, 33, 34, 35, 36, 37, 38, 39, 40, 41, 42, 43, 44, 45] (by decide +kernel) (by decide +kernel)
set_option maxRecDepth 20000 in
theorem gX10_advance_X10_byteAt : GoodIn wsX10_advance (wsV RX10 167 RX10 yX10_byteAt wsX10_byteAt) := goodIn_app (goodIn_of _ (by decide +kernel)) ggX10_advance_X10_byteAt
set_option maxRecDepth 20000 in
theorem ggX10_advance_X10_isLetter : GoodIn wsX10_advance wsX10_isLetter := goodIn_r _ [19] (by decide +kernel) (by decide +kernel)
set_option maxRecDepth 20000 in
theorem gX10_advance_X10_isLetter : GoodIn wsX10_advance (va_wsS RX10 179 yX10_isLetter wsX10_isLetter) := goodIn_app (goodIn_of _ (by decide +kernel)) ggX10_advance_X10_isLetter
set_option maxRecDepth 20000 in
theorem ggX10_advance_X10_isDigit : GoodIn wsX10_advance wsX10_isDigit := goodIn_r _ [22] (by decide +kernel) (by decide +kernel)
set_option maxRecDepth 20000 in
theorem gX10_advance_X10_isDigit : GoodIn wsX10_advance (va_wsS RX10 182 yX10_isDigit wsX10_isDigit) := goodIn_app (goodIn_of _ (by decide +kernel)) ggX10_advance_X10_isDigit
theorem dX10_advance_0 : decode cX10_advance 0 = .ok (.aload_n 0, 1) := by decide +kernel
theorem dX10_advance_1 : decode cX10_advance 1 = .ok (.aload_n 0, 1) := by decide +kernel
theorem dX10_advance_2 : decode cX10_advance 2 = .ok (.getfield 164, 3) := by decide +kernel
theorem dX10_advance_5 : decode cX10_advance 5 = .ok (.invokevirtual 167, 3) := by decide +kernel
theorem dX10_advance_8 : decode cX10_advance 8 = .ok (.bipush 32, 2) := by decide +kernel
theorem dX10_advance_10 : decode cX10_advance 10 = .ok (.if_icmp .eq 16, 3) := by decide +kernel
theorem dX10_advance_13 : decode cX10_advance 13 = .ok (.aload_n 0, 1) := by decide +kernel
theorem dX10_advance_14 : decode cX10_advance 14 = .ok (.aload_n 0, 1) := by decide +kernel
theorem dX10_advance_15 : decode cX10_advance 15 = .ok (.getfield 164, 3) := by decide +kernel
theorem dX10_advance_18 : decode cX10_advance 18 = .ok (.invokevirtual 167, 3) := by decide +kernel
theorem dX10_advance_21 : decode cX10_advance 21 = .ok (.bipush 10, 2) := by decide +kernel
theorem dX10_advance_23 : decode cX10_advance 23 = .ok (.if_icmp .ne 16, 3) := by decide +kernel
theorem dX10_advance_26 : decode cX10_advance 26 = .ok (.aload_n 0, 1) := by decide +kernel
theorem dX10_advance_27 : decode cX10_advance 27 = .ok (.dup, 1) := by decide +kernel
theorem dX10_advance_28 : decode cX10_advance 28 = .ok (.getfield 164, 3) := by decide +kernel
theorem dX10_advance_31 : decode cX10_advance 31 = .ok (.iconst 1, 1) := by decide +kernel
theorem dX10_advance_32 : decode cX10_advance 32 = .ok (.iadd, 1) := by decide +kernel
theorem dX10_advance_33 : decode cX10_advance 33 = .ok (.putfield 164, 3) := by decide +kernel
theorem dX10_advance_36 : decode cX10_advance 36 = .ok (.goto (-36), 3) := by decide +kernel
theorem dX10_advance_39 : decode cX10_advance 39 = .ok (.aload_n 0, 1) := by decide +kernel
theorem dX10_advance_40 : decode cX10_advance 40 = .ok (.aload_n 0, 1) := by decide +kernel
theorem dX10_advance_41 : decode cX10_advance 41 = .ok (.getfield 164, 3) := by decide +kernel
theorem dX10_advance_44 : decode cX10_advance 44 = .ok (.putfield 170, 3) := by decide +kernel
theorem dX10_advance_47 : decode cX10_advance 47 = .ok (.aload_n 0, 1) := by decide +kernel
theorem dX10_advance_48 : decode cX10_advance 48 = .ok (.iconst 0, 1) := by decide +kernel
theorem dX10_advance_49 : decode cX10_advance 49 = .ok (.putfield 173, 3) := by decide +kernel
theorem dX10_advance_52 : decode cX10_advance 52 = .ok (.aload_n 0, 1) := by decide +kernel
theorem dX10_advance_53 : decode cX10_advance 53 = .ok (.getfield 164, 3) := by decide +kernel
theorem dX10_advance_56 : decode cX10_advance 56 = .ok (.aload_n 0, 1) := by decide +kernel
theorem dX10_advance_57 : decode cX10_advance 57 = .ok (.getfield 158, 3) := by decide +kernel
theorem dX10_advance_60 : decode cX10_advance 60 = .ok (.if_icmp .lt 11, 3) := by decide +kernel
theorem dX10_advance_63 : decode cX10_advance 63 = .ok (.aload_n 0, 1) := by decide +kernel
theorem dX10_advance_64 : decode cX10_advance 64 = .ok (.iconst 0, 1) := by decide +kernel
theorem dX10_advance_65 : decode cX10_advance 65 = .ok (.putfield 176, 3) := by decide +kernel
theorem dX10_advance_68 : decode cX10_advance 68 = .ok (.goto 167, 3) := by decide +kernel
theorem dX10_advance_71 : decode cX10_advance 71 = .ok (.aload_n 0, 1) := by decide +kernel
theorem dX10_advance_72 : decode cX10_advance 72 = .ok (.aload_n 0, 1) := by decide +kernel
theorem dX10_advance_73 : decode cX10_advance 73 = .ok (.getfield 164, 3) := by decide +kernel
theorem dX10_advance_76 : decode cX10_advance 76 = .ok (.invokevirtual 167, 3) := by decide +kernel
theorem dX10_advance_79 : decode cX10_advance 79 = .ok (.invokestatic 179, 3) := by decide +kernel
theorem dX10_advance_82 : decode cX10_advance 82 = .ok (.ifCond .eq 35, 3) := by decide +kernel
theorem dX10_advance_85 : decode cX10_advance 85 = .ok (.aload_n 0, 1) := by decide +kernel
theorem dX10_advance_86 : decode cX10_advance 86 = .ok (.iconst 1, 1) := by decide +kernel
theorem dX10_advance_87 : decode cX10_advance 87 = .ok (.putfield 176, 3) := by decide +kernel
theorem dX10_advance_90 : decode cX10_advance 90 = .ok (.aload_n 0, 1) := by decide +kernel
theorem dX10_advance_91 : decode cX10_advance 91 = .ok (.aload_n 0, 1) := by decide +kernel
theorem dX10_advance_92 : decode cX10_advance 92 = .ok (.getfield 164, 3) := by decide +kernel
theorem dX10_advance_95 : decode cX10_advance 95 = .ok (.invokevirtual 167, 3) := by decide +kernel
theorem dX10_advance_98 : decode cX10_advance 98 = .ok (.invokestatic 179, 3) := by decide +kernel
theorem dX10_advance_101 : decode cX10_advance 101 = .ok (.ifCond .eq 134, 3) := by decide +kernel
theorem dX10_advance_104 : decode cX10_advance 104 = .ok (.aload_n 0, 1) := by decide +kernel
theorem dX10_advance_105 : decode cX10_advance 105 = .ok (.dup, 1) := by decide +kernel
theorem dX10_advance_106 : decode cX10_advance 106 = .ok (.getfield 164, 3) := by decide +kernel
theorem dX10_advance_109 : decode cX10_advance 109 = .ok (.iconst 1, 1) := by decide +kernel
theorem dX10_advance_110 : decode cX10_advance 110 = .ok (.iadd, 1) := by decide +kernel
theorem dX10_advance_111 : decode cX10_advance 111 = .ok (.putfield 164, 3) := by decide +kernel
theorem dX10_advance_114 : decode cX10_advance 114 = .ok (.goto (-24), 3) := by decide +kernel
theorem dX10_advance_117 : decode cX10_advance 117 = .ok (.aload_n 0, 1) := by decide +kernel
theorem dX10_advance_118 : decode cX10_advance 118 = .ok (.aload_n 0, 1) := by decide +kernel
theorem dX10_advance_119 : decode cX10_advance 119 = .ok (.getfield 164, 3) := by decide +kernel
theorem dX10_advance_122 : decode cX10_advance 122 = .ok (.invokevirtual 167, 3) := by decide +kernel
theorem dX10_advance_125 : decode cX10_advance 125 = .ok (.invokestatic 182, 3) := by decide +kernel
theorem dX10_advance_128 : decode cX10_advance 128 = .ok (.ifCond .eq 63, 3) := by decide +kernel
theorem dX10_advance_131 : decode cX10_advance 131 = .ok (.aload_n 0, 1) := by decide +kernel
theorem dX10_advance_132 : decode cX10_advance 132 = .ok (.iconst 2, 1) := by decide +kernel
theorem dX10_advance_133 : decode cX10_advance 133 = .ok (.putfield 176, 3) := by decide +kernel
theorem dX10_advance_136 : decode cX10_advance 136 = .ok (.aload_n 0, 1) := by decide +kernel
theorem dX10_advance_137 : decode cX10_advance 137 = .ok (.aload_n 0, 1) := by decide +kernel
theorem dX10_advance_138 : decode cX10_advance 138 = .ok (.getfield 164, 3) := by decide +kernel
theorem dX10_advance_141 : decode cX10_advance 141 = .ok (.invokevirtual 167, 3) := by decide +kernel
theorem dX10_advance_144 : decode cX10_advance 144 = .ok (.invokestatic 182, 3) := by decide +kernel
theorem dX10_advance_147 : decode cX10_advance 147 = .ok (.ifCond .eq 88, 3) := by decide +kernel
theorem dX10_advance_150 : decode cX10_advance 150 = .ok (.aload_n 0, 1) := by decide +kernel
theorem dX10_advance_151 : decode cX10_advance 151 = .ok (.ldc 185, 2) := by decide +kernel
theorem dX10_advance_153 : decode cX10_advance 153 = .ok (.bipush 10, 2) := by decide +kernel
theorem dX10_advance_155 : decode cX10_advance 155 = .ok (.aload_n 0, 1) := by decide +kernel
theorem dX10_advance_156 : decode cX10_advance 156 = .ok (.getfield 173, 3) := by decide +kernel
theorem dX10_advance_159 : decode cX10_advance 159 = .ok (.imul, 1) := by decide +kernel
theorem dX10_advance_160 : decode cX10_advance 160 = .ok (.aload_n 0, 1) := by decide +kernel
theorem dX10_advance_161 : decode cX10_advance 161 = .ok (.aload_n 0, 1) := by decide +kernel
theorem dX10_advance_162 : decode cX10_advance 162 = .ok (.getfield 164, 3) := by decide +kernel
theorem dX10_advance_165 : decode cX10_advance 165 = .ok (.invokevirtual 167, 3) := by decide +kernel
theorem dX10_advance_168 : decode cX10_advance 168 = .ok (.iadd, 1) := by decide +kernel
theorem dX10_advance_169 : decode cX10_advance 169 = .ok (.bipush 48, 2) := by decide +kernel
theorem dX10_advance_171 : decode cX10_advance 171 = .ok (.isub, 1) := by decide +kernel
theorem dX10_advance_172 : decode cX10_advance 172 = .ok (.invokestatic 128, 3) := by decide +kernel
theorem dX10_advance_175 : decode cX10_advance 175 = .ok (.putfield 173, 3) := by decide +kernel
theorem dX10_advance_178 : decode cX10_advance 178 = .ok (.aload_n 0, 1) := by decide +kernel
theorem dX10_advance_179 : decode cX10_advance 179 = .ok (.dup, 1) := by decide +kernel
theorem dX10_advance_180 : decode cX10_advance 180 = .ok (.getfield 164, 3) := by decide +kernel
theorem dX10_advance_183 : decode cX10_advance 183 = .ok (.iconst 1, 1) := by decide +kernel
theorem dX10_advance_184 : decode cX10_advance 184 = .ok (.iadd, 1) := by decide +kernel
theorem dX10_advance_185 : decode cX10_advance 185 = .ok (.putfield 164, 3) := by decide +kernel
theorem dX10_advance_188 : decode cX10_advance 188 = .ok (.goto (-52), 3) := by decide +kernel
theorem dX10_advance_191 : decode cX10_advance 191 = .ok (.aload_n 0, 1) := by decide +kernel
theorem dX10_advance_192 : decode cX10_advance 192 = .ok (.aload_n 0, 1) := by decide +kernel
theorem dX10_advance_193 : decode cX10_advance 193 = .ok (.getfield 164, 3) := by decide +kernel
theorem dX10_advance_196 : decode cX10_advance 196 = .ok (.invokevirtual 167, 3) := by decide +kernel
theorem dX10_advance_199 : decode cX10_advance 199 = .ok (.istore_n 1, 1) := by decide +kernel
theorem dX10_advance_200 : decode cX10_advance 200 = .ok (.aload_n 0, 1) := by decide +kernel
theorem dX10_advance_201 : decode cX10_advance 201 = .ok (.iload_n 1, 1) := by decide +kernel
theorem dX10_advance_202 : decode cX10_advance 202 = .ok (.bipush 59, 2) := by decide +kernel
theorem dX10_advance_204 : decode cX10_advance 204 = .ok (.if_icmp .ne 7, 3) := by decide +kernel
theorem dX10_advance_207 : decode cX10_advance 207 = .ok (.iconst 4, 1) := by decide +kernel
theorem dX10_advance_208 : decode cX10_advance 208 = .ok (.goto 14, 3) := by decide +kernel
theorem dX10_advance_211 : decode cX10_advance 211 = .ok (.iload_n 1, 1) := by decide +kernel
theorem dX10_advance_212 : decode cX10_advance 212 = .ok (.bipush 45, 2) := by decide +kernel
theorem dX10_advance_214 : decode cX10_advance 214 = .ok (.if_icmp .ne 7, 3) := by decide +kernel
theorem dX10_advance_217 : decode cX10_advance 217 = .ok (.iconst 3, 1) := by decide +kernel
theorem dX10_advance_218 : decode cX10_advance 218 = .ok (.goto 4, 3) := by decide +kernel
theorem dX10_advance_221 : decode cX10_advance 221 = .ok (.iconst 5, 1) := by decide +kernel
theorem dX10_advance_222 : decode cX10_advance 222 = .ok (.putfield 176, 3) := by decide +kernel
theorem dX10_advance_225 : decode cX10_advance 225 = .ok (.aload_n 0, 1) := by decide +kernel
theorem dX10_advance_226 : decode cX10_advance 226 = .ok (.dup, 1) := by decide +kernel
theorem dX10_advance_227 : decode cX10_advance 227 = .ok (.getfield 164, 3) := by decide +kernel
theorem dX10_advance_230 : decode cX10_advance 230 = .ok (.iconst 1, 1) := by decide +kernel
theorem dX10_advance_231 : decode cX10_advance 231 = .ok (.iadd, 1) := by decide +kernel
theorem dX10_advance_232 : decode cX10_advance 232 = .ok (.putfield 164, 3) := by decide +kernel
theorem dX10_advance_235 : decode cX10_advance 235 = .ok (.return_, 1) := by decide +kernel
theorem dX10_isFine_0 : decode cX10_isFine 0 = .ok (.aload_n 0, 1) := by decide +kernel
theorem dX10_isFine_1 : decode cX10_isFine 1 = .ok (.getfield 186, 3) := by decide +kernel
theorem dX10_isFine_4 : decode cX10_isFine 4 = .ok (.ifCond .ne 7, 3) := by decide +kernel
theorem dX10_isFine_7 : decode cX10_isFine 7 = .ok (.iconst 1, 1) := by decide +kernel
theorem dX10_isFine_8 : decode cX10_isFine 8 = .ok (.goto 4, 3) := by decide +kernel
theorem dX10_isFine_11 : decode cX10_isFine 11 = .ok (.iconst 0, 1) := by decide +kernel
theorem dX10_isFine_12 : decode cX10_isFine 12 = .ok (.ireturn, 1) := by decide +kernel
theorem dX10_require_0 : decode cX10_require 0 = .ok (.iload_n 1, 1) := by decide +kernel
theorem dX10_require_1 : decode cX10_require 1 = .ok (.ifCond .ne 23, 3) := by decide +kernel
theorem dX10_require_4 : decode cX10_require 4 = .ok (.aload_n 0, 1) := by decide +kernel
theorem dX10_require_5 : decode cX10_require 5 = .ok (.getfield 186, 3) := by decide +kernel
theorem dX10_require_8 : decode cX10_require 8 = .ok (.ifCond .ne 16, 3) := by decide +kernel
theorem dX10_require_11 : decode cX10_require 11 = .ok (.aload_n 0, 1) := by decide +kernel
theorem dX10_require_12 : decode cX10_require 12 = .ok (.iload_n 2, 1) := by decide +kernel
theorem dX10_require_13 : decode cX10_require 13 = .ok (.putfield 186, 3) := by decide +kernel
theorem dX10_require_16 : decode cX10_require 16 = .ok (.aload_n 0, 1) := by decide +kernel
theorem dX10_require_17 : decode cX10_require 17 = .ok (.aload_n 0, 1) := by decide +kernel
theorem dX10_require_18 : decode cX10_require 18 = .ok (.getfield 170, 3) := by decide +kernel
theorem dX10_require_21 : decode cX10_require 21 = .ok (.putfield 38, 3) := by decide +kernel
theorem dX10_require_24 : decode cX10_require 24 = .ok (.return_, 1) := by decide +kernel
set_option maxRecDepth 20000 in
theorem ggX10_proceed_X10_isFine : GoodIn wsX10_proceed wsX10_isFine := goodIn_r _ [5, 6, 32, 33, 34, 35, 36, 37, 38, 39, 40, 41, 42, 43, 44, 45, 46, 47, 48, 49, 50, 51, 52, 53, 54] (by decide +kernel) (by decide +kernel)
set_option maxRecDepth 20000 in
theorem gX10_proceed_X10_isFine : GoodIn wsX10_proceed (wsV RX10 189 RX10 yX10_isFine wsX10_isFine) := goodIn_app (goodIn_of _ (by decide +kernel)) ggX10_proceed_X10_isFine
set_option maxRecDepth 20000 in
theorem ggX10_proceed_X10_advance : GoodIn wsX10_proceed wsX10_advance := goodIn_r _ [10, 11, 12, 13, 14, 15, 16, 17, 18, 19, 20, 21, 22, 23, 4, 24, 25, 26, 27, 28, 29, 30, 31, 32, 33, 34, 35, 36, 37, 38, 39, 40, 41, 42, 43, 44, 45, 46, 47, 48, 49, 50, 51, 52, 53, 54] (by decide +kernel) (by decide +kernel)
set_option maxRecDepth 20000 in
theorem gX10_proceed_X10_advance : GoodIn wsX10_proceed (wsV RX10 193 RX10 yX10_advance wsX10_advance) := goodIn_app (goodIn_of _ (by decide +kernel)) ggX10_proceed_X10_advance
theorem dX10_proceed_0 : decode cX10_proceed 0 = .ok (.aload_n 0, 1) := by decide +kernel
theorem dX10_proceed_1 : decode cX10_proceed 1 = .ok (.invokevirtual 189, 3) := by decide +kernel
theorem dX10_proceed_4 : decode cX10_proceed 4 = .ok (.ifCond .eq 7, 3) := by decide +kernel
theorem dX10_proceed_7 : decode cX10_proceed 7 = .ok (.aload_n 0, 1) := by decide +kernel
theorem dX10_proceed_8 : decode cX10_proceed 8 = .ok (.invokevirtual 193, 3) := by decide +kernel
theorem dX10_proceed_11 : decode cX10_proceed 11 = .ok (.return_, 1) := by decide +kernel
set_option maxRecDepth 20000 in
theorem ggX10_isWord_X10_isFine : GoodIn wsX10_isWord wsX10_isFine := goodIn_r _ [9, 10, 60, 61, 62, 63, 64, 65, 66, 67, 68, 69, 70, 71, 72, 73, 74, 75, 76, 77, 78, 79, 80, 81, 82] (by decide +kernel) (by decide +kernel)
set_option maxRecDepth 20000 in
theorem gX10_isWord_X10_isFine : GoodIn wsX10_isWord (wsV RX10 189 RX10 yX10_isFine wsX10_isFine) := goodIn_app (goodIn_of _ (by decide +kernel)) ggX10_isWord_X10_isFine
set_option maxRecDepth 20000 in
theorem ggX10_isWord_J0_length_8abf5 : GoodIn wsX10_isWord wsJ0_length_8abf5 := goodIn_r _ [15, 16, 17, 18, 19, 14, 20, 21, 22] (by decide +kernel) (by decide +kernel)
set_option maxRecDepth 20000 in
theorem gX10_isWord_J0_length_8abf5 : GoodIn wsX10_isWord (wsV RX10 196 RJ0 yJ0_length_8abf5 wsJ0_length_8abf5) := goodIn_app (goodIn_of _ (by decide +kernel)) ggX10_isWord_J0_length_8abf5
set_option maxRecDepth 20000 in
theorem ggX10_isWord_J0_charAt_5068e : GoodIn wsX10_isWord wsJ0_charAt_5068e := goodIn_r _ [26, 16, 27, 28, 29, 14, 30, 21, 22, 31, 32, 33, 34, 35, 36, 37, 38, 39, 40, 41, 42, 43, 44, 45, 46, 47, 48, 49, 50, 51, 52, 53, 54, 55, 56, 57, 58, 59] (by decide +kernel) (by decide +kernel)
set_option maxRecDepth 20000 in
theorem gX10_isWord_J0_charAt_5068e : GoodIn wsX10_isWord (wsV RX10 201 RJ0 yJ0_charAt_5068e wsJ0_charAt_5068e) := goodIn_app (goodIn_of _ (by decide +kernel)) ggX10_isWord_J0_charAt_5068e
theorem dX10_isWord_0 : decode cX10_isWord 0 = .ok (.aload_n 0, 1) := by decide +kernel
theorem dX10_isWord_1 : decode cX10_isWord 1 = .ok (.invokevirtual 189, 3) := by decide +kernel
theorem dX10_isWord_4 : decode cX10_isWord 4 = .ok (.ifCond .eq 31, 3) := by decide +kernel
theorem dX10_isWord_7 : decode cX10_isWord 7 = .ok (.aload_n 0, 1) := by decide +kernel
theorem dX10_isWord_8 : decode cX10_isWord 8 = .ok (.getfield 176, 3) := by decide +kernel
theorem dX10_isWord_11 : decode cX10_isWord 11 = .ok (.iconst 1, 1) := by decide +kernel
theorem dX10_isWord_12 : decode cX10_isWord 12 = .ok (.if_icmp .ne 23, 3) := by decide +kernel
theorem dX10_isWord_15 : decode cX10_isWord 15 = .ok (.aload_n 0, 1) := by decide +kernel
theorem dX10_isWord_16 : decode cX10_isWord 16 = .ok (.getfield 164, 3) := by decide +kernel
theorem dX10_isWord_19 : decode cX10_isWord 19 = .ok (.aload_n 0, 1) := by decide +kernel
theorem dX10_isWord_20 : decode cX10_isWord 20 = .ok (.getfield 170, 3) := by decide +kernel
theorem dX10_isWord_23 : decode cX10_isWord 23 = .ok (.isub, 1) := by decide +kernel
theorem dX10_isWord_24 : decode cX10_isWord 24 = .ok (.aload_n 1, 1) := by decide +kernel
theorem dX10_isWord_25 : decode cX10_isWord 25 = .ok (.invokevirtual 196, 3) := by decide +kernel
theorem dX10_isWord_28 : decode cX10_isWord 28 = .ok (.if_icmp .ne 7, 3) := by decide +kernel
theorem dX10_isWord_31 : decode cX10_isWord 31 = .ok (.iconst 1, 1) := by decide +kernel
theorem dX10_isWord_32 : decode cX10_isWord 32 = .ok (.goto 4, 3) := by decide +kernel
theorem dX10_isWord_35 : decode cX10_isWord 35 = .ok (.iconst 0, 1) := by decide +kernel
theorem dX10_isWord_36 : decode cX10_isWord 36 = .ok (.istore_n 2, 1) := by decide +kernel
theorem dX10_isWord_37 : decode cX10_isWord 37 = .ok (.iconst 0, 1) := by decide +kernel
theorem dX10_isWord_38 : decode cX10_isWord 38 = .ok (.istore_n 3, 1) := by decide +kernel
theorem dX10_isWord_39 : decode cX10_isWord 39 = .ok (.iload_n 2, 1) := by decide +kernel
theorem dX10_isWord_40 : decode cX10_isWord 40 = .ok (.ifCond .eq 42, 3) := by decide +kernel
theorem dX10_isWord_43 : decode cX10_isWord 43 = .ok (.iload_n 3, 1) := by decide +kernel
theorem dX10_isWord_44 : decode cX10_isWord 44 = .ok (.aload_n 1, 1) := by decide +kernel
theorem dX10_isWord_45 : decode cX10_isWord 45 = .ok (.invokevirtual 196, 3) := by decide +kernel
theorem dX10_isWord_48 : decode cX10_isWord 48 = .ok (.if_icmp .ge 34, 3) := by decide +kernel
theorem dX10_isWord_51 : decode cX10_isWord 51 = .ok (.aload_n 0, 1) := by decide +kernel
theorem dX10_isWord_52 : decode cX10_isWord 52 = .ok (.getfield 32, 3) := by decide +kernel
theorem dX10_isWord_55 : decode cX10_isWord 55 = .ok (.aload_n 0, 1) := by decide +kernel
theorem dX10_isWord_56 : decode cX10_isWord 56 = .ok (.getfield 170, 3) := by decide +kernel
theorem dX10_isWord_59 : decode cX10_isWord 59 = .ok (.iload_n 3, 1) := by decide +kernel
theorem dX10_isWord_60 : decode cX10_isWord 60 = .ok (.iadd, 1) := by decide +kernel
theorem dX10_isWord_61 : decode cX10_isWord 61 = .ok (.iaload, 1) := by decide +kernel
theorem dX10_isWord_62 : decode cX10_isWord 62 = .ok (.aload_n 1, 1) := by decide +kernel
theorem dX10_isWord_63 : decode cX10_isWord 63 = .ok (.iload_n 3, 1) := by decide +kernel
theorem dX10_isWord_64 : decode cX10_isWord 64 = .ok (.invokevirtual 201, 3) := by decide +kernel
theorem dX10_isWord_67 : decode cX10_isWord 67 = .ok (.if_icmp .ne 7, 3) := by decide +kernel
theorem dX10_isWord_70 : decode cX10_isWord 70 = .ok (.iconst 1, 1) := by decide +kernel
theorem dX10_isWord_71 : decode cX10_isWord 71 = .ok (.goto 4, 3) := by decide +kernel
theorem dX10_isWord_74 : decode cX10_isWord 74 = .ok (.iconst 0, 1) := by decide +kernel
theorem dX10_isWord_75 : decode cX10_isWord 75 = .ok (.istore_n 2, 1) := by decide +kernel
theorem dX10_isWord_76 : decode cX10_isWord 76 = .ok (.iinc 3 1, 3) := by decide +kernel
theorem dX10_isWord_79 : decode cX10_isWord 79 = .ok (.goto (-40), 3) := by decide +kernel
theorem dX10_isWord_82 : decode cX10_isWord 82 = .ok (.iload_n 2, 1) := by decide +kernel
theorem dX10_isWord_83 : decode cX10_isWord 83 = .ok (.ireturn, 1) := by decide +kernel
set_option maxRecDepth 20000 in
theorem ggX10_parseWord_X10_isWord : GoodIn wsX10_parseWord wsX10_isWord := goodIn_r _ [5, 6, 7, 8, 9, 10, 11, 12, 4, 13, 14, 15, 16, 17, 18, 19, 20, 21, 22, 23, 24, 25, 26, 27, 28, 29, 30, 31, 32, 33, 34, 35, 36, 37, 38, 39, 40, 41, 42, 43, 44, 45, 46, 47, 48, 49, 50, 51, 52, 53, 54, 55, 56, 57, 58, 59, 60, 61, 62, 63, 94, 95, 96, 97, 98, 99, 100, 101, 102, 103, 104, 105, 106, 107, 108, 109, 110, 111, 112, 113, 114, 115, 116] (by decide +kernel) (by decide +kernel)
set_option maxRecDepth 20000 in
theorem gX10_parseWord_X10_isWord : GoodIn wsX10_parseWord (wsV RX10 205 RX10 yX10_isWord wsX10_isWord) := goodIn_app (goodIn_of _ (by decide +kernel)) ggX10_parseWord_X10_isWord
set_option maxRecDepth 20000 in
theorem ggX10_parseWord_X10_require : GoodIn wsX10_parseWord wsX10_require := goodIn_r _ [67, 14, 8, 68, 94, 95, 96, 97, 98, 99, 100, 101, 102, 103, 104, 105, 106, 107, 108, 109, 110, 111, 112, 113, 114, 115, 116] (by decide +kernel) (by decide +kernel)
set_option maxRecDepth 20000 in
theorem gX10_parseWord_X10_require : GoodIn wsX10_parseWord (wsV RX10 209 RX10 yX10_require wsX10_require) := goodIn_app (goodIn_of _ (by decide +kernel)) ggX10_parseWord_X10_require
set_option maxRecDepth 20000 in
theorem ggX10_parseWord_X10_proceed : GoodIn wsX10_parseWord wsX10_proceed := goodIn_r _ [72, 10, 11, 12, 4, 13, 14, 73, 74, 75, 76, 7, 8, 77, 78, 6, 79, 80, 81, 82, 83, 84, 85, 86, 87, 9, 88, 89, 90, 91, 92, 93, 94, 95, 96, 97, 98, 99, 100, 101, 102, 103, 104, 105, 106, 107, 108, 109, 110, 111, 112, 113, 114, 115, 116] (by decide +kernel) (by decide +kernel)
set_option maxRecDepth 20000 in
theorem gX10_parseWord_X10_proceed : GoodIn wsX10_parseWord (wsV RX10 213 RX10 yX10_proceed wsX10_proceed) := goodIn_app (goodIn_of _ (by decide +kernel)) ggX10_parseWord_X10_proceed
theorem dX10_parseWord_0 : decode cX10_parseWord 0 = .ok (.aload_n 0, 1) := by decide +kernel
theorem dX10_parseWord_1 : decode cX10_parseWord 1 = .ok (.aload_n 0, 1) := by decide +kernel
theorem dX10_parseWord_2 : decode cX10_parseWord 2 = .ok (.aload_n 1, 1) := by decide +kernel
theorem dX10_parseWord_3 : decode cX10_parseWord 3 = .ok (.invokevirtual 205, 3) := by decide +kernel
theorem dX10_parseWord_6 : decode cX10_parseWord 6 = .ok (.iconst 1, 1) := by decide +kernel
theorem dX10_parseWord_7 : decode cX10_parseWord 7 = .ok (.invokevirtual 209, 3) := by decide +kernel
theorem dX10_parseWord_10 : decode cX10_parseWord 10 = .ok (.aload_n 0, 1) := by decide +kernel
theorem dX10_parseWord_11 : decode cX10_parseWord 11 = .ok (.invokevirtual 213, 3) := by decide +kernel
theorem dX10_parseWord_14 : decode cX10_parseWord 14 = .ok (.return_, 1) := by decide +kernel
set_option maxRecDepth 20000 in
theorem ggX10_parseEnd_X10_require : GoodIn wsX10_parseEnd wsX10_require := goodIn_r _ [6, 7, 8, 9, 41, 42, 43, 44, 45, 46, 47, 48, 49, 50, 51, 52, 53, 54, 55, 56, 57, 58, 59, 60, 61, 62, 63] (by decide +kernel) (by decide +kernel)
set_option maxRecDepth 20000 in
theorem gX10_parseEnd_X10_require : GoodIn wsX10_parseEnd (wsV RX10 209 RX10 yX10_require wsX10_require) := goodIn_app (goodIn_of _ (by decide +kernel)) ggX10_parseEnd_X10_require
set_option maxRecDepth 20000 in
theorem ggX10_parseEnd_X10_proceed : GoodIn wsX10_parseEnd wsX10_proceed := goodIn_r _ [13, 14, 15, 16, 5, 17, 7, 18, 19, 20, 21, 22, 8, 23, 24, 1, 25, 26, 27, 28, 29, 30, 31, 32, 33, 34, 35, 36, 37, 38, 39, 40, 41, 42, 43, 44, 45, 46, 47, 48, 49, 50, 51, 52, 53, 54, 55, 56, 57, 58, 59, 60, 61, 62, 63] (by decide +kernel) (by decide +kernel)
set_option maxRecDepth 20000 in
theorem gX10_parseEnd_X10_proceed : GoodIn wsX10_parseEnd (wsV RX10 213 RX10 yX10_proceed wsX10_proceed) := goodIn_app (goodIn_of _ (by decide +kernel)) ggX10_parseEnd_X10_proceed
theorem dX10_parseEnd_0 : decode cX10_parseEnd 0 = .ok (.aload_n 0, 1) := by decide +kernel
theorem dX10_parseEnd_1 : decode cX10_parseEnd 1 = .ok (.aload_n 0, 1) := by decide +kernel
theorem dX10_parseEnd_2 : decode cX10_parseEnd 2 = .ok (.getfield 176, 3) := by decide +kernel
theorem dX10_parseEnd_5 : decode cX10_parseEnd 5 = .ok (.iconst 4, 1) := by decide +kernel
theorem dX10_parseEnd_6 : decode cX10_parseEnd 6 = .ok (.if_icmp .ne 7, 3) := by decide +kernel
theorem dX10_parseEnd_9 : decode cX10_parseEnd 9 = .ok (.iconst 1, 1) := by decide +kernel
theorem dX10_parseEnd_10 : decode cX10_parseEnd 10 = .ok (.goto 4, 3) := by decide +kernel
theorem dX10_parseEnd_13 : decode cX10_parseEnd 13 = .ok (.iconst 0, 1) := by decide +kernel
theorem dX10_parseEnd_14 : decode cX10_parseEnd 14 = .ok (.iconst 1, 1) := by decide +kernel
theorem dX10_parseEnd_15 : decode cX10_parseEnd 15 = .ok (.invokevirtual 209, 3) := by decide +kernel
theorem dX10_parseEnd_18 : decode cX10_parseEnd 18 = .ok (.aload_n 0, 1) := by decide +kernel
theorem dX10_parseEnd_19 : decode cX10_parseEnd 19 = .ok (.invokevirtual 213, 3) := by decide +kernel
theorem dX10_parseEnd_22 : decode cX10_parseEnd 22 = .ok (.return_, 1) := by decide +kernel
set_option maxRecDepth 20000 in
theorem ggX10_look_X10_require : GoodIn wsX10_look wsX10_require := goodIn_r _ [7, 8, 9, 10, 18, 19, 20, 21, 22, 23, 24, 25, 26, 27, 28, 29, 30, 31, 32, 33, 34, 35, 36, 37, 38, 39, 40] (by decide +kernel) (by decide +kernel)
set_option maxRecDepth 20000 in
theorem gX10_look_X10_require : GoodIn wsX10_look (wsV RX10 209 RX10 yX10_require wsX10_require) := goodIn_app (goodIn_of _ (by decide +kernel)) ggX10_look_X10_require
set_option maxRecDepth 20000 in
theorem ggX10_look_X10_isBetween : GoodIn wsX10_look wsX10_isBetween := goodIn_r _ [13] (by decide +kernel) (by decide +kernel)
set_option maxRecDepth 20000 in
theorem gX10_look_X10_isBetween : GoodIn wsX10_look (va_wsS RX10 62 yX10_isBetween wsX10_isBetween) := goodIn_app (goodIn_of _ (by decide +kernel)) ggX10_look_X10_isBetween
set_option maxRecDepth 20000 in
theorem ggX10_look_X10_isFine : GoodIn wsX10_look wsX10_isFine := goodIn_r _ [17, 8, 18, 19, 20, 21, 22, 23, 24, 25, 26, 27, 28, 29, 30, 31, 32, 33, 34, 35, 36, 37, 38, 39, 40] (by decide +kernel) (by decide +kernel)
set_option maxRecDepth 20000 in
theorem gX10_look_X10_isFine : GoodIn wsX10_look (wsV RX10 189 RX10 yX10_isFine wsX10_isFine) := goodIn_app (goodIn_of _ (by decide +kernel)) ggX10_look_X10_isFine
theorem dX10_look_0 : decode cX10_look 0 = .ok (.aload_n 0, 1) := by decide +kernel
theorem dX10_look_1 : decode cX10_look 1 = .ok (.aload_n 0, 1) := by decide +kernel
theorem dX10_look_2 : decode cX10_look 2 = .ok (.getfield 176, 3) := by decide +kernel
theorem dX10_look_5 : decode cX10_look 5 = .ok (.iconst 2, 1) := by decide +kernel
theorem dX10_look_6 : decode cX10_look 6 = .ok (.if_icmp .ne 7, 3) := by decide +kernel
theorem dX10_look_9 : decode cX10_look 9 = .ok (.iconst 1, 1) := by decide +kernel
theorem dX10_look_10 : decode cX10_look 10 = .ok (.goto 4, 3) := by decide +kernel
theorem dX10_look_13 : decode cX10_look 13 = .ok (.iconst 0, 1) := by decide +kernel
theorem dX10_look_14 : decode cX10_look 14 = .ok (.iconst 1, 1) := by decide +kernel
theorem dX10_look_15 : decode cX10_look 15 = .ok (.invokevirtual 209, 3) := by decide +kernel
theorem dX10_look_18 : decode cX10_look 18 = .ok (.aload_n 0, 1) := by decide +kernel
theorem dX10_look_19 : decode cX10_look 19 = .ok (.aload_n 0, 1) := by decide +kernel
theorem dX10_look_20 : decode cX10_look 20 = .ok (.getfield 173, 3) := by decide +kernel
theorem dX10_look_23 : decode cX10_look 23 = .ok (.iload_n 1, 1) := by decide +kernel
theorem dX10_look_24 : decode cX10_look 24 = .ok (.iload_n 2, 1) := by decide +kernel
theorem dX10_look_25 : decode cX10_look 25 = .ok (.invokestatic 62, 3) := by decide +kernel
theorem dX10_look_28 : decode cX10_look 28 = .ok (.iconst 2, 1) := by decide +kernel
theorem dX10_look_29 : decode cX10_look 29 = .ok (.invokevirtual 209, 3) := by decide +kernel
theorem dX10_look_32 : decode cX10_look 32 = .ok (.aload_n 0, 1) := by decide +kernel
theorem dX10_look_33 : decode cX10_look 33 = .ok (.invokevirtual 189, 3) := by decide +kernel
theorem dX10_look_36 : decode cX10_look 36 = .ok (.ifCond .eq 10, 3) := by decide +kernel
theorem dX10_look_39 : decode cX10_look 39 = .ok (.aload_n 0, 1) := by decide +kernel
theorem dX10_look_40 : decode cX10_look 40 = .ok (.getfield 173, 3) := by decide +kernel
theorem dX10_look_43 : decode cX10_look 43 = .ok (.goto 4, 3) := by decide +kernel
theorem dX10_look_46 : decode cX10_look 46 = .ok (.iload_n 1, 1) := by decide +kernel
theorem dX10_look_47 : decode cX10_look 47 = .ok (.ireturn, 1) := by decide +kernel
set_option maxRecDepth 20000 in
theorem ggX10_parseNumber_X10_look : GoodIn wsX10_parseNumber wsX10_look := goodIn_r _ [5, 6, 7, 8, 9, 10, 4, 11, 12, 13, 14, 15, 16, 17, 18, 19, 20, 21, 48, 49, 50, 51, 52, 53, 54, 55, 56, 57, 58, 59, 60, 61, 62, 63, 64, 65, 66, 67, 68, 69, 70] (by decide +kernel) (by decide +kernel)
set_option maxRecDepth 20000 in
theorem gX10_parseNumber_X10_look : GoodIn wsX10_parseNumber (wsV RX10 216 RX10 yX10_look wsX10_look) := goodIn_app (goodIn_of _ (by decide +kernel)) ggX10_parseNumber_X10_look
set_option maxRecDepth 20000 in
theorem ggX10_parseNumber_X10_proceed : GoodIn wsX10_parseNumber wsX10_proceed := goodIn_r _ [25, 18, 19, 20, 4, 21, 12, 26, 27, 28, 29, 30, 13, 7, 31, 6, 32, 33, 34, 35, 36, 37, 38, 39, 40, 41, 42, 43, 44, 45, 46, 47, 48, 49, 50, 51, 52, 53, 54, 55, 56, 57, 58, 59, 60, 61, 62, 63, 64, 65, 66, 67, 68, 69, 70] (by decide +kernel) (by decide +kernel)
set_option maxRecDepth 20000 in
theorem gX10_parseNumber_X10_proceed : GoodIn wsX10_parseNumber (wsV RX10 213 RX10 yX10_proceed wsX10_proceed) := goodIn_app (goodIn_of _ (by decide +kernel)) ggX10_parseNumber_X10_proceed
theorem dX10_parseNumber_0 : decode cX10_parseNumber 0 = .ok (.aload_n 0, 1) := by decide +kernel
theorem dX10_parseNumber_1 : decode cX10_parseNumber 1 = .ok (.iload_n 1, 1) := by decide +kernel
theorem dX10_parseNumber_2 : decode cX10_parseNumber 2 = .ok (.iload_n 2, 1) := by decide +kernel
theorem dX10_parseNumber_3 : decode cX10_parseNumber 3 = .ok (.invokevirtual 216, 3) := by decide +kernel
theorem dX10_parseNumber_6 : decode cX10_parseNumber 6 = .ok (.istore_n 3, 1) := by decide +kernel
theorem dX10_parseNumber_7 : decode cX10_parseNumber 7 = .ok (.aload_n 0, 1) := by decide +kernel
theorem dX10_parseNumber_8 : decode cX10_parseNumber 8 = .ok (.invokevirtual 213, 3) := by decide +kernel
theorem dX10_parseNumber_11 : decode cX10_parseNumber 11 = .ok (.iload_n 3, 1) := by decide +kernel
theorem dX10_parseNumber_12 : decode cX10_parseNumber 12 = .ok (.ireturn, 1) := by decide +kernel
set_option maxRecDepth 20000 in
theorem ggX10_lookHeight_X10_proceed : GoodIn wsX10_lookHeight wsX10_proceed := goodIn_r _ [6, 7, 8, 9, 5, 10, 11, 12, 13, 14, 15, 16, 17, 18, 19, 1, 20, 21, 22, 23, 24, 25, 26, 27, 28, 29, 30, 31, 32, 33, 34, 35, 48, 49, 50, 51, 52, 53, 54, 55, 56, 57, 58, 59, 60, 61, 62, 63, 64, 65, 66, 67, 68, 69, 70] (by decide +kernel) (by decide +kernel)
set_option maxRecDepth 20000 in
theorem gX10_lookHeight_X10_proceed : GoodIn wsX10_lookHeight (wsV RX10 213 RX10 yX10_proceed wsX10_proceed) := goodIn_app (goodIn_of _ (by decide +kernel)) ggX10_lookHeight_X10_proceed
set_option maxRecDepth 20000 in
theorem ggX10_lookHeight_X10_look : GoodIn wsX10_lookHeight wsX10_look := goodIn_r _ [39, 1, 18, 40, 41, 42, 5, 43, 11, 17, 44, 45, 46, 47, 7, 8, 9, 10, 48, 49, 50, 51, 52, 53, 54, 55, 56, 57, 58, 59, 60, 61, 62, 63, 64, 65, 66, 67, 68, 69, 70] (by decide +kernel) (by decide +kernel)
set_option maxRecDepth 20000 in
theorem gX10_lookHeight_X10_look : GoodIn wsX10_lookHeight (wsV RX10 216 RX10 yX10_look wsX10_look) := goodIn_app (goodIn_of _ (by decide +kernel)) ggX10_lookHeight_X10_look
theorem dX10_lookHeight_0 : decode cX10_lookHeight 0 = .ok (.aload_n 0, 1) := by decide +kernel
theorem dX10_lookHeight_1 : decode cX10_lookHeight 1 = .ok (.getfield 176, 3) := by decide +kernel
theorem dX10_lookHeight_4 : decode cX10_lookHeight 4 = .ok (.iconst 3, 1) := by decide +kernel
theorem dX10_lookHeight_5 : decode cX10_lookHeight 5 = .ok (.if_icmp .ne 7, 3) := by decide +kernel
theorem dX10_lookHeight_8 : decode cX10_lookHeight 8 = .ok (.iconst 1, 1) := by decide +kernel
theorem dX10_lookHeight_9 : decode cX10_lookHeight 9 = .ok (.goto 4, 3) := by decide +kernel
theorem dX10_lookHeight_12 : decode cX10_lookHeight 12 = .ok (.iconst 0, 1) := by decide +kernel
theorem dX10_lookHeight_13 : decode cX10_lookHeight 13 = .ok (.istore_n 2, 1) := by decide +kernel
theorem dX10_lookHeight_14 : decode cX10_lookHeight 14 = .ok (.iload_n 2, 1) := by decide +kernel
theorem dX10_lookHeight_15 : decode cX10_lookHeight 15 = .ok (.ifCond .eq 7, 3) := by decide +kernel
theorem dX10_lookHeight_18 : decode cX10_lookHeight 18 = .ok (.aload_n 0, 1) := by decide +kernel
theorem dX10_lookHeight_19 : decode cX10_lookHeight 19 = .ok (.invokevirtual 213, 3) := by decide +kernel
theorem dX10_lookHeight_22 : decode cX10_lookHeight 22 = .ok (.aload_n 0, 1) := by decide +kernel
theorem dX10_lookHeight_23 : decode cX10_lookHeight 23 = .ok (.iconst 0, 1) := by decide +kernel
theorem dX10_lookHeight_24 : decode cX10_lookHeight 24 = .ok (.iload_n 1, 1) := by decide +kernel
theorem dX10_lookHeight_25 : decode cX10_lookHeight 25 = .ok (.invokevirtual 216, 3) := by decide +kernel
theorem dX10_lookHeight_28 : decode cX10_lookHeight 28 = .ok (.istore_n 3, 1) := by decide +kernel
theorem dX10_lookHeight_29 : decode cX10_lookHeight 29 = .ok (.iload_n 2, 1) := by decide +kernel
theorem dX10_lookHeight_30 : decode cX10_lookHeight 30 = .ok (.ifCond .eq 8, 3) := by decide +kernel
theorem dX10_lookHeight_33 : decode cX10_lookHeight 33 = .ok (.iload_n 3, 1) := by decide +kernel
theorem dX10_lookHeight_34 : decode cX10_lookHeight 34 = .ok (.ineg, 1) := by decide +kernel
theorem dX10_lookHeight_35 : decode cX10_lookHeight 35 = .ok (.goto 4, 3) := by decide +kernel
theorem dX10_lookHeight_38 : decode cX10_lookHeight 38 = .ok (.iload_n 3, 1) := by decide +kernel
theorem dX10_lookHeight_39 : decode cX10_lookHeight 39 = .ok (.ireturn, 1) := by decide +kernel
set_option maxRecDepth 20000 in
theorem ggX10_parseHeight_X10_lookHeight : GoodIn wsX10_parseHeight wsX10_lookHeight := goodIn_r _ [5, 6, 7, 8, 9, 4, 10, 11, 12, 13, 14, 15, 16, 17, 18, 19, 20, 21, 22, 23, 24, 25, 26, 27, 28, 29, 30, 31, 32, 33, 34, 35, 36, 37, 38, 39, 40, 41, 42, 43, 44, 45, 46, 47, 48, 49, 50, 51, 52, 53, 54, 55, 56, 57, 58, 59, 60, 61, 62, 63, 64, 65, 66, 67, 68, 69, 70, 71, 72, 73, 74] (by decide +kernel) (by decide +kernel)
set_option maxRecDepth 20000 in
theorem gX10_parseHeight_X10_lookHeight : GoodIn wsX10_parseHeight (wsV RX10 219 RX10 yX10_lookHeight wsX10_lookHeight) := goodIn_app (goodIn_of _ (by decide +kernel)) ggX10_parseHeight_X10_lookHeight
set_option maxRecDepth 20000 in
theorem ggX10_parseHeight_X10_proceed : GoodIn wsX10_parseHeight wsX10_proceed := goodIn_r _ [10, 11, 12, 13, 4, 14, 15, 16, 17, 18, 19, 20, 21, 22, 23, 6, 24, 25, 26, 27, 28, 29, 30, 31, 32, 33, 34, 35, 36, 37, 38, 39, 52, 53, 54, 55, 56, 57, 58, 59, 60, 61, 62, 63, 64, 65, 66, 67, 68, 69, 70, 71, 72, 73, 74] (by decide +kernel) (by decide +kernel)
set_option maxRecDepth 20000 in
theorem gX10_parseHeight_X10_proceed : GoodIn wsX10_parseHeight (wsV RX10 213 RX10 yX10_proceed wsX10_proceed) := goodIn_app (goodIn_of _ (by decide +kernel)) ggX10_parseHeight_X10_proceed
theorem dX10_parseHeight_0 : decode cX10_parseHeight 0 = .ok (.aload_n 0, 1) := by decide +kernel
theorem dX10_parseHeight_1 : decode cX10_parseHeight 1 = .ok (.iload_n 1, 1) := by decide +kernel
theorem dX10_parseHeight_2 : decode cX10_parseHeight 2 = .ok (.invokevirtual 219, 3) := by decide +kernel
theorem dX10_parseHeight_5 : decode cX10_parseHeight 5 = .ok (.istore_n 2, 1) := by decide +kernel
theorem dX10_parseHeight_6 : decode cX10_parseHeight 6 = .ok (.aload_n 0, 1) := by decide +kernel
theorem dX10_parseHeight_7 : decode cX10_parseHeight 7 = .ok (.invokevirtual 213, 3) := by decide +kernel
theorem dX10_parseHeight_10 : decode cX10_parseHeight 10 = .ok (.iload_n 2, 1) := by decide +kernel
theorem dX10_parseHeight_11 : decode cX10_parseHeight 11 = .ok (.ireturn, 1) := by decide +kernel
set_option maxRecDepth 20000 in
theorem ggX10_startText_X10_advance : GoodIn wsX10_startText wsX10_advance := goodIn_r _ [11, 3, 12, 13, 14, 15, 16, 17, 18, 19, 20, 21, 22, 23, 10, 24, 25, 26, 27, 28, 29, 30, 31, 32, 33, 34, 35, 36, 37, 38, 39, 40, 41, 42, 43, 44, 45, 46, 47, 48, 49, 50, 51, 52, 53, 54] (by decide +kernel) (by decide +kernel)
set_option maxRecDepth 20000 in
theorem gX10_startText_X10_advance : GoodIn wsX10_startText (wsV RX10 193 RX10 yX10_advance wsX10_advance) := goodIn_app (goodIn_of _ (by decide +kernel)) ggX10_startText_X10_advance
theorem dX10_startText_0 : decode cX10_startText 0 = .ok (.aload_n 0, 1) := by decide +kernel
theorem dX10_startText_1 : decode cX10_startText 1 = .ok (.iconst 0, 1) := by decide +kernel
theorem dX10_startText_2 : decode cX10_startText 2 = .ok (.putfield 186, 3) := by decide +kernel
theorem dX10_startText_5 : decode cX10_startText 5 = .ok (.aload_n 0, 1) := by decide +kernel
theorem dX10_startText_6 : decode cX10_startText 6 = .ok (.iconst (-1), 1) := by decide +kernel
theorem dX10_startText_7 : decode cX10_startText 7 = .ok (.putfield 38, 3) := by decide +kernel
theorem dX10_startText_10 : decode cX10_startText 10 = .ok (.aload_n 0, 1) := by decide +kernel
theorem dX10_startText_11 : decode cX10_startText 11 = .ok (.iconst 0, 1) := by decide +kernel
theorem dX10_startText_12 : decode cX10_startText 12 = .ok (.putfield 164, 3) := by decide +kernel
theorem dX10_startText_15 : decode cX10_startText 15 = .ok (.aload_n 0, 1) := by decide +kernel
theorem dX10_startText_16 : decode cX10_startText 16 = .ok (.iconst 0, 1) := by decide +kernel
theorem dX10_startText_17 : decode cX10_startText 17 = .ok (.putfield 222, 3) := by decide +kernel
theorem dX10_startText_20 : decode cX10_startText 20 = .ok (.aload_n 0, 1) := by decide +kernel
theorem dX10_startText_21 : decode cX10_startText 21 = .ok (.iconst 0, 1) := by decide +kernel
theorem dX10_startText_22 : decode cX10_startText 22 = .ok (.putfield 225, 3) := by decide +kernel
theorem dX10_startText_25 : decode cX10_startText 25 = .ok (.aload_n 0, 1) := by decide +kernel
theorem dX10_startText_26 : decode cX10_startText 26 = .ok (.iconst 0, 1) := by decide +kernel
theorem dX10_startText_27 : decode cX10_startText 27 = .ok (.putfield 228, 3) := by decide +kernel
theorem dX10_startText_30 : decode cX10_startText 30 = .ok (.aload_n 0, 1) := by decide +kernel
theorem dX10_startText_31 : decode cX10_startText 31 = .ok (.invokevirtual 193, 3) := by decide +kernel
theorem dX10_startText_34 : decode cX10_startText 34 = .ok (.return_, 1) := by decide +kernel
set_option maxRecDepth 20000 in
theorem ggX10_set_X10_isFine : GoodIn wsX10_set wsX10_isFine := goodIn_r _ [6, 7, 8, 9, 10, 11, 12, 13, 14, 15, 16, 17, 18, 19, 20, 21, 22, 23, 24, 25, 26, 27, 28, 29, 30] (by decide +kernel) (by decide +kernel)
set_option maxRecDepth 20000 in
theorem gX10_set_X10_isFine : GoodIn wsX10_set (wsV RX10 189 RX10 yX10_isFine wsX10_isFine) := goodIn_app (goodIn_of _ (by decide +kernel)) ggX10_set_X10_isFine
theorem dX10_set_0 : decode cX10_set 0 = .ok (.aload_n 0, 1) := by decide +kernel
theorem dX10_set_1 : decode cX10_set 1 = .ok (.invokevirtual 189, 3) := by decide +kernel
theorem dX10_set_4 : decode cX10_set 4 = .ok (.ifCond .eq 10, 3) := by decide +kernel
theorem dX10_set_7 : decode cX10_set 7 = .ok (.aload_n 0, 1) := by decide +kernel
theorem dX10_set_8 : decode cX10_set 8 = .ok (.getfield 7, 3) := by decide +kernel
theorem dX10_set_11 : decode cX10_set 11 = .ok (.iload_n 1, 1) := by decide +kernel
theorem dX10_set_12 : decode cX10_set 12 = .ok (.iload_n 2, 1) := by decide +kernel
theorem dX10_set_13 : decode cX10_set 13 = .ok (.iastore, 1) := by decide +kernel
theorem dX10_set_14 : decode cX10_set 14 = .ok (.return_, 1) := by decide +kernel
set_option maxRecDepth 20000 in
theorem ggX10_passOnce_X10_require : GoodIn wsX10_passOnce wsX10_require := goodIn_r _ [6, 7, 8, 9, 42, 43, 44, 45, 46, 47, 48, 49, 50, 51, 52, 53, 54, 55, 56, 57, 58, 59, 60, 61, 62, 63, 64] (by decide +kernel) (by decide +kernel)
set_option maxRecDepth 20000 in
theorem gX10_passOnce_X10_require : GoodIn wsX10_passOnce (wsV RX10 209 RX10 yX10_require wsX10_require) := goodIn_app (goodIn_of _ (by decide +kernel)) ggX10_passOnce_X10_require
set_option maxRecDepth 20000 in
theorem ggX10_passOnce_X10_proceed : GoodIn wsX10_passOnce wsX10_proceed := goodIn_r _ [13, 14, 15, 16, 5, 17, 7, 18, 19, 20, 21, 22, 8, 23, 24, 25, 26, 27, 28, 29, 30, 31, 32, 33, 34, 35, 36, 37, 38, 39, 40, 41, 42, 43, 44, 45, 46, 47, 48, 49, 50, 51, 52, 53, 54, 55, 56, 57, 58, 59, 60, 61, 62, 63, 64] (by decide +kernel) (by decide +kernel)
set_option maxRecDepth 20000 in
theorem gX10_passOnce_X10_proceed : GoodIn wsX10_passOnce (wsV RX10 213 RX10 yX10_proceed wsX10_proceed) := goodIn_app (goodIn_of _ (by decide +kernel)) ggX10_passOnce_X10_proceed
theorem dX10_passOnce_0 : decode cX10_passOnce 0 = .ok (.aload_n 0, 1) := by decide +kernel
theorem dX10_passOnce_1 : decode cX10_passOnce 1 = .ok (.aload_n 0, 1) := by decide +kernel
theorem dX10_passOnce_2 : decode cX10_passOnce 2 = .ok (.getfield 225, 3) := by decide +kernel
theorem dX10_passOnce_5 : decode cX10_passOnce 5 = .ok (.iload_n 1, 1) := by decide +kernel
theorem dX10_passOnce_6 : decode cX10_passOnce 6 = .ok (.ishr, 1) := by decide +kernel
theorem dX10_passOnce_7 : decode cX10_passOnce 7 = .ok (.iconst 1, 1) := by decide +kernel
theorem dX10_passOnce_8 : decode cX10_passOnce 8 = .ok (.iand, 1) := by decide +kernel
theorem dX10_passOnce_9 : decode cX10_passOnce 9 = .ok (.ifCond .ne 7, 3) := by decide +kernel
theorem dX10_passOnce_12 : decode cX10_passOnce 12 = .ok (.iconst 1, 1) := by decide +kernel
theorem dX10_passOnce_13 : decode cX10_passOnce 13 = .ok (.goto 4, 3) := by decide +kernel
theorem dX10_passOnce_16 : decode cX10_passOnce 16 = .ok (.iconst 0, 1) := by decide +kernel
theorem dX10_passOnce_17 : decode cX10_passOnce 17 = .ok (.iconst 3, 1) := by decide +kernel
theorem dX10_passOnce_18 : decode cX10_passOnce 18 = .ok (.invokevirtual 209, 3) := by decide +kernel
theorem dX10_passOnce_21 : decode cX10_passOnce 21 = .ok (.aload_n 0, 1) := by decide +kernel
theorem dX10_passOnce_22 : decode cX10_passOnce 22 = .ok (.dup, 1) := by decide +kernel
theorem dX10_passOnce_23 : decode cX10_passOnce 23 = .ok (.getfield 225, 3) := by decide +kernel
theorem dX10_passOnce_26 : decode cX10_passOnce 26 = .ok (.iconst 1, 1) := by decide +kernel
theorem dX10_passOnce_27 : decode cX10_passOnce 27 = .ok (.iload_n 1, 1) := by decide +kernel
theorem dX10_passOnce_28 : decode cX10_passOnce 28 = .ok (.ishl, 1) := by decide +kernel
theorem dX10_passOnce_29 : decode cX10_passOnce 29 = .ok (.ior, 1) := by decide +kernel
theorem dX10_passOnce_30 : decode cX10_passOnce 30 = .ok (.putfield 225, 3) := by decide +kernel
theorem dX10_passOnce_33 : decode cX10_passOnce 33 = .ok (.aload_n 0, 1) := by decide +kernel
theorem dX10_passOnce_34 : decode cX10_passOnce 34 = .ok (.invokevirtual 213, 3) := by decide +kernel
theorem dX10_passOnce_37 : decode cX10_passOnce 37 = .ok (.return_, 1) := by decide +kernel
set_option maxRecDepth 20000 in
theorem ggX10_parseTide_X10_passOnce : GoodIn wsX10_parseTide wsX10_passOnce := goodIn_r _ [5, 6, 7, 8, 9, 4, 10, 11, 12, 13, 14, 15, 16, 17, 18, 19, 20, 21, 22, 23, 24, 25, 26, 27, 28, 29, 30, 31, 32, 33, 34, 35, 36, 37, 38, 39, 40, 41, 42, 43, 44, 45, 127, 128, 129, 130, 131, 132, 133, 134, 135, 136, 137, 138, 139, 140, 141, 142, 143, 144, 145, 146, 147, 148, 149] (by decide +kernel) (by decide +kernel)
set_option maxRecDepth 20000 in
theorem gX10_parseTide_X10_passOnce : GoodIn wsX10_parseTide (wsV RX10 231 RX10 yX10_passOnce wsX10_passOnce) := goodIn_app (goodIn_of _ (by decide +kernel)) ggX10_parseTide_X10_passOnce
set_option maxRecDepth 20000 in
theorem ggX10_parseTide_X10_parseHeight : GoodIn wsX10_parseTide wsX10_parseHeight := goodIn_r _ [49, 50, 51, 52, 4, 53, 29, 14, 15, 16, 17, 18, 19, 20, 21, 11, 22, 23, 24, 25, 26, 12, 27, 28, 30, 31, 32, 33, 34, 35, 36, 37, 38, 39, 40, 41, 42, 43, 44, 45, 54, 55, 56, 57, 7, 8, 9, 10, 13, 58, 59, 60, 127, 128, 129, 130, 131, 132, 133, 134, 135, 136, 137, 138, 139, 140, 141, 142, 143, 144, 145, 146, 147, 148, 149] (by decide +kernel) (by decide +kernel)
set_option maxRecDepth 20000 in
theorem gX10_parseTide_X10_parseHeight : GoodIn wsX10_parseTide (wsV RX10 234 RX10 yX10_parseHeight wsX10_parseHeight) := goodIn_app (goodIn_of _ (by decide +kernel)) ggX10_parseTide_X10_parseHeight
set_option maxRecDepth 20000 in
theorem ggX10_parseTide_X10_lookHeight : GoodIn wsX10_parseTide wsX10_lookHeight := goodIn_r _ [53, 29, 14, 15, 16, 4, 17, 18, 19, 20, 21, 11, 22, 23, 24, 25, 26, 12, 27, 28, 30, 31, 32, 33, 34, 35, 36, 37, 38, 39, 40, 41, 42, 43, 44, 45, 54, 55, 56, 57, 7, 8, 9, 10, 13, 58, 59, 60, 127, 128, 129, 130, 131, 132, 133, 134, 135, 136, 137, 138, 139, 140, 141, 142, 143, 144, 145, 146, 147, 148, 149] (by decide +kernel) (by decide +kernel)
set_option maxRecDepth 20000 in
theorem gX10_parseTide_X10_lookHeight : GoodIn wsX10_parseTide (wsV RX10 219 RX10 yX10_lookHeight wsX10_lookHeight) := goodIn_app (goodIn_of _ (by decide +kernel)) ggX10_parseTide_X10_lookHeight
set_option maxRecDepth 20000 in
theorem ggX10_parseTide_X10_require : GoodIn wsX10_parseTide wsX10_require := goodIn_r _ [10, 11, 12, 13, 127, 128, 129, 130, 131, 132, 133, 134, 135, 136, 137, 138, 139, 140, 141, 142, 143, 144, 145, 146, 147, 148, 149] (by decide +kernel) (by decide +kernel)
set_option maxRecDepth 20000 in
theorem gX10_parseTide_X10_require : GoodIn wsX10_parseTide (wsV RX10 209 RX10 yX10_require wsX10_require) := goodIn_app (goodIn_of _ (by decide +kernel)) ggX10_parseTide_X10_require
set_option maxRecDepth 20000 in
theorem ggX10_parseTide_X10_proceed : GoodIn wsX10_parseTide wsX10_proceed := goodIn_r _ [17, 18, 19, 20, 4, 21, 11, 22, 23, 24, 25, 26, 12, 27, 28, 29, 30, 31, 32, 33, 34, 35, 36, 37, 38, 39, 40, 41, 42, 43, 44, 45, 127, 128, 129, 130, 131, 132, 133, 134, 135, 136, 137, 138, 139, 140, 141, 142, 143, 144, 145, 146, 147, 148, 149] (by decide +kernel) (by decide +kernel)
set_option maxRecDepth 20000 in
theorem gX10_parseTide_X10_proceed : GoodIn wsX10_parseTide (wsV RX10 213 RX10 yX10_proceed wsX10_proceed) := goodIn_app (goodIn_of _ (by decide +kernel)) ggX10_parseTide_X10_proceed
set_option maxRecDepth 20000 in
theorem ggX10_parseTide_X10_parseWord : GoodIn wsX10_parseTide wsX10_parseWord := goodIn_r _ [64, 65, 66, 67, 4, 68, 29, 26, 12, 39, 18, 19, 20, 21, 11, 69, 70, 71, 72, 73, 74, 75, 76, 77, 78, 79, 80, 81, 82, 83, 84, 85, 86, 87, 88, 89, 90, 91, 92, 93, 94, 95, 96, 97, 98, 99, 100, 101, 102, 103, 104, 105, 106, 107, 108, 109, 110, 111, 112, 113, 114, 115, 116, 117, 7, 8, 9, 10, 13, 14, 15, 16, 17, 22, 23, 24, 25, 27, 28, 30, 31, 32, 33, 34, 35, 36, 37, 38, 40, 41, 42, 43, 44, 45, 127, 128, 129, 130, 131, 132, 133, 134, 135, 136, 137, 138, 139, 140, 141, 142, 143, 144, 145, 146, 147, 148, 149] (by decide +kernel) (by decide +kernel)
set_option maxRecDepth 20000 in
theorem gX10_parseTide_X10_parseWord : GoodIn wsX10_parseTide (wsV RX10 239 RX10 yX10_parseWord wsX10_parseWord) := goodIn_app (goodIn_of _ (by decide +kernel)) ggX10_parseTide_X10_parseWord
set_option maxRecDepth 20000 in
theorem ggX10_parseTide_X10_parseNumber : GoodIn wsX10_parseTide wsX10_parseNumber := goodIn_r _ [121, 54, 55, 56, 4, 57, 29, 27, 7, 8, 9, 10, 11, 12, 13, 58, 59, 60, 18, 19, 20, 21, 14, 15, 16, 17, 22, 23, 24, 25, 26, 28, 30, 31, 32, 33, 34, 35, 36, 37, 38, 39, 40, 41, 42, 43, 44, 45, 127, 128, 129, 130, 131, 132, 133, 134, 135, 136, 137, 138, 139, 140, 141, 142, 143, 144, 145, 146, 147, 148, 149] (by decide +kernel) (by decide +kernel)
set_option maxRecDepth 20000 in
theorem gX10_parseTide_X10_parseNumber : GoodIn wsX10_parseTide (wsV RX10 243 RX10 yX10_parseNumber wsX10_parseNumber) := goodIn_app (goodIn_of _ (by decide +kernel)) ggX10_parseTide_X10_parseNumber
set_option maxRecDepth 20000 in
theorem ggX10_parseTide_X10_set : GoodIn wsX10_parseTide wsX10_set := goodIn_r _ [125, 126, 18, 19, 20, 4, 21, 11, 127, 128, 129, 130, 131, 132, 133, 134, 135, 136, 137, 138, 139, 140, 141, 142, 143, 144, 145, 146, 147, 148, 149] (by decide +kernel) (by decide +kernel)
set_option maxRecDepth 20000 in
theorem gX10_parseTide_X10_set : GoodIn wsX10_parseTide (wsV RX10 246 RX10 yX10_set wsX10_set) := goodIn_app (goodIn_of _ (by decide +kernel)) ggX10_parseTide_X10_set
theorem dX10_parseTide_0 : decode cX10_parseTide 0 = .ok (.aload_n 0, 1) := by decide +kernel
theorem dX10_parseTide_1 : decode cX10_parseTide 1 = .ok (.iconst 0, 1) := by decide +kernel
theorem dX10_parseTide_2 : decode cX10_parseTide 2 = .ok (.invokevirtual 231, 3) := by decide +kernel
theorem dX10_parseTide_5 : decode cX10_parseTide 5 = .ok (.aload_n 0, 1) := by decide +kernel
theorem dX10_parseTide_6 : decode cX10_parseTide 6 = .ok (.sipush 500, 3) := by decide +kernel
theorem dX10_parseTide_9 : decode cX10_parseTide 9 = .ok (.invokevirtual 234, 3) := by decide +kernel
theorem dX10_parseTide_12 : decode cX10_parseTide 12 = .ok (.istore_n 1, 1) := by decide +kernel
theorem dX10_parseTide_13 : decode cX10_parseTide 13 = .ok (.aload_n 0, 1) := by decide +kernel
theorem dX10_parseTide_14 : decode cX10_parseTide 14 = .ok (.sipush 500, 3) := by decide +kernel
theorem dX10_parseTide_17 : decode cX10_parseTide 17 = .ok (.invokevirtual 219, 3) := by decide +kernel
theorem dX10_parseTide_20 : decode cX10_parseTide 20 = .ok (.istore_n 2, 1) := by decide +kernel
theorem dX10_parseTide_21 : decode cX10_parseTide 21 = .ok (.aload_n 0, 1) := by decide +kernel
theorem dX10_parseTide_22 : decode cX10_parseTide 22 = .ok (.iload_n 2, 1) := by decide +kernel
theorem dX10_parseTide_23 : decode cX10_parseTide 23 = .ok (.iload_n 1, 1) := by decide +kernel
theorem dX10_parseTide_24 : decode cX10_parseTide 24 = .ok (.if_icmp .lt 7, 3) := by decide +kernel
theorem dX10_parseTide_27 : decode cX10_parseTide 27 = .ok (.iconst 1, 1) := by decide +kernel
theorem dX10_parseTide_28 : decode cX10_parseTide 28 = .ok (.goto 4, 3) := by decide +kernel
theorem dX10_parseTide_31 : decode cX10_parseTide 31 = .ok (.iconst 0, 1) := by decide +kernel
theorem dX10_parseTide_32 : decode cX10_parseTide 32 = .ok (.iconst 2, 1) := by decide +kernel
theorem dX10_parseTide_33 : decode cX10_parseTide 33 = .ok (.invokevirtual 209, 3) := by decide +kernel
theorem dX10_parseTide_36 : decode cX10_parseTide 36 = .ok (.aload_n 0, 1) := by decide +kernel
theorem dX10_parseTide_37 : decode cX10_parseTide 37 = .ok (.invokevirtual 213, 3) := by decide +kernel
theorem dX10_parseTide_40 : decode cX10_parseTide 40 = .ok (.aload_n 0, 1) := by decide +kernel
theorem dX10_parseTide_41 : decode cX10_parseTide 41 = .ok (.ldc 237, 2) := by decide +kernel
theorem dX10_parseTide_43 : decode cX10_parseTide 43 = .ok (.invokevirtual 239, 3) := by decide +kernel
theorem dX10_parseTide_46 : decode cX10_parseTide 46 = .ok (.aload_n 0, 1) := by decide +kernel
theorem dX10_parseTide_47 : decode cX10_parseTide 47 = .ok (.bipush 17, 2) := by decide +kernel
theorem dX10_parseTide_49 : decode cX10_parseTide 49 = .ok (.aload_n 0, 1) := by decide +kernel
theorem dX10_parseTide_50 : decode cX10_parseTide 50 = .ok (.iconst 1, 1) := by decide +kernel
theorem dX10_parseTide_51 : decode cX10_parseTide 51 = .ok (.bipush 99, 2) := by decide +kernel
theorem dX10_parseTide_53 : decode cX10_parseTide 53 = .ok (.invokevirtual 243, 3) := by decide +kernel
theorem dX10_parseTide_56 : decode cX10_parseTide 56 = .ok (.invokevirtual 246, 3) := by decide +kernel
theorem dX10_parseTide_59 : decode cX10_parseTide 59 = .ok (.aload_n 0, 1) := by decide +kernel
theorem dX10_parseTide_60 : decode cX10_parseTide 60 = .ok (.bipush 15, 2) := by decide +kernel
theorem dX10_parseTide_62 : decode cX10_parseTide 62 = .ok (.iload_n 1, 1) := by decide +kernel
theorem dX10_parseTide_63 : decode cX10_parseTide 63 = .ok (.invokevirtual 246, 3) := by decide +kernel
theorem dX10_parseTide_66 : decode cX10_parseTide 66 = .ok (.aload_n 0, 1) := by decide +kernel
theorem dX10_parseTide_67 : decode cX10_parseTide 67 = .ok (.bipush 16, 2) := by decide +kernel
theorem dX10_parseTide_69 : decode cX10_parseTide 69 = .ok (.iload_n 2, 1) := by decide +kernel
theorem dX10_parseTide_70 : decode cX10_parseTide 70 = .ok (.invokevirtual 246, 3) := by decide +kernel
theorem dX10_parseTide_73 : decode cX10_parseTide 73 = .ok (.return_, 1) := by decide +kernel
set_option maxRecDepth 20000 in
theorem ggX10_parseQuay_X10_passOnce : GoodIn wsX10_parseQuay wsX10_passOnce := goodIn_r _ [5, 6, 7, 8, 9, 4, 10, 11, 12, 13, 14, 15, 16, 17, 18, 19, 20, 21, 22, 23, 24, 25, 26, 27, 28, 29, 30, 31, 32, 33, 34, 35, 36, 37, 38, 39, 40, 41, 42, 43, 44, 45, 66, 67, 68, 69, 70, 71, 72, 73, 74, 75, 76, 77, 78, 79, 80, 81, 82, 83, 84, 85, 86, 87, 88] (by decide +kernel) (by decide +kernel)
set_option maxRecDepth 20000 in
theorem gX10_parseQuay_X10_passOnce : GoodIn wsX10_parseQuay (wsV RX10 231 RX10 yX10_passOnce wsX10_passOnce) := goodIn_app (goodIn_of _ (by decide +kernel)) ggX10_parseQuay_X10_passOnce
set_option maxRecDepth 20000 in
theorem ggX10_parseQuay_X10_parseHeight : GoodIn wsX10_parseQuay wsX10_parseHeight := goodIn_r _ [49, 50, 51, 52, 4, 53, 29, 14, 15, 16, 17, 18, 19, 20, 21, 11, 22, 23, 24, 25, 26, 12, 27, 28, 30, 31, 32, 33, 34, 35, 36, 37, 38, 39, 40, 41, 42, 43, 44, 45, 54, 55, 56, 57, 7, 8, 9, 10, 13, 58, 59, 60, 66, 67, 68, 69, 70, 71, 72, 73, 74, 75, 76, 77, 78, 79, 80, 81, 82, 83, 84, 85, 86, 87, 88] (by decide +kernel) (by decide +kernel)
set_option maxRecDepth 20000 in
theorem gX10_parseQuay_X10_parseHeight : GoodIn wsX10_parseQuay (wsV RX10 234 RX10 yX10_parseHeight wsX10_parseHeight) := goodIn_app (goodIn_of _ (by decide +kernel)) ggX10_parseQuay_X10_parseHeight
set_option maxRecDepth 20000 in
theorem ggX10_parseQuay_X10_set : GoodIn wsX10_parseQuay wsX10_set := goodIn_r _ [64, 65, 18, 19, 20, 4, 21, 11, 66, 67, 68, 69, 70, 71, 72, 73, 74, 75, 76, 77, 78, 79, 80, 81, 82, 83, 84, 85, 86, 87, 88] (by decide +kernel) (by decide +kernel)
set_option maxRecDepth 20000 in
theorem gX10_parseQuay_X10_set : GoodIn wsX10_parseQuay (wsV RX10 246 RX10 yX10_set wsX10_set) := goodIn_app (goodIn_of _ (by decide +kernel)) ggX10_parseQuay_X10_set
theorem dX10_parseQuay_0 : decode cX10_parseQuay 0 = .ok (.aload_n 0, 1) := by decide +kernel
theorem dX10_parseQuay_1 : decode cX10_parseQuay 1 = .ok (.iconst 1, 1) := by decide +kernel
theorem dX10_parseQuay_2 : decode cX10_parseQuay 2 = .ok (.invokevirtual 231, 3) := by decide +kernel
theorem dX10_parseQuay_5 : decode cX10_parseQuay 5 = .ok (.aload_n 0, 1) := by decide +kernel
theorem dX10_parseQuay_6 : decode cX10_parseQuay 6 = .ok (.bipush 18, 2) := by decide +kernel
theorem dX10_parseQuay_8 : decode cX10_parseQuay 8 = .ok (.aload_n 0, 1) := by decide +kernel
theorem dX10_parseQuay_9 : decode cX10_parseQuay 9 = .ok (.sipush 500, 3) := by decide +kernel
theorem dX10_parseQuay_12 : decode cX10_parseQuay 12 = .ok (.invokevirtual 234, 3) := by decide +kernel
theorem dX10_parseQuay_15 : decode cX10_parseQuay 15 = .ok (.invokevirtual 246, 3) := by decide +kernel
theorem dX10_parseQuay_18 : decode cX10_parseQuay 18 = .ok (.return_, 1) := by decide +kernel
set_option maxRecDepth 20000 in
theorem ggX10_parseDeck_X10_passOnce : GoodIn wsX10_parseDeck wsX10_passOnce := goodIn_r _ [5, 6, 7, 8, 9, 4, 10, 11, 12, 13, 14, 15, 16, 17, 18, 19, 20, 21, 22, 23, 24, 25, 26, 27, 28, 29, 30, 31, 32, 33, 34, 35, 36, 37, 38, 39, 40, 41, 42, 43, 44, 45, 119, 120, 121, 122, 123, 124, 125, 126, 127, 128, 129, 130, 131, 132, 133, 134, 135, 136, 137, 138, 139, 140, 141] (by decide +kernel) (by decide +kernel)
set_option maxRecDepth 20000 in
theorem gX10_parseDeck_X10_passOnce : GoodIn wsX10_parseDeck (wsV RX10 231 RX10 yX10_passOnce wsX10_passOnce) := goodIn_app (goodIn_of _ (by decide +kernel)) ggX10_parseDeck_X10_passOnce
set_option maxRecDepth 20000 in
theorem ggX10_parseDeck_X10_parseNumber : GoodIn wsX10_parseDeck wsX10_parseNumber := goodIn_r _ [49, 50, 51, 52, 4, 53, 29, 27, 7, 8, 9, 10, 11, 12, 13, 54, 55, 56, 18, 19, 20, 21, 14, 15, 16, 17, 22, 23, 24, 25, 26, 28, 30, 31, 32, 33, 34, 35, 36, 37, 38, 39, 40, 41, 42, 43, 44, 45, 119, 120, 121, 122, 123, 124, 125, 126, 127, 128, 129, 130, 131, 132, 133, 134, 135, 136, 137, 138, 139, 140, 141] (by decide +kernel) (by decide +kernel)
set_option maxRecDepth 20000 in
theorem gX10_parseDeck_X10_parseNumber : GoodIn wsX10_parseDeck (wsV RX10 243 RX10 yX10_parseNumber wsX10_parseNumber) := goodIn_app (goodIn_of _ (by decide +kernel)) ggX10_parseDeck_X10_parseNumber
set_option maxRecDepth 20000 in
theorem ggX10_parseDeck_X10_set : GoodIn wsX10_parseDeck wsX10_set := goodIn_r _ [60, 61, 18, 19, 20, 4, 21, 11, 119, 120, 121, 122, 123, 124, 125, 126, 127, 128, 129, 130, 131, 132, 133, 134, 135, 136, 137, 138, 139, 140, 141] (by decide +kernel) (by decide +kernel)
set_option maxRecDepth 20000 in
theorem gX10_parseDeck_X10_set : GoodIn wsX10_parseDeck (wsV RX10 246 RX10 yX10_set wsX10_set) := goodIn_app (goodIn_of _ (by decide +kernel)) ggX10_parseDeck_X10_set
set_option maxRecDepth 20000 in
theorem ggX10_parseDeck_X10_parseWord : GoodIn wsX10_parseDeck wsX10_parseWord := goodIn_r _ [65, 66, 67, 68, 4, 69, 29, 26, 12, 39, 18, 19, 20, 21, 11, 70, 71, 72, 73, 74, 75, 76, 77, 78, 79, 80, 81, 82, 83, 84, 85, 86, 87, 88, 89, 90, 91, 92, 93, 94, 95, 96, 97, 98, 99, 100, 101, 102, 103, 104, 105, 106, 107, 108, 109, 110, 111, 112, 113, 114, 115, 116, 117, 118, 7, 8, 9, 10, 13, 14, 15, 16, 17, 22, 23, 24, 25, 27, 28, 30, 31, 32, 33, 34, 35, 36, 37, 38, 40, 41, 42, 43, 44, 45, 119, 120, 121, 122, 123, 124, 125, 126, 127, 128, 129, 130, 131, 132, 133, 134, 135, 136, 137, 138, 139, 140, 141] (by decide +kernel) (by decide +kernel)
set_option maxRecDepth 20000 in
theorem gX10_parseDeck_X10_parseWord : GoodIn wsX10_parseDeck (wsV RX10 239 RX10 yX10_parseWord wsX10_parseWord) := goodIn_app (goodIn_of _ (by decide +kernel)) ggX10_parseDeck_X10_parseWord
theorem dX10_parseDeck_0 : decode cX10_parseDeck 0 = .ok (.aload_n 0, 1) := by decide +kernel
theorem dX10_parseDeck_1 : decode cX10_parseDeck 1 = .ok (.iconst 2, 1) := by decide +kernel
theorem dX10_parseDeck_2 : decode cX10_parseDeck 2 = .ok (.invokevirtual 231, 3) := by decide +kernel
theorem dX10_parseDeck_5 : decode cX10_parseDeck 5 = .ok (.aload_n 0, 1) := by decide +kernel
theorem dX10_parseDeck_6 : decode cX10_parseDeck 6 = .ok (.bipush 19, 2) := by decide +kernel
theorem dX10_parseDeck_8 : decode cX10_parseDeck 8 = .ok (.aload_n 0, 1) := by decide +kernel
theorem dX10_parseDeck_9 : decode cX10_parseDeck 9 = .ok (.iconst 0, 1) := by decide +kernel
theorem dX10_parseDeck_10 : decode cX10_parseDeck 10 = .ok (.sipush 300, 3) := by decide +kernel
theorem dX10_parseDeck_13 : decode cX10_parseDeck 13 = .ok (.invokevirtual 243, 3) := by decide +kernel
theorem dX10_parseDeck_16 : decode cX10_parseDeck 16 = .ok (.invokevirtual 246, 3) := by decide +kernel
theorem dX10_parseDeck_19 : decode cX10_parseDeck 19 = .ok (.aload_n 0, 1) := by decide +kernel
theorem dX10_parseDeck_20 : decode cX10_parseDeck 20 = .ok (.ldc 250, 2) := by decide +kernel
theorem dX10_parseDeck_22 : decode cX10_parseDeck 22 = .ok (.invokevirtual 239, 3) := by decide +kernel
theorem dX10_parseDeck_25 : decode cX10_parseDeck 25 = .ok (.aload_n 0, 1) := by decide +kernel
theorem dX10_parseDeck_26 : decode cX10_parseDeck 26 = .ok (.bipush 20, 2) := by decide +kernel
theorem dX10_parseDeck_28 : decode cX10_parseDeck 28 = .ok (.aload_n 0, 1) := by decide +kernel
theorem dX10_parseDeck_29 : decode cX10_parseDeck 29 = .ok (.iconst 1, 1) := by decide +kernel
theorem dX10_parseDeck_30 : decode cX10_parseDeck 30 = .ok (.sipush 999, 3) := by decide +kernel
theorem dX10_parseDeck_33 : decode cX10_parseDeck 33 = .ok (.invokevirtual 243, 3) := by decide +kernel
theorem dX10_parseDeck_36 : decode cX10_parseDeck 36 = .ok (.invokevirtual 246, 3) := by decide +kernel
theorem dX10_parseDeck_39 : decode cX10_parseDeck 39 = .ok (.return_, 1) := by decide +kernel
set_option maxRecDepth 20000 in
theorem ggX10_parseLanes_X10_passOnce : GoodIn wsX10_parseLanes wsX10_passOnce := goodIn_r _ [5, 6, 7, 8, 9, 4, 10, 11, 12, 13, 14, 15, 16, 17, 18, 19, 20, 21, 22, 23, 24, 25, 26, 27, 28, 29, 30, 31, 32, 33, 34, 35, 36, 37, 38, 39, 40, 41, 42, 43, 44, 45, 119, 120, 121, 122, 123, 124, 125, 126, 127, 128, 129, 130, 131, 132, 133, 134, 135, 136, 137, 138, 139, 140, 141] (by decide +kernel) (by decide +kernel)
set_option maxRecDepth 20000 in
theorem gX10_parseLanes_X10_passOnce : GoodIn wsX10_parseLanes (wsV RX10 231 RX10 yX10_passOnce wsX10_passOnce) := goodIn_app (goodIn_of _ (by decide +kernel)) ggX10_parseLanes_X10_passOnce
set_option maxRecDepth 20000 in
theorem ggX10_parseLanes_X10_parseNumber : GoodIn wsX10_parseLanes wsX10_parseNumber := goodIn_r _ [49, 50, 51, 52, 4, 53, 29, 27, 7, 8, 9, 10, 11, 12, 13, 54, 55, 56, 18, 19, 20, 21, 14, 15, 16, 17, 22, 23, 24, 25, 26, 28, 30, 31, 32, 33, 34, 35, 36, 37, 38, 39, 40, 41, 42, 43, 44, 45, 119, 120, 121, 122, 123, 124, 125, 126, 127, 128, 129, 130, 131, 132, 133, 134, 135, 136, 137, 138, 139, 140, 141] (by decide +kernel) (by decide +kernel)
set_option maxRecDepth 20000 in
theorem gX10_parseLanes_X10_parseNumber : GoodIn wsX10_parseLanes (wsV RX10 243 RX10 yX10_parseNumber wsX10_parseNumber) := goodIn_app (goodIn_of _ (by decide +kernel)) ggX10_parseLanes_X10_parseNumber
set_option maxRecDepth 20000 in
theorem ggX10_parseLanes_X10_set : GoodIn wsX10_parseLanes wsX10_set := goodIn_r _ [60, 61, 18, 19, 20, 4, 21, 11, 119, 120, 121, 122, 123, 124, 125, 126, 127, 128, 129, 130, 131, 132, 133, 134, 135, 136, 137, 138, 139, 140, 141] (by decide +kernel) (by decide +kernel)
set_option maxRecDepth 20000 in
theorem gX10_parseLanes_X10_set : GoodIn wsX10_parseLanes (wsV RX10 246 RX10 yX10_set wsX10_set) := goodIn_app (goodIn_of _ (by decide +kernel)) ggX10_parseLanes_X10_set
set_option maxRecDepth 20000 in
theorem ggX10_parseLanes_X10_parseWord : GoodIn wsX10_parseLanes wsX10_parseWord := goodIn_r _ [65, 66, 67, 68, 4, 69, 29, 26, 12, 39, 18, 19, 20, 21, 11, 70, 71, 72, 73, 74, 75, 76, 77, 78, 79, 80, 81, 82, 83, 84, 85, 86, 87, 88, 89, 90, 91, 92, 93, 94, 95, 96, 97, 98, 99, 100, 101, 102, 103, 104, 105, 106, 107, 108, 109, 110, 111, 112, 113, 114, 115, 116, 117, 118, 7, 8, 9, 10, 13, 14, 15, 16, 17, 22, 23, 24, 25, 27, 28, 30, 31, 32, 33, 34, 35, 36, 37, 38, 40, 41, 42, 43, 44, 45, 119, 120, 121, 122, 123, 124, 125, 126, 127, 128, 129, 130, 131, 132, 133, 134, 135, 136, 137, 138, 139, 140, 141] (by decide +kernel) (by decide +kernel)
set_option maxRecDepth 20000 in
theorem gX10_parseLanes_X10_parseWord : GoodIn wsX10_parseLanes (wsV RX10 239 RX10 yX10_parseWord wsX10_parseWord) := goodIn_app (goodIn_of _ (by decide +kernel)) ggX10_parseLanes_X10_parseWord
theorem dX10_parseLanes_0 : decode cX10_parseLanes 0 = .ok (.aload_n 0, 1) := by decide +kernel
theorem dX10_parseLanes_1 : decode cX10_parseLanes 1 = .ok (.iconst 3, 1) := by decide +kernel
theorem dX10_parseLanes_2 : decode cX10_parseLanes 2 = .ok (.invokevirtual 231, 3) := by decide +kernel
theorem dX10_parseLanes_5 : decode cX10_parseLanes 5 = .ok (.aload_n 0, 1) := by decide +kernel
theorem dX10_parseLanes_6 : decode cX10_parseLanes 6 = .ok (.bipush 21, 2) := by decide +kernel
theorem dX10_parseLanes_8 : decode cX10_parseLanes 8 = .ok (.aload_n 0, 1) := by decide +kernel
theorem dX10_parseLanes_9 : decode cX10_parseLanes 9 = .ok (.iconst 1, 1) := by decide +kernel
theorem dX10_parseLanes_10 : decode cX10_parseLanes 10 = .ok (.bipush 30, 2) := by decide +kernel
theorem dX10_parseLanes_12 : decode cX10_parseLanes 12 = .ok (.invokevirtual 243, 3) := by decide +kernel
theorem dX10_parseLanes_15 : decode cX10_parseLanes 15 = .ok (.invokevirtual 246, 3) := by decide +kernel
theorem dX10_parseLanes_18 : decode cX10_parseLanes 18 = .ok (.aload_n 0, 1) := by decide +kernel
theorem dX10_parseLanes_19 : decode cX10_parseLanes 19 = .ok (.ldc 252, 2) := by decide +kernel
theorem dX10_parseLanes_21 : decode cX10_parseLanes 21 = .ok (.invokevirtual 239, 3) := by decide +kernel
theorem dX10_parseLanes_24 : decode cX10_parseLanes 24 = .ok (.aload_n 0, 1) := by decide +kernel
theorem dX10_parseLanes_25 : decode cX10_parseLanes 25 = .ok (.bipush 22, 2) := by decide +kernel
theorem dX10_parseLanes_27 : decode cX10_parseLanes 27 = .ok (.aload_n 0, 1) := by decide +kernel
theorem dX10_parseLanes_28 : decode cX10_parseLanes 28 = .ok (.iconst 1, 1) := by decide +kernel
theorem dX10_parseLanes_29 : decode cX10_parseLanes 29 = .ok (.sipush 9999, 3) := by decide +kernel
theorem dX10_parseLanes_32 : decode cX10_parseLanes 32 = .ok (.invokevirtual 243, 3) := by decide +kernel
theorem dX10_parseLanes_35 : decode cX10_parseLanes 35 = .ok (.invokevirtual 246, 3) := by decide +kernel
theorem dX10_parseLanes_38 : decode cX10_parseLanes 38 = .ok (.aload_n 0, 1) := by decide +kernel
theorem dX10_parseLanes_39 : decode cX10_parseLanes 39 = .ok (.ldc 254, 2) := by decide +kernel
theorem dX10_parseLanes_41 : decode cX10_parseLanes 41 = .ok (.invokevirtual 239, 3) := by decide +kernel
theorem dX10_parseLanes_44 : decode cX10_parseLanes 44 = .ok (.aload_n 0, 1) := by decide +kernel
theorem dX10_parseLanes_45 : decode cX10_parseLanes 45 = .ok (.bipush 23, 2) := by decide +kernel
theorem dX10_parseLanes_47 : decode cX10_parseLanes 47 = .ok (.aload_n 0, 1) := by decide +kernel
theorem dX10_parseLanes_48 : decode cX10_parseLanes 48 = .ok (.iconst 0, 1) := by decide +kernel
theorem dX10_parseLanes_49 : decode cX10_parseLanes 49 = .ok (.sipush 9999, 3) := by decide +kernel
theorem dX10_parseLanes_52 : decode cX10_parseLanes 52 = .ok (.invokevirtual 243, 3) := by decide +kernel
theorem dX10_parseLanes_55 : decode cX10_parseLanes 55 = .ok (.invokevirtual 246, 3) := by decide +kernel
theorem dX10_parseLanes_58 : decode cX10_parseLanes 58 = .ok (.return_, 1) := by decide +kernel
set_option maxRecDepth 20000 in
theorem ggX10_parseKind_X10_proceed : GoodIn wsX10_parseKind wsX10_proceed := goodIn_r _ [6, 7, 8, 9, 5, 10, 11, 12, 13, 14, 15, 16, 17, 18, 19, 20, 21, 22, 23, 24, 25, 26, 27, 28, 29, 30, 31, 32, 33, 34, 35, 36, 58, 59, 60, 61, 62, 63, 64, 65, 66, 67, 68, 69, 70, 71, 72, 73, 74, 75, 76, 77, 78, 79, 80] (by decide +kernel) (by decide +kernel)
set_option maxRecDepth 20000 in
theorem gX10_parseKind_X10_proceed : GoodIn wsX10_parseKind (wsV RX10 213 RX10 yX10_proceed wsX10_proceed) := goodIn_app (goodIn_of _ (by decide +kernel)) ggX10_parseKind_X10_proceed
set_option maxRecDepth 20000 in
theorem ggX10_parseKind_X10_look : GoodIn wsX10_parseKind wsX10_look := goodIn_r _ [40, 20, 18, 41, 42, 43, 5, 44, 11, 17, 45, 46, 47, 48, 7, 8, 9, 10, 58, 59, 60, 61, 62, 63, 64, 65, 66, 67, 68, 69, 70, 71, 72, 73, 74, 75, 76, 77, 78, 79, 80] (by decide +kernel) (by decide +kernel)
set_option maxRecDepth 20000 in
theorem gX10_parseKind_X10_look : GoodIn wsX10_parseKind (wsV RX10 216 RX10 yX10_look wsX10_look) := goodIn_app (goodIn_of _ (by decide +kernel)) ggX10_parseKind_X10_look
set_option maxRecDepth 20000 in
theorem ggX10_parseKind_X10_require : GoodIn wsX10_parseKind wsX10_require := goodIn_r _ [44, 11, 17, 45, 58, 59, 60, 61, 62, 63, 64, 65, 66, 67, 68, 69, 70, 71, 72, 73, 74, 75, 76, 77, 78, 79, 80] (by decide +kernel) (by decide +kernel)
set_option maxRecDepth 20000 in
theorem gX10_parseKind_X10_require : GoodIn wsX10_parseKind (wsV RX10 209 RX10 yX10_require wsX10_require) := goodIn_app (goodIn_of _ (by decide +kernel)) ggX10_parseKind_X10_require
set_option maxRecDepth 20000 in
theorem ggX10_parseKind_X10_parseNumber : GoodIn wsX10_parseKind wsX10_parseNumber := goodIn_r _ [52, 37, 38, 39, 5, 40, 20, 18, 41, 42, 43, 44, 11, 17, 45, 46, 47, 48, 7, 8, 9, 10, 2, 3, 4, 6, 12, 13, 14, 15, 16, 19, 21, 22, 23, 24, 25, 26, 27, 28, 29, 30, 31, 32, 33, 34, 35, 36, 58, 59, 60, 61, 62, 63, 64, 65, 66, 67, 68, 69, 70, 71, 72, 73, 74, 75, 76, 77, 78, 79, 80] (by decide +kernel) (by decide +kernel)
set_option maxRecDepth 20000 in
theorem gX10_parseKind_X10_parseNumber : GoodIn wsX10_parseKind (wsV RX10 243 RX10 yX10_parseNumber wsX10_parseNumber) := goodIn_app (goodIn_of _ (by decide +kernel)) ggX10_parseKind_X10_parseNumber
set_option maxRecDepth 20000 in
theorem ggX10_parseKind_X10_isFine : GoodIn wsX10_parseKind wsX10_isFine := goodIn_r _ [10, 11, 58, 59, 60, 61, 62, 63, 64, 65, 66, 67, 68, 69, 70, 71, 72, 73, 74, 75, 76, 77, 78, 79, 80] (by decide +kernel) (by decide +kernel)
set_option maxRecDepth 20000 in
theorem gX10_parseKind_X10_isFine : GoodIn wsX10_parseKind (wsV RX10 189 RX10 yX10_isFine wsX10_isFine) := goodIn_app (goodIn_of _ (by decide +kernel)) ggX10_parseKind_X10_isFine
set_option maxRecDepth 20000 in
theorem ggX10_parseKind_X10_layKind : GoodIn wsX10_parseKind wsX10_layKind := goodIn_r _ [56, 57, 58, 59, 60, 61, 62, 63, 64, 65, 66, 67, 68, 69, 70, 71, 72, 73, 74, 75, 76, 77, 78, 79, 80] (by decide +kernel) (by decide +kernel)
set_option maxRecDepth 20000 in
theorem gX10_parseKind_X10_layKind : GoodIn wsX10_parseKind (wsV RX10 51 RX10 yX10_layKind wsX10_layKind) := goodIn_app (goodIn_of _ (by decide +kernel)) ggX10_parseKind_X10_layKind
theorem dX10_parseKind_0 : decode cX10_parseKind 0 = .ok (.aload_n 0, 1) := by decide +kernel
theorem dX10_parseKind_1 : decode cX10_parseKind 1 = .ok (.invokevirtual 213, 3) := by decide +kernel
theorem dX10_parseKind_4 : decode cX10_parseKind 4 = .ok (.aload_n 0, 1) := by decide +kernel
theorem dX10_parseKind_5 : decode cX10_parseKind 5 = .ok (.iconst 0, 1) := by decide +kernel
theorem dX10_parseKind_6 : decode cX10_parseKind 6 = .ok (.iconst 3, 1) := by decide +kernel
theorem dX10_parseKind_7 : decode cX10_parseKind 7 = .ok (.invokevirtual 216, 3) := by decide +kernel
theorem dX10_parseKind_10 : decode cX10_parseKind 10 = .ok (.istore_n 1, 1) := by decide +kernel
theorem dX10_parseKind_11 : decode cX10_parseKind 11 = .ok (.aload_n 0, 1) := by decide +kernel
theorem dX10_parseKind_12 : decode cX10_parseKind 12 = .ok (.aload_n 0, 1) := by decide +kernel
theorem dX10_parseKind_13 : decode cX10_parseKind 13 = .ok (.getfield 228, 3) := by decide +kernel
theorem dX10_parseKind_16 : decode cX10_parseKind 16 = .ok (.iload_n 1, 1) := by decide +kernel
theorem dX10_parseKind_17 : decode cX10_parseKind 17 = .ok (.ishr, 1) := by decide +kernel
theorem dX10_parseKind_18 : decode cX10_parseKind 18 = .ok (.iconst 1, 1) := by decide +kernel
theorem dX10_parseKind_19 : decode cX10_parseKind 19 = .ok (.iand, 1) := by decide +kernel
theorem dX10_parseKind_20 : decode cX10_parseKind 20 = .ok (.ifCond .ne 7, 3) := by decide +kernel
theorem dX10_parseKind_23 : decode cX10_parseKind 23 = .ok (.iconst 1, 1) := by decide +kernel
theorem dX10_parseKind_24 : decode cX10_parseKind 24 = .ok (.goto 4, 3) := by decide +kernel
theorem dX10_parseKind_27 : decode cX10_parseKind 27 = .ok (.iconst 0, 1) := by decide +kernel
theorem dX10_parseKind_28 : decode cX10_parseKind 28 = .ok (.iconst 3, 1) := by decide +kernel
theorem dX10_parseKind_29 : decode cX10_parseKind 29 = .ok (.invokevirtual 209, 3) := by decide +kernel
theorem dX10_parseKind_32 : decode cX10_parseKind 32 = .ok (.aload_n 0, 1) := by decide +kernel
theorem dX10_parseKind_33 : decode cX10_parseKind 33 = .ok (.dup, 1) := by decide +kernel
theorem dX10_parseKind_34 : decode cX10_parseKind 34 = .ok (.getfield 228, 3) := by decide +kernel
theorem dX10_parseKind_37 : decode cX10_parseKind 37 = .ok (.iconst 1, 1) := by decide +kernel
theorem dX10_parseKind_38 : decode cX10_parseKind 38 = .ok (.iload_n 1, 1) := by decide +kernel
theorem dX10_parseKind_39 : decode cX10_parseKind 39 = .ok (.ishl, 1) := by decide +kernel
theorem dX10_parseKind_40 : decode cX10_parseKind 40 = .ok (.ior, 1) := by decide +kernel
theorem dX10_parseKind_41 : decode cX10_parseKind 41 = .ok (.putfield 228, 3) := by decide +kernel
theorem dX10_parseKind_44 : decode cX10_parseKind 44 = .ok (.aload_n 0, 1) := by decide +kernel
theorem dX10_parseKind_45 : decode cX10_parseKind 45 = .ok (.invokevirtual 213, 3) := by decide +kernel
theorem dX10_parseKind_48 : decode cX10_parseKind 48 = .ok (.aload_n 0, 1) := by decide +kernel
theorem dX10_parseKind_49 : decode cX10_parseKind 49 = .ok (.iconst 0, 1) := by decide +kernel
theorem dX10_parseKind_50 : decode cX10_parseKind 50 = .ok (.sipush 500, 3) := by decide +kernel
theorem dX10_parseKind_53 : decode cX10_parseKind 53 = .ok (.invokevirtual 243, 3) := by decide +kernel
theorem dX10_parseKind_56 : decode cX10_parseKind 56 = .ok (.istore_n 2, 1) := by decide +kernel
theorem dX10_parseKind_57 : decode cX10_parseKind 57 = .ok (.aload_n 0, 1) := by decide +kernel
theorem dX10_parseKind_58 : decode cX10_parseKind 58 = .ok (.iconst 0, 1) := by decide +kernel
theorem dX10_parseKind_59 : decode cX10_parseKind 59 = .ok (.bipush 99, 2) := by decide +kernel
theorem dX10_parseKind_61 : decode cX10_parseKind 61 = .ok (.invokevirtual 243, 3) := by decide +kernel
theorem dX10_parseKind_64 : decode cX10_parseKind 64 = .ok (.istore_n 3, 1) := by decide +kernel
theorem dX10_parseKind_65 : decode cX10_parseKind 65 = .ok (.aload_n 0, 1) := by decide +kernel
theorem dX10_parseKind_66 : decode cX10_parseKind 66 = .ok (.iconst 1, 1) := by decide +kernel
theorem dX10_parseKind_67 : decode cX10_parseKind 67 = .ok (.bipush 9, 2) := by decide +kernel
theorem dX10_parseKind_69 : decode cX10_parseKind 69 = .ok (.invokevirtual 243, 3) := by decide +kernel
theorem dX10_parseKind_72 : decode cX10_parseKind 72 = .ok (.istore 4, 2) := by decide +kernel
theorem dX10_parseKind_74 : decode cX10_parseKind 74 = .ok (.aload_n 0, 1) := by decide +kernel
theorem dX10_parseKind_75 : decode cX10_parseKind 75 = .ok (.invokevirtual 189, 3) := by decide +kernel
theorem dX10_parseKind_78 : decode cX10_parseKind 78 = .ok (.ifCond .eq 12, 3) := by decide +kernel
theorem dX10_parseKind_81 : decode cX10_parseKind 81 = .ok (.aload_n 0, 1) := by decide +kernel
theorem dX10_parseKind_82 : decode cX10_parseKind 82 = .ok (.iload_n 1, 1) := by decide +kernel
theorem dX10_parseKind_83 : decode cX10_parseKind 83 = .ok (.iload_n 2, 1) := by decide +kernel
theorem dX10_parseKind_84 : decode cX10_parseKind 84 = .ok (.iload_n 3, 1) := by decide +kernel
theorem dX10_parseKind_85 : decode cX10_parseKind 85 = .ok (.iload 4, 2) := by decide +kernel
theorem dX10_parseKind_87 : decode cX10_parseKind 87 = .ok (.invokevirtual 51, 3) := by decide +kernel
theorem dX10_parseKind_90 : decode cX10_parseKind 90 = .ok (.return_, 1) := by decide +kernel
set_option maxRecDepth 20000 in
theorem ggX10_parseWinch_X10_passOnce : GoodIn wsX10_parseWinch wsX10_passOnce := goodIn_r _ [5, 6, 7, 8, 9, 4, 10, 11, 12, 13, 14, 15, 16, 17, 18, 19, 20, 21, 22, 23, 24, 25, 26, 27, 28, 29, 30, 31, 32, 33, 34, 35, 36, 37, 38, 39, 40, 41, 42, 43, 44, 45, 62, 63, 64, 65, 66, 67, 68, 69, 70, 71, 72, 73, 74, 75, 76, 77, 78, 79, 80, 81, 82, 83, 84] (by decide +kernel) (by decide +kernel)
set_option maxRecDepth 20000 in
theorem gX10_parseWinch_X10_passOnce : GoodIn wsX10_parseWinch (wsV RX10 231 RX10 yX10_passOnce wsX10_passOnce) := goodIn_app (goodIn_of _ (by decide +kernel)) ggX10_parseWinch_X10_passOnce
set_option maxRecDepth 20000 in
theorem ggX10_parseWinch_X10_parseNumber : GoodIn wsX10_parseWinch wsX10_parseNumber := goodIn_r _ [49, 50, 51, 52, 4, 53, 29, 27, 7, 8, 9, 10, 11, 12, 13, 54, 55, 56, 18, 19, 20, 21, 14, 15, 16, 17, 22, 23, 24, 25, 26, 28, 30, 31, 32, 33, 34, 35, 36, 37, 38, 39, 40, 41, 42, 43, 44, 45, 62, 63, 64, 65, 66, 67, 68, 69, 70, 71, 72, 73, 74, 75, 76, 77, 78, 79, 80, 81, 82, 83, 84] (by decide +kernel) (by decide +kernel)
set_option maxRecDepth 20000 in
theorem gX10_parseWinch_X10_parseNumber : GoodIn wsX10_parseWinch (wsV RX10 243 RX10 yX10_parseNumber wsX10_parseNumber) := goodIn_app (goodIn_of _ (by decide +kernel)) ggX10_parseWinch_X10_parseNumber
set_option maxRecDepth 20000 in
theorem ggX10_parseWinch_X10_set : GoodIn wsX10_parseWinch wsX10_set := goodIn_r _ [60, 61, 18, 19, 20, 4, 21, 11, 62, 63, 64, 65, 66, 67, 68, 69, 70, 71, 72, 73, 74, 75, 76, 77, 78, 79, 80, 81, 82, 83, 84] (by decide +kernel) (by decide +kernel)
set_option maxRecDepth 20000 in
theorem gX10_parseWinch_X10_set : GoodIn wsX10_parseWinch (wsV RX10 246 RX10 yX10_set wsX10_set) := goodIn_app (goodIn_of _ (by decide +kernel)) ggX10_parseWinch_X10_set
theorem dX10_parseWinch_0 : decode cX10_parseWinch 0 = .ok (.aload_n 0, 1) := by decide +kernel
theorem dX10_parseWinch_1 : decode cX10_parseWinch 1 = .ok (.iconst 4, 1) := by decide +kernel
theorem dX10_parseWinch_2 : decode cX10_parseWinch 2 = .ok (.invokevirtual 231, 3) := by decide +kernel
theorem dX10_parseWinch_5 : decode cX10_parseWinch 5 = .ok (.aload_n 0, 1) := by decide +kernel
theorem dX10_parseWinch_6 : decode cX10_parseWinch 6 = .ok (.bipush 24, 2) := by decide +kernel
theorem dX10_parseWinch_8 : decode cX10_parseWinch 8 = .ok (.aload_n 0, 1) := by decide +kernel
theorem dX10_parseWinch_9 : decode cX10_parseWinch 9 = .ok (.iconst 1, 1) := by decide +kernel
theorem dX10_parseWinch_10 : decode cX10_parseWinch 10 = .ok (.bipush 20, 2) := by decide +kernel
theorem dX10_parseWinch_12 : decode cX10_parseWinch 12 = .ok (.invokevirtual 243, 3) := by decide +kernel
theorem dX10_parseWinch_15 : decode cX10_parseWinch 15 = .ok (.invokevirtual 246, 3) := by decide +kernel
theorem dX10_parseWinch_18 : decode cX10_parseWinch 18 = .ok (.aload_n 0, 1) := by decide +kernel
theorem dX10_parseWinch_19 : decode cX10_parseWinch 19 = .ok (.bipush 25, 2) := by decide +kernel
theorem dX10_parseWinch_21 : decode cX10_parseWinch 21 = .ok (.aload_n 0, 1) := by decide +kernel
theorem dX10_parseWinch_22 : decode cX10_parseWinch 22 = .ok (.iconst 0, 1) := by decide +kernel
theorem dX10_parseWinch_23 : decode cX10_parseWinch 23 = .ok (.bipush 50, 2) := by decide +kernel
theorem dX10_parseWinch_25 : decode cX10_parseWinch 25 = .ok (.invokevirtual 243, 3) := by decide +kernel
theorem dX10_parseWinch_28 : decode cX10_parseWinch 28 = .ok (.invokevirtual 246, 3) := by decide +kernel
theorem dX10_parseWinch_31 : decode cX10_parseWinch 31 = .ok (.aload_n 0, 1) := by decide +kernel
theorem dX10_parseWinch_32 : decode cX10_parseWinch 32 = .ok (.bipush 26, 2) := by decide +kernel
theorem dX10_parseWinch_34 : decode cX10_parseWinch 34 = .ok (.aload_n 0, 1) := by decide +kernel
theorem dX10_parseWinch_35 : decode cX10_parseWinch 35 = .ok (.iconst 0, 1) := by decide +kernel
theorem dX10_parseWinch_36 : decode cX10_parseWinch 36 = .ok (.bipush 20, 2) := by decide +kernel
theorem dX10_parseWinch_38 : decode cX10_parseWinch 38 = .ok (.invokevirtual 243, 3) := by decide +kernel
theorem dX10_parseWinch_41 : decode cX10_parseWinch 41 = .ok (.invokevirtual 246, 3) := by decide +kernel
theorem dX10_parseWinch_44 : decode cX10_parseWinch 44 = .ok (.return_, 1) := by decide +kernel
set_option maxRecDepth 20000 in
theorem ggX10_parseCross_X10_passOnce : GoodIn wsX10_parseCross wsX10_passOnce := goodIn_r _ [5, 6, 7, 8, 9, 4, 10, 11, 12, 13, 14, 15, 16, 17, 18, 19, 20, 21, 22, 23, 24, 25, 26, 27, 28, 29, 30, 31, 32, 33, 34, 35, 36, 37, 38, 39, 40, 41, 42, 43, 44, 45, 119, 120, 121, 122, 123, 124, 125, 126, 127, 128, 129, 130, 131, 132, 133, 134, 135, 136, 137, 138, 139, 140, 141] (by decide +kernel) (by decide +kernel)
set_option maxRecDepth 20000 in
theorem gX10_parseCross_X10_passOnce : GoodIn wsX10_parseCross (wsV RX10 231 RX10 yX10_passOnce wsX10_passOnce) := goodIn_app (goodIn_of _ (by decide +kernel)) ggX10_parseCross_X10_passOnce
set_option maxRecDepth 20000 in
theorem ggX10_parseCross_X10_parseNumber : GoodIn wsX10_parseCross wsX10_parseNumber := goodIn_r _ [49, 50, 51, 52, 4, 53, 29, 27, 7, 8, 9, 10, 11, 12, 13, 54, 55, 56, 18, 19, 20, 21, 14, 15, 16, 17, 22, 23, 24, 25, 26, 28, 30, 31, 32, 33, 34, 35, 36, 37, 38, 39, 40, 41, 42, 43, 44, 45, 119, 120, 121, 122, 123, 124, 125, 126, 127, 128, 129, 130, 131, 132, 133, 134, 135, 136, 137, 138, 139, 140, 141] (by decide +kernel) (by decide +kernel)
set_option maxRecDepth 20000 in
theorem gX10_parseCross_X10_parseNumber : GoodIn wsX10_parseCross (wsV RX10 243 RX10 yX10_parseNumber wsX10_parseNumber) := goodIn_app (goodIn_of _ (by decide +kernel)) ggX10_parseCross_X10_parseNumber
set_option maxRecDepth 20000 in
theorem ggX10_parseCross_X10_set : GoodIn wsX10_parseCross wsX10_set := goodIn_r _ [60, 61, 18, 19, 20, 4, 21, 11, 119, 120, 121, 122, 123, 124, 125, 126, 127, 128, 129, 130, 131, 132, 133, 134, 135, 136, 137, 138, 139, 140, 141] (by decide +kernel) (by decide +kernel)
set_option maxRecDepth 20000 in
theorem gX10_parseCross_X10_set : GoodIn wsX10_parseCross (wsV RX10 246 RX10 yX10_set wsX10_set) := goodIn_app (goodIn_of _ (by decide +kernel)) ggX10_parseCross_X10_set
set_option maxRecDepth 20000 in
theorem ggX10_parseCross_X10_parseWord : GoodIn wsX10_parseCross wsX10_parseWord := goodIn_r _ [65, 66, 67, 68, 4, 69, 29, 26, 12, 39, 18, 19, 20, 21, 11, 70, 71, 72, 73, 74, 75, 76, 77, 78, 79, 80, 81, 82, 83, 84, 85, 86, 87, 88, 89, 90, 91, 92, 93, 94, 95, 96, 97, 98, 99, 100, 101, 102, 103, 104, 105, 106, 107, 108, 109, 110, 111, 112, 113, 114, 115, 116, 117, 118, 7, 8, 9, 10, 13, 14, 15, 16, 17, 22, 23, 24, 25, 27, 28, 30, 31, 32, 33, 34, 35, 36, 37, 38, 40, 41, 42, 43, 44, 45, 119, 120, 121, 122, 123, 124, 125, 126, 127, 128, 129, 130, 131, 132, 133, 134, 135, 136, 137, 138, 139, 140, 141] (by decide +kernel) (by decide +kernel)
set_option maxRecDepth 20000 in
theorem gX10_parseCross_X10_parseWord : GoodIn wsX10_parseCross (wsV RX10 239 RX10 yX10_parseWord wsX10_parseWord) := goodIn_app (goodIn_of _ (by decide +kernel)) ggX10_parseCross_X10_parseWord
theorem dX10_parseCross_0 : decode cX10_parseCross 0 = .ok (.aload_n 0, 1) := by decide +kernel
theorem dX10_parseCross_1 : decode cX10_parseCross 1 = .ok (.iconst 5, 1) := by decide +kernel
theorem dX10_parseCross_2 : decode cX10_parseCross 2 = .ok (.invokevirtual 231, 3) := by decide +kernel
theorem dX10_parseCross_5 : decode cX10_parseCross 5 = .ok (.aload_n 0, 1) := by decide +kernel
theorem dX10_parseCross_6 : decode cX10_parseCross 6 = .ok (.bipush 27, 2) := by decide +kernel
theorem dX10_parseCross_8 : decode cX10_parseCross 8 = .ok (.aload_n 0, 1) := by decide +kernel
theorem dX10_parseCross_9 : decode cX10_parseCross 9 = .ok (.iconst 1, 1) := by decide +kernel
theorem dX10_parseCross_10 : decode cX10_parseCross 10 = .ok (.bipush 20, 2) := by decide +kernel
theorem dX10_parseCross_12 : decode cX10_parseCross 12 = .ok (.invokevirtual 243, 3) := by decide +kernel
theorem dX10_parseCross_15 : decode cX10_parseCross 15 = .ok (.invokevirtual 246, 3) := by decide +kernel
theorem dX10_parseCross_18 : decode cX10_parseCross 18 = .ok (.aload_n 0, 1) := by decide +kernel
theorem dX10_parseCross_19 : decode cX10_parseCross 19 = .ok (.ldc_w 256, 3) := by decide +kernel
theorem dX10_parseCross_22 : decode cX10_parseCross 22 = .ok (.invokevirtual 239, 3) := by decide +kernel
theorem dX10_parseCross_25 : decode cX10_parseCross 25 = .ok (.aload_n 0, 1) := by decide +kernel
theorem dX10_parseCross_26 : decode cX10_parseCross 26 = .ok (.bipush 28, 2) := by decide +kernel
theorem dX10_parseCross_28 : decode cX10_parseCross 28 = .ok (.aload_n 0, 1) := by decide +kernel
theorem dX10_parseCross_29 : decode cX10_parseCross 29 = .ok (.iconst 1, 1) := by decide +kernel
theorem dX10_parseCross_30 : decode cX10_parseCross 30 = .ok (.bipush 50, 2) := by decide +kernel
theorem dX10_parseCross_32 : decode cX10_parseCross 32 = .ok (.invokevirtual 243, 3) := by decide +kernel
theorem dX10_parseCross_35 : decode cX10_parseCross 35 = .ok (.invokevirtual 246, 3) := by decide +kernel
theorem dX10_parseCross_38 : decode cX10_parseCross 38 = .ok (.return_, 1) := by decide +kernel
set_option maxRecDepth 20000 in
theorem ggX10_parseCar_X10_require : GoodIn wsX10_parseCar wsX10_require := goodIn_r _ [6, 7, 8, 9, 61, 62, 63, 64, 65, 66, 67, 68, 69, 70, 71, 72, 73, 74, 75, 76, 77, 78, 79, 80, 81, 82, 83] (by decide +kernel) (by decide +kernel)
set_option maxRecDepth 20000 in
theorem gX10_parseCar_X10_require : GoodIn wsX10_parseCar (wsV RX10 209 RX10 yX10_require wsX10_require) := goodIn_app (goodIn_of _ (by decide +kernel)) ggX10_parseCar_X10_require
set_option maxRecDepth 20000 in
theorem ggX10_parseCar_X10_proceed : GoodIn wsX10_parseCar wsX10_proceed := goodIn_r _ [13, 14, 15, 16, 5, 17, 7, 18, 19, 20, 21, 22, 8, 23, 24, 25, 26, 27, 28, 29, 30, 31, 32, 33, 34, 35, 36, 37, 38, 39, 40, 41, 61, 62, 63, 64, 65, 66, 67, 68, 69, 70, 71, 72, 73, 74, 75, 76, 77, 78, 79, 80, 81, 82, 83] (by decide +kernel) (by decide +kernel)
set_option maxRecDepth 20000 in
theorem gX10_parseCar_X10_proceed : GoodIn wsX10_parseCar (wsV RX10 213 RX10 yX10_proceed wsX10_proceed) := goodIn_app (goodIn_of _ (by decide +kernel)) ggX10_parseCar_X10_proceed
set_option maxRecDepth 20000 in
theorem ggX10_parseCar_X10_parseNumber : GoodIn wsX10_parseCar wsX10_parseNumber := goodIn_r _ [45, 46, 47, 48, 5, 49, 25, 23, 2, 3, 4, 6, 7, 8, 9, 50, 51, 52, 14, 15, 16, 17, 10, 11, 12, 13, 18, 19, 20, 21, 22, 24, 26, 27, 28, 29, 30, 31, 32, 33, 34, 35, 36, 37, 38, 39, 40, 41, 61, 62, 63, 64, 65, 66, 67, 68, 69, 70, 71, 72, 73, 74, 75, 76, 77, 78, 79, 80, 81, 82, 83] (by decide +kernel) (by decide +kernel)
set_option maxRecDepth 20000 in
theorem gX10_parseCar_X10_parseNumber : GoodIn wsX10_parseCar (wsV RX10 243 RX10 yX10_parseNumber wsX10_parseNumber) := goodIn_app (goodIn_of _ (by decide +kernel)) ggX10_parseCar_X10_parseNumber
set_option maxRecDepth 20000 in
theorem ggX10_parseCar_X10_isFine : GoodIn wsX10_parseCar wsX10_isFine := goodIn_r _ [17, 7, 61, 62, 63, 64, 65, 66, 67, 68, 69, 70, 71, 72, 73, 74, 75, 76, 77, 78, 79, 80, 81, 82, 83] (by decide +kernel) (by decide +kernel)
set_option maxRecDepth 20000 in
theorem gX10_parseCar_X10_isFine : GoodIn wsX10_parseCar (wsV RX10 189 RX10 yX10_isFine wsX10_isFine) := goodIn_app (goodIn_of _ (by decide +kernel)) ggX10_parseCar_X10_isFine
set_option maxRecDepth 20000 in
theorem ggX10_parseCar_X10_addCar : GoodIn wsX10_parseCar wsX10_addCar := goodIn_r _ [56, 1, 57, 58, 59, 5, 60, 61, 62, 63, 64, 65, 66, 67, 68, 69, 70, 71, 72, 73, 74, 75, 76, 77, 78, 79, 80, 81, 82, 83] (by decide +kernel) (by decide +kernel)
set_option maxRecDepth 20000 in
theorem gX10_parseCar_X10_addCar : GoodIn wsX10_parseCar (wsV RX10 258 RX10 yX10_addCar wsX10_addCar) := goodIn_app (goodIn_of _ (by decide +kernel)) ggX10_parseCar_X10_addCar
theorem dX10_parseCar_0 : decode cX10_parseCar 0 = .ok (.aload_n 0, 1) := by decide +kernel
theorem dX10_parseCar_1 : decode cX10_parseCar 1 = .ok (.aload_n 0, 1) := by decide +kernel
theorem dX10_parseCar_2 : decode cX10_parseCar 2 = .ok (.getfield 7, 3) := by decide +kernel
theorem dX10_parseCar_5 : decode cX10_parseCar 5 = .ok (.bipush 14, 2) := by decide +kernel
theorem dX10_parseCar_7 : decode cX10_parseCar 7 = .ok (.iaload, 1) := by decide +kernel
theorem dX10_parseCar_8 : decode cX10_parseCar 8 = .ok (.bipush 20, 2) := by decide +kernel
theorem dX10_parseCar_10 : decode cX10_parseCar 10 = .ok (.if_icmp .ge 7, 3) := by decide +kernel
theorem dX10_parseCar_13 : decode cX10_parseCar 13 = .ok (.iconst 1, 1) := by decide +kernel
theorem dX10_parseCar_14 : decode cX10_parseCar 14 = .ok (.goto 4, 3) := by decide +kernel
theorem dX10_parseCar_17 : decode cX10_parseCar 17 = .ok (.iconst 0, 1) := by decide +kernel
theorem dX10_parseCar_18 : decode cX10_parseCar 18 = .ok (.iconst 4, 1) := by decide +kernel
theorem dX10_parseCar_19 : decode cX10_parseCar 19 = .ok (.invokevirtual 209, 3) := by decide +kernel
theorem dX10_parseCar_22 : decode cX10_parseCar 22 = .ok (.aload_n 0, 1) := by decide +kernel
theorem dX10_parseCar_23 : decode cX10_parseCar 23 = .ok (.invokevirtual 213, 3) := by decide +kernel
theorem dX10_parseCar_26 : decode cX10_parseCar 26 = .ok (.aload_n 0, 1) := by decide +kernel
theorem dX10_parseCar_27 : decode cX10_parseCar 27 = .ok (.iconst 0, 1) := by decide +kernel
theorem dX10_parseCar_28 : decode cX10_parseCar 28 = .ok (.iconst 3, 1) := by decide +kernel
theorem dX10_parseCar_29 : decode cX10_parseCar 29 = .ok (.invokevirtual 243, 3) := by decide +kernel
theorem dX10_parseCar_32 : decode cX10_parseCar 32 = .ok (.istore_n 1, 1) := by decide +kernel
theorem dX10_parseCar_33 : decode cX10_parseCar 33 = .ok (.aload_n 0, 1) := by decide +kernel
theorem dX10_parseCar_34 : decode cX10_parseCar 34 = .ok (.iconst 1, 1) := by decide +kernel
theorem dX10_parseCar_35 : decode cX10_parseCar 35 = .ok (.sipush 999, 3) := by decide +kernel
theorem dX10_parseCar_38 : decode cX10_parseCar 38 = .ok (.invokevirtual 243, 3) := by decide +kernel
theorem dX10_parseCar_41 : decode cX10_parseCar 41 = .ok (.istore_n 2, 1) := by decide +kernel
theorem dX10_parseCar_42 : decode cX10_parseCar 42 = .ok (.aload_n 0, 1) := by decide +kernel
theorem dX10_parseCar_43 : decode cX10_parseCar 43 = .ok (.invokevirtual 189, 3) := by decide +kernel
theorem dX10_parseCar_46 : decode cX10_parseCar 46 = .ok (.ifCond .eq 10, 3) := by decide +kernel
theorem dX10_parseCar_49 : decode cX10_parseCar 49 = .ok (.aload_n 0, 1) := by decide +kernel
theorem dX10_parseCar_50 : decode cX10_parseCar 50 = .ok (.iload_n 1, 1) := by decide +kernel
theorem dX10_parseCar_51 : decode cX10_parseCar 51 = .ok (.iload_n 2, 1) := by decide +kernel
theorem dX10_parseCar_52 : decode cX10_parseCar 52 = .ok (.invokevirtual 258, 3) := by decide +kernel
theorem dX10_parseCar_55 : decode cX10_parseCar 55 = .ok (.istore_n 3, 1) := by decide +kernel
theorem dX10_parseCar_56 : decode cX10_parseCar 56 = .ok (.return_, 1) := by decide +kernel
set_option maxRecDepth 20000 in
theorem ggX10_parseStatement_X10_isWord : GoodIn wsX10_parseStatement wsX10_isWord := goodIn_r _ [5, 6, 7, 8, 9, 10, 11, 12, 4, 13, 14, 15, 16, 17, 18, 19, 20, 21, 22, 23, 24, 25, 26, 27, 28, 29, 30, 31, 32, 33, 34, 35, 36, 37, 38, 39, 40, 41, 42, 43, 44, 45, 46, 47, 48, 49, 50, 51, 52, 53, 54, 55, 56, 57, 58, 59, 60, 61, 62, 63, 176, 177, 178, 179, 180, 181, 182, 183, 184, 185, 186, 187, 188, 189, 190, 191, 192, 193, 194, 195, 196, 197, 198] (by decide +kernel) (by decide +kernel)
set_option maxRecDepth 20000 in
theorem gX10_parseStatement_X10_isWord : GoodIn wsX10_parseStatement (wsV RX10 205 RX10 yX10_isWord wsX10_isWord) := goodIn_app (goodIn_of _ (by decide +kernel)) ggX10_parseStatement_X10_isWord
set_option maxRecDepth 20000 in
theorem ggX10_parseStatement_X10_parseTide : GoodIn wsX10_parseStatement wsX10_parseTide := goodIn_r _ [67, 68, 69, 70, 4, 71, 72, 73, 74, 75, 76, 14, 8, 77, 78, 79, 80, 81, 10, 11, 12, 13, 82, 83, 84, 85, 7, 86, 87, 6, 88, 89, 90, 91, 92, 93, 94, 95, 96, 9, 97, 98, 99, 100, 101, 102, 103, 104, 105, 106, 107, 108, 109, 110, 111, 112, 113, 114, 115, 116, 117, 118, 119, 120, 121, 1, 2, 3, 5, 15, 16, 17, 18, 19, 20, 21, 22, 23, 24, 25, 26, 27, 28, 29, 30, 31, 32, 33, 34, 35, 36, 37, 38, 39, 40, 41, 42, 43, 44, 45, 46, 47, 48, 49, 50, 51, 52, 53, 54, 55, 56, 57, 58, 59, 60, 61, 62, 63, 122, 123, 124, 125, 126, 127, 128, 129, 130, 176, 177, 178, 179, 180, 181, 182, 183, 184, 185, 186, 187, 188, 189, 190, 191, 192, 193, 194, 195, 196, 197, 198] (by decide +kernel) (by decide +kernel)
set_option maxRecDepth 20000 in
theorem gX10_parseStatement_X10_parseTide : GoodIn wsX10_parseStatement (wsV RX10 263 RX10 yX10_parseTide wsX10_parseTide) := goodIn_app (goodIn_of _ (by decide +kernel)) ggX10_parseStatement_X10_parseTide
set_option maxRecDepth 20000 in
theorem ggX10_parseStatement_X10_parseQuay : GoodIn wsX10_parseStatement wsX10_parseQuay := goodIn_r _ [134, 68, 69, 70, 4, 71, 72, 73, 74, 75, 76, 14, 8, 77, 78, 79, 80, 81, 10, 11, 12, 13, 82, 83, 84, 85, 7, 86, 87, 6, 88, 89, 90, 91, 92, 93, 94, 95, 96, 9, 97, 98, 99, 100, 101, 102, 103, 104, 105, 106, 107, 108, 109, 110, 111, 112, 113, 114, 115, 116, 117, 126, 127, 128, 129, 130, 176, 177, 178, 179, 180, 181, 182, 183, 184, 185, 186, 187, 188, 189, 190, 191, 192, 193, 194, 195, 196, 197, 198] (by decide +kernel) (by decide +kernel)
set_option maxRecDepth 20000 in
theorem gX10_parseStatement_X10_parseQuay : GoodIn wsX10_parseStatement (wsV RX10 268 RX10 yX10_parseQuay wsX10_parseQuay) := goodIn_app (goodIn_of _ (by decide +kernel)) ggX10_parseStatement_X10_parseQuay
set_option maxRecDepth 20000 in
theorem ggX10_parseStatement_X10_parseDeck : GoodIn wsX10_parseStatement wsX10_parseDeck := goodIn_r _ [138, 68, 69, 70, 4, 71, 72, 73, 74, 75, 76, 14, 8, 77, 78, 79, 80, 81, 10, 11, 12, 13, 82, 83, 84, 85, 7, 86, 87, 6, 88, 89, 90, 91, 92, 93, 94, 95, 96, 9, 97, 98, 99, 100, 101, 102, 122, 123, 124, 125, 111, 112, 113, 114, 115, 116, 117, 126, 127, 128, 129, 130, 118, 119, 120, 121, 1, 2, 3, 5, 15, 16, 17, 18, 19, 20, 21, 22, 23, 24, 25, 26, 27, 28, 29, 30, 31, 32, 33, 34, 35, 36, 37, 38, 39, 40, 41, 42, 43, 44, 45, 46, 47, 48, 49, 50, 51, 52, 53, 54, 55, 56, 57, 58, 59, 60, 61, 62, 63, 176, 177, 178, 179, 180, 181, 182, 183, 184, 185, 186, 187, 188, 189, 190, 191, 192, 193, 194, 195, 196, 197, 198] (by decide +kernel) (by decide +kernel)
set_option maxRecDepth 20000 in
theorem gX10_parseStatement_X10_parseDeck : GoodIn wsX10_parseStatement (wsV RX10 273 RX10 yX10_parseDeck wsX10_parseDeck) := goodIn_app (goodIn_of _ (by decide +kernel)) ggX10_parseStatement_X10_parseDeck
set_option maxRecDepth 20000 in
theorem ggX10_parseStatement_X10_parseLanes : GoodIn wsX10_parseStatement wsX10_parseLanes := goodIn_r _ [142, 68, 69, 70, 4, 71, 72, 73, 74, 75, 76, 14, 8, 77, 78, 79, 80, 81, 10, 11, 12, 13, 82, 83, 84, 85, 7, 86, 87, 6, 88, 89, 90, 91, 92, 93, 94, 95, 96, 9, 97, 98, 99, 100, 101, 102, 122, 123, 124, 125, 111, 112, 113, 114, 115, 116, 117, 126, 127, 128, 129, 130, 118, 119, 120, 121, 1, 2, 3, 5, 15, 16, 17, 18, 19, 20, 21, 22, 23, 24, 25, 26, 27, 28, 29, 30, 31, 32, 33, 34, 35, 36, 37, 38, 39, 40, 41, 42, 43, 44, 45, 46, 47, 48, 49, 50, 51, 52, 53, 54, 55, 56, 57, 58, 59, 60, 61, 62, 63, 176, 177, 178, 179, 180, 181, 182, 183, 184, 185, 186, 187, 188, 189, 190, 191, 192, 193, 194, 195, 196, 197, 198] (by decide +kernel) (by decide +kernel)
set_option maxRecDepth 20000 in
theorem gX10_parseStatement_X10_parseLanes : GoodIn wsX10_parseStatement (wsV RX10 278 RX10 yX10_parseLanes wsX10_parseLanes) := goodIn_app (goodIn_of _ (by decide +kernel)) ggX10_parseStatement_X10_parseLanes
set_option maxRecDepth 20000 in
theorem ggX10_parseStatement_X10_parseKind : GoodIn wsX10_parseStatement wsX10_parseKind := goodIn_r _ [146, 147, 78, 79, 80, 4, 81, 10, 11, 12, 13, 14, 82, 83, 84, 85, 7, 8, 86, 87, 6, 88, 89, 90, 91, 92, 93, 94, 95, 96, 9, 97, 98, 99, 100, 101, 102, 111, 112, 113, 114, 73, 74, 75, 76, 77, 115, 116, 117, 122, 123, 124, 125, 148, 149, 150, 151, 130, 176, 177, 178, 179, 180, 181, 182, 183, 184, 185, 186, 187, 188, 189, 190, 191, 192, 193, 194, 195, 196, 197, 198] (by decide +kernel) (by decide +kernel)
set_option maxRecDepth 20000 in
theorem gX10_parseStatement_X10_parseKind : GoodIn wsX10_parseStatement (wsV RX10 283 RX10 yX10_parseKind wsX10_parseKind) := goodIn_app (goodIn_of _ (by decide +kernel)) ggX10_parseStatement_X10_parseKind
set_option maxRecDepth 20000 in
theorem ggX10_parseStatement_X10_parseWinch : GoodIn wsX10_parseStatement wsX10_parseWinch := goodIn_r _ [155, 68, 69, 70, 4, 71, 72, 73, 74, 75, 76, 14, 8, 77, 78, 79, 80, 81, 10, 11, 12, 13, 82, 83, 84, 85, 7, 86, 87, 6, 88, 89, 90, 91, 92, 93, 94, 95, 96, 9, 97, 98, 99, 100, 101, 102, 122, 123, 124, 125, 111, 112, 113, 114, 115, 116, 117, 126, 127, 128, 129, 130, 176, 177, 178, 179, 180, 181, 182, 183, 184, 185, 186, 187, 188, 189, 190, 191, 192, 193, 194, 195, 196, 197, 198] (by decide +kernel) (by decide +kernel)
set_option maxRecDepth 20000 in
theorem gX10_parseStatement_X10_parseWinch : GoodIn wsX10_parseStatement (wsV RX10 287 RX10 yX10_parseWinch wsX10_parseWinch) := goodIn_app (goodIn_of _ (by decide +kernel)) ggX10_parseStatement_X10_parseWinch
set_option maxRecDepth 20000 in
theorem ggX10_parseStatement_X10_parseCross : GoodIn wsX10_parseStatement wsX10_parseCross := goodIn_r _ [159, 68, 69, 70, 4, 71, 72, 73, 74, 75, 76, 14, 8, 77, 78, 79, 80, 81, 10, 11, 12, 13, 82, 83, 84, 85, 7, 86, 87, 6, 88, 89, 90, 91, 92, 93, 94, 95, 96, 9, 97, 98, 99, 100, 101, 102, 122, 123, 124, 125, 111, 112, 113, 114, 115, 116, 117, 126, 127, 128, 129, 130, 118, 119, 120, 121, 1, 2, 3, 5, 15, 16, 17, 18, 19, 20, 21, 22, 23, 24, 25, 26, 27, 28, 29, 30, 31, 32, 33, 34, 35, 36, 37, 38, 39, 40, 41, 42, 43, 44, 45, 46, 47, 48, 49, 50, 51, 52, 53, 54, 55, 56, 57, 58, 59, 60, 61, 62, 63, 176, 177, 178, 179, 180, 181, 182, 183, 184, 185, 186, 187, 188, 189, 190, 191, 192, 193, 194, 195, 196, 197, 198] (by decide +kernel) (by decide +kernel)
set_option maxRecDepth 20000 in
theorem gX10_parseStatement_X10_parseCross : GoodIn wsX10_parseStatement (wsV RX10 292 RX10 yX10_parseCross wsX10_parseCross) := goodIn_app (goodIn_of _ (by decide +kernel)) ggX10_parseStatement_X10_parseCross
set_option maxRecDepth 20000 in
theorem ggX10_parseStatement_X10_require : GoodIn wsX10_parseStatement wsX10_require := goodIn_r _ [76, 14, 8, 77, 176, 177, 178, 179, 180, 181, 182, 183, 184, 185, 186, 187, 188, 189, 190, 191, 192, 193, 194, 195, 196, 197, 198] (by decide +kernel) (by decide +kernel)
set_option maxRecDepth 20000 in
theorem gX10_parseStatement_X10_require : GoodIn wsX10_parseStatement (wsV RX10 209 RX10 yX10_require wsX10_require) := goodIn_app (goodIn_of _ (by decide +kernel)) ggX10_parseStatement_X10_require
set_option maxRecDepth 20000 in
theorem ggX10_parseStatement_X10_parseCar : GoodIn wsX10_parseStatement wsX10_parseCar := goodIn_r _ [163, 130, 73, 74, 75, 4, 76, 14, 8, 77, 78, 79, 80, 81, 10, 11, 12, 13, 82, 83, 84, 85, 7, 86, 87, 6, 88, 89, 90, 91, 92, 93, 94, 95, 96, 9, 97, 98, 99, 100, 101, 102, 122, 123, 124, 125, 111, 112, 113, 114, 115, 116, 117, 164, 165, 166, 167, 168, 169, 170, 171, 176, 177, 178, 179, 180, 181, 182, 183, 184, 185, 186, 187, 188, 189, 190, 191, 192, 193, 194, 195, 196, 197, 198] (by decide +kernel) (by decide +kernel)
set_option maxRecDepth 20000 in
theorem gX10_parseStatement_X10_parseCar : GoodIn wsX10_parseStatement (wsV RX10 297 RX10 yX10_parseCar wsX10_parseCar) := goodIn_app (goodIn_of _ (by decide +kernel)) ggX10_parseStatement_X10_parseCar
set_option maxRecDepth 20000 in
theorem ggX10_parseStatement_X10_parseEnd : GoodIn wsX10_parseStatement wsX10_parseEnd := goodIn_r _ [175, 6, 73, 74, 75, 4, 76, 14, 8, 77, 78, 79, 80, 81, 10, 11, 12, 13, 82, 83, 84, 85, 7, 86, 87, 88, 89, 90, 91, 92, 93, 94, 95, 96, 9, 97, 98, 99, 100, 101, 102, 176, 177, 178, 179, 180, 181, 182, 183, 184, 185, 186, 187, 188, 189, 190, 191, 192, 193, 194, 195, 196, 197, 198] (by decide +kernel) (by decide +kernel)
set_option maxRecDepth 20000 in
theorem gX10_parseStatement_X10_parseEnd : GoodIn wsX10_parseStatement (wsV RX10 300 RX10 yX10_parseEnd wsX10_parseEnd) := goodIn_app (goodIn_of _ (by decide +kernel)) ggX10_parseStatement_X10_parseEnd
theorem dX10_parseStatement_0 : decode cX10_parseStatement 0 = .ok (.aload_n 0, 1) := by decide +kernel
theorem dX10_parseStatement_1 : decode cX10_parseStatement 1 = .ok (.ldc_w 261, 3) := by decide +kernel
theorem dX10_parseStatement_4 : decode cX10_parseStatement 4 = .ok (.invokevirtual 205, 3) := by decide +kernel
theorem dX10_parseStatement_7 : decode cX10_parseStatement 7 = .ok (.ifCond .eq 10, 3) := by decide +kernel
theorem dX10_parseStatement_10 : decode cX10_parseStatement 10 = .ok (.aload_n 0, 1) := by decide +kernel
theorem dX10_parseStatement_11 : decode cX10_parseStatement 11 = .ok (.invokevirtual 263, 3) := by decide +kernel
theorem dX10_parseStatement_14 : decode cX10_parseStatement 14 = .ok (.goto 121, 3) := by decide +kernel
theorem dX10_parseStatement_17 : decode cX10_parseStatement 17 = .ok (.aload_n 0, 1) := by decide +kernel
theorem dX10_parseStatement_18 : decode cX10_parseStatement 18 = .ok (.ldc_w 266, 3) := by decide +kernel
theorem dX10_parseStatement_21 : decode cX10_parseStatement 21 = .ok (.invokevirtual 205, 3) := by decide +kernel
theorem dX10_parseStatement_24 : decode cX10_parseStatement 24 = .ok (.ifCond .eq 10, 3) := by decide +kernel
theorem dX10_parseStatement_27 : decode cX10_parseStatement 27 = .ok (.aload_n 0, 1) := by decide +kernel
theorem dX10_parseStatement_28 : decode cX10_parseStatement 28 = .ok (.invokevirtual 268, 3) := by decide +kernel
theorem dX10_parseStatement_31 : decode cX10_parseStatement 31 = .ok (.goto 104, 3) := by decide +kernel
theorem dX10_parseStatement_34 : decode cX10_parseStatement 34 = .ok (.aload_n 0, 1) := by decide +kernel
theorem dX10_parseStatement_35 : decode cX10_parseStatement 35 = .ok (.ldc_w 271, 3) := by decide +kernel
theorem dX10_parseStatement_38 : decode cX10_parseStatement 38 = .ok (.invokevirtual 205, 3) := by decide +kernel
theorem dX10_parseStatement_41 : decode cX10_parseStatement 41 = .ok (.ifCond .eq 10, 3) := by decide +kernel
theorem dX10_parseStatement_44 : decode cX10_parseStatement 44 = .ok (.aload_n 0, 1) := by decide +kernel
theorem dX10_parseStatement_45 : decode cX10_parseStatement 45 = .ok (.invokevirtual 273, 3) := by decide +kernel
theorem dX10_parseStatement_48 : decode cX10_parseStatement 48 = .ok (.goto 87, 3) := by decide +kernel
theorem dX10_parseStatement_51 : decode cX10_parseStatement 51 = .ok (.aload_n 0, 1) := by decide +kernel
theorem dX10_parseStatement_52 : decode cX10_parseStatement 52 = .ok (.ldc_w 276, 3) := by decide +kernel
theorem dX10_parseStatement_55 : decode cX10_parseStatement 55 = .ok (.invokevirtual 205, 3) := by decide +kernel
theorem dX10_parseStatement_58 : decode cX10_parseStatement 58 = .ok (.ifCond .eq 10, 3) := by decide +kernel
theorem dX10_parseStatement_61 : decode cX10_parseStatement 61 = .ok (.aload_n 0, 1) := by decide +kernel
theorem dX10_parseStatement_62 : decode cX10_parseStatement 62 = .ok (.invokevirtual 278, 3) := by decide +kernel
theorem dX10_parseStatement_65 : decode cX10_parseStatement 65 = .ok (.goto 70, 3) := by decide +kernel
theorem dX10_parseStatement_68 : decode cX10_parseStatement 68 = .ok (.aload_n 0, 1) := by decide +kernel
theorem dX10_parseStatement_69 : decode cX10_parseStatement 69 = .ok (.ldc_w 281, 3) := by decide +kernel
theorem dX10_parseStatement_72 : decode cX10_parseStatement 72 = .ok (.invokevirtual 205, 3) := by decide +kernel
theorem dX10_parseStatement_75 : decode cX10_parseStatement 75 = .ok (.ifCond .eq 10, 3) := by decide +kernel
theorem dX10_parseStatement_78 : decode cX10_parseStatement 78 = .ok (.aload_n 0, 1) := by decide +kernel
theorem dX10_parseStatement_79 : decode cX10_parseStatement 79 = .ok (.invokevirtual 283, 3) := by decide +kernel
theorem dX10_parseStatement_82 : decode cX10_parseStatement 82 = .ok (.goto 53, 3) := by decide +kernel
theorem dX10_parseStatement_85 : decode cX10_parseStatement 85 = .ok (.aload_n 0, 1) := by decide +kernel
theorem dX10_parseStatement_86 : decode cX10_parseStatement 86 = .ok (.ldc_w 286, 3) := by decide +kernel
theorem dX10_parseStatement_89 : decode cX10_parseStatement 89 = .ok (.invokevirtual 205, 3) := by decide +kernel
theorem dX10_parseStatement_92 : decode cX10_parseStatement 92 = .ok (.ifCond .eq 10, 3) := by decide +kernel
theorem dX10_parseStatement_95 : decode cX10_parseStatement 95 = .ok (.aload_n 0, 1) := by decide +kernel
theorem dX10_parseStatement_96 : decode cX10_parseStatement 96 = .ok (.invokevirtual 287, 3) := by decide +kernel
theorem dX10_parseStatement_99 : decode cX10_parseStatement 99 = .ok (.goto 36, 3) := by decide +kernel
theorem dX10_parseStatement_102 : decode cX10_parseStatement 102 = .ok (.aload_n 0, 1) := by decide +kernel
theorem dX10_parseStatement_103 : decode cX10_parseStatement 103 = .ok (.ldc_w 290, 3) := by decide +kernel
theorem dX10_parseStatement_106 : decode cX10_parseStatement 106 = .ok (.invokevirtual 205, 3) := by decide +kernel
theorem dX10_parseStatement_109 : decode cX10_parseStatement 109 = .ok (.ifCond .eq 10, 3) := by decide +kernel
theorem dX10_parseStatement_112 : decode cX10_parseStatement 112 = .ok (.aload_n 0, 1) := by decide +kernel
theorem dX10_parseStatement_113 : decode cX10_parseStatement 113 = .ok (.invokevirtual 292, 3) := by decide +kernel
theorem dX10_parseStatement_116 : decode cX10_parseStatement 116 = .ok (.goto 19, 3) := by decide +kernel
theorem dX10_parseStatement_119 : decode cX10_parseStatement 119 = .ok (.aload_n 0, 1) := by decide +kernel
theorem dX10_parseStatement_120 : decode cX10_parseStatement 120 = .ok (.aload_n 0, 1) := by decide +kernel
theorem dX10_parseStatement_121 : decode cX10_parseStatement 121 = .ok (.ldc_w 295, 3) := by decide +kernel
theorem dX10_parseStatement_124 : decode cX10_parseStatement 124 = .ok (.invokevirtual 205, 3) := by decide +kernel
theorem dX10_parseStatement_127 : decode cX10_parseStatement 127 = .ok (.iconst 1, 1) := by decide +kernel
theorem dX10_parseStatement_128 : decode cX10_parseStatement 128 = .ok (.invokevirtual 209, 3) := by decide +kernel
theorem dX10_parseStatement_131 : decode cX10_parseStatement 131 = .ok (.aload_n 0, 1) := by decide +kernel
theorem dX10_parseStatement_132 : decode cX10_parseStatement 132 = .ok (.invokevirtual 297, 3) := by decide +kernel
theorem dX10_parseStatement_135 : decode cX10_parseStatement 135 = .ok (.aload_n 0, 1) := by decide +kernel
theorem dX10_parseStatement_136 : decode cX10_parseStatement 136 = .ok (.invokevirtual 300, 3) := by decide +kernel
theorem dX10_parseStatement_139 : decode cX10_parseStatement 139 = .ok (.return_, 1) := by decide +kernel
set_option maxRecDepth 20000 in
theorem ggX10_addCar_X10_layCar : GoodIn wsX10_addCar wsX10_layCar := goodIn_r _ [6, 1, 7, 8, 9, 10, 11, 12, 13, 14, 15, 16, 17, 18, 19, 20, 21, 22, 23, 24, 25, 26, 27, 28, 29] (by decide +kernel) (by decide +kernel)
set_option maxRecDepth 20000 in
theorem gX10_addCar_X10_layCar : GoodIn wsX10_addCar (wsV RX10 124 RX10 yX10_layCar wsX10_layCar) := goodIn_app (goodIn_of _ (by decide +kernel)) ggX10_addCar_X10_layCar
theorem dX10_addCar_0 : decode cX10_addCar 0 = .ok (.aload_n 0, 1) := by decide +kernel
theorem dX10_addCar_1 : decode cX10_addCar 1 = .ok (.getfield 7, 3) := by decide +kernel
theorem dX10_addCar_4 : decode cX10_addCar 4 = .ok (.bipush 13, 2) := by decide +kernel
theorem dX10_addCar_6 : decode cX10_addCar 6 = .ok (.iaload, 1) := by decide +kernel
theorem dX10_addCar_7 : decode cX10_addCar 7 = .ok (.istore_n 3, 1) := by decide +kernel
theorem dX10_addCar_8 : decode cX10_addCar 8 = .ok (.aload_n 0, 1) := by decide +kernel
theorem dX10_addCar_9 : decode cX10_addCar 9 = .ok (.getfield 7, 3) := by decide +kernel
theorem dX10_addCar_12 : decode cX10_addCar 12 = .ok (.bipush 13, 2) := by decide +kernel
theorem dX10_addCar_14 : decode cX10_addCar 14 = .ok (.dup2, 1) := by decide +kernel
theorem dX10_addCar_15 : decode cX10_addCar 15 = .ok (.iaload, 1) := by decide +kernel
theorem dX10_addCar_16 : decode cX10_addCar 16 = .ok (.iconst 1, 1) := by decide +kernel
theorem dX10_addCar_17 : decode cX10_addCar 17 = .ok (.iadd, 1) := by decide +kernel
theorem dX10_addCar_18 : decode cX10_addCar 18 = .ok (.iastore, 1) := by decide +kernel
theorem dX10_addCar_19 : decode cX10_addCar 19 = .ok (.aload_n 0, 1) := by decide +kernel
theorem dX10_addCar_20 : decode cX10_addCar 20 = .ok (.iload_n 3, 1) := by decide +kernel
theorem dX10_addCar_21 : decode cX10_addCar 21 = .ok (.iconst 0, 1) := by decide +kernel
theorem dX10_addCar_22 : decode cX10_addCar 22 = .ok (.iload_n 1, 1) := by decide +kernel
theorem dX10_addCar_23 : decode cX10_addCar 23 = .ok (.invokevirtual 124, 3) := by decide +kernel
theorem dX10_addCar_26 : decode cX10_addCar 26 = .ok (.aload_n 0, 1) := by decide +kernel
theorem dX10_addCar_27 : decode cX10_addCar 27 = .ok (.iload_n 3, 1) := by decide +kernel
theorem dX10_addCar_28 : decode cX10_addCar 28 = .ok (.iconst 1, 1) := by decide +kernel
theorem dX10_addCar_29 : decode cX10_addCar 29 = .ok (.iload_n 2, 1) := by decide +kernel
theorem dX10_addCar_30 : decode cX10_addCar 30 = .ok (.invokevirtual 124, 3) := by decide +kernel
theorem dX10_addCar_33 : decode cX10_addCar 33 = .ok (.aload_n 0, 1) := by decide +kernel
theorem dX10_addCar_34 : decode cX10_addCar 34 = .ok (.iload_n 3, 1) := by decide +kernel
theorem dX10_addCar_35 : decode cX10_addCar 35 = .ok (.iconst 2, 1) := by decide +kernel
theorem dX10_addCar_36 : decode cX10_addCar 36 = .ok (.iconst 0, 1) := by decide +kernel
theorem dX10_addCar_37 : decode cX10_addCar 37 = .ok (.invokevirtual 124, 3) := by decide +kernel
theorem dX10_addCar_40 : decode cX10_addCar 40 = .ok (.aload_n 0, 1) := by decide +kernel
theorem dX10_addCar_41 : decode cX10_addCar 41 = .ok (.iload_n 3, 1) := by decide +kernel
theorem dX10_addCar_42 : decode cX10_addCar 42 = .ok (.iconst 3, 1) := by decide +kernel
theorem dX10_addCar_43 : decode cX10_addCar 43 = .ok (.iconst (-1), 1) := by decide +kernel
theorem dX10_addCar_44 : decode cX10_addCar 44 = .ok (.invokevirtual 124, 3) := by decide +kernel
theorem dX10_addCar_47 : decode cX10_addCar 47 = .ok (.aload_n 0, 1) := by decide +kernel
theorem dX10_addCar_48 : decode cX10_addCar 48 = .ok (.iload_n 3, 1) := by decide +kernel
theorem dX10_addCar_49 : decode cX10_addCar 49 = .ok (.iconst 4, 1) := by decide +kernel
theorem dX10_addCar_50 : decode cX10_addCar 50 = .ok (.aload_n 0, 1) := by decide +kernel
theorem dX10_addCar_51 : decode cX10_addCar 51 = .ok (.getfield 7, 3) := by decide +kernel
theorem dX10_addCar_54 : decode cX10_addCar 54 = .ok (.iconst 0, 1) := by decide +kernel
theorem dX10_addCar_55 : decode cX10_addCar 55 = .ok (.iaload, 1) := by decide +kernel
theorem dX10_addCar_56 : decode cX10_addCar 56 = .ok (.invokevirtual 124, 3) := by decide +kernel
theorem dX10_addCar_59 : decode cX10_addCar 59 = .ok (.aload_n 0, 1) := by decide +kernel
theorem dX10_addCar_60 : decode cX10_addCar 60 = .ok (.iload_n 3, 1) := by decide +kernel
theorem dX10_addCar_61 : decode cX10_addCar 61 = .ok (.iconst 5, 1) := by decide +kernel
theorem dX10_addCar_62 : decode cX10_addCar 62 = .ok (.iconst (-1), 1) := by decide +kernel
theorem dX10_addCar_63 : decode cX10_addCar 63 = .ok (.invokevirtual 124, 3) := by decide +kernel
theorem dX10_addCar_66 : decode cX10_addCar 66 = .ok (.aload_n 0, 1) := by decide +kernel
theorem dX10_addCar_67 : decode cX10_addCar 67 = .ok (.iload_n 3, 1) := by decide +kernel
theorem dX10_addCar_68 : decode cX10_addCar 68 = .ok (.bipush 6, 2) := by decide +kernel
theorem dX10_addCar_70 : decode cX10_addCar 70 = .ok (.iconst (-1), 1) := by decide +kernel
theorem dX10_addCar_71 : decode cX10_addCar 71 = .ok (.invokevirtual 124, 3) := by decide +kernel
theorem dX10_addCar_74 : decode cX10_addCar 74 = .ok (.aload_n 0, 1) := by decide +kernel
theorem dX10_addCar_75 : decode cX10_addCar 75 = .ok (.getfield 7, 3) := by decide +kernel
theorem dX10_addCar_78 : decode cX10_addCar 78 = .ok (.bipush 41, 2) := by decide +kernel
theorem dX10_addCar_80 : decode cX10_addCar 80 = .ok (.aload_n 0, 1) := by decide +kernel
theorem dX10_addCar_81 : decode cX10_addCar 81 = .ok (.getfield 7, 3) := by decide +kernel
theorem dX10_addCar_84 : decode cX10_addCar 84 = .ok (.bipush 14, 2) := by decide +kernel
theorem dX10_addCar_86 : decode cX10_addCar 86 = .ok (.iaload, 1) := by decide +kernel
theorem dX10_addCar_87 : decode cX10_addCar 87 = .ok (.iadd, 1) := by decide +kernel
theorem dX10_addCar_88 : decode cX10_addCar 88 = .ok (.iload_n 3, 1) := by decide +kernel
theorem dX10_addCar_89 : decode cX10_addCar 89 = .ok (.iastore, 1) := by decide +kernel
theorem dX10_addCar_90 : decode cX10_addCar 90 = .ok (.aload_n 0, 1) := by decide +kernel
theorem dX10_addCar_91 : decode cX10_addCar 91 = .ok (.getfield 7, 3) := by decide +kernel
theorem dX10_addCar_94 : decode cX10_addCar 94 = .ok (.bipush 14, 2) := by decide +kernel
theorem dX10_addCar_96 : decode cX10_addCar 96 = .ok (.dup2, 1) := by decide +kernel
theorem dX10_addCar_97 : decode cX10_addCar 97 = .ok (.iaload, 1) := by decide +kernel
theorem dX10_addCar_98 : decode cX10_addCar 98 = .ok (.iconst 1, 1) := by decide +kernel
theorem dX10_addCar_99 : decode cX10_addCar 99 = .ok (.iadd, 1) := by decide +kernel
theorem dX10_addCar_100 : decode cX10_addCar 100 = .ok (.iastore, 1) := by decide +kernel
theorem dX10_addCar_101 : decode cX10_addCar 101 = .ok (.iload_n 3, 1) := by decide +kernel
theorem dX10_addCar_102 : decode cX10_addCar 102 = .ok (.ireturn, 1) := by decide +kernel
set_option maxRecDepth 20000 in
theorem ggX10_load_X10_copy : GoodIn wsX10_load wsX10_copy := goodIn_r _ [10] (by decide +kernel) (by decide +kernel)
set_option maxRecDepth 20000 in
theorem gX10_load_X10_copy : GoodIn wsX10_load (va_wsS RX10 303 yX10_copy wsX10_copy) := goodIn_app (goodIn_of _ (by decide +kernel)) ggX10_load_X10_copy
set_option maxRecDepth 20000 in
theorem ggX10_load_X10_begin : GoodIn wsX10_load wsX10_begin := goodIn_r _ [14, 2, 15, 16, 17, 9, 18, 211, 212, 213, 214, 215, 216, 217, 218, 219, 220, 221, 222, 223, 224, 225, 226, 227, 228, 229, 230, 231, 232, 233] (by decide +kernel) (by decide +kernel)
set_option maxRecDepth 20000 in
theorem gX10_load_X10_begin : GoodIn wsX10_load (wsV RX10 45 RX10 yX10_begin wsX10_begin) := goodIn_app (goodIn_of _ (by decide +kernel)) ggX10_load_X10_begin
set_option maxRecDepth 20000 in
theorem ggX10_load_X10_startText : GoodIn wsX10_load wsX10_startText := goodIn_r _ [22, 23, 24, 25, 26, 27, 28, 29, 30, 31, 9, 32, 33, 34, 5, 4, 35, 36, 37, 38, 39, 40, 41, 42, 43, 44, 45, 46, 47, 48, 49, 50, 211, 212, 213, 214, 215, 216, 217, 218, 219, 220, 221, 222, 223, 224, 225, 226, 227, 228, 229, 230, 231, 232, 233] (by decide +kernel) (by decide +kernel)
set_option maxRecDepth 20000 in
theorem gX10_load_X10_startText : GoodIn wsX10_load (wsV RX10 307 RX10 yX10_startText wsX10_startText) := goodIn_app (goodIn_of _ (by decide +kernel)) ggX10_load_X10_startText
set_option maxRecDepth 20000 in
theorem ggX10_load_X10_isFine : GoodIn wsX10_load wsX10_isFine := goodIn_r _ [54, 23, 211, 212, 213, 214, 215, 216, 217, 218, 219, 220, 221, 222, 223, 224, 225, 226, 227, 228, 229, 230, 231, 232, 233] (by decide +kernel) (by decide +kernel)
set_option maxRecDepth 20000 in
theorem gX10_load_X10_isFine : GoodIn wsX10_load (wsV RX10 189 RX10 yX10_isFine wsX10_isFine) := goodIn_app (goodIn_of _ (by decide +kernel)) ggX10_load_X10_isFine
set_option maxRecDepth 20000 in
theorem ggX10_load_X10_parseStatement : GoodIn wsX10_load wsX10_parseStatement := goodIn_r _ [58, 59, 60, 61, 9, 62, 4, 25, 33, 44, 51, 52, 53, 54, 23, 63, 64, 65, 66, 67, 68, 69, 70, 71, 72, 73, 74, 75, 76, 77, 78, 79, 80, 81, 82, 83, 84, 85, 86, 87, 88, 89, 90, 91, 92, 93, 94, 95, 96, 97, 98, 99, 100, 101, 102, 103, 104, 105, 106, 107, 108, 109, 110, 111, 112, 113, 114, 115, 116, 117, 118, 119, 27, 120, 121, 122, 123, 24, 124, 125, 126, 127, 29, 30, 31, 32, 34, 5, 35, 36, 37, 38, 39, 40, 41, 42, 43, 45, 46, 47, 48, 49, 50, 128, 129, 130, 131, 132, 133, 134, 135, 136, 137, 138, 139, 140, 141, 142, 143, 144, 145, 146, 147, 148, 149, 150, 151, 152, 153, 154, 2, 155, 156, 157, 158, 159, 160, 161, 162, 163, 164, 165, 166, 167, 168, 169, 170, 28, 15, 16, 17, 18, 171, 172, 173, 174, 175, 176, 177, 178, 179, 180, 181, 182, 183, 184, 185, 186, 187, 188, 189, 190, 191, 192, 193, 194, 211, 212, 213, 214, 215, 216, 217, 218, 219, 220, 221, 222, 223, 224, 225, 226, 227, 228, 229, 230, 231, 232, 233] (by decide +kernel) (by decide +kernel)
set_option maxRecDepth 20000 in
theorem gX10_load_X10_parseStatement : GoodIn wsX10_load (wsV RX10 310 RX10 yX10_parseStatement wsX10_parseStatement) := goodIn_app (goodIn_of _ (by decide +kernel)) ggX10_load_X10_parseStatement
set_option maxRecDepth 20000 in
theorem ggX10_load_X10_deckAt : GoodIn wsX10_load wsX10_deckAt := goodIn_r _ [198, 2, 199, 200, 201, 9, 202, 203, 204, 205, 206, 207, 208, 209, 210, 211, 212, 213, 214, 215, 216, 217, 218, 219, 220, 221, 222, 223, 224, 225, 226, 227, 228, 229, 230, 231, 232, 233] (by decide +kernel) (by decide +kernel)
set_option maxRecDepth 20000 in
theorem gX10_load_X10_deckAt : GoodIn wsX10_load (wsV RX10 78 RX10 yX10_deckAt wsX10_deckAt) := goodIn_app (goodIn_of _ (by decide +kernel)) ggX10_load_X10_deckAt
theorem dX10_load_0 : decode cX10_load 0 = .ok (.aload_n 0, 1) := by decide +kernel
theorem dX10_load_1 : decode cX10_load 1 = .ok (.iconst 0, 1) := by decide +kernel
theorem dX10_load_2 : decode cX10_load 2 = .ok (.putfield 48, 3) := by decide +kernel
theorem dX10_load_5 : decode cX10_load 5 = .ok (.aload_n 0, 1) := by decide +kernel
theorem dX10_load_6 : decode cX10_load 6 = .ok (.getfield 7, 3) := by decide +kernel
theorem dX10_load_9 : decode cX10_load 9 = .ok (.iconst 0, 1) := by decide +kernel
theorem dX10_load_10 : decode cX10_load 10 = .ok (.aload_n 0, 1) := by decide +kernel
theorem dX10_load_11 : decode cX10_load 11 = .ok (.getfield 13, 3) := by decide +kernel
theorem dX10_load_14 : decode cX10_load 14 = .ok (.iconst 0, 1) := by decide +kernel
theorem dX10_load_15 : decode cX10_load 15 = .ok (.invokestatic 303, 3) := by decide +kernel
theorem dX10_load_18 : decode cX10_load 18 = .ok (.aload_n 0, 1) := by decide +kernel
theorem dX10_load_19 : decode cX10_load 19 = .ok (.invokevirtual 45, 3) := by decide +kernel
theorem dX10_load_22 : decode cX10_load 22 = .ok (.aload_n 0, 1) := by decide +kernel
theorem dX10_load_23 : decode cX10_load 23 = .ok (.invokevirtual 307, 3) := by decide +kernel
theorem dX10_load_26 : decode cX10_load 26 = .ok (.aload_n 0, 1) := by decide +kernel
theorem dX10_load_27 : decode cX10_load 27 = .ok (.invokevirtual 189, 3) := by decide +kernel
theorem dX10_load_30 : decode cX10_load 30 = .ok (.ifCond .eq 17, 3) := by decide +kernel
theorem dX10_load_33 : decode cX10_load 33 = .ok (.aload_n 0, 1) := by decide +kernel
theorem dX10_load_34 : decode cX10_load 34 = .ok (.getfield 176, 3) := by decide +kernel
theorem dX10_load_37 : decode cX10_load 37 = .ok (.ifCond .eq 10, 3) := by decide +kernel
theorem dX10_load_40 : decode cX10_load 40 = .ok (.aload_n 0, 1) := by decide +kernel
theorem dX10_load_41 : decode cX10_load 41 = .ok (.invokevirtual 310, 3) := by decide +kernel
theorem dX10_load_44 : decode cX10_load 44 = .ok (.goto (-18), 3) := by decide +kernel
theorem dX10_load_47 : decode cX10_load 47 = .ok (.aload_n 0, 1) := by decide +kernel
theorem dX10_load_48 : decode cX10_load 48 = .ok (.iconst 0, 1) := by decide +kernel
theorem dX10_load_49 : decode cX10_load 49 = .ok (.putfield 158, 3) := by decide +kernel
theorem dX10_load_52 : decode cX10_load 52 = .ok (.aload_n 0, 1) := by decide +kernel
theorem dX10_load_53 : decode cX10_load 53 = .ok (.invokevirtual 189, 3) := by decide +kernel
theorem dX10_load_56 : decode cX10_load 56 = .ok (.ifCond .ne 18, 3) := by decide +kernel
theorem dX10_load_59 : decode cX10_load 59 = .ok (.aload_n 0, 1) := by decide +kernel
theorem dX10_load_60 : decode cX10_load 60 = .ok (.getfield 13, 3) := by decide +kernel
theorem dX10_load_63 : decode cX10_load 63 = .ok (.iconst 0, 1) := by decide +kernel
theorem dX10_load_64 : decode cX10_load 64 = .ok (.aload_n 0, 1) := by decide +kernel
theorem dX10_load_65 : decode cX10_load 65 = .ok (.getfield 7, 3) := by decide +kernel
theorem dX10_load_68 : decode cX10_load 68 = .ok (.iconst 0, 1) := by decide +kernel
theorem dX10_load_69 : decode cX10_load 69 = .ok (.invokestatic 303, 3) := by decide +kernel
theorem dX10_load_72 : decode cX10_load 72 = .ok (.iconst (-1), 1) := by decide +kernel
theorem dX10_load_73 : decode cX10_load 73 = .ok (.ireturn, 1) := by decide +kernel
theorem dX10_load_74 : decode cX10_load 74 = .ok (.aload_n 0, 1) := by decide +kernel
theorem dX10_load_75 : decode cX10_load 75 = .ok (.getfield 7, 3) := by decide +kernel
theorem dX10_load_78 : decode cX10_load 78 = .ok (.iconst 1, 1) := by decide +kernel
theorem dX10_load_79 : decode cX10_load 79 = .ok (.aload_n 0, 1) := by decide +kernel
theorem dX10_load_80 : decode cX10_load 80 = .ok (.iconst 0, 1) := by decide +kernel
theorem dX10_load_81 : decode cX10_load 81 = .ok (.invokevirtual 78, 3) := by decide +kernel
theorem dX10_load_84 : decode cX10_load 84 = .ok (.iastore, 1) := by decide +kernel
theorem dX10_load_85 : decode cX10_load 85 = .ok (.aload_n 0, 1) := by decide +kernel
theorem dX10_load_86 : decode cX10_load 86 = .ok (.iconst 0, 1) := by decide +kernel
theorem dX10_load_87 : decode cX10_load 87 = .ok (.putfield 313, 3) := by decide +kernel
theorem dX10_load_90 : decode cX10_load 90 = .ok (.aload_n 0, 1) := by decide +kernel
theorem dX10_load_91 : decode cX10_load 91 = .ok (.getfield 7, 3) := by decide +kernel
theorem dX10_load_94 : decode cX10_load 94 = .ok (.bipush 14, 2) := by decide +kernel
theorem dX10_load_96 : decode cX10_load 96 = .ok (.iaload, 1) := by decide +kernel
theorem dX10_load_97 : decode cX10_load 97 = .ok (.ireturn, 1) := by decide +kernel
set_option maxRecDepth 20000 in
theorem ggX10_put_X10_isFine : GoodIn wsX10_put wsX10_isFine := goodIn_r _ [7, 8, 9, 10, 11, 12, 13, 14, 15, 16, 17, 18, 19, 20, 21, 22, 23, 24, 25, 26, 27, 28, 29, 30, 31] (by decide +kernel) (by decide +kernel)
set_option maxRecDepth 20000 in
theorem gX10_put_X10_isFine : GoodIn wsX10_put (wsV RX10 189 RX10 yX10_isFine wsX10_isFine) := goodIn_app (goodIn_of _ (by decide +kernel)) ggX10_put_X10_isFine
theorem dX10_put_0 : decode cX10_put 0 = .ok (.aload_n 0, 1) := by decide +kernel
theorem dX10_put_1 : decode cX10_put 1 = .ok (.invokevirtual 189, 3) := by decide +kernel
theorem dX10_put_4 : decode cX10_put 4 = .ok (.ifCond .eq 17, 3) := by decide +kernel
theorem dX10_put_7 : decode cX10_put 7 = .ok (.aload_n 0, 1) := by decide +kernel
theorem dX10_put_8 : decode cX10_put 8 = .ok (.getfield 35, 3) := by decide +kernel
theorem dX10_put_11 : decode cX10_put 11 = .ok (.iconst 4, 1) := by decide +kernel
theorem dX10_put_12 : decode cX10_put 12 = .ok (.aload_n 0, 1) := by decide +kernel
theorem dX10_put_13 : decode cX10_put 13 = .ok (.getfield 222, 3) := by decide +kernel
theorem dX10_put_16 : decode cX10_put 16 = .ok (.imul, 1) := by decide +kernel
theorem dX10_put_17 : decode cX10_put 17 = .ok (.iload_n 1, 1) := by decide +kernel
theorem dX10_put_18 : decode cX10_put 18 = .ok (.iadd, 1) := by decide +kernel
theorem dX10_put_19 : decode cX10_put 19 = .ok (.iload_n 2, 1) := by decide +kernel
theorem dX10_put_20 : decode cX10_put 20 = .ok (.iastore, 1) := by decide +kernel
theorem dX10_put_21 : decode cX10_put 21 = .ok (.return_, 1) := by decide +kernel
set_option maxRecDepth 20000 in
theorem ggX10_commandHere_X10_isWord : GoodIn wsX10_commandHere wsX10_isWord := goodIn_r _ [5, 6, 7, 8, 9, 10, 11, 12, 4, 13, 14, 15, 16, 17, 18, 19, 20, 21, 22, 23, 24, 25, 26, 27, 28, 29, 30, 31, 32, 33, 34, 35, 36, 37, 38, 39, 40, 41, 42, 43, 44, 45, 46, 47, 48, 49, 50, 51, 52, 53, 54, 55, 56, 57, 58, 59, 60, 61, 62, 63, 64, 65, 66, 67, 68, 69, 70, 71, 72, 73, 74, 75, 76, 77, 78, 79, 80, 81, 82, 83, 84, 85, 86] (by decide +kernel) (by decide +kernel)
set_option maxRecDepth 20000 in
theorem gX10_commandHere_X10_isWord : GoodIn wsX10_commandHere (wsV RX10 205 RX10 yX10_isWord wsX10_isWord) := goodIn_app (goodIn_of _ (by decide +kernel)) ggX10_commandHere_X10_isWord
theorem dX10_commandHere_0 : decode cX10_commandHere 0 = .ok (.aload_n 0, 1) := by decide +kernel
theorem dX10_commandHere_1 : decode cX10_commandHere 1 = .ok (.ldc_w 316, 3) := by decide +kernel
theorem dX10_commandHere_4 : decode cX10_commandHere 4 = .ok (.invokevirtual 205, 3) := by decide +kernel
theorem dX10_commandHere_7 : decode cX10_commandHere 7 = .ok (.ifCond .eq 5, 3) := by decide +kernel
theorem dX10_commandHere_10 : decode cX10_commandHere 10 = .ok (.iconst 0, 1) := by decide +kernel
theorem dX10_commandHere_11 : decode cX10_commandHere 11 = .ok (.ireturn, 1) := by decide +kernel
theorem dX10_commandHere_12 : decode cX10_commandHere 12 = .ok (.aload_n 0, 1) := by decide +kernel
theorem dX10_commandHere_13 : decode cX10_commandHere 13 = .ok (.ldc_w 295, 3) := by decide +kernel
theorem dX10_commandHere_16 : decode cX10_commandHere 16 = .ok (.invokevirtual 205, 3) := by decide +kernel
theorem dX10_commandHere_19 : decode cX10_commandHere 19 = .ok (.ifCond .eq 5, 3) := by decide +kernel
theorem dX10_commandHere_22 : decode cX10_commandHere 22 = .ok (.iconst 1, 1) := by decide +kernel
theorem dX10_commandHere_23 : decode cX10_commandHere 23 = .ok (.ireturn, 1) := by decide +kernel
theorem dX10_commandHere_24 : decode cX10_commandHere 24 = .ok (.aload_n 0, 1) := by decide +kernel
theorem dX10_commandHere_25 : decode cX10_commandHere 25 = .ok (.ldc_w 318, 3) := by decide +kernel
theorem dX10_commandHere_28 : decode cX10_commandHere 28 = .ok (.invokevirtual 205, 3) := by decide +kernel
theorem dX10_commandHere_31 : decode cX10_commandHere 31 = .ok (.ifCond .eq 5, 3) := by decide +kernel
theorem dX10_commandHere_34 : decode cX10_commandHere 34 = .ok (.iconst 2, 1) := by decide +kernel
theorem dX10_commandHere_35 : decode cX10_commandHere 35 = .ok (.ireturn, 1) := by decide +kernel
theorem dX10_commandHere_36 : decode cX10_commandHere 36 = .ok (.aload_n 0, 1) := by decide +kernel
theorem dX10_commandHere_37 : decode cX10_commandHere 37 = .ok (.ldc_w 320, 3) := by decide +kernel
theorem dX10_commandHere_40 : decode cX10_commandHere 40 = .ok (.invokevirtual 205, 3) := by decide +kernel
theorem dX10_commandHere_43 : decode cX10_commandHere 43 = .ok (.ifCond .eq 5, 3) := by decide +kernel
theorem dX10_commandHere_46 : decode cX10_commandHere 46 = .ok (.iconst 3, 1) := by decide +kernel
theorem dX10_commandHere_47 : decode cX10_commandHere 47 = .ok (.ireturn, 1) := by decide +kernel
theorem dX10_commandHere_48 : decode cX10_commandHere 48 = .ok (.aload_n 0, 1) := by decide +kernel
theorem dX10_commandHere_49 : decode cX10_commandHere 49 = .ok (.ldc_w 322, 3) := by decide +kernel
theorem dX10_commandHere_52 : decode cX10_commandHere 52 = .ok (.invokevirtual 205, 3) := by decide +kernel
theorem dX10_commandHere_55 : decode cX10_commandHere 55 = .ok (.ifCond .eq 5, 3) := by decide +kernel
theorem dX10_commandHere_58 : decode cX10_commandHere 58 = .ok (.iconst 4, 1) := by decide +kernel
theorem dX10_commandHere_59 : decode cX10_commandHere 59 = .ok (.ireturn, 1) := by decide +kernel
theorem dX10_commandHere_60 : decode cX10_commandHere 60 = .ok (.aload_n 0, 1) := by decide +kernel
theorem dX10_commandHere_61 : decode cX10_commandHere 61 = .ok (.ldc_w 324, 3) := by decide +kernel
theorem dX10_commandHere_64 : decode cX10_commandHere 64 = .ok (.invokevirtual 205, 3) := by decide +kernel
theorem dX10_commandHere_67 : decode cX10_commandHere 67 = .ok (.ifCond .eq 5, 3) := by decide +kernel
theorem dX10_commandHere_70 : decode cX10_commandHere 70 = .ok (.iconst 5, 1) := by decide +kernel
theorem dX10_commandHere_71 : decode cX10_commandHere 71 = .ok (.ireturn, 1) := by decide +kernel
theorem dX10_commandHere_72 : decode cX10_commandHere 72 = .ok (.aload_n 0, 1) := by decide +kernel
theorem dX10_commandHere_73 : decode cX10_commandHere 73 = .ok (.ldc_w 326, 3) := by decide +kernel
theorem dX10_commandHere_76 : decode cX10_commandHere 76 = .ok (.invokevirtual 205, 3) := by decide +kernel
theorem dX10_commandHere_79 : decode cX10_commandHere 79 = .ok (.ifCond .eq 6, 3) := by decide +kernel
theorem dX10_commandHere_82 : decode cX10_commandHere 82 = .ok (.bipush 6, 2) := by decide +kernel
theorem dX10_commandHere_84 : decode cX10_commandHere 84 = .ok (.ireturn, 1) := by decide +kernel
theorem dX10_commandHere_85 : decode cX10_commandHere 85 = .ok (.aload_n 0, 1) := by decide +kernel
theorem dX10_commandHere_86 : decode cX10_commandHere 86 = .ok (.ldc_w 286, 3) := by decide +kernel
theorem dX10_commandHere_89 : decode cX10_commandHere 89 = .ok (.invokevirtual 205, 3) := by decide +kernel
theorem dX10_commandHere_92 : decode cX10_commandHere 92 = .ok (.ifCond .eq 6, 3) := by decide +kernel
theorem dX10_commandHere_95 : decode cX10_commandHere 95 = .ok (.bipush 7, 2) := by decide +kernel
theorem dX10_commandHere_97 : decode cX10_commandHere 97 = .ok (.ireturn, 1) := by decide +kernel
theorem dX10_commandHere_98 : decode cX10_commandHere 98 = .ok (.aload_n 0, 1) := by decide +kernel
theorem dX10_commandHere_99 : decode cX10_commandHere 99 = .ok (.ldc_w 290, 3) := by decide +kernel
theorem dX10_commandHere_102 : decode cX10_commandHere 102 = .ok (.invokevirtual 205, 3) := by decide +kernel
theorem dX10_commandHere_105 : decode cX10_commandHere 105 = .ok (.ifCond .eq 8, 3) := by decide +kernel
theorem dX10_commandHere_108 : decode cX10_commandHere 108 = .ok (.bipush 8, 2) := by decide +kernel
theorem dX10_commandHere_110 : decode cX10_commandHere 110 = .ok (.goto 4, 3) := by decide +kernel
theorem dX10_commandHere_113 : decode cX10_commandHere 113 = .ok (.iconst (-1), 1) := by decide +kernel
theorem dX10_commandHere_114 : decode cX10_commandHere 114 = .ok (.ireturn, 1) := by decide +kernel
set_option maxRecDepth 20000 in
theorem ggX10_parseGate_X10_isWord : GoodIn wsX10_parseGate wsX10_isWord := goodIn_r _ [5, 6, 7, 8, 9, 10, 11, 12, 4, 13, 14, 15, 16, 17, 18, 19, 20, 21, 22, 23, 24, 25, 26, 27, 28, 29, 30, 31, 32, 33, 34, 35, 36, 37, 38, 39, 40, 41, 42, 43, 44, 45, 46, 47, 48, 49, 50, 51, 52, 53, 54, 55, 56, 57, 58, 59, 60, 61, 62, 63, 100, 101, 102, 103, 104, 105, 106, 107, 108, 109, 110, 111, 112, 113, 114, 115, 116, 117, 118, 119, 120, 121, 122] (by decide +kernel) (by decide +kernel)
set_option maxRecDepth 20000 in
theorem gX10_parseGate_X10_isWord : GoodIn wsX10_parseGate (wsV RX10 205 RX10 yX10_isWord wsX10_isWord) := goodIn_app (goodIn_of _ (by decide +kernel)) ggX10_parseGate_X10_isWord
set_option maxRecDepth 20000 in
theorem ggX10_parseGate_X10_require : GoodIn wsX10_parseGate wsX10_require := goodIn_r _ [67, 14, 8, 68, 100, 101, 102, 103, 104, 105, 106, 107, 108, 109, 110, 111, 112, 113, 114, 115, 116, 117, 118, 119, 120, 121, 122] (by decide +kernel) (by decide +kernel)
set_option maxRecDepth 20000 in
theorem gX10_parseGate_X10_require : GoodIn wsX10_parseGate (wsV RX10 209 RX10 yX10_require wsX10_require) := goodIn_app (goodIn_of _ (by decide +kernel)) ggX10_parseGate_X10_require
set_option maxRecDepth 20000 in
theorem ggX10_parseGate_X10_put : GoodIn wsX10_parseGate wsX10_put := goodIn_r _ [72, 73, 74, 10, 11, 12, 4, 13, 14, 100, 101, 102, 103, 104, 105, 106, 107, 108, 109, 110, 111, 112, 113, 114, 115, 116, 117, 118, 119, 120, 121, 122] (by decide +kernel) (by decide +kernel)
set_option maxRecDepth 20000 in
theorem gX10_parseGate_X10_put : GoodIn wsX10_parseGate (wsV RX10 332 RX10 yX10_put wsX10_put) := goodIn_app (goodIn_of _ (by decide +kernel)) ggX10_parseGate_X10_put
set_option maxRecDepth 20000 in
theorem ggX10_parseGate_X10_proceed : GoodIn wsX10_parseGate wsX10_proceed := goodIn_r _ [78, 10, 11, 12, 4, 13, 14, 79, 80, 81, 82, 7, 8, 83, 84, 6, 85, 86, 87, 88, 89, 90, 91, 92, 93, 9, 94, 95, 96, 97, 98, 99, 100, 101, 102, 103, 104, 105, 106, 107, 108, 109, 110, 111, 112, 113, 114, 115, 116, 117, 118, 119, 120, 121, 122] (by decide +kernel) (by decide +kernel)
set_option maxRecDepth 20000 in
theorem gX10_parseGate_X10_proceed : GoodIn wsX10_parseGate (wsV RX10 213 RX10 yX10_proceed wsX10_proceed) := goodIn_app (goodIn_of _ (by decide +kernel)) ggX10_parseGate_X10_proceed
theorem dX10_parseGate_0 : decode cX10_parseGate 0 = .ok (.aload_n 0, 1) := by decide +kernel
theorem dX10_parseGate_1 : decode cX10_parseGate 1 = .ok (.ldc_w 328, 3) := by decide +kernel
theorem dX10_parseGate_4 : decode cX10_parseGate 4 = .ok (.invokevirtual 205, 3) := by decide +kernel
theorem dX10_parseGate_7 : decode cX10_parseGate 7 = .ok (.istore_n 1, 1) := by decide +kernel
theorem dX10_parseGate_8 : decode cX10_parseGate 8 = .ok (.aload_n 0, 1) := by decide +kernel
theorem dX10_parseGate_9 : decode cX10_parseGate 9 = .ok (.iload_n 1, 1) := by decide +kernel
theorem dX10_parseGate_10 : decode cX10_parseGate 10 = .ok (.ifCond .ne 13, 3) := by decide +kernel
theorem dX10_parseGate_13 : decode cX10_parseGate 13 = .ok (.aload_n 0, 1) := by decide +kernel
theorem dX10_parseGate_14 : decode cX10_parseGate 14 = .ok (.ldc_w 330, 3) := by decide +kernel
theorem dX10_parseGate_17 : decode cX10_parseGate 17 = .ok (.invokevirtual 205, 3) := by decide +kernel
theorem dX10_parseGate_20 : decode cX10_parseGate 20 = .ok (.ifCond .eq 7, 3) := by decide +kernel
theorem dX10_parseGate_23 : decode cX10_parseGate 23 = .ok (.iconst 1, 1) := by decide +kernel
theorem dX10_parseGate_24 : decode cX10_parseGate 24 = .ok (.goto 4, 3) := by decide +kernel
theorem dX10_parseGate_27 : decode cX10_parseGate 27 = .ok (.iconst 0, 1) := by decide +kernel
theorem dX10_parseGate_28 : decode cX10_parseGate 28 = .ok (.iconst 1, 1) := by decide +kernel
theorem dX10_parseGate_29 : decode cX10_parseGate 29 = .ok (.invokevirtual 209, 3) := by decide +kernel
theorem dX10_parseGate_32 : decode cX10_parseGate 32 = .ok (.aload_n 0, 1) := by decide +kernel
theorem dX10_parseGate_33 : decode cX10_parseGate 33 = .ok (.iconst 1, 1) := by decide +kernel
theorem dX10_parseGate_34 : decode cX10_parseGate 34 = .ok (.iload_n 1, 1) := by decide +kernel
theorem dX10_parseGate_35 : decode cX10_parseGate 35 = .ok (.ifCond .eq 7, 3) := by decide +kernel
theorem dX10_parseGate_38 : decode cX10_parseGate 38 = .ok (.iconst 1, 1) := by decide +kernel
theorem dX10_parseGate_39 : decode cX10_parseGate 39 = .ok (.goto 4, 3) := by decide +kernel
theorem dX10_parseGate_42 : decode cX10_parseGate 42 = .ok (.iconst 0, 1) := by decide +kernel
theorem dX10_parseGate_43 : decode cX10_parseGate 43 = .ok (.invokevirtual 332, 3) := by decide +kernel
theorem dX10_parseGate_46 : decode cX10_parseGate 46 = .ok (.aload_n 0, 1) := by decide +kernel
theorem dX10_parseGate_47 : decode cX10_parseGate 47 = .ok (.invokevirtual 213, 3) := by decide +kernel
theorem dX10_parseGate_50 : decode cX10_parseGate 50 = .ok (.return_, 1) := by decide +kernel
set_option maxRecDepth 20000 in
theorem ggX10_parseArguments_X10_parseNumber : GoodIn wsX10_parseArguments wsX10_parseNumber := goodIn_r _ [6, 7, 8, 9, 5, 10, 1, 11, 12, 13, 14, 15, 16, 17, 18, 19, 20, 21, 22, 23, 24, 25, 26, 27, 28, 29, 30, 31, 32, 33, 34, 35, 36, 37, 38, 39, 40, 41, 42, 43, 44, 45, 46, 47, 48, 49, 50, 51, 127, 128, 129, 130, 131, 132, 133, 134, 135, 136, 137, 138, 139, 140, 141, 142, 143, 144, 145, 146, 147, 148, 149] (by decide +kernel) (by decide +kernel)
set_option maxRecDepth 20000 in
theorem gX10_parseArguments_X10_parseNumber : GoodIn wsX10_parseArguments (wsV RX10 243 RX10 yX10_parseNumber wsX10_parseNumber) := goodIn_app (goodIn_of _ (by decide +kernel)) ggX10_parseArguments_X10_parseNumber
set_option maxRecDepth 20000 in
theorem ggX10_parseArguments_X10_put : GoodIn wsX10_parseArguments wsX10_put := goodIn_r _ [55, 56, 57, 22, 23, 24, 5, 25, 16, 127, 128, 129, 130, 131, 132, 133, 134, 135, 136, 137, 138, 139, 140, 141, 142, 143, 144, 145, 146, 147, 148, 149] (by decide +kernel) (by decide +kernel)
set_option maxRecDepth 20000 in
theorem gX10_parseArguments_X10_put : GoodIn wsX10_parseArguments (wsV RX10 332 RX10 yX10_put wsX10_put) := goodIn_app (goodIn_of _ (by decide +kernel)) ggX10_parseArguments_X10_put
set_option maxRecDepth 20000 in
theorem ggX10_parseArguments_X10_parseGate : GoodIn wsX10_parseArguments wsX10_parseGate := goodIn_r _ [61, 62, 63, 64, 5, 65, 1, 34, 17, 45, 22, 23, 24, 25, 16, 66, 67, 68, 69, 70, 71, 72, 73, 74, 75, 76, 77, 78, 79, 80, 81, 82, 83, 84, 85, 86, 87, 88, 89, 90, 91, 92, 93, 94, 95, 96, 97, 98, 99, 100, 101, 102, 103, 104, 105, 106, 107, 108, 109, 110, 111, 112, 113, 114, 12, 13, 14, 15, 18, 52, 53, 54, 55, 56, 57, 26, 27, 28, 29, 30, 31, 32, 33, 11, 35, 36, 37, 38, 39, 40, 41, 42, 43, 44, 46, 47, 48, 49, 50, 51, 127, 128, 129, 130, 131, 132, 133, 134, 135, 136, 137, 138, 139, 140, 141, 142, 143, 144, 145, 146, 147, 148, 149] (by decide +kernel) (by decide +kernel)
set_option maxRecDepth 20000 in
theorem gX10_parseArguments_X10_parseGate : GoodIn wsX10_parseArguments (wsV RX10 335 RX10 yX10_parseGate wsX10_parseGate) := goodIn_app (goodIn_of _ (by decide +kernel)) ggX10_parseArguments_X10_parseGate
set_option maxRecDepth 20000 in
theorem ggX10_parseArguments_X10_parseHeight : GoodIn wsX10_parseArguments wsX10_parseHeight := goodIn_r _ [118, 119, 120, 121, 5, 122, 1, 26, 27, 28, 29, 22, 23, 24, 25, 16, 30, 31, 32, 33, 34, 17, 11, 35, 36, 37, 38, 39, 40, 41, 42, 43, 44, 45, 46, 47, 48, 49, 50, 51, 7, 8, 9, 10, 12, 13, 14, 15, 18, 19, 20, 21, 127, 128, 129, 130, 131, 132, 133, 134, 135, 136, 137, 138, 139, 140, 141, 142, 143, 144, 145, 146, 147, 148, 149] (by decide +kernel) (by decide +kernel)
set_option maxRecDepth 20000 in
theorem gX10_parseArguments_X10_parseHeight : GoodIn wsX10_parseArguments (wsV RX10 234 RX10 yX10_parseHeight wsX10_parseHeight) := goodIn_app (goodIn_of _ (by decide +kernel)) ggX10_parseArguments_X10_parseHeight
set_option maxRecDepth 20000 in
theorem ggX10_parseArguments_X10_parseWord : GoodIn wsX10_parseArguments wsX10_parseWord := goodIn_r _ [126, 62, 63, 64, 5, 65, 1, 34, 17, 45, 22, 23, 24, 25, 16, 66, 67, 68, 69, 70, 71, 72, 73, 74, 75, 76, 77, 78, 79, 80, 81, 82, 83, 84, 85, 86, 87, 88, 89, 90, 91, 92, 93, 94, 95, 96, 97, 98, 99, 100, 101, 102, 103, 104, 105, 106, 107, 108, 109, 110, 111, 112, 113, 114, 12, 13, 14, 15, 18, 26, 27, 28, 29, 30, 31, 32, 33, 11, 35, 36, 37, 38, 39, 40, 41, 42, 43, 44, 46, 47, 48, 49, 50, 51, 127, 128, 129, 130, 131, 132, 133, 134, 135, 136, 137, 138, 139, 140, 141, 142, 143, 144, 145, 146, 147, 148, 149] (by decide +kernel) (by decide +kernel)
set_option maxRecDepth 20000 in
theorem gX10_parseArguments_X10_parseWord : GoodIn wsX10_parseArguments (wsV RX10 239 RX10 yX10_parseWord wsX10_parseWord) := goodIn_app (goodIn_of _ (by decide +kernel)) ggX10_parseArguments_X10_parseWord
theorem dX10_parseArguments_0 : decode cX10_parseArguments 0 = .ok (.iload_n 1, 1) := by decide +kernel
theorem dX10_parseArguments_1 : decode cX10_parseArguments 1 = .ok (.tableswitch 190 0 7 #[47, 74, 101, 101, 116, 130, 137, 151], 47) := by decide +kernel
theorem dX10_parseArguments_48 : decode cX10_parseArguments 48 = .ok (.aload_n 0, 1) := by decide +kernel
theorem dX10_parseArguments_49 : decode cX10_parseArguments 49 = .ok (.iconst 1, 1) := by decide +kernel
theorem dX10_parseArguments_50 : decode cX10_parseArguments 50 = .ok (.aload_n 0, 1) := by decide +kernel
theorem dX10_parseArguments_51 : decode cX10_parseArguments 51 = .ok (.getfield 176, 3) := by decide +kernel
theorem dX10_parseArguments_54 : decode cX10_parseArguments 54 = .ok (.iconst 2, 1) := by decide +kernel
theorem dX10_parseArguments_55 : decode cX10_parseArguments 55 = .ok (.if_icmp .ne 13, 3) := by decide +kernel
theorem dX10_parseArguments_58 : decode cX10_parseArguments 58 = .ok (.aload_n 0, 1) := by decide +kernel
theorem dX10_parseArguments_59 : decode cX10_parseArguments 59 = .ok (.iconst 1, 1) := by decide +kernel
theorem dX10_parseArguments_60 : decode cX10_parseArguments 60 = .ok (.bipush 50, 2) := by decide +kernel
theorem dX10_parseArguments_62 : decode cX10_parseArguments 62 = .ok (.invokevirtual 243, 3) := by decide +kernel
theorem dX10_parseArguments_65 : decode cX10_parseArguments 65 = .ok (.goto 4, 3) := by decide +kernel
theorem dX10_parseArguments_68 : decode cX10_parseArguments 68 = .ok (.iconst 1, 1) := by decide +kernel
theorem dX10_parseArguments_69 : decode cX10_parseArguments 69 = .ok (.invokevirtual 332, 3) := by decide +kernel
theorem dX10_parseArguments_72 : decode cX10_parseArguments 72 = .ok (.goto 150, 3) := by decide +kernel
theorem dX10_parseArguments_75 : decode cX10_parseArguments 75 = .ok (.aload_n 0, 1) := by decide +kernel
theorem dX10_parseArguments_76 : decode cX10_parseArguments 76 = .ok (.iconst 1, 1) := by decide +kernel
theorem dX10_parseArguments_77 : decode cX10_parseArguments 77 = .ok (.aload_n 0, 1) := by decide +kernel
theorem dX10_parseArguments_78 : decode cX10_parseArguments 78 = .ok (.iconst 0, 1) := by decide +kernel
theorem dX10_parseArguments_79 : decode cX10_parseArguments 79 = .ok (.iconst 3, 1) := by decide +kernel
theorem dX10_parseArguments_80 : decode cX10_parseArguments 80 = .ok (.invokevirtual 243, 3) := by decide +kernel
theorem dX10_parseArguments_83 : decode cX10_parseArguments 83 = .ok (.invokevirtual 332, 3) := by decide +kernel
theorem dX10_parseArguments_86 : decode cX10_parseArguments 86 = .ok (.aload_n 0, 1) := by decide +kernel
theorem dX10_parseArguments_87 : decode cX10_parseArguments 87 = .ok (.iconst 2, 1) := by decide +kernel
theorem dX10_parseArguments_88 : decode cX10_parseArguments 88 = .ok (.aload_n 0, 1) := by decide +kernel
theorem dX10_parseArguments_89 : decode cX10_parseArguments 89 = .ok (.iconst 1, 1) := by decide +kernel
theorem dX10_parseArguments_90 : decode cX10_parseArguments 90 = .ok (.sipush 999, 3) := by decide +kernel
theorem dX10_parseArguments_93 : decode cX10_parseArguments 93 = .ok (.invokevirtual 243, 3) := by decide +kernel
theorem dX10_parseArguments_96 : decode cX10_parseArguments 96 = .ok (.invokevirtual 332, 3) := by decide +kernel
theorem dX10_parseArguments_99 : decode cX10_parseArguments 99 = .ok (.goto 123, 3) := by decide +kernel
theorem dX10_parseArguments_102 : decode cX10_parseArguments 102 = .ok (.aload_n 0, 1) := by decide +kernel
theorem dX10_parseArguments_103 : decode cX10_parseArguments 103 = .ok (.iconst 1, 1) := by decide +kernel
theorem dX10_parseArguments_104 : decode cX10_parseArguments 104 = .ok (.aload_n 0, 1) := by decide +kernel
theorem dX10_parseArguments_105 : decode cX10_parseArguments 105 = .ok (.iconst 0, 1) := by decide +kernel
theorem dX10_parseArguments_106 : decode cX10_parseArguments 106 = .ok (.bipush 59, 2) := by decide +kernel
theorem dX10_parseArguments_108 : decode cX10_parseArguments 108 = .ok (.invokevirtual 243, 3) := by decide +kernel
theorem dX10_parseArguments_111 : decode cX10_parseArguments 111 = .ok (.invokevirtual 332, 3) := by decide +kernel
theorem dX10_parseArguments_114 : decode cX10_parseArguments 114 = .ok (.goto 108, 3) := by decide +kernel
theorem dX10_parseArguments_117 : decode cX10_parseArguments 117 = .ok (.aload_n 0, 1) := by decide +kernel
theorem dX10_parseArguments_118 : decode cX10_parseArguments 118 = .ok (.iconst 1, 1) := by decide +kernel
theorem dX10_parseArguments_119 : decode cX10_parseArguments 119 = .ok (.aload_n 0, 1) := by decide +kernel
theorem dX10_parseArguments_120 : decode cX10_parseArguments 120 = .ok (.iconst 0, 1) := by decide +kernel
theorem dX10_parseArguments_121 : decode cX10_parseArguments 121 = .ok (.iconst 2, 1) := by decide +kernel
theorem dX10_parseArguments_122 : decode cX10_parseArguments 122 = .ok (.invokevirtual 243, 3) := by decide +kernel
theorem dX10_parseArguments_125 : decode cX10_parseArguments 125 = .ok (.invokevirtual 332, 3) := by decide +kernel
theorem dX10_parseArguments_128 : decode cX10_parseArguments 128 = .ok (.goto 94, 3) := by decide +kernel
theorem dX10_parseArguments_131 : decode cX10_parseArguments 131 = .ok (.aload_n 0, 1) := by decide +kernel
theorem dX10_parseArguments_132 : decode cX10_parseArguments 132 = .ok (.invokevirtual 335, 3) := by decide +kernel
theorem dX10_parseArguments_135 : decode cX10_parseArguments 135 = .ok (.goto 87, 3) := by decide +kernel
theorem dX10_parseArguments_138 : decode cX10_parseArguments 138 = .ok (.aload_n 0, 1) := by decide +kernel
theorem dX10_parseArguments_139 : decode cX10_parseArguments 139 = .ok (.iconst 1, 1) := by decide +kernel
theorem dX10_parseArguments_140 : decode cX10_parseArguments 140 = .ok (.aload_n 0, 1) := by decide +kernel
theorem dX10_parseArguments_141 : decode cX10_parseArguments 141 = .ok (.bipush 20, 2) := by decide +kernel
theorem dX10_parseArguments_143 : decode cX10_parseArguments 143 = .ok (.invokevirtual 234, 3) := by decide +kernel
theorem dX10_parseArguments_146 : decode cX10_parseArguments 146 = .ok (.invokevirtual 332, 3) := by decide +kernel
theorem dX10_parseArguments_149 : decode cX10_parseArguments 149 = .ok (.goto 73, 3) := by decide +kernel
theorem dX10_parseArguments_152 : decode cX10_parseArguments 152 = .ok (.aload_n 0, 1) := by decide +kernel
theorem dX10_parseArguments_153 : decode cX10_parseArguments 153 = .ok (.iconst 1, 1) := by decide +kernel
theorem dX10_parseArguments_154 : decode cX10_parseArguments 154 = .ok (.aload_n 0, 1) := by decide +kernel
theorem dX10_parseArguments_155 : decode cX10_parseArguments 155 = .ok (.iconst 1, 1) := by decide +kernel
theorem dX10_parseArguments_156 : decode cX10_parseArguments 156 = .ok (.bipush 20, 2) := by decide +kernel
theorem dX10_parseArguments_158 : decode cX10_parseArguments 158 = .ok (.invokevirtual 243, 3) := by decide +kernel
theorem dX10_parseArguments_161 : decode cX10_parseArguments 161 = .ok (.invokevirtual 332, 3) := by decide +kernel
theorem dX10_parseArguments_164 : decode cX10_parseArguments 164 = .ok (.aload_n 0, 1) := by decide +kernel
theorem dX10_parseArguments_165 : decode cX10_parseArguments 165 = .ok (.iconst 2, 1) := by decide +kernel
theorem dX10_parseArguments_166 : decode cX10_parseArguments 166 = .ok (.aload_n 0, 1) := by decide +kernel
theorem dX10_parseArguments_167 : decode cX10_parseArguments 167 = .ok (.iconst 0, 1) := by decide +kernel
theorem dX10_parseArguments_168 : decode cX10_parseArguments 168 = .ok (.bipush 50, 2) := by decide +kernel
theorem dX10_parseArguments_170 : decode cX10_parseArguments 170 = .ok (.invokevirtual 243, 3) := by decide +kernel
theorem dX10_parseArguments_173 : decode cX10_parseArguments 173 = .ok (.invokevirtual 332, 3) := by decide +kernel
theorem dX10_parseArguments_176 : decode cX10_parseArguments 176 = .ok (.aload_n 0, 1) := by decide +kernel
theorem dX10_parseArguments_177 : decode cX10_parseArguments 177 = .ok (.iconst 3, 1) := by decide +kernel
theorem dX10_parseArguments_178 : decode cX10_parseArguments 178 = .ok (.aload_n 0, 1) := by decide +kernel
theorem dX10_parseArguments_179 : decode cX10_parseArguments 179 = .ok (.iconst 0, 1) := by decide +kernel
theorem dX10_parseArguments_180 : decode cX10_parseArguments 180 = .ok (.bipush 20, 2) := by decide +kernel
theorem dX10_parseArguments_182 : decode cX10_parseArguments 182 = .ok (.invokevirtual 243, 3) := by decide +kernel
theorem dX10_parseArguments_185 : decode cX10_parseArguments 185 = .ok (.invokevirtual 332, 3) := by decide +kernel
theorem dX10_parseArguments_188 : decode cX10_parseArguments 188 = .ok (.goto 34, 3) := by decide +kernel
theorem dX10_parseArguments_191 : decode cX10_parseArguments 191 = .ok (.aload_n 0, 1) := by decide +kernel
theorem dX10_parseArguments_192 : decode cX10_parseArguments 192 = .ok (.iconst 1, 1) := by decide +kernel
theorem dX10_parseArguments_193 : decode cX10_parseArguments 193 = .ok (.aload_n 0, 1) := by decide +kernel
theorem dX10_parseArguments_194 : decode cX10_parseArguments 194 = .ok (.iconst 1, 1) := by decide +kernel
theorem dX10_parseArguments_195 : decode cX10_parseArguments 195 = .ok (.bipush 20, 2) := by decide +kernel
theorem dX10_parseArguments_197 : decode cX10_parseArguments 197 = .ok (.invokevirtual 243, 3) := by decide +kernel
theorem dX10_parseArguments_200 : decode cX10_parseArguments 200 = .ok (.invokevirtual 332, 3) := by decide +kernel
theorem dX10_parseArguments_203 : decode cX10_parseArguments 203 = .ok (.aload_n 0, 1) := by decide +kernel
theorem dX10_parseArguments_204 : decode cX10_parseArguments 204 = .ok (.ldc_w 256, 3) := by decide +kernel
theorem dX10_parseArguments_207 : decode cX10_parseArguments 207 = .ok (.invokevirtual 239, 3) := by decide +kernel
theorem dX10_parseArguments_210 : decode cX10_parseArguments 210 = .ok (.aload_n 0, 1) := by decide +kernel
theorem dX10_parseArguments_211 : decode cX10_parseArguments 211 = .ok (.iconst 2, 1) := by decide +kernel
theorem dX10_parseArguments_212 : decode cX10_parseArguments 212 = .ok (.aload_n 0, 1) := by decide +kernel
theorem dX10_parseArguments_213 : decode cX10_parseArguments 213 = .ok (.iconst 1, 1) := by decide +kernel
theorem dX10_parseArguments_214 : decode cX10_parseArguments 214 = .ok (.bipush 50, 2) := by decide +kernel
theorem dX10_parseArguments_216 : decode cX10_parseArguments 216 = .ok (.invokevirtual 243, 3) := by decide +kernel
theorem dX10_parseArguments_219 : decode cX10_parseArguments 219 = .ok (.invokevirtual 332, 3) := by decide +kernel
theorem dX10_parseArguments_222 : decode cX10_parseArguments 222 = .ok (.return_, 1) := by decide +kernel
set_option maxRecDepth 20000 in
theorem ggX10_parseCommand_X10_commandHere : GoodIn wsX10_parseCommand wsX10_commandHere := goodIn_r _ [6, 7, 8, 9, 5, 10, 11, 12, 13, 14, 15, 16, 17, 18, 19, 20, 21, 22, 23, 24, 25, 26, 27, 28, 29, 30, 31, 32, 33, 34, 35, 36, 37, 38, 39, 40, 41, 42, 43, 44, 45, 46, 47, 48, 49, 50, 51, 52, 53, 54, 55, 56, 57, 58, 59, 60, 61, 62, 63, 64, 65, 66, 67, 68, 139, 140, 141, 142, 143, 144, 145, 146, 147, 148, 149, 150, 151, 152, 153, 154, 155, 156, 157, 158, 159, 160, 161] (by decide +kernel) (by decide +kernel)
set_option maxRecDepth 20000 in
theorem gX10_parseCommand_X10_commandHere : GoodIn wsX10_parseCommand (wsV RX10 338 RX10 yX10_commandHere wsX10_commandHere) := goodIn_app (goodIn_of _ (by decide +kernel)) ggX10_parseCommand_X10_commandHere
set_option maxRecDepth 20000 in
theorem ggX10_parseCommand_X10_require : GoodIn wsX10_parseCommand wsX10_require := goodIn_r _ [72, 19, 13, 73, 139, 140, 141, 142, 143, 144, 145, 146, 147, 148, 149, 150, 151, 152, 153, 154, 155, 156, 157, 158, 159, 160, 161] (by decide +kernel) (by decide +kernel)
set_option maxRecDepth 20000 in
theorem gX10_parseCommand_X10_require : GoodIn wsX10_parseCommand (wsV RX10 209 RX10 yX10_require wsX10_require) := goodIn_app (goodIn_of _ (by decide +kernel)) ggX10_parseCommand_X10_require
set_option maxRecDepth 20000 in
theorem ggX10_parseCommand_X10_put : GoodIn wsX10_parseCommand wsX10_put := goodIn_r _ [77, 78, 1, 15, 16, 17, 5, 18, 19, 139, 140, 141, 142, 143, 144, 145, 146, 147, 148, 149, 150, 151, 152, 153, 154, 155, 156, 157, 158, 159, 160, 161] (by decide +kernel) (by decide +kernel)
set_option maxRecDepth 20000 in
theorem gX10_parseCommand_X10_put : GoodIn wsX10_parseCommand (wsV RX10 332 RX10 yX10_put wsX10_put) := goodIn_app (goodIn_of _ (by decide +kernel)) ggX10_parseCommand_X10_put
set_option maxRecDepth 20000 in
theorem ggX10_parseCommand_X10_proceed : GoodIn wsX10_parseCommand wsX10_proceed := goodIn_r _ [82, 15, 16, 17, 5, 18, 19, 83, 84, 85, 86, 12, 13, 87, 88, 11, 89, 90, 91, 92, 93, 94, 95, 96, 97, 14, 98, 99, 100, 101, 102, 103, 139, 140, 141, 142, 143, 144, 145, 146, 147, 148, 149, 150, 151, 152, 153, 154, 155, 156, 157, 158, 159, 160, 161] (by decide +kernel) (by decide +kernel)
set_option maxRecDepth 20000 in
theorem gX10_parseCommand_X10_proceed : GoodIn wsX10_parseCommand (wsV RX10 213 RX10 yX10_proceed wsX10_proceed) := goodIn_app (goodIn_of _ (by decide +kernel)) ggX10_parseCommand_X10_proceed
set_option maxRecDepth 20000 in
theorem ggX10_parseCommand_X10_isFine : GoodIn wsX10_parseCommand wsX10_isFine := goodIn_r _ [18, 19, 139, 140, 141, 142, 143, 144, 145, 146, 147, 148, 149, 150, 151, 152, 153, 154, 155, 156, 157, 158, 159, 160, 161] (by decide +kernel) (by decide +kernel)
set_option maxRecDepth 20000 in
theorem gX10_parseCommand_X10_isFine : GoodIn wsX10_parseCommand (wsV RX10 189 RX10 yX10_isFine wsX10_isFine) := goodIn_app (goodIn_of _ (by decide +kernel)) ggX10_parseCommand_X10_isFine
set_option maxRecDepth 20000 in
theorem ggX10_parseCommand_X10_parseArguments : GoodIn wsX10_parseCommand wsX10_parseArguments := goodIn_r _ [107, 11, 108, 109, 110, 5, 111, 112, 113, 114, 115, 87, 69, 70, 71, 72, 19, 13, 73, 116, 117, 118, 15, 16, 17, 18, 79, 80, 81, 82, 83, 84, 85, 86, 12, 88, 89, 90, 91, 92, 93, 94, 95, 96, 97, 14, 98, 99, 100, 101, 102, 103, 74, 75, 76, 77, 78, 1, 119, 120, 121, 122, 7, 8, 9, 10, 20, 21, 22, 23, 24, 25, 26, 27, 28, 29, 30, 31, 32, 33, 34, 35, 36, 37, 38, 39, 40, 41, 42, 43, 44, 45, 46, 47, 48, 49, 50, 51, 52, 53, 54, 55, 56, 57, 58, 59, 60, 61, 62, 63, 64, 65, 66, 67, 68, 123, 124, 125, 126, 127, 128, 129, 130, 131, 132, 133, 134, 139, 140, 141, 142, 143, 144, 145, 146, 147, 148, 149, 150, 151, 152, 153, 154, 155, 156, 157, 158, 159, 160, 161] (by decide +kernel) (by decide +kernel)
set_option maxRecDepth 20000 in
theorem gX10_parseCommand_X10_parseArguments : GoodIn wsX10_parseCommand (wsV RX10 341 RX10 yX10_parseArguments wsX10_parseArguments) := goodIn_app (goodIn_of _ (by decide +kernel)) ggX10_parseCommand_X10_parseArguments
set_option maxRecDepth 20000 in
theorem ggX10_parseCommand_X10_parseEnd : GoodIn wsX10_parseCommand wsX10_parseEnd := goodIn_r _ [138, 11, 69, 70, 71, 5, 72, 19, 13, 73, 79, 80, 81, 82, 15, 16, 17, 18, 83, 84, 85, 86, 12, 87, 88, 89, 90, 91, 92, 93, 94, 95, 96, 97, 14, 98, 99, 100, 101, 102, 103, 139, 140, 141, 142, 143, 144, 145, 146, 147, 148, 149, 150, 151, 152, 153, 154, 155, 156, 157, 158, 159, 160, 161] (by decide +kernel) (by decide +kernel)
set_option maxRecDepth 20000 in
theorem gX10_parseCommand_X10_parseEnd : GoodIn wsX10_parseCommand (wsV RX10 300 RX10 yX10_parseEnd wsX10_parseEnd) := goodIn_app (goodIn_of _ (by decide +kernel)) ggX10_parseCommand_X10_parseEnd
theorem dX10_parseCommand_0 : decode cX10_parseCommand 0 = .ok (.aload_n 0, 1) := by decide +kernel
theorem dX10_parseCommand_1 : decode cX10_parseCommand 1 = .ok (.invokevirtual 338, 3) := by decide +kernel
theorem dX10_parseCommand_4 : decode cX10_parseCommand 4 = .ok (.istore_n 1, 1) := by decide +kernel
theorem dX10_parseCommand_5 : decode cX10_parseCommand 5 = .ok (.aload_n 0, 1) := by decide +kernel
theorem dX10_parseCommand_6 : decode cX10_parseCommand 6 = .ok (.iload_n 1, 1) := by decide +kernel
theorem dX10_parseCommand_7 : decode cX10_parseCommand 7 = .ok (.iconst (-1), 1) := by decide +kernel
theorem dX10_parseCommand_8 : decode cX10_parseCommand 8 = .ok (.if_icmp .eq 7, 3) := by decide +kernel
theorem dX10_parseCommand_11 : decode cX10_parseCommand 11 = .ok (.iconst 1, 1) := by decide +kernel
theorem dX10_parseCommand_12 : decode cX10_parseCommand 12 = .ok (.goto 4, 3) := by decide +kernel
theorem dX10_parseCommand_15 : decode cX10_parseCommand 15 = .ok (.iconst 0, 1) := by decide +kernel
theorem dX10_parseCommand_16 : decode cX10_parseCommand 16 = .ok (.iconst 1, 1) := by decide +kernel
theorem dX10_parseCommand_17 : decode cX10_parseCommand 17 = .ok (.invokevirtual 209, 3) := by decide +kernel
theorem dX10_parseCommand_20 : decode cX10_parseCommand 20 = .ok (.aload_n 0, 1) := by decide +kernel
theorem dX10_parseCommand_21 : decode cX10_parseCommand 21 = .ok (.aload_n 0, 1) := by decide +kernel
theorem dX10_parseCommand_22 : decode cX10_parseCommand 22 = .ok (.getfield 222, 3) := by decide +kernel
theorem dX10_parseCommand_25 : decode cX10_parseCommand 25 = .ok (.bipush 40, 2) := by decide +kernel
theorem dX10_parseCommand_27 : decode cX10_parseCommand 27 = .ok (.if_icmp .ge 7, 3) := by decide +kernel
theorem dX10_parseCommand_30 : decode cX10_parseCommand 30 = .ok (.iconst 1, 1) := by decide +kernel
theorem dX10_parseCommand_31 : decode cX10_parseCommand 31 = .ok (.goto 4, 3) := by decide +kernel
theorem dX10_parseCommand_34 : decode cX10_parseCommand 34 = .ok (.iconst 0, 1) := by decide +kernel
theorem dX10_parseCommand_35 : decode cX10_parseCommand 35 = .ok (.iconst 4, 1) := by decide +kernel
theorem dX10_parseCommand_36 : decode cX10_parseCommand 36 = .ok (.invokevirtual 209, 3) := by decide +kernel
theorem dX10_parseCommand_39 : decode cX10_parseCommand 39 = .ok (.aload_n 0, 1) := by decide +kernel
theorem dX10_parseCommand_40 : decode cX10_parseCommand 40 = .ok (.iconst 0, 1) := by decide +kernel
theorem dX10_parseCommand_41 : decode cX10_parseCommand 41 = .ok (.iload_n 1, 1) := by decide +kernel
theorem dX10_parseCommand_42 : decode cX10_parseCommand 42 = .ok (.invokevirtual 332, 3) := by decide +kernel
theorem dX10_parseCommand_45 : decode cX10_parseCommand 45 = .ok (.aload_n 0, 1) := by decide +kernel
theorem dX10_parseCommand_46 : decode cX10_parseCommand 46 = .ok (.invokevirtual 213, 3) := by decide +kernel
theorem dX10_parseCommand_49 : decode cX10_parseCommand 49 = .ok (.aload_n 0, 1) := by decide +kernel
theorem dX10_parseCommand_50 : decode cX10_parseCommand 50 = .ok (.invokevirtual 189, 3) := by decide +kernel
theorem dX10_parseCommand_53 : decode cX10_parseCommand 53 = .ok (.ifCond .eq 8, 3) := by decide +kernel
theorem dX10_parseCommand_56 : decode cX10_parseCommand 56 = .ok (.aload_n 0, 1) := by decide +kernel
theorem dX10_parseCommand_57 : decode cX10_parseCommand 57 = .ok (.iload_n 1, 1) := by decide +kernel
theorem dX10_parseCommand_58 : decode cX10_parseCommand 58 = .ok (.invokevirtual 341, 3) := by decide +kernel
theorem dX10_parseCommand_61 : decode cX10_parseCommand 61 = .ok (.aload_n 0, 1) := by decide +kernel
theorem dX10_parseCommand_62 : decode cX10_parseCommand 62 = .ok (.invokevirtual 300, 3) := by decide +kernel
theorem dX10_parseCommand_65 : decode cX10_parseCommand 65 = .ok (.aload_n 0, 1) := by decide +kernel
theorem dX10_parseCommand_66 : decode cX10_parseCommand 66 = .ok (.invokevirtual 189, 3) := by decide +kernel
theorem dX10_parseCommand_69 : decode cX10_parseCommand 69 = .ok (.ifCond .eq 13, 3) := by decide +kernel
theorem dX10_parseCommand_72 : decode cX10_parseCommand 72 = .ok (.aload_n 0, 1) := by decide +kernel
theorem dX10_parseCommand_73 : decode cX10_parseCommand 73 = .ok (.dup, 1) := by decide +kernel
theorem dX10_parseCommand_74 : decode cX10_parseCommand 74 = .ok (.getfield 222, 3) := by decide +kernel
theorem dX10_parseCommand_77 : decode cX10_parseCommand 77 = .ok (.iconst 1, 1) := by decide +kernel
theorem dX10_parseCommand_78 : decode cX10_parseCommand 78 = .ok (.iadd, 1) := by decide +kernel
theorem dX10_parseCommand_79 : decode cX10_parseCommand 79 = .ok (.putfield 222, 3) := by decide +kernel
theorem dX10_parseCommand_82 : decode cX10_parseCommand 82 = .ok (.return_, 1) := by decide +kernel
set_option maxRecDepth 20000 in
theorem ggX10_doCommand_X10_tickIt : GoodIn wsX10_doCommand wsX10_tickIt := goodIn_r _ [6, 7, 8, 9, 5, 10, 11, 12, 13, 14, 15, 16, 17, 18, 19, 20, 21, 22, 23, 24, 25, 26, 27, 28, 29, 30, 31, 32, 33, 34, 35, 36, 37, 38, 39, 40, 41, 42, 43, 44, 45, 46, 47, 48, 49, 50, 51, 52, 53, 54, 55, 56, 57, 58, 59, 60, 61, 62, 63, 64, 65, 66, 67, 68, 69, 70, 71, 72, 73, 74, 75, 76, 77, 78, 79, 80, 81, 82, 83, 84, 85, 86, 87, 88, 89, 90, 91, 92, 93, 94, 95, 96, 97, 98, 99, 100, 101, 102, 103, 104, 105, 106, 107, 108, 109, 110, 111, 112, 113, 114, 115, 116, 117, 118, 119, 120, 121, 122, 123, 124, 125, 126, 127, 128, 129, 130, 131, 132, 133, 134, 135, 136, 137, 138, 139, 207, 208, 209, 210, 211, 212, 213, 214, 215, 216, 217, 218, 219, 220, 221, 222, 223, 224, 225, 226, 227, 228, 229] (by decide +kernel) (by decide +kernel)
set_option maxRecDepth 20000 in
theorem gX10_doCommand_X10_tickIt : GoodIn wsX10_doCommand (wsV RX10 344 RX10 yX10_tickIt wsX10_tickIt) := goodIn_app (goodIn_of _ (by decide +kernel)) ggX10_doCommand_X10_tickIt
set_option maxRecDepth 20000 in
theorem ggX10_doCommand_X10_arriveIt : GoodIn wsX10_doCommand wsX10_arriveIt := goodIn_r _ [143, 12, 144, 145, 146, 5, 147, 14, 7, 8, 9, 10, 11, 13, 15, 16, 17, 18, 19, 20, 21, 148, 149, 150, 151, 84, 85, 86, 87, 207, 208, 209, 210, 211, 212, 213, 214, 215, 216, 217, 218, 219, 220, 221, 222, 223, 224, 225, 226, 227, 228, 229] (by decide +kernel) (by decide +kernel)
set_option maxRecDepth 20000 in
theorem gX10_doCommand_X10_arriveIt : GoodIn wsX10_doCommand (wsV RX10 347 RX10 yX10_arriveIt wsX10_arriveIt) := goodIn_app (goodIn_of _ (by decide +kernel)) ggX10_doCommand_X10_arriveIt
set_option maxRecDepth 20000 in
theorem ggX10_doCommand_X10_waveIt : GoodIn wsX10_doCommand wsX10_waveIt := goodIn_r _ [155, 12, 156, 157, 158, 5, 159, 160, 161, 162, 163, 164, 165, 166, 54, 55, 56, 57, 144, 145, 146, 147, 14, 7, 8, 9, 10, 11, 13, 15, 16, 17, 18, 19, 20, 21, 167, 168, 169, 170, 132, 133, 134, 135, 207, 208, 209, 210, 211, 212, 213, 214, 215, 216, 217, 218, 219, 220, 221, 222, 223, 224, 225, 226, 227, 228, 229] (by decide +kernel) (by decide +kernel)
set_option maxRecDepth 20000 in
theorem gX10_doCommand_X10_waveIt : GoodIn wsX10_doCommand (wsV RX10 350 RX10 yX10_waveIt wsX10_waveIt) := goodIn_app (goodIn_of _ (by decide +kernel)) ggX10_doCommand_X10_waveIt
set_option maxRecDepth 20000 in
theorem ggX10_doCommand_X10_dismissIt : GoodIn wsX10_doCommand wsX10_dismissIt := goodIn_r _ [174, 12, 156, 157, 158, 5, 159, 160, 161, 162, 163, 164, 165, 166, 54, 55, 56, 57, 144, 145, 146, 147, 14, 7, 8, 9, 10, 11, 13, 15, 16, 17, 18, 19, 20, 21, 128, 129, 130, 131, 132, 133, 134, 135, 84, 85, 86, 87, 207, 208, 209, 210, 211, 212, 213, 214, 215, 216, 217, 218, 219, 220, 221, 222, 223, 224, 225, 226, 227, 228, 229] (by decide +kernel) (by decide +kernel)
set_option maxRecDepth 20000 in
theorem gX10_doCommand_X10_dismissIt : GoodIn wsX10_doCommand (wsV RX10 353 RX10 yX10_dismissIt wsX10_dismissIt) := goodIn_app (goodIn_of _ (by decide +kernel)) ggX10_doCommand_X10_dismissIt
set_option maxRecDepth 20000 in
theorem ggX10_doCommand_X10_unloadIt : GoodIn wsX10_doCommand wsX10_unloadIt := goodIn_r _ [178, 12, 179, 180, 181, 5, 182, 54, 55, 56, 57, 183, 184, 185, 186, 187, 188, 189, 190, 144, 145, 146, 147, 14, 72, 73, 74, 75, 38, 39, 40, 41, 76, 77, 78, 79, 80, 81, 82, 83, 34, 35, 36, 37, 42, 43, 44, 45, 46, 47, 48, 49, 50, 51, 52, 53, 7, 8, 9, 10, 11, 13, 15, 16, 17, 18, 19, 20, 21, 84, 85, 86, 87, 207, 208, 209, 210, 211, 212, 213, 214, 215, 216, 217, 218, 219, 220, 221, 222, 223, 224, 225, 226, 227, 228, 229] (by decide +kernel) (by decide +kernel)
set_option maxRecDepth 20000 in
theorem gX10_doCommand_X10_unloadIt : GoodIn wsX10_doCommand (wsV RX10 356 RX10 yX10_unloadIt wsX10_unloadIt) := goodIn_app (goodIn_of _ (by decide +kernel)) ggX10_doCommand_X10_unloadIt
set_option maxRecDepth 20000 in
theorem ggX10_doCommand_X10_gateIt : GoodIn wsX10_doCommand wsX10_gateIt := goodIn_r _ [194, 12, 144, 145, 146, 5, 147, 14, 7, 8, 9, 10, 11, 13, 15, 16, 17, 18, 19, 20, 21, 207, 208, 209, 210, 211, 212, 213, 214, 215, 216, 217, 218, 219, 220, 221, 222, 223, 224, 225, 226, 227, 228, 229] (by decide +kernel) (by decide +kernel)
set_option maxRecDepth 20000 in
theorem gX10_doCommand_X10_gateIt : GoodIn wsX10_doCommand (wsV RX10 359 RX10 yX10_gateIt wsX10_gateIt) := goodIn_app (goodIn_of _ (by decide +kernel)) ggX10_doCommand_X10_gateIt
set_option maxRecDepth 20000 in
theorem ggX10_doCommand_X10_crankIt : GoodIn wsX10_doCommand wsX10_crankIt := goodIn_r _ [198, 12, 144, 145, 146, 5, 147, 14, 7, 8, 9, 10, 11, 13, 15, 16, 17, 18, 19, 20, 21, 34, 35, 36, 37, 38, 39, 40, 41, 42, 43, 44, 45, 46, 47, 48, 49, 50, 51, 52, 53, 54, 55, 56, 57, 207, 208, 209, 210, 211, 212, 213, 214, 215, 216, 217, 218, 219, 220, 221, 222, 223, 224, 225, 226, 227, 228, 229] (by decide +kernel) (by decide +kernel)
set_option maxRecDepth 20000 in
theorem gX10_doCommand_X10_crankIt : GoodIn wsX10_doCommand (wsV RX10 363 RX10 yX10_crankIt wsX10_crankIt) := goodIn_app (goodIn_of _ (by decide +kernel)) ggX10_doCommand_X10_crankIt
set_option maxRecDepth 20000 in
theorem ggX10_doCommand_X10_winchIt : GoodIn wsX10_doCommand wsX10_winchIt := goodIn_r _ [202, 12, 7, 8, 9, 5, 10, 11, 13, 14, 15, 16, 17, 18, 19, 20, 21, 207, 208, 209, 210, 211, 212, 213, 214, 215, 216, 217, 218, 219, 220, 221, 222, 223, 224, 225, 226, 227, 228, 229] (by decide +kernel) (by decide +kernel)
set_option maxRecDepth 20000 in
theorem gX10_doCommand_X10_winchIt : GoodIn wsX10_doCommand (wsV RX10 366 RX10 yX10_winchIt wsX10_winchIt) := goodIn_app (goodIn_of _ (by decide +kernel)) ggX10_doCommand_X10_winchIt
set_option maxRecDepth 20000 in
theorem ggX10_doCommand_X10_crossIt : GoodIn wsX10_doCommand wsX10_crossIt := goodIn_r _ [206, 12, 7, 8, 9, 5, 10, 11, 13, 14, 15, 16, 17, 18, 19, 20, 21, 207, 208, 209, 210, 211, 212, 213, 214, 215, 216, 217, 218, 219, 220, 221, 222, 223, 224, 225, 226, 227, 228, 229] (by decide +kernel) (by decide +kernel)
set_option maxRecDepth 20000 in
theorem gX10_doCommand_X10_crossIt : GoodIn wsX10_doCommand (wsV RX10 370 RX10 yX10_crossIt wsX10_crossIt) := goodIn_app (goodIn_of _ (by decide +kernel)) ggX10_doCommand_X10_crossIt
theorem dX10_doCommand_0 : decode cX10_doCommand 0 = .ok (.aload_n 0, 1) := by decide +kernel
theorem dX10_doCommand_1 : decode cX10_doCommand 1 = .ok (.getfield 35, 3) := by decide +kernel
theorem dX10_doCommand_4 : decode cX10_doCommand 4 = .ok (.iload_n 1, 1) := by decide +kernel
theorem dX10_doCommand_5 : decode cX10_doCommand 5 = .ok (.iconst 1, 1) := by decide +kernel
theorem dX10_doCommand_6 : decode cX10_doCommand 6 = .ok (.iadd, 1) := by decide +kernel
theorem dX10_doCommand_7 : decode cX10_doCommand 7 = .ok (.iaload, 1) := by decide +kernel
theorem dX10_doCommand_8 : decode cX10_doCommand 8 = .ok (.istore_n 2, 1) := by decide +kernel
theorem dX10_doCommand_9 : decode cX10_doCommand 9 = .ok (.aload_n 0, 1) := by decide +kernel
theorem dX10_doCommand_10 : decode cX10_doCommand 10 = .ok (.getfield 35, 3) := by decide +kernel
theorem dX10_doCommand_13 : decode cX10_doCommand 13 = .ok (.iload_n 1, 1) := by decide +kernel
theorem dX10_doCommand_14 : decode cX10_doCommand 14 = .ok (.iconst 2, 1) := by decide +kernel
theorem dX10_doCommand_15 : decode cX10_doCommand 15 = .ok (.iadd, 1) := by decide +kernel
theorem dX10_doCommand_16 : decode cX10_doCommand 16 = .ok (.iaload, 1) := by decide +kernel
theorem dX10_doCommand_17 : decode cX10_doCommand 17 = .ok (.istore_n 3, 1) := by decide +kernel
theorem dX10_doCommand_18 : decode cX10_doCommand 18 = .ok (.aload_n 0, 1) := by decide +kernel
theorem dX10_doCommand_19 : decode cX10_doCommand 19 = .ok (.getfield 35, 3) := by decide +kernel
theorem dX10_doCommand_22 : decode cX10_doCommand 22 = .ok (.iload_n 1, 1) := by decide +kernel
theorem dX10_doCommand_23 : decode cX10_doCommand 23 = .ok (.iaload, 1) := by decide +kernel
theorem dX10_doCommand_24 : decode cX10_doCommand 24 = .ok (.tableswitch 115 0 7 #[48, 54, 61, 67, 73, 79, 94, 100], 48) := by decide +kernel
theorem dX10_doCommand_72 : decode cX10_doCommand 72 = .ok (.aload_n 0, 1) := by decide +kernel
theorem dX10_doCommand_73 : decode cX10_doCommand 73 = .ok (.iload_n 2, 1) := by decide +kernel
theorem dX10_doCommand_74 : decode cX10_doCommand 74 = .ok (.invokevirtual 344, 3) := by decide +kernel
theorem dX10_doCommand_77 : decode cX10_doCommand 77 = .ok (.ireturn, 1) := by decide +kernel
theorem dX10_doCommand_78 : decode cX10_doCommand 78 = .ok (.aload_n 0, 1) := by decide +kernel
theorem dX10_doCommand_79 : decode cX10_doCommand 79 = .ok (.iload_n 2, 1) := by decide +kernel
theorem dX10_doCommand_80 : decode cX10_doCommand 80 = .ok (.iload_n 3, 1) := by decide +kernel
theorem dX10_doCommand_81 : decode cX10_doCommand 81 = .ok (.invokevirtual 347, 3) := by decide +kernel
theorem dX10_doCommand_84 : decode cX10_doCommand 84 = .ok (.ireturn, 1) := by decide +kernel
theorem dX10_doCommand_85 : decode cX10_doCommand 85 = .ok (.aload_n 0, 1) := by decide +kernel
theorem dX10_doCommand_86 : decode cX10_doCommand 86 = .ok (.iload_n 2, 1) := by decide +kernel
theorem dX10_doCommand_87 : decode cX10_doCommand 87 = .ok (.invokevirtual 350, 3) := by decide +kernel
theorem dX10_doCommand_90 : decode cX10_doCommand 90 = .ok (.ireturn, 1) := by decide +kernel
theorem dX10_doCommand_91 : decode cX10_doCommand 91 = .ok (.aload_n 0, 1) := by decide +kernel
theorem dX10_doCommand_92 : decode cX10_doCommand 92 = .ok (.iload_n 2, 1) := by decide +kernel
theorem dX10_doCommand_93 : decode cX10_doCommand 93 = .ok (.invokevirtual 353, 3) := by decide +kernel
theorem dX10_doCommand_96 : decode cX10_doCommand 96 = .ok (.ireturn, 1) := by decide +kernel
theorem dX10_doCommand_97 : decode cX10_doCommand 97 = .ok (.aload_n 0, 1) := by decide +kernel
theorem dX10_doCommand_98 : decode cX10_doCommand 98 = .ok (.iload_n 2, 1) := by decide +kernel
theorem dX10_doCommand_99 : decode cX10_doCommand 99 = .ok (.invokevirtual 356, 3) := by decide +kernel
theorem dX10_doCommand_102 : decode cX10_doCommand 102 = .ok (.ireturn, 1) := by decide +kernel
theorem dX10_doCommand_103 : decode cX10_doCommand 103 = .ok (.aload_n 0, 1) := by decide +kernel
theorem dX10_doCommand_104 : decode cX10_doCommand 104 = .ok (.iload_n 2, 1) := by decide +kernel
theorem dX10_doCommand_105 : decode cX10_doCommand 105 = .ok (.iconst 1, 1) := by decide +kernel
theorem dX10_doCommand_106 : decode cX10_doCommand 106 = .ok (.if_icmp .ne 7, 3) := by decide +kernel
theorem dX10_doCommand_109 : decode cX10_doCommand 109 = .ok (.iconst 1, 1) := by decide +kernel
theorem dX10_doCommand_110 : decode cX10_doCommand 110 = .ok (.goto 4, 3) := by decide +kernel
theorem dX10_doCommand_113 : decode cX10_doCommand 113 = .ok (.iconst 0, 1) := by decide +kernel
theorem dX10_doCommand_114 : decode cX10_doCommand 114 = .ok (.invokevirtual 359, 3) := by decide +kernel
theorem dX10_doCommand_117 : decode cX10_doCommand 117 = .ok (.ireturn, 1) := by decide +kernel
theorem dX10_doCommand_118 : decode cX10_doCommand 118 = .ok (.aload_n 0, 1) := by decide +kernel
theorem dX10_doCommand_119 : decode cX10_doCommand 119 = .ok (.iload_n 2, 1) := by decide +kernel
theorem dX10_doCommand_120 : decode cX10_doCommand 120 = .ok (.invokevirtual 363, 3) := by decide +kernel
theorem dX10_doCommand_123 : decode cX10_doCommand 123 = .ok (.ireturn, 1) := by decide +kernel
theorem dX10_doCommand_124 : decode cX10_doCommand 124 = .ok (.aload_n 0, 1) := by decide +kernel
theorem dX10_doCommand_125 : decode cX10_doCommand 125 = .ok (.iload_n 2, 1) := by decide +kernel
theorem dX10_doCommand_126 : decode cX10_doCommand 126 = .ok (.iload_n 3, 1) := by decide +kernel
theorem dX10_doCommand_127 : decode cX10_doCommand 127 = .ok (.aload_n 0, 1) := by decide +kernel
theorem dX10_doCommand_128 : decode cX10_doCommand 128 = .ok (.getfield 35, 3) := by decide +kernel
theorem dX10_doCommand_131 : decode cX10_doCommand 131 = .ok (.iload_n 1, 1) := by decide +kernel
theorem dX10_doCommand_132 : decode cX10_doCommand 132 = .ok (.iconst 3, 1) := by decide +kernel
theorem dX10_doCommand_133 : decode cX10_doCommand 133 = .ok (.iadd, 1) := by decide +kernel
theorem dX10_doCommand_134 : decode cX10_doCommand 134 = .ok (.iaload, 1) := by decide +kernel
theorem dX10_doCommand_135 : decode cX10_doCommand 135 = .ok (.invokevirtual 366, 3) := by decide +kernel
theorem dX10_doCommand_138 : decode cX10_doCommand 138 = .ok (.ireturn, 1) := by decide +kernel
theorem dX10_doCommand_139 : decode cX10_doCommand 139 = .ok (.aload_n 0, 1) := by decide +kernel
theorem dX10_doCommand_140 : decode cX10_doCommand 140 = .ok (.iload_n 2, 1) := by decide +kernel
theorem dX10_doCommand_141 : decode cX10_doCommand 141 = .ok (.iload_n 3, 1) := by decide +kernel
theorem dX10_doCommand_142 : decode cX10_doCommand 142 = .ok (.invokevirtual 370, 3) := by decide +kernel
theorem dX10_doCommand_145 : decode cX10_doCommand 145 = .ok (.ireturn, 1) := by decide +kernel
set_option maxRecDepth 20000 in
theorem ggX10_play_X10_startText : GoodIn wsX10_play wsX10_startText := goodIn_r _ [9, 10, 11, 12, 4, 13, 14, 15, 16, 17, 8, 18, 19, 20, 3, 2, 21, 22, 23, 24, 25, 26, 27, 28, 29, 30, 31, 32, 33, 34, 35, 36, 351, 352, 353, 354, 355, 356, 357, 358, 359, 360, 361, 362, 363, 364, 365, 366, 367, 368, 369, 370, 371, 372, 373] (by decide +kernel) (by decide +kernel)
set_option maxRecDepth 20000 in
theorem gX10_play_X10_startText : GoodIn wsX10_play (wsV RX10 307 RX10 yX10_startText wsX10_startText) := goodIn_app (goodIn_of _ (by decide +kernel)) ggX10_play_X10_startText
set_option maxRecDepth 20000 in
theorem ggX10_play_X10_isFine : GoodIn wsX10_play wsX10_isFine := goodIn_r _ [40, 10, 351, 352, 353, 354, 355, 356, 357, 358, 359, 360, 361, 362, 363, 364, 365, 366, 367, 368, 369, 370, 371, 372, 373] (by decide +kernel) (by decide +kernel)
set_option maxRecDepth 20000 in
theorem gX10_play_X10_isFine : GoodIn wsX10_play (wsV RX10 189 RX10 yX10_isFine wsX10_isFine) := goodIn_app (goodIn_of _ (by decide +kernel)) ggX10_play_X10_isFine
set_option maxRecDepth 20000 in
theorem ggX10_play_X10_parseCommand : GoodIn wsX10_play wsX10_parseCommand := goodIn_r _ [44, 4, 45, 46, 47, 8, 48, 49, 50, 51, 52, 2, 12, 19, 30, 37, 38, 39, 40, 10, 53, 54, 55, 56, 57, 58, 59, 60, 61, 62, 63, 64, 65, 66, 67, 68, 69, 70, 71, 72, 73, 74, 75, 76, 77, 78, 79, 80, 81, 82, 83, 84, 85, 86, 87, 88, 89, 90, 91, 92, 93, 94, 95, 96, 97, 98, 99, 100, 101, 102, 103, 104, 105, 11, 106, 107, 108, 109, 110, 111, 112, 113, 114, 15, 16, 17, 18, 20, 3, 21, 22, 23, 24, 25, 26, 27, 28, 29, 31, 32, 33, 34, 35, 36, 115, 116, 117, 118, 119, 120, 121, 122, 123, 124, 125, 126, 127, 128, 129, 130, 131, 132, 133, 134, 135, 136, 137, 138, 139, 140, 141, 142, 143, 144, 145, 146, 147, 148, 149, 351, 352, 353, 354, 355, 356, 357, 358, 359, 360, 361, 362, 363, 364, 365, 366, 367, 368, 369, 370, 371, 372, 373] (by decide +kernel) (by decide +kernel)
set_option maxRecDepth 20000 in
theorem gX10_play_X10_parseCommand : GoodIn wsX10_play (wsV RX10 373 RX10 yX10_parseCommand wsX10_parseCommand) := goodIn_app (goodIn_of _ (by decide +kernel)) ggX10_play_X10_parseCommand
set_option maxRecDepth 20000 in
theorem ggX10_play_X10_doCommand : GoodIn wsX10_play wsX10_doCommand := goodIn_r _ [153, 110, 154, 155, 156, 8, 157, 158, 159, 160, 161, 162, 163, 164, 165, 166, 167, 168, 169, 170, 171, 172, 173, 174, 175, 176, 177, 178, 179, 180, 181, 182, 183, 184, 185, 186, 187, 188, 189, 190, 24, 191, 192, 193, 194, 195, 196, 197, 198, 199, 200, 201, 202, 203, 204, 205, 206, 207, 208, 209, 210, 211, 22, 23, 25, 212, 213, 214, 215, 216, 217, 218, 219, 220, 221, 222, 223, 224, 225, 226, 227, 228, 229, 230, 231, 232, 233, 234, 235, 236, 237, 238, 239, 240, 241, 242, 243, 244, 245, 246, 247, 248, 249, 250, 251, 252, 253, 254, 255, 256, 257, 258, 259, 260, 261, 262, 263, 264, 265, 266, 267, 268, 269, 270, 271, 272, 273, 274, 275, 276, 277, 278, 279, 280, 281, 282, 283, 284, 285, 286, 287, 288, 289, 290, 291, 292, 293, 294, 295, 296, 297, 298, 299, 300, 301, 302, 303, 304, 305, 306, 307, 308, 309, 310, 127, 128, 129, 311, 312, 313, 314, 315, 316, 317, 318, 319, 320, 321, 322, 323, 324, 325, 326, 327, 328, 329, 330, 331, 332, 333, 334, 335, 336, 337, 338, 339, 340, 341, 342, 343, 344, 345, 346, 347, 348, 349, 350, 351, 352, 353, 354, 355, 356, 357, 358, 359, 360, 361, 362, 363, 364, 365, 366, 367, 368, 369, 370, 371, 372, 373] (by decide +kernel) (by decide +kernel)
set_option maxRecDepth 20000 in
theorem gX10_play_X10_doCommand : GoodIn wsX10_play (wsV RX10 376 RX10 yX10_doCommand wsX10_doCommand) := goodIn_app (goodIn_of _ (by decide +kernel)) ggX10_play_X10_doCommand
theorem dX10_play_0 : decode cX10_play 0 = .ok (.aload_n 0, 1) := by decide +kernel
