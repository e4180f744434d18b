theorem dX10_play_1 : decode cX10_play 1 = .ok (.iconst 0, 1) := by decide +kernel
theorem dX10_play_2 : decode cX10_play 2 = .ok (.putfield 48, 3) := by decide +kernel
theorem dX10_play_5 : decode cX10_play 5 = .ok (.aload_n 0, 1) := by decide +kernel
theorem dX10_play_6 : decode cX10_play 6 = .ok (.invokevirtual 307, 3) := by decide +kernel
theorem dX10_play_9 : decode cX10_play 9 = .ok (.aload_n 0, 1) := by decide +kernel
theorem dX10_play_10 : decode cX10_play 10 = .ok (.invokevirtual 189, 3) := by decide +kernel
theorem dX10_play_13 : decode cX10_play 13 = .ok (.ifCond .eq 17, 3) := by decide +kernel
theorem dX10_play_16 : decode cX10_play 16 = .ok (.aload_n 0, 1) := by decide +kernel
theorem dX10_play_17 : decode cX10_play 17 = .ok (.getfield 176, 3) := by decide +kernel
theorem dX10_play_20 : decode cX10_play 20 = .ok (.ifCond .eq 10, 3) := by decide +kernel
theorem dX10_play_23 : decode cX10_play 23 = .ok (.aload_n 0, 1) := by decide +kernel
theorem dX10_play_24 : decode cX10_play 24 = .ok (.invokevirtual 373, 3) := by decide +kernel
theorem dX10_play_27 : decode cX10_play 27 = .ok (.goto (-18), 3) := by decide +kernel
theorem dX10_play_30 : decode cX10_play 30 = .ok (.aload_n 0, 1) := by decide +kernel
theorem dX10_play_31 : decode cX10_play 31 = .ok (.iconst 0, 1) := by decide +kernel
theorem dX10_play_32 : decode cX10_play 32 = .ok (.putfield 158, 3) := by decide +kernel
theorem dX10_play_35 : decode cX10_play 35 = .ok (.aload_n 0, 1) := by decide +kernel
theorem dX10_play_36 : decode cX10_play 36 = .ok (.invokevirtual 189, 3) := by decide +kernel
theorem dX10_play_39 : decode cX10_play 39 = .ok (.ifCond .ne 5, 3) := by decide +kernel
theorem dX10_play_42 : decode cX10_play 42 = .ok (.iconst (-1), 1) := by decide +kernel
theorem dX10_play_43 : decode cX10_play 43 = .ok (.ireturn, 1) := by decide +kernel
theorem dX10_play_44 : decode cX10_play 44 = .ok (.iconst 0, 1) := by decide +kernel
theorem dX10_play_45 : decode cX10_play 45 = .ok (.istore_n 1, 1) := by decide +kernel
theorem dX10_play_46 : decode cX10_play 46 = .ok (.iload_n 1, 1) := by decide +kernel
theorem dX10_play_47 : decode cX10_play 47 = .ok (.aload_n 0, 1) := by decide +kernel
theorem dX10_play_48 : decode cX10_play 48 = .ok (.getfield 222, 3) := by decide +kernel
theorem dX10_play_51 : decode cX10_play 51 = .ok (.if_icmp .ge 19, 3) := by decide +kernel
theorem dX10_play_54 : decode cX10_play 54 = .ok (.aload_n 0, 1) := by decide +kernel
theorem dX10_play_55 : decode cX10_play 55 = .ok (.iconst 4, 1) := by decide +kernel
theorem dX10_play_56 : decode cX10_play 56 = .ok (.iload_n 1, 1) := by decide +kernel
theorem dX10_play_57 : decode cX10_play 57 = .ok (.imul, 1) := by decide +kernel
theorem dX10_play_58 : decode cX10_play 58 = .ok (.invokevirtual 376, 3) := by decide +kernel
theorem dX10_play_61 : decode cX10_play 61 = .ok (.ifCond .lt 9, 3) := by decide +kernel
theorem dX10_play_64 : decode cX10_play 64 = .ok (.iinc 1 1, 3) := by decide +kernel
theorem dX10_play_67 : decode cX10_play 67 = .ok (.goto (-21), 3) := by decide +kernel
theorem dX10_play_70 : decode cX10_play 70 = .ok (.iload_n 1, 1) := by decide +kernel
theorem dX10_play_71 : decode cX10_play 71 = .ok (.ireturn, 1) := by decide +kernel
theorem dX10_errorCode_0 : decode cX10_errorCode 0 = .ok (.aload_n 0, 1) := by decide +kernel
theorem dX10_errorCode_1 : decode cX10_errorCode 1 = .ok (.iconst 0, 1) := by decide +kernel
theorem dX10_errorCode_2 : decode cX10_errorCode 2 = .ok (.putfield 48, 3) := by decide +kernel
theorem dX10_errorCode_5 : decode cX10_errorCode 5 = .ok (.aload_n 0, 1) := by decide +kernel
theorem dX10_errorCode_6 : decode cX10_errorCode 6 = .ok (.getfield 186, 3) := by decide +kernel
theorem dX10_errorCode_9 : decode cX10_errorCode 9 = .ok (.ireturn, 1) := by decide +kernel
theorem dX10_errorPosition_0 : decode cX10_errorPosition 0 = .ok (.aload_n 0, 1) := by decide +kernel
theorem dX10_errorPosition_1 : decode cX10_errorPosition 1 = .ok (.iconst 0, 1) := by decide +kernel
theorem dX10_errorPosition_2 : decode cX10_errorPosition 2 = .ok (.putfield 48, 3) := by decide +kernel
theorem dX10_errorPosition_5 : decode cX10_errorPosition 5 = .ok (.aload_n 0, 1) := by decide +kernel
theorem dX10_errorPosition_6 : decode cX10_errorPosition 6 = .ok (.getfield 38, 3) := by decide +kernel
theorem dX10_errorPosition_9 : decode cX10_errorPosition 9 = .ok (.ireturn, 1) := by decide +kernel
set_option maxRecDepth 20000 in
theorem ggX10_onDeck_X10_ofCar : GoodIn wsX10_onDeck wsX10_ofCar := goodIn_r _ [6, 1, 7, 8, 9, 10, 11, 12, 13, 14, 15, 16, 17, 18, 19, 20, 21, 22, 23, 24, 25, 26, 27, 28, 29] (by decide +kernel) (by decide +kernel)
set_option maxRecDepth 20000 in
theorem gX10_onDeck_X10_ofCar : GoodIn wsX10_onDeck (wsV RX10 55 RX10 yX10_ofCar wsX10_ofCar) := goodIn_app (goodIn_of _ (by decide +kernel)) ggX10_onDeck_X10_ofCar
theorem dX10_onDeck_0 : decode cX10_onDeck 0 = .ok (.iconst 0, 1) := by decide +kernel
theorem dX10_onDeck_1 : decode cX10_onDeck 1 = .ok (.istore_n 1, 1) := by decide +kernel
theorem dX10_onDeck_2 : decode cX10_onDeck 2 = .ok (.iconst 0, 1) := by decide +kernel
theorem dX10_onDeck_3 : decode cX10_onDeck 3 = .ok (.istore_n 2, 1) := by decide +kernel
theorem dX10_onDeck_4 : decode cX10_onDeck 4 = .ok (.iload_n 2, 1) := by decide +kernel
theorem dX10_onDeck_5 : decode cX10_onDeck 5 = .ok (.aload_n 0, 1) := by decide +kernel
theorem dX10_onDeck_6 : decode cX10_onDeck 6 = .ok (.getfield 7, 3) := by decide +kernel
theorem dX10_onDeck_9 : decode cX10_onDeck 9 = .ok (.bipush 13, 2) := by decide +kernel
theorem dX10_onDeck_11 : decode cX10_onDeck 11 = .ok (.iaload, 1) := by decide +kernel
theorem dX10_onDeck_12 : decode cX10_onDeck 12 = .ok (.if_icmp .ge 27, 3) := by decide +kernel
theorem dX10_onDeck_15 : decode cX10_onDeck 15 = .ok (.iload_n 1, 1) := by decide +kernel
theorem dX10_onDeck_16 : decode cX10_onDeck 16 = .ok (.aload_n 0, 1) := by decide +kernel
theorem dX10_onDeck_17 : decode cX10_onDeck 17 = .ok (.iload_n 2, 1) := by decide +kernel
theorem dX10_onDeck_18 : decode cX10_onDeck 18 = .ok (.iconst 2, 1) := by decide +kernel
theorem dX10_onDeck_19 : decode cX10_onDeck 19 = .ok (.invokevirtual 55, 3) := by decide +kernel
theorem dX10_onDeck_22 : decode cX10_onDeck 22 = .ok (.iconst 2, 1) := by decide +kernel
theorem dX10_onDeck_23 : decode cX10_onDeck 23 = .ok (.if_icmp .ne 7, 3) := by decide +kernel
theorem dX10_onDeck_26 : decode cX10_onDeck 26 = .ok (.iconst 1, 1) := by decide +kernel
theorem dX10_onDeck_27 : decode cX10_onDeck 27 = .ok (.goto 4, 3) := by decide +kernel
theorem dX10_onDeck_30 : decode cX10_onDeck 30 = .ok (.iconst 0, 1) := by decide +kernel
theorem dX10_onDeck_31 : decode cX10_onDeck 31 = .ok (.iadd, 1) := by decide +kernel
theorem dX10_onDeck_32 : decode cX10_onDeck 32 = .ok (.istore_n 1, 1) := by decide +kernel
theorem dX10_onDeck_33 : decode cX10_onDeck 33 = .ok (.iinc 2 1, 3) := by decide +kernel
theorem dX10_onDeck_36 : decode cX10_onDeck 36 = .ok (.goto (-32), 3) := by decide +kernel
theorem dX10_onDeck_39 : decode cX10_onDeck 39 = .ok (.iload_n 1, 1) := by decide +kernel
theorem dX10_onDeck_40 : decode cX10_onDeck 40 = .ok (.ireturn, 1) := by decide +kernel
set_option maxRecDepth 20000 in
theorem ggX10_count_X10_onDeck : GoodIn wsX10_count wsX10_onDeck := goodIn_r _ [8, 2, 9, 10, 11, 7, 12, 25, 26, 27, 28, 29, 30, 31, 32, 33, 34, 35, 36, 37, 38, 39, 40, 41, 42, 43, 44, 45, 46, 47] (by decide +kernel) (by decide +kernel)
set_option maxRecDepth 20000 in
theorem gX10_count_X10_onDeck : GoodIn wsX10_count (wsV RX10 379 RX10 yX10_onDeck wsX10_onDeck) := goodIn_app (goodIn_of _ (by decide +kernel)) ggX10_count_X10_onDeck
set_option maxRecDepth 20000 in
theorem ggX10_count_X10_weightOnDeck : GoodIn wsX10_count wsX10_weightOnDeck := goodIn_r _ [16, 2, 9, 10, 11, 7, 12, 25, 26, 27, 28, 29, 30, 31, 32, 33, 34, 35, 36, 37, 38, 39, 40, 41, 42, 43, 44, 45, 46, 47] (by decide +kernel) (by decide +kernel)
set_option maxRecDepth 20000 in
theorem gX10_count_X10_weightOnDeck : GoodIn wsX10_count (wsV RX10 74 RX10 yX10_weightOnDeck wsX10_weightOnDeck) := goodIn_app (goodIn_of _ (by decide +kernel)) ggX10_count_X10_weightOnDeck
set_option maxRecDepth 20000 in
theorem ggX10_count_X10_countMore : GoodIn wsX10_count wsX10_countMore := goodIn_r _ [20, 2, 21, 22, 23, 7, 24, 1, 25, 26, 27, 28, 29, 30, 31, 32, 33, 34, 35, 36, 37, 38, 39, 40, 41, 42, 43, 44, 45, 46, 47] (by decide +kernel) (by decide +kernel)
set_option maxRecDepth 20000 in
theorem gX10_count_X10_countMore : GoodIn wsX10_count (wsV RX10 382 RX10 yX10_countMore wsX10_countMore) := goodIn_app (goodIn_of _ (by decide +kernel)) ggX10_count_X10_countMore
theorem dX10_count_0 : decode cX10_count 0 = .ok (.aload_n 0, 1) := by decide +kernel
theorem dX10_count_1 : decode cX10_count 1 = .ok (.iconst 0, 1) := by decide +kernel
theorem dX10_count_2 : decode cX10_count 2 = .ok (.putfield 48, 3) := by decide +kernel
theorem dX10_count_5 : decode cX10_count 5 = .ok (.iload_n 1, 1) := by decide +kernel
theorem dX10_count_6 : decode cX10_count 6 = .ok (.tableswitch 167 0 17 #[86, 93, 101, 106, 114, 121, 128, 135, 140, 147, 154, 167, 167, 167, 167, 167, 167, 162], 86) := by decide +kernel
theorem dX10_count_92 : decode cX10_count 92 = .ok (.aload_n 0, 1) := by decide +kernel
theorem dX10_count_93 : decode cX10_count 93 = .ok (.getfield 7, 3) := by decide +kernel
theorem dX10_count_96 : decode cX10_count 96 = .ok (.iconst 0, 1) := by decide +kernel
theorem dX10_count_97 : decode cX10_count 97 = .ok (.iaload, 1) := by decide +kernel
theorem dX10_count_98 : decode cX10_count 98 = .ok (.ireturn, 1) := by decide +kernel
theorem dX10_count_99 : decode cX10_count 99 = .ok (.aload_n 0, 1) := by decide +kernel
theorem dX10_count_100 : decode cX10_count 100 = .ok (.getfield 7, 3) := by decide +kernel
theorem dX10_count_103 : decode cX10_count 103 = .ok (.bipush 14, 2) := by decide +kernel
theorem dX10_count_105 : decode cX10_count 105 = .ok (.iaload, 1) := by decide +kernel
theorem dX10_count_106 : decode cX10_count 106 = .ok (.ireturn, 1) := by decide +kernel
theorem dX10_count_107 : decode cX10_count 107 = .ok (.aload_n 0, 1) := by decide +kernel
theorem dX10_count_108 : decode cX10_count 108 = .ok (.invokevirtual 379, 3) := by decide +kernel
theorem dX10_count_111 : decode cX10_count 111 = .ok (.ireturn, 1) := by decide +kernel
theorem dX10_count_112 : decode cX10_count 112 = .ok (.aload_n 0, 1) := by decide +kernel
theorem dX10_count_113 : decode cX10_count 113 = .ok (.getfield 7, 3) := by decide +kernel
theorem dX10_count_116 : decode cX10_count 116 = .ok (.bipush 13, 2) := by decide +kernel
theorem dX10_count_118 : decode cX10_count 118 = .ok (.iaload, 1) := by decide +kernel
theorem dX10_count_119 : decode cX10_count 119 = .ok (.ireturn, 1) := by decide +kernel
theorem dX10_count_120 : decode cX10_count 120 = .ok (.aload_n 0, 1) := by decide +kernel
theorem dX10_count_121 : decode cX10_count 121 = .ok (.getfield 7, 3) := by decide +kernel
theorem dX10_count_124 : decode cX10_count 124 = .ok (.iconst 1, 1) := by decide +kernel
theorem dX10_count_125 : decode cX10_count 125 = .ok (.iaload, 1) := by decide +kernel
theorem dX10_count_126 : decode cX10_count 126 = .ok (.ireturn, 1) := by decide +kernel
theorem dX10_count_127 : decode cX10_count 127 = .ok (.aload_n 0, 1) := by decide +kernel
theorem dX10_count_128 : decode cX10_count 128 = .ok (.getfield 7, 3) := by decide +kernel
theorem dX10_count_131 : decode cX10_count 131 = .ok (.iconst 2, 1) := by decide +kernel
theorem dX10_count_132 : decode cX10_count 132 = .ok (.iaload, 1) := by decide +kernel
theorem dX10_count_133 : decode cX10_count 133 = .ok (.ireturn, 1) := by decide +kernel
theorem dX10_count_134 : decode cX10_count 134 = .ok (.aload_n 0, 1) := by decide +kernel
theorem dX10_count_135 : decode cX10_count 135 = .ok (.getfield 7, 3) := by decide +kernel
theorem dX10_count_138 : decode cX10_count 138 = .ok (.iconst 3, 1) := by decide +kernel
theorem dX10_count_139 : decode cX10_count 139 = .ok (.iaload, 1) := by decide +kernel
theorem dX10_count_140 : decode cX10_count 140 = .ok (.ireturn, 1) := by decide +kernel
theorem dX10_count_141 : decode cX10_count 141 = .ok (.aload_n 0, 1) := by decide +kernel
theorem dX10_count_142 : decode cX10_count 142 = .ok (.invokevirtual 74, 3) := by decide +kernel
theorem dX10_count_145 : decode cX10_count 145 = .ok (.ireturn, 1) := by decide +kernel
theorem dX10_count_146 : decode cX10_count 146 = .ok (.aload_n 0, 1) := by decide +kernel
theorem dX10_count_147 : decode cX10_count 147 = .ok (.getfield 7, 3) := by decide +kernel
theorem dX10_count_150 : decode cX10_count 150 = .ok (.iconst 4, 1) := by decide +kernel
theorem dX10_count_151 : decode cX10_count 151 = .ok (.iaload, 1) := by decide +kernel
theorem dX10_count_152 : decode cX10_count 152 = .ok (.ireturn, 1) := by decide +kernel
theorem dX10_count_153 : decode cX10_count 153 = .ok (.aload_n 0, 1) := by decide +kernel
theorem dX10_count_154 : decode cX10_count 154 = .ok (.getfield 7, 3) := by decide +kernel
theorem dX10_count_157 : decode cX10_count 157 = .ok (.iconst 5, 1) := by decide +kernel
theorem dX10_count_158 : decode cX10_count 158 = .ok (.iaload, 1) := by decide +kernel
theorem dX10_count_159 : decode cX10_count 159 = .ok (.ireturn, 1) := by decide +kernel
theorem dX10_count_160 : decode cX10_count 160 = .ok (.aload_n 0, 1) := by decide +kernel
theorem dX10_count_161 : decode cX10_count 161 = .ok (.getfield 7, 3) := by decide +kernel
theorem dX10_count_164 : decode cX10_count 164 = .ok (.bipush 6, 2) := by decide +kernel
theorem dX10_count_166 : decode cX10_count 166 = .ok (.iaload, 1) := by decide +kernel
theorem dX10_count_167 : decode cX10_count 167 = .ok (.ireturn, 1) := by decide +kernel
theorem dX10_count_168 : decode cX10_count 168 = .ok (.aload_n 0, 1) := by decide +kernel
theorem dX10_count_169 : decode cX10_count 169 = .ok (.getfield 313, 3) := by decide +kernel
theorem dX10_count_172 : decode cX10_count 172 = .ok (.ireturn, 1) := by decide +kernel
theorem dX10_count_173 : decode cX10_count 173 = .ok (.aload_n 0, 1) := by decide +kernel
theorem dX10_count_174 : decode cX10_count 174 = .ok (.iload_n 1, 1) := by decide +kernel
theorem dX10_count_175 : decode cX10_count 175 = .ok (.invokevirtual 382, 3) := by decide +kernel
theorem dX10_count_178 : decode cX10_count 178 = .ok (.ireturn, 1) := by decide +kernel
set_option maxRecDepth 20000 in
theorem ggX10_countMore_X10_fail : GoodIn wsX10_countMore wsX10_fail := goodIn_r _ [6, 7, 8, 9, 10, 11, 12, 13, 14, 15, 16, 17, 18, 19, 20, 21, 22, 23, 24, 25, 26, 27, 28, 29, 30] (by decide +kernel) (by decide +kernel)
set_option maxRecDepth 20000 in
theorem gX10_countMore_X10_fail : GoodIn wsX10_countMore (wsV RX10 161 RX10 yX10_fail wsX10_fail) := goodIn_app (goodIn_of _ (by decide +kernel)) ggX10_countMore_X10_fail
theorem dX10_countMore_0 : decode cX10_countMore 0 = .ok (.iload_n 1, 1) := by decide +kernel
theorem dX10_countMore_1 : decode cX10_countMore 1 = .ok (.tableswitch 87 11 16 #[39, 47, 55, 63, 71, 79], 39) := by decide +kernel
theorem dX10_countMore_40 : decode cX10_countMore 40 = .ok (.aload_n 0, 1) := by decide +kernel
theorem dX10_countMore_41 : decode cX10_countMore 41 = .ok (.getfield 7, 3) := by decide +kernel
theorem dX10_countMore_44 : decode cX10_countMore 44 = .ok (.bipush 7, 2) := by decide +kernel
theorem dX10_countMore_46 : decode cX10_countMore 46 = .ok (.iaload, 1) := by decide +kernel
theorem dX10_countMore_47 : decode cX10_countMore 47 = .ok (.ireturn, 1) := by decide +kernel
theorem dX10_countMore_48 : decode cX10_countMore 48 = .ok (.aload_n 0, 1) := by decide +kernel
theorem dX10_countMore_49 : decode cX10_countMore 49 = .ok (.getfield 7, 3) := by decide +kernel
theorem dX10_countMore_52 : decode cX10_countMore 52 = .ok (.bipush 8, 2) := by decide +kernel
theorem dX10_countMore_54 : decode cX10_countMore 54 = .ok (.iaload, 1) := by decide +kernel
theorem dX10_countMore_55 : decode cX10_countMore 55 = .ok (.ireturn, 1) := by decide +kernel
theorem dX10_countMore_56 : decode cX10_countMore 56 = .ok (.aload_n 0, 1) := by decide +kernel
theorem dX10_countMore_57 : decode cX10_countMore 57 = .ok (.getfield 7, 3) := by decide +kernel
theorem dX10_countMore_60 : decode cX10_countMore 60 = .ok (.bipush 9, 2) := by decide +kernel
theorem dX10_countMore_62 : decode cX10_countMore 62 = .ok (.iaload, 1) := by decide +kernel
theorem dX10_countMore_63 : decode cX10_countMore 63 = .ok (.ireturn, 1) := by decide +kernel
theorem dX10_countMore_64 : decode cX10_countMore 64 = .ok (.aload_n 0, 1) := by decide +kernel
theorem dX10_countMore_65 : decode cX10_countMore 65 = .ok (.getfield 7, 3) := by decide +kernel
theorem dX10_countMore_68 : decode cX10_countMore 68 = .ok (.bipush 10, 2) := by decide +kernel
theorem dX10_countMore_70 : decode cX10_countMore 70 = .ok (.iaload, 1) := by decide +kernel
theorem dX10_countMore_71 : decode cX10_countMore 71 = .ok (.ireturn, 1) := by decide +kernel
theorem dX10_countMore_72 : decode cX10_countMore 72 = .ok (.aload_n 0, 1) := by decide +kernel
theorem dX10_countMore_73 : decode cX10_countMore 73 = .ok (.getfield 7, 3) := by decide +kernel
theorem dX10_countMore_76 : decode cX10_countMore 76 = .ok (.bipush 11, 2) := by decide +kernel
theorem dX10_countMore_78 : decode cX10_countMore 78 = .ok (.iaload, 1) := by decide +kernel
theorem dX10_countMore_79 : decode cX10_countMore 79 = .ok (.ireturn, 1) := by decide +kernel
theorem dX10_countMore_80 : decode cX10_countMore 80 = .ok (.aload_n 0, 1) := by decide +kernel
theorem dX10_countMore_81 : decode cX10_countMore 81 = .ok (.getfield 7, 3) := by decide +kernel
theorem dX10_countMore_84 : decode cX10_countMore 84 = .ok (.bipush 12, 2) := by decide +kernel
theorem dX10_countMore_86 : decode cX10_countMore 86 = .ok (.iaload, 1) := by decide +kernel
theorem dX10_countMore_87 : decode cX10_countMore 87 = .ok (.ireturn, 1) := by decide +kernel
theorem dX10_countMore_88 : decode cX10_countMore 88 = .ok (.aload_n 0, 1) := by decide +kernel
theorem dX10_countMore_89 : decode cX10_countMore 89 = .ok (.iconst 1, 1) := by decide +kernel
theorem dX10_countMore_90 : decode cX10_countMore 90 = .ok (.invokevirtual 161, 3) := by decide +kernel
theorem dX10_countMore_93 : decode cX10_countMore 93 = .ok (.ireturn, 1) := by decide +kernel
set_option maxRecDepth 20000 in
theorem ggX10_setting_X10_isBetween : GoodIn wsX10_setting wsX10_isBetween := goodIn_r _ [6] (by decide +kernel) (by decide +kernel)
set_option maxRecDepth 20000 in
theorem gX10_setting_X10_isBetween : GoodIn wsX10_setting (va_wsS RX10 62 yX10_isBetween wsX10_isBetween) := goodIn_app (goodIn_of _ (by decide +kernel)) ggX10_setting_X10_isBetween
set_option maxRecDepth 20000 in
theorem ggX10_setting_X10_fail : GoodIn wsX10_setting wsX10_fail := goodIn_r _ [10, 1, 11, 12, 13, 14, 15, 16, 17, 18, 19, 20, 21, 22, 23, 24, 25, 26, 27, 28, 29, 30, 31, 32, 33] (by decide +kernel) (by decide +kernel)
set_option maxRecDepth 20000 in
theorem gX10_setting_X10_fail : GoodIn wsX10_setting (wsV RX10 161 RX10 yX10_fail wsX10_fail) := goodIn_app (goodIn_of _ (by decide +kernel)) ggX10_setting_X10_fail
theorem dX10_setting_0 : decode cX10_setting 0 = .ok (.aload_n 0, 1) := by decide +kernel
theorem dX10_setting_1 : decode cX10_setting 1 = .ok (.iconst 0, 1) := by decide +kernel
theorem dX10_setting_2 : decode cX10_setting 2 = .ok (.putfield 48, 3) := by decide +kernel
theorem dX10_setting_5 : decode cX10_setting 5 = .ok (.iload_n 1, 1) := by decide +kernel
theorem dX10_setting_6 : decode cX10_setting 6 = .ok (.iconst 0, 1) := by decide +kernel
theorem dX10_setting_7 : decode cX10_setting 7 = .ok (.bipush 13, 2) := by decide +kernel
theorem dX10_setting_9 : decode cX10_setting 9 = .ok (.invokestatic 62, 3) := by decide +kernel
theorem dX10_setting_12 : decode cX10_setting 12 = .ok (.ifCond .eq 15, 3) := by decide +kernel
theorem dX10_setting_15 : decode cX10_setting 15 = .ok (.aload_n 0, 1) := by decide +kernel
theorem dX10_setting_16 : decode cX10_setting 16 = .ok (.getfield 7, 3) := by decide +kernel
theorem dX10_setting_19 : decode cX10_setting 19 = .ok (.bipush 15, 2) := by decide +kernel
theorem dX10_setting_21 : decode cX10_setting 21 = .ok (.iload_n 1, 1) := by decide +kernel
theorem dX10_setting_22 : decode cX10_setting 22 = .ok (.iadd, 1) := by decide +kernel
theorem dX10_setting_23 : decode cX10_setting 23 = .ok (.iaload, 1) := by decide +kernel
theorem dX10_setting_24 : decode cX10_setting 24 = .ok (.goto 8, 3) := by decide +kernel
theorem dX10_setting_27 : decode cX10_setting 27 = .ok (.aload_n 0, 1) := by decide +kernel
theorem dX10_setting_28 : decode cX10_setting 28 = .ok (.iconst 1, 1) := by decide +kernel
theorem dX10_setting_29 : decode cX10_setting 29 = .ok (.invokevirtual 161, 3) := by decide +kernel
theorem dX10_setting_32 : decode cX10_setting 32 = .ok (.ireturn, 1) := by decide +kernel
set_option maxRecDepth 20000 in
theorem ggX10_kind_X10_isKind : GoodIn wsX10_kind wsX10_isKind := goodIn_r _ [5, 6, 7, 4, 8] (by decide +kernel) (by decide +kernel)
set_option maxRecDepth 20000 in
theorem gX10_kind_X10_isKind : GoodIn wsX10_kind (va_wsS RX10 385 yX10_isKind wsX10_isKind) := goodIn_app (goodIn_of _ (by decide +kernel)) ggX10_kind_X10_isKind
set_option maxRecDepth 20000 in
theorem ggX10_kind_X10_fail : GoodIn wsX10_kind wsX10_fail := goodIn_r _ [12, 1, 18, 19, 20, 21, 22, 23, 24, 25, 26, 27, 28, 29, 30, 31, 32, 33, 34, 35, 36, 37, 38, 39, 40] (by decide +kernel) (by decide +kernel)
set_option maxRecDepth 20000 in
theorem gX10_kind_X10_fail : GoodIn wsX10_kind (wsV RX10 161 RX10 yX10_fail wsX10_fail) := goodIn_app (goodIn_of _ (by decide +kernel)) ggX10_kind_X10_fail
set_option maxRecDepth 20000 in
theorem ggX10_kind_X10_isBetween : GoodIn wsX10_kind wsX10_isBetween := goodIn_r _ [8] (by decide +kernel) (by decide +kernel)
set_option maxRecDepth 20000 in
theorem gX10_kind_X10_isBetween : GoodIn wsX10_kind (va_wsS RX10 62 yX10_isBetween wsX10_isBetween) := goodIn_app (goodIn_of _ (by decide +kernel)) ggX10_kind_X10_isBetween
set_option maxRecDepth 20000 in
theorem ggX10_kind_X10_ofKind : GoodIn wsX10_kind wsX10_ofKind := goodIn_r _ [16, 17, 18, 19, 20, 21, 22, 23, 24, 25, 26, 27, 28, 29, 30, 31, 32, 33, 34, 35, 36, 37, 38, 39, 40] (by decide +kernel) (by decide +kernel)
set_option maxRecDepth 20000 in
theorem gX10_kind_X10_ofKind : GoodIn wsX10_kind (wsV RX10 59 RX10 yX10_ofKind wsX10_ofKind) := goodIn_app (goodIn_of _ (by decide +kernel)) ggX10_kind_X10_ofKind
theorem dX10_kind_0 : decode cX10_kind 0 = .ok (.aload_n 0, 1) := by decide +kernel
theorem dX10_kind_1 : decode cX10_kind 1 = .ok (.iconst 0, 1) := by decide +kernel
theorem dX10_kind_2 : decode cX10_kind 2 = .ok (.putfield 48, 3) := by decide +kernel
theorem dX10_kind_5 : decode cX10_kind 5 = .ok (.iload_n 1, 1) := by decide +kernel
theorem dX10_kind_6 : decode cX10_kind 6 = .ok (.invokestatic 385, 3) := by decide +kernel
theorem dX10_kind_9 : decode cX10_kind 9 = .ok (.ifCond .ne 9, 3) := by decide +kernel
theorem dX10_kind_12 : decode cX10_kind 12 = .ok (.aload_n 0, 1) := by decide +kernel
theorem dX10_kind_13 : decode cX10_kind 13 = .ok (.iconst 1, 1) := by decide +kernel
theorem dX10_kind_14 : decode cX10_kind 14 = .ok (.invokevirtual 161, 3) := by decide +kernel
theorem dX10_kind_17 : decode cX10_kind 17 = .ok (.ireturn, 1) := by decide +kernel
theorem dX10_kind_18 : decode cX10_kind 18 = .ok (.iload_n 2, 1) := by decide +kernel
theorem dX10_kind_19 : decode cX10_kind 19 = .ok (.iconst 0, 1) := by decide +kernel
theorem dX10_kind_20 : decode cX10_kind 20 = .ok (.iconst 2, 1) := by decide +kernel
theorem dX10_kind_21 : decode cX10_kind 21 = .ok (.invokestatic 62, 3) := by decide +kernel
theorem dX10_kind_24 : decode cX10_kind 24 = .ok (.ifCond .eq 12, 3) := by decide +kernel
theorem dX10_kind_27 : decode cX10_kind 27 = .ok (.aload_n 0, 1) := by decide +kernel
theorem dX10_kind_28 : decode cX10_kind 28 = .ok (.iload_n 1, 1) := by decide +kernel
theorem dX10_kind_29 : decode cX10_kind 29 = .ok (.iload_n 2, 1) := by decide +kernel
theorem dX10_kind_30 : decode cX10_kind 30 = .ok (.invokevirtual 59, 3) := by decide +kernel
theorem dX10_kind_33 : decode cX10_kind 33 = .ok (.goto 8, 3) := by decide +kernel
theorem dX10_kind_36 : decode cX10_kind 36 = .ok (.aload_n 0, 1) := by decide +kernel
theorem dX10_kind_37 : decode cX10_kind 37 = .ok (.iconst 2, 1) := by decide +kernel
theorem dX10_kind_38 : decode cX10_kind 38 = .ok (.invokevirtual 161, 3) := by decide +kernel
theorem dX10_kind_41 : decode cX10_kind 41 = .ok (.ireturn, 1) := by decide +kernel
set_option maxRecDepth 20000 in
theorem ggX10_car_X10_isCar : GoodIn wsX10_car wsX10_isCar := goodIn_r _ [6, 7, 8, 9, 5, 10, 19, 20, 21, 22, 23, 24, 25, 26, 27, 28, 29, 30, 31, 32, 33, 34, 35, 36, 37, 38, 39, 40, 41] (by decide +kernel) (by decide +kernel)
set_option maxRecDepth 20000 in
theorem gX10_car_X10_isCar : GoodIn wsX10_car (wsV RX10 66 RX10 yX10_isCar wsX10_isCar) := goodIn_app (goodIn_of _ (by decide +kernel)) ggX10_car_X10_isCar
set_option maxRecDepth 20000 in
theorem ggX10_car_X10_fail : GoodIn wsX10_car wsX10_fail := goodIn_r _ [14, 1, 19, 20, 21, 22, 23, 24, 25, 26, 27, 28, 29, 30, 31, 32, 33, 34, 35, 36, 37, 38, 39, 40, 41] (by decide +kernel) (by decide +kernel)
set_option maxRecDepth 20000 in
theorem gX10_car_X10_fail : GoodIn wsX10_car (wsV RX10 161 RX10 yX10_fail wsX10_fail) := goodIn_app (goodIn_of _ (by decide +kernel)) ggX10_car_X10_fail
set_option maxRecDepth 20000 in
theorem ggX10_car_X10_isBetween : GoodIn wsX10_car wsX10_isBetween := goodIn_r _ [10] (by decide +kernel) (by decide +kernel)
set_option maxRecDepth 20000 in
theorem gX10_car_X10_isBetween : GoodIn wsX10_car (va_wsS RX10 62 yX10_isBetween wsX10_isBetween) := goodIn_app (goodIn_of _ (by decide +kernel)) ggX10_car_X10_isBetween
set_option maxRecDepth 20000 in
theorem ggX10_car_X10_ofCar : GoodIn wsX10_car wsX10_ofCar := goodIn_r _ [18, 7, 19, 20, 21, 22, 23, 24, 25, 26, 27, 28, 29, 30, 31, 32, 33, 34, 35, 36, 37, 38, 39, 40, 41] (by decide +kernel) (by decide +kernel)
set_option maxRecDepth 20000 in
theorem gX10_car_X10_ofCar : GoodIn wsX10_car (wsV RX10 55 RX10 yX10_ofCar wsX10_ofCar) := goodIn_app (goodIn_of _ (by decide +kernel)) ggX10_car_X10_ofCar
theorem dX10_car_0 : decode cX10_car 0 = .ok (.aload_n 0, 1) := by decide +kernel
theorem dX10_car_1 : decode cX10_car 1 = .ok (.iconst 0, 1) := by decide +kernel
theorem dX10_car_2 : decode cX10_car 2 = .ok (.putfield 48, 3) := by decide +kernel
theorem dX10_car_5 : decode cX10_car 5 = .ok (.aload_n 0, 1) := by decide +kernel
theorem dX10_car_6 : decode cX10_car 6 = .ok (.iload_n 1, 1) := by decide +kernel
theorem dX10_car_7 : decode cX10_car 7 = .ok (.invokevirtual 66, 3) := by decide +kernel
theorem dX10_car_10 : decode cX10_car 10 = .ok (.ifCond .ne 9, 3) := by decide +kernel
theorem dX10_car_13 : decode cX10_car 13 = .ok (.aload_n 0, 1) := by decide +kernel
theorem dX10_car_14 : decode cX10_car 14 = .ok (.iconst 1, 1) := by decide +kernel
theorem dX10_car_15 : decode cX10_car 15 = .ok (.invokevirtual 161, 3) := by decide +kernel
theorem dX10_car_18 : decode cX10_car 18 = .ok (.ireturn, 1) := by decide +kernel
theorem dX10_car_19 : decode cX10_car 19 = .ok (.iload_n 2, 1) := by decide +kernel
theorem dX10_car_20 : decode cX10_car 20 = .ok (.iconst 0, 1) := by decide +kernel
theorem dX10_car_21 : decode cX10_car 21 = .ok (.bipush 6, 2) := by decide +kernel
theorem dX10_car_23 : decode cX10_car 23 = .ok (.invokestatic 62, 3) := by decide +kernel
theorem dX10_car_26 : decode cX10_car 26 = .ok (.ifCond .eq 12, 3) := by decide +kernel
theorem dX10_car_29 : decode cX10_car 29 = .ok (.aload_n 0, 1) := by decide +kernel
theorem dX10_car_30 : decode cX10_car 30 = .ok (.iload_n 1, 1) := by decide +kernel
theorem dX10_car_31 : decode cX10_car 31 = .ok (.iload_n 2, 1) := by decide +kernel
theorem dX10_car_32 : decode cX10_car 32 = .ok (.invokevirtual 55, 3) := by decide +kernel
theorem dX10_car_35 : decode cX10_car 35 = .ok (.goto 8, 3) := by decide +kernel
theorem dX10_car_38 : decode cX10_car 38 = .ok (.aload_n 0, 1) := by decide +kernel
theorem dX10_car_39 : decode cX10_car 39 = .ok (.iconst 2, 1) := by decide +kernel
theorem dX10_car_40 : decode cX10_car 40 = .ok (.invokevirtual 161, 3) := by decide +kernel
theorem dX10_car_43 : decode cX10_car 43 = .ok (.ireturn, 1) := by decide +kernel
set_option maxRecDepth 20000 in
theorem ggX10_queued_X10_isBetween : GoodIn wsX10_queued wsX10_isBetween := goodIn_r _ [6] (by decide +kernel) (by decide +kernel)
set_option maxRecDepth 20000 in
theorem gX10_queued_X10_isBetween : GoodIn wsX10_queued (va_wsS RX10 62 yX10_isBetween wsX10_isBetween) := goodIn_app (goodIn_of _ (by decide +kernel)) ggX10_queued_X10_isBetween
theorem dX10_queued_0 : decode cX10_queued 0 = .ok (.aload_n 0, 1) := by decide +kernel
theorem dX10_queued_1 : decode cX10_queued 1 = .ok (.iconst 0, 1) := by decide +kernel
theorem dX10_queued_2 : decode cX10_queued 2 = .ok (.putfield 48, 3) := by decide +kernel
theorem dX10_queued_5 : decode cX10_queued 5 = .ok (.iload_n 1, 1) := by decide +kernel
theorem dX10_queued_6 : decode cX10_queued 6 = .ok (.iconst 0, 1) := by decide +kernel
theorem dX10_queued_7 : decode cX10_queued 7 = .ok (.aload_n 0, 1) := by decide +kernel
theorem dX10_queued_8 : decode cX10_queued 8 = .ok (.getfield 7, 3) := by decide +kernel
theorem dX10_queued_11 : decode cX10_queued 11 = .ok (.bipush 14, 2) := by decide +kernel
theorem dX10_queued_13 : decode cX10_queued 13 = .ok (.iaload, 1) := by decide +kernel
theorem dX10_queued_14 : decode cX10_queued 14 = .ok (.iconst 1, 1) := by decide +kernel
theorem dX10_queued_15 : decode cX10_queued 15 = .ok (.isub, 1) := by decide +kernel
theorem dX10_queued_16 : decode cX10_queued 16 = .ok (.invokestatic 62, 3) := by decide +kernel
theorem dX10_queued_19 : decode cX10_queued 19 = .ok (.ifCond .eq 15, 3) := by decide +kernel
theorem dX10_queued_22 : decode cX10_queued 22 = .ok (.aload_n 0, 1) := by decide +kernel
theorem dX10_queued_23 : decode cX10_queued 23 = .ok (.getfield 7, 3) := by decide +kernel
theorem dX10_queued_26 : decode cX10_queued 26 = .ok (.bipush 41, 2) := by decide +kernel
theorem dX10_queued_28 : decode cX10_queued 28 = .ok (.iload_n 1, 1) := by decide +kernel
theorem dX10_queued_29 : decode cX10_queued 29 = .ok (.iadd, 1) := by decide +kernel
theorem dX10_queued_30 : decode cX10_queued 30 = .ok (.iaload, 1) := by decide +kernel
theorem dX10_queued_31 : decode cX10_queued 31 = .ok (.goto 4, 3) := by decide +kernel
theorem dX10_queued_34 : decode cX10_queued 34 = .ok (.iconst (-1), 1) := by decide +kernel
theorem dX10_queued_35 : decode cX10_queued 35 = .ok (.ireturn, 1) := by decide +kernel
set_option maxRecDepth 20000 in
theorem ggX10_aheadOf_X10_ofCar : GoodIn wsX10_aheadOf wsX10_ofCar := goodIn_r _ [6, 1, 7, 8, 9, 10, 11, 12, 13, 14, 15, 16, 17, 18, 19, 20, 21, 22, 23, 24, 25, 26, 27, 28, 29] (by decide +kernel) (by decide +kernel)
set_option maxRecDepth 20000 in
theorem gX10_aheadOf_X10_ofCar : GoodIn wsX10_aheadOf (wsV RX10 55 RX10 yX10_ofCar wsX10_ofCar) := goodIn_app (goodIn_of _ (by decide +kernel)) ggX10_aheadOf_X10_ofCar
theorem dX10_aheadOf_0 : decode cX10_aheadOf 0 = .ok (.iconst 0, 1) := by decide +kernel
theorem dX10_aheadOf_1 : decode cX10_aheadOf 1 = .ok (.istore_n 3, 1) := by decide +kernel
theorem dX10_aheadOf_2 : decode cX10_aheadOf 2 = .ok (.iconst 0, 1) := by decide +kernel
theorem dX10_aheadOf_3 : decode cX10_aheadOf 3 = .ok (.istore 4, 2) := by decide +kernel
theorem dX10_aheadOf_5 : decode cX10_aheadOf 5 = .ok (.iload 4, 2) := by decide +kernel
theorem dX10_aheadOf_7 : decode cX10_aheadOf 7 = .ok (.aload_n 0, 1) := by decide +kernel
theorem dX10_aheadOf_8 : decode cX10_aheadOf 8 = .ok (.getfield 7, 3) := by decide +kernel
theorem dX10_aheadOf_11 : decode cX10_aheadOf 11 = .ok (.bipush 13, 2) := by decide +kernel
theorem dX10_aheadOf_13 : decode cX10_aheadOf 13 = .ok (.iaload, 1) := by decide +kernel
theorem dX10_aheadOf_14 : decode cX10_aheadOf 14 = .ok (.if_icmp .ge 67, 3) := by decide +kernel
theorem dX10_aheadOf_17 : decode cX10_aheadOf 17 = .ok (.aload_n 0, 1) := by decide +kernel
theorem dX10_aheadOf_18 : decode cX10_aheadOf 18 = .ok (.iload 4, 2) := by decide +kernel
theorem dX10_aheadOf_20 : decode cX10_aheadOf 20 = .ok (.iconst 2, 1) := by decide +kernel
theorem dX10_aheadOf_21 : decode cX10_aheadOf 21 = .ok (.invokevirtual 55, 3) := by decide +kernel
theorem dX10_aheadOf_24 : decode cX10_aheadOf 24 = .ok (.iconst 2, 1) := by decide +kernel
theorem dX10_aheadOf_25 : decode cX10_aheadOf 25 = .ok (.if_icmp .ne 18, 3) := by decide +kernel
theorem dX10_aheadOf_28 : decode cX10_aheadOf 28 = .ok (.aload_n 0, 1) := by decide +kernel
theorem dX10_aheadOf_29 : decode cX10_aheadOf 29 = .ok (.iload 4, 2) := by decide +kernel
theorem dX10_aheadOf_31 : decode cX10_aheadOf 31 = .ok (.iconst 3, 1) := by decide +kernel
theorem dX10_aheadOf_32 : decode cX10_aheadOf 32 = .ok (.invokevirtual 55, 3) := by decide +kernel
theorem dX10_aheadOf_35 : decode cX10_aheadOf 35 = .ok (.iload_n 2, 1) := by decide +kernel
theorem dX10_aheadOf_36 : decode cX10_aheadOf 36 = .ok (.if_icmp .ne 7, 3) := by decide +kernel
theorem dX10_aheadOf_39 : decode cX10_aheadOf 39 = .ok (.iconst 1, 1) := by decide +kernel
theorem dX10_aheadOf_40 : decode cX10_aheadOf 40 = .ok (.goto 4, 3) := by decide +kernel
theorem dX10_aheadOf_43 : decode cX10_aheadOf 43 = .ok (.iconst 0, 1) := by decide +kernel
theorem dX10_aheadOf_44 : decode cX10_aheadOf 44 = .ok (.istore 5, 2) := by decide +kernel
theorem dX10_aheadOf_46 : decode cX10_aheadOf 46 = .ok (.iload_n 3, 1) := by decide +kernel
theorem dX10_aheadOf_47 : decode cX10_aheadOf 47 = .ok (.iload 5, 2) := by decide +kernel
theorem dX10_aheadOf_49 : decode cX10_aheadOf 49 = .ok (.ifCond .eq 23, 3) := by decide +kernel
theorem dX10_aheadOf_52 : decode cX10_aheadOf 52 = .ok (.aload_n 0, 1) := by decide +kernel
theorem dX10_aheadOf_53 : decode cX10_aheadOf 53 = .ok (.iload 4, 2) := by decide +kernel
theorem dX10_aheadOf_55 : decode cX10_aheadOf 55 = .ok (.iconst 5, 1) := by decide +kernel
theorem dX10_aheadOf_56 : decode cX10_aheadOf 56 = .ok (.invokevirtual 55, 3) := by decide +kernel
theorem dX10_aheadOf_59 : decode cX10_aheadOf 59 = .ok (.aload_n 0, 1) := by decide +kernel
theorem dX10_aheadOf_60 : decode cX10_aheadOf 60 = .ok (.iload_n 1, 1) := by decide +kernel
theorem dX10_aheadOf_61 : decode cX10_aheadOf 61 = .ok (.iconst 5, 1) := by decide +kernel
theorem dX10_aheadOf_62 : decode cX10_aheadOf 62 = .ok (.invokevirtual 55, 3) := by decide +kernel
theorem dX10_aheadOf_65 : decode cX10_aheadOf 65 = .ok (.if_icmp .ge 7, 3) := by decide +kernel
theorem dX10_aheadOf_68 : decode cX10_aheadOf 68 = .ok (.iconst 1, 1) := by decide +kernel
theorem dX10_aheadOf_69 : decode cX10_aheadOf 69 = .ok (.goto 4, 3) := by decide +kernel
theorem dX10_aheadOf_72 : decode cX10_aheadOf 72 = .ok (.iconst 0, 1) := by decide +kernel
theorem dX10_aheadOf_73 : decode cX10_aheadOf 73 = .ok (.iadd, 1) := by decide +kernel
theorem dX10_aheadOf_74 : decode cX10_aheadOf 74 = .ok (.istore_n 3, 1) := by decide +kernel
theorem dX10_aheadOf_75 : decode cX10_aheadOf 75 = .ok (.iinc 4 1, 3) := by decide +kernel
theorem dX10_aheadOf_78 : decode cX10_aheadOf 78 = .ok (.goto (-73), 3) := by decide +kernel
theorem dX10_aheadOf_81 : decode cX10_aheadOf 81 = .ok (.iload_n 3, 1) := by decide +kernel
theorem dX10_aheadOf_82 : decode cX10_aheadOf 82 = .ok (.ireturn, 1) := by decide +kernel
set_option maxRecDepth 20000 in
theorem ggX10_standingAt_X10_ofCar : GoodIn wsX10_standingAt wsX10_ofCar := goodIn_r _ [6, 1, 11, 12, 13, 14, 15, 16, 17, 18, 19, 20, 21, 22, 23, 24, 25, 26, 27, 28, 29, 30, 31, 32, 33] (by decide +kernel) (by decide +kernel)
set_option maxRecDepth 20000 in
theorem gX10_standingAt_X10_ofCar : GoodIn wsX10_standingAt (wsV RX10 55 RX10 yX10_ofCar wsX10_ofCar) := goodIn_app (goodIn_of _ (by decide +kernel)) ggX10_standingAt_X10_ofCar
set_option maxRecDepth 20000 in
theorem ggX10_standingAt_X10_aheadOf : GoodIn wsX10_standingAt wsX10_aheadOf := goodIn_r _ [10, 1, 2, 3, 4, 5, 6, 11, 12, 13, 14, 15, 16, 17, 18, 19, 20, 21, 22, 23, 24, 25, 26, 27, 28, 29, 30, 31, 32, 33] (by decide +kernel) (by decide +kernel)
set_option maxRecDepth 20000 in
theorem gX10_standingAt_X10_aheadOf : GoodIn wsX10_standingAt (wsV RX10 388 RX10 yX10_aheadOf wsX10_aheadOf) := goodIn_app (goodIn_of _ (by decide +kernel)) ggX10_standingAt_X10_aheadOf
theorem dX10_standingAt_0 : decode cX10_standingAt 0 = .ok (.iconst 0, 1) := by decide +kernel
theorem dX10_standingAt_1 : decode cX10_standingAt 1 = .ok (.istore_n 3, 1) := by decide +kernel
theorem dX10_standingAt_2 : decode cX10_standingAt 2 = .ok (.iload_n 3, 1) := by decide +kernel
theorem dX10_standingAt_3 : decode cX10_standingAt 3 = .ok (.aload_n 0, 1) := by decide +kernel
theorem dX10_standingAt_4 : decode cX10_standingAt 4 = .ok (.getfield 7, 3) := by decide +kernel
theorem dX10_standingAt_7 : decode cX10_standingAt 7 = .ok (.bipush 13, 2) := by decide +kernel
theorem dX10_standingAt_9 : decode cX10_standingAt 9 = .ok (.iaload, 1) := by decide +kernel
theorem dX10_standingAt_10 : decode cX10_standingAt 10 = .ok (.if_icmp .ge 53, 3) := by decide +kernel
theorem dX10_standingAt_13 : decode cX10_standingAt 13 = .ok (.aload_n 0, 1) := by decide +kernel
theorem dX10_standingAt_14 : decode cX10_standingAt 14 = .ok (.iload_n 3, 1) := by decide +kernel
theorem dX10_standingAt_15 : decode cX10_standingAt 15 = .ok (.iconst 2, 1) := by decide +kernel
theorem dX10_standingAt_16 : decode cX10_standingAt 16 = .ok (.invokevirtual 55, 3) := by decide +kernel
theorem dX10_standingAt_19 : decode cX10_standingAt 19 = .ok (.iconst 2, 1) := by decide +kernel
theorem dX10_standingAt_20 : decode cX10_standingAt 20 = .ok (.if_icmp .ne 17, 3) := by decide +kernel
theorem dX10_standingAt_23 : decode cX10_standingAt 23 = .ok (.aload_n 0, 1) := by decide +kernel
theorem dX10_standingAt_24 : decode cX10_standingAt 24 = .ok (.iload_n 3, 1) := by decide +kernel
theorem dX10_standingAt_25 : decode cX10_standingAt 25 = .ok (.iconst 3, 1) := by decide +kernel
theorem dX10_standingAt_26 : decode cX10_standingAt 26 = .ok (.invokevirtual 55, 3) := by decide +kernel
theorem dX10_standingAt_29 : decode cX10_standingAt 29 = .ok (.iload_n 1, 1) := by decide +kernel
theorem dX10_standingAt_30 : decode cX10_standingAt 30 = .ok (.if_icmp .ne 7, 3) := by decide +kernel
theorem dX10_standingAt_33 : decode cX10_standingAt 33 = .ok (.iconst 1, 1) := by decide +kernel
theorem dX10_standingAt_34 : decode cX10_standingAt 34 = .ok (.goto 4, 3) := by decide +kernel
theorem dX10_standingAt_37 : decode cX10_standingAt 37 = .ok (.iconst 0, 1) := by decide +kernel
theorem dX10_standingAt_38 : decode cX10_standingAt 38 = .ok (.istore 4, 2) := by decide +kernel
theorem dX10_standingAt_40 : decode cX10_standingAt 40 = .ok (.iload 4, 2) := by decide +kernel
theorem dX10_standingAt_42 : decode cX10_standingAt 42 = .ok (.ifCond .eq 15, 3) := by decide +kernel
theorem dX10_standingAt_45 : decode cX10_standingAt 45 = .ok (.aload_n 0, 1) := by decide +kernel
theorem dX10_standingAt_46 : decode cX10_standingAt 46 = .ok (.iload_n 3, 1) := by decide +kernel
theorem dX10_standingAt_47 : decode cX10_standingAt 47 = .ok (.iload_n 1, 1) := by decide +kernel
theorem dX10_standingAt_48 : decode cX10_standingAt 48 = .ok (.invokevirtual 388, 3) := by decide +kernel
theorem dX10_standingAt_51 : decode cX10_standingAt 51 = .ok (.iload_n 2, 1) := by decide +kernel
theorem dX10_standingAt_52 : decode cX10_standingAt 52 = .ok (.if_icmp .ne 5, 3) := by decide +kernel
theorem dX10_standingAt_55 : decode cX10_standingAt 55 = .ok (.iload_n 3, 1) := by decide +kernel
theorem dX10_standingAt_56 : decode cX10_standingAt 56 = .ok (.ireturn, 1) := by decide +kernel
theorem dX10_standingAt_57 : decode cX10_standingAt 57 = .ok (.iinc 3 1, 3) := by decide +kernel
theorem dX10_standingAt_60 : decode cX10_standingAt 60 = .ok (.goto (-58), 3) := by decide +kernel
theorem dX10_standingAt_63 : decode cX10_standingAt 63 = .ok (.iconst (-1), 1) := by decide +kernel
theorem dX10_standingAt_64 : decode cX10_standingAt 64 = .ok (.ireturn, 1) := by decide +kernel
set_option maxRecDepth 20000 in
theorem ggX10_standingMany_X10_ofCar : GoodIn wsX10_standingMany wsX10_ofCar := goodIn_r _ [6, 1, 7, 8, 9, 10, 11, 12, 13, 14, 15, 16, 17, 18, 19, 20, 21, 22, 23, 24, 25, 26, 27, 28, 29] (by decide +kernel) (by decide +kernel)
set_option maxRecDepth 20000 in
theorem gX10_standingMany_X10_ofCar : GoodIn wsX10_standingMany (wsV RX10 55 RX10 yX10_ofCar wsX10_ofCar) := goodIn_app (goodIn_of _ (by decide +kernel)) ggX10_standingMany_X10_ofCar
theorem dX10_standingMany_0 : decode cX10_standingMany 0 = .ok (.iconst 0, 1) := by decide +kernel
theorem dX10_standingMany_1 : decode cX10_standingMany 1 = .ok (.istore_n 2, 1) := by decide +kernel
theorem dX10_standingMany_2 : decode cX10_standingMany 2 = .ok (.iconst 0, 1) := by decide +kernel
theorem dX10_standingMany_3 : decode cX10_standingMany 3 = .ok (.istore_n 3, 1) := by decide +kernel
theorem dX10_standingMany_4 : decode cX10_standingMany 4 = .ok (.iload_n 3, 1) := by decide +kernel
theorem dX10_standingMany_5 : decode cX10_standingMany 5 = .ok (.aload_n 0, 1) := by decide +kernel
theorem dX10_standingMany_6 : decode cX10_standingMany 6 = .ok (.getfield 7, 3) := by decide +kernel
theorem dX10_standingMany_9 : decode cX10_standingMany 9 = .ok (.bipush 13, 2) := by decide +kernel
theorem dX10_standingMany_11 : decode cX10_standingMany 11 = .ok (.iaload, 1) := by decide +kernel
theorem dX10_standingMany_12 : decode cX10_standingMany 12 = .ok (.if_icmp .ge 37, 3) := by decide +kernel
theorem dX10_standingMany_15 : decode cX10_standingMany 15 = .ok (.iload_n 2, 1) := by decide +kernel
theorem dX10_standingMany_16 : decode cX10_standingMany 16 = .ok (.aload_n 0, 1) := by decide +kernel
theorem dX10_standingMany_17 : decode cX10_standingMany 17 = .ok (.iload_n 3, 1) := by decide +kernel
theorem dX10_standingMany_18 : decode cX10_standingMany 18 = .ok (.iconst 2, 1) := by decide +kernel
theorem dX10_standingMany_19 : decode cX10_standingMany 19 = .ok (.invokevirtual 55, 3) := by decide +kernel
theorem dX10_standingMany_22 : decode cX10_standingMany 22 = .ok (.iconst 2, 1) := by decide +kernel
theorem dX10_standingMany_23 : decode cX10_standingMany 23 = .ok (.if_icmp .ne 17, 3) := by decide +kernel
theorem dX10_standingMany_26 : decode cX10_standingMany 26 = .ok (.aload_n 0, 1) := by decide +kernel
theorem dX10_standingMany_27 : decode cX10_standingMany 27 = .ok (.iload_n 3, 1) := by decide +kernel
theorem dX10_standingMany_28 : decode cX10_standingMany 28 = .ok (.iconst 3, 1) := by decide +kernel
theorem dX10_standingMany_29 : decode cX10_standingMany 29 = .ok (.invokevirtual 55, 3) := by decide +kernel
theorem dX10_standingMany_32 : decode cX10_standingMany 32 = .ok (.iload_n 1, 1) := by decide +kernel
theorem dX10_standingMany_33 : decode cX10_standingMany 33 = .ok (.if_icmp .ne 7, 3) := by decide +kernel
theorem dX10_standingMany_36 : decode cX10_standingMany 36 = .ok (.iconst 1, 1) := by decide +kernel
theorem dX10_standingMany_37 : decode cX10_standingMany 37 = .ok (.goto 4, 3) := by decide +kernel
theorem dX10_standingMany_40 : decode cX10_standingMany 40 = .ok (.iconst 0, 1) := by decide +kernel
theorem dX10_standingMany_41 : decode cX10_standingMany 41 = .ok (.iadd, 1) := by decide +kernel
theorem dX10_standingMany_42 : decode cX10_standingMany 42 = .ok (.istore_n 2, 1) := by decide +kernel
theorem dX10_standingMany_43 : decode cX10_standingMany 43 = .ok (.iinc 3 1, 3) := by decide +kernel
theorem dX10_standingMany_46 : decode cX10_standingMany 46 = .ok (.goto (-42), 3) := by decide +kernel
theorem dX10_standingMany_49 : decode cX10_standingMany 49 = .ok (.iload_n 2, 1) := by decide +kernel
theorem dX10_standingMany_50 : decode cX10_standingMany 50 = .ok (.ireturn, 1) := by decide +kernel
set_option maxRecDepth 20000 in
theorem ggX10_standing_X10_isLane : GoodIn wsX10_standing wsX10_isLane := goodIn_r _ [5, 6, 7, 4, 8] (by decide +kernel) (by decide +kernel)
set_option maxRecDepth 20000 in
theorem gX10_standing_X10_isLane : GoodIn wsX10_standing (va_wsS RX10 391 yX10_isLane wsX10_isLane) := goodIn_app (goodIn_of _ (by decide +kernel)) ggX10_standing_X10_isLane
set_option maxRecDepth 20000 in
theorem ggX10_standing_X10_standingAt : GoodIn wsX10_standing wsX10_standingAt := goodIn_r _ [12, 13, 14, 15, 16, 4, 17, 18, 19, 20, 21, 26, 27, 28, 29, 30, 31, 32, 33, 34, 35, 36, 37, 38, 39, 40, 41, 42, 43, 44, 45, 46, 47, 48] (by decide +kernel) (by decide +kernel)
set_option maxRecDepth 20000 in
theorem gX10_standing_X10_standingAt : GoodIn wsX10_standing (wsV RX10 394 RX10 yX10_standingAt wsX10_standingAt) := goodIn_app (goodIn_of _ (by decide +kernel)) ggX10_standing_X10_standingAt
set_option maxRecDepth 20000 in
theorem ggX10_standing_X10_fail : GoodIn wsX10_standing wsX10_fail := goodIn_r _ [25, 1, 26, 27, 28, 29, 30, 31, 32, 33, 34, 35, 36, 37, 38, 39, 40, 41, 42, 43, 44, 45, 46, 47, 48] (by decide +kernel) (by decide +kernel)
set_option maxRecDepth 20000 in
theorem gX10_standing_X10_fail : GoodIn wsX10_standing (wsV RX10 161 RX10 yX10_fail wsX10_fail) := goodIn_app (goodIn_of _ (by decide +kernel)) ggX10_standing_X10_fail
theorem dX10_standing_0 : decode cX10_standing 0 = .ok (.aload_n 0, 1) := by decide +kernel
theorem dX10_standing_1 : decode cX10_standing 1 = .ok (.iconst 0, 1) := by decide +kernel
theorem dX10_standing_2 : decode cX10_standing 2 = .ok (.putfield 48, 3) := by decide +kernel
theorem dX10_standing_5 : decode cX10_standing 5 = .ok (.iload_n 1, 1) := by decide +kernel
theorem dX10_standing_6 : decode cX10_standing 6 = .ok (.invokestatic 391, 3) := by decide +kernel
theorem dX10_standing_9 : decode cX10_standing 9 = .ok (.ifCond .eq 12, 3) := by decide +kernel
theorem dX10_standing_12 : decode cX10_standing 12 = .ok (.aload_n 0, 1) := by decide +kernel
theorem dX10_standing_13 : decode cX10_standing 13 = .ok (.iload_n 1, 1) := by decide +kernel
theorem dX10_standing_14 : decode cX10_standing 14 = .ok (.iload_n 2, 1) := by decide +kernel
theorem dX10_standing_15 : decode cX10_standing 15 = .ok (.invokevirtual 394, 3) := by decide +kernel
theorem dX10_standing_18 : decode cX10_standing 18 = .ok (.goto 8, 3) := by decide +kernel
theorem dX10_standing_21 : decode cX10_standing 21 = .ok (.aload_n 0, 1) := by decide +kernel
theorem dX10_standing_22 : decode cX10_standing 22 = .ok (.iconst 1, 1) := by decide +kernel
theorem dX10_standing_23 : decode cX10_standing 23 = .ok (.invokevirtual 161, 3) := by decide +kernel
theorem dX10_standing_26 : decode cX10_standing 26 = .ok (.ireturn, 1) := by decide +kernel
set_option maxRecDepth 20000 in
theorem ggX10_lane_X10_isLane : GoodIn wsX10_lane wsX10_isLane := goodIn_r _ [5, 6, 7, 4, 8] (by decide +kernel) (by decide +kernel)
set_option maxRecDepth 20000 in
theorem gX10_lane_X10_isLane : GoodIn wsX10_lane (va_wsS RX10 391 yX10_isLane wsX10_isLane) := goodIn_app (goodIn_of _ (by decide +kernel)) ggX10_lane_X10_isLane
set_option maxRecDepth 20000 in
theorem ggX10_lane_X10_fail : GoodIn wsX10_lane wsX10_fail := goodIn_r _ [12, 1, 38, 39, 40, 41, 42, 43, 44, 45, 46, 47, 48, 49, 50, 51, 52, 53, 54, 55, 56, 57, 58, 59, 60] (by decide +kernel) (by decide +kernel)
set_option maxRecDepth 20000 in
theorem gX10_lane_X10_fail : GoodIn wsX10_lane (wsV RX10 161 RX10 yX10_fail wsX10_fail) := goodIn_app (goodIn_of _ (by decide +kernel)) ggX10_lane_X10_fail
set_option maxRecDepth 20000 in
theorem ggX10_lane_X10_freeOf : GoodIn wsX10_lane wsX10_freeOf := goodIn_r _ [16, 17, 18, 19, 20, 4, 21, 22, 23, 24, 25, 26, 27, 28, 29, 30, 31, 32, 33, 38, 39, 40, 41, 42, 43, 44, 45, 46, 47, 48, 49, 50, 51, 52, 53, 54, 55, 56, 57, 58, 59, 60] (by decide +kernel) (by decide +kernel)
set_option maxRecDepth 20000 in
theorem gX10_lane_X10_freeOf : GoodIn wsX10_lane (wsV RX10 96 RX10 yX10_freeOf wsX10_freeOf) := goodIn_app (goodIn_of _ (by decide +kernel)) ggX10_lane_X10_freeOf
set_option maxRecDepth 20000 in
theorem ggX10_lane_X10_weightOf : GoodIn wsX10_lane wsX10_weightOf := goodIn_r _ [37, 17, 18, 19, 20, 4, 21, 22, 23, 24, 25, 38, 39, 40, 41, 42, 43, 44, 45, 46, 47, 48, 49, 50, 51, 52, 53, 54, 55, 56, 57, 58, 59, 60] (by decide +kernel) (by decide +kernel)
set_option maxRecDepth 20000 in
theorem gX10_lane_X10_weightOf : GoodIn wsX10_lane (wsV RX10 93 RX10 yX10_weightOf wsX10_weightOf) := goodIn_app (goodIn_of _ (by decide +kernel)) ggX10_lane_X10_weightOf
theorem dX10_lane_0 : decode cX10_lane 0 = .ok (.aload_n 0, 1) := by decide +kernel
theorem dX10_lane_1 : decode cX10_lane 1 = .ok (.iconst 0, 1) := by decide +kernel
theorem dX10_lane_2 : decode cX10_lane 2 = .ok (.putfield 48, 3) := by decide +kernel
theorem dX10_lane_5 : decode cX10_lane 5 = .ok (.iload_n 1, 1) := by decide +kernel
theorem dX10_lane_6 : decode cX10_lane 6 = .ok (.invokestatic 391, 3) := by decide +kernel
theorem dX10_lane_9 : decode cX10_lane 9 = .ok (.ifCond .ne 9, 3) := by decide +kernel
theorem dX10_lane_12 : decode cX10_lane 12 = .ok (.aload_n 0, 1) := by decide +kernel
theorem dX10_lane_13 : decode cX10_lane 13 = .ok (.iconst 1, 1) := by decide +kernel
theorem dX10_lane_14 : decode cX10_lane 14 = .ok (.invokevirtual 161, 3) := by decide +kernel
theorem dX10_lane_17 : decode cX10_lane 17 = .ok (.ireturn, 1) := by decide +kernel
theorem dX10_lane_18 : decode cX10_lane 18 = .ok (.iload_n 2, 1) := by decide +kernel
theorem dX10_lane_19 : decode cX10_lane 19 = .ok (.ifCond .eq 11, 3) := by decide +kernel
theorem dX10_lane_22 : decode cX10_lane 22 = .ok (.aload_n 0, 1) := by decide +kernel
theorem dX10_lane_23 : decode cX10_lane 23 = .ok (.iload_n 1, 1) := by decide +kernel
theorem dX10_lane_24 : decode cX10_lane 24 = .ok (.invokevirtual 96, 3) := by decide +kernel
theorem dX10_lane_27 : decode cX10_lane 27 = .ok (.goto 8, 3) := by decide +kernel
theorem dX10_lane_30 : decode cX10_lane 30 = .ok (.aload_n 0, 1) := by decide +kernel
theorem dX10_lane_31 : decode cX10_lane 31 = .ok (.iload_n 1, 1) := by decide +kernel
theorem dX10_lane_32 : decode cX10_lane 32 = .ok (.invokevirtual 93, 3) := by decide +kernel
theorem dX10_lane_35 : decode cX10_lane 35 = .ok (.ireturn, 1) := by decide +kernel
set_option maxRecDepth 20000 in
theorem ggX10_call_X10_isBetween : GoodIn wsX10_call wsX10_isBetween := goodIn_r _ [10] (by decide +kernel) (by decide +kernel)
set_option maxRecDepth 20000 in
theorem gX10_call_X10_isBetween : GoodIn wsX10_call (va_wsS RX10 62 yX10_isBetween wsX10_isBetween) := goodIn_app (goodIn_of _ (by decide +kernel)) ggX10_call_X10_isBetween
set_option maxRecDepth 20000 in
theorem ggX10_call_X10_fail : GoodIn wsX10_call wsX10_fail := goodIn_r _ [14, 1, 15, 16, 17, 18, 19, 20, 21, 22, 23, 24, 25, 26, 27, 28, 29, 30, 31, 32, 33, 34, 35, 36, 37] (by decide +kernel) (by decide +kernel)
set_option maxRecDepth 20000 in
theorem gX10_call_X10_fail : GoodIn wsX10_call (wsV RX10 161 RX10 yX10_fail wsX10_fail) := goodIn_app (goodIn_of _ (by decide +kernel)) ggX10_call_X10_fail
theorem dX10_call_0 : decode cX10_call 0 = .ok (.aload_n 0, 1) := by decide +kernel
theorem dX10_call_1 : decode cX10_call 1 = .ok (.iconst 0, 1) := by decide +kernel
theorem dX10_call_2 : decode cX10_call 2 = .ok (.putfield 48, 3) := by decide +kernel
theorem dX10_call_5 : decode cX10_call 5 = .ok (.iload_n 1, 1) := by decide +kernel
theorem dX10_call_6 : decode cX10_call 6 = .ok (.iconst 0, 1) := by decide +kernel
theorem dX10_call_7 : decode cX10_call 7 = .ok (.bipush 20, 2) := by decide +kernel
theorem dX10_call_9 : decode cX10_call 9 = .ok (.aload_n 0, 1) := by decide +kernel
theorem dX10_call_10 : decode cX10_call 10 = .ok (.getfield 7, 3) := by decide +kernel
theorem dX10_call_13 : decode cX10_call 13 = .ok (.bipush 8, 2) := by decide +kernel
theorem dX10_call_15 : decode cX10_call 15 = .ok (.iaload, 1) := by decide +kernel
theorem dX10_call_16 : decode cX10_call 16 = .ok (.invokestatic 128, 3) := by decide +kernel
theorem dX10_call_19 : decode cX10_call 19 = .ok (.iconst 1, 1) := by decide +kernel
theorem dX10_call_20 : decode cX10_call 20 = .ok (.isub, 1) := by decide +kernel
theorem dX10_call_21 : decode cX10_call 21 = .ok (.invokestatic 62, 3) := by decide +kernel
theorem dX10_call_24 : decode cX10_call 24 = .ok (.ifCond .ne 9, 3) := by decide +kernel
theorem dX10_call_27 : decode cX10_call 27 = .ok (.aload_n 0, 1) := by decide +kernel
theorem dX10_call_28 : decode cX10_call 28 = .ok (.iconst 1, 1) := by decide +kernel
theorem dX10_call_29 : decode cX10_call 29 = .ok (.invokevirtual 161, 3) := by decide +kernel
theorem dX10_call_32 : decode cX10_call 32 = .ok (.ireturn, 1) := by decide +kernel
theorem dX10_call_33 : decode cX10_call 33 = .ok (.iload_n 2, 1) := by decide +kernel
theorem dX10_call_34 : decode cX10_call 34 = .ok (.iconst 0, 1) := by decide +kernel
theorem dX10_call_35 : decode cX10_call 35 = .ok (.iconst 3, 1) := by decide +kernel
theorem dX10_call_36 : decode cX10_call 36 = .ok (.invokestatic 62, 3) := by decide +kernel
theorem dX10_call_39 : decode cX10_call 39 = .ok (.ifCond .ne 9, 3) := by decide +kernel
theorem dX10_call_42 : decode cX10_call 42 = .ok (.aload_n 0, 1) := by decide +kernel
theorem dX10_call_43 : decode cX10_call 43 = .ok (.iconst 2, 1) := by decide +kernel
theorem dX10_call_44 : decode cX10_call 44 = .ok (.invokevirtual 161, 3) := by decide +kernel
theorem dX10_call_47 : decode cX10_call 47 = .ok (.ireturn, 1) := by decide +kernel
theorem dX10_call_48 : decode cX10_call 48 = .ok (.aload_n 0, 1) := by decide +kernel
theorem dX10_call_49 : decode cX10_call 49 = .ok (.getfield 7, 3) := by decide +kernel
theorem dX10_call_52 : decode cX10_call 52 = .ok (.sipush 481, 3) := by decide +kernel
theorem dX10_call_55 : decode cX10_call 55 = .ok (.iconst 4, 1) := by decide +kernel
theorem dX10_call_56 : decode cX10_call 56 = .ok (.aload_n 0, 1) := by decide +kernel
theorem dX10_call_57 : decode cX10_call 57 = .ok (.getfield 7, 3) := by decide +kernel
theorem dX10_call_60 : decode cX10_call 60 = .ok (.bipush 8, 2) := by decide +kernel
theorem dX10_call_62 : decode cX10_call 62 = .ok (.iaload, 1) := by decide +kernel
theorem dX10_call_63 : decode cX10_call 63 = .ok (.iconst 1, 1) := by decide +kernel
theorem dX10_call_64 : decode cX10_call 64 = .ok (.isub, 1) := by decide +kernel
theorem dX10_call_65 : decode cX10_call 65 = .ok (.iload_n 1, 1) := by decide +kernel
theorem dX10_call_66 : decode cX10_call 66 = .ok (.isub, 1) := by decide +kernel
theorem dX10_call_67 : decode cX10_call 67 = .ok (.bipush 20, 2) := by decide +kernel
theorem dX10_call_69 : decode cX10_call 69 = .ok (.irem, 1) := by decide +kernel
theorem dX10_call_70 : decode cX10_call 70 = .ok (.imul, 1) := by decide +kernel
theorem dX10_call_71 : decode cX10_call 71 = .ok (.iadd, 1) := by decide +kernel
theorem dX10_call_72 : decode cX10_call 72 = .ok (.iload_n 2, 1) := by decide +kernel
theorem dX10_call_73 : decode cX10_call 73 = .ok (.iadd, 1) := by decide +kernel
theorem dX10_call_74 : decode cX10_call 74 = .ok (.iaload, 1) := by decide +kernel
theorem dX10_call_75 : decode cX10_call 75 = .ok (.ireturn, 1) := by decide +kernel
set_option maxRecDepth 20000 in
theorem ggX10_account_X10_isBetween : GoodIn wsX10_account wsX10_isBetween := goodIn_r _ [6] (by decide +kernel) (by decide +kernel)
set_option maxRecDepth 20000 in
theorem gX10_account_X10_isBetween : GoodIn wsX10_account (va_wsS RX10 62 yX10_isBetween wsX10_isBetween) := goodIn_app (goodIn_of _ (by decide +kernel)) ggX10_account_X10_isBetween
set_option maxRecDepth 20000 in
theorem ggX10_account_X10_fail : GoodIn wsX10_account wsX10_fail := goodIn_r _ [10, 1, 11, 12, 13, 14, 15, 16, 17, 18, 19, 20, 21, 22, 23, 24, 25, 26, 27, 28, 29, 30, 31, 32, 33] (by decide +kernel) (by decide +kernel)
set_option maxRecDepth 20000 in
theorem gX10_account_X10_fail : GoodIn wsX10_account (wsV RX10 161 RX10 yX10_fail wsX10_fail) := goodIn_app (goodIn_of _ (by decide +kernel)) ggX10_account_X10_fail
theorem dX10_account_0 : decode cX10_account 0 = .ok (.aload_n 0, 1) := by decide +kernel
theorem dX10_account_1 : decode cX10_account 1 = .ok (.iconst 0, 1) := by decide +kernel
theorem dX10_account_2 : decode cX10_account 2 = .ok (.putfield 48, 3) := by decide +kernel
theorem dX10_account_5 : decode cX10_account 5 = .ok (.iload_n 1, 1) := by decide +kernel
theorem dX10_account_6 : decode cX10_account 6 = .ok (.iconst 0, 1) := by decide +kernel
theorem dX10_account_7 : decode cX10_account 7 = .ok (.iconst 4, 1) := by decide +kernel
theorem dX10_account_8 : decode cX10_account 8 = .ok (.invokestatic 62, 3) := by decide +kernel
theorem dX10_account_11 : decode cX10_account 11 = .ok (.ifCond .eq 12, 3) := by decide +kernel
theorem dX10_account_14 : decode cX10_account 14 = .ok (.aload_n 0, 1) := by decide +kernel
theorem dX10_account_15 : decode cX10_account 15 = .ok (.getfield 29, 3) := by decide +kernel
theorem dX10_account_18 : decode cX10_account 18 = .ok (.iload_n 1, 1) := by decide +kernel
theorem dX10_account_19 : decode cX10_account 19 = .ok (.iaload, 1) := by decide +kernel
theorem dX10_account_20 : decode cX10_account 20 = .ok (.goto 8, 3) := by decide +kernel
theorem dX10_account_23 : decode cX10_account 23 = .ok (.aload_n 0, 1) := by decide +kernel
theorem dX10_account_24 : decode cX10_account 24 = .ok (.iconst 1, 1) := by decide +kernel
theorem dX10_account_25 : decode cX10_account 25 = .ok (.invokevirtual 161, 3) := by decide +kernel
theorem dX10_account_28 : decode cX10_account 28 = .ok (.ireturn, 1) := by decide +kernel
set_option maxRecDepth 20000 in
theorem ggX10_tide_X10_tideAt : GoodIn wsX10_tide wsX10_tideAt := goodIn_r _ [6, 7, 12, 13, 14, 15, 16, 17, 18, 19, 20, 21, 22, 23, 24, 25, 26, 27, 28, 29, 30, 31, 32, 33, 34] (by decide +kernel) (by decide +kernel)
set_option maxRecDepth 20000 in
theorem gX10_tide_X10_tideAt : GoodIn wsX10_tide (wsV RX10 70 RX10 yX10_tideAt wsX10_tideAt) := goodIn_app (goodIn_of _ (by decide +kernel)) ggX10_tide_X10_tideAt
set_option maxRecDepth 20000 in
theorem ggX10_tide_X10_fail : GoodIn wsX10_tide wsX10_fail := goodIn_r _ [11, 1, 12, 13, 14, 15, 16, 17, 18, 19, 20, 21, 22, 23, 24, 25, 26, 27, 28, 29, 30, 31, 32, 33, 34] (by decide +kernel) (by decide +kernel)
set_option maxRecDepth 20000 in
theorem gX10_tide_X10_fail : GoodIn wsX10_tide (wsV RX10 161 RX10 yX10_fail wsX10_fail) := goodIn_app (goodIn_of _ (by decide +kernel)) ggX10_tide_X10_fail
theorem dX10_tide_0 : decode cX10_tide 0 = .ok (.aload_n 0, 1) := by decide +kernel
theorem dX10_tide_1 : decode cX10_tide 1 = .ok (.iconst 0, 1) := by decide +kernel
theorem dX10_tide_2 : decode cX10_tide 2 = .ok (.putfield 48, 3) := by decide +kernel
theorem dX10_tide_5 : decode cX10_tide 5 = .ok (.iload_n 1, 1) := by decide +kernel
theorem dX10_tide_6 : decode cX10_tide 6 = .ok (.ifCond .lt 11, 3) := by decide +kernel
theorem dX10_tide_9 : decode cX10_tide 9 = .ok (.aload_n 0, 1) := by decide +kernel
theorem dX10_tide_10 : decode cX10_tide 10 = .ok (.iload_n 1, 1) := by decide +kernel
theorem dX10_tide_11 : decode cX10_tide 11 = .ok (.invokevirtual 70, 3) := by decide +kernel
theorem dX10_tide_14 : decode cX10_tide 14 = .ok (.goto 8, 3) := by decide +kernel
theorem dX10_tide_17 : decode cX10_tide 17 = .ok (.aload_n 0, 1) := by decide +kernel
theorem dX10_tide_18 : decode cX10_tide 18 = .ok (.iconst 1, 1) := by decide +kernel
theorem dX10_tide_19 : decode cX10_tide 19 = .ok (.invokevirtual 161, 3) := by decide +kernel
theorem dX10_tide_22 : decode cX10_tide 22 = .ok (.ireturn, 1) := by decide +kernel
set_option maxRecDepth 20000 in
theorem ggX10_deck_X10_deckAt : GoodIn wsX10_deck wsX10_deckAt := goodIn_r _ [6, 7, 8, 9, 10, 5, 11, 12, 13, 14, 15, 16, 17, 18, 19, 24, 25, 26, 27, 28, 29, 30, 31, 32, 33, 34, 35, 36, 37, 38, 39, 40, 41, 42, 43, 44, 45, 46] (by decide +kernel) (by decide +kernel)
set_option maxRecDepth 20000 in
theorem gX10_deck_X10_deckAt : GoodIn wsX10_deck (wsV RX10 78 RX10 yX10_deckAt wsX10_deckAt) := goodIn_app (goodIn_of _ (by decide +kernel)) ggX10_deck_X10_deckAt
set_option maxRecDepth 20000 in
theorem ggX10_deck_X10_fail : GoodIn wsX10_deck wsX10_fail := goodIn_r _ [23, 1, 24, 25, 26, 27, 28, 29, 30, 31, 32, 33, 34, 35, 36, 37, 38, 39, 40, 41, 42, 43, 44, 45, 46] (by decide +kernel) (by decide +kernel)
set_option maxRecDepth 20000 in
theorem gX10_deck_X10_fail : GoodIn wsX10_deck (wsV RX10 161 RX10 yX10_fail wsX10_fail) := goodIn_app (goodIn_of _ (by decide +kernel)) ggX10_deck_X10_fail
theorem dX10_deck_0 : decode cX10_deck 0 = .ok (.aload_n 0, 1) := by decide +kernel
theorem dX10_deck_1 : decode cX10_deck 1 = .ok (.iconst 0, 1) := by decide +kernel
theorem dX10_deck_2 : decode cX10_deck 2 = .ok (.putfield 48, 3) := by decide +kernel
theorem dX10_deck_5 : decode cX10_deck 5 = .ok (.iload_n 1, 1) := by decide +kernel
theorem dX10_deck_6 : decode cX10_deck 6 = .ok (.ifCond .lt 11, 3) := by decide +kernel
theorem dX10_deck_9 : decode cX10_deck 9 = .ok (.aload_n 0, 1) := by decide +kernel
theorem dX10_deck_10 : decode cX10_deck 10 = .ok (.iload_n 1, 1) := by decide +kernel
theorem dX10_deck_11 : decode cX10_deck 11 = .ok (.invokevirtual 78, 3) := by decide +kernel
theorem dX10_deck_14 : decode cX10_deck 14 = .ok (.goto 8, 3) := by decide +kernel
theorem dX10_deck_17 : decode cX10_deck 17 = .ok (.aload_n 0, 1) := by decide +kernel
theorem dX10_deck_18 : decode cX10_deck 18 = .ok (.iconst 1, 1) := by decide +kernel
theorem dX10_deck_19 : decode cX10_deck 19 = .ok (.invokevirtual 161, 3) := by decide +kernel
theorem dX10_deck_22 : decode cX10_deck 22 = .ok (.ireturn, 1) := by decide +kernel
set_option maxRecDepth 20000 in
theorem ggX10_slope_X10_slopeNow : GoodIn wsX10_slope wsX10_slopeNow := goodIn_r _ [6, 7, 8, 9, 10, 11, 12, 13, 14, 15, 16, 17, 18, 19, 20, 21, 22, 23, 24, 25, 26, 27, 28, 29, 30, 31, 32, 33, 34] (by decide +kernel) (by decide +kernel)
set_option maxRecDepth 20000 in
theorem gX10_slope_X10_slopeNow : GoodIn wsX10_slope (wsV RX10 111 RX10 yX10_slopeNow wsX10_slopeNow) := goodIn_app (goodIn_of _ (by decide +kernel)) ggX10_slope_X10_slopeNow
theorem dX10_slope_0 : decode cX10_slope 0 = .ok (.aload_n 0, 1) := by decide +kernel
theorem dX10_slope_1 : decode cX10_slope 1 = .ok (.iconst 0, 1) := by decide +kernel
theorem dX10_slope_2 : decode cX10_slope 2 = .ok (.putfield 48, 3) := by decide +kernel
theorem dX10_slope_5 : decode cX10_slope 5 = .ok (.aload_n 0, 1) := by decide +kernel
theorem dX10_slope_6 : decode cX10_slope 6 = .ok (.invokevirtual 111, 3) := by decide +kernel
theorem dX10_slope_9 : decode cX10_slope 9 = .ok (.ireturn, 1) := by decide +kernel
set_option maxRecDepth 20000 in
theorem ggX10_lip_X10_lipNow : GoodIn wsX10_lip wsX10_lipNow := goodIn_r _ [6, 7, 8, 9, 10, 11, 12, 13, 14, 5, 15, 16, 17, 18, 19, 20, 21, 22, 23, 24, 25, 26, 27, 28, 29, 30, 31, 32, 33, 34, 35, 36, 37, 38, 39, 40, 41, 42, 43, 44, 45, 46, 47, 48, 49, 50] (by decide +kernel) (by decide +kernel)
set_option maxRecDepth 20000 in
theorem gX10_lip_X10_lipNow : GoodIn wsX10_lip (wsV RX10 114 RX10 yX10_lipNow wsX10_lipNow) := goodIn_app (goodIn_of _ (by decide +kernel)) ggX10_lip_X10_lipNow
theorem dX10_lip_0 : decode cX10_lip 0 = .ok (.aload_n 0, 1) := by decide +kernel
theorem dX10_lip_1 : decode cX10_lip 1 = .ok (.iconst 0, 1) := by decide +kernel
theorem dX10_lip_2 : decode cX10_lip 2 = .ok (.putfield 48, 3) := by decide +kernel
theorem dX10_lip_5 : decode cX10_lip 5 = .ok (.aload_n 0, 1) := by decide +kernel
theorem dX10_lip_6 : decode cX10_lip 6 = .ok (.invokevirtual 114, 3) := by decide +kernel
theorem dX10_lip_9 : decode cX10_lip 9 = .ok (.ireturn, 1) := by decide +kernel
theorem dX10_waterIn_0 : decode cX10_waterIn 0 = .ok (.aload_n 0, 1) := by decide +kernel
theorem dX10_waterIn_1 : decode cX10_waterIn 1 = .ok (.iconst 0, 1) := by decide +kernel
theorem dX10_waterIn_2 : decode cX10_waterIn 2 = .ok (.putfield 48, 3) := by decide +kernel
theorem dX10_waterIn_5 : decode cX10_waterIn 5 = .ok (.iconst 2, 1) := by decide +kernel
theorem dX10_waterIn_6 : decode cX10_waterIn 6 = .ok (.aload_n 0, 1) := by decide +kernel
theorem dX10_waterIn_7 : decode cX10_waterIn 7 = .ok (.getfield 7, 3) := by decide +kernel
theorem dX10_waterIn_10 : decode cX10_waterIn 10 = .ok (.bipush 17, 2) := by decide +kernel
theorem dX10_waterIn_12 : decode cX10_waterIn 12 = .ok (.iaload, 1) := by decide +kernel
theorem dX10_waterIn_13 : decode cX10_waterIn 13 = .ok (.imul, 1) := by decide +kernel
theorem dX10_waterIn_14 : decode cX10_waterIn 14 = .ok (.istore_n 2, 1) := by decide +kernel
theorem dX10_waterIn_15 : decode cX10_waterIn 15 = .ok (.aload_n 0, 1) := by decide +kernel
theorem dX10_waterIn_16 : decode cX10_waterIn 16 = .ok (.getfield 7, 3) := by decide +kernel
theorem dX10_waterIn_19 : decode cX10_waterIn 19 = .ok (.iconst 0, 1) := by decide +kernel
theorem dX10_waterIn_20 : decode cX10_waterIn 20 = .ok (.iaload, 1) := by decide +kernel
theorem dX10_waterIn_21 : decode cX10_waterIn 21 = .ok (.iload_n 2, 1) := by decide +kernel
theorem dX10_waterIn_22 : decode cX10_waterIn 22 = .ok (.irem, 1) := by decide +kernel
theorem dX10_waterIn_23 : decode cX10_waterIn 23 = .ok (.istore_n 3, 1) := by decide +kernel
theorem dX10_waterIn_24 : decode cX10_waterIn 24 = .ok (.iload_n 1, 1) := by decide +kernel
theorem dX10_waterIn_25 : decode cX10_waterIn 25 = .ok (.ifCond .eq 13, 3) := by decide +kernel
theorem dX10_waterIn_28 : decode cX10_waterIn 28 = .ok (.aload_n 0, 1) := by decide +kernel
theorem dX10_waterIn_29 : decode cX10_waterIn 29 = .ok (.getfield 7, 3) := by decide +kernel
theorem dX10_waterIn_32 : decode cX10_waterIn 32 = .ok (.bipush 17, 2) := by decide +kernel
theorem dX10_waterIn_34 : decode cX10_waterIn 34 = .ok (.iaload, 1) := by decide +kernel
theorem dX10_waterIn_35 : decode cX10_waterIn 35 = .ok (.goto 4, 3) := by decide +kernel
theorem dX10_waterIn_38 : decode cX10_waterIn 38 = .ok (.iconst 0, 1) := by decide +kernel
theorem dX10_waterIn_39 : decode cX10_waterIn 39 = .ok (.iload_n 3, 1) := by decide +kernel
theorem dX10_waterIn_40 : decode cX10_waterIn 40 = .ok (.isub, 1) := by decide +kernel
theorem dX10_waterIn_41 : decode cX10_waterIn 41 = .ok (.iload_n 2, 1) := by decide +kernel
theorem dX10_waterIn_42 : decode cX10_waterIn 42 = .ok (.iadd, 1) := by decide +kernel
theorem dX10_waterIn_43 : decode cX10_waterIn 43 = .ok (.iload_n 2, 1) := by decide +kernel
theorem dX10_waterIn_44 : decode cX10_waterIn 44 = .ok (.irem, 1) := by decide +kernel
theorem dX10_waterIn_45 : decode cX10_waterIn 45 = .ok (.ireturn, 1) := by decide +kernel
set_option maxRecDepth 20000 in
theorem ggX10_list_X10_listNow : GoodIn wsX10_list wsX10_listNow := goodIn_r _ [6, 7, 8, 9, 5, 10, 11, 12, 13, 14, 15, 16, 17, 18, 19, 20, 21, 22, 23, 24, 25, 26, 27, 28, 29, 30, 31, 32, 33, 34, 35, 36, 37, 38, 39, 40, 41, 42] (by decide +kernel) (by decide +kernel)
set_option maxRecDepth 20000 in
theorem gX10_list_X10_listNow : GoodIn wsX10_list (wsV RX10 99 RX10 yX10_listNow wsX10_listNow) := goodIn_app (goodIn_of _ (by decide +kernel)) ggX10_list_X10_listNow
theorem dX10_list_0 : decode cX10_list 0 = .ok (.aload_n 0, 1) := by decide +kernel
theorem dX10_list_1 : decode cX10_list 1 = .ok (.iconst 0, 1) := by decide +kernel
theorem dX10_list_2 : decode cX10_list 2 = .ok (.putfield 48, 3) := by decide +kernel
theorem dX10_list_5 : decode cX10_list 5 = .ok (.aload_n 0, 1) := by decide +kernel
theorem dX10_list_6 : decode cX10_list 6 = .ok (.invokevirtual 99, 3) := by decide +kernel
theorem dX10_list_9 : decode cX10_list 9 = .ok (.ireturn, 1) := by decide +kernel
set_option maxRecDepth 20000 in
theorem ggX10_heaviest_X10_ofCar : GoodIn wsX10_heaviest wsX10_ofCar := goodIn_r _ [7, 2, 8, 9, 10, 11, 12, 13, 14, 15, 16, 17, 18, 19, 20, 21, 22, 23, 24, 25, 26, 27, 28, 29, 30] (by decide +kernel) (by decide +kernel)
set_option maxRecDepth 20000 in
theorem gX10_heaviest_X10_ofCar : GoodIn wsX10_heaviest (wsV RX10 55 RX10 yX10_ofCar wsX10_ofCar) := goodIn_app (goodIn_of _ (by decide +kernel)) ggX10_heaviest_X10_ofCar
theorem dX10_heaviest_0 : decode cX10_heaviest 0 = .ok (.aload_n 0, 1) := by decide +kernel
theorem dX10_heaviest_1 : decode cX10_heaviest 1 = .ok (.iconst 0, 1) := by decide +kernel
theorem dX10_heaviest_2 : decode cX10_heaviest 2 = .ok (.putfield 48, 3) := by decide +kernel
theorem dX10_heaviest_5 : decode cX10_heaviest 5 = .ok (.iconst (-1), 1) := by decide +kernel
theorem dX10_heaviest_6 : decode cX10_heaviest 6 = .ok (.istore_n 1, 1) := by decide +kernel
theorem dX10_heaviest_7 : decode cX10_heaviest 7 = .ok (.iconst 0, 1) := by decide +kernel
theorem dX10_heaviest_8 : decode cX10_heaviest 8 = .ok (.istore_n 2, 1) := by decide +kernel
theorem dX10_heaviest_9 : decode cX10_heaviest 9 = .ok (.iload_n 2, 1) := by decide +kernel
theorem dX10_heaviest_10 : decode cX10_heaviest 10 = .ok (.aload_n 0, 1) := by decide +kernel
theorem dX10_heaviest_11 : decode cX10_heaviest 11 = .ok (.getfield 7, 3) := by decide +kernel
theorem dX10_heaviest_14 : decode cX10_heaviest 14 = .ok (.bipush 13, 2) := by decide +kernel
theorem dX10_heaviest_16 : decode cX10_heaviest 16 = .ok (.iaload, 1) := by decide +kernel
theorem dX10_heaviest_17 : decode cX10_heaviest 17 = .ok (.if_icmp .ge 45, 3) := by decide +kernel
theorem dX10_heaviest_20 : decode cX10_heaviest 20 = .ok (.aload_n 0, 1) := by decide +kernel
theorem dX10_heaviest_21 : decode cX10_heaviest 21 = .ok (.iload_n 2, 1) := by decide +kernel
theorem dX10_heaviest_22 : decode cX10_heaviest 22 = .ok (.iconst 2, 1) := by decide +kernel
theorem dX10_heaviest_23 : decode cX10_heaviest 23 = .ok (.invokevirtual 55, 3) := by decide +kernel
theorem dX10_heaviest_26 : decode cX10_heaviest 26 = .ok (.iconst 2, 1) := by decide +kernel
theorem dX10_heaviest_27 : decode cX10_heaviest 27 = .ok (.if_icmp .ne 29, 3) := by decide +kernel
theorem dX10_heaviest_30 : decode cX10_heaviest 30 = .ok (.iload_n 1, 1) := by decide +kernel
theorem dX10_heaviest_31 : decode cX10_heaviest 31 = .ok (.iconst (-1), 1) := by decide +kernel
theorem dX10_heaviest_32 : decode cX10_heaviest 32 = .ok (.if_icmp .eq 18, 3) := by decide +kernel
theorem dX10_heaviest_35 : decode cX10_heaviest 35 = .ok (.aload_n 0, 1) := by decide +kernel
theorem dX10_heaviest_36 : decode cX10_heaviest 36 = .ok (.iload_n 2, 1) := by decide +kernel
theorem dX10_heaviest_37 : decode cX10_heaviest 37 = .ok (.iconst 1, 1) := by decide +kernel
theorem dX10_heaviest_38 : decode cX10_heaviest 38 = .ok (.invokevirtual 55, 3) := by decide +kernel
theorem dX10_heaviest_41 : decode cX10_heaviest 41 = .ok (.aload_n 0, 1) := by decide +kernel
theorem dX10_heaviest_42 : decode cX10_heaviest 42 = .ok (.iload_n 1, 1) := by decide +kernel
theorem dX10_heaviest_43 : decode cX10_heaviest 43 = .ok (.iconst 1, 1) := by decide +kernel
theorem dX10_heaviest_44 : decode cX10_heaviest 44 = .ok (.invokevirtual 55, 3) := by decide +kernel
theorem dX10_heaviest_47 : decode cX10_heaviest 47 = .ok (.if_icmp .le 7, 3) := by decide +kernel
theorem dX10_heaviest_50 : decode cX10_heaviest 50 = .ok (.iload_n 2, 1) := by decide +kernel
theorem dX10_heaviest_51 : decode cX10_heaviest 51 = .ok (.goto 4, 3) := by decide +kernel
theorem dX10_heaviest_54 : decode cX10_heaviest 54 = .ok (.iload_n 1, 1) := by decide +kernel
theorem dX10_heaviest_55 : decode cX10_heaviest 55 = .ok (.istore_n 1, 1) := by decide +kernel
theorem dX10_heaviest_56 : decode cX10_heaviest 56 = .ok (.iinc 2 1, 3) := by decide +kernel
theorem dX10_heaviest_59 : decode cX10_heaviest 59 = .ok (.goto (-50), 3) := by decide +kernel
theorem dX10_heaviest_62 : decode cX10_heaviest 62 = .ok (.iload_n 1, 1) := by decide +kernel
theorem dX10_heaviest_63 : decode cX10_heaviest 63 = .ok (.ireturn, 1) := by decide +kernel
set_option maxRecDepth 20000 in
theorem ggX10_whyNot_X10_isQueued : GoodIn wsX10_whyNot wsX10_isQueued := goodIn_r _ [6, 7, 8, 9, 5, 10, 11, 12, 13, 14, 15, 16, 17, 18, 87, 88, 89, 90, 91, 92, 93, 94, 95, 96, 97, 98, 99, 100, 101, 102, 103, 104, 105, 106, 107, 108, 109] (by decide +kernel) (by decide +kernel)
set_option maxRecDepth 20000 in
theorem gX10_whyNot_X10_isQueued : GoodIn wsX10_whyNot (wsV RX10 397 RX10 yX10_isQueued wsX10_isQueued) := goodIn_app (goodIn_of _ (by decide +kernel)) ggX10_whyNot_X10_isQueued
set_option maxRecDepth 20000 in
theorem ggX10_whyNot_X10_whyNotNow : GoodIn wsX10_whyNot wsX10_whyNotNow := goodIn_r _ [22, 11, 23, 24, 25, 5, 26, 27, 28, 29, 30, 31, 32, 33, 34, 15, 16, 17, 18, 35, 36, 37, 38, 39, 40, 41, 42, 43, 44, 45, 46, 47, 48, 49, 50, 51, 52, 53, 54, 55, 56, 57, 58, 59, 60, 61, 62, 63, 64, 65, 66, 67, 68, 69, 70, 71, 72, 73, 74, 75, 76, 77, 78, 79, 80, 81, 82, 87, 88, 89, 90, 91, 92, 93, 94, 95, 96, 97, 98, 99, 100, 101, 102, 103, 104, 105, 106, 107, 108, 109] (by decide +kernel) (by decide +kernel)
set_option maxRecDepth 20000 in
theorem gX10_whyNot_X10_whyNotNow : GoodIn wsX10_whyNot (wsV RX10 137 RX10 yX10_whyNotNow wsX10_whyNotNow) := goodIn_app (goodIn_of _ (by decide +kernel)) ggX10_whyNot_X10_whyNotNow
set_option maxRecDepth 20000 in
theorem ggX10_whyNot_X10_fail : GoodIn wsX10_whyNot wsX10_fail := goodIn_r _ [86, 1, 87, 88, 89, 90, 91, 92, 93, 94, 95, 96, 97, 98, 99, 100, 101, 102, 103, 104, 105, 106, 107, 108, 109] (by decide +kernel) (by decide +kernel)
set_option maxRecDepth 20000 in
theorem gX10_whyNot_X10_fail : GoodIn wsX10_whyNot (wsV RX10 161 RX10 yX10_fail wsX10_fail) := goodIn_app (goodIn_of _ (by decide +kernel)) ggX10_whyNot_X10_fail
theorem dX10_whyNot_0 : decode cX10_whyNot 0 = .ok (.aload_n 0, 1) := by decide +kernel
theorem dX10_whyNot_1 : decode cX10_whyNot 1 = .ok (.iconst 0, 1) := by decide +kernel
theorem dX10_whyNot_2 : decode cX10_whyNot 2 = .ok (.putfield 48, 3) := by decide +kernel
theorem dX10_whyNot_5 : decode cX10_whyNot 5 = .ok (.aload_n 0, 1) := by decide +kernel
theorem dX10_whyNot_6 : decode cX10_whyNot 6 = .ok (.iload_n 1, 1) := by decide +kernel
theorem dX10_whyNot_7 : decode cX10_whyNot 7 = .ok (.invokevirtual 397, 3) := by decide +kernel
theorem dX10_whyNot_10 : decode cX10_whyNot 10 = .ok (.ifCond .eq 11, 3) := by decide +kernel
theorem dX10_whyNot_13 : decode cX10_whyNot 13 = .ok (.aload_n 0, 1) := by decide +kernel
theorem dX10_whyNot_14 : decode cX10_whyNot 14 = .ok (.iload_n 1, 1) := by decide +kernel
theorem dX10_whyNot_15 : decode cX10_whyNot 15 = .ok (.invokevirtual 137, 3) := by decide +kernel
theorem dX10_whyNot_18 : decode cX10_whyNot 18 = .ok (.goto 8, 3) := by decide +kernel
theorem dX10_whyNot_21 : decode cX10_whyNot 21 = .ok (.aload_n 0, 1) := by decide +kernel
theorem dX10_whyNot_22 : decode cX10_whyNot 22 = .ok (.iconst 1, 1) := by decide +kernel
theorem dX10_whyNot_23 : decode cX10_whyNot 23 = .ok (.invokevirtual 161, 3) := by decide +kernel
theorem dX10_whyNot_26 : decode cX10_whyNot 26 = .ok (.ireturn, 1) := by decide +kernel
set_option maxRecDepth 20000 in
theorem ggX10_laneFor_X10_isQueued : GoodIn wsX10_laneFor wsX10_isQueued := goodIn_r _ [6, 7, 8, 9, 5, 10, 11, 12, 13, 14, 15, 16, 17, 18, 63, 64, 65, 66, 67, 68, 69, 70, 71, 72, 73, 74, 75, 76, 77, 78, 79, 80, 81, 82, 83, 84, 85] (by decide +kernel) (by decide +kernel)
set_option maxRecDepth 20000 in
theorem gX10_laneFor_X10_isQueued : GoodIn wsX10_laneFor (wsV RX10 397 RX10 yX10_isQueued wsX10_isQueued) := goodIn_app (goodIn_of _ (by decide +kernel)) ggX10_laneFor_X10_isQueued
set_option maxRecDepth 20000 in
theorem ggX10_laneFor_X10_laneOf : GoodIn wsX10_laneFor wsX10_laneOf := goodIn_r _ [22, 23, 24, 25, 5, 26, 27, 28, 29, 30, 11, 15, 16, 17, 18, 31, 32, 33, 34, 35, 36, 37, 38, 39, 40, 41, 42, 43, 44, 45, 46, 47, 48, 49, 50, 51, 52, 53, 54, 55, 56, 57, 58, 63, 64, 65, 66, 67, 68, 69, 70, 71, 72, 73, 74, 75, 76, 77, 78, 79, 80, 81, 82, 83, 84, 85] (by decide +kernel) (by decide +kernel)
set_option maxRecDepth 20000 in
theorem gX10_laneFor_X10_laneOf : GoodIn wsX10_laneFor (wsV RX10 108 RX10 yX10_laneOf wsX10_laneOf) := goodIn_app (goodIn_of _ (by decide +kernel)) ggX10_laneFor_X10_laneOf
set_option maxRecDepth 20000 in
theorem ggX10_laneFor_X10_fail : GoodIn wsX10_laneFor wsX10_fail := goodIn_r _ [62, 1, 63, 64, 65, 66, 67, 68, 69, 70, 71, 72, 73, 74, 75, 76, 77, 78, 79, 80, 81, 82, 83, 84, 85] (by decide +kernel) (by decide +kernel)
set_option maxRecDepth 20000 in
theorem gX10_laneFor_X10_fail : GoodIn wsX10_laneFor (wsV RX10 161 RX10 yX10_fail wsX10_fail) := goodIn_app (goodIn_of _ (by decide +kernel)) ggX10_laneFor_X10_fail
theorem dX10_laneFor_0 : decode cX10_laneFor 0 = .ok (.aload_n 0, 1) := by decide +kernel
theorem dX10_laneFor_1 : decode cX10_laneFor 1 = .ok (.iconst 0, 1) := by decide +kernel
theorem dX10_laneFor_2 : decode cX10_laneFor 2 = .ok (.putfield 48, 3) := by decide +kernel
theorem dX10_laneFor_5 : decode cX10_laneFor 5 = .ok (.aload_n 0, 1) := by decide +kernel
theorem dX10_laneFor_6 : decode cX10_laneFor 6 = .ok (.iload_n 1, 1) := by decide +kernel
theorem dX10_laneFor_7 : decode cX10_laneFor 7 = .ok (.invokevirtual 397, 3) := by decide +kernel
theorem dX10_laneFor_10 : decode cX10_laneFor 10 = .ok (.ifCond .eq 11, 3) := by decide +kernel
theorem dX10_laneFor_13 : decode cX10_laneFor 13 = .ok (.aload_n 0, 1) := by decide +kernel
theorem dX10_laneFor_14 : decode cX10_laneFor 14 = .ok (.iload_n 1, 1) := by decide +kernel
theorem dX10_laneFor_15 : decode cX10_laneFor 15 = .ok (.invokevirtual 108, 3) := by decide +kernel
theorem dX10_laneFor_18 : decode cX10_laneFor 18 = .ok (.goto 8, 3) := by decide +kernel
theorem dX10_laneFor_21 : decode cX10_laneFor 21 = .ok (.aload_n 0, 1) := by decide +kernel
theorem dX10_laneFor_22 : decode cX10_laneFor 22 = .ok (.iconst 1, 1) := by decide +kernel
theorem dX10_laneFor_23 : decode cX10_laneFor 23 = .ok (.invokevirtual 161, 3) := by decide +kernel
theorem dX10_laneFor_26 : decode cX10_laneFor 26 = .ok (.ireturn, 1) := by decide +kernel
set_option maxRecDepth 20000 in
theorem ggX10_begun_X10_ofCar : GoodIn wsX10_begun wsX10_ofCar := goodIn_r _ [6, 1, 7, 8, 9, 10, 11, 12, 13, 14, 15, 16, 17, 18, 19, 20, 21, 22, 23, 24, 25, 26, 27, 28, 29] (by decide +kernel) (by decide +kernel)
set_option maxRecDepth 20000 in
theorem gX10_begun_X10_ofCar : GoodIn wsX10_begun (wsV RX10 55 RX10 yX10_ofCar wsX10_ofCar) := goodIn_app (goodIn_of _ (by decide +kernel)) ggX10_begun_X10_ofCar
theorem dX10_begun_0 : decode cX10_begun 0 = .ok (.iconst 0, 1) := by decide +kernel
theorem dX10_begun_1 : decode cX10_begun 1 = .ok (.istore_n 1, 1) := by decide +kernel
theorem dX10_begun_2 : decode cX10_begun 2 = .ok (.iconst 0, 1) := by decide +kernel
theorem dX10_begun_3 : decode cX10_begun 3 = .ok (.istore_n 2, 1) := by decide +kernel
theorem dX10_begun_4 : decode cX10_begun 4 = .ok (.iload_n 2, 1) := by decide +kernel
theorem dX10_begun_5 : decode cX10_begun 5 = .ok (.aload_n 0, 1) := by decide +kernel
theorem dX10_begun_6 : decode cX10_begun 6 = .ok (.getfield 7, 3) := by decide +kernel
theorem dX10_begun_9 : decode cX10_begun 9 = .ok (.bipush 13, 2) := by decide +kernel
theorem dX10_begun_11 : decode cX10_begun 11 = .ok (.iaload, 1) := by decide +kernel
theorem dX10_begun_12 : decode cX10_begun 12 = .ok (.if_icmp .ge 27, 3) := by decide +kernel
theorem dX10_begun_15 : decode cX10_begun 15 = .ok (.iload_n 1, 1) := by decide +kernel
theorem dX10_begun_16 : decode cX10_begun 16 = .ok (.aload_n 0, 1) := by decide +kernel
theorem dX10_begun_17 : decode cX10_begun 17 = .ok (.iload_n 2, 1) := by decide +kernel
theorem dX10_begun_18 : decode cX10_begun 18 = .ok (.iconst 5, 1) := by decide +kernel
theorem dX10_begun_19 : decode cX10_begun 19 = .ok (.invokevirtual 55, 3) := by decide +kernel
theorem dX10_begun_22 : decode cX10_begun 22 = .ok (.iconst (-1), 1) := by decide +kernel
theorem dX10_begun_23 : decode cX10_begun 23 = .ok (.if_icmp .ne 7, 3) := by decide +kernel
theorem dX10_begun_26 : decode cX10_begun 26 = .ok (.iconst 0, 1) := by decide +kernel
theorem dX10_begun_27 : decode cX10_begun 27 = .ok (.goto 4, 3) := by decide +kernel
theorem dX10_begun_30 : decode cX10_begun 30 = .ok (.iconst 1, 1) := by decide +kernel
theorem dX10_begun_31 : decode cX10_begun 31 = .ok (.iadd, 1) := by decide +kernel
theorem dX10_begun_32 : decode cX10_begun 32 = .ok (.istore_n 1, 1) := by decide +kernel
theorem dX10_begun_33 : decode cX10_begun 33 = .ok (.iinc 2 1, 3) := by decide +kernel
theorem dX10_begun_36 : decode cX10_begun 36 = .ok (.goto (-32), 3) := by decide +kernel
theorem dX10_begun_39 : decode cX10_begun 39 = .ok (.iload_n 1, 1) := by decide +kernel
theorem dX10_begun_40 : decode cX10_begun 40 = .ok (.ireturn, 1) := by decide +kernel
set_option maxRecDepth 20000 in
theorem ggX10_startIn_X10_copy : GoodIn wsX10_startIn wsX10_copy := goodIn_r _ [7] (by decide +kernel) (by decide +kernel)
set_option maxRecDepth 20000 in
theorem gX10_startIn_X10_copy : GoodIn wsX10_startIn (va_wsS RX10 303 yX10_copy wsX10_copy) := goodIn_app (goodIn_of _ (by decide +kernel)) ggX10_startIn_X10_copy
set_option maxRecDepth 20000 in
theorem ggX10_startIn_X10_begun : GoodIn wsX10_startIn wsX10_begun := goodIn_r _ [11, 2, 12, 13, 14, 6, 15, 126, 127, 128, 129, 130, 131, 132, 133, 134, 135, 136, 137, 138, 139, 140, 141, 142, 143, 144, 145, 146, 147, 148] (by decide +kernel) (by decide +kernel)
set_option maxRecDepth 20000 in
theorem gX10_startIn_X10_begun : GoodIn wsX10_startIn (wsV RX10 400 RX10 yX10_begun wsX10_begun) := goodIn_app (goodIn_of _ (by decide +kernel)) ggX10_startIn_X10_begun
set_option maxRecDepth 20000 in
theorem ggX10_startIn_X10_tickOnce : GoodIn wsX10_startIn wsX10_tickOnce := goodIn_r _ [19, 2, 20, 21, 22, 6, 23, 24, 25, 26, 27, 28, 29, 30, 31, 32, 33, 34, 35, 36, 37, 38, 39, 40, 41, 42, 43, 12, 13, 14, 15, 44, 45, 46, 47, 48, 49, 50, 51, 52, 53, 54, 55, 56, 57, 58, 59, 60, 61, 62, 63, 64, 65, 66, 67, 68, 69, 70, 71, 72, 73, 74, 75, 76, 77, 78, 79, 80, 81, 82, 83, 84, 85, 86, 87, 88, 89, 90, 91, 92, 93, 94, 95, 96, 97, 98, 99, 100, 101, 102, 103, 104, 105, 106, 107, 108, 109, 110, 111, 112, 113, 114, 115, 116, 117, 118, 119, 120, 121, 122, 123, 124, 125, 126, 127, 128, 129, 130, 131, 132, 133, 134, 135, 136, 137, 138, 139, 140, 141, 142, 143, 144, 145, 146, 147, 148] (by decide +kernel) (by decide +kernel)
set_option maxRecDepth 20000 in
theorem gX10_startIn_X10_tickOnce : GoodIn wsX10_startIn (wsV RX10 155 RX10 yX10_tickOnce wsX10_tickOnce) := goodIn_app (goodIn_of _ (by decide +kernel)) ggX10_startIn_X10_tickOnce
theorem dX10_startIn_0 : decode cX10_startIn 0 = .ok (.aload_n 0, 1) := by decide +kernel
theorem dX10_startIn_1 : decode cX10_startIn 1 = .ok (.iconst 0, 1) := by decide +kernel
theorem dX10_startIn_2 : decode cX10_startIn 2 = .ok (.putfield 48, 3) := by decide +kernel
theorem dX10_startIn_5 : decode cX10_startIn 5 = .ok (.aload_n 0, 1) := by decide +kernel
theorem dX10_startIn_6 : decode cX10_startIn 6 = .ok (.getfield 7, 3) := by decide +kernel
theorem dX10_startIn_9 : decode cX10_startIn 9 = .ok (.iconst 0, 1) := by decide +kernel
theorem dX10_startIn_10 : decode cX10_startIn 10 = .ok (.aload_n 0, 1) := by decide +kernel
theorem dX10_startIn_11 : decode cX10_startIn 11 = .ok (.getfield 13, 3) := by decide +kernel
theorem dX10_startIn_14 : decode cX10_startIn 14 = .ok (.iconst 0, 1) := by decide +kernel
theorem dX10_startIn_15 : decode cX10_startIn 15 = .ok (.invokestatic 303, 3) := by decide +kernel
theorem dX10_startIn_18 : decode cX10_startIn 18 = .ok (.aload_n 0, 1) := by decide +kernel
theorem dX10_startIn_19 : decode cX10_startIn 19 = .ok (.invokevirtual 400, 3) := by decide +kernel
theorem dX10_startIn_22 : decode cX10_startIn 22 = .ok (.istore_n 1, 1) := by decide +kernel
theorem dX10_startIn_23 : decode cX10_startIn 23 = .ok (.iconst 0, 1) := by decide +kernel
theorem dX10_startIn_24 : decode cX10_startIn 24 = .ok (.istore_n 2, 1) := by decide +kernel
theorem dX10_startIn_25 : decode cX10_startIn 25 = .ok (.iload_n 2, 1) := by decide +kernel
theorem dX10_startIn_26 : decode cX10_startIn 26 = .ok (.sipush 200, 3) := by decide +kernel
theorem dX10_startIn_29 : decode cX10_startIn 29 = .ok (.if_icmp .ge 21, 3) := by decide +kernel
theorem dX10_startIn_32 : decode cX10_startIn 32 = .ok (.aload_n 0, 1) := by decide +kernel
theorem dX10_startIn_33 : decode cX10_startIn 33 = .ok (.invokevirtual 400, 3) := by decide +kernel
theorem dX10_startIn_36 : decode cX10_startIn 36 = .ok (.iload_n 1, 1) := by decide +kernel
theorem dX10_startIn_37 : decode cX10_startIn 37 = .ok (.if_icmp .ne 13, 3) := by decide +kernel
theorem dX10_startIn_40 : decode cX10_startIn 40 = .ok (.aload_n 0, 1) := by decide +kernel
theorem dX10_startIn_41 : decode cX10_startIn 41 = .ok (.invokevirtual 155, 3) := by decide +kernel
theorem dX10_startIn_44 : decode cX10_startIn 44 = .ok (.iinc 2 1, 3) := by decide +kernel
theorem dX10_startIn_47 : decode cX10_startIn 47 = .ok (.goto (-22), 3) := by decide +kernel
theorem dX10_startIn_50 : decode cX10_startIn 50 = .ok (.aload_n 0, 1) := by decide +kernel
theorem dX10_startIn_51 : decode cX10_startIn 51 = .ok (.invokevirtual 400, 3) := by decide +kernel
theorem dX10_startIn_54 : decode cX10_startIn 54 = .ok (.iload_n 1, 1) := by decide +kernel
theorem dX10_startIn_55 : decode cX10_startIn 55 = .ok (.if_icmp .le 7, 3) := by decide +kernel
theorem dX10_startIn_58 : decode cX10_startIn 58 = .ok (.iconst 1, 1) := by decide +kernel
theorem dX10_startIn_59 : decode cX10_startIn 59 = .ok (.goto 4, 3) := by decide +kernel
theorem dX10_startIn_62 : decode cX10_startIn 62 = .ok (.iconst 0, 1) := by decide +kernel
theorem dX10_startIn_63 : decode cX10_startIn 63 = .ok (.istore_n 3, 1) := by decide +kernel
theorem dX10_startIn_64 : decode cX10_startIn 64 = .ok (.aload_n 0, 1) := by decide +kernel
theorem dX10_startIn_65 : decode cX10_startIn 65 = .ok (.getfield 13, 3) := by decide +kernel
theorem dX10_startIn_68 : decode cX10_startIn 68 = .ok (.iconst 0, 1) := by decide +kernel
theorem dX10_startIn_69 : decode cX10_startIn 69 = .ok (.aload_n 0, 1) := by decide +kernel
theorem dX10_startIn_70 : decode cX10_startIn 70 = .ok (.getfield 7, 3) := by decide +kernel
theorem dX10_startIn_73 : decode cX10_startIn 73 = .ok (.iconst 0, 1) := by decide +kernel
theorem dX10_startIn_74 : decode cX10_startIn 74 = .ok (.invokestatic 303, 3) := by decide +kernel
theorem dX10_startIn_77 : decode cX10_startIn 77 = .ok (.iload_n 3, 1) := by decide +kernel
theorem dX10_startIn_78 : decode cX10_startIn 78 = .ok (.ifCond .eq 7, 3) := by decide +kernel
theorem dX10_startIn_81 : decode cX10_startIn 81 = .ok (.iload_n 2, 1) := by decide +kernel
theorem dX10_startIn_82 : decode cX10_startIn 82 = .ok (.goto 4, 3) := by decide +kernel
theorem dX10_startIn_85 : decode cX10_startIn 85 = .ok (.iconst (-1), 1) := by decide +kernel
theorem dX10_startIn_86 : decode cX10_startIn 86 = .ok (.ireturn, 1) := by decide +kernel
set_option maxRecDepth 20000 in
theorem ggX10_boardIn_X10_isBetween : GoodIn wsX10_boardIn wsX10_isBetween := goodIn_r _ [7] (by decide +kernel) (by decide +kernel)
set_option maxRecDepth 20000 in
theorem gX10_boardIn_X10_isBetween : GoodIn wsX10_boardIn (va_wsS RX10 62 yX10_isBetween wsX10_isBetween) := goodIn_app (goodIn_of _ (by decide +kernel)) ggX10_boardIn_X10_isBetween
set_option maxRecDepth 20000 in
theorem ggX10_boardIn_X10_fail : GoodIn wsX10_boardIn wsX10_fail := goodIn_r _ [11, 1, 133, 134, 135, 136, 137, 138, 139, 140, 141, 142, 143, 144, 145, 146, 147, 148, 149, 150, 151, 152, 153, 154, 155] (by decide +kernel) (by decide +kernel)
set_option maxRecDepth 20000 in
theorem gX10_boardIn_X10_fail : GoodIn wsX10_boardIn (wsV RX10 161 RX10 yX10_fail wsX10_fail) := goodIn_app (goodIn_of _ (by decide +kernel)) ggX10_boardIn_X10_fail
set_option maxRecDepth 20000 in
theorem ggX10_boardIn_X10_copy : GoodIn wsX10_boardIn wsX10_copy := goodIn_r _ [14] (by decide +kernel) (by decide +kernel)
set_option maxRecDepth 20000 in
theorem gX10_boardIn_X10_copy : GoodIn wsX10_boardIn (va_wsS RX10 303 yX10_copy wsX10_copy) := goodIn_app (goodIn_of _ (by decide +kernel)) ggX10_boardIn_X10_copy
set_option maxRecDepth 20000 in
theorem ggX10_boardIn_X10_tickMany : GoodIn wsX10_boardIn wsX10_tickMany := goodIn_r _ [18, 2, 19, 20, 21, 6, 22, 23, 24, 25, 26, 27, 28, 29, 30, 31, 32, 33, 34, 35, 36, 37, 38, 39, 40, 41, 42, 43, 44, 45, 46, 47, 48, 49, 50, 51, 52, 53, 54, 55, 56, 57, 58, 59, 60, 61, 62, 63, 64, 65, 66, 67, 68, 69, 70, 71, 72, 73, 74, 75, 76, 77, 78, 79, 80, 81, 82, 83, 84, 85, 86, 87, 88, 89, 90, 91, 92, 93, 94, 95, 96, 97, 98, 99, 100, 101, 102, 103, 104, 105, 106, 107, 108, 109, 110, 111, 112, 113, 114, 115, 116, 117, 118, 119, 120, 121, 122, 123, 124, 125, 126, 127, 128, 129, 130, 131, 132, 133, 134, 135, 136, 137, 138, 139, 140, 141, 142, 143, 144, 145, 146, 147, 148, 149, 150, 151, 152, 153, 154, 155] (by decide +kernel) (by decide +kernel)
set_option maxRecDepth 20000 in
theorem gX10_boardIn_X10_tickMany : GoodIn wsX10_boardIn (wsV RX10 403 RX10 yX10_tickMany wsX10_tickMany) := goodIn_app (goodIn_of _ (by decide +kernel)) ggX10_boardIn_X10_tickMany
theorem dX10_boardIn_0 : decode cX10_boardIn 0 = .ok (.aload_n 0, 1) := by decide +kernel
theorem dX10_boardIn_1 : decode cX10_boardIn 1 = .ok (.iconst 0, 1) := by decide +kernel
theorem dX10_boardIn_2 : decode cX10_boardIn 2 = .ok (.putfield 48, 3) := by decide +kernel
theorem dX10_boardIn_5 : decode cX10_boardIn 5 = .ok (.iload_n 1, 1) := by decide +kernel
theorem dX10_boardIn_6 : decode cX10_boardIn 6 = .ok (.iconst 1, 1) := by decide +kernel
theorem dX10_boardIn_7 : decode cX10_boardIn 7 = .ok (.sipush 200, 3) := by decide +kernel
theorem dX10_boardIn_10 : decode cX10_boardIn 10 = .ok (.invokestatic 62, 3) := by decide +kernel
theorem dX10_boardIn_13 : decode cX10_boardIn 13 = .ok (.ifCond .ne 9, 3) := by decide +kernel
theorem dX10_boardIn_16 : decode cX10_boardIn 16 = .ok (.aload_n 0, 1) := by decide +kernel
theorem dX10_boardIn_17 : decode cX10_boardIn 17 = .ok (.iconst 1, 1) := by decide +kernel
theorem dX10_boardIn_18 : decode cX10_boardIn 18 = .ok (.invokevirtual 161, 3) := by decide +kernel
theorem dX10_boardIn_21 : decode cX10_boardIn 21 = .ok (.ireturn, 1) := by decide +kernel
theorem dX10_boardIn_22 : decode cX10_boardIn 22 = .ok (.aload_n 0, 1) := by decide +kernel
theorem dX10_boardIn_23 : decode cX10_boardIn 23 = .ok (.getfield 7, 3) := by decide +kernel
theorem dX10_boardIn_26 : decode cX10_boardIn 26 = .ok (.iconst 0, 1) := by decide +kernel
theorem dX10_boardIn_27 : decode cX10_boardIn 27 = .ok (.aload_n 0, 1) := by decide +kernel
theorem dX10_boardIn_28 : decode cX10_boardIn 28 = .ok (.getfield 13, 3) := by decide +kernel
theorem dX10_boardIn_31 : decode cX10_boardIn 31 = .ok (.iconst 0, 1) := by decide +kernel
theorem dX10_boardIn_32 : decode cX10_boardIn 32 = .ok (.invokestatic 303, 3) := by decide +kernel
theorem dX10_boardIn_35 : decode cX10_boardIn 35 = .ok (.aload_n 0, 1) := by decide +kernel
theorem dX10_boardIn_36 : decode cX10_boardIn 36 = .ok (.iload_n 1, 1) := by decide +kernel
theorem dX10_boardIn_37 : decode cX10_boardIn 37 = .ok (.invokevirtual 403, 3) := by decide +kernel
theorem dX10_boardIn_40 : decode cX10_boardIn 40 = .ok (.istore_n 2, 1) := by decide +kernel
theorem dX10_boardIn_41 : decode cX10_boardIn 41 = .ok (.aload_n 0, 1) := by decide +kernel
theorem dX10_boardIn_42 : decode cX10_boardIn 42 = .ok (.getfield 13, 3) := by decide +kernel
theorem dX10_boardIn_45 : decode cX10_boardIn 45 = .ok (.iconst 0, 1) := by decide +kernel
theorem dX10_boardIn_46 : decode cX10_boardIn 46 = .ok (.aload_n 0, 1) := by decide +kernel
theorem dX10_boardIn_47 : decode cX10_boardIn 47 = .ok (.getfield 7, 3) := by decide +kernel
theorem dX10_boardIn_50 : decode cX10_boardIn 50 = .ok (.iconst 0, 1) := by decide +kernel
theorem dX10_boardIn_51 : decode cX10_boardIn 51 = .ok (.invokestatic 303, 3) := by decide +kernel
theorem dX10_boardIn_54 : decode cX10_boardIn 54 = .ok (.iload_n 2, 1) := by decide +kernel
theorem dX10_boardIn_55 : decode cX10_boardIn 55 = .ok (.ireturn, 1) := by decide +kernel
set_option maxRecDepth 20000 in
theorem ggX10_wakesIn_X10_copy : GoodIn wsX10_wakesIn wsX10_copy := goodIn_r _ [7] (by decide +kernel) (by decide +kernel)
set_option maxRecDepth 20000 in
theorem gX10_wakesIn_X10_copy : GoodIn wsX10_wakesIn (va_wsS RX10 303 yX10_copy wsX10_copy) := goodIn_app (goodIn_of _ (by decide +kernel)) ggX10_wakesIn_X10_copy
set_option maxRecDepth 20000 in
theorem ggX10_wakesIn_X10_tickOnce : GoodIn wsX10_wakesIn wsX10_tickOnce := goodIn_r _ [11, 2, 12, 13, 14, 6, 15, 16, 17, 18, 19, 20, 21, 22, 23, 24, 25, 26, 27, 28, 29, 30, 31, 32, 33, 34, 35, 36, 37, 38, 39, 40, 41, 42, 43, 44, 45, 46, 47, 48, 49, 50, 51, 52, 53, 54, 55, 56, 57, 58, 59, 60, 61, 62, 63, 64, 65, 66, 67, 68, 69, 70, 71, 72, 73, 74, 75, 76, 77, 78, 79, 80, 81, 82, 83, 84, 85, 86, 87, 88, 89, 90, 91, 92, 93, 94, 95, 96, 97, 98, 99, 100, 101, 102, 103, 104, 105, 106, 107, 108, 109, 110, 111, 112, 113, 114, 115, 116, 117, 118, 119, 120, 121, 122, 123, 124, 125, 126, 127, 128, 129, 130, 131, 132, 133, 134, 135, 136, 137, 138, 139, 140, 141, 142, 143, 144] (by decide +kernel) (by decide +kernel)
set_option maxRecDepth 20000 in
theorem gX10_wakesIn_X10_tickOnce : GoodIn wsX10_wakesIn (wsV RX10 155 RX10 yX10_tickOnce wsX10_tickOnce) := goodIn_app (goodIn_of _ (by decide +kernel)) ggX10_wakesIn_X10_tickOnce
theorem dX10_wakesIn_0 : decode cX10_wakesIn 0 = .ok (.aload_n 0, 1) := by decide +kernel
theorem dX10_wakesIn_1 : decode cX10_wakesIn 1 = .ok (.iconst 0, 1) := by decide +kernel
theorem dX10_wakesIn_2 : decode cX10_wakesIn 2 = .ok (.putfield 48, 3) := by decide +kernel
theorem dX10_wakesIn_5 : decode cX10_wakesIn 5 = .ok (.aload_n 0, 1) := by decide +kernel
theorem dX10_wakesIn_6 : decode cX10_wakesIn 6 = .ok (.getfield 7, 3) := by decide +kernel
theorem dX10_wakesIn_9 : decode cX10_wakesIn 9 = .ok (.iconst 0, 1) := by decide +kernel
theorem dX10_wakesIn_10 : decode cX10_wakesIn 10 = .ok (.aload_n 0, 1) := by decide +kernel
theorem dX10_wakesIn_11 : decode cX10_wakesIn 11 = .ok (.getfield 13, 3) := by decide +kernel
theorem dX10_wakesIn_14 : decode cX10_wakesIn 14 = .ok (.iconst 0, 1) := by decide +kernel
theorem dX10_wakesIn_15 : decode cX10_wakesIn 15 = .ok (.invokestatic 303, 3) := by decide +kernel
theorem dX10_wakesIn_18 : decode cX10_wakesIn 18 = .ok (.iconst 0, 1) := by decide +kernel
theorem dX10_wakesIn_19 : decode cX10_wakesIn 19 = .ok (.istore_n 1, 1) := by decide +kernel
theorem dX10_wakesIn_20 : decode cX10_wakesIn 20 = .ok (.iload_n 1, 1) := by decide +kernel
theorem dX10_wakesIn_21 : decode cX10_wakesIn 21 = .ok (.sipush 200, 3) := by decide +kernel
theorem dX10_wakesIn_24 : decode cX10_wakesIn 24 = .ok (.if_icmp .ge 22, 3) := by decide +kernel
theorem dX10_wakesIn_27 : decode cX10_wakesIn 27 = .ok (.aload_n 0, 1) := by decide +kernel
theorem dX10_wakesIn_28 : decode cX10_wakesIn 28 = .ok (.getfield 7, 3) := by decide +kernel
theorem dX10_wakesIn_31 : decode cX10_wakesIn 31 = .ok (.iconst 2, 1) := by decide +kernel
theorem dX10_wakesIn_32 : decode cX10_wakesIn 32 = .ok (.iaload, 1) := by decide +kernel
theorem dX10_wakesIn_33 : decode cX10_wakesIn 33 = .ok (.ifCond .ne 13, 3) := by decide +kernel
theorem dX10_wakesIn_36 : decode cX10_wakesIn 36 = .ok (.aload_n 0, 1) := by decide +kernel
theorem dX10_wakesIn_37 : decode cX10_wakesIn 37 = .ok (.invokevirtual 155, 3) := by decide +kernel
theorem dX10_wakesIn_40 : decode cX10_wakesIn 40 = .ok (.iinc 1 1, 3) := by decide +kernel
theorem dX10_wakesIn_43 : decode cX10_wakesIn 43 = .ok (.goto (-23), 3) := by decide +kernel
theorem dX10_wakesIn_46 : decode cX10_wakesIn 46 = .ok (.aload_n 0, 1) := by decide +kernel
theorem dX10_wakesIn_47 : decode cX10_wakesIn 47 = .ok (.getfield 7, 3) := by decide +kernel
theorem dX10_wakesIn_50 : decode cX10_wakesIn 50 = .ok (.iconst 2, 1) := by decide +kernel
theorem dX10_wakesIn_51 : decode cX10_wakesIn 51 = .ok (.iaload, 1) := by decide +kernel
theorem dX10_wakesIn_52 : decode cX10_wakesIn 52 = .ok (.ifCond .eq 7, 3) := by decide +kernel
theorem dX10_wakesIn_55 : decode cX10_wakesIn 55 = .ok (.iconst 1, 1) := by decide +kernel
theorem dX10_wakesIn_56 : decode cX10_wakesIn 56 = .ok (.goto 4, 3) := by decide +kernel
theorem dX10_wakesIn_59 : decode cX10_wakesIn 59 = .ok (.iconst 0, 1) := by decide +kernel
theorem dX10_wakesIn_60 : decode cX10_wakesIn 60 = .ok (.istore_n 2, 1) := by decide +kernel
theorem dX10_wakesIn_61 : decode cX10_wakesIn 61 = .ok (.aload_n 0, 1) := by decide +kernel
theorem dX10_wakesIn_62 : decode cX10_wakesIn 62 = .ok (.getfield 13, 3) := by decide +kernel
theorem dX10_wakesIn_65 : decode cX10_wakesIn 65 = .ok (.iconst 0, 1) := by decide +kernel
theorem dX10_wakesIn_66 : decode cX10_wakesIn 66 = .ok (.aload_n 0, 1) := by decide +kernel
theorem dX10_wakesIn_67 : decode cX10_wakesIn 67 = .ok (.getfield 7, 3) := by decide +kernel
theorem dX10_wakesIn_70 : decode cX10_wakesIn 70 = .ok (.iconst 0, 1) := by decide +kernel
theorem dX10_wakesIn_71 : decode cX10_wakesIn 71 = .ok (.invokestatic 303, 3) := by decide +kernel
theorem dX10_wakesIn_74 : decode cX10_wakesIn 74 = .ok (.iload_n 2, 1) := by decide +kernel
theorem dX10_wakesIn_75 : decode cX10_wakesIn 75 = .ok (.ifCond .eq 7, 3) := by decide +kernel
theorem dX10_wakesIn_78 : decode cX10_wakesIn 78 = .ok (.iload_n 1, 1) := by decide +kernel
theorem dX10_wakesIn_79 : decode cX10_wakesIn 79 = .ok (.goto 4, 3) := by decide +kernel
theorem dX10_wakesIn_82 : decode cX10_wakesIn 82 = .ok (.iconst (-1), 1) := by decide +kernel
theorem dX10_wakesIn_83 : decode cX10_wakesIn 83 = .ok (.ireturn, 1) := by decide +kernel
set_option maxRecDepth 20000 in
theorem ggX10_isEasy_X10_slopeNow : GoodIn wsX10_isEasy wsX10_slopeNow := goodIn_r _ [5, 6, 7, 8, 9, 10, 35, 36, 37, 38, 39, 40, 41, 42, 43, 44, 45, 46, 47, 48, 49, 50, 51, 52, 53, 54, 55, 56, 57] (by decide +kernel) (by decide +kernel)
set_option maxRecDepth 20000 in
theorem gX10_isEasy_X10_slopeNow : GoodIn wsX10_isEasy (wsV RX10 111 RX10 yX10_slopeNow wsX10_slopeNow) := goodIn_app (goodIn_of _ (by decide +kernel)) ggX10_isEasy_X10_slopeNow
set_option maxRecDepth 20000 in
theorem ggX10_isEasy_X10_ofKind : GoodIn wsX10_isEasy wsX10_ofKind := goodIn_r _ [14, 6, 35, 36, 37, 38, 39, 40, 41, 42, 43, 44, 45, 46, 47, 48, 49, 50, 51, 52, 53, 54, 55, 56, 57] (by decide +kernel) (by decide +kernel)
set_option maxRecDepth 20000 in
theorem gX10_isEasy_X10_ofKind : GoodIn wsX10_isEasy (wsV RX10 59 RX10 yX10_ofKind wsX10_ofKind) := goodIn_app (goodIn_of _ (by decide +kernel)) ggX10_isEasy_X10_ofKind
set_option maxRecDepth 20000 in
theorem ggX10_isEasy_X10_lipNow : GoodIn wsX10_isEasy wsX10_lipNow := goodIn_r _ [18, 6, 7, 8, 9, 10, 19, 20, 21, 4, 22, 23, 24, 25, 26, 27, 28, 29, 30, 31, 32, 33, 34, 35, 36, 37, 38, 39, 40, 41, 42, 43, 44, 45, 46, 47, 48, 49, 50, 51, 52, 53, 54, 55, 56, 57] (by decide +kernel) (by decide +kernel)
set_option maxRecDepth 20000 in
theorem gX10_isEasy_X10_lipNow : GoodIn wsX10_isEasy (wsV RX10 114 RX10 yX10_lipNow wsX10_lipNow) := goodIn_app (goodIn_of _ (by decide +kernel)) ggX10_isEasy_X10_lipNow
theorem dX10_isEasy_0 : decode cX10_isEasy 0 = .ok (.aload_n 0, 1) := by decide +kernel
theorem dX10_isEasy_1 : decode cX10_isEasy 1 = .ok (.invokevirtual 111, 3) := by decide +kernel
theorem dX10_isEasy_4 : decode cX10_isEasy 4 = .ok (.aload_n 0, 1) := by decide +kernel
theorem dX10_isEasy_5 : decode cX10_isEasy 5 = .ok (.iload_n 1, 1) := by decide +kernel
theorem dX10_isEasy_6 : decode cX10_isEasy 6 = .ok (.iconst 0, 1) := by decide +kernel
theorem dX10_isEasy_7 : decode cX10_isEasy 7 = .ok (.invokevirtual 59, 3) := by decide +kernel
theorem dX10_isEasy_10 : decode cX10_isEasy 10 = .ok (.if_icmp .gt 20, 3) := by decide +kernel
theorem dX10_isEasy_13 : decode cX10_isEasy 13 = .ok (.aload_n 0, 1) := by decide +kernel
theorem dX10_isEasy_14 : decode cX10_isEasy 14 = .ok (.invokevirtual 114, 3) := by decide +kernel
theorem dX10_isEasy_17 : decode cX10_isEasy 17 = .ok (.aload_n 0, 1) := by decide +kernel
theorem dX10_isEasy_18 : decode cX10_isEasy 18 = .ok (.iload_n 1, 1) := by decide +kernel
theorem dX10_isEasy_19 : decode cX10_isEasy 19 = .ok (.iconst 1, 1) := by decide +kernel
theorem dX10_isEasy_20 : decode cX10_isEasy 20 = .ok (.invokevirtual 59, 3) := by decide +kernel
theorem dX10_isEasy_23 : decode cX10_isEasy 23 = .ok (.if_icmp .gt 7, 3) := by decide +kernel
theorem dX10_isEasy_26 : decode cX10_isEasy 26 = .ok (.iconst 1, 1) := by decide +kernel
theorem dX10_isEasy_27 : decode cX10_isEasy 27 = .ok (.goto 4, 3) := by decide +kernel
theorem dX10_isEasy_30 : decode cX10_isEasy 30 = .ok (.iconst 0, 1) := by decide +kernel
theorem dX10_isEasy_31 : decode cX10_isEasy 31 = .ok (.ireturn, 1) := by decide +kernel
set_option maxRecDepth 20000 in
theorem ggX10_easyIn_X10_isKind : GoodIn wsX10_easyIn wsX10_isKind := goodIn_r _ [7, 8, 9, 6, 10] (by decide +kernel) (by decide +kernel)
set_option maxRecDepth 20000 in
theorem gX10_easyIn_X10_isKind : GoodIn wsX10_easyIn (va_wsS RX10 385 yX10_isKind wsX10_isKind) := goodIn_app (goodIn_of _ (by decide +kernel)) ggX10_easyIn_X10_isKind
set_option maxRecDepth 20000 in
theorem ggX10_easyIn_X10_fail : GoodIn wsX10_easyIn wsX10_fail := goodIn_r _ [14, 1, 136, 137, 138, 139, 140, 141, 142, 143, 144, 145, 146, 147, 148, 149, 150, 151, 152, 153, 154, 155, 156, 157, 158] (by decide +kernel) (by decide +kernel)
set_option maxRecDepth 20000 in
theorem gX10_easyIn_X10_fail : GoodIn wsX10_easyIn (wsV RX10 161 RX10 yX10_fail wsX10_fail) := goodIn_app (goodIn_of _ (by decide +kernel)) ggX10_easyIn_X10_fail
set_option maxRecDepth 20000 in
theorem ggX10_easyIn_X10_copy : GoodIn wsX10_easyIn wsX10_copy := goodIn_r _ [17] (by decide +kernel) (by decide +kernel)
set_option maxRecDepth 20000 in
theorem gX10_easyIn_X10_copy : GoodIn wsX10_easyIn (va_wsS RX10 303 yX10_copy wsX10_copy) := goodIn_app (goodIn_of _ (by decide +kernel)) ggX10_easyIn_X10_copy
set_option maxRecDepth 20000 in
theorem ggX10_easyIn_X10_isEasy : GoodIn wsX10_easyIn wsX10_isEasy := goodIn_r _ [21, 22, 23, 24, 6, 25, 2, 26, 27, 28, 29, 30, 31, 32, 33, 34, 35, 36, 37, 38, 39, 40, 41, 42, 43, 44, 45, 46, 47, 48, 49, 50, 51, 52, 53, 136, 137, 138, 139, 140, 141, 142, 143, 144, 145, 146, 147, 148, 149, 150, 151, 152, 153, 154, 155, 156, 157, 158] (by decide +kernel) (by decide +kernel)
set_option maxRecDepth 20000 in
theorem gX10_easyIn_X10_isEasy : GoodIn wsX10_easyIn (wsV RX10 406 RX10 yX10_isEasy wsX10_isEasy) := goodIn_app (goodIn_of _ (by decide +kernel)) ggX10_easyIn_X10_isEasy
set_option maxRecDepth 20000 in
theorem ggX10_easyIn_X10_tickOnce : GoodIn wsX10_easyIn wsX10_tickOnce := goodIn_r _ [57, 2, 58, 59, 60, 6, 61, 34, 35, 36, 37, 26, 27, 28, 29, 38, 39, 40, 41, 42, 43, 44, 45, 46, 47, 48, 49, 50, 51, 52, 53, 62, 63, 64, 65, 66, 67, 68, 69, 70, 71, 72, 73, 74, 75, 22, 23, 24, 25, 76, 77, 78, 79, 30, 31, 32, 33, 80, 81, 82, 83, 84, 85, 86, 87, 88, 89, 90, 91, 92, 93, 94, 95, 96, 97, 98, 99, 100, 101, 102, 103, 104, 105, 106, 107, 108, 109, 110, 111, 112, 113, 114, 115, 116, 117, 118, 119, 120, 121, 122, 123, 124, 125, 126, 127, 128, 129, 130, 131, 132, 133, 134, 135, 136, 137, 138, 139, 140, 141, 142, 143, 144, 145, 146, 147, 148, 149, 150, 151, 152, 153, 154, 155, 156, 157, 158] (by decide +kernel) (by decide +kernel)
set_option maxRecDepth 20000 in
theorem gX10_easyIn_X10_tickOnce : GoodIn wsX10_easyIn (wsV RX10 155 RX10 yX10_tickOnce wsX10_tickOnce) := goodIn_app (goodIn_of _ (by decide +kernel)) ggX10_easyIn_X10_tickOnce
theorem dX10_easyIn_0 : decode cX10_easyIn 0 = .ok (.aload_n 0, 1) := by decide +kernel
theorem dX10_easyIn_1 : decode cX10_easyIn 1 = .ok (.iconst 0, 1) := by decide +kernel
theorem dX10_easyIn_2 : decode cX10_easyIn 2 = .ok (.putfield 48, 3) := by decide +kernel
theorem dX10_easyIn_5 : decode cX10_easyIn 5 = .ok (.iload_n 1, 1) := by decide +kernel
theorem dX10_easyIn_6 : decode cX10_easyIn 6 = .ok (.invokestatic 385, 3) := by decide +kernel
theorem dX10_easyIn_9 : decode cX10_easyIn 9 = .ok (.ifCond .ne 9, 3) := by decide +kernel
theorem dX10_easyIn_12 : decode cX10_easyIn 12 = .ok (.aload_n 0, 1) := by decide +kernel
theorem dX10_easyIn_13 : decode cX10_easyIn 13 = .ok (.iconst 1, 1) := by decide +kernel
theorem dX10_easyIn_14 : decode cX10_easyIn 14 = .ok (.invokevirtual 161, 3) := by decide +kernel
theorem dX10_easyIn_17 : decode cX10_easyIn 17 = .ok (.ireturn, 1) := by decide +kernel
theorem dX10_easyIn_18 : decode cX10_easyIn 18 = .ok (.aload_n 0, 1) := by decide +kernel
theorem dX10_easyIn_19 : decode cX10_easyIn 19 = .ok (.getfield 7, 3) := by decide +kernel
theorem dX10_easyIn_22 : decode cX10_easyIn 22 = .ok (.iconst 0, 1) := by decide +kernel
theorem dX10_easyIn_23 : decode cX10_easyIn 23 = .ok (.aload_n 0, 1) := by decide +kernel
theorem dX10_easyIn_24 : decode cX10_easyIn 24 = .ok (.getfield 13, 3) := by decide +kernel
theorem dX10_easyIn_27 : decode cX10_easyIn 27 = .ok (.iconst 0, 1) := by decide +kernel
theorem dX10_easyIn_28 : decode cX10_easyIn 28 = .ok (.invokestatic 303, 3) := by decide +kernel
theorem dX10_easyIn_31 : decode cX10_easyIn 31 = .ok (.iconst 0, 1) := by decide +kernel
theorem dX10_easyIn_32 : decode cX10_easyIn 32 = .ok (.istore_n 2, 1) := by decide +kernel
theorem dX10_easyIn_33 : decode cX10_easyIn 33 = .ok (.iload_n 2, 1) := by decide +kernel
theorem dX10_easyIn_34 : decode cX10_easyIn 34 = .ok (.sipush 200, 3) := by decide +kernel
theorem dX10_easyIn_37 : decode cX10_easyIn 37 = .ok (.if_icmp .ge 21, 3) := by decide +kernel
theorem dX10_easyIn_40 : decode cX10_easyIn 40 = .ok (.aload_n 0, 1) := by decide +kernel
theorem dX10_easyIn_41 : decode cX10_easyIn 41 = .ok (.iload_n 1, 1) := by decide +kernel
theorem dX10_easyIn_42 : decode cX10_easyIn 42 = .ok (.invokevirtual 406, 3) := by decide +kernel
theorem dX10_easyIn_45 : decode cX10_easyIn 45 = .ok (.ifCond .ne 13, 3) := by decide +kernel
theorem dX10_easyIn_48 : decode cX10_easyIn 48 = .ok (.aload_n 0, 1) := by decide +kernel
theorem dX10_easyIn_49 : decode cX10_easyIn 49 = .ok (.invokevirtual 155, 3) := by decide +kernel
theorem dX10_easyIn_52 : decode cX10_easyIn 52 = .ok (.iinc 2 1, 3) := by decide +kernel
theorem dX10_easyIn_55 : decode cX10_easyIn 55 = .ok (.goto (-22), 3) := by decide +kernel
theorem dX10_easyIn_58 : decode cX10_easyIn 58 = .ok (.aload_n 0, 1) := by decide +kernel
theorem dX10_easyIn_59 : decode cX10_easyIn 59 = .ok (.iload_n 1, 1) := by decide +kernel
theorem dX10_easyIn_60 : decode cX10_easyIn 60 = .ok (.invokevirtual 406, 3) := by decide +kernel
theorem dX10_easyIn_63 : decode cX10_easyIn 63 = .ok (.istore_n 3, 1) := by decide +kernel
theorem dX10_easyIn_64 : decode cX10_easyIn 64 = .ok (.aload_n 0, 1) := by decide +kernel
theorem dX10_easyIn_65 : decode cX10_easyIn 65 = .ok (.getfield 13, 3) := by decide +kernel
theorem dX10_easyIn_68 : decode cX10_easyIn 68 = .ok (.iconst 0, 1) := by decide +kernel
theorem dX10_easyIn_69 : decode cX10_easyIn 69 = .ok (.aload_n 0, 1) := by decide +kernel
theorem dX10_easyIn_70 : decode cX10_easyIn 70 = .ok (.getfield 7, 3) := by decide +kernel
theorem dX10_easyIn_73 : decode cX10_easyIn 73 = .ok (.iconst 0, 1) := by decide +kernel
theorem dX10_easyIn_74 : decode cX10_easyIn 74 = .ok (.invokestatic 303, 3) := by decide +kernel
theorem dX10_easyIn_77 : decode cX10_easyIn 77 = .ok (.iload_n 3, 1) := by decide +kernel
theorem dX10_easyIn_78 : decode cX10_easyIn 78 = .ok (.ifCond .eq 7, 3) := by decide +kernel
theorem dX10_easyIn_81 : decode cX10_easyIn 81 = .ok (.iload_n 2, 1) := by decide +kernel
theorem dX10_easyIn_82 : decode cX10_easyIn 82 = .ok (.goto 4, 3) := by decide +kernel
theorem dX10_easyIn_85 : decode cX10_easyIn 85 = .ok (.iconst (-1), 1) := by decide +kernel
theorem dX10_easyIn_86 : decode cX10_easyIn 86 = .ok (.ireturn, 1) := by decide +kernel
set_option maxRecDepth 20000 in
theorem ggX10_moveToFront_X10_placeOf : GoodIn wsX10_moveToFront wsX10_placeOf := goodIn_r _ [6, 1, 7, 8, 9, 10, 11, 12, 13, 14, 15, 16, 17, 18, 19, 20, 21, 22, 23, 24, 25, 26, 27, 28, 29] (by decide +kernel) (by decide +kernel)
set_option maxRecDepth 20000 in
theorem gX10_moveToFront_X10_placeOf : GoodIn wsX10_moveToFront (wsV RX10 117 RX10 yX10_placeOf wsX10_placeOf) := goodIn_app (goodIn_of _ (by decide +kernel)) ggX10_moveToFront_X10_placeOf
theorem dX10_moveToFront_0 : decode cX10_moveToFront 0 = .ok (.aload_n 0, 1) := by decide +kernel
theorem dX10_moveToFront_1 : decode cX10_moveToFront 1 = .ok (.iload_n 1, 1) := by decide +kernel
theorem dX10_moveToFront_2 : decode cX10_moveToFront 2 = .ok (.invokevirtual 117, 3) := by decide +kernel
theorem dX10_moveToFront_5 : decode cX10_moveToFront 5 = .ok (.istore_n 2, 1) := by decide +kernel
theorem dX10_moveToFront_6 : decode cX10_moveToFront 6 = .ok (.iload_n 2, 1) := by decide +kernel
theorem dX10_moveToFront_7 : decode cX10_moveToFront 7 = .ok (.istore_n 3, 1) := by decide +kernel
theorem dX10_moveToFront_8 : decode cX10_moveToFront 8 = .ok (.iload_n 3, 1) := by decide +kernel
theorem dX10_moveToFront_9 : decode cX10_moveToFront 9 = .ok (.ifCond .le 29, 3) := by decide +kernel
theorem dX10_moveToFront_12 : decode cX10_moveToFront 12 = .ok (.aload_n 0, 1) := by decide +kernel
theorem dX10_moveToFront_13 : decode cX10_moveToFront 13 = .ok (.getfield 7, 3) := by decide +kernel
theorem dX10_moveToFront_16 : decode cX10_moveToFront 16 = .ok (.bipush 41, 2) := by decide +kernel
theorem dX10_moveToFront_18 : decode cX10_moveToFront 18 = .ok (.iload_n 3, 1) := by decide +kernel
theorem dX10_moveToFront_19 : decode cX10_moveToFront 19 = .ok (.iadd, 1) := by decide +kernel
theorem dX10_moveToFront_20 : decode cX10_moveToFront 20 = .ok (.aload_n 0, 1) := by decide +kernel
theorem dX10_moveToFront_21 : decode cX10_moveToFront 21 = .ok (.getfield 7, 3) := by decide +kernel
theorem dX10_moveToFront_24 : decode cX10_moveToFront 24 = .ok (.bipush 41, 2) := by decide +kernel
theorem dX10_moveToFront_26 : decode cX10_moveToFront 26 = .ok (.iload_n 3, 1) := by decide +kernel
theorem dX10_moveToFront_27 : decode cX10_moveToFront 27 = .ok (.iadd, 1) := by decide +kernel
theorem dX10_moveToFront_28 : decode cX10_moveToFront 28 = .ok (.iconst 1, 1) := by decide +kernel
theorem dX10_moveToFront_29 : decode cX10_moveToFront 29 = .ok (.isub, 1) := by decide +kernel
theorem dX10_moveToFront_30 : decode cX10_moveToFront 30 = .ok (.iaload, 1) := by decide +kernel
theorem dX10_moveToFront_31 : decode cX10_moveToFront 31 = .ok (.iastore, 1) := by decide +kernel
theorem dX10_moveToFront_32 : decode cX10_moveToFront 32 = .ok (.iinc 3 (-1), 3) := by decide +kernel
theorem dX10_moveToFront_35 : decode cX10_moveToFront 35 = .ok (.goto (-27), 3) := by decide +kernel
theorem dX10_moveToFront_38 : decode cX10_moveToFront 38 = .ok (.aload_n 0, 1) := by decide +kernel
theorem dX10_moveToFront_39 : decode cX10_moveToFront 39 = .ok (.getfield 7, 3) := by decide +kernel
theorem dX10_moveToFront_42 : decode cX10_moveToFront 42 = .ok (.bipush 41, 2) := by decide +kernel
theorem dX10_moveToFront_44 : decode cX10_moveToFront 44 = .ok (.iload_n 1, 1) := by decide +kernel
theorem dX10_moveToFront_45 : decode cX10_moveToFront 45 = .ok (.iastore, 1) := by decide +kernel
theorem dX10_moveToFront_46 : decode cX10_moveToFront 46 = .ok (.iload_n 2, 1) := by decide +kernel
theorem dX10_moveToFront_47 : decode cX10_moveToFront 47 = .ok (.ireturn, 1) := by decide +kernel
set_option maxRecDepth 20000 in
theorem ggX10_bestFirst_X10_isBetween : GoodIn wsX10_bestFirst wsX10_isBetween := goodIn_r _ [7] (by decide +kernel) (by decide +kernel)
set_option maxRecDepth 20000 in
theorem gX10_bestFirst_X10_isBetween : GoodIn wsX10_bestFirst (va_wsS RX10 62 yX10_isBetween wsX10_isBetween) := goodIn_app (goodIn_of _ (by decide +kernel)) ggX10_bestFirst_X10_isBetween
set_option maxRecDepth 20000 in
theorem ggX10_bestFirst_X10_fail : GoodIn wsX10_bestFirst wsX10_fail := goodIn_r _ [11, 1, 137, 138, 139, 140, 141, 142, 143, 144, 145, 146, 147, 148, 149, 150, 151, 152, 153, 154, 155, 156, 157, 158, 159] (by decide +kernel) (by decide +kernel)
set_option maxRecDepth 20000 in
theorem gX10_bestFirst_X10_fail : GoodIn wsX10_bestFirst (wsV RX10 161 RX10 yX10_fail wsX10_fail) := goodIn_app (goodIn_of _ (by decide +kernel)) ggX10_bestFirst_X10_fail
set_option maxRecDepth 20000 in
theorem ggX10_bestFirst_X10_copy : GoodIn wsX10_bestFirst wsX10_copy := goodIn_r _ [14] (by decide +kernel) (by decide +kernel)
set_option maxRecDepth 20000 in
theorem gX10_bestFirst_X10_copy : GoodIn wsX10_bestFirst (va_wsS RX10 303 yX10_copy wsX10_copy) := goodIn_app (goodIn_of _ (by decide +kernel)) ggX10_bestFirst_X10_copy
set_option maxRecDepth 20000 in
theorem ggX10_bestFirst_X10_moveToFront : GoodIn wsX10_bestFirst wsX10_moveToFront := goodIn_r _ [18, 2, 19, 20, 21, 6, 22, 137, 138, 139, 140, 141, 142, 143, 144, 145, 146, 147, 148, 149, 150, 151, 152, 153, 154, 155, 156, 157, 158, 159] (by decide +kernel) (by decide +kernel)
set_option maxRecDepth 20000 in
theorem gX10_bestFirst_X10_moveToFront : GoodIn wsX10_bestFirst (wsV RX10 409 RX10 yX10_moveToFront wsX10_moveToFront) := goodIn_app (goodIn_of _ (by decide +kernel)) ggX10_bestFirst_X10_moveToFront
set_option maxRecDepth 20000 in
theorem ggX10_bestFirst_X10_tickMany : GoodIn wsX10_bestFirst wsX10_tickMany := goodIn_r _ [26, 2, 27, 28, 29, 6, 30, 31, 32, 33, 34, 35, 36, 37, 38, 39, 40, 41, 42, 43, 44, 45, 46, 47, 48, 49, 50, 51, 52, 53, 54, 55, 56, 57, 58, 59, 60, 61, 62, 63, 64, 65, 66, 67, 68, 69, 70, 71, 72, 73, 74, 75, 76, 77, 78, 79, 80, 81, 82, 83, 84, 85, 86, 87, 88, 89, 90, 91, 92, 93, 94, 95, 96, 97, 98, 99, 100, 101, 102, 103, 104, 105, 106, 107, 108, 109, 110, 111, 112, 113, 114, 115, 116, 117, 118, 119, 120, 121, 122, 123, 124, 125, 126, 127, 128, 129, 130, 131, 132, 19, 20, 21, 22, 133, 134, 135, 136, 137, 138, 139, 140, 141, 142, 143, 144, 145, 146, 147, 148, 149, 150, 151, 152, 153, 154, 155, 156, 157, 158, 159] (by decide +kernel) (by decide +kernel)
set_option maxRecDepth 20000 in
theorem gX10_bestFirst_X10_tickMany : GoodIn wsX10_bestFirst (wsV RX10 403 RX10 yX10_tickMany wsX10_tickMany) := goodIn_app (goodIn_of _ (by decide +kernel)) ggX10_bestFirst_X10_tickMany
theorem dX10_bestFirst_0 : decode cX10_bestFirst 0 = .ok (.aload_n 0, 1) := by decide +kernel
theorem dX10_bestFirst_1 : decode cX10_bestFirst 1 = .ok (.iconst 0, 1) := by decide +kernel
theorem dX10_bestFirst_2 : decode cX10_bestFirst 2 = .ok (.putfield 48, 3) := by decide +kernel
theorem dX10_bestFirst_5 : decode cX10_bestFirst 5 = .ok (.iload_n 1, 1) := by decide +kernel
theorem dX10_bestFirst_6 : decode cX10_bestFirst 6 = .ok (.iconst 1, 1) := by decide +kernel
theorem dX10_bestFirst_7 : decode cX10_bestFirst 7 = .ok (.bipush 99, 2) := by decide +kernel
theorem dX10_bestFirst_9 : decode cX10_bestFirst 9 = .ok (.invokestatic 62, 3) := by decide +kernel
theorem dX10_bestFirst_12 : decode cX10_bestFirst 12 = .ok (.ifCond .ne 9, 3) := by decide +kernel
theorem dX10_bestFirst_15 : decode cX10_bestFirst 15 = .ok (.aload_n 0, 1) := by decide +kernel
theorem dX10_bestFirst_16 : decode cX10_bestFirst 16 = .ok (.iconst 1, 1) := by decide +kernel
theorem dX10_bestFirst_17 : decode cX10_bestFirst 17 = .ok (.invokevirtual 161, 3) := by decide +kernel
theorem dX10_bestFirst_20 : decode cX10_bestFirst 20 = .ok (.ireturn, 1) := by decide +kernel
theorem dX10_bestFirst_21 : decode cX10_bestFirst 21 = .ok (.aload_n 0, 1) := by decide +kernel
theorem dX10_bestFirst_22 : decode cX10_bestFirst 22 = .ok (.getfield 7, 3) := by decide +kernel
theorem dX10_bestFirst_25 : decode cX10_bestFirst 25 = .ok (.iconst 0, 1) := by decide +kernel
theorem dX10_bestFirst_26 : decode cX10_bestFirst 26 = .ok (.aload_n 0, 1) := by decide +kernel
theorem dX10_bestFirst_27 : decode cX10_bestFirst 27 = .ok (.getfield 16, 3) := by decide +kernel
theorem dX10_bestFirst_30 : decode cX10_bestFirst 30 = .ok (.iconst 0, 1) := by decide +kernel
theorem dX10_bestFirst_31 : decode cX10_bestFirst 31 = .ok (.invokestatic 303, 3) := by decide +kernel
theorem dX10_bestFirst_34 : decode cX10_bestFirst 34 = .ok (.iconst (-1), 1) := by decide +kernel
theorem dX10_bestFirst_35 : decode cX10_bestFirst 35 = .ok (.istore_n 2, 1) := by decide +kernel
theorem dX10_bestFirst_36 : decode cX10_bestFirst 36 = .ok (.iconst (-1), 1) := by decide +kernel
theorem dX10_bestFirst_37 : decode cX10_bestFirst 37 = .ok (.istore_n 3, 1) := by decide +kernel
theorem dX10_bestFirst_38 : decode cX10_bestFirst 38 = .ok (.iconst 0, 1) := by decide +kernel
theorem dX10_bestFirst_39 : decode cX10_bestFirst 39 = .ok (.istore 4, 2) := by decide +kernel
theorem dX10_bestFirst_41 : decode cX10_bestFirst 41 = .ok (.iload 4, 2) := by decide +kernel
theorem dX10_bestFirst_43 : decode cX10_bestFirst 43 = .ok (.aload_n 0, 1) := by decide +kernel
theorem dX10_bestFirst_44 : decode cX10_bestFirst 44 = .ok (.getfield 16, 3) := by decide +kernel
theorem dX10_bestFirst_47 : decode cX10_bestFirst 47 = .ok (.bipush 14, 2) := by decide +kernel
theorem dX10_bestFirst_49 : decode cX10_bestFirst 49 = .ok (.iaload, 1) := by decide +kernel
theorem dX10_bestFirst_50 : decode cX10_bestFirst 50 = .ok (.if_icmp .ge 61, 3) := by decide +kernel
theorem dX10_bestFirst_53 : decode cX10_bestFirst 53 = .ok (.aload_n 0, 1) := by decide +kernel
theorem dX10_bestFirst_54 : decode cX10_bestFirst 54 = .ok (.getfield 16, 3) := by decide +kernel
theorem dX10_bestFirst_57 : decode cX10_bestFirst 57 = .ok (.bipush 41, 2) := by decide +kernel
theorem dX10_bestFirst_59 : decode cX10_bestFirst 59 = .ok (.iload 4, 2) := by decide +kernel
theorem dX10_bestFirst_61 : decode cX10_bestFirst 61 = .ok (.iadd, 1) := by decide +kernel
theorem dX10_bestFirst_62 : decode cX10_bestFirst 62 = .ok (.iaload, 1) := by decide +kernel
theorem dX10_bestFirst_63 : decode cX10_bestFirst 63 = .ok (.istore 5, 2) := by decide +kernel
theorem dX10_bestFirst_65 : decode cX10_bestFirst 65 = .ok (.aload_n 0, 1) := by decide +kernel
theorem dX10_bestFirst_66 : decode cX10_bestFirst 66 = .ok (.iload 5, 2) := by decide +kernel
theorem dX10_bestFirst_68 : decode cX10_bestFirst 68 = .ok (.invokevirtual 409, 3) := by decide +kernel
theorem dX10_bestFirst_71 : decode cX10_bestFirst 71 = .ok (.istore 6, 2) := by decide +kernel
theorem dX10_bestFirst_73 : decode cX10_bestFirst 73 = .ok (.aload_n 0, 1) := by decide +kernel
theorem dX10_bestFirst_74 : decode cX10_bestFirst 74 = .ok (.iload_n 1, 1) := by decide +kernel
theorem dX10_bestFirst_75 : decode cX10_bestFirst 75 = .ok (.invokevirtual 403, 3) := by decide +kernel
theorem dX10_bestFirst_78 : decode cX10_bestFirst 78 = .ok (.istore 7, 2) := by decide +kernel
theorem dX10_bestFirst_80 : decode cX10_bestFirst 80 = .ok (.iload 7, 2) := by decide +kernel
theorem dX10_bestFirst_82 : decode cX10_bestFirst 82 = .ok (.iload_n 3, 1) := by decide +kernel
theorem dX10_bestFirst_83 : decode cX10_bestFirst 83 = .ok (.if_icmp .le 9, 3) := by decide +kernel
theorem dX10_bestFirst_86 : decode cX10_bestFirst 86 = .ok (.iload 5, 2) := by decide +kernel
theorem dX10_bestFirst_88 : decode cX10_bestFirst 88 = .ok (.istore_n 2, 1) := by decide +kernel
theorem dX10_bestFirst_89 : decode cX10_bestFirst 89 = .ok (.iload 7, 2) := by decide +kernel
theorem dX10_bestFirst_91 : decode cX10_bestFirst 91 = .ok (.istore_n 3, 1) := by decide +kernel
theorem dX10_bestFirst_92 : decode cX10_bestFirst 92 = .ok (.aload_n 0, 1) := by decide +kernel
theorem dX10_bestFirst_93 : decode cX10_bestFirst 93 = .ok (.getfield 16, 3) := by decide +kernel
theorem dX10_bestFirst_96 : decode cX10_bestFirst 96 = .ok (.iconst 0, 1) := by decide +kernel
theorem dX10_bestFirst_97 : decode cX10_bestFirst 97 = .ok (.aload_n 0, 1) := by decide +kernel
theorem dX10_bestFirst_98 : decode cX10_bestFirst 98 = .ok (.getfield 7, 3) := by decide +kernel
theorem dX10_bestFirst_101 : decode cX10_bestFirst 101 = .ok (.iconst 0, 1) := by decide +kernel
theorem dX10_bestFirst_102 : decode cX10_bestFirst 102 = .ok (.invokestatic 303, 3) := by decide +kernel
theorem dX10_bestFirst_105 : decode cX10_bestFirst 105 = .ok (.iinc 4 1, 3) := by decide +kernel
theorem dX10_bestFirst_108 : decode cX10_bestFirst 108 = .ok (.goto (-67), 3) := by decide +kernel
theorem dX10_bestFirst_111 : decode cX10_bestFirst 111 = .ok (.iload_n 2, 1) := by decide +kernel
theorem dX10_bestFirst_112 : decode cX10_bestFirst 112 = .ok (.ireturn, 1) := by decide +kernel
set_option maxRecDepth 20000 in
theorem ggX10_meanWait_X10_ofCar : GoodIn wsX10_meanWait wsX10_ofCar := goodIn_r _ [7, 2, 12, 13, 14, 15, 16, 17, 18, 19, 20, 21, 22, 23, 24, 25, 26, 27, 28, 29, 30, 31, 32, 33, 34] (by decide +kernel) (by decide +kernel)
set_option maxRecDepth 20000 in
theorem gX10_meanWait_X10_ofCar : GoodIn wsX10_meanWait (wsV RX10 55 RX10 yX10_ofCar wsX10_ofCar) := goodIn_app (goodIn_of _ (by decide +kernel)) ggX10_meanWait_X10_ofCar
set_option maxRecDepth 20000 in
theorem ggX10_meanWait_X10_begun : GoodIn wsX10_meanWait wsX10_begun := goodIn_r _ [11, 2, 3, 4, 5, 6, 7, 12, 13, 14, 15, 16, 17, 18, 19, 20, 21, 22, 23, 24, 25, 26, 27, 28, 29, 30, 31, 32, 33, 34] (by decide +kernel) (by decide +kernel)
set_option maxRecDepth 20000 in
theorem gX10_meanWait_X10_begun : GoodIn wsX10_meanWait (wsV RX10 400 RX10 yX10_begun wsX10_begun) := goodIn_app (goodIn_of _ (by decide +kernel)) ggX10_meanWait_X10_begun
theorem dX10_meanWait_0 : decode cX10_meanWait 0 = .ok (.aload_n 0, 1) := by decide +kernel
theorem dX10_meanWait_1 : decode cX10_meanWait 1 = .ok (.iconst 0, 1) := by decide +kernel
theorem dX10_meanWait_2 : decode cX10_meanWait 2 = .ok (.putfield 48, 3) := by decide +kernel
theorem dX10_meanWait_5 : decode cX10_meanWait 5 = .ok (.iconst 0, 1) := by decide +kernel
theorem dX10_meanWait_6 : decode cX10_meanWait 6 = .ok (.istore_n 1, 1) := by decide +kernel
theorem dX10_meanWait_7 : decode cX10_meanWait 7 = .ok (.iconst 0, 1) := by decide +kernel
theorem dX10_meanWait_8 : decode cX10_meanWait 8 = .ok (.istore_n 2, 1) := by decide +kernel
theorem dX10_meanWait_9 : decode cX10_meanWait 9 = .ok (.iload_n 2, 1) := by decide +kernel
theorem dX10_meanWait_10 : decode cX10_meanWait 10 = .ok (.aload_n 0, 1) := by decide +kernel
theorem dX10_meanWait_11 : decode cX10_meanWait 11 = .ok (.getfield 7, 3) := by decide +kernel
theorem dX10_meanWait_14 : decode cX10_meanWait 14 = .ok (.bipush 13, 2) := by decide +kernel
theorem dX10_meanWait_16 : decode cX10_meanWait 16 = .ok (.iaload, 1) := by decide +kernel
theorem dX10_meanWait_17 : decode cX10_meanWait 17 = .ok (.if_icmp .ge 39, 3) := by decide +kernel
theorem dX10_meanWait_20 : decode cX10_meanWait 20 = .ok (.iload_n 1, 1) := by decide +kernel
theorem dX10_meanWait_21 : decode cX10_meanWait 21 = .ok (.aload_n 0, 1) := by decide +kernel
theorem dX10_meanWait_22 : decode cX10_meanWait 22 = .ok (.iload_n 2, 1) := by decide +kernel
theorem dX10_meanWait_23 : decode cX10_meanWait 23 = .ok (.iconst 5, 1) := by decide +kernel
theorem dX10_meanWait_24 : decode cX10_meanWait 24 = .ok (.invokevirtual 55, 3) := by decide +kernel
theorem dX10_meanWait_27 : decode cX10_meanWait 27 = .ok (.iconst (-1), 1) := by decide +kernel
theorem dX10_meanWait_28 : decode cX10_meanWait 28 = .ok (.if_icmp .ne 7, 3) := by decide +kernel
theorem dX10_meanWait_31 : decode cX10_meanWait 31 = .ok (.iconst 0, 1) := by decide +kernel
theorem dX10_meanWait_32 : decode cX10_meanWait 32 = .ok (.goto 16, 3) := by decide +kernel
theorem dX10_meanWait_35 : decode cX10_meanWait 35 = .ok (.aload_n 0, 1) := by decide +kernel
theorem dX10_meanWait_36 : decode cX10_meanWait 36 = .ok (.iload_n 2, 1) := by decide +kernel
theorem dX10_meanWait_37 : decode cX10_meanWait 37 = .ok (.iconst 5, 1) := by decide +kernel
theorem dX10_meanWait_38 : decode cX10_meanWait 38 = .ok (.invokevirtual 55, 3) := by decide +kernel
theorem dX10_meanWait_41 : decode cX10_meanWait 41 = .ok (.aload_n 0, 1) := by decide +kernel
theorem dX10_meanWait_42 : decode cX10_meanWait 42 = .ok (.iload_n 2, 1) := by decide +kernel
theorem dX10_meanWait_43 : decode cX10_meanWait 43 = .ok (.iconst 4, 1) := by decide +kernel
theorem dX10_meanWait_44 : decode cX10_meanWait 44 = .ok (.invokevirtual 55, 3) := by decide +kernel
theorem dX10_meanWait_47 : decode cX10_meanWait 47 = .ok (.isub, 1) := by decide +kernel
theorem dX10_meanWait_48 : decode cX10_meanWait 48 = .ok (.iadd, 1) := by decide +kernel
theorem dX10_meanWait_49 : decode cX10_meanWait 49 = .ok (.istore_n 1, 1) := by decide +kernel
theorem dX10_meanWait_50 : decode cX10_meanWait 50 = .ok (.iinc 2 1, 3) := by decide +kernel
theorem dX10_meanWait_53 : decode cX10_meanWait 53 = .ok (.goto (-44), 3) := by decide +kernel
theorem dX10_meanWait_56 : decode cX10_meanWait 56 = .ok (.aload_n 0, 1) := by decide +kernel
theorem dX10_meanWait_57 : decode cX10_meanWait 57 = .ok (.invokevirtual 400, 3) := by decide +kernel
theorem dX10_meanWait_60 : decode cX10_meanWait 60 = .ok (.istore_n 2, 1) := by decide +kernel
theorem dX10_meanWait_61 : decode cX10_meanWait 61 = .ok (.iload_n 2, 1) := by decide +kernel
theorem dX10_meanWait_62 : decode cX10_meanWait 62 = .ok (.ifCond .ne 7, 3) := by decide +kernel
theorem dX10_meanWait_65 : decode cX10_meanWait 65 = .ok (.dconst 0, 1) := by decide +kernel
theorem dX10_meanWait_66 : decode cX10_meanWait 66 = .ok (.goto 8, 3) := by decide +kernel
theorem dX10_meanWait_69 : decode cX10_meanWait 69 = .ok (.iload_n 1, 1) := by decide +kernel
theorem dX10_meanWait_70 : decode cX10_meanWait 70 = .ok (.i2d, 1) := by decide +kernel
theorem dX10_meanWait_71 : decode cX10_meanWait 71 = .ok (.iload_n 2, 1) := by decide +kernel
theorem dX10_meanWait_72 : decode cX10_meanWait 72 = .ok (.i2d, 1) := by decide +kernel
theorem dX10_meanWait_73 : decode cX10_meanWait 73 = .ok (.ddiv, 1) := by decide +kernel
theorem dX10_meanWait_74 : decode cX10_meanWait 74 = .ok (.dreturn, 1) := by decide +kernel
set_option maxRecDepth 20000 in
theorem ggX10_fullness_X10_weightOnDeck : GoodIn wsX10_fullness wsX10_weightOnDeck := goodIn_r _ [7, 2, 8, 9, 10, 6, 11, 12, 13, 14, 15, 16, 17, 18, 19, 20, 21, 22, 23, 24, 25, 26, 27, 28, 29, 30, 31, 32, 33, 34] (by decide +kernel) (by decide +kernel)
set_option maxRecDepth 20000 in
theorem gX10_fullness_X10_weightOnDeck : GoodIn wsX10_fullness (wsV RX10 74 RX10 yX10_weightOnDeck wsX10_weightOnDeck) := goodIn_app (goodIn_of _ (by decide +kernel)) ggX10_fullness_X10_weightOnDeck
theorem dX10_fullness_0 : decode cX10_fullness 0 = .ok (.aload_n 0, 1) := by decide +kernel
theorem dX10_fullness_1 : decode cX10_fullness 1 = .ok (.iconst 0, 1) := by decide +kernel
theorem dX10_fullness_2 : decode cX10_fullness 2 = .ok (.putfield 48, 3) := by decide +kernel
theorem dX10_fullness_5 : decode cX10_fullness 5 = .ok (.aload_n 0, 1) := by decide +kernel
theorem dX10_fullness_6 : decode cX10_fullness 6 = .ok (.invokevirtual 74, 3) := by decide +kernel
theorem dX10_fullness_9 : decode cX10_fullness 9 = .ok (.i2f, 1) := by decide +kernel
theorem dX10_fullness_10 : decode cX10_fullness 10 = .ok (.aload_n 0, 1) := by decide +kernel
theorem dX10_fullness_11 : decode cX10_fullness 11 = .ok (.getfield 7, 3) := by decide +kernel
theorem dX10_fullness_14 : decode cX10_fullness 14 = .ok (.bipush 22, 2) := by decide +kernel
theorem dX10_fullness_16 : decode cX10_fullness 16 = .ok (.iaload, 1) := by decide +kernel
theorem dX10_fullness_17 : decode cX10_fullness 17 = .ok (.i2f, 1) := by decide +kernel
theorem dX10_fullness_18 : decode cX10_fullness 18 = .ok (.fdiv, 1) := by decide +kernel
theorem dX10_fullness_19 : decode cX10_fullness 19 = .ok (.freturn, 1) := by decide +kernel
theorem dX10_refuse_0 : decode cX10_refuse 0 = .ok (.aload_n 0, 1) := by decide +kernel
theorem dX10_refuse_1 : decode cX10_refuse 1 = .ok (.getfield 29, 3) := by decide +kernel
theorem dX10_refuse_4 : decode cX10_refuse 4 = .ok (.iload_n 1, 1) := by decide +kernel
theorem dX10_refuse_5 : decode cX10_refuse 5 = .ok (.dup2, 1) := by decide +kernel
theorem dX10_refuse_6 : decode cX10_refuse 6 = .ok (.iaload, 1) := by decide +kernel
theorem dX10_refuse_7 : decode cX10_refuse 7 = .ok (.iconst 1, 1) := by decide +kernel
theorem dX10_refuse_8 : decode cX10_refuse 8 = .ok (.iadd, 1) := by decide +kernel
theorem dX10_refuse_9 : decode cX10_refuse 9 = .ok (.iastore, 1) := by decide +kernel
theorem dX10_refuse_10 : decode cX10_refuse 10 = .ok (.iload_n 1, 1) := by decide +kernel
theorem dX10_refuse_11 : decode cX10_refuse 11 = .ok (.ineg, 1) := by decide +kernel
theorem dX10_refuse_12 : decode cX10_refuse 12 = .ok (.ireturn, 1) := by decide +kernel
theorem dX10_forgetEldest_0 : decode cX10_forgetEldest 0 = .ok (.iconst 0, 1) := by decide +kernel
theorem dX10_forgetEldest_1 : decode cX10_forgetEldest 1 = .ok (.istore_n 1, 1) := by decide +kernel
theorem dX10_forgetEldest_2 : decode cX10_forgetEldest 2 = .ok (.iload_n 1, 1) := by decide +kernel
theorem dX10_forgetEldest_3 : decode cX10_forgetEldest 3 = .ok (.sipush 3927, 3) := by decide +kernel
theorem dX10_forgetEldest_6 : decode cX10_forgetEldest 6 = .ok (.if_icmp .ge 25, 3) := by decide +kernel
theorem dX10_forgetEldest_9 : decode cX10_forgetEldest 9 = .ok (.aload_n 0, 1) := by decide +kernel
theorem dX10_forgetEldest_10 : decode cX10_forgetEldest 10 = .ok (.getfield 19, 3) := by decide +kernel
theorem dX10_forgetEldest_13 : decode cX10_forgetEldest 13 = .ok (.iload_n 1, 1) := by decide +kernel
theorem dX10_forgetEldest_14 : decode cX10_forgetEldest 14 = .ok (.aload_n 0, 1) := by decide +kernel
theorem dX10_forgetEldest_15 : decode cX10_forgetEldest 15 = .ok (.getfield 19, 3) := by decide +kernel
theorem dX10_forgetEldest_18 : decode cX10_forgetEldest 18 = .ok (.iload_n 1, 1) := by decide +kernel
theorem dX10_forgetEldest_19 : decode cX10_forgetEldest 19 = .ok (.sipush 561, 3) := by decide +kernel
theorem dX10_forgetEldest_22 : decode cX10_forgetEldest 22 = .ok (.iadd, 1) := by decide +kernel
theorem dX10_forgetEldest_23 : decode cX10_forgetEldest 23 = .ok (.iaload, 1) := by decide +kernel
theorem dX10_forgetEldest_24 : decode cX10_forgetEldest 24 = .ok (.iastore, 1) := by decide +kernel
theorem dX10_forgetEldest_25 : decode cX10_forgetEldest 25 = .ok (.iinc 1 1, 3) := by decide +kernel
theorem dX10_forgetEldest_28 : decode cX10_forgetEldest 28 = .ok (.goto (-26), 3) := by decide +kernel
theorem dX10_forgetEldest_31 : decode cX10_forgetEldest 31 = .ok (.aload_n 0, 1) := by decide +kernel
theorem dX10_forgetEldest_32 : decode cX10_forgetEldest 32 = .ok (.dup, 1) := by decide +kernel
theorem dX10_forgetEldest_33 : decode cX10_forgetEldest 33 = .ok (.getfield 313, 3) := by decide +kernel
theorem dX10_forgetEldest_36 : decode cX10_forgetEldest 36 = .ok (.iconst 1, 1) := by decide +kernel
theorem dX10_forgetEldest_37 : decode cX10_forgetEldest 37 = .ok (.isub, 1) := by decide +kernel
theorem dX10_forgetEldest_38 : decode cX10_forgetEldest 38 = .ok (.putfield 313, 3) := by decide +kernel
theorem dX10_forgetEldest_41 : decode cX10_forgetEldest 41 = .ok (.return_, 1) := by decide +kernel
set_option maxRecDepth 20000 in
theorem ggX10_remember_X10_forgetEldest : GoodIn wsX10_remember wsX10_forgetEldest := goodIn_r _ [9, 3, 1, 13, 14, 15, 16, 17, 18, 19, 20, 21, 22, 23, 24, 25, 26, 27, 28, 29, 30, 31, 32, 33, 34, 35] (by decide +kernel) (by decide +kernel)
set_option maxRecDepth 20000 in
theorem gX10_remember_X10_forgetEldest : GoodIn wsX10_remember (wsV RX10 412 RX10 yX10_forgetEldest wsX10_forgetEldest) := goodIn_app (goodIn_of _ (by decide +kernel)) ggX10_remember_X10_forgetEldest
set_option maxRecDepth 20000 in
theorem ggX10_remember_X10_copy : GoodIn wsX10_remember wsX10_copy := goodIn_r _ [12] (by decide +kernel) (by decide +kernel)
set_option maxRecDepth 20000 in
theorem gX10_remember_X10_copy : GoodIn wsX10_remember (va_wsS RX10 303 yX10_copy wsX10_copy) := goodIn_app (goodIn_of _ (by decide +kernel)) ggX10_remember_X10_copy
theorem dX10_remember_0 : decode cX10_remember 0 = .ok (.aload_n 0, 1) := by decide +kernel
theorem dX10_remember_1 : decode cX10_remember 1 = .ok (.getfield 313, 3) := by decide +kernel
theorem dX10_remember_4 : decode cX10_remember 4 = .ok (.bipush 8, 2) := by decide +kernel
theorem dX10_remember_6 : decode cX10_remember 6 = .ok (.if_icmp .ne 7, 3) := by decide +kernel
theorem dX10_remember_9 : decode cX10_remember 9 = .ok (.aload_n 0, 1) := by decide +kernel
theorem dX10_remember_10 : decode cX10_remember 10 = .ok (.invokevirtual 412, 3) := by decide +kernel
theorem dX10_remember_13 : decode cX10_remember 13 = .ok (.aload_n 0, 1) := by decide +kernel
theorem dX10_remember_14 : decode cX10_remember 14 = .ok (.getfield 7, 3) := by decide +kernel
theorem dX10_remember_17 : decode cX10_remember 17 = .ok (.iconst 0, 1) := by decide +kernel
theorem dX10_remember_18 : decode cX10_remember 18 = .ok (.aload_n 0, 1) := by decide +kernel
theorem dX10_remember_19 : decode cX10_remember 19 = .ok (.getfield 19, 3) := by decide +kernel
theorem dX10_remember_22 : decode cX10_remember 22 = .ok (.sipush 561, 3) := by decide +kernel
theorem dX10_remember_25 : decode cX10_remember 25 = .ok (.aload_n 0, 1) := by decide +kernel
theorem dX10_remember_26 : decode cX10_remember 26 = .ok (.getfield 313, 3) := by decide +kernel
theorem dX10_remember_29 : decode cX10_remember 29 = .ok (.imul, 1) := by decide +kernel
theorem dX10_remember_30 : decode cX10_remember 30 = .ok (.invokestatic 303, 3) := by decide +kernel
theorem dX10_remember_33 : decode cX10_remember 33 = .ok (.aload_n 0, 1) := by decide +kernel
theorem dX10_remember_34 : decode cX10_remember 34 = .ok (.dup, 1) := by decide +kernel
theorem dX10_remember_35 : decode cX10_remember 35 = .ok (.getfield 313, 3) := by decide +kernel
theorem dX10_remember_38 : decode cX10_remember 38 = .ok (.iconst 1, 1) := by decide +kernel
theorem dX10_remember_39 : decode cX10_remember 39 = .ok (.iadd, 1) := by decide +kernel
theorem dX10_remember_40 : decode cX10_remember 40 = .ok (.putfield 313, 3) := by decide +kernel
theorem dX10_remember_43 : decode cX10_remember 43 = .ok (.aload_n 0, 1) := by decide +kernel
theorem dX10_remember_44 : decode cX10_remember 44 = .ok (.getfield 29, 3) := by decide +kernel
theorem dX10_remember_47 : decode cX10_remember 47 = .ok (.iconst 0, 1) := by decide +kernel
theorem dX10_remember_48 : decode cX10_remember 48 = .ok (.dup2, 1) := by decide +kernel
theorem dX10_remember_49 : decode cX10_remember 49 = .ok (.iaload, 1) := by decide +kernel
theorem dX10_remember_50 : decode cX10_remember 50 = .ok (.iconst 1, 1) := by decide +kernel
theorem dX10_remember_51 : decode cX10_remember 51 = .ok (.iadd, 1) := by decide +kernel
theorem dX10_remember_52 : decode cX10_remember 52 = .ok (.iastore, 1) := by decide +kernel
theorem dX10_remember_53 : decode cX10_remember 53 = .ok (.return_, 1) := by decide +kernel
set_option maxRecDepth 20000 in
theorem ggX10_tickIt_X10_remember : GoodIn wsX10_tickIt wsX10_remember := goodIn_r _ [5, 6, 7, 8, 9, 10, 11, 12, 4, 13, 14, 15, 16, 135, 136, 137, 138, 139, 140, 141, 142, 143, 144, 145, 146, 147, 148, 149, 150, 151, 152, 153, 154, 155, 156, 157] (by decide +kernel) (by decide +kernel)
set_option maxRecDepth 20000 in
theorem gX10_tickIt_X10_remember : GoodIn wsX10_tickIt (wsV RX10 415 RX10 yX10_remember wsX10_remember) := goodIn_app (goodIn_of _ (by decide +kernel)) ggX10_tickIt_X10_remember
set_option maxRecDepth 20000 in
theorem ggX10_tickIt_X10_tickMany : GoodIn wsX10_tickIt wsX10_tickMany := goodIn_r _ [20, 7, 21, 22, 23, 4, 24, 25, 26, 27, 28, 29, 30, 31, 32, 33, 34, 35, 36, 37, 38, 39, 40, 41, 42, 43, 44, 45, 46, 47, 48, 49, 50, 51, 52, 53, 54, 55, 56, 57, 58, 59, 60, 61, 62, 63, 64, 65, 66, 67, 68, 69, 70, 71, 72, 73, 74, 75, 76, 77, 78, 79, 80, 81, 82, 83, 84, 85, 86, 87, 88, 89, 90, 91, 92, 93, 94, 95, 96, 97, 98, 99, 100, 101, 102, 103, 104, 105, 106, 107, 108, 109, 110, 111, 112, 113, 114, 115, 116, 117, 118, 119, 120, 121, 122, 123, 124, 125, 126, 127, 128, 129, 130, 131, 132, 133, 134, 135, 136, 137, 138, 139, 140, 141, 142, 143, 144, 145, 146, 147, 148, 149, 150, 151, 152, 153, 154, 155, 156, 157] (by decide +kernel) (by decide +kernel)
set_option maxRecDepth 20000 in
theorem gX10_tickIt_X10_tickMany : GoodIn wsX10_tickIt (wsV RX10 403 RX10 yX10_tickMany wsX10_tickMany) := goodIn_app (goodIn_of _ (by decide +kernel)) ggX10_tickIt_X10_tickMany
theorem dX10_tickIt_0 : decode cX10_tickIt 0 = .ok (.aload_n 0, 1) := by decide +kernel
theorem dX10_tickIt_1 : decode cX10_tickIt 1 = .ok (.invokevirtual 415, 3) := by decide +kernel
theorem dX10_tickIt_4 : decode cX10_tickIt 4 = .ok (.aload_n 0, 1) := by decide +kernel
theorem dX10_tickIt_5 : decode cX10_tickIt 5 = .ok (.iload_n 1, 1) := by decide +kernel
theorem dX10_tickIt_6 : decode cX10_tickIt 6 = .ok (.invokevirtual 403, 3) := by decide +kernel
theorem dX10_tickIt_9 : decode cX10_tickIt 9 = .ok (.ireturn, 1) := by decide +kernel
set_option maxRecDepth 20000 in
theorem ggX10_tick_X10_isBetween : GoodIn wsX10_tick wsX10_isBetween := goodIn_r _ [5] (by decide +kernel) (by decide +kernel)
set_option maxRecDepth 20000 in
theorem gX10_tick_X10_isBetween : GoodIn wsX10_tick (va_wsS RX10 62 yX10_isBetween wsX10_isBetween) := goodIn_app (goodIn_of _ (by decide +kernel)) ggX10_tick_X10_isBetween
set_option maxRecDepth 20000 in
theorem ggX10_tick_X10_tickIt : GoodIn wsX10_tick wsX10_tickIt := goodIn_r _ [9, 10, 11, 12, 4, 13, 14, 15, 16, 17, 18, 19, 20, 21, 22, 23, 24, 25, 26, 27, 28, 29, 30, 31, 32, 33, 34, 35, 36, 37, 38, 39, 40, 41, 42, 43, 44, 45, 46, 47, 48, 49, 50, 51, 52, 53, 54, 55, 56, 57, 58, 59, 60, 61, 62, 63, 64, 65, 66, 67, 68, 69, 70, 71, 72, 73, 74, 75, 76, 77, 78, 79, 80, 81, 82, 83, 84, 85, 86, 87, 88, 89, 90, 91, 92, 93, 94, 95, 96, 97, 98, 99, 100, 101, 102, 103, 104, 105, 106, 107, 108, 109, 110, 111, 112, 113, 114, 115, 116, 117, 118, 119, 120, 121, 122, 123, 124, 125, 126, 127, 128, 129, 130, 131, 132, 133, 134, 135, 136, 137, 138, 139, 140, 141, 142, 147, 148, 149, 150, 151, 152, 153, 154, 155, 156, 157, 158, 159, 160, 161, 162, 163, 164, 165, 166, 167, 168, 169] (by decide +kernel) (by decide +kernel)
set_option maxRecDepth 20000 in
theorem gX10_tick_X10_tickIt : GoodIn wsX10_tick (wsV RX10 344 RX10 yX10_tickIt wsX10_tickIt) := goodIn_app (goodIn_of _ (by decide +kernel)) ggX10_tick_X10_tickIt
set_option maxRecDepth 20000 in
theorem ggX10_tick_X10_fail : GoodIn wsX10_tick wsX10_fail := goodIn_r _ [146, 1, 147, 148, 149, 150, 151, 152, 153, 154, 155, 156, 157, 158, 159, 160, 161, 162, 163, 164, 165, 166, 167, 168, 169] (by decide +kernel) (by decide +kernel)
set_option maxRecDepth 20000 in
theorem gX10_tick_X10_fail : GoodIn wsX10_tick (wsV RX10 161 RX10 yX10_fail wsX10_fail) := goodIn_app (goodIn_of _ (by decide +kernel)) ggX10_tick_X10_fail
theorem dX10_tick_0 : decode cX10_tick 0 = .ok (.aload_n 0, 1) := by decide +kernel
theorem dX10_tick_1 : decode cX10_tick 1 = .ok (.iconst 0, 1) := by decide +kernel
theorem dX10_tick_2 : decode cX10_tick 2 = .ok (.putfield 48, 3) := by decide +kernel
theorem dX10_tick_5 : decode cX10_tick 5 = .ok (.iload_n 1, 1) := by decide +kernel
theorem dX10_tick_6 : decode cX10_tick 6 = .ok (.iconst 1, 1) := by decide +kernel
theorem dX10_tick_7 : decode cX10_tick 7 = .ok (.bipush 50, 2) := by decide +kernel
theorem dX10_tick_9 : decode cX10_tick 9 = .ok (.invokestatic 62, 3) := by decide +kernel
theorem dX10_tick_12 : decode cX10_tick 12 = .ok (.ifCond .eq 11, 3) := by decide +kernel
theorem dX10_tick_15 : decode cX10_tick 15 = .ok (.aload_n 0, 1) := by decide +kernel
theorem dX10_tick_16 : decode cX10_tick 16 = .ok (.iload_n 1, 1) := by decide +kernel
theorem dX10_tick_17 : decode cX10_tick 17 = .ok (.invokevirtual 344, 3) := by decide +kernel
theorem dX10_tick_20 : decode cX10_tick 20 = .ok (.goto 8, 3) := by decide +kernel
theorem dX10_tick_23 : decode cX10_tick 23 = .ok (.aload_n 0, 1) := by decide +kernel
theorem dX10_tick_24 : decode cX10_tick 24 = .ok (.iconst 1, 1) := by decide +kernel
theorem dX10_tick_25 : decode cX10_tick 25 = .ok (.invokevirtual 161, 3) := by decide +kernel
theorem dX10_tick_28 : decode cX10_tick 28 = .ok (.ireturn, 1) := by decide +kernel
set_option maxRecDepth 20000 in
theorem ggX10_arriveIt_X10_refuse : GoodIn wsX10_arriveIt wsX10_refuse := goodIn_r _ [6, 7, 29, 30, 31, 32, 33, 34, 35, 36, 37, 38, 39, 40, 41, 42, 43, 44, 45, 46, 47, 48, 49, 50, 51] (by decide +kernel) (by decide +kernel)
set_option maxRecDepth 20000 in
theorem gX10_arriveIt_X10_refuse : GoodIn wsX10_arriveIt (wsV RX10 418 RX10 yX10_refuse wsX10_refuse) := goodIn_app (goodIn_of _ (by decide +kernel)) ggX10_arriveIt_X10_refuse
set_option maxRecDepth 20000 in
theorem ggX10_arriveIt_X10_remember : GoodIn wsX10_arriveIt wsX10_remember := goodIn_r _ [11, 12, 1, 13, 7, 14, 15, 16, 5, 17, 18, 19, 20, 29, 30, 31, 32, 33, 34, 35, 36, 37, 38, 39, 40, 41, 42, 43, 44, 45, 46, 47, 48, 49, 50, 51] (by decide +kernel) (by decide +kernel)
set_option maxRecDepth 20000 in
theorem gX10_arriveIt_X10_remember : GoodIn wsX10_arriveIt (wsV RX10 415 RX10 yX10_remember wsX10_remember) := goodIn_app (goodIn_of _ (by decide +kernel)) ggX10_arriveIt_X10_remember
set_option maxRecDepth 20000 in
theorem ggX10_arriveIt_X10_addCar : GoodIn wsX10_arriveIt wsX10_addCar := goodIn_r _ [24, 1, 25, 26, 27, 5, 28, 29, 30, 31, 32, 33, 34, 35, 36, 37, 38, 39, 40, 41, 42, 43, 44, 45, 46, 47, 48, 49, 50, 51] (by decide +kernel) (by decide +kernel)
set_option maxRecDepth 20000 in
theorem gX10_arriveIt_X10_addCar : GoodIn wsX10_arriveIt (wsV RX10 258 RX10 yX10_addCar wsX10_addCar) := goodIn_app (goodIn_of _ (by decide +kernel)) ggX10_arriveIt_X10_addCar
theorem dX10_arriveIt_0 : decode cX10_arriveIt 0 = .ok (.aload_n 0, 1) := by decide +kernel
theorem dX10_arriveIt_1 : decode cX10_arriveIt 1 = .ok (.getfield 7, 3) := by decide +kernel
theorem dX10_arriveIt_4 : decode cX10_arriveIt 4 = .ok (.bipush 13, 2) := by decide +kernel
theorem dX10_arriveIt_6 : decode cX10_arriveIt 6 = .ok (.iaload, 1) := by decide +kernel
theorem dX10_arriveIt_7 : decode cX10_arriveIt 7 = .ok (.bipush 60, 2) := by decide +kernel
theorem dX10_arriveIt_9 : decode cX10_arriveIt 9 = .ok (.if_icmp .ne 9, 3) := by decide +kernel
theorem dX10_arriveIt_12 : decode cX10_arriveIt 12 = .ok (.aload_n 0, 1) := by decide +kernel
theorem dX10_arriveIt_13 : decode cX10_arriveIt 13 = .ok (.iconst 1, 1) := by decide +kernel
theorem dX10_arriveIt_14 : decode cX10_arriveIt 14 = .ok (.invokevirtual 418, 3) := by decide +kernel
theorem dX10_arriveIt_17 : decode cX10_arriveIt 17 = .ok (.ireturn, 1) := by decide +kernel
theorem dX10_arriveIt_18 : decode cX10_arriveIt 18 = .ok (.aload_n 0, 1) := by decide +kernel
theorem dX10_arriveIt_19 : decode cX10_arriveIt 19 = .ok (.getfield 7, 3) := by decide +kernel
theorem dX10_arriveIt_22 : decode cX10_arriveIt 22 = .ok (.bipush 14, 2) := by decide +kernel
theorem dX10_arriveIt_24 : decode cX10_arriveIt 24 = .ok (.iaload, 1) := by decide +kernel
theorem dX10_arriveIt_25 : decode cX10_arriveIt 25 = .ok (.bipush 20, 2) := by decide +kernel
theorem dX10_arriveIt_27 : decode cX10_arriveIt 27 = .ok (.if_icmp .ne 9, 3) := by decide +kernel
theorem dX10_arriveIt_30 : decode cX10_arriveIt 30 = .ok (.aload_n 0, 1) := by decide +kernel
theorem dX10_arriveIt_31 : decode cX10_arriveIt 31 = .ok (.iconst 2, 1) := by decide +kernel
theorem dX10_arriveIt_32 : decode cX10_arriveIt 32 = .ok (.invokevirtual 418, 3) := by decide +kernel
theorem dX10_arriveIt_35 : decode cX10_arriveIt 35 = .ok (.ireturn, 1) := by decide +kernel
theorem dX10_arriveIt_36 : decode cX10_arriveIt 36 = .ok (.aload_n 0, 1) := by decide +kernel
theorem dX10_arriveIt_37 : decode cX10_arriveIt 37 = .ok (.invokevirtual 415, 3) := by decide +kernel
theorem dX10_arriveIt_40 : decode cX10_arriveIt 40 = .ok (.aload_n 0, 1) := by decide +kernel
theorem dX10_arriveIt_41 : decode cX10_arriveIt 41 = .ok (.iload_n 1, 1) := by decide +kernel
theorem dX10_arriveIt_42 : decode cX10_arriveIt 42 = .ok (.iload_n 2, 1) := by decide +kernel
theorem dX10_arriveIt_43 : decode cX10_arriveIt 43 = .ok (.invokevirtual 258, 3) := by decide +kernel
theorem dX10_arriveIt_46 : decode cX10_arriveIt 46 = .ok (.ireturn, 1) := by decide +kernel
set_option maxRecDepth 20000 in
theorem ggX10_arrive_X10_isKind : GoodIn wsX10_arrive wsX10_isKind := goodIn_r _ [5, 6, 7, 4, 8] (by decide +kernel) (by decide +kernel)
set_option maxRecDepth 20000 in
theorem gX10_arrive_X10_isKind : GoodIn wsX10_arrive (va_wsS RX10 385 yX10_isKind wsX10_isKind) := goodIn_app (goodIn_of _ (by decide +kernel)) ggX10_arrive_X10_isKind
set_option maxRecDepth 20000 in
theorem ggX10_arrive_X10_fail : GoodIn wsX10_arrive wsX10_fail := goodIn_r _ [12, 1, 44, 45, 46, 47, 48, 49, 50, 51, 52, 53, 54, 55, 56, 57, 58, 59, 60, 61, 62, 63, 64, 65, 66] (by decide +kernel) (by decide +kernel)
set_option maxRecDepth 20000 in
theorem gX10_arrive_X10_fail : GoodIn wsX10_arrive (wsV RX10 161 RX10 yX10_fail wsX10_fail) := goodIn_app (goodIn_of _ (by decide +kernel)) ggX10_arrive_X10_fail
set_option maxRecDepth 20000 in
theorem ggX10_arrive_X10_isBetween : GoodIn wsX10_arrive wsX10_isBetween := goodIn_r _ [8] (by decide +kernel) (by decide +kernel)
set_option maxRecDepth 20000 in
theorem gX10_arrive_X10_isBetween : GoodIn wsX10_arrive (va_wsS RX10 62 yX10_isBetween wsX10_isBetween) := goodIn_app (goodIn_of _ (by decide +kernel)) ggX10_arrive_X10_isBetween
set_option maxRecDepth 20000 in
theorem ggX10_arrive_X10_arriveIt : GoodIn wsX10_arrive wsX10_arriveIt := goodIn_r _ [16, 17, 18, 19, 20, 4, 21, 22, 23, 24, 25, 26, 27, 28, 29, 30, 31, 32, 33, 34, 35, 36, 37, 38, 39, 40, 41, 42, 43, 44, 45, 46, 47, 48, 49, 50, 51, 52, 53, 54, 55, 56, 57, 58, 59, 60, 61, 62, 63, 64, 65, 66] (by decide +kernel) (by decide +kernel)
set_option maxRecDepth 20000 in
theorem gX10_arrive_X10_arriveIt : GoodIn wsX10_arrive (wsV RX10 347 RX10 yX10_arriveIt wsX10_arriveIt) := goodIn_app (goodIn_of _ (by decide +kernel)) ggX10_arrive_X10_arriveIt
theorem dX10_arrive_0 : decode cX10_arrive 0 = .ok (.aload_n 0, 1) := by decide +kernel
theorem dX10_arrive_1 : decode cX10_arrive 1 = .ok (.iconst 0, 1) := by decide +kernel
theorem dX10_arrive_2 : decode cX10_arrive 2 = .ok (.putfield 48, 3) := by decide +kernel
theorem dX10_arrive_5 : decode cX10_arrive 5 = .ok (.iload_n 1, 1) := by decide +kernel
theorem dX10_arrive_6 : decode cX10_arrive 6 = .ok (.invokestatic 385, 3) := by decide +kernel
theorem dX10_arrive_9 : decode cX10_arrive 9 = .ok (.ifCond .ne 9, 3) := by decide +kernel
theorem dX10_arrive_12 : decode cX10_arrive 12 = .ok (.aload_n 0, 1) := by decide +kernel
theorem dX10_arrive_13 : decode cX10_arrive 13 = .ok (.iconst 1, 1) := by decide +kernel
theorem dX10_arrive_14 : decode cX10_arrive 14 = .ok (.invokevirtual 161, 3) := by decide +kernel
theorem dX10_arrive_17 : decode cX10_arrive 17 = .ok (.ireturn, 1) := by decide +kernel
theorem dX10_arrive_18 : decode cX10_arrive 18 = .ok (.iload_n 2, 1) := by decide +kernel
theorem dX10_arrive_19 : decode cX10_arrive 19 = .ok (.iconst 1, 1) := by decide +kernel
theorem dX10_arrive_20 : decode cX10_arrive 20 = .ok (.sipush 999, 3) := by decide +kernel
theorem dX10_arrive_23 : decode cX10_arrive 23 = .ok (.invokestatic 62, 3) := by decide +kernel
theorem dX10_arrive_26 : decode cX10_arrive 26 = .ok (.ifCond .eq 12, 3) := by decide +kernel
theorem dX10_arrive_29 : decode cX10_arrive 29 = .ok (.aload_n 0, 1) := by decide +kernel
theorem dX10_arrive_30 : decode cX10_arrive 30 = .ok (.iload_n 1, 1) := by decide +kernel
theorem dX10_arrive_31 : decode cX10_arrive 31 = .ok (.iload_n 2, 1) := by decide +kernel
theorem dX10_arrive_32 : decode cX10_arrive 32 = .ok (.invokevirtual 347, 3) := by decide +kernel
theorem dX10_arrive_35 : decode cX10_arrive 35 = .ok (.goto 8, 3) := by decide +kernel
theorem dX10_arrive_38 : decode cX10_arrive 38 = .ok (.aload_n 0, 1) := by decide +kernel
theorem dX10_arrive_39 : decode cX10_arrive 39 = .ok (.iconst 2, 1) := by decide +kernel
theorem dX10_arrive_40 : decode cX10_arrive 40 = .ok (.invokevirtual 161, 3) := by decide +kernel
theorem dX10_arrive_43 : decode cX10_arrive 43 = .ok (.ireturn, 1) := by decide +kernel
set_option maxRecDepth 20000 in
theorem ggX10_waveIt_X10_isQueued : GoodIn wsX10_waveIt wsX10_isQueued := goodIn_r _ [6, 7, 8, 9, 5, 10, 1, 11, 12, 13, 14, 15, 16, 17, 44, 45, 46, 47, 48, 49, 50, 51, 52, 53, 54, 55, 56, 57, 58, 59, 60, 61, 62, 63, 64, 65, 66] (by decide +kernel) (by decide +kernel)
set_option maxRecDepth 20000 in
theorem gX10_waveIt_X10_isQueued : GoodIn wsX10_waveIt (wsV RX10 397 RX10 yX10_isQueued wsX10_isQueued) := goodIn_app (goodIn_of _ (by decide +kernel)) ggX10_waveIt_X10_isQueued
set_option maxRecDepth 20000 in
theorem ggX10_waveIt_X10_refuse : GoodIn wsX10_waveIt wsX10_refuse := goodIn_r _ [21, 22, 44, 45, 46, 47, 48, 49, 50, 51, 52, 53, 54, 55, 56, 57, 58, 59, 60, 61, 62, 63, 64, 65, 66] (by decide +kernel) (by decide +kernel)
set_option maxRecDepth 20000 in
theorem gX10_waveIt_X10_refuse : GoodIn wsX10_waveIt (wsV RX10 418 RX10 yX10_refuse wsX10_refuse) := goodIn_app (goodIn_of _ (by decide +kernel)) ggX10_waveIt_X10_refuse
set_option maxRecDepth 20000 in
theorem ggX10_waveIt_X10_remember : GoodIn wsX10_waveIt wsX10_remember := goodIn_r _ [26, 27, 1, 28, 22, 29, 30, 31, 5, 32, 33, 34, 35, 44, 45, 46, 47, 48, 49, 50, 51, 52, 53, 54, 55, 56, 57, 58, 59, 60, 61, 62, 63, 64, 65, 66] (by decide +kernel) (by decide +kernel)
set_option maxRecDepth 20000 in
theorem gX10_waveIt_X10_remember : GoodIn wsX10_waveIt (wsV RX10 415 RX10 yX10_remember wsX10_remember) := goodIn_app (goodIn_of _ (by decide +kernel)) ggX10_waveIt_X10_remember
set_option maxRecDepth 20000 in
theorem ggX10_waveIt_X10_moveToFront : GoodIn wsX10_waveIt wsX10_moveToFront := goodIn_r _ [39, 1, 40, 41, 42, 5, 43, 44, 45, 46, 47, 48, 49, 50, 51, 52, 53, 54, 55, 56, 57, 58, 59, 60, 61, 62, 63, 64, 65, 66] (by decide +kernel) (by decide +kernel)
set_option maxRecDepth 20000 in
theorem gX10_waveIt_X10_moveToFront : GoodIn wsX10_waveIt (wsV RX10 409 RX10 yX10_moveToFront wsX10_moveToFront) := goodIn_app (goodIn_of _ (by decide +kernel)) ggX10_waveIt_X10_moveToFront
theorem dX10_waveIt_0 : decode cX10_waveIt 0 = .ok (.aload_n 0, 1) := by decide +kernel
theorem dX10_waveIt_1 : decode cX10_waveIt 1 = .ok (.iload_n 1, 1) := by decide +kernel
theorem dX10_waveIt_2 : decode cX10_waveIt 2 = .ok (.invokevirtual 397, 3) := by decide +kernel
theorem dX10_waveIt_5 : decode cX10_waveIt 5 = .ok (.ifCond .ne 9, 3) := by decide +kernel
theorem dX10_waveIt_8 : decode cX10_waveIt 8 = .ok (.aload_n 0, 1) := by decide +kernel
theorem dX10_waveIt_9 : decode cX10_waveIt 9 = .ok (.iconst 1, 1) := by decide +kernel
theorem dX10_waveIt_10 : decode cX10_waveIt 10 = .ok (.invokevirtual 418, 3) := by decide +kernel
theorem dX10_waveIt_13 : decode cX10_waveIt 13 = .ok (.ireturn, 1) := by decide +kernel
theorem dX10_waveIt_14 : decode cX10_waveIt 14 = .ok (.aload_n 0, 1) := by decide +kernel
theorem dX10_waveIt_15 : decode cX10_waveIt 15 = .ok (.getfield 7, 3) := by decide +kernel
theorem dX10_waveIt_18 : decode cX10_waveIt 18 = .ok (.bipush 41, 2) := by decide +kernel
theorem dX10_waveIt_20 : decode cX10_waveIt 20 = .ok (.iaload, 1) := by decide +kernel
theorem dX10_waveIt_21 : decode cX10_waveIt 21 = .ok (.iload_n 1, 1) := by decide +kernel
theorem dX10_waveIt_22 : decode cX10_waveIt 22 = .ok (.if_icmp .ne 9, 3) := by decide +kernel
theorem dX10_waveIt_25 : decode cX10_waveIt 25 = .ok (.aload_n 0, 1) := by decide +kernel
theorem dX10_waveIt_26 : decode cX10_waveIt 26 = .ok (.iconst 2, 1) := by decide +kernel
theorem dX10_waveIt_27 : decode cX10_waveIt 27 = .ok (.invokevirtual 418, 3) := by decide +kernel
theorem dX10_waveIt_30 : decode cX10_waveIt 30 = .ok (.ireturn, 1) := by decide +kernel
theorem dX10_waveIt_31 : decode cX10_waveIt 31 = .ok (.aload_n 0, 1) := by decide +kernel
theorem dX10_waveIt_32 : decode cX10_waveIt 32 = .ok (.invokevirtual 415, 3) := by decide +kernel
theorem dX10_waveIt_35 : decode cX10_waveIt 35 = .ok (.aload_n 0, 1) := by decide +kernel
theorem dX10_waveIt_36 : decode cX10_waveIt 36 = .ok (.iload_n 1, 1) := by decide +kernel
theorem dX10_waveIt_37 : decode cX10_waveIt 37 = .ok (.invokevirtual 409, 3) := by decide +kernel
theorem dX10_waveIt_40 : decode cX10_waveIt 40 = .ok (.ireturn, 1) := by decide +kernel
set_option maxRecDepth 20000 in
theorem ggX10_wave_X10_isBetween : GoodIn wsX10_wave wsX10_isBetween := goodIn_r _ [5] (by decide +kernel) (by decide +kernel)
set_option maxRecDepth 20000 in
theorem gX10_wave_X10_isBetween : GoodIn wsX10_wave (va_wsS RX10 62 yX10_isBetween wsX10_isBetween) := goodIn_app (goodIn_of _ (by decide +kernel)) ggX10_wave_X10_isBetween
set_option maxRecDepth 20000 in
theorem ggX10_wave_X10_waveIt : GoodIn wsX10_wave wsX10_waveIt := goodIn_r _ [9, 10, 11, 12, 13, 4, 14, 15, 16, 17, 18, 2, 3, 5, 19, 20, 21, 22, 23, 24, 25, 26, 27, 28, 29, 30, 31, 32, 33, 34, 35, 36, 37, 38, 39, 40, 41, 42, 43, 44, 45, 46, 47, 48, 53, 54, 55, 56, 57, 58, 59, 60, 61, 62, 63, 64, 65, 66, 67, 68, 69, 70, 71, 72, 73, 74, 75] (by decide +kernel) (by decide +kernel)
set_option maxRecDepth 20000 in
theorem gX10_wave_X10_waveIt : GoodIn wsX10_wave (wsV RX10 350 RX10 yX10_waveIt wsX10_waveIt) := goodIn_app (goodIn_of _ (by decide +kernel)) ggX10_wave_X10_waveIt
set_option maxRecDepth 20000 in
theorem ggX10_wave_X10_fail : GoodIn wsX10_wave wsX10_fail := goodIn_r _ [52, 1, 53, 54, 55, 56, 57, 58, 59, 60, 61, 62, 63, 64, 65, 66, 67, 68, 69, 70, 71, 72, 73, 74, 75] (by decide +kernel) (by decide +kernel)
set_option maxRecDepth 20000 in
theorem gX10_wave_X10_fail : GoodIn wsX10_wave (wsV RX10 161 RX10 yX10_fail wsX10_fail) := goodIn_app (goodIn_of _ (by decide +kernel)) ggX10_wave_X10_fail
theorem dX10_wave_0 : decode cX10_wave 0 = .ok (.aload_n 0, 1) := by decide +kernel
theorem dX10_wave_1 : decode cX10_wave 1 = .ok (.iconst 0, 1) := by decide +kernel
theorem dX10_wave_2 : decode cX10_wave 2 = .ok (.putfield 48, 3) := by decide +kernel
theorem dX10_wave_5 : decode cX10_wave 5 = .ok (.iload_n 1, 1) := by decide +kernel
theorem dX10_wave_6 : decode cX10_wave 6 = .ok (.iconst 0, 1) := by decide +kernel
theorem dX10_wave_7 : decode cX10_wave 7 = .ok (.bipush 59, 2) := by decide +kernel
theorem dX10_wave_9 : decode cX10_wave 9 = .ok (.invokestatic 62, 3) := by decide +kernel
theorem dX10_wave_12 : decode cX10_wave 12 = .ok (.ifCond .eq 11, 3) := by decide +kernel
theorem dX10_wave_15 : decode cX10_wave 15 = .ok (.aload_n 0, 1) := by decide +kernel
theorem dX10_wave_16 : decode cX10_wave 16 = .ok (.iload_n 1, 1) := by decide +kernel
theorem dX10_wave_17 : decode cX10_wave 17 = .ok (.invokevirtual 350, 3) := by decide +kernel
theorem dX10_wave_20 : decode cX10_wave 20 = .ok (.goto 8, 3) := by decide +kernel
theorem dX10_wave_23 : decode cX10_wave 23 = .ok (.aload_n 0, 1) := by decide +kernel
theorem dX10_wave_24 : decode cX10_wave 24 = .ok (.iconst 1, 1) := by decide +kernel
theorem dX10_wave_25 : decode cX10_wave 25 = .ok (.invokevirtual 161, 3) := by decide +kernel
theorem dX10_wave_28 : decode cX10_wave 28 = .ok (.ireturn, 1) := by decide +kernel
set_option maxRecDepth 20000 in
theorem ggX10_dismissIt_X10_isQueued : GoodIn wsX10_dismissIt wsX10_isQueued := goodIn_r _ [6, 7, 8, 9, 5, 10, 1, 11, 12, 13, 14, 15, 16, 17, 48, 49, 50, 51, 52, 53, 54, 55, 56, 57, 58, 59, 60, 61, 62, 63, 64, 65, 66, 67, 68, 69, 70] (by decide +kernel) (by decide +kernel)
set_option maxRecDepth 20000 in
theorem gX10_dismissIt_X10_isQueued : GoodIn wsX10_dismissIt (wsV RX10 397 RX10 yX10_isQueued wsX10_isQueued) := goodIn_app (goodIn_of _ (by decide +kernel)) ggX10_dismissIt_X10_isQueued
set_option maxRecDepth 20000 in
theorem ggX10_dismissIt_X10_refuse : GoodIn wsX10_dismissIt wsX10_refuse := goodIn_r _ [21, 22, 48, 49, 50, 51, 52, 53, 54, 55, 56, 57, 58, 59, 60, 61, 62, 63, 64, 65, 66, 67, 68, 69, 70] (by decide +kernel) (by decide +kernel)
set_option maxRecDepth 20000 in
theorem gX10_dismissIt_X10_refuse : GoodIn wsX10_dismissIt (wsV RX10 418 RX10 yX10_refuse wsX10_refuse) := goodIn_app (goodIn_of _ (by decide +kernel)) ggX10_dismissIt_X10_refuse
set_option maxRecDepth 20000 in
theorem ggX10_dismissIt_X10_remember : GoodIn wsX10_dismissIt wsX10_remember := goodIn_r _ [26, 27, 1, 28, 22, 29, 30, 31, 5, 32, 33, 34, 35, 48, 49, 50, 51, 52, 53, 54, 55, 56, 57, 58, 59, 60, 61, 62, 63, 64, 65, 66, 67, 68, 69, 70] (by decide +kernel) (by decide +kernel)
set_option maxRecDepth 20000 in
theorem gX10_dismissIt_X10_remember : GoodIn wsX10_dismissIt (wsV RX10 415 RX10 yX10_remember wsX10_remember) := goodIn_app (goodIn_of _ (by decide +kernel)) ggX10_dismissIt_X10_remember
set_option maxRecDepth 20000 in
theorem ggX10_dismissIt_X10_leaveQueue : GoodIn wsX10_dismissIt wsX10_leaveQueue := goodIn_r _ [39, 1, 40, 41, 42, 5, 43, 48, 49, 50, 51, 52, 53, 54, 55, 56, 57, 58, 59, 60, 61, 62, 63, 64, 65, 66, 67, 68, 69, 70] (by decide +kernel) (by decide +kernel)
set_option maxRecDepth 20000 in
theorem gX10_dismissIt_X10_leaveQueue : GoodIn wsX10_dismissIt (wsV RX10 120 RX10 yX10_leaveQueue wsX10_leaveQueue) := goodIn_app (goodIn_of _ (by decide +kernel)) ggX10_dismissIt_X10_leaveQueue
set_option maxRecDepth 20000 in
theorem ggX10_dismissIt_X10_layCar : GoodIn wsX10_dismissIt wsX10_layCar := goodIn_r _ [47, 1, 48, 49, 50, 51, 52, 53, 54, 55, 56, 57, 58, 59, 60, 61, 62, 63, 64, 65, 66, 67, 68, 69, 70] (by decide +kernel) (by decide +kernel)
set_option maxRecDepth 20000 in
theorem gX10_dismissIt_X10_layCar : GoodIn wsX10_dismissIt (wsV RX10 124 RX10 yX10_layCar wsX10_layCar) := goodIn_app (goodIn_of _ (by decide +kernel)) ggX10_dismissIt_X10_layCar
theorem dX10_dismissIt_0 : decode cX10_dismissIt 0 = .ok (.aload_n 0, 1) := by decide +kernel
theorem dX10_dismissIt_1 : decode cX10_dismissIt 1 = .ok (.iload_n 1, 1) := by decide +kernel
theorem dX10_dismissIt_2 : decode cX10_dismissIt 2 = .ok (.invokevirtual 397, 3) := by decide +kernel
theorem dX10_dismissIt_5 : decode cX10_dismissIt 5 = .ok (.ifCond .ne 9, 3) := by decide +kernel
theorem dX10_dismissIt_8 : decode cX10_dismissIt 8 = .ok (.aload_n 0, 1) := by decide +kernel
theorem dX10_dismissIt_9 : decode cX10_dismissIt 9 = .ok (.iconst 1, 1) := by decide +kernel
theorem dX10_dismissIt_10 : decode cX10_dismissIt 10 = .ok (.invokevirtual 418, 3) := by decide +kernel
theorem dX10_dismissIt_13 : decode cX10_dismissIt 13 = .ok (.ireturn, 1) := by decide +kernel
theorem dX10_dismissIt_14 : decode cX10_dismissIt 14 = .ok (.aload_n 0, 1) := by decide +kernel
theorem dX10_dismissIt_15 : decode cX10_dismissIt 15 = .ok (.invokevirtual 415, 3) := by decide +kernel
theorem dX10_dismissIt_18 : decode cX10_dismissIt 18 = .ok (.aload_n 0, 1) := by decide +kernel
theorem dX10_dismissIt_19 : decode cX10_dismissIt 19 = .ok (.iload_n 1, 1) := by decide +kernel
theorem dX10_dismissIt_20 : decode cX10_dismissIt 20 = .ok (.invokevirtual 120, 3) := by decide +kernel
theorem dX10_dismissIt_23 : decode cX10_dismissIt 23 = .ok (.aload_n 0, 1) := by decide +kernel
theorem dX10_dismissIt_24 : decode cX10_dismissIt 24 = .ok (.iload_n 1, 1) := by decide +kernel
theorem dX10_dismissIt_25 : decode cX10_dismissIt 25 = .ok (.iconst 2, 1) := by decide +kernel
theorem dX10_dismissIt_26 : decode cX10_dismissIt 26 = .ok (.iconst 4, 1) := by decide +kernel
theorem dX10_dismissIt_27 : decode cX10_dismissIt 27 = .ok (.invokevirtual 124, 3) := by decide +kernel
theorem dX10_dismissIt_30 : decode cX10_dismissIt 30 = .ok (.aload_n 0, 1) := by decide +kernel
theorem dX10_dismissIt_31 : decode cX10_dismissIt 31 = .ok (.getfield 7, 3) := by decide +kernel
theorem dX10_dismissIt_34 : decode cX10_dismissIt 34 = .ok (.bipush 14, 2) := by decide +kernel
theorem dX10_dismissIt_36 : decode cX10_dismissIt 36 = .ok (.iaload, 1) := by decide +kernel
theorem dX10_dismissIt_37 : decode cX10_dismissIt 37 = .ok (.ireturn, 1) := by decide +kernel
set_option maxRecDepth 20000 in
theorem ggX10_dismiss_X10_isBetween : GoodIn wsX10_dismiss wsX10_isBetween := goodIn_r _ [5] (by decide +kernel) (by decide +kernel)
set_option maxRecDepth 20000 in
theorem gX10_dismiss_X10_isBetween : GoodIn wsX10_dismiss (va_wsS RX10 62 yX10_isBetween wsX10_isBetween) := goodIn_app (goodIn_of _ (by decide +kernel)) ggX10_dismiss_X10_isBetween
set_option maxRecDepth 20000 in
theorem ggX10_dismiss_X10_dismissIt : GoodIn wsX10_dismiss wsX10_dismissIt := goodIn_r _ [9, 10, 11, 12, 13, 4, 14, 15, 16, 17, 18, 2, 3, 5, 19, 20, 21, 22, 23, 24, 25, 26, 27, 28, 29, 30, 31, 32, 33, 34, 35, 36, 37, 38, 39, 40, 41, 42, 43, 44, 45, 46, 47, 48, 49, 50, 51, 52, 57, 58, 59, 60, 61, 62, 63, 64, 65, 66, 67, 68, 69, 70, 71, 72, 73, 74, 75, 76, 77, 78, 79] (by decide +kernel) (by decide +kernel)
set_option maxRecDepth 20000 in
theorem gX10_dismiss_X10_dismissIt : GoodIn wsX10_dismiss (wsV RX10 353 RX10 yX10_dismissIt wsX10_dismissIt) := goodIn_app (goodIn_of _ (by decide +kernel)) ggX10_dismiss_X10_dismissIt
set_option maxRecDepth 20000 in
theorem ggX10_dismiss_X10_fail : GoodIn wsX10_dismiss wsX10_fail := goodIn_r _ [56, 1, 57, 58, 59, 60, 61, 62, 63, 64, 65, 66, 67, 68, 69, 70, 71, 72, 73, 74, 75, 76, 77, 78, 79] (by decide +kernel) (by decide +kernel)
set_option maxRecDepth 20000 in
theorem gX10_dismiss_X10_fail : GoodIn wsX10_dismiss (wsV RX10 161 RX10 yX10_fail wsX10_fail) := goodIn_app (goodIn_of _ (by decide +kernel)) ggX10_dismiss_X10_fail
theorem dX10_dismiss_0 : decode cX10_dismiss 0 = .ok (.aload_n 0, 1) := by decide +kernel
theorem dX10_dismiss_1 : decode cX10_dismiss 1 = .ok (.iconst 0, 1) := by decide +kernel
theorem dX10_dismiss_2 : decode cX10_dismiss 2 = .ok (.putfield 48, 3) := by decide +kernel
theorem dX10_dismiss_5 : decode cX10_dismiss 5 = .ok (.iload_n 1, 1) := by decide +kernel
theorem dX10_dismiss_6 : decode cX10_dismiss 6 = .ok (.iconst 0, 1) := by decide +kernel
theorem dX10_dismiss_7 : decode cX10_dismiss 7 = .ok (.bipush 59, 2) := by decide +kernel
theorem dX10_dismiss_9 : decode cX10_dismiss 9 = .ok (.invokestatic 62, 3) := by decide +kernel
theorem dX10_dismiss_12 : decode cX10_dismiss 12 = .ok (.ifCond .eq 11, 3) := by decide +kernel
theorem dX10_dismiss_15 : decode cX10_dismiss 15 = .ok (.aload_n 0, 1) := by decide +kernel
theorem dX10_dismiss_16 : decode cX10_dismiss 16 = .ok (.iload_n 1, 1) := by decide +kernel
theorem dX10_dismiss_17 : decode cX10_dismiss 17 = .ok (.invokevirtual 353, 3) := by decide +kernel
theorem dX10_dismiss_20 : decode cX10_dismiss 20 = .ok (.goto 8, 3) := by decide +kernel
theorem dX10_dismiss_23 : decode cX10_dismiss 23 = .ok (.aload_n 0, 1) := by decide +kernel
theorem dX10_dismiss_24 : decode cX10_dismiss 24 = .ok (.iconst 1, 1) := by decide +kernel
theorem dX10_dismiss_25 : decode cX10_dismiss 25 = .ok (.invokevirtual 161, 3) := by decide +kernel
theorem dX10_dismiss_28 : decode cX10_dismiss 28 = .ok (.ireturn, 1) := by decide +kernel
set_option maxRecDepth 20000 in
theorem ggX10_unloadIt_X10_standingMany : GoodIn wsX10_unloadIt wsX10_standingMany := goodIn_r _ [6, 1, 7, 8, 9, 5, 10, 73, 74, 75, 76, 77, 78, 79, 80, 81, 82, 83, 84, 85, 86, 87, 88, 89, 90, 91, 92, 93, 94, 95] (by decide +kernel) (by decide +kernel)
set_option maxRecDepth 20000 in
theorem gX10_unloadIt_X10_standingMany : GoodIn wsX10_unloadIt (wsV RX10 421 RX10 yX10_standingMany wsX10_standingMany) := goodIn_app (goodIn_of _ (by decide +kernel)) ggX10_unloadIt_X10_standingMany
set_option maxRecDepth 20000 in
theorem ggX10_unloadIt_X10_standingAt : GoodIn wsX10_unloadIt wsX10_standingAt := goodIn_r _ [14, 1, 7, 8, 9, 5, 10, 15, 16, 17, 18, 73, 74, 75, 76, 77, 78, 79, 80, 81, 82, 83, 84, 85, 86, 87, 88, 89, 90, 91, 92, 93, 94, 95] (by decide +kernel) (by decide +kernel)
set_option maxRecDepth 20000 in
theorem gX10_unloadIt_X10_standingAt : GoodIn wsX10_unloadIt (wsV RX10 394 RX10 yX10_standingAt wsX10_standingAt) := goodIn_app (goodIn_of _ (by decide +kernel)) ggX10_unloadIt_X10_standingAt
set_option maxRecDepth 20000 in
theorem ggX10_unloadIt_X10_refuse : GoodIn wsX10_unloadIt wsX10_refuse := goodIn_r _ [22, 23, 73, 74, 75, 76, 77, 78, 79, 80, 81, 82, 83, 84, 85, 86, 87, 88, 89, 90, 91, 92, 93, 94, 95] (by decide +kernel) (by decide +kernel)
set_option maxRecDepth 20000 in
theorem gX10_unloadIt_X10_refuse : GoodIn wsX10_unloadIt (wsV RX10 418 RX10 yX10_refuse wsX10_refuse) := goodIn_app (goodIn_of _ (by decide +kernel)) ggX10_unloadIt_X10_refuse
set_option maxRecDepth 20000 in
theorem ggX10_unloadIt_X10_slopeNow : GoodIn wsX10_unloadIt wsX10_slopeNow := goodIn_r _ [27, 1, 28, 29, 30, 31, 73, 74, 75, 76, 77, 78, 79, 80, 81, 82, 83, 84, 85, 86, 87, 88, 89, 90, 91, 92, 93, 94, 95] (by decide +kernel) (by decide +kernel)
set_option maxRecDepth 20000 in
theorem gX10_unloadIt_X10_slopeNow : GoodIn wsX10_unloadIt (wsV RX10 111 RX10 yX10_slopeNow wsX10_slopeNow) := goodIn_app (goodIn_of _ (by decide +kernel)) ggX10_unloadIt_X10_slopeNow
set_option maxRecDepth 20000 in
theorem ggX10_unloadIt_X10_kindOf : GoodIn wsX10_unloadIt wsX10_kindOf := goodIn_r _ [35, 7, 8, 9, 5, 10, 1, 36, 37, 38, 39, 73, 74, 75, 76, 77, 78, 79, 80, 81, 82, 83, 84, 85, 86, 87, 88, 89, 90, 91, 92, 93, 94, 95] (by decide +kernel) (by decide +kernel)
set_option maxRecDepth 20000 in
theorem gX10_unloadIt_X10_kindOf : GoodIn wsX10_unloadIt (wsV RX10 90 RX10 yX10_kindOf wsX10_kindOf) := goodIn_app (goodIn_of _ (by decide +kernel)) ggX10_unloadIt_X10_kindOf
set_option maxRecDepth 20000 in
theorem ggX10_unloadIt_X10_lipNow : GoodIn wsX10_unloadIt wsX10_lipNow := goodIn_r _ [43, 1, 28, 29, 30, 31, 44, 45, 46, 5, 47, 48, 49, 50, 51, 52, 53, 54, 55, 7, 8, 9, 10, 73, 74, 75, 76, 77, 78, 79, 80, 81, 82, 83, 84, 85, 86, 87, 88, 89, 90, 91, 92, 93, 94, 95] (by decide +kernel) (by decide +kernel)
set_option maxRecDepth 20000 in
theorem gX10_unloadIt_X10_lipNow : GoodIn wsX10_unloadIt (wsV RX10 114 RX10 yX10_lipNow wsX10_lipNow) := goodIn_app (goodIn_of _ (by decide +kernel)) ggX10_unloadIt_X10_lipNow
set_option maxRecDepth 20000 in
theorem ggX10_unloadIt_X10_remember : GoodIn wsX10_unloadIt wsX10_remember := goodIn_r _ [59, 60, 1, 61, 23, 62, 63, 64, 5, 65, 66, 67, 68, 73, 74, 75, 76, 77, 78, 79, 80, 81, 82, 83, 84, 85, 86, 87, 88, 89, 90, 91, 92, 93, 94, 95] (by decide +kernel) (by decide +kernel)
set_option maxRecDepth 20000 in
theorem gX10_unloadIt_X10_remember : GoodIn wsX10_unloadIt (wsV RX10 415 RX10 yX10_remember wsX10_remember) := goodIn_app (goodIn_of _ (by decide +kernel)) ggX10_unloadIt_X10_remember
set_option maxRecDepth 20000 in
theorem ggX10_unloadIt_X10_layCar : GoodIn wsX10_unloadIt wsX10_layCar := goodIn_r _ [72, 1, 73, 74, 75, 76, 77, 78, 79, 80, 81, 82, 83, 84, 85, 86, 87, 88, 89, 90, 91, 92, 93, 94, 95] (by decide +kernel) (by decide +kernel)
set_option maxRecDepth 20000 in
theorem gX10_unloadIt_X10_layCar : GoodIn wsX10_unloadIt (wsV RX10 124 RX10 yX10_layCar wsX10_layCar) := goodIn_app (goodIn_of _ (by decide +kernel)) ggX10_unloadIt_X10_layCar
theorem dX10_unloadIt_0 : decode cX10_unloadIt 0 = .ok (.aload_n 0, 1) := by decide +kernel
theorem dX10_unloadIt_1 : decode cX10_unloadIt 1 = .ok (.iload_n 1, 1) := by decide +kernel
theorem dX10_unloadIt_2 : decode cX10_unloadIt 2 = .ok (.aload_n 0, 1) := by decide +kernel
theorem dX10_unloadIt_3 : decode cX10_unloadIt 3 = .ok (.iload_n 1, 1) := by decide +kernel
theorem dX10_unloadIt_4 : decode cX10_unloadIt 4 = .ok (.invokevirtual 421, 3) := by decide +kernel
theorem dX10_unloadIt_7 : decode cX10_unloadIt 7 = .ok (.iconst 1, 1) := by decide +kernel
theorem dX10_unloadIt_8 : decode cX10_unloadIt 8 = .ok (.isub, 1) := by decide +kernel
theorem dX10_unloadIt_9 : decode cX10_unloadIt 9 = .ok (.invokevirtual 394, 3) := by decide +kernel
theorem dX10_unloadIt_12 : decode cX10_unloadIt 12 = .ok (.istore_n 2, 1) := by decide +kernel
theorem dX10_unloadIt_13 : decode cX10_unloadIt 13 = .ok (.iload_n 2, 1) := by decide +kernel
theorem dX10_unloadIt_14 : decode cX10_unloadIt 14 = .ok (.iconst (-1), 1) := by decide +kernel
theorem dX10_unloadIt_15 : decode cX10_unloadIt 15 = .ok (.if_icmp .ne 9, 3) := by decide +kernel
theorem dX10_unloadIt_18 : decode cX10_unloadIt 18 = .ok (.aload_n 0, 1) := by decide +kernel
theorem dX10_unloadIt_19 : decode cX10_unloadIt 19 = .ok (.iconst 1, 1) := by decide +kernel
theorem dX10_unloadIt_20 : decode cX10_unloadIt 20 = .ok (.invokevirtual 418, 3) := by decide +kernel
theorem dX10_unloadIt_23 : decode cX10_unloadIt 23 = .ok (.ireturn, 1) := by decide +kernel
theorem dX10_unloadIt_24 : decode cX10_unloadIt 24 = .ok (.aload_n 0, 1) := by decide +kernel
theorem dX10_unloadIt_25 : decode cX10_unloadIt 25 = .ok (.getfield 7, 3) := by decide +kernel
theorem dX10_unloadIt_28 : decode cX10_unloadIt 28 = .ok (.iconst 4, 1) := by decide +kernel
theorem dX10_unloadIt_29 : decode cX10_unloadIt 29 = .ok (.iaload, 1) := by decide +kernel
theorem dX10_unloadIt_30 : decode cX10_unloadIt 30 = .ok (.iconst (-1), 1) := by decide +kernel
theorem dX10_unloadIt_31 : decode cX10_unloadIt 31 = .ok (.if_icmp .eq 9, 3) := by decide +kernel
theorem dX10_unloadIt_34 : decode cX10_unloadIt 34 = .ok (.aload_n 0, 1) := by decide +kernel
theorem dX10_unloadIt_35 : decode cX10_unloadIt 35 = .ok (.iconst 2, 1) := by decide +kernel
theorem dX10_unloadIt_36 : decode cX10_unloadIt 36 = .ok (.invokevirtual 418, 3) := by decide +kernel
theorem dX10_unloadIt_39 : decode cX10_unloadIt 39 = .ok (.ireturn, 1) := by decide +kernel
theorem dX10_unloadIt_40 : decode cX10_unloadIt 40 = .ok (.aload_n 0, 1) := by decide +kernel
theorem dX10_unloadIt_41 : decode cX10_unloadIt 41 = .ok (.invokevirtual 111, 3) := by decide +kernel
theorem dX10_unloadIt_44 : decode cX10_unloadIt 44 = .ok (.aload_n 0, 1) := by decide +kernel
theorem dX10_unloadIt_45 : decode cX10_unloadIt 45 = .ok (.iload_n 2, 1) := by decide +kernel
theorem dX10_unloadIt_46 : decode cX10_unloadIt 46 = .ok (.iconst 0, 1) := by decide +kernel
theorem dX10_unloadIt_47 : decode cX10_unloadIt 47 = .ok (.invokevirtual 90, 3) := by decide +kernel
theorem dX10_unloadIt_50 : decode cX10_unloadIt 50 = .ok (.if_icmp .le 9, 3) := by decide +kernel
theorem dX10_unloadIt_53 : decode cX10_unloadIt 53 = .ok (.aload_n 0, 1) := by decide +kernel
theorem dX10_unloadIt_54 : decode cX10_unloadIt 54 = .ok (.iconst 3, 1) := by decide +kernel
theorem dX10_unloadIt_55 : decode cX10_unloadIt 55 = .ok (.invokevirtual 418, 3) := by decide +kernel
theorem dX10_unloadIt_58 : decode cX10_unloadIt 58 = .ok (.ireturn, 1) := by decide +kernel
theorem dX10_unloadIt_59 : decode cX10_unloadIt 59 = .ok (.aload_n 0, 1) := by decide +kernel
theorem dX10_unloadIt_60 : decode cX10_unloadIt 60 = .ok (.invokevirtual 114, 3) := by decide +kernel
theorem dX10_unloadIt_63 : decode cX10_unloadIt 63 = .ok (.aload_n 0, 1) := by decide +kernel
theorem dX10_unloadIt_64 : decode cX10_unloadIt 64 = .ok (.iload_n 2, 1) := by decide +kernel
theorem dX10_unloadIt_65 : decode cX10_unloadIt 65 = .ok (.iconst 1, 1) := by decide +kernel
theorem dX10_unloadIt_66 : decode cX10_unloadIt 66 = .ok (.invokevirtual 90, 3) := by decide +kernel
theorem dX10_unloadIt_69 : decode cX10_unloadIt 69 = .ok (.if_icmp .le 9, 3) := by decide +kernel
theorem dX10_unloadIt_72 : decode cX10_unloadIt 72 = .ok (.aload_n 0, 1) := by decide +kernel
theorem dX10_unloadIt_73 : decode cX10_unloadIt 73 = .ok (.iconst 4, 1) := by decide +kernel
theorem dX10_unloadIt_74 : decode cX10_unloadIt 74 = .ok (.invokevirtual 418, 3) := by decide +kernel
theorem dX10_unloadIt_77 : decode cX10_unloadIt 77 = .ok (.ireturn, 1) := by decide +kernel
theorem dX10_unloadIt_78 : decode cX10_unloadIt 78 = .ok (.aload_n 0, 1) := by decide +kernel
theorem dX10_unloadIt_79 : decode cX10_unloadIt 79 = .ok (.invokevirtual 415, 3) := by decide +kernel
theorem dX10_unloadIt_82 : decode cX10_unloadIt 82 = .ok (.aload_n 0, 1) := by decide +kernel
theorem dX10_unloadIt_83 : decode cX10_unloadIt 83 = .ok (.iload_n 2, 1) := by decide +kernel
theorem dX10_unloadIt_84 : decode cX10_unloadIt 84 = .ok (.iconst 2, 1) := by decide +kernel
theorem dX10_unloadIt_85 : decode cX10_unloadIt 85 = .ok (.iconst 3, 1) := by decide +kernel
theorem dX10_unloadIt_86 : decode cX10_unloadIt 86 = .ok (.invokevirtual 124, 3) := by decide +kernel
theorem dX10_unloadIt_89 : decode cX10_unloadIt 89 = .ok (.aload_n 0, 1) := by decide +kernel
theorem dX10_unloadIt_90 : decode cX10_unloadIt 90 = .ok (.getfield 7, 3) := by decide +kernel
theorem dX10_unloadIt_93 : decode cX10_unloadIt 93 = .ok (.bipush 10, 2) := by decide +kernel
theorem dX10_unloadIt_95 : decode cX10_unloadIt 95 = .ok (.dup2, 1) := by decide +kernel
theorem dX10_unloadIt_96 : decode cX10_unloadIt 96 = .ok (.iaload, 1) := by decide +kernel
theorem dX10_unloadIt_97 : decode cX10_unloadIt 97 = .ok (.iconst 1, 1) := by decide +kernel
theorem dX10_unloadIt_98 : decode cX10_unloadIt 98 = .ok (.iadd, 1) := by decide +kernel
theorem dX10_unloadIt_99 : decode cX10_unloadIt 99 = .ok (.iastore, 1) := by decide +kernel
theorem dX10_unloadIt_100 : decode cX10_unloadIt 100 = .ok (.iload_n 2, 1) := by decide +kernel
theorem dX10_unloadIt_101 : decode cX10_unloadIt 101 = .ok (.ireturn, 1) := by decide +kernel
set_option maxRecDepth 20000 in
theorem ggX10_unload_X10_isLane : GoodIn wsX10_unload wsX10_isLane := goodIn_r _ [5, 6, 7, 4, 8] (by decide +kernel) (by decide +kernel)
set_option maxRecDepth 20000 in
theorem gX10_unload_X10_isLane : GoodIn wsX10_unload (va_wsS RX10 391 yX10_isLane wsX10_isLane) := goodIn_app (goodIn_of _ (by decide +kernel)) ggX10_unload_X10_isLane
set_option maxRecDepth 20000 in
theorem ggX10_unload_X10_unloadIt : GoodIn wsX10_unload wsX10_unloadIt := goodIn_r _ [12, 13, 14, 15, 16, 4, 17, 18, 19, 20, 21, 22, 23, 24, 25, 26, 27, 28, 29, 30, 31, 32, 33, 34, 35, 36, 37, 38, 39, 40, 41, 42, 43, 44, 45, 46, 47, 48, 49, 50, 51, 52, 53, 54, 55, 56, 57, 58, 59, 60, 61, 62, 63, 64, 65, 66, 67, 68, 69, 70, 71, 72, 73, 74, 75, 76, 77, 78, 79, 80, 81, 82, 83, 88, 89, 90, 91, 92, 93, 94, 95, 96, 97, 98, 99, 100, 101, 102, 103, 104, 105, 106, 107, 108, 109, 110] (by decide +kernel) (by decide +kernel)
set_option maxRecDepth 20000 in
theorem gX10_unload_X10_unloadIt : GoodIn wsX10_unload (wsV RX10 356 RX10 yX10_unloadIt wsX10_unloadIt) := goodIn_app (goodIn_of _ (by decide +kernel)) ggX10_unload_X10_unloadIt
set_option maxRecDepth 20000 in
theorem ggX10_unload_X10_fail : GoodIn wsX10_unload wsX10_fail := goodIn_r _ [87, 1, 88, 89, 90, 91, 92, 93, 94, 95, 96, 97, 98, 99, 100, 101, 102, 103, 104, 105, 106, 107, 108, 109, 110] (by decide +kernel) (by decide +kernel)
set_option maxRecDepth 20000 in
theorem gX10_unload_X10_fail : GoodIn wsX10_unload (wsV RX10 161 RX10 yX10_fail wsX10_fail) := goodIn_app (goodIn_of _ (by decide +kernel)) ggX10_unload_X10_fail
theorem dX10_unload_0 : decode cX10_unload 0 = .ok (.aload_n 0, 1) := by decide +kernel
theorem dX10_unload_1 : decode cX10_unload 1 = .ok (.iconst 0, 1) := by decide +kernel
theorem dX10_unload_2 : decode cX10_unload 2 = .ok (.putfield 48, 3) := by decide +kernel
theorem dX10_unload_5 : decode cX10_unload 5 = .ok (.iload_n 1, 1) := by decide +kernel
theorem dX10_unload_6 : decode cX10_unload 6 = .ok (.invokestatic 391, 3) := by decide +kernel
theorem dX10_unload_9 : decode cX10_unload 9 = .ok (.ifCond .eq 11, 3) := by decide +kernel
theorem dX10_unload_12 : decode cX10_unload 12 = .ok (.aload_n 0, 1) := by decide +kernel
theorem dX10_unload_13 : decode cX10_unload 13 = .ok (.iload_n 1, 1) := by decide +kernel
theorem dX10_unload_14 : decode cX10_unload 14 = .ok (.invokevirtual 356, 3) := by decide +kernel
theorem dX10_unload_17 : decode cX10_unload 17 = .ok (.goto 8, 3) := by decide +kernel
theorem dX10_unload_20 : decode cX10_unload 20 = .ok (.aload_n 0, 1) := by decide +kernel
theorem dX10_unload_21 : decode cX10_unload 21 = .ok (.iconst 1, 1) := by decide +kernel
theorem dX10_unload_22 : decode cX10_unload 22 = .ok (.invokevirtual 161, 3) := by decide +kernel
theorem dX10_unload_25 : decode cX10_unload 25 = .ok (.ireturn, 1) := by decide +kernel
set_option maxRecDepth 20000 in
theorem ggX10_gateIt_X10_refuse : GoodIn wsX10_gateIt wsX10_refuse := goodIn_r _ [6, 7, 21, 22, 23, 24, 25, 26, 27, 28, 29, 30, 31, 32, 33, 34, 35, 36, 37, 38, 39, 40, 41, 42, 43] (by decide +kernel) (by decide +kernel)
set_option maxRecDepth 20000 in
theorem gX10_gateIt_X10_refuse : GoodIn wsX10_gateIt (wsV RX10 418 RX10 yX10_refuse wsX10_refuse) := goodIn_app (goodIn_of _ (by decide +kernel)) ggX10_gateIt_X10_refuse
set_option maxRecDepth 20000 in
theorem ggX10_gateIt_X10_remember : GoodIn wsX10_gateIt wsX10_remember := goodIn_r _ [11, 12, 1, 13, 7, 14, 15, 16, 5, 17, 18, 19, 20, 21, 22, 23, 24, 25, 26, 27, 28, 29, 30, 31, 32, 33, 34, 35, 36, 37, 38, 39, 40, 41, 42, 43] (by decide +kernel) (by decide +kernel)
set_option maxRecDepth 20000 in
theorem gX10_gateIt_X10_remember : GoodIn wsX10_gateIt (wsV RX10 415 RX10 yX10_remember wsX10_remember) := goodIn_app (goodIn_of _ (by decide +kernel)) ggX10_gateIt_X10_remember
theorem dX10_gateIt_0 : decode cX10_gateIt 0 = .ok (.aload_n 0, 1) := by decide +kernel
theorem dX10_gateIt_1 : decode cX10_gateIt 1 = .ok (.getfield 7, 3) := by decide +kernel
theorem dX10_gateIt_4 : decode cX10_gateIt 4 = .ok (.bipush 12, 2) := by decide +kernel
theorem dX10_gateIt_6 : decode cX10_gateIt 6 = .ok (.iaload, 1) := by decide +kernel
theorem dX10_gateIt_7 : decode cX10_gateIt 7 = .ok (.iconst 1, 1) := by decide +kernel
theorem dX10_gateIt_8 : decode cX10_gateIt 8 = .ok (.if_icmp .ne 7, 3) := by decide +kernel
theorem dX10_gateIt_11 : decode cX10_gateIt 11 = .ok (.iconst 1, 1) := by decide +kernel
theorem dX10_gateIt_12 : decode cX10_gateIt 12 = .ok (.goto 4, 3) := by decide +kernel
theorem dX10_gateIt_15 : decode cX10_gateIt 15 = .ok (.iconst 0, 1) := by decide +kernel
theorem dX10_gateIt_16 : decode cX10_gateIt 16 = .ok (.iload_n 1, 1) := by decide +kernel
theorem dX10_gateIt_17 : decode cX10_gateIt 17 = .ok (.if_icmp .ne 9, 3) := by decide +kernel
theorem dX10_gateIt_20 : decode cX10_gateIt 20 = .ok (.aload_n 0, 1) := by decide +kernel
theorem dX10_gateIt_21 : decode cX10_gateIt 21 = .ok (.iconst 1, 1) := by decide +kernel
theorem dX10_gateIt_22 : decode cX10_gateIt 22 = .ok (.invokevirtual 418, 3) := by decide +kernel
theorem dX10_gateIt_25 : decode cX10_gateIt 25 = .ok (.ireturn, 1) := by decide +kernel
theorem dX10_gateIt_26 : decode cX10_gateIt 26 = .ok (.aload_n 0, 1) := by decide +kernel
theorem dX10_gateIt_27 : decode cX10_gateIt 27 = .ok (.invokevirtual 415, 3) := by decide +kernel
theorem dX10_gateIt_30 : decode cX10_gateIt 30 = .ok (.aload_n 0, 1) := by decide +kernel
theorem dX10_gateIt_31 : decode cX10_gateIt 31 = .ok (.getfield 7, 3) := by decide +kernel
theorem dX10_gateIt_34 : decode cX10_gateIt 34 = .ok (.bipush 12, 2) := by decide +kernel
theorem dX10_gateIt_36 : decode cX10_gateIt 36 = .ok (.iload_n 1, 1) := by decide +kernel
theorem dX10_gateIt_37 : decode cX10_gateIt 37 = .ok (.ifCond .eq 7, 3) := by decide +kernel
theorem dX10_gateIt_40 : decode cX10_gateIt 40 = .ok (.iconst 1, 1) := by decide +kernel
theorem dX10_gateIt_41 : decode cX10_gateIt 41 = .ok (.goto 4, 3) := by decide +kernel
theorem dX10_gateIt_44 : decode cX10_gateIt 44 = .ok (.iconst 0, 1) := by decide +kernel
theorem dX10_gateIt_45 : decode cX10_gateIt 45 = .ok (.iastore, 1) := by decide +kernel
theorem dX10_gateIt_46 : decode cX10_gateIt 46 = .ok (.iconst 0, 1) := by decide +kernel
theorem dX10_gateIt_47 : decode cX10_gateIt 47 = .ok (.ireturn, 1) := by decide +kernel
set_option maxRecDepth 20000 in
theorem ggX10_setGate_X10_gateIt : GoodIn wsX10_setGate wsX10_gateIt := goodIn_r _ [6, 7, 8, 9, 10, 5, 11, 12, 13, 14, 15, 16, 17, 18, 19, 20, 21, 22, 23, 24, 25, 26, 27, 28, 29, 30, 31, 32, 33, 34, 35, 36, 37, 38, 39, 40, 41, 42, 43, 44, 45, 46, 47, 48] (by decide +kernel) (by decide +kernel)
set_option maxRecDepth 20000 in
theorem gX10_setGate_X10_gateIt : GoodIn wsX10_setGate (wsV RX10 359 RX10 yX10_gateIt wsX10_gateIt) := goodIn_app (goodIn_of _ (by decide +kernel)) ggX10_setGate_X10_gateIt
theorem dX10_setGate_0 : decode cX10_setGate 0 = .ok (.aload_n 0, 1) := by decide +kernel
theorem dX10_setGate_1 : decode cX10_setGate 1 = .ok (.iconst 0, 1) := by decide +kernel
theorem dX10_setGate_2 : decode cX10_setGate 2 = .ok (.putfield 48, 3) := by decide +kernel
theorem dX10_setGate_5 : decode cX10_setGate 5 = .ok (.aload_n 0, 1) := by decide +kernel
theorem dX10_setGate_6 : decode cX10_setGate 6 = .ok (.iload_n 1, 1) := by decide +kernel
theorem dX10_setGate_7 : decode cX10_setGate 7 = .ok (.invokevirtual 359, 3) := by decide +kernel
theorem dX10_setGate_10 : decode cX10_setGate 10 = .ok (.ireturn, 1) := by decide +kernel
set_option maxRecDepth 20000 in
theorem ggX10_crankIt_X10_refuse : GoodIn wsX10_crankIt wsX10_refuse := goodIn_r _ [6, 7, 45, 46, 47, 48, 49, 50, 51, 52, 53, 54, 55, 56, 57, 58, 59, 60, 61, 62, 63, 64, 65, 66, 67] (by decide +kernel) (by decide +kernel)
set_option maxRecDepth 20000 in
theorem gX10_crankIt_X10_refuse : GoodIn wsX10_crankIt (wsV RX10 418 RX10 yX10_refuse wsX10_refuse) := goodIn_app (goodIn_of _ (by decide +kernel)) ggX10_crankIt_X10_refuse
set_option maxRecDepth 20000 in
theorem ggX10_crankIt_X10_remember : GoodIn wsX10_crankIt wsX10_remember := goodIn_r _ [11, 12, 1, 13, 7, 14, 15, 16, 5, 17, 18, 19, 20, 45, 46, 47, 48, 49, 50, 51, 52, 53, 54, 55, 56, 57, 58, 59, 60, 61, 62, 63, 64, 65, 66, 67] (by decide +kernel) (by decide +kernel)
set_option maxRecDepth 20000 in
theorem gX10_crankIt_X10_remember : GoodIn wsX10_crankIt (wsV RX10 415 RX10 yX10_remember wsX10_remember) := goodIn_app (goodIn_of _ (by decide +kernel)) ggX10_crankIt_X10_remember
set_option maxRecDepth 20000 in
theorem ggX10_crankIt_X10_lipNow : GoodIn wsX10_crankIt wsX10_lipNow := goodIn_r _ [24, 1, 25, 26, 27, 28, 29, 30, 31, 5, 32, 33, 34, 35, 36, 37, 38, 39, 40, 41, 42, 43, 44, 45, 46, 47, 48, 49, 50, 51, 52, 53, 54, 55, 56, 57, 58, 59, 60, 61, 62, 63, 64, 65, 66, 67] (by decide +kernel) (by decide +kernel)
set_option maxRecDepth 20000 in
theorem gX10_crankIt_X10_lipNow : GoodIn wsX10_crankIt (wsV RX10 114 RX10 yX10_lipNow wsX10_lipNow) := goodIn_app (goodIn_of _ (by decide +kernel)) ggX10_crankIt_X10_lipNow
theorem dX10_crankIt_0 : decode cX10_crankIt 0 = .ok (.iload_n 1, 1) := by decide +kernel
theorem dX10_crankIt_1 : decode cX10_crankIt 1 = .ok (.ifCond .ne 9, 3) := by decide +kernel
theorem dX10_crankIt_4 : decode cX10_crankIt 4 = .ok (.aload_n 0, 1) := by decide +kernel
theorem dX10_crankIt_5 : decode cX10_crankIt 5 = .ok (.iconst 1, 1) := by decide +kernel
theorem dX10_crankIt_6 : decode cX10_crankIt 6 = .ok (.invokevirtual 418, 3) := by decide +kernel
theorem dX10_crankIt_9 : decode cX10_crankIt 9 = .ok (.ireturn, 1) := by decide +kernel
theorem dX10_crankIt_10 : decode cX10_crankIt 10 = .ok (.aload_n 0, 1) := by decide +kernel
theorem dX10_crankIt_11 : decode cX10_crankIt 11 = .ok (.getfield 7, 3) := by decide +kernel
theorem dX10_crankIt_14 : decode cX10_crankIt 14 = .ok (.iconst 4, 1) := by decide +kernel
theorem dX10_crankIt_15 : decode cX10_crankIt 15 = .ok (.iaload, 1) := by decide +kernel
theorem dX10_crankIt_16 : decode cX10_crankIt 16 = .ok (.iconst (-1), 1) := by decide +kernel
theorem dX10_crankIt_17 : decode cX10_crankIt 17 = .ok (.if_icmp .eq 9, 3) := by decide +kernel
theorem dX10_crankIt_20 : decode cX10_crankIt 20 = .ok (.aload_n 0, 1) := by decide +kernel
theorem dX10_crankIt_21 : decode cX10_crankIt 21 = .ok (.iconst 2, 1) := by decide +kernel
theorem dX10_crankIt_22 : decode cX10_crankIt 22 = .ok (.invokevirtual 418, 3) := by decide +kernel
theorem dX10_crankIt_25 : decode cX10_crankIt 25 = .ok (.ireturn, 1) := by decide +kernel
theorem dX10_crankIt_26 : decode cX10_crankIt 26 = .ok (.aload_n 0, 1) := by decide +kernel
theorem dX10_crankIt_27 : decode cX10_crankIt 27 = .ok (.invokevirtual 415, 3) := by decide +kernel
theorem dX10_crankIt_30 : decode cX10_crankIt 30 = .ok (.aload_n 0, 1) := by decide +kernel
theorem dX10_crankIt_31 : decode cX10_crankIt 31 = .ok (.getfield 7, 3) := by decide +kernel
theorem dX10_crankIt_34 : decode cX10_crankIt 34 = .ok (.iconst 1, 1) := by decide +kernel
theorem dX10_crankIt_35 : decode cX10_crankIt 35 = .ok (.dup2, 1) := by decide +kernel
theorem dX10_crankIt_36 : decode cX10_crankIt 36 = .ok (.iaload, 1) := by decide +kernel
theorem dX10_crankIt_37 : decode cX10_crankIt 37 = .ok (.iload_n 1, 1) := by decide +kernel
theorem dX10_crankIt_38 : decode cX10_crankIt 38 = .ok (.iadd, 1) := by decide +kernel
theorem dX10_crankIt_39 : decode cX10_crankIt 39 = .ok (.iastore, 1) := by decide +kernel
theorem dX10_crankIt_40 : decode cX10_crankIt 40 = .ok (.aload_n 0, 1) := by decide +kernel
theorem dX10_crankIt_41 : decode cX10_crankIt 41 = .ok (.invokevirtual 114, 3) := by decide +kernel
theorem dX10_crankIt_44 : decode cX10_crankIt 44 = .ok (.ireturn, 1) := by decide +kernel
set_option maxRecDepth 20000 in
theorem ggX10_crank_X10_isBetween : GoodIn wsX10_crank wsX10_isBetween := goodIn_r _ [5] (by decide +kernel) (by decide +kernel)
set_option maxRecDepth 20000 in
theorem gX10_crank_X10_isBetween : GoodIn wsX10_crank (va_wsS RX10 62 yX10_isBetween wsX10_isBetween) := goodIn_app (goodIn_of _ (by decide +kernel)) ggX10_crank_X10_isBetween
set_option maxRecDepth 20000 in
theorem ggX10_crank_X10_crankIt : GoodIn wsX10_crank wsX10_crankIt := goodIn_r _ [9, 10, 11, 12, 13, 4, 14, 15, 16, 17, 18, 19, 20, 21, 22, 23, 24, 25, 26, 27, 28, 29, 30, 31, 32, 33, 34, 35, 36, 37, 38, 39, 40, 41, 42, 43, 44, 45, 46, 47, 48, 49, 50, 51, 52, 57, 58, 59, 60, 61, 62, 63, 64, 65, 66, 67, 68, 69, 70, 71, 72, 73, 74, 75, 76, 77, 78, 79] (by decide +kernel) (by decide +kernel)
set_option maxRecDepth 20000 in
theorem gX10_crank_X10_crankIt : GoodIn wsX10_crank (wsV RX10 363 RX10 yX10_crankIt wsX10_crankIt) := goodIn_app (goodIn_of _ (by decide +kernel)) ggX10_crank_X10_crankIt
set_option maxRecDepth 20000 in
theorem ggX10_crank_X10_fail : GoodIn wsX10_crank wsX10_fail := goodIn_r _ [56, 1, 57, 58, 59, 60, 61, 62, 63, 64, 65, 66, 67, 68, 69, 70, 71, 72, 73, 74, 75, 76, 77, 78, 79] (by decide +kernel) (by decide +kernel)
set_option maxRecDepth 20000 in
theorem gX10_crank_X10_fail : GoodIn wsX10_crank (wsV RX10 161 RX10 yX10_fail wsX10_fail) := goodIn_app (goodIn_of _ (by decide +kernel)) ggX10_crank_X10_fail
theorem dX10_crank_0 : decode cX10_crank 0 = .ok (.aload_n 0, 1) := by decide +kernel
theorem dX10_crank_1 : decode cX10_crank 1 = .ok (.iconst 0, 1) := by decide +kernel
theorem dX10_crank_2 : decode cX10_crank 2 = .ok (.putfield 48, 3) := by decide +kernel
theorem dX10_crank_5 : decode cX10_crank 5 = .ok (.iload_n 1, 1) := by decide +kernel
theorem dX10_crank_6 : decode cX10_crank 6 = .ok (.bipush (-20), 2) := by decide +kernel
theorem dX10_crank_8 : decode cX10_crank 8 = .ok (.bipush 20, 2) := by decide +kernel
theorem dX10_crank_10 : decode cX10_crank 10 = .ok (.invokestatic 62, 3) := by decide +kernel
theorem dX10_crank_13 : decode cX10_crank 13 = .ok (.ifCond .eq 11, 3) := by decide +kernel
theorem dX10_crank_16 : decode cX10_crank 16 = .ok (.aload_n 0, 1) := by decide +kernel
theorem dX10_crank_17 : decode cX10_crank 17 = .ok (.iload_n 1, 1) := by decide +kernel
theorem dX10_crank_18 : decode cX10_crank 18 = .ok (.invokevirtual 363, 3) := by decide +kernel
theorem dX10_crank_21 : decode cX10_crank 21 = .ok (.goto 8, 3) := by decide +kernel
theorem dX10_crank_24 : decode cX10_crank 24 = .ok (.aload_n 0, 1) := by decide +kernel
theorem dX10_crank_25 : decode cX10_crank 25 = .ok (.iconst 1, 1) := by decide +kernel
theorem dX10_crank_26 : decode cX10_crank 26 = .ok (.invokevirtual 161, 3) := by decide +kernel
theorem dX10_crank_29 : decode cX10_crank 29 = .ok (.ireturn, 1) := by decide +kernel
set_option maxRecDepth 20000 in
theorem ggX10_winchIt_X10_remember : GoodIn wsX10_winchIt wsX10_remember := goodIn_r _ [6, 7, 1, 8, 9, 10, 11, 12, 5, 13, 14, 15, 16, 17, 18, 19, 20, 21, 22, 23, 24, 25, 26, 27, 28, 29, 30, 31, 32, 33, 34, 35, 36, 37, 38, 39] (by decide +kernel) (by decide +kernel)
set_option maxRecDepth 20000 in
theorem gX10_winchIt_X10_remember : GoodIn wsX10_winchIt (wsV RX10 415 RX10 yX10_remember wsX10_remember) := goodIn_app (goodIn_of _ (by decide +kernel)) ggX10_winchIt_X10_remember
theorem dX10_winchIt_0 : decode cX10_winchIt 0 = .ok (.aload_n 0, 1) := by decide +kernel
theorem dX10_winchIt_1 : decode cX10_winchIt 1 = .ok (.invokevirtual 415, 3) := by decide +kernel
theorem dX10_winchIt_4 : decode cX10_winchIt 4 = .ok (.aload_n 0, 1) := by decide +kernel
theorem dX10_winchIt_5 : decode cX10_winchIt 5 = .ok (.getfield 7, 3) := by decide +kernel
theorem dX10_winchIt_8 : decode cX10_winchIt 8 = .ok (.bipush 24, 2) := by decide +kernel
theorem dX10_winchIt_10 : decode cX10_winchIt 10 = .ok (.iload_n 1, 1) := by decide +kernel
theorem dX10_winchIt_11 : decode cX10_winchIt 11 = .ok (.iastore, 1) := by decide +kernel
theorem dX10_winchIt_12 : decode cX10_winchIt 12 = .ok (.aload_n 0, 1) := by decide +kernel
theorem dX10_winchIt_13 : decode cX10_winchIt 13 = .ok (.getfield 7, 3) := by decide +kernel
theorem dX10_winchIt_16 : decode cX10_winchIt 16 = .ok (.bipush 25, 2) := by decide +kernel
theorem dX10_winchIt_18 : decode cX10_winchIt 18 = .ok (.iload_n 2, 1) := by decide +kernel
theorem dX10_winchIt_19 : decode cX10_winchIt 19 = .ok (.iastore, 1) := by decide +kernel
theorem dX10_winchIt_20 : decode cX10_winchIt 20 = .ok (.aload_n 0, 1) := by decide +kernel
theorem dX10_winchIt_21 : decode cX10_winchIt 21 = .ok (.getfield 7, 3) := by decide +kernel
theorem dX10_winchIt_24 : decode cX10_winchIt 24 = .ok (.bipush 26, 2) := by decide +kernel
theorem dX10_winchIt_26 : decode cX10_winchIt 26 = .ok (.iload_n 3, 1) := by decide +kernel
theorem dX10_winchIt_27 : decode cX10_winchIt 27 = .ok (.iastore, 1) := by decide +kernel
theorem dX10_winchIt_28 : decode cX10_winchIt 28 = .ok (.iconst 0, 1) := by decide +kernel
theorem dX10_winchIt_29 : decode cX10_winchIt 29 = .ok (.ireturn, 1) := by decide +kernel
set_option maxRecDepth 20000 in
theorem ggX10_setWinch_X10_isBetween : GoodIn wsX10_setWinch wsX10_isBetween := goodIn_r _ [5] (by decide +kernel) (by decide +kernel)
set_option maxRecDepth 20000 in
theorem gX10_setWinch_X10_isBetween : GoodIn wsX10_setWinch (va_wsS RX10 62 yX10_isBetween wsX10_isBetween) := goodIn_app (goodIn_of _ (by decide +kernel)) ggX10_setWinch_X10_isBetween
set_option maxRecDepth 20000 in
theorem ggX10_setWinch_X10_winchIt : GoodIn wsX10_setWinch wsX10_winchIt := goodIn_r _ [9, 10, 11, 12, 13, 4, 14, 15, 16, 17, 18, 19, 20, 21, 22, 23, 24, 29, 30, 31, 32, 33, 34, 35, 36, 37, 38, 39, 40, 41, 42, 43, 44, 45, 46, 47, 48, 49, 50, 51] (by decide +kernel) (by decide +kernel)
set_option maxRecDepth 20000 in
theorem gX10_setWinch_X10_winchIt : GoodIn wsX10_setWinch (wsV RX10 366 RX10 yX10_winchIt wsX10_winchIt) := goodIn_app (goodIn_of _ (by decide +kernel)) ggX10_setWinch_X10_winchIt
set_option maxRecDepth 20000 in
theorem ggX10_setWinch_X10_fail : GoodIn wsX10_setWinch wsX10_fail := goodIn_r _ [28, 1, 29, 30, 31, 32, 33, 34, 35, 36, 37, 38, 39, 40, 41, 42, 43, 44, 45, 46, 47, 48, 49, 50, 51] (by decide +kernel) (by decide +kernel)
set_option maxRecDepth 20000 in
theorem gX10_setWinch_X10_fail : GoodIn wsX10_setWinch (wsV RX10 161 RX10 yX10_fail wsX10_fail) := goodIn_app (goodIn_of _ (by decide +kernel)) ggX10_setWinch_X10_fail
theorem dX10_setWinch_0 : decode cX10_setWinch 0 = .ok (.aload_n 0, 1) := by decide +kernel
theorem dX10_setWinch_1 : decode cX10_setWinch 1 = .ok (.iconst 0, 1) := by decide +kernel
theorem dX10_setWinch_2 : decode cX10_setWinch 2 = .ok (.putfield 48, 3) := by decide +kernel
theorem dX10_setWinch_5 : decode cX10_setWinch 5 = .ok (.iload_n 1, 1) := by decide +kernel
theorem dX10_setWinch_6 : decode cX10_setWinch 6 = .ok (.iconst 1, 1) := by decide +kernel
theorem dX10_setWinch_7 : decode cX10_setWinch 7 = .ok (.bipush 20, 2) := by decide +kernel
theorem dX10_setWinch_9 : decode cX10_setWinch 9 = .ok (.invokestatic 62, 3) := by decide +kernel
theorem dX10_setWinch_12 : decode cX10_setWinch 12 = .ok (.ifCond .eq 27, 3) := by decide +kernel
theorem dX10_setWinch_15 : decode cX10_setWinch 15 = .ok (.iload_n 2, 1) := by decide +kernel
theorem dX10_setWinch_16 : decode cX10_setWinch 16 = .ok (.iconst 0, 1) := by decide +kernel
theorem dX10_setWinch_17 : decode cX10_setWinch 17 = .ok (.bipush 50, 2) := by decide +kernel
theorem dX10_setWinch_19 : decode cX10_setWinch 19 = .ok (.invokestatic 62, 3) := by decide +kernel
theorem dX10_setWinch_22 : decode cX10_setWinch 22 = .ok (.ifCond .eq 17, 3) := by decide +kernel
theorem dX10_setWinch_25 : decode cX10_setWinch 25 = .ok (.iload_n 3, 1) := by decide +kernel
theorem dX10_setWinch_26 : decode cX10_setWinch 26 = .ok (.iconst 0, 1) := by decide +kernel
theorem dX10_setWinch_27 : decode cX10_setWinch 27 = .ok (.bipush 20, 2) := by decide +kernel
theorem dX10_setWinch_29 : decode cX10_setWinch 29 = .ok (.invokestatic 62, 3) := by decide +kernel
theorem dX10_setWinch_32 : decode cX10_setWinch 32 = .ok (.ifCond .eq 7, 3) := by decide +kernel
theorem dX10_setWinch_35 : decode cX10_setWinch 35 = .ok (.iconst 1, 1) := by decide +kernel
theorem dX10_setWinch_36 : decode cX10_setWinch 36 = .ok (.goto 4, 3) := by decide +kernel
theorem dX10_setWinch_39 : decode cX10_setWinch 39 = .ok (.iconst 0, 1) := by decide +kernel
theorem dX10_setWinch_40 : decode cX10_setWinch 40 = .ok (.istore 4, 2) := by decide +kernel
theorem dX10_setWinch_42 : decode cX10_setWinch 42 = .ok (.iload 4, 2) := by decide +kernel
theorem dX10_setWinch_44 : decode cX10_setWinch 44 = .ok (.ifCond .eq 13, 3) := by decide +kernel
theorem dX10_setWinch_47 : decode cX10_setWinch 47 = .ok (.aload_n 0, 1) := by decide +kernel
theorem dX10_setWinch_48 : decode cX10_setWinch 48 = .ok (.iload_n 1, 1) := by decide +kernel
theorem dX10_setWinch_49 : decode cX10_setWinch 49 = .ok (.iload_n 2, 1) := by decide +kernel
theorem dX10_setWinch_50 : decode cX10_setWinch 50 = .ok (.iload_n 3, 1) := by decide +kernel
theorem dX10_setWinch_51 : decode cX10_setWinch 51 = .ok (.invokevirtual 366, 3) := by decide +kernel
theorem dX10_setWinch_54 : decode cX10_setWinch 54 = .ok (.goto 8, 3) := by decide +kernel
theorem dX10_setWinch_57 : decode cX10_setWinch 57 = .ok (.aload_n 0, 1) := by decide +kernel
theorem dX10_setWinch_58 : decode cX10_setWinch 58 = .ok (.iconst 1, 1) := by decide +kernel
theorem dX10_setWinch_59 : decode cX10_setWinch 59 = .ok (.invokevirtual 161, 3) := by decide +kernel
theorem dX10_setWinch_62 : decode cX10_setWinch 62 = .ok (.ireturn, 1) := by decide +kernel
set_option maxRecDepth 20000 in
theorem ggX10_crossIt_X10_remember : GoodIn wsX10_crossIt wsX10_remember := goodIn_r _ [6, 7, 1, 8, 9, 10, 11, 12, 5, 13, 14, 15, 16, 17, 18, 19, 20, 21, 22, 23, 24, 25, 26, 27, 28, 29, 30, 31, 32, 33, 34, 35, 36, 37, 38, 39] (by decide +kernel) (by decide +kernel)
set_option maxRecDepth 20000 in
theorem gX10_crossIt_X10_remember : GoodIn wsX10_crossIt (wsV RX10 415 RX10 yX10_remember wsX10_remember) := goodIn_app (goodIn_of _ (by decide +kernel)) ggX10_crossIt_X10_remember
theorem dX10_crossIt_0 : decode cX10_crossIt 0 = .ok (.aload_n 0, 1) := by decide +kernel
theorem dX10_crossIt_1 : decode cX10_crossIt 1 = .ok (.invokevirtual 415, 3) := by decide +kernel
theorem dX10_crossIt_4 : decode cX10_crossIt 4 = .ok (.aload_n 0, 1) := by decide +kernel
theorem dX10_crossIt_5 : decode cX10_crossIt 5 = .ok (.getfield 7, 3) := by decide +kernel
theorem dX10_crossIt_8 : decode cX10_crossIt 8 = .ok (.bipush 27, 2) := by decide +kernel
theorem dX10_crossIt_10 : decode cX10_crossIt 10 = .ok (.iload_n 1, 1) := by decide +kernel
theorem dX10_crossIt_11 : decode cX10_crossIt 11 = .ok (.iastore, 1) := by decide +kernel
theorem dX10_crossIt_12 : decode cX10_crossIt 12 = .ok (.aload_n 0, 1) := by decide +kernel
theorem dX10_crossIt_13 : decode cX10_crossIt 13 = .ok (.getfield 7, 3) := by decide +kernel
theorem dX10_crossIt_16 : decode cX10_crossIt 16 = .ok (.bipush 28, 2) := by decide +kernel
theorem dX10_crossIt_18 : decode cX10_crossIt 18 = .ok (.iload_n 2, 1) := by decide +kernel
theorem dX10_crossIt_19 : decode cX10_crossIt 19 = .ok (.iastore, 1) := by decide +kernel
theorem dX10_crossIt_20 : decode cX10_crossIt 20 = .ok (.iconst 0, 1) := by decide +kernel
theorem dX10_crossIt_21 : decode cX10_crossIt 21 = .ok (.ireturn, 1) := by decide +kernel
set_option maxRecDepth 20000 in
theorem ggX10_setCross_X10_isBetween : GoodIn wsX10_setCross wsX10_isBetween := goodIn_r _ [5] (by decide +kernel) (by decide +kernel)
set_option maxRecDepth 20000 in
theorem gX10_setCross_X10_isBetween : GoodIn wsX10_setCross (va_wsS RX10 62 yX10_isBetween wsX10_isBetween) := goodIn_app (goodIn_of _ (by decide +kernel)) ggX10_setCross_X10_isBetween
set_option maxRecDepth 20000 in
theorem ggX10_setCross_X10_crossIt : GoodIn wsX10_setCross wsX10_crossIt := goodIn_r _ [9, 10, 11, 12, 13, 4, 14, 15, 16, 17, 18, 19, 20, 21, 22, 23, 24, 29, 30, 31, 32, 33, 34, 35, 36, 37, 38, 39, 40, 41, 42, 43, 44, 45, 46, 47, 48, 49, 50, 51] (by decide +kernel) (by decide +kernel)
set_option maxRecDepth 20000 in
theorem gX10_setCross_X10_crossIt : GoodIn wsX10_setCross (wsV RX10 370 RX10 yX10_crossIt wsX10_crossIt) := goodIn_app (goodIn_of _ (by decide +kernel)) ggX10_setCross_X10_crossIt
set_option maxRecDepth 20000 in
theorem ggX10_setCross_X10_fail : GoodIn wsX10_setCross wsX10_fail := goodIn_r _ [28, 1, 29, 30, 31, 32, 33, 34, 35, 36, 37, 38, 39, 40, 41, 42, 43, 44, 45, 46, 47, 48, 49, 50, 51] (by decide +kernel) (by decide +kernel)
set_option maxRecDepth 20000 in
theorem gX10_setCross_X10_fail : GoodIn wsX10_setCross (wsV RX10 161 RX10 yX10_fail wsX10_fail) := goodIn_app (goodIn_of _ (by decide +kernel)) ggX10_setCross_X10_fail
theorem dX10_setCross_0 : decode cX10_setCross 0 = .ok (.aload_n 0, 1) := by decide +kernel
theorem dX10_setCross_1 : decode cX10_setCross 1 = .ok (.iconst 0, 1) := by decide +kernel
theorem dX10_setCross_2 : decode cX10_setCross 2 = .ok (.putfield 48, 3) := by decide +kernel
theorem dX10_setCross_5 : decode cX10_setCross 5 = .ok (.iload_n 1, 1) := by decide +kernel
theorem dX10_setCross_6 : decode cX10_setCross 6 = .ok (.iconst 1, 1) := by decide +kernel
theorem dX10_setCross_7 : decode cX10_setCross 7 = .ok (.bipush 20, 2) := by decide +kernel
theorem dX10_setCross_9 : decode cX10_setCross 9 = .ok (.invokestatic 62, 3) := by decide +kernel
theorem dX10_setCross_12 : decode cX10_setCross 12 = .ok (.ifCond .eq 22, 3) := by decide +kernel
theorem dX10_setCross_15 : decode cX10_setCross 15 = .ok (.iload_n 2, 1) := by decide +kernel
theorem dX10_setCross_16 : decode cX10_setCross 16 = .ok (.iconst 1, 1) := by decide +kernel
theorem dX10_setCross_17 : decode cX10_setCross 17 = .ok (.bipush 50, 2) := by decide +kernel
theorem dX10_setCross_19 : decode cX10_setCross 19 = .ok (.invokestatic 62, 3) := by decide +kernel
theorem dX10_setCross_22 : decode cX10_setCross 22 = .ok (.ifCond .eq 12, 3) := by decide +kernel
theorem dX10_setCross_25 : decode cX10_setCross 25 = .ok (.aload_n 0, 1) := by decide +kernel
theorem dX10_setCross_26 : decode cX10_setCross 26 = .ok (.iload_n 1, 1) := by decide +kernel
theorem dX10_setCross_27 : decode cX10_setCross 27 = .ok (.iload_n 2, 1) := by decide +kernel
theorem dX10_setCross_28 : decode cX10_setCross 28 = .ok (.invokevirtual 370, 3) := by decide +kernel
theorem dX10_setCross_31 : decode cX10_setCross 31 = .ok (.goto 8, 3) := by decide +kernel
theorem dX10_setCross_34 : decode cX10_setCross 34 = .ok (.aload_n 0, 1) := by decide +kernel
theorem dX10_setCross_35 : decode cX10_setCross 35 = .ok (.iconst 1, 1) := by decide +kernel
theorem dX10_setCross_36 : decode cX10_setCross 36 = .ok (.invokevirtual 161, 3) := by decide +kernel
theorem dX10_setCross_39 : decode cX10_setCross 39 = .ok (.ireturn, 1) := by decide +kernel
theorem dX10_emit_0 : decode cX10_emit 0 = .ok (.aload_n 0, 1) := by decide +kernel
theorem dX10_emit_1 : decode cX10_emit 1 = .ok (.getfield 42, 3) := by decide +kernel
theorem dX10_emit_4 : decode cX10_emit 4 = .ok (.aload_n 0, 1) := by decide +kernel
theorem dX10_emit_5 : decode cX10_emit 5 = .ok (.getfield 424, 3) := by decide +kernel
theorem dX10_emit_8 : decode cX10_emit 8 = .ok (.iload_n 1, 1) := by decide +kernel
theorem dX10_emit_9 : decode cX10_emit 9 = .ok (.iastore, 1) := by decide +kernel
theorem dX10_emit_10 : decode cX10_emit 10 = .ok (.aload_n 0, 1) := by decide +kernel
theorem dX10_emit_11 : decode cX10_emit 11 = .ok (.dup, 1) := by decide +kernel
theorem dX10_emit_12 : decode cX10_emit 12 = .ok (.getfield 424, 3) := by decide +kernel
theorem dX10_emit_15 : decode cX10_emit 15 = .ok (.iconst 1, 1) := by decide +kernel
theorem dX10_emit_16 : decode cX10_emit 16 = .ok (.iadd, 1) := by decide +kernel
theorem dX10_emit_17 : decode cX10_emit 17 = .ok (.putfield 424, 3) := by decide +kernel
theorem dX10_emit_20 : decode cX10_emit 20 = .ok (.return_, 1) := by decide +kernel
set_option maxRecDepth 20000 in
theorem ggX10_emitNumber_X10_emit : GoodIn wsX10_emitNumber wsX10_emit := goodIn_r _ [5, 6, 7, 8, 9, 10, 11, 12, 13, 14, 15, 16, 17, 18, 19, 20, 21, 22, 23, 24, 25, 26, 27, 28, 29, 30] (by decide +kernel) (by decide +kernel)
set_option maxRecDepth 20000 in
theorem gX10_emitNumber_X10_emit : GoodIn wsX10_emitNumber (wsV RX10 427 RX10 yX10_emit wsX10_emit) := goodIn_app (goodIn_of _ (by decide +kernel)) ggX10_emitNumber_X10_emit
theorem dX10_emitNumber_0 : decode cX10_emitNumber 0 = .ok (.iload_n 1, 1) := by decide +kernel
theorem dX10_emitNumber_1 : decode cX10_emitNumber 1 = .ok (.bipush 10, 2) := by decide +kernel
theorem dX10_emitNumber_3 : decode cX10_emitNumber 3 = .ok (.if_icmp .lt 14, 3) := by decide +kernel
theorem dX10_emitNumber_6 : decode cX10_emitNumber 6 = .ok (.aload_n 0, 1) := by decide +kernel
theorem dX10_emitNumber_7 : decode cX10_emitNumber 7 = .ok (.bipush 48, 2) := by decide +kernel
theorem dX10_emitNumber_9 : decode cX10_emitNumber 9 = .ok (.iload_n 1, 1) := by decide +kernel
theorem dX10_emitNumber_10 : decode cX10_emitNumber 10 = .ok (.bipush 10, 2) := by decide +kernel
theorem dX10_emitNumber_12 : decode cX10_emitNumber 12 = .ok (.idiv, 1) := by decide +kernel
theorem dX10_emitNumber_13 : decode cX10_emitNumber 13 = .ok (.iadd, 1) := by decide +kernel
theorem dX10_emitNumber_14 : decode cX10_emitNumber 14 = .ok (.invokevirtual 427, 3) := by decide +kernel
theorem dX10_emitNumber_17 : decode cX10_emitNumber 17 = .ok (.aload_n 0, 1) := by decide +kernel
theorem dX10_emitNumber_18 : decode cX10_emitNumber 18 = .ok (.bipush 48, 2) := by decide +kernel
theorem dX10_emitNumber_20 : decode cX10_emitNumber 20 = .ok (.iload_n 1, 1) := by decide +kernel
theorem dX10_emitNumber_21 : decode cX10_emitNumber 21 = .ok (.bipush 10, 2) := by decide +kernel
theorem dX10_emitNumber_23 : decode cX10_emitNumber 23 = .ok (.irem, 1) := by decide +kernel
theorem dX10_emitNumber_24 : decode cX10_emitNumber 24 = .ok (.iadd, 1) := by decide +kernel
theorem dX10_emitNumber_25 : decode cX10_emitNumber 25 = .ok (.invokevirtual 427, 3) := by decide +kernel
theorem dX10_emitNumber_28 : decode cX10_emitNumber 28 = .ok (.return_, 1) := by decide +kernel
set_option maxRecDepth 20000 in
theorem ggX10_writeLanes_X10_standingMany : GoodIn wsX10_writeLanes wsX10_standingMany := goodIn_r _ [7, 8, 9, 10, 11, 6, 12, 46, 47, 48, 49, 50, 51, 52, 53, 54, 55, 56, 57, 58, 59, 60, 61, 62, 63, 64, 65, 66, 67, 68] (by decide +kernel) (by decide +kernel)
set_option maxRecDepth 20000 in
theorem gX10_writeLanes_X10_standingMany : GoodIn wsX10_writeLanes (wsV RX10 421 RX10 yX10_standingMany wsX10_standingMany) := goodIn_app (goodIn_of _ (by decide +kernel)) ggX10_writeLanes_X10_standingMany
set_option maxRecDepth 20000 in
theorem ggX10_writeLanes_X10_emit : GoodIn wsX10_writeLanes wsX10_emit := goodIn_r _ [16, 17, 2, 46, 47, 48, 49, 50, 51, 52, 53, 54, 55, 56, 57, 58, 59, 60, 61, 62, 63, 64, 65, 66, 67, 68] (by decide +kernel) (by decide +kernel)
set_option maxRecDepth 20000 in
theorem gX10_writeLanes_X10_emit : GoodIn wsX10_writeLanes (wsV RX10 427 RX10 yX10_emit wsX10_emit) := goodIn_app (goodIn_of _ (by decide +kernel)) ggX10_writeLanes_X10_emit
set_option maxRecDepth 20000 in
theorem ggX10_writeLanes_X10_standingAt : GoodIn wsX10_writeLanes wsX10_standingAt := goodIn_r _ [21, 8, 9, 10, 11, 6, 12, 22, 23, 24, 25, 46, 47, 48, 49, 50, 51, 52, 53, 54, 55, 56, 57, 58, 59, 60, 61, 62, 63, 64, 65, 66, 67, 68] (by decide +kernel) (by decide +kernel)
set_option maxRecDepth 20000 in
theorem gX10_writeLanes_X10_standingAt : GoodIn wsX10_writeLanes (wsV RX10 394 RX10 yX10_standingAt wsX10_standingAt) := goodIn_app (goodIn_of _ (by decide +kernel)) ggX10_writeLanes_X10_standingAt
set_option maxRecDepth 20000 in
theorem ggX10_writeLanes_X10_emitNumber : GoodIn wsX10_writeLanes wsX10_emitNumber := goodIn_r _ [29, 13, 14, 15, 6, 16, 17, 2, 46, 47, 48, 49, 50, 51, 52, 53, 54, 55, 56, 57, 58, 59, 60, 61, 62, 63, 64, 65, 66, 67, 68] (by decide +kernel) (by decide +kernel)
set_option maxRecDepth 20000 in
theorem gX10_writeLanes_X10_emitNumber : GoodIn wsX10_writeLanes (wsV RX10 430 RX10 yX10_emitNumber wsX10_emitNumber) := goodIn_app (goodIn_of _ (by decide +kernel)) ggX10_writeLanes_X10_emitNumber
set_option maxRecDepth 20000 in
theorem ggX10_writeLanes_X10_freeOf : GoodIn wsX10_writeLanes wsX10_freeOf := goodIn_r _ [33, 8, 34, 35, 36, 6, 37, 9, 10, 11, 12, 38, 39, 40, 41, 42, 43, 44, 45, 46, 47, 48, 49, 50, 51, 52, 53, 54, 55, 56, 57, 58, 59, 60, 61, 62, 63, 64, 65, 66, 67, 68] (by decide +kernel) (by decide +kernel)
set_option maxRecDepth 20000 in
theorem gX10_writeLanes_X10_freeOf : GoodIn wsX10_writeLanes (wsV RX10 96 RX10 yX10_freeOf wsX10_freeOf) := goodIn_app (goodIn_of _ (by decide +kernel)) ggX10_writeLanes_X10_freeOf
theorem dX10_writeLanes_0 : decode cX10_writeLanes 0 = .ok (.aload_n 0, 1) := by decide +kernel
theorem dX10_writeLanes_1 : decode cX10_writeLanes 1 = .ok (.iconst 0, 1) := by decide +kernel
theorem dX10_writeLanes_2 : decode cX10_writeLanes 2 = .ok (.putfield 48, 3) := by decide +kernel
theorem dX10_writeLanes_5 : decode cX10_writeLanes 5 = .ok (.aload_n 0, 1) := by decide +kernel
theorem dX10_writeLanes_6 : decode cX10_writeLanes 6 = .ok (.iconst 0, 1) := by decide +kernel
theorem dX10_writeLanes_7 : decode cX10_writeLanes 7 = .ok (.putfield 424, 3) := by decide +kernel
theorem dX10_writeLanes_10 : decode cX10_writeLanes 10 = .ok (.iconst 0, 1) := by decide +kernel
theorem dX10_writeLanes_11 : decode cX10_writeLanes 11 = .ok (.istore_n 1, 1) := by decide +kernel
theorem dX10_writeLanes_12 : decode cX10_writeLanes 12 = .ok (.iload_n 1, 1) := by decide +kernel
theorem dX10_writeLanes_13 : decode cX10_writeLanes 13 = .ok (.iconst 3, 1) := by decide +kernel
theorem dX10_writeLanes_14 : decode cX10_writeLanes 14 = .ok (.if_icmp .ge 67, 3) := by decide +kernel
theorem dX10_writeLanes_17 : decode cX10_writeLanes 17 = .ok (.iconst 0, 1) := by decide +kernel
theorem dX10_writeLanes_18 : decode cX10_writeLanes 18 = .ok (.istore_n 2, 1) := by decide +kernel
theorem dX10_writeLanes_19 : decode cX10_writeLanes 19 = .ok (.iload_n 2, 1) := by decide +kernel
theorem dX10_writeLanes_20 : decode cX10_writeLanes 20 = .ok (.aload_n 0, 1) := by decide +kernel
theorem dX10_writeLanes_21 : decode cX10_writeLanes 21 = .ok (.iload_n 1, 1) := by decide +kernel
theorem dX10_writeLanes_22 : decode cX10_writeLanes 22 = .ok (.invokevirtual 421, 3) := by decide +kernel
theorem dX10_writeLanes_25 : decode cX10_writeLanes 25 = .ok (.if_icmp .ge 29, 3) := by decide +kernel
theorem dX10_writeLanes_28 : decode cX10_writeLanes 28 = .ok (.iload_n 2, 1) := by decide +kernel
theorem dX10_writeLanes_29 : decode cX10_writeLanes 29 = .ok (.ifCond .le 9, 3) := by decide +kernel
theorem dX10_writeLanes_32 : decode cX10_writeLanes 32 = .ok (.aload_n 0, 1) := by decide +kernel
theorem dX10_writeLanes_33 : decode cX10_writeLanes 33 = .ok (.bipush 44, 2) := by decide +kernel
theorem dX10_writeLanes_35 : decode cX10_writeLanes 35 = .ok (.invokevirtual 427, 3) := by decide +kernel
theorem dX10_writeLanes_38 : decode cX10_writeLanes 38 = .ok (.aload_n 0, 1) := by decide +kernel
theorem dX10_writeLanes_39 : decode cX10_writeLanes 39 = .ok (.aload_n 0, 1) := by decide +kernel
theorem dX10_writeLanes_40 : decode cX10_writeLanes 40 = .ok (.iload_n 1, 1) := by decide +kernel
theorem dX10_writeLanes_41 : decode cX10_writeLanes 41 = .ok (.iload_n 2, 1) := by decide +kernel
theorem dX10_writeLanes_42 : decode cX10_writeLanes 42 = .ok (.invokevirtual 394, 3) := by decide +kernel
theorem dX10_writeLanes_45 : decode cX10_writeLanes 45 = .ok (.invokevirtual 430, 3) := by decide +kernel
theorem dX10_writeLanes_48 : decode cX10_writeLanes 48 = .ok (.iinc 2 1, 3) := by decide +kernel
theorem dX10_writeLanes_51 : decode cX10_writeLanes 51 = .ok (.goto (-32), 3) := by decide +kernel
theorem dX10_writeLanes_54 : decode cX10_writeLanes 54 = .ok (.aload_n 0, 1) := by decide +kernel
theorem dX10_writeLanes_55 : decode cX10_writeLanes 55 = .ok (.bipush 47, 2) := by decide +kernel
theorem dX10_writeLanes_57 : decode cX10_writeLanes 57 = .ok (.invokevirtual 427, 3) := by decide +kernel
theorem dX10_writeLanes_60 : decode cX10_writeLanes 60 = .ok (.aload_n 0, 1) := by decide +kernel
theorem dX10_writeLanes_61 : decode cX10_writeLanes 61 = .ok (.aload_n 0, 1) := by decide +kernel
theorem dX10_writeLanes_62 : decode cX10_writeLanes 62 = .ok (.iload_n 1, 1) := by decide +kernel
theorem dX10_writeLanes_63 : decode cX10_writeLanes 63 = .ok (.invokevirtual 96, 3) := by decide +kernel
theorem dX10_writeLanes_66 : decode cX10_writeLanes 66 = .ok (.invokevirtual 430, 3) := by decide +kernel
theorem dX10_writeLanes_69 : decode cX10_writeLanes 69 = .ok (.aload_n 0, 1) := by decide +kernel
theorem dX10_writeLanes_70 : decode cX10_writeLanes 70 = .ok (.bipush 59, 2) := by decide +kernel
theorem dX10_writeLanes_72 : decode cX10_writeLanes 72 = .ok (.invokevirtual 427, 3) := by decide +kernel
theorem dX10_writeLanes_75 : decode cX10_writeLanes 75 = .ok (.iinc 1 1, 3) := by decide +kernel
theorem dX10_writeLanes_78 : decode cX10_writeLanes 78 = .ok (.goto (-66), 3) := by decide +kernel
theorem dX10_writeLanes_81 : decode cX10_writeLanes 81 = .ok (.aload_n 0, 1) := by decide +kernel
theorem dX10_writeLanes_82 : decode cX10_writeLanes 82 = .ok (.getfield 424, 3) := by decide +kernel
theorem dX10_writeLanes_85 : decode cX10_writeLanes 85 = .ok (.ireturn, 1) := by decide +kernel
set_option maxRecDepth 20000 in
theorem ggX10_output_X10_isBetween : GoodIn wsX10_output wsX10_isBetween := goodIn_r _ [7] (by decide +kernel) (by decide +kernel)
set_option maxRecDepth 20000 in
theorem gX10_output_X10_isBetween : GoodIn wsX10_output (va_wsS RX10 62 yX10_isBetween wsX10_isBetween) := goodIn_app (goodIn_of _ (by decide +kernel)) ggX10_output_X10_isBetween
theorem dX10_output_0 : decode cX10_output 0 = .ok (.aload_n 0, 1) := by decide +kernel
theorem dX10_output_1 : decode cX10_output 1 = .ok (.iconst 0, 1) := by decide +kernel
theorem dX10_output_2 : decode cX10_output 2 = .ok (.putfield 48, 3) := by decide +kernel
theorem dX10_output_5 : decode cX10_output 5 = .ok (.iload_n 1, 1) := by decide +kernel
theorem dX10_output_6 : decode cX10_output 6 = .ok (.iconst 0, 1) := by decide +kernel
theorem dX10_output_7 : decode cX10_output 7 = .ok (.aload_n 0, 1) := by decide +kernel
theorem dX10_output_8 : decode cX10_output 8 = .ok (.getfield 424, 3) := by decide +kernel
theorem dX10_output_11 : decode cX10_output 11 = .ok (.iconst 1, 1) := by decide +kernel
theorem dX10_output_12 : decode cX10_output 12 = .ok (.isub, 1) := by decide +kernel
theorem dX10_output_13 : decode cX10_output 13 = .ok (.invokestatic 62, 3) := by decide +kernel
theorem dX10_output_16 : decode cX10_output 16 = .ok (.ifCond .eq 12, 3) := by decide +kernel
theorem dX10_output_19 : decode cX10_output 19 = .ok (.aload_n 0, 1) := by decide +kernel
theorem dX10_output_20 : decode cX10_output 20 = .ok (.getfield 42, 3) := by decide +kernel
theorem dX10_output_23 : decode cX10_output 23 = .ok (.iload_n 1, 1) := by decide +kernel
theorem dX10_output_24 : decode cX10_output 24 = .ok (.iaload, 1) := by decide +kernel
theorem dX10_output_25 : decode cX10_output 25 = .ok (.goto 4, 3) := by decide +kernel
theorem dX10_output_28 : decode cX10_output 28 = .ok (.iconst (-1), 1) := by decide +kernel
theorem dX10_output_29 : decode cX10_output 29 = .ok (.ireturn, 1) := by decide +kernel
set_option maxRecDepth 20000 in
theorem ggX10_undo_X10_copy : GoodIn wsX10_undo wsX10_copy := goodIn_r _ [8] (by decide +kernel) (by decide +kernel)
set_option maxRecDepth 20000 in
theorem gX10_undo_X10_copy : GoodIn wsX10_undo (va_wsS RX10 303 yX10_copy wsX10_copy) := goodIn_app (goodIn_of _ (by decide +kernel)) ggX10_undo_X10_copy
theorem dX10_undo_0 : decode cX10_undo 0 = .ok (.aload_n 0, 1) := by decide +kernel
theorem dX10_undo_1 : decode cX10_undo 1 = .ok (.iconst 0, 1) := by decide +kernel
theorem dX10_undo_2 : decode cX10_undo 2 = .ok (.putfield 48, 3) := by decide +kernel
theorem dX10_undo_5 : decode cX10_undo 5 = .ok (.aload_n 0, 1) := by decide +kernel
theorem dX10_undo_6 : decode cX10_undo 6 = .ok (.getfield 313, 3) := by decide +kernel
theorem dX10_undo_9 : decode cX10_undo 9 = .ok (.ifCond .ne 5, 3) := by decide +kernel
theorem dX10_undo_12 : decode cX10_undo 12 = .ok (.iconst (-1), 1) := by decide +kernel
theorem dX10_undo_13 : decode cX10_undo 13 = .ok (.ireturn, 1) := by decide +kernel
theorem dX10_undo_14 : decode cX10_undo 14 = .ok (.aload_n 0, 1) := by decide +kernel
theorem dX10_undo_15 : decode cX10_undo 15 = .ok (.dup, 1) := by decide +kernel
theorem dX10_undo_16 : decode cX10_undo 16 = .ok (.getfield 313, 3) := by decide +kernel
theorem dX10_undo_19 : decode cX10_undo 19 = .ok (.iconst 1, 1) := by decide +kernel
theorem dX10_undo_20 : decode cX10_undo 20 = .ok (.isub, 1) := by decide +kernel
theorem dX10_undo_21 : decode cX10_undo 21 = .ok (.putfield 313, 3) := by decide +kernel
theorem dX10_undo_24 : decode cX10_undo 24 = .ok (.aload_n 0, 1) := by decide +kernel
theorem dX10_undo_25 : decode cX10_undo 25 = .ok (.getfield 19, 3) := by decide +kernel
theorem dX10_undo_28 : decode cX10_undo 28 = .ok (.sipush 561, 3) := by decide +kernel
theorem dX10_undo_31 : decode cX10_undo 31 = .ok (.aload_n 0, 1) := by decide +kernel
theorem dX10_undo_32 : decode cX10_undo 32 = .ok (.getfield 313, 3) := by decide +kernel
theorem dX10_undo_35 : decode cX10_undo 35 = .ok (.imul, 1) := by decide +kernel
theorem dX10_undo_36 : decode cX10_undo 36 = .ok (.aload_n 0, 1) := by decide +kernel
theorem dX10_undo_37 : decode cX10_undo 37 = .ok (.getfield 7, 3) := by decide +kernel
theorem dX10_undo_40 : decode cX10_undo 40 = .ok (.iconst 0, 1) := by decide +kernel
theorem dX10_undo_41 : decode cX10_undo 41 = .ok (.invokestatic 303, 3) := by decide +kernel
theorem dX10_undo_44 : decode cX10_undo 44 = .ok (.aload_n 0, 1) := by decide +kernel
theorem dX10_undo_45 : decode cX10_undo 45 = .ok (.getfield 313, 3) := by decide +kernel
theorem dX10_undo_48 : decode cX10_undo 48 = .ok (.ireturn, 1) := by decide +kernel
set_option maxRecDepth 20000 in
theorem ggX10_save_X10_isBetween : GoodIn wsX10_save wsX10_isBetween := goodIn_r _ [8] (by decide +kernel) (by decide +kernel)
set_option maxRecDepth 20000 in
theorem gX10_save_X10_isBetween : GoodIn wsX10_save (va_wsS RX10 62 yX10_isBetween wsX10_isBetween) := goodIn_app (goodIn_of _ (by decide +kernel)) ggX10_save_X10_isBetween
set_option maxRecDepth 20000 in
theorem ggX10_save_X10_copy : GoodIn wsX10_save wsX10_copy := goodIn_r _ [11] (by decide +kernel) (by decide +kernel)
set_option maxRecDepth 20000 in
theorem gX10_save_X10_copy : GoodIn wsX10_save (va_wsS RX10 303 yX10_copy wsX10_copy) := goodIn_app (goodIn_of _ (by decide +kernel)) ggX10_save_X10_copy
theorem dX10_save_0 : decode cX10_save 0 = .ok (.aload_n 0, 1) := by decide +kernel
theorem dX10_save_1 : decode cX10_save 1 = .ok (.iload_n 1, 1) := by decide +kernel
theorem dX10_save_2 : decode cX10_save 2 = .ok (.iconst 0, 1) := by decide +kernel
theorem dX10_save_3 : decode cX10_save 3 = .ok (.iconst 1, 1) := by decide +kernel
theorem dX10_save_4 : decode cX10_save 4 = .ok (.invokestatic 62, 3) := by decide +kernel
theorem dX10_save_7 : decode cX10_save 7 = .ok (.ifCond .eq 7, 3) := by decide +kernel
theorem dX10_save_10 : decode cX10_save 10 = .ok (.iconst 0, 1) := by decide +kernel
theorem dX10_save_11 : decode cX10_save 11 = .ok (.goto 4, 3) := by decide +kernel
theorem dX10_save_14 : decode cX10_save 14 = .ok (.iconst 1, 1) := by decide +kernel
theorem dX10_save_15 : decode cX10_save 15 = .ok (.putfield 48, 3) := by decide +kernel
theorem dX10_save_18 : decode cX10_save 18 = .ok (.aload_n 0, 1) := by decide +kernel
theorem dX10_save_19 : decode cX10_save 19 = .ok (.getfield 48, 3) := by decide +kernel
theorem dX10_save_22 : decode cX10_save 22 = .ok (.ifCond .ne 27, 3) := by decide +kernel
theorem dX10_save_25 : decode cX10_save 25 = .ok (.aload_n 0, 1) := by decide +kernel
theorem dX10_save_26 : decode cX10_save 26 = .ok (.getfield 7, 3) := by decide +kernel
theorem dX10_save_29 : decode cX10_save 29 = .ok (.iconst 0, 1) := by decide +kernel
theorem dX10_save_30 : decode cX10_save 30 = .ok (.aload_n 0, 1) := by decide +kernel
theorem dX10_save_31 : decode cX10_save 31 = .ok (.getfield 22, 3) := by decide +kernel
theorem dX10_save_34 : decode cX10_save 34 = .ok (.sipush 561, 3) := by decide +kernel
theorem dX10_save_37 : decode cX10_save 37 = .ok (.iload_n 1, 1) := by decide +kernel
theorem dX10_save_38 : decode cX10_save 38 = .ok (.imul, 1) := by decide +kernel
theorem dX10_save_39 : decode cX10_save 39 = .ok (.invokestatic 303, 3) := by decide +kernel
theorem dX10_save_42 : decode cX10_save 42 = .ok (.aload_n 0, 1) := by decide +kernel
theorem dX10_save_43 : decode cX10_save 43 = .ok (.getfield 25, 3) := by decide +kernel
theorem dX10_save_46 : decode cX10_save 46 = .ok (.iload_n 1, 1) := by decide +kernel
theorem dX10_save_47 : decode cX10_save 47 = .ok (.iconst 1, 1) := by decide +kernel
theorem dX10_save_48 : decode cX10_save 48 = .ok (.bastore, 1) := by decide +kernel
theorem dX10_save_49 : decode cX10_save 49 = .ok (.return_, 1) := by decide +kernel
set_option maxRecDepth 20000 in
theorem ggX10_restore_X10_isBetween : GoodIn wsX10_restore wsX10_isBetween := goodIn_r _ [9] (by decide +kernel) (by decide +kernel)
set_option maxRecDepth 20000 in
theorem gX10_restore_X10_isBetween : GoodIn wsX10_restore (va_wsS RX10 62 yX10_isBetween wsX10_isBetween) := goodIn_app (goodIn_of _ (by decide +kernel)) ggX10_restore_X10_isBetween
set_option maxRecDepth 20000 in
theorem ggX10_restore_X10_copy : GoodIn wsX10_restore wsX10_copy := goodIn_r _ [12] (by decide +kernel) (by decide +kernel)
set_option maxRecDepth 20000 in
theorem gX10_restore_X10_copy : GoodIn wsX10_restore (va_wsS RX10 303 yX10_copy wsX10_copy) := goodIn_app (goodIn_of _ (by decide +kernel)) ggX10_restore_X10_copy
theorem dX10_restore_0 : decode cX10_restore 0 = .ok (.aload_n 0, 1) := by decide +kernel
theorem dX10_restore_1 : decode cX10_restore 1 = .ok (.iload_n 1, 1) := by decide +kernel
theorem dX10_restore_2 : decode cX10_restore 2 = .ok (.iconst 0, 1) := by decide +kernel
theorem dX10_restore_3 : decode cX10_restore 3 = .ok (.iconst 1, 1) := by decide +kernel
theorem dX10_restore_4 : decode cX10_restore 4 = .ok (.invokestatic 62, 3) := by decide +kernel
theorem dX10_restore_7 : decode cX10_restore 7 = .ok (.ifCond .ne 7, 3) := by decide +kernel
theorem dX10_restore_10 : decode cX10_restore 10 = .ok (.iconst 1, 1) := by decide +kernel
theorem dX10_restore_11 : decode cX10_restore 11 = .ok (.goto 17, 3) := by decide +kernel
theorem dX10_restore_14 : decode cX10_restore 14 = .ok (.aload_n 0, 1) := by decide +kernel
theorem dX10_restore_15 : decode cX10_restore 15 = .ok (.getfield 25, 3) := by decide +kernel
theorem dX10_restore_18 : decode cX10_restore 18 = .ok (.iload_n 1, 1) := by decide +kernel
theorem dX10_restore_19 : decode cX10_restore 19 = .ok (.baload, 1) := by decide +kernel
theorem dX10_restore_20 : decode cX10_restore 20 = .ok (.ifCond .eq 7, 3) := by decide +kernel
theorem dX10_restore_23 : decode cX10_restore 23 = .ok (.iconst 0, 1) := by decide +kernel
theorem dX10_restore_24 : decode cX10_restore 24 = .ok (.goto 4, 3) := by decide +kernel
theorem dX10_restore_27 : decode cX10_restore 27 = .ok (.iconst 2, 1) := by decide +kernel
theorem dX10_restore_28 : decode cX10_restore 28 = .ok (.putfield 48, 3) := by decide +kernel
theorem dX10_restore_31 : decode cX10_restore 31 = .ok (.aload_n 0, 1) := by decide +kernel
theorem dX10_restore_32 : decode cX10_restore 32 = .ok (.getfield 48, 3) := by decide +kernel
theorem dX10_restore_35 : decode cX10_restore 35 = .ok (.ifCond .ne 25, 3) := by decide +kernel
theorem dX10_restore_38 : decode cX10_restore 38 = .ok (.aload_n 0, 1) := by decide +kernel
theorem dX10_restore_39 : decode cX10_restore 39 = .ok (.getfield 22, 3) := by decide +kernel
theorem dX10_restore_42 : decode cX10_restore 42 = .ok (.sipush 561, 3) := by decide +kernel
theorem dX10_restore_45 : decode cX10_restore 45 = .ok (.iload_n 1, 1) := by decide +kernel
theorem dX10_restore_46 : decode cX10_restore 46 = .ok (.imul, 1) := by decide +kernel
theorem dX10_restore_47 : decode cX10_restore 47 = .ok (.aload_n 0, 1) := by decide +kernel
theorem dX10_restore_48 : decode cX10_restore 48 = .ok (.getfield 7, 3) := by decide +kernel
theorem dX10_restore_51 : decode cX10_restore 51 = .ok (.iconst 0, 1) := by decide +kernel
theorem dX10_restore_52 : decode cX10_restore 52 = .ok (.invokestatic 303, 3) := by decide +kernel
theorem dX10_restore_55 : decode cX10_restore 55 = .ok (.aload_n 0, 1) := by decide +kernel
theorem dX10_restore_56 : decode cX10_restore 56 = .ok (.iconst 0, 1) := by decide +kernel
theorem dX10_restore_57 : decode cX10_restore 57 = .ok (.putfield 313, 3) := by decide +kernel
theorem dX10_restore_60 : decode cX10_restore 60 = .ok (.return_, 1) := by decide +kernel
