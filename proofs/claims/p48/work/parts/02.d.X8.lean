theorem dX8_init_0 : decode cX8_init 0 = .ok (.aload_n 0, 1) := by decide +kernel
theorem dX8_init_1 : decode cX8_init 1 = .ok (.invokespecial 3, 3) := by decide +kernel
theorem dX8_init_4 : decode cX8_init 4 = .ok (.aload_n 0, 1) := by decide +kernel
theorem dX8_init_5 : decode cX8_init 5 = .ok (.bipush 17, 2) := by decide +kernel
theorem dX8_init_7 : decode cX8_init 7 = .ok (.newarray .int, 2) := by decide +kernel
theorem dX8_init_9 : decode cX8_init 9 = .ok (.putfield 11, 3) := by decide +kernel
theorem dX8_init_12 : decode cX8_init 12 = .ok (.aload_n 0, 1) := by decide +kernel
theorem dX8_init_13 : decode cX8_init 13 = .ok (.bipush 14, 2) := by decide +kernel
theorem dX8_init_15 : decode cX8_init 15 = .ok (.newarray .int, 2) := by decide +kernel
theorem dX8_init_17 : decode cX8_init 17 = .ok (.putfield 19, 3) := by decide +kernel
theorem dX8_init_20 : decode cX8_init 20 = .ok (.aload_n 0, 1) := by decide +kernel
theorem dX8_init_21 : decode cX8_init 21 = .ok (.bipush 12, 2) := by decide +kernel
theorem dX8_init_23 : decode cX8_init 23 = .ok (.newarray .int, 2) := by decide +kernel
theorem dX8_init_25 : decode cX8_init 25 = .ok (.putfield 24, 3) := by decide +kernel
theorem dX8_init_28 : decode cX8_init 28 = .ok (.aload_n 0, 1) := by decide +kernel
theorem dX8_init_29 : decode cX8_init 29 = .ok (.sipush 420, 3) := by decide +kernel
theorem dX8_init_32 : decode cX8_init 32 = .ok (.newarray .int, 2) := by decide +kernel
theorem dX8_init_34 : decode cX8_init 34 = .ok (.putfield 29, 3) := by decide +kernel
theorem dX8_init_37 : decode cX8_init 37 = .ok (.aload_n 0, 1) := by decide +kernel
theorem dX8_init_38 : decode cX8_init 38 = .ok (.bipush 20, 2) := by decide +kernel
theorem dX8_init_40 : decode cX8_init 40 = .ok (.newarray .int, 2) := by decide +kernel
theorem dX8_init_42 : decode cX8_init 42 = .ok (.putfield 32, 3) := by decide +kernel
theorem dX8_init_45 : decode cX8_init 45 = .ok (.aload_n 0, 1) := by decide +kernel
theorem dX8_init_46 : decode cX8_init 46 = .ok (.bipush 90, 2) := by decide +kernel
theorem dX8_init_48 : decode cX8_init 48 = .ok (.newarray .int, 2) := by decide +kernel
theorem dX8_init_50 : decode cX8_init 50 = .ok (.putfield 35, 3) := by decide +kernel
theorem dX8_init_53 : decode cX8_init 53 = .ok (.aload_n 0, 1) := by decide +kernel
theorem dX8_init_54 : decode cX8_init 54 = .ok (.iconst 3, 1) := by decide +kernel
theorem dX8_init_55 : decode cX8_init 55 = .ok (.newarray .int, 2) := by decide +kernel
theorem dX8_init_57 : decode cX8_init 57 = .ok (.putfield 38, 3) := by decide +kernel
theorem dX8_init_60 : decode cX8_init 60 = .ok (.aload_n 0, 1) := by decide +kernel
theorem dX8_init_61 : decode cX8_init 61 = .ok (.iconst 3, 1) := by decide +kernel
theorem dX8_init_62 : decode cX8_init 62 = .ok (.newarray .int, 2) := by decide +kernel
theorem dX8_init_64 : decode cX8_init 64 = .ok (.putfield 41, 3) := by decide +kernel
theorem dX8_init_67 : decode cX8_init 67 = .ok (.aload_n 0, 1) := by decide +kernel
theorem dX8_init_68 : decode cX8_init 68 = .ok (.iconst 3, 1) := by decide +kernel
theorem dX8_init_69 : decode cX8_init 69 = .ok (.newarray .int, 2) := by decide +kernel
theorem dX8_init_71 : decode cX8_init 71 = .ok (.putfield 44, 3) := by decide +kernel
theorem dX8_init_74 : decode cX8_init 74 = .ok (.aload_n 0, 1) := by decide +kernel
theorem dX8_init_75 : decode cX8_init 75 = .ok (.bipush 80, 2) := by decide +kernel
theorem dX8_init_77 : decode cX8_init 77 = .ok (.newarray .int, 2) := by decide +kernel
theorem dX8_init_79 : decode cX8_init 79 = .ok (.putfield 49, 3) := by decide +kernel
theorem dX8_init_82 : decode cX8_init 82 = .ok (.aload_n 0, 1) := by decide +kernel
theorem dX8_init_83 : decode cX8_init 83 = .ok (.iconst 0, 1) := by decide +kernel
theorem dX8_init_84 : decode cX8_init 84 = .ok (.putfield 52, 3) := by decide +kernel
theorem dX8_init_87 : decode cX8_init 87 = .ok (.aload_n 0, 1) := by decide +kernel
theorem dX8_init_88 : decode cX8_init 88 = .ok (.iconst 0, 1) := by decide +kernel
theorem dX8_init_89 : decode cX8_init 89 = .ok (.putfield 56, 3) := by decide +kernel
theorem dX8_init_92 : decode cX8_init 92 = .ok (.aload_n 0, 1) := by decide +kernel
theorem dX8_init_93 : decode cX8_init 93 = .ok (.iconst 0, 1) := by decide +kernel
theorem dX8_init_94 : decode cX8_init 94 = .ok (.putfield 59, 3) := by decide +kernel
theorem dX8_init_97 : decode cX8_init 97 = .ok (.return_, 1) := by decide +kernel
theorem dX8_copyFrom_0 : decode cX8_copyFrom 0 = .ok (.aload_n 1, 1) := by decide +kernel
theorem dX8_copyFrom_1 : decode cX8_copyFrom 1 = .ok (.getfield 11, 3) := by decide +kernel
theorem dX8_copyFrom_4 : decode cX8_copyFrom 4 = .ok (.iconst 0, 1) := by decide +kernel
theorem dX8_copyFrom_5 : decode cX8_copyFrom 5 = .ok (.aload_n 0, 1) := by decide +kernel
theorem dX8_copyFrom_6 : decode cX8_copyFrom 6 = .ok (.getfield 11, 3) := by decide +kernel
theorem dX8_copyFrom_9 : decode cX8_copyFrom 9 = .ok (.iconst 0, 1) := by decide +kernel
theorem dX8_copyFrom_10 : decode cX8_copyFrom 10 = .ok (.bipush 17, 2) := by decide +kernel
theorem dX8_copyFrom_12 : decode cX8_copyFrom 12 = .ok (.invokestatic 62, 3) := by decide +kernel
theorem dX8_copyFrom_15 : decode cX8_copyFrom 15 = .ok (.aload_n 1, 1) := by decide +kernel
theorem dX8_copyFrom_16 : decode cX8_copyFrom 16 = .ok (.getfield 19, 3) := by decide +kernel
theorem dX8_copyFrom_19 : decode cX8_copyFrom 19 = .ok (.iconst 0, 1) := by decide +kernel
theorem dX8_copyFrom_20 : decode cX8_copyFrom 20 = .ok (.aload_n 0, 1) := by decide +kernel
theorem dX8_copyFrom_21 : decode cX8_copyFrom 21 = .ok (.getfield 19, 3) := by decide +kernel
theorem dX8_copyFrom_24 : decode cX8_copyFrom 24 = .ok (.iconst 0, 1) := by decide +kernel
theorem dX8_copyFrom_25 : decode cX8_copyFrom 25 = .ok (.bipush 14, 2) := by decide +kernel
theorem dX8_copyFrom_27 : decode cX8_copyFrom 27 = .ok (.invokestatic 62, 3) := by decide +kernel
theorem dX8_copyFrom_30 : decode cX8_copyFrom 30 = .ok (.aload_n 1, 1) := by decide +kernel
theorem dX8_copyFrom_31 : decode cX8_copyFrom 31 = .ok (.getfield 24, 3) := by decide +kernel
theorem dX8_copyFrom_34 : decode cX8_copyFrom 34 = .ok (.iconst 0, 1) := by decide +kernel
theorem dX8_copyFrom_35 : decode cX8_copyFrom 35 = .ok (.aload_n 0, 1) := by decide +kernel
theorem dX8_copyFrom_36 : decode cX8_copyFrom 36 = .ok (.getfield 24, 3) := by decide +kernel
theorem dX8_copyFrom_39 : decode cX8_copyFrom 39 = .ok (.iconst 0, 1) := by decide +kernel
theorem dX8_copyFrom_40 : decode cX8_copyFrom 40 = .ok (.bipush 12, 2) := by decide +kernel
theorem dX8_copyFrom_42 : decode cX8_copyFrom 42 = .ok (.invokestatic 62, 3) := by decide +kernel
theorem dX8_copyFrom_45 : decode cX8_copyFrom 45 = .ok (.aload_n 1, 1) := by decide +kernel
theorem dX8_copyFrom_46 : decode cX8_copyFrom 46 = .ok (.getfield 29, 3) := by decide +kernel
theorem dX8_copyFrom_49 : decode cX8_copyFrom 49 = .ok (.iconst 0, 1) := by decide +kernel
theorem dX8_copyFrom_50 : decode cX8_copyFrom 50 = .ok (.aload_n 0, 1) := by decide +kernel
theorem dX8_copyFrom_51 : decode cX8_copyFrom 51 = .ok (.getfield 29, 3) := by decide +kernel
theorem dX8_copyFrom_54 : decode cX8_copyFrom 54 = .ok (.iconst 0, 1) := by decide +kernel
theorem dX8_copyFrom_55 : decode cX8_copyFrom 55 = .ok (.sipush 420, 3) := by decide +kernel
theorem dX8_copyFrom_58 : decode cX8_copyFrom 58 = .ok (.invokestatic 62, 3) := by decide +kernel
theorem dX8_copyFrom_61 : decode cX8_copyFrom 61 = .ok (.aload_n 1, 1) := by decide +kernel
theorem dX8_copyFrom_62 : decode cX8_copyFrom 62 = .ok (.getfield 32, 3) := by decide +kernel
theorem dX8_copyFrom_65 : decode cX8_copyFrom 65 = .ok (.iconst 0, 1) := by decide +kernel
theorem dX8_copyFrom_66 : decode cX8_copyFrom 66 = .ok (.aload_n 0, 1) := by decide +kernel
theorem dX8_copyFrom_67 : decode cX8_copyFrom 67 = .ok (.getfield 32, 3) := by decide +kernel
theorem dX8_copyFrom_70 : decode cX8_copyFrom 70 = .ok (.iconst 0, 1) := by decide +kernel
theorem dX8_copyFrom_71 : decode cX8_copyFrom 71 = .ok (.bipush 20, 2) := by decide +kernel
theorem dX8_copyFrom_73 : decode cX8_copyFrom 73 = .ok (.invokestatic 62, 3) := by decide +kernel
theorem dX8_copyFrom_76 : decode cX8_copyFrom 76 = .ok (.aload_n 1, 1) := by decide +kernel
theorem dX8_copyFrom_77 : decode cX8_copyFrom 77 = .ok (.getfield 35, 3) := by decide +kernel
theorem dX8_copyFrom_80 : decode cX8_copyFrom 80 = .ok (.iconst 0, 1) := by decide +kernel
theorem dX8_copyFrom_81 : decode cX8_copyFrom 81 = .ok (.aload_n 0, 1) := by decide +kernel
theorem dX8_copyFrom_82 : decode cX8_copyFrom 82 = .ok (.getfield 35, 3) := by decide +kernel
theorem dX8_copyFrom_85 : decode cX8_copyFrom 85 = .ok (.iconst 0, 1) := by decide +kernel
theorem dX8_copyFrom_86 : decode cX8_copyFrom 86 = .ok (.bipush 90, 2) := by decide +kernel
theorem dX8_copyFrom_88 : decode cX8_copyFrom 88 = .ok (.invokestatic 62, 3) := by decide +kernel
theorem dX8_copyFrom_91 : decode cX8_copyFrom 91 = .ok (.aload_n 1, 1) := by decide +kernel
theorem dX8_copyFrom_92 : decode cX8_copyFrom 92 = .ok (.getfield 38, 3) := by decide +kernel
theorem dX8_copyFrom_95 : decode cX8_copyFrom 95 = .ok (.iconst 0, 1) := by decide +kernel
theorem dX8_copyFrom_96 : decode cX8_copyFrom 96 = .ok (.aload_n 0, 1) := by decide +kernel
theorem dX8_copyFrom_97 : decode cX8_copyFrom 97 = .ok (.getfield 38, 3) := by decide +kernel
theorem dX8_copyFrom_100 : decode cX8_copyFrom 100 = .ok (.iconst 0, 1) := by decide +kernel
theorem dX8_copyFrom_101 : decode cX8_copyFrom 101 = .ok (.iconst 3, 1) := by decide +kernel
theorem dX8_copyFrom_102 : decode cX8_copyFrom 102 = .ok (.invokestatic 62, 3) := by decide +kernel
theorem dX8_copyFrom_105 : decode cX8_copyFrom 105 = .ok (.aload_n 1, 1) := by decide +kernel
theorem dX8_copyFrom_106 : decode cX8_copyFrom 106 = .ok (.getfield 41, 3) := by decide +kernel
theorem dX8_copyFrom_109 : decode cX8_copyFrom 109 = .ok (.iconst 0, 1) := by decide +kernel
theorem dX8_copyFrom_110 : decode cX8_copyFrom 110 = .ok (.aload_n 0, 1) := by decide +kernel
theorem dX8_copyFrom_111 : decode cX8_copyFrom 111 = .ok (.getfield 41, 3) := by decide +kernel
theorem dX8_copyFrom_114 : decode cX8_copyFrom 114 = .ok (.iconst 0, 1) := by decide +kernel
theorem dX8_copyFrom_115 : decode cX8_copyFrom 115 = .ok (.iconst 3, 1) := by decide +kernel
theorem dX8_copyFrom_116 : decode cX8_copyFrom 116 = .ok (.invokestatic 62, 3) := by decide +kernel
theorem dX8_copyFrom_119 : decode cX8_copyFrom 119 = .ok (.aload_n 1, 1) := by decide +kernel
theorem dX8_copyFrom_120 : decode cX8_copyFrom 120 = .ok (.getfield 44, 3) := by decide +kernel
theorem dX8_copyFrom_123 : decode cX8_copyFrom 123 = .ok (.iconst 0, 1) := by decide +kernel
theorem dX8_copyFrom_124 : decode cX8_copyFrom 124 = .ok (.aload_n 0, 1) := by decide +kernel
theorem dX8_copyFrom_125 : decode cX8_copyFrom 125 = .ok (.getfield 44, 3) := by decide +kernel
theorem dX8_copyFrom_128 : decode cX8_copyFrom 128 = .ok (.iconst 0, 1) := by decide +kernel
theorem dX8_copyFrom_129 : decode cX8_copyFrom 129 = .ok (.iconst 3, 1) := by decide +kernel
theorem dX8_copyFrom_130 : decode cX8_copyFrom 130 = .ok (.invokestatic 62, 3) := by decide +kernel
theorem dX8_copyFrom_133 : decode cX8_copyFrom 133 = .ok (.aload_n 1, 1) := by decide +kernel
theorem dX8_copyFrom_134 : decode cX8_copyFrom 134 = .ok (.getfield 49, 3) := by decide +kernel
theorem dX8_copyFrom_137 : decode cX8_copyFrom 137 = .ok (.iconst 0, 1) := by decide +kernel
theorem dX8_copyFrom_138 : decode cX8_copyFrom 138 = .ok (.aload_n 0, 1) := by decide +kernel
theorem dX8_copyFrom_139 : decode cX8_copyFrom 139 = .ok (.getfield 49, 3) := by decide +kernel
theorem dX8_copyFrom_142 : decode cX8_copyFrom 142 = .ok (.iconst 0, 1) := by decide +kernel
theorem dX8_copyFrom_143 : decode cX8_copyFrom 143 = .ok (.bipush 80, 2) := by decide +kernel
theorem dX8_copyFrom_145 : decode cX8_copyFrom 145 = .ok (.invokestatic 62, 3) := by decide +kernel
theorem dX8_copyFrom_148 : decode cX8_copyFrom 148 = .ok (.aload_n 0, 1) := by decide +kernel
theorem dX8_copyFrom_149 : decode cX8_copyFrom 149 = .ok (.aload_n 1, 1) := by decide +kernel
theorem dX8_copyFrom_150 : decode cX8_copyFrom 150 = .ok (.getfield 52, 3) := by decide +kernel
theorem dX8_copyFrom_153 : decode cX8_copyFrom 153 = .ok (.putfield 52, 3) := by decide +kernel
theorem dX8_copyFrom_156 : decode cX8_copyFrom 156 = .ok (.aload_n 0, 1) := by decide +kernel
theorem dX8_copyFrom_157 : decode cX8_copyFrom 157 = .ok (.aload_n 1, 1) := by decide +kernel
theorem dX8_copyFrom_158 : decode cX8_copyFrom 158 = .ok (.getfield 56, 3) := by decide +kernel
theorem dX8_copyFrom_161 : decode cX8_copyFrom 161 = .ok (.putfield 56, 3) := by decide +kernel
theorem dX8_copyFrom_164 : decode cX8_copyFrom 164 = .ok (.aload_n 0, 1) := by decide +kernel
theorem dX8_copyFrom_165 : decode cX8_copyFrom 165 = .ok (.aload_n 1, 1) := by decide +kernel
theorem dX8_copyFrom_166 : decode cX8_copyFrom 166 = .ok (.getfield 59, 3) := by decide +kernel
theorem dX8_copyFrom_169 : decode cX8_copyFrom 169 = .ok (.putfield 59, 3) := by decide +kernel
theorem dX8_copyFrom_172 : decode cX8_copyFrom 172 = .ok (.return_, 1) := by decide +kernel
set_option maxRecDepth 20000 in
theorem ggX8_becomeNew_X8_setDefaults : GoodIn wsX8_becomeNew wsX8_setDefaults := goodIn_r _ [9, 10, 11, 12, 13, 8, 14, 15, 16, 17, 18, 19, 20, 21, 22, 23, 24, 25, 26, 27, 28] (by decide +kernel) (by decide +kernel)
set_option maxRecDepth 20000 in
theorem gX8_becomeNew_X8_setDefaults : GoodIn wsX8_becomeNew (wsV RX8 68 RX8 yX8_setDefaults wsX8_setDefaults) := goodIn_app (goodIn_of _ (by decide +kernel)) ggX8_becomeNew_X8_setDefaults
theorem dX8_becomeNew_0 : decode cX8_becomeNew 0 = .ok (.iconst 0, 1) := by decide +kernel
theorem dX8_becomeNew_1 : decode cX8_becomeNew 1 = .ok (.istore_n 1, 1) := by decide +kernel
theorem dX8_becomeNew_2 : decode cX8_becomeNew 2 = .ok (.iload_n 1, 1) := by decide +kernel
theorem dX8_becomeNew_3 : decode cX8_becomeNew 3 = .ok (.bipush 17, 2) := by decide +kernel
theorem dX8_becomeNew_5 : decode cX8_becomeNew 5 = .ok (.if_icmp .ge 16, 3) := by decide +kernel
theorem dX8_becomeNew_8 : decode cX8_becomeNew 8 = .ok (.aload_n 0, 1) := by decide +kernel
theorem dX8_becomeNew_9 : decode cX8_becomeNew 9 = .ok (.getfield 11, 3) := by decide +kernel
theorem dX8_becomeNew_12 : decode cX8_becomeNew 12 = .ok (.iload_n 1, 1) := by decide +kernel
theorem dX8_becomeNew_13 : decode cX8_becomeNew 13 = .ok (.iconst 0, 1) := by decide +kernel
theorem dX8_becomeNew_14 : decode cX8_becomeNew 14 = .ok (.iastore, 1) := by decide +kernel
theorem dX8_becomeNew_15 : decode cX8_becomeNew 15 = .ok (.iinc 1 1, 3) := by decide +kernel
theorem dX8_becomeNew_18 : decode cX8_becomeNew 18 = .ok (.goto (-16), 3) := by decide +kernel
theorem dX8_becomeNew_21 : decode cX8_becomeNew 21 = .ok (.aload_n 0, 1) := by decide +kernel
theorem dX8_becomeNew_22 : decode cX8_becomeNew 22 = .ok (.getfield 11, 3) := by decide +kernel
theorem dX8_becomeNew_25 : decode cX8_becomeNew 25 = .ok (.bipush 8, 2) := by decide +kernel
theorem dX8_becomeNew_27 : decode cX8_becomeNew 27 = .ok (.iconst (-1), 1) := by decide +kernel
theorem dX8_becomeNew_28 : decode cX8_becomeNew 28 = .ok (.iastore, 1) := by decide +kernel
theorem dX8_becomeNew_29 : decode cX8_becomeNew 29 = .ok (.aload_n 0, 1) := by decide +kernel
theorem dX8_becomeNew_30 : decode cX8_becomeNew 30 = .ok (.getfield 11, 3) := by decide +kernel
theorem dX8_becomeNew_33 : decode cX8_becomeNew 33 = .ok (.bipush 16, 2) := by decide +kernel
theorem dX8_becomeNew_35 : decode cX8_becomeNew 35 = .ok (.iconst 1, 1) := by decide +kernel
theorem dX8_becomeNew_36 : decode cX8_becomeNew 36 = .ok (.iastore, 1) := by decide +kernel
theorem dX8_becomeNew_37 : decode cX8_becomeNew 37 = .ok (.iconst 0, 1) := by decide +kernel
theorem dX8_becomeNew_38 : decode cX8_becomeNew 38 = .ok (.istore_n 1, 1) := by decide +kernel
theorem dX8_becomeNew_39 : decode cX8_becomeNew 39 = .ok (.iload_n 1, 1) := by decide +kernel
theorem dX8_becomeNew_40 : decode cX8_becomeNew 40 = .ok (.iconst 3, 1) := by decide +kernel
theorem dX8_becomeNew_41 : decode cX8_becomeNew 41 = .ok (.if_icmp .ge 30, 3) := by decide +kernel
theorem dX8_becomeNew_44 : decode cX8_becomeNew 44 = .ok (.aload_n 0, 1) := by decide +kernel
theorem dX8_becomeNew_45 : decode cX8_becomeNew 45 = .ok (.getfield 38, 3) := by decide +kernel
theorem dX8_becomeNew_48 : decode cX8_becomeNew 48 = .ok (.iload_n 1, 1) := by decide +kernel
theorem dX8_becomeNew_49 : decode cX8_becomeNew 49 = .ok (.iconst 0, 1) := by decide +kernel
theorem dX8_becomeNew_50 : decode cX8_becomeNew 50 = .ok (.iastore, 1) := by decide +kernel
theorem dX8_becomeNew_51 : decode cX8_becomeNew 51 = .ok (.aload_n 0, 1) := by decide +kernel
theorem dX8_becomeNew_52 : decode cX8_becomeNew 52 = .ok (.getfield 41, 3) := by decide +kernel
theorem dX8_becomeNew_55 : decode cX8_becomeNew 55 = .ok (.iload_n 1, 1) := by decide +kernel
theorem dX8_becomeNew_56 : decode cX8_becomeNew 56 = .ok (.iconst 0, 1) := by decide +kernel
theorem dX8_becomeNew_57 : decode cX8_becomeNew 57 = .ok (.iastore, 1) := by decide +kernel
theorem dX8_becomeNew_58 : decode cX8_becomeNew 58 = .ok (.aload_n 0, 1) := by decide +kernel
theorem dX8_becomeNew_59 : decode cX8_becomeNew 59 = .ok (.getfield 44, 3) := by decide +kernel
theorem dX8_becomeNew_62 : decode cX8_becomeNew 62 = .ok (.iload_n 1, 1) := by decide +kernel
theorem dX8_becomeNew_63 : decode cX8_becomeNew 63 = .ok (.iconst 0, 1) := by decide +kernel
theorem dX8_becomeNew_64 : decode cX8_becomeNew 64 = .ok (.iastore, 1) := by decide +kernel
theorem dX8_becomeNew_65 : decode cX8_becomeNew 65 = .ok (.iinc 1 1, 3) := by decide +kernel
theorem dX8_becomeNew_68 : decode cX8_becomeNew 68 = .ok (.goto (-29), 3) := by decide +kernel
theorem dX8_becomeNew_71 : decode cX8_becomeNew 71 = .ok (.aload_n 0, 1) := by decide +kernel
theorem dX8_becomeNew_72 : decode cX8_becomeNew 72 = .ok (.invokevirtual 68, 3) := by decide +kernel
theorem dX8_becomeNew_75 : decode cX8_becomeNew 75 = .ok (.return_, 1) := by decide +kernel
set_option maxRecDepth 20000 in
theorem ggX8_setDefaults_X8_setKind : GoodIn wsX8_setDefaults wsX8_setKind := goodIn_r _ [6, 7, 8, 9, 10, 11, 12, 13, 14, 15, 16, 17, 18, 19, 20] (by decide +kernel) (by decide +kernel)
set_option maxRecDepth 20000 in
theorem gX8_setDefaults_X8_setKind : GoodIn wsX8_setDefaults (wsV RX8 71 RX8 yX8_setKind wsX8_setKind) := goodIn_app (goodIn_of _ (by decide +kernel)) ggX8_setDefaults_X8_setKind
theorem dX8_setDefaults_0 : decode cX8_setDefaults 0 = .ok (.aload_n 0, 1) := by decide +kernel
theorem dX8_setDefaults_1 : decode cX8_setDefaults 1 = .ok (.getfield 19, 3) := by decide +kernel
theorem dX8_setDefaults_4 : decode cX8_setDefaults 4 = .ok (.iconst 0, 1) := by decide +kernel
theorem dX8_setDefaults_5 : decode cX8_setDefaults 5 = .ok (.iconst 0, 1) := by decide +kernel
theorem dX8_setDefaults_6 : decode cX8_setDefaults 6 = .ok (.iastore, 1) := by decide +kernel
theorem dX8_setDefaults_7 : decode cX8_setDefaults 7 = .ok (.aload_n 0, 1) := by decide +kernel
theorem dX8_setDefaults_8 : decode cX8_setDefaults 8 = .ok (.getfield 19, 3) := by decide +kernel
theorem dX8_setDefaults_11 : decode cX8_setDefaults 11 = .ok (.iconst 1, 1) := by decide +kernel
theorem dX8_setDefaults_12 : decode cX8_setDefaults 12 = .ok (.iconst 0, 1) := by decide +kernel
theorem dX8_setDefaults_13 : decode cX8_setDefaults 13 = .ok (.iastore, 1) := by decide +kernel
theorem dX8_setDefaults_14 : decode cX8_setDefaults 14 = .ok (.aload_n 0, 1) := by decide +kernel
theorem dX8_setDefaults_15 : decode cX8_setDefaults 15 = .ok (.getfield 19, 3) := by decide +kernel
theorem dX8_setDefaults_18 : decode cX8_setDefaults 18 = .ok (.iconst 2, 1) := by decide +kernel
theorem dX8_setDefaults_19 : decode cX8_setDefaults 19 = .ok (.bipush 10, 2) := by decide +kernel
theorem dX8_setDefaults_21 : decode cX8_setDefaults 21 = .ok (.iastore, 1) := by decide +kernel
theorem dX8_setDefaults_22 : decode cX8_setDefaults 22 = .ok (.aload_n 0, 1) := by decide +kernel
theorem dX8_setDefaults_23 : decode cX8_setDefaults 23 = .ok (.getfield 19, 3) := by decide +kernel
theorem dX8_setDefaults_26 : decode cX8_setDefaults 26 = .ok (.iconst 3, 1) := by decide +kernel
theorem dX8_setDefaults_27 : decode cX8_setDefaults 27 = .ok (.iconst 0, 1) := by decide +kernel
theorem dX8_setDefaults_28 : decode cX8_setDefaults 28 = .ok (.iastore, 1) := by decide +kernel
theorem dX8_setDefaults_29 : decode cX8_setDefaults 29 = .ok (.aload_n 0, 1) := by decide +kernel
theorem dX8_setDefaults_30 : decode cX8_setDefaults 30 = .ok (.getfield 19, 3) := by decide +kernel
theorem dX8_setDefaults_33 : decode cX8_setDefaults 33 = .ok (.iconst 4, 1) := by decide +kernel
theorem dX8_setDefaults_34 : decode cX8_setDefaults 34 = .ok (.iconst 0, 1) := by decide +kernel
theorem dX8_setDefaults_35 : decode cX8_setDefaults 35 = .ok (.iastore, 1) := by decide +kernel
theorem dX8_setDefaults_36 : decode cX8_setDefaults 36 = .ok (.aload_n 0, 1) := by decide +kernel
theorem dX8_setDefaults_37 : decode cX8_setDefaults 37 = .ok (.getfield 19, 3) := by decide +kernel
theorem dX8_setDefaults_40 : decode cX8_setDefaults 40 = .ok (.iconst 5, 1) := by decide +kernel
theorem dX8_setDefaults_41 : decode cX8_setDefaults 41 = .ok (.bipush 100, 2) := by decide +kernel
theorem dX8_setDefaults_43 : decode cX8_setDefaults 43 = .ok (.iastore, 1) := by decide +kernel
theorem dX8_setDefaults_44 : decode cX8_setDefaults 44 = .ok (.aload_n 0, 1) := by decide +kernel
theorem dX8_setDefaults_45 : decode cX8_setDefaults 45 = .ok (.getfield 19, 3) := by decide +kernel
theorem dX8_setDefaults_48 : decode cX8_setDefaults 48 = .ok (.bipush 6, 2) := by decide +kernel
theorem dX8_setDefaults_50 : decode cX8_setDefaults 50 = .ok (.bipush 10, 2) := by decide +kernel
theorem dX8_setDefaults_52 : decode cX8_setDefaults 52 = .ok (.iastore, 1) := by decide +kernel
theorem dX8_setDefaults_53 : decode cX8_setDefaults 53 = .ok (.aload_n 0, 1) := by decide +kernel
theorem dX8_setDefaults_54 : decode cX8_setDefaults 54 = .ok (.getfield 19, 3) := by decide +kernel
theorem dX8_setDefaults_57 : decode cX8_setDefaults 57 = .ok (.bipush 7, 2) := by decide +kernel
theorem dX8_setDefaults_59 : decode cX8_setDefaults 59 = .ok (.sipush 1000, 3) := by decide +kernel
theorem dX8_setDefaults_62 : decode cX8_setDefaults 62 = .ok (.iastore, 1) := by decide +kernel
theorem dX8_setDefaults_63 : decode cX8_setDefaults 63 = .ok (.aload_n 0, 1) := by decide +kernel
theorem dX8_setDefaults_64 : decode cX8_setDefaults 64 = .ok (.getfield 19, 3) := by decide +kernel
theorem dX8_setDefaults_67 : decode cX8_setDefaults 67 = .ok (.bipush 8, 2) := by decide +kernel
theorem dX8_setDefaults_69 : decode cX8_setDefaults 69 = .ok (.sipush 1000, 3) := by decide +kernel
theorem dX8_setDefaults_72 : decode cX8_setDefaults 72 = .ok (.iastore, 1) := by decide +kernel
theorem dX8_setDefaults_73 : decode cX8_setDefaults 73 = .ok (.aload_n 0, 1) := by decide +kernel
theorem dX8_setDefaults_74 : decode cX8_setDefaults 74 = .ok (.getfield 19, 3) := by decide +kernel
theorem dX8_setDefaults_77 : decode cX8_setDefaults 77 = .ok (.bipush 9, 2) := by decide +kernel
theorem dX8_setDefaults_79 : decode cX8_setDefaults 79 = .ok (.iconst 2, 1) := by decide +kernel
theorem dX8_setDefaults_80 : decode cX8_setDefaults 80 = .ok (.iastore, 1) := by decide +kernel
theorem dX8_setDefaults_81 : decode cX8_setDefaults 81 = .ok (.aload_n 0, 1) := by decide +kernel
theorem dX8_setDefaults_82 : decode cX8_setDefaults 82 = .ok (.getfield 19, 3) := by decide +kernel
theorem dX8_setDefaults_85 : decode cX8_setDefaults 85 = .ok (.bipush 10, 2) := by decide +kernel
theorem dX8_setDefaults_87 : decode cX8_setDefaults 87 = .ok (.iconst 5, 1) := by decide +kernel
theorem dX8_setDefaults_88 : decode cX8_setDefaults 88 = .ok (.iastore, 1) := by decide +kernel
theorem dX8_setDefaults_89 : decode cX8_setDefaults 89 = .ok (.aload_n 0, 1) := by decide +kernel
theorem dX8_setDefaults_90 : decode cX8_setDefaults 90 = .ok (.getfield 19, 3) := by decide +kernel
theorem dX8_setDefaults_93 : decode cX8_setDefaults 93 = .ok (.bipush 11, 2) := by decide +kernel
theorem dX8_setDefaults_95 : decode cX8_setDefaults 95 = .ok (.iconst 2, 1) := by decide +kernel
theorem dX8_setDefaults_96 : decode cX8_setDefaults 96 = .ok (.iastore, 1) := by decide +kernel
theorem dX8_setDefaults_97 : decode cX8_setDefaults 97 = .ok (.aload_n 0, 1) := by decide +kernel
theorem dX8_setDefaults_98 : decode cX8_setDefaults 98 = .ok (.getfield 19, 3) := by decide +kernel
theorem dX8_setDefaults_101 : decode cX8_setDefaults 101 = .ok (.bipush 12, 2) := by decide +kernel
theorem dX8_setDefaults_103 : decode cX8_setDefaults 103 = .ok (.iconst 3, 1) := by decide +kernel
theorem dX8_setDefaults_104 : decode cX8_setDefaults 104 = .ok (.iastore, 1) := by decide +kernel
theorem dX8_setDefaults_105 : decode cX8_setDefaults 105 = .ok (.aload_n 0, 1) := by decide +kernel
theorem dX8_setDefaults_106 : decode cX8_setDefaults 106 = .ok (.getfield 19, 3) := by decide +kernel
theorem dX8_setDefaults_109 : decode cX8_setDefaults 109 = .ok (.bipush 13, 2) := by decide +kernel
theorem dX8_setDefaults_111 : decode cX8_setDefaults 111 = .ok (.iconst 5, 1) := by decide +kernel
theorem dX8_setDefaults_112 : decode cX8_setDefaults 112 = .ok (.iastore, 1) := by decide +kernel
theorem dX8_setDefaults_113 : decode cX8_setDefaults 113 = .ok (.iconst 0, 1) := by decide +kernel
theorem dX8_setDefaults_114 : decode cX8_setDefaults 114 = .ok (.istore_n 1, 1) := by decide +kernel
theorem dX8_setDefaults_115 : decode cX8_setDefaults 115 = .ok (.iload_n 1, 1) := by decide +kernel
theorem dX8_setDefaults_116 : decode cX8_setDefaults 116 = .ok (.iconst 4, 1) := by decide +kernel
theorem dX8_setDefaults_117 : decode cX8_setDefaults 117 = .ok (.if_icmp .ge 21, 3) := by decide +kernel
theorem dX8_setDefaults_120 : decode cX8_setDefaults 120 = .ok (.aload_n 0, 1) := by decide +kernel
theorem dX8_setDefaults_121 : decode cX8_setDefaults 121 = .ok (.iload_n 1, 1) := by decide +kernel
theorem dX8_setDefaults_122 : decode cX8_setDefaults 122 = .ok (.bipush 100, 2) := by decide +kernel
theorem dX8_setDefaults_124 : decode cX8_setDefaults 124 = .ok (.bipush 10, 2) := by decide +kernel
theorem dX8_setDefaults_126 : decode cX8_setDefaults 126 = .ok (.iload_n 1, 1) := by decide +kernel
theorem dX8_setDefaults_127 : decode cX8_setDefaults 127 = .ok (.iconst 1, 1) := by decide +kernel
theorem dX8_setDefaults_128 : decode cX8_setDefaults 128 = .ok (.iadd, 1) := by decide +kernel
theorem dX8_setDefaults_129 : decode cX8_setDefaults 129 = .ok (.invokevirtual 71, 3) := by decide +kernel
theorem dX8_setDefaults_132 : decode cX8_setDefaults 132 = .ok (.iinc 1 1, 3) := by decide +kernel
theorem dX8_setDefaults_135 : decode cX8_setDefaults 135 = .ok (.goto (-20), 3) := by decide +kernel
theorem dX8_setDefaults_138 : decode cX8_setDefaults 138 = .ok (.return_, 1) := by decide +kernel
theorem dX8_setKind_0 : decode cX8_setKind 0 = .ok (.iload_n 1, 1) := by decide +kernel
theorem dX8_setKind_1 : decode cX8_setKind 1 = .ok (.ifCond .lt 42, 3) := by decide +kernel
theorem dX8_setKind_4 : decode cX8_setKind 4 = .ok (.iload_n 1, 1) := by decide +kernel
theorem dX8_setKind_5 : decode cX8_setKind 5 = .ok (.iconst 4, 1) := by decide +kernel
theorem dX8_setKind_6 : decode cX8_setKind 6 = .ok (.if_icmp .ge 37, 3) := by decide +kernel
theorem dX8_setKind_9 : decode cX8_setKind 9 = .ok (.aload_n 0, 1) := by decide +kernel
theorem dX8_setKind_10 : decode cX8_setKind 10 = .ok (.getfield 24, 3) := by decide +kernel
theorem dX8_setKind_13 : decode cX8_setKind 13 = .ok (.iload_n 1, 1) := by decide +kernel
theorem dX8_setKind_14 : decode cX8_setKind 14 = .ok (.iconst 3, 1) := by decide +kernel
theorem dX8_setKind_15 : decode cX8_setKind 15 = .ok (.imul, 1) := by decide +kernel
theorem dX8_setKind_16 : decode cX8_setKind 16 = .ok (.iconst 0, 1) := by decide +kernel
theorem dX8_setKind_17 : decode cX8_setKind 17 = .ok (.iadd, 1) := by decide +kernel
theorem dX8_setKind_18 : decode cX8_setKind 18 = .ok (.iload_n 2, 1) := by decide +kernel
theorem dX8_setKind_19 : decode cX8_setKind 19 = .ok (.iastore, 1) := by decide +kernel
theorem dX8_setKind_20 : decode cX8_setKind 20 = .ok (.aload_n 0, 1) := by decide +kernel
theorem dX8_setKind_21 : decode cX8_setKind 21 = .ok (.getfield 24, 3) := by decide +kernel
theorem dX8_setKind_24 : decode cX8_setKind 24 = .ok (.iload_n 1, 1) := by decide +kernel
theorem dX8_setKind_25 : decode cX8_setKind 25 = .ok (.iconst 3, 1) := by decide +kernel
theorem dX8_setKind_26 : decode cX8_setKind 26 = .ok (.imul, 1) := by decide +kernel
theorem dX8_setKind_27 : decode cX8_setKind 27 = .ok (.iconst 1, 1) := by decide +kernel
theorem dX8_setKind_28 : decode cX8_setKind 28 = .ok (.iadd, 1) := by decide +kernel
theorem dX8_setKind_29 : decode cX8_setKind 29 = .ok (.iload_n 3, 1) := by decide +kernel
theorem dX8_setKind_30 : decode cX8_setKind 30 = .ok (.iastore, 1) := by decide +kernel
theorem dX8_setKind_31 : decode cX8_setKind 31 = .ok (.aload_n 0, 1) := by decide +kernel
theorem dX8_setKind_32 : decode cX8_setKind 32 = .ok (.getfield 24, 3) := by decide +kernel
theorem dX8_setKind_35 : decode cX8_setKind 35 = .ok (.iload_n 1, 1) := by decide +kernel
theorem dX8_setKind_36 : decode cX8_setKind 36 = .ok (.iconst 3, 1) := by decide +kernel
theorem dX8_setKind_37 : decode cX8_setKind 37 = .ok (.imul, 1) := by decide +kernel
theorem dX8_setKind_38 : decode cX8_setKind 38 = .ok (.iconst 2, 1) := by decide +kernel
theorem dX8_setKind_39 : decode cX8_setKind 39 = .ok (.iadd, 1) := by decide +kernel
theorem dX8_setKind_40 : decode cX8_setKind 40 = .ok (.iload 4, 2) := by decide +kernel
theorem dX8_setKind_42 : decode cX8_setKind 42 = .ok (.iastore, 1) := by decide +kernel
theorem dX8_setKind_43 : decode cX8_setKind 43 = .ok (.return_, 1) := by decide +kernel
set_option maxRecDepth 20000 in
theorem ggX8_becomeLevel_X8_deckAt : GoodIn wsX8_becomeLevel wsX8_deckAt := goodIn_r _ [6, 7, 1, 8, 9, 10, 5, 11, 26, 27, 28, 29, 30, 31, 32, 33, 34, 35, 36, 37, 38] (by decide +kernel) (by decide +kernel)
set_option maxRecDepth 20000 in
theorem gX8_becomeLevel_X8_deckAt : GoodIn wsX8_becomeLevel (wsV RX8 75 RX8 yX8_deckAt wsX8_deckAt) := goodIn_app (goodIn_of _ (by decide +kernel)) ggX8_becomeLevel_X8_deckAt
set_option maxRecDepth 20000 in
theorem ggX8_becomeLevel_X8_measureAll : GoodIn wsX8_becomeLevel wsX8_measureAll := goodIn_r _ [15, 1, 16, 2, 3, 4, 5, 6, 7, 8, 9, 10, 11, 17, 18, 19, 20, 21, 22, 23, 24, 25, 26, 27, 28, 29, 30, 31, 32, 33, 34, 35, 36, 37, 38] (by decide +kernel) (by decide +kernel)
set_option maxRecDepth 20000 in
theorem gX8_becomeLevel_X8_measureAll : GoodIn wsX8_becomeLevel (wsV RX8 79 RX8 yX8_measureAll wsX8_measureAll) := goodIn_app (goodIn_of _ (by decide +kernel)) ggX8_becomeLevel_X8_measureAll
theorem dX8_becomeLevel_0 : decode cX8_becomeLevel 0 = .ok (.aload_n 0, 1) := by decide +kernel
theorem dX8_becomeLevel_1 : decode cX8_becomeLevel 1 = .ok (.getfield 11, 3) := by decide +kernel
theorem dX8_becomeLevel_4 : decode cX8_becomeLevel 4 = .ok (.iconst 4, 1) := by decide +kernel
theorem dX8_becomeLevel_5 : decode cX8_becomeLevel 5 = .ok (.aload_n 0, 1) := by decide +kernel
theorem dX8_becomeLevel_6 : decode cX8_becomeLevel 6 = .ok (.aload_n 0, 1) := by decide +kernel
theorem dX8_becomeLevel_7 : decode cX8_becomeLevel 7 = .ok (.getfield 11, 3) := by decide +kernel
theorem dX8_becomeLevel_10 : decode cX8_becomeLevel 10 = .ok (.iconst 0, 1) := by decide +kernel
theorem dX8_becomeLevel_11 : decode cX8_becomeLevel 11 = .ok (.iaload, 1) := by decide +kernel
theorem dX8_becomeLevel_12 : decode cX8_becomeLevel 12 = .ok (.invokevirtual 75, 3) := by decide +kernel
theorem dX8_becomeLevel_15 : decode cX8_becomeLevel 15 = .ok (.iastore, 1) := by decide +kernel
theorem dX8_becomeLevel_16 : decode cX8_becomeLevel 16 = .ok (.aload_n 0, 1) := by decide +kernel
theorem dX8_becomeLevel_17 : decode cX8_becomeLevel 17 = .ok (.invokevirtual 79, 3) := by decide +kernel
theorem dX8_becomeLevel_20 : decode cX8_becomeLevel 20 = .ok (.return_, 1) := by decide +kernel
theorem dX8_tideAt_0 : decode cX8_tideAt 0 = .ok (.aload_n 0, 1) := by decide +kernel
theorem dX8_tideAt_1 : decode cX8_tideAt 1 = .ok (.getfield 19, 3) := by decide +kernel
theorem dX8_tideAt_4 : decode cX8_tideAt 4 = .ok (.iconst 2, 1) := by decide +kernel
theorem dX8_tideAt_5 : decode cX8_tideAt 5 = .ok (.iaload, 1) := by decide +kernel
theorem dX8_tideAt_6 : decode cX8_tideAt 6 = .ok (.istore_n 2, 1) := by decide +kernel
theorem dX8_tideAt_7 : decode cX8_tideAt 7 = .ok (.aload_n 0, 1) := by decide +kernel
theorem dX8_tideAt_8 : decode cX8_tideAt 8 = .ok (.getfield 19, 3) := by decide +kernel
theorem dX8_tideAt_11 : decode cX8_tideAt 11 = .ok (.iconst 0, 1) := by decide +kernel
theorem dX8_tideAt_12 : decode cX8_tideAt 12 = .ok (.iaload, 1) := by decide +kernel
theorem dX8_tideAt_13 : decode cX8_tideAt 13 = .ok (.istore_n 3, 1) := by decide +kernel
theorem dX8_tideAt_14 : decode cX8_tideAt 14 = .ok (.iload_n 2, 1) := by decide +kernel
theorem dX8_tideAt_15 : decode cX8_tideAt 15 = .ok (.iconst 1, 1) := by decide +kernel
theorem dX8_tideAt_16 : decode cX8_tideAt 16 = .ok (.if_icmp .ge 5, 3) := by decide +kernel
theorem dX8_tideAt_19 : decode cX8_tideAt 19 = .ok (.iload_n 3, 1) := by decide +kernel
theorem dX8_tideAt_20 : decode cX8_tideAt 20 = .ok (.ireturn, 1) := by decide +kernel
theorem dX8_tideAt_21 : decode cX8_tideAt 21 = .ok (.iload_n 1, 1) := by decide +kernel
theorem dX8_tideAt_22 : decode cX8_tideAt 22 = .ok (.iconst 2, 1) := by decide +kernel
theorem dX8_tideAt_23 : decode cX8_tideAt 23 = .ok (.iload_n 2, 1) := by decide +kernel
theorem dX8_tideAt_24 : decode cX8_tideAt 24 = .ok (.imul, 1) := by decide +kernel
theorem dX8_tideAt_25 : decode cX8_tideAt 25 = .ok (.irem, 1) := by decide +kernel
theorem dX8_tideAt_26 : decode cX8_tideAt 26 = .ok (.istore 4, 2) := by decide +kernel
theorem dX8_tideAt_28 : decode cX8_tideAt 28 = .ok (.iload 4, 2) := by decide +kernel
theorem dX8_tideAt_30 : decode cX8_tideAt 30 = .ok (.iload_n 2, 1) := by decide +kernel
theorem dX8_tideAt_31 : decode cX8_tideAt 31 = .ok (.if_icmp .gt 8, 3) := by decide +kernel
theorem dX8_tideAt_34 : decode cX8_tideAt 34 = .ok (.iload 4, 2) := by decide +kernel
theorem dX8_tideAt_36 : decode cX8_tideAt 36 = .ok (.goto 9, 3) := by decide +kernel
theorem dX8_tideAt_39 : decode cX8_tideAt 39 = .ok (.iconst 2, 1) := by decide +kernel
theorem dX8_tideAt_40 : decode cX8_tideAt 40 = .ok (.iload_n 2, 1) := by decide +kernel
theorem dX8_tideAt_41 : decode cX8_tideAt 41 = .ok (.imul, 1) := by decide +kernel
theorem dX8_tideAt_42 : decode cX8_tideAt 42 = .ok (.iload 4, 2) := by decide +kernel
theorem dX8_tideAt_44 : decode cX8_tideAt 44 = .ok (.isub, 1) := by decide +kernel
theorem dX8_tideAt_45 : decode cX8_tideAt 45 = .ok (.istore 5, 2) := by decide +kernel
theorem dX8_tideAt_47 : decode cX8_tideAt 47 = .ok (.iload_n 3, 1) := by decide +kernel
theorem dX8_tideAt_48 : decode cX8_tideAt 48 = .ok (.aload_n 0, 1) := by decide +kernel
theorem dX8_tideAt_49 : decode cX8_tideAt 49 = .ok (.getfield 19, 3) := by decide +kernel
theorem dX8_tideAt_52 : decode cX8_tideAt 52 = .ok (.iconst 1, 1) := by decide +kernel
theorem dX8_tideAt_53 : decode cX8_tideAt 53 = .ok (.iaload, 1) := by decide +kernel
theorem dX8_tideAt_54 : decode cX8_tideAt 54 = .ok (.iload_n 3, 1) := by decide +kernel
theorem dX8_tideAt_55 : decode cX8_tideAt 55 = .ok (.isub, 1) := by decide +kernel
theorem dX8_tideAt_56 : decode cX8_tideAt 56 = .ok (.iload 5, 2) := by decide +kernel
theorem dX8_tideAt_58 : decode cX8_tideAt 58 = .ok (.imul, 1) := by decide +kernel
theorem dX8_tideAt_59 : decode cX8_tideAt 59 = .ok (.iload_n 2, 1) := by decide +kernel
theorem dX8_tideAt_60 : decode cX8_tideAt 60 = .ok (.idiv, 1) := by decide +kernel
theorem dX8_tideAt_61 : decode cX8_tideAt 61 = .ok (.iadd, 1) := by decide +kernel
theorem dX8_tideAt_62 : decode cX8_tideAt 62 = .ok (.ireturn, 1) := by decide +kernel
set_option maxRecDepth 20000 in
theorem ggX8_deckAt_X8_tideAt : GoodIn wsX8_deckAt wsX8_tideAt := goodIn_r _ [7, 1, 8, 9, 10, 11, 12, 13, 14, 15, 16, 17, 18, 19, 20] (by decide +kernel) (by decide +kernel)
set_option maxRecDepth 20000 in
theorem gX8_deckAt_X8_tideAt : GoodIn wsX8_deckAt (wsV RX8 82 RX8 yX8_tideAt wsX8_tideAt) := goodIn_app (goodIn_of _ (by decide +kernel)) ggX8_deckAt_X8_tideAt
theorem dX8_deckAt_0 : decode cX8_deckAt 0 = .ok (.aload_n 0, 1) := by decide +kernel
theorem dX8_deckAt_1 : decode cX8_deckAt 1 = .ok (.getfield 19, 3) := by decide +kernel
theorem dX8_deckAt_4 : decode cX8_deckAt 4 = .ok (.iconst 5, 1) := by decide +kernel
theorem dX8_deckAt_5 : decode cX8_deckAt 5 = .ok (.iaload, 1) := by decide +kernel
theorem dX8_deckAt_6 : decode cX8_deckAt 6 = .ok (.istore_n 2, 1) := by decide +kernel
theorem dX8_deckAt_7 : decode cX8_deckAt 7 = .ok (.iload_n 2, 1) := by decide +kernel
theorem dX8_deckAt_8 : decode cX8_deckAt 8 = .ok (.iconst 1, 1) := by decide +kernel
theorem dX8_deckAt_9 : decode cX8_deckAt 9 = .ok (.if_icmp .ge 7, 3) := by decide +kernel
theorem dX8_deckAt_12 : decode cX8_deckAt 12 = .ok (.iconst 0, 1) := by decide +kernel
theorem dX8_deckAt_13 : decode cX8_deckAt 13 = .ok (.goto 12, 3) := by decide +kernel
theorem dX8_deckAt_16 : decode cX8_deckAt 16 = .ok (.aload_n 0, 1) := by decide +kernel
theorem dX8_deckAt_17 : decode cX8_deckAt 17 = .ok (.getfield 11, 3) := by decide +kernel
theorem dX8_deckAt_20 : decode cX8_deckAt 20 = .ok (.bipush 7, 2) := by decide +kernel
theorem dX8_deckAt_22 : decode cX8_deckAt 22 = .ok (.iaload, 1) := by decide +kernel
theorem dX8_deckAt_23 : decode cX8_deckAt 23 = .ok (.iload_n 2, 1) := by decide +kernel
theorem dX8_deckAt_24 : decode cX8_deckAt 24 = .ok (.idiv, 1) := by decide +kernel
theorem dX8_deckAt_25 : decode cX8_deckAt 25 = .ok (.istore_n 3, 1) := by decide +kernel
theorem dX8_deckAt_26 : decode cX8_deckAt 26 = .ok (.aload_n 0, 1) := by decide +kernel
theorem dX8_deckAt_27 : decode cX8_deckAt 27 = .ok (.iload_n 1, 1) := by decide +kernel
theorem dX8_deckAt_28 : decode cX8_deckAt 28 = .ok (.invokevirtual 82, 3) := by decide +kernel
theorem dX8_deckAt_31 : decode cX8_deckAt 31 = .ok (.aload_n 0, 1) := by decide +kernel
theorem dX8_deckAt_32 : decode cX8_deckAt 32 = .ok (.getfield 19, 3) := by decide +kernel
theorem dX8_deckAt_35 : decode cX8_deckAt 35 = .ok (.iconst 4, 1) := by decide +kernel
theorem dX8_deckAt_36 : decode cX8_deckAt 36 = .ok (.iaload, 1) := by decide +kernel
theorem dX8_deckAt_37 : decode cX8_deckAt 37 = .ok (.iadd, 1) := by decide +kernel
theorem dX8_deckAt_38 : decode cX8_deckAt 38 = .ok (.iload_n 3, 1) := by decide +kernel
theorem dX8_deckAt_39 : decode cX8_deckAt 39 = .ok (.isub, 1) := by decide +kernel
theorem dX8_deckAt_40 : decode cX8_deckAt 40 = .ok (.ireturn, 1) := by decide +kernel
set_option maxRecDepth 20000 in
theorem ggX8_measureAll_X8_deckAt : GoodIn wsX8_measureAll wsX8_deckAt := goodIn_r _ [7, 8, 1, 9, 10, 11, 6, 12, 22, 23, 24, 25, 26, 27, 28, 29, 30, 31, 32, 33, 34] (by decide +kernel) (by decide +kernel)
set_option maxRecDepth 20000 in
theorem gX8_measureAll_X8_deckAt : GoodIn wsX8_measureAll (wsV RX8 75 RX8 yX8_deckAt wsX8_deckAt) := goodIn_app (goodIn_of _ (by decide +kernel)) ggX8_measureAll_X8_deckAt
set_option maxRecDepth 20000 in
theorem ggX8_measureAll_X8_measureRamp : GoodIn wsX8_measureAll wsX8_measureRamp := goodIn_r _ [16, 1, 8, 17, 2, 18, 19, 20, 21, 22, 23, 24, 25, 26, 27, 28, 29, 30, 31, 32, 33, 34] (by decide +kernel) (by decide +kernel)
set_option maxRecDepth 20000 in
theorem gX8_measureAll_X8_measureRamp : GoodIn wsX8_measureAll (wsV RX8 85 RX8 yX8_measureRamp wsX8_measureRamp) := goodIn_app (goodIn_of _ (by decide +kernel)) ggX8_measureAll_X8_measureRamp
theorem dX8_measureAll_0 : decode cX8_measureAll 0 = .ok (.aload_n 0, 1) := by decide +kernel
theorem dX8_measureAll_1 : decode cX8_measureAll 1 = .ok (.aload_n 0, 1) := by decide +kernel
theorem dX8_measureAll_2 : decode cX8_measureAll 2 = .ok (.aload_n 0, 1) := by decide +kernel
theorem dX8_measureAll_3 : decode cX8_measureAll 3 = .ok (.getfield 11, 3) := by decide +kernel
theorem dX8_measureAll_6 : decode cX8_measureAll 6 = .ok (.iconst 0, 1) := by decide +kernel
theorem dX8_measureAll_7 : decode cX8_measureAll 7 = .ok (.iaload, 1) := by decide +kernel
theorem dX8_measureAll_8 : decode cX8_measureAll 8 = .ok (.invokevirtual 75, 3) := by decide +kernel
theorem dX8_measureAll_11 : decode cX8_measureAll 11 = .ok (.putfield 52, 3) := by decide +kernel
theorem dX8_measureAll_14 : decode cX8_measureAll 14 = .ok (.aload_n 0, 1) := by decide +kernel
theorem dX8_measureAll_15 : decode cX8_measureAll 15 = .ok (.invokevirtual 85, 3) := by decide +kernel
theorem dX8_measureAll_18 : decode cX8_measureAll 18 = .ok (.return_, 1) := by decide +kernel
set_option maxRecDepth 20000 in
theorem ggX8_measureRamp_X9_gap : GoodIn wsX8_measureRamp wsX9_gap := goodIn_r _ [8] (by decide +kernel) (by decide +kernel)
set_option maxRecDepth 20000 in
theorem gX8_measureRamp_X9_gap_n88 : GoodIn wsX8_measureRamp (wsX9_gap) := ggX8_measureRamp_X9_gap
theorem dX8_measureRamp_0 : decode cX8_measureRamp 0 = .ok (.aload_n 0, 1) := by decide +kernel
theorem dX8_measureRamp_1 : decode cX8_measureRamp 1 = .ok (.aload_n 0, 1) := by decide +kernel
theorem dX8_measureRamp_2 : decode cX8_measureRamp 2 = .ok (.getfield 11, 3) := by decide +kernel
theorem dX8_measureRamp_5 : decode cX8_measureRamp 5 = .ok (.iconst 4, 1) := by decide +kernel
theorem dX8_measureRamp_6 : decode cX8_measureRamp 6 = .ok (.iaload, 1) := by decide +kernel
theorem dX8_measureRamp_7 : decode cX8_measureRamp 7 = .ok (.aload_n 0, 1) := by decide +kernel
theorem dX8_measureRamp_8 : decode cX8_measureRamp 8 = .ok (.getfield 19, 3) := by decide +kernel
theorem dX8_measureRamp_11 : decode cX8_measureRamp 11 = .ok (.iconst 3, 1) := by decide +kernel
theorem dX8_measureRamp_12 : decode cX8_measureRamp 12 = .ok (.iaload, 1) := by decide +kernel
theorem dX8_measureRamp_13 : decode cX8_measureRamp 13 = .ok (.invokestatic 88, 3) := by decide +kernel
theorem dX8_measureRamp_16 : decode cX8_measureRamp 16 = .ok (.putfield 56, 3) := by decide +kernel
theorem dX8_measureRamp_19 : decode cX8_measureRamp 19 = .ok (.aload_n 0, 1) := by decide +kernel
theorem dX8_measureRamp_20 : decode cX8_measureRamp 20 = .ok (.aload_n 0, 1) := by decide +kernel
theorem dX8_measureRamp_21 : decode cX8_measureRamp 21 = .ok (.getfield 11, 3) := by decide +kernel
theorem dX8_measureRamp_24 : decode cX8_measureRamp 24 = .ok (.iconst 4, 1) := by decide +kernel
theorem dX8_measureRamp_25 : decode cX8_measureRamp 25 = .ok (.iaload, 1) := by decide +kernel
theorem dX8_measureRamp_26 : decode cX8_measureRamp 26 = .ok (.aload_n 0, 1) := by decide +kernel
theorem dX8_measureRamp_27 : decode cX8_measureRamp 27 = .ok (.getfield 52, 3) := by decide +kernel
theorem dX8_measureRamp_30 : decode cX8_measureRamp 30 = .ok (.invokestatic 88, 3) := by decide +kernel
theorem dX8_measureRamp_33 : decode cX8_measureRamp 33 = .ok (.putfield 59, 3) := by decide +kernel
theorem dX8_measureRamp_36 : decode cX8_measureRamp 36 = .ok (.return_, 1) := by decide +kernel
theorem dX8_kindFact_0 : decode cX8_kindFact 0 = .ok (.iload_n 1, 1) := by decide +kernel
theorem dX8_kindFact_1 : decode cX8_kindFact 1 = .ok (.iconst 3, 1) := by decide +kernel
theorem dX8_kindFact_2 : decode cX8_kindFact 2 = .ok (.imul, 1) := by decide +kernel
theorem dX8_kindFact_3 : decode cX8_kindFact 3 = .ok (.iload_n 2, 1) := by decide +kernel
theorem dX8_kindFact_4 : decode cX8_kindFact 4 = .ok (.iadd, 1) := by decide +kernel
theorem dX8_kindFact_5 : decode cX8_kindFact 5 = .ok (.istore_n 3, 1) := by decide +kernel
theorem dX8_kindFact_6 : decode cX8_kindFact 6 = .ok (.iload_n 3, 1) := by decide +kernel
theorem dX8_kindFact_7 : decode cX8_kindFact 7 = .ok (.ifCond .lt 21, 3) := by decide +kernel
theorem dX8_kindFact_10 : decode cX8_kindFact 10 = .ok (.iload_n 3, 1) := by decide +kernel
theorem dX8_kindFact_11 : decode cX8_kindFact 11 = .ok (.aload_n 0, 1) := by decide +kernel
theorem dX8_kindFact_12 : decode cX8_kindFact 12 = .ok (.getfield 24, 3) := by decide +kernel
theorem dX8_kindFact_15 : decode cX8_kindFact 15 = .ok (.arraylength, 1) := by decide +kernel
theorem dX8_kindFact_16 : decode cX8_kindFact 16 = .ok (.if_icmp .ge 12, 3) := by decide +kernel
theorem dX8_kindFact_19 : decode cX8_kindFact 19 = .ok (.aload_n 0, 1) := by decide +kernel
theorem dX8_kindFact_20 : decode cX8_kindFact 20 = .ok (.getfield 24, 3) := by decide +kernel
theorem dX8_kindFact_23 : decode cX8_kindFact 23 = .ok (.iload_n 3, 1) := by decide +kernel
theorem dX8_kindFact_24 : decode cX8_kindFact 24 = .ok (.iaload, 1) := by decide +kernel
theorem dX8_kindFact_25 : decode cX8_kindFact 25 = .ok (.goto 4, 3) := by decide +kernel
theorem dX8_kindFact_28 : decode cX8_kindFact 28 = .ok (.iconst (-1), 1) := by decide +kernel
theorem dX8_kindFact_29 : decode cX8_kindFact 29 = .ok (.ireturn, 1) := by decide +kernel
theorem dX8_carFact_0 : decode cX8_carFact 0 = .ok (.iload_n 1, 1) := by decide +kernel
theorem dX8_carFact_1 : decode cX8_carFact 1 = .ok (.bipush 7, 2) := by decide +kernel
theorem dX8_carFact_3 : decode cX8_carFact 3 = .ok (.imul, 1) := by decide +kernel
theorem dX8_carFact_4 : decode cX8_carFact 4 = .ok (.iload_n 2, 1) := by decide +kernel
theorem dX8_carFact_5 : decode cX8_carFact 5 = .ok (.iadd, 1) := by decide +kernel
theorem dX8_carFact_6 : decode cX8_carFact 6 = .ok (.istore_n 3, 1) := by decide +kernel
theorem dX8_carFact_7 : decode cX8_carFact 7 = .ok (.iload_n 3, 1) := by decide +kernel
theorem dX8_carFact_8 : decode cX8_carFact 8 = .ok (.ifCond .lt 21, 3) := by decide +kernel
theorem dX8_carFact_11 : decode cX8_carFact 11 = .ok (.iload_n 3, 1) := by decide +kernel
theorem dX8_carFact_12 : decode cX8_carFact 12 = .ok (.aload_n 0, 1) := by decide +kernel
theorem dX8_carFact_13 : decode cX8_carFact 13 = .ok (.getfield 29, 3) := by decide +kernel
theorem dX8_carFact_16 : decode cX8_carFact 16 = .ok (.arraylength, 1) := by decide +kernel
theorem dX8_carFact_17 : decode cX8_carFact 17 = .ok (.if_icmp .ge 12, 3) := by decide +kernel
theorem dX8_carFact_20 : decode cX8_carFact 20 = .ok (.aload_n 0, 1) := by decide +kernel
theorem dX8_carFact_21 : decode cX8_carFact 21 = .ok (.getfield 29, 3) := by decide +kernel
theorem dX8_carFact_24 : decode cX8_carFact 24 = .ok (.iload_n 3, 1) := by decide +kernel
theorem dX8_carFact_25 : decode cX8_carFact 25 = .ok (.iaload, 1) := by decide +kernel
theorem dX8_carFact_26 : decode cX8_carFact 26 = .ok (.goto 4, 3) := by decide +kernel
theorem dX8_carFact_29 : decode cX8_carFact 29 = .ok (.iconst (-1), 1) := by decide +kernel
theorem dX8_carFact_30 : decode cX8_carFact 30 = .ok (.ireturn, 1) := by decide +kernel
set_option maxRecDepth 20000 in
theorem ggX8_carKindFact_X8_carFact : GoodIn wsX8_carKindFact wsX8_carFact := goodIn_r _ [5, 6, 12, 13, 14, 15, 16, 17, 18, 19, 20, 21, 22, 23, 24] (by decide +kernel) (by decide +kernel)
set_option maxRecDepth 20000 in
theorem gX8_carKindFact_X8_carFact : GoodIn wsX8_carKindFact (wsV RX8 92 RX8 yX8_carFact wsX8_carFact) := goodIn_app (goodIn_of _ (by decide +kernel)) ggX8_carKindFact_X8_carFact
set_option maxRecDepth 20000 in
theorem ggX8_carKindFact_X8_kindFact : GoodIn wsX8_carKindFact wsX8_kindFact := goodIn_r _ [10, 11, 12, 13, 14, 15, 16, 17, 18, 19, 20, 21, 22, 23, 24] (by decide +kernel) (by decide +kernel)
set_option maxRecDepth 20000 in
theorem gX8_carKindFact_X8_kindFact : GoodIn wsX8_carKindFact (wsV RX8 95 RX8 yX8_kindFact wsX8_kindFact) := goodIn_app (goodIn_of _ (by decide +kernel)) ggX8_carKindFact_X8_kindFact
theorem dX8_carKindFact_0 : decode cX8_carKindFact 0 = .ok (.aload_n 0, 1) := by decide +kernel
theorem dX8_carKindFact_1 : decode cX8_carKindFact 1 = .ok (.aload_n 0, 1) := by decide +kernel
theorem dX8_carKindFact_2 : decode cX8_carKindFact 2 = .ok (.iload_n 1, 1) := by decide +kernel
theorem dX8_carKindFact_3 : decode cX8_carKindFact 3 = .ok (.iconst 0, 1) := by decide +kernel
theorem dX8_carKindFact_4 : decode cX8_carKindFact 4 = .ok (.invokevirtual 92, 3) := by decide +kernel
theorem dX8_carKindFact_7 : decode cX8_carKindFact 7 = .ok (.iload_n 2, 1) := by decide +kernel
theorem dX8_carKindFact_8 : decode cX8_carKindFact 8 = .ok (.invokevirtual 95, 3) := by decide +kernel
theorem dX8_carKindFact_11 : decode cX8_carKindFact 11 = .ok (.ireturn, 1) := by decide +kernel
theorem dX8_setCarFact_0 : decode cX8_setCarFact 0 = .ok (.iload_n 1, 1) := by decide +kernel
theorem dX8_setCarFact_1 : decode cX8_setCarFact 1 = .ok (.bipush 7, 2) := by decide +kernel
theorem dX8_setCarFact_3 : decode cX8_setCarFact 3 = .ok (.imul, 1) := by decide +kernel
theorem dX8_setCarFact_4 : decode cX8_setCarFact 4 = .ok (.iload_n 2, 1) := by decide +kernel
theorem dX8_setCarFact_5 : decode cX8_setCarFact 5 = .ok (.iadd, 1) := by decide +kernel
theorem dX8_setCarFact_6 : decode cX8_setCarFact 6 = .ok (.istore 4, 2) := by decide +kernel
theorem dX8_setCarFact_8 : decode cX8_setCarFact 8 = .ok (.iload 4, 2) := by decide +kernel
theorem dX8_setCarFact_10 : decode cX8_setCarFact 10 = .ok (.ifCond .lt 21, 3) := by decide +kernel
theorem dX8_setCarFact_13 : decode cX8_setCarFact 13 = .ok (.iload 4, 2) := by decide +kernel
theorem dX8_setCarFact_15 : decode cX8_setCarFact 15 = .ok (.aload_n 0, 1) := by decide +kernel
theorem dX8_setCarFact_16 : decode cX8_setCarFact 16 = .ok (.getfield 29, 3) := by decide +kernel
theorem dX8_setCarFact_19 : decode cX8_setCarFact 19 = .ok (.arraylength, 1) := by decide +kernel
theorem dX8_setCarFact_20 : decode cX8_setCarFact 20 = .ok (.if_icmp .ge 11, 3) := by decide +kernel
theorem dX8_setCarFact_23 : decode cX8_setCarFact 23 = .ok (.aload_n 0, 1) := by decide +kernel
theorem dX8_setCarFact_24 : decode cX8_setCarFact 24 = .ok (.getfield 29, 3) := by decide +kernel
theorem dX8_setCarFact_27 : decode cX8_setCarFact 27 = .ok (.iload 4, 2) := by decide +kernel
theorem dX8_setCarFact_29 : decode cX8_setCarFact 29 = .ok (.iload_n 3, 1) := by decide +kernel
theorem dX8_setCarFact_30 : decode cX8_setCarFact 30 = .ok (.iastore, 1) := by decide +kernel
theorem dX8_setCarFact_31 : decode cX8_setCarFact 31 = .ok (.return_, 1) := by decide +kernel
set_option maxRecDepth 20000 in
theorem ggX8_carOnDeck_X9_at : GoodIn wsX8_carOnDeck wsX9_at := goodIn_r _ [5] (by decide +kernel) (by decide +kernel)
set_option maxRecDepth 20000 in
theorem gX8_carOnDeck_X9_at_n98 : GoodIn wsX8_carOnDeck (wsX9_at) := ggX8_carOnDeck_X9_at
theorem dX8_carOnDeck_0 : decode cX8_carOnDeck 0 = .ok (.iload_n 1, 1) := by decide +kernel
theorem dX8_carOnDeck_1 : decode cX8_carOnDeck 1 = .ok (.ifCond .lt 22, 3) := by decide +kernel
theorem dX8_carOnDeck_4 : decode cX8_carOnDeck 4 = .ok (.iload_n 1, 1) := by decide +kernel
theorem dX8_carOnDeck_5 : decode cX8_carOnDeck 5 = .ok (.iconst 3, 1) := by decide +kernel
theorem dX8_carOnDeck_6 : decode cX8_carOnDeck 6 = .ok (.if_icmp .ge 17, 3) := by decide +kernel
theorem dX8_carOnDeck_9 : decode cX8_carOnDeck 9 = .ok (.iload_n 2, 1) := by decide +kernel
theorem dX8_carOnDeck_10 : decode cX8_carOnDeck 10 = .ok (.ifCond .lt 13, 3) := by decide +kernel
theorem dX8_carOnDeck_13 : decode cX8_carOnDeck 13 = .ok (.iload_n 2, 1) := by decide +kernel
theorem dX8_carOnDeck_14 : decode cX8_carOnDeck 14 = .ok (.aload_n 0, 1) := by decide +kernel
theorem dX8_carOnDeck_15 : decode cX8_carOnDeck 15 = .ok (.getfield 38, 3) := by decide +kernel
theorem dX8_carOnDeck_18 : decode cX8_carOnDeck 18 = .ok (.iload_n 1, 1) := by decide +kernel
theorem dX8_carOnDeck_19 : decode cX8_carOnDeck 19 = .ok (.iaload, 1) := by decide +kernel
theorem dX8_carOnDeck_20 : decode cX8_carOnDeck 20 = .ok (.if_icmp .lt 5, 3) := by decide +kernel
theorem dX8_carOnDeck_23 : decode cX8_carOnDeck 23 = .ok (.iconst (-1), 1) := by decide +kernel
theorem dX8_carOnDeck_24 : decode cX8_carOnDeck 24 = .ok (.ireturn, 1) := by decide +kernel
theorem dX8_carOnDeck_25 : decode cX8_carOnDeck 25 = .ok (.aload_n 0, 1) := by decide +kernel
theorem dX8_carOnDeck_26 : decode cX8_carOnDeck 26 = .ok (.getfield 35, 3) := by decide +kernel
theorem dX8_carOnDeck_29 : decode cX8_carOnDeck 29 = .ok (.iload_n 1, 1) := by decide +kernel
theorem dX8_carOnDeck_30 : decode cX8_carOnDeck 30 = .ok (.bipush 30, 2) := by decide +kernel
theorem dX8_carOnDeck_32 : decode cX8_carOnDeck 32 = .ok (.imul, 1) := by decide +kernel
theorem dX8_carOnDeck_33 : decode cX8_carOnDeck 33 = .ok (.iload_n 2, 1) := by decide +kernel
theorem dX8_carOnDeck_34 : decode cX8_carOnDeck 34 = .ok (.iadd, 1) := by decide +kernel
theorem dX8_carOnDeck_35 : decode cX8_carOnDeck 35 = .ok (.invokestatic 98, 3) := by decide +kernel
theorem dX8_carOnDeck_38 : decode cX8_carOnDeck 38 = .ok (.ireturn, 1) := by decide +kernel
set_option maxRecDepth 20000 in
theorem ggX8_lastOnDeck_X8_carOnDeck : GoodIn wsX8_lastOnDeck wsX8_carOnDeck := goodIn_r _ [6, 1, 7, 8, 9, 10, 11, 12, 13, 14, 15, 16, 17, 18, 19, 20, 21, 22, 23] (by decide +kernel) (by decide +kernel)
set_option maxRecDepth 20000 in
theorem gX8_lastOnDeck_X8_carOnDeck : GoodIn wsX8_lastOnDeck (wsV RX8 102 RX8 yX8_carOnDeck wsX8_carOnDeck) := goodIn_app (goodIn_of _ (by decide +kernel)) ggX8_lastOnDeck_X8_carOnDeck
theorem dX8_lastOnDeck_0 : decode cX8_lastOnDeck 0 = .ok (.iload_n 1, 1) := by decide +kernel
theorem dX8_lastOnDeck_1 : decode cX8_lastOnDeck 1 = .ok (.ifCond .lt 8, 3) := by decide +kernel
theorem dX8_lastOnDeck_4 : decode cX8_lastOnDeck 4 = .ok (.iload_n 1, 1) := by decide +kernel
theorem dX8_lastOnDeck_5 : decode cX8_lastOnDeck 5 = .ok (.iconst 3, 1) := by decide +kernel
theorem dX8_lastOnDeck_6 : decode cX8_lastOnDeck 6 = .ok (.if_icmp .lt 7, 3) := by decide +kernel
theorem dX8_lastOnDeck_9 : decode cX8_lastOnDeck 9 = .ok (.iconst (-1), 1) := by decide +kernel
theorem dX8_lastOnDeck_10 : decode cX8_lastOnDeck 10 = .ok (.goto 16, 3) := by decide +kernel
theorem dX8_lastOnDeck_13 : decode cX8_lastOnDeck 13 = .ok (.aload_n 0, 1) := by decide +kernel
theorem dX8_lastOnDeck_14 : decode cX8_lastOnDeck 14 = .ok (.iload_n 1, 1) := by decide +kernel
theorem dX8_lastOnDeck_15 : decode cX8_lastOnDeck 15 = .ok (.aload_n 0, 1) := by decide +kernel
theorem dX8_lastOnDeck_16 : decode cX8_lastOnDeck 16 = .ok (.getfield 38, 3) := by decide +kernel
theorem dX8_lastOnDeck_19 : decode cX8_lastOnDeck 19 = .ok (.iload_n 1, 1) := by decide +kernel
theorem dX8_lastOnDeck_20 : decode cX8_lastOnDeck 20 = .ok (.iaload, 1) := by decide +kernel
theorem dX8_lastOnDeck_21 : decode cX8_lastOnDeck 21 = .ok (.iconst 1, 1) := by decide +kernel
theorem dX8_lastOnDeck_22 : decode cX8_lastOnDeck 22 = .ok (.isub, 1) := by decide +kernel
theorem dX8_lastOnDeck_23 : decode cX8_lastOnDeck 23 = .ok (.invokevirtual 102, 3) := by decide +kernel
theorem dX8_lastOnDeck_26 : decode cX8_lastOnDeck 26 = .ok (.ireturn, 1) := by decide +kernel
theorem dX8_placeOf_0 : decode cX8_placeOf 0 = .ok (.iconst 0, 1) := by decide +kernel
theorem dX8_placeOf_1 : decode cX8_placeOf 1 = .ok (.istore_n 2, 1) := by decide +kernel
theorem dX8_placeOf_2 : decode cX8_placeOf 2 = .ok (.iload_n 2, 1) := by decide +kernel
theorem dX8_placeOf_3 : decode cX8_placeOf 3 = .ok (.aload_n 0, 1) := by decide +kernel
theorem dX8_placeOf_4 : decode cX8_placeOf 4 = .ok (.getfield 11, 3) := by decide +kernel
theorem dX8_placeOf_7 : decode cX8_placeOf 7 = .ok (.iconst 1, 1) := by decide +kernel
theorem dX8_placeOf_8 : decode cX8_placeOf 8 = .ok (.iaload, 1) := by decide +kernel
theorem dX8_placeOf_9 : decode cX8_placeOf 9 = .ok (.if_icmp .ge 27, 3) := by decide +kernel
theorem dX8_placeOf_12 : decode cX8_placeOf 12 = .ok (.iload_n 2, 1) := by decide +kernel
theorem dX8_placeOf_13 : decode cX8_placeOf 13 = .ok (.bipush 20, 2) := by decide +kernel
theorem dX8_placeOf_15 : decode cX8_placeOf 15 = .ok (.if_icmp .ge 21, 3) := by decide +kernel
theorem dX8_placeOf_18 : decode cX8_placeOf 18 = .ok (.aload_n 0, 1) := by decide +kernel
theorem dX8_placeOf_19 : decode cX8_placeOf 19 = .ok (.getfield 32, 3) := by decide +kernel
theorem dX8_placeOf_22 : decode cX8_placeOf 22 = .ok (.iload_n 2, 1) := by decide +kernel
theorem dX8_placeOf_23 : decode cX8_placeOf 23 = .ok (.iaload, 1) := by decide +kernel
theorem dX8_placeOf_24 : decode cX8_placeOf 24 = .ok (.iload_n 1, 1) := by decide +kernel
theorem dX8_placeOf_25 : decode cX8_placeOf 25 = .ok (.if_icmp .ne 5, 3) := by decide +kernel
theorem dX8_placeOf_28 : decode cX8_placeOf 28 = .ok (.iload_n 2, 1) := by decide +kernel
theorem dX8_placeOf_29 : decode cX8_placeOf 29 = .ok (.ireturn, 1) := by decide +kernel
theorem dX8_placeOf_30 : decode cX8_placeOf 30 = .ok (.iinc 2 1, 3) := by decide +kernel
theorem dX8_placeOf_33 : decode cX8_placeOf 33 = .ok (.goto (-31), 3) := by decide +kernel
theorem dX8_placeOf_36 : decode cX8_placeOf 36 = .ok (.iconst (-1), 1) := by decide +kernel
theorem dX8_placeOf_37 : decode cX8_placeOf 37 = .ok (.ireturn, 1) := by decide +kernel
theorem dX8_suitingLane_0 : decode cX8_suitingLane 0 = .ok (.iconst (-1), 1) := by decide +kernel
theorem dX8_suitingLane_1 : decode cX8_suitingLane 1 = .ok (.istore_n 3, 1) := by decide +kernel
theorem dX8_suitingLane_2 : decode cX8_suitingLane 2 = .ok (.iconst 0, 1) := by decide +kernel
theorem dX8_suitingLane_3 : decode cX8_suitingLane 3 = .ok (.istore 4, 2) := by decide +kernel
theorem dX8_suitingLane_5 : decode cX8_suitingLane 5 = .ok (.iload 4, 2) := by decide +kernel
theorem dX8_suitingLane_7 : decode cX8_suitingLane 7 = .ok (.iconst 3, 1) := by decide +kernel
theorem dX8_suitingLane_8 : decode cX8_suitingLane 8 = .ok (.if_icmp .ge 137, 3) := by decide +kernel
theorem dX8_suitingLane_11 : decode cX8_suitingLane 11 = .ok (.aload_n 0, 1) := by decide +kernel
theorem dX8_suitingLane_12 : decode cX8_suitingLane 12 = .ok (.getfield 41, 3) := by decide +kernel
theorem dX8_suitingLane_15 : decode cX8_suitingLane 15 = .ok (.iconst 0, 1) := by decide +kernel
theorem dX8_suitingLane_16 : decode cX8_suitingLane 16 = .ok (.iaload, 1) := by decide +kernel
theorem dX8_suitingLane_17 : decode cX8_suitingLane 17 = .ok (.iload 4, 2) := by decide +kernel
theorem dX8_suitingLane_19 : decode cX8_suitingLane 19 = .ok (.ifCond .ne 7, 3) := by decide +kernel
theorem dX8_suitingLane_22 : decode cX8_suitingLane 22 = .ok (.iload_n 2, 1) := by decide +kernel
theorem dX8_suitingLane_23 : decode cX8_suitingLane 23 = .ok (.goto 4, 3) := by decide +kernel
theorem dX8_suitingLane_26 : decode cX8_suitingLane 26 = .ok (.iconst 0, 1) := by decide +kernel
theorem dX8_suitingLane_27 : decode cX8_suitingLane 27 = .ok (.iadd, 1) := by decide +kernel
theorem dX8_suitingLane_28 : decode cX8_suitingLane 28 = .ok (.istore 5, 2) := by decide +kernel
theorem dX8_suitingLane_30 : decode cX8_suitingLane 30 = .ok (.aload_n 0, 1) := by decide +kernel
theorem dX8_suitingLane_31 : decode cX8_suitingLane 31 = .ok (.getfield 41, 3) := by decide +kernel
theorem dX8_suitingLane_34 : decode cX8_suitingLane 34 = .ok (.iconst 2, 1) := by decide +kernel
theorem dX8_suitingLane_35 : decode cX8_suitingLane 35 = .ok (.iaload, 1) := by decide +kernel
theorem dX8_suitingLane_36 : decode cX8_suitingLane 36 = .ok (.iload 4, 2) := by decide +kernel
theorem dX8_suitingLane_38 : decode cX8_suitingLane 38 = .ok (.iconst 2, 1) := by decide +kernel
theorem dX8_suitingLane_39 : decode cX8_suitingLane 39 = .ok (.if_icmp .ne 7, 3) := by decide +kernel
theorem dX8_suitingLane_42 : decode cX8_suitingLane 42 = .ok (.iload_n 2, 1) := by decide +kernel
theorem dX8_suitingLane_43 : decode cX8_suitingLane 43 = .ok (.goto 4, 3) := by decide +kernel
theorem dX8_suitingLane_46 : decode cX8_suitingLane 46 = .ok (.iconst 0, 1) := by decide +kernel
theorem dX8_suitingLane_47 : decode cX8_suitingLane 47 = .ok (.iadd, 1) := by decide +kernel
theorem dX8_suitingLane_48 : decode cX8_suitingLane 48 = .ok (.istore 6, 2) := by decide +kernel
theorem dX8_suitingLane_50 : decode cX8_suitingLane 50 = .ok (.iload 5, 2) := by decide +kernel
theorem dX8_suitingLane_52 : decode cX8_suitingLane 52 = .ok (.iload 6, 2) := by decide +kernel
theorem dX8_suitingLane_54 : decode cX8_suitingLane 54 = .ok (.if_icmp .le 11, 3) := by decide +kernel
theorem dX8_suitingLane_57 : decode cX8_suitingLane 57 = .ok (.iload 5, 2) := by decide +kernel
theorem dX8_suitingLane_59 : decode cX8_suitingLane 59 = .ok (.iload 6, 2) := by decide +kernel
theorem dX8_suitingLane_61 : decode cX8_suitingLane 61 = .ok (.isub, 1) := by decide +kernel
theorem dX8_suitingLane_62 : decode cX8_suitingLane 62 = .ok (.goto 8, 3) := by decide +kernel
theorem dX8_suitingLane_65 : decode cX8_suitingLane 65 = .ok (.iload 6, 2) := by decide +kernel
theorem dX8_suitingLane_67 : decode cX8_suitingLane 67 = .ok (.iload 5, 2) := by decide +kernel
theorem dX8_suitingLane_69 : decode cX8_suitingLane 69 = .ok (.isub, 1) := by decide +kernel
theorem dX8_suitingLane_70 : decode cX8_suitingLane 70 = .ok (.istore 7, 2) := by decide +kernel
theorem dX8_suitingLane_72 : decode cX8_suitingLane 72 = .ok (.aload_n 0, 1) := by decide +kernel
theorem dX8_suitingLane_73 : decode cX8_suitingLane 73 = .ok (.getfield 19, 3) := by decide +kernel
theorem dX8_suitingLane_76 : decode cX8_suitingLane 76 = .ok (.bipush 6, 2) := by decide +kernel
theorem dX8_suitingLane_78 : decode cX8_suitingLane 78 = .ok (.iaload, 1) := by decide +kernel
theorem dX8_suitingLane_79 : decode cX8_suitingLane 79 = .ok (.aload_n 0, 1) := by decide +kernel
theorem dX8_suitingLane_80 : decode cX8_suitingLane 80 = .ok (.getfield 44, 3) := by decide +kernel
theorem dX8_suitingLane_83 : decode cX8_suitingLane 83 = .ok (.iload 4, 2) := by decide +kernel
theorem dX8_suitingLane_85 : decode cX8_suitingLane 85 = .ok (.iaload, 1) := by decide +kernel
theorem dX8_suitingLane_86 : decode cX8_suitingLane 86 = .ok (.isub, 1) := by decide +kernel
theorem dX8_suitingLane_87 : decode cX8_suitingLane 87 = .ok (.iload_n 1, 1) := by decide +kernel
theorem dX8_suitingLane_88 : decode cX8_suitingLane 88 = .ok (.if_icmp .lt 19, 3) := by decide +kernel
theorem dX8_suitingLane_91 : decode cX8_suitingLane 91 = .ok (.iload 7, 2) := by decide +kernel
theorem dX8_suitingLane_93 : decode cX8_suitingLane 93 = .ok (.aload_n 0, 1) := by decide +kernel
theorem dX8_suitingLane_94 : decode cX8_suitingLane 94 = .ok (.getfield 19, 3) := by decide +kernel
theorem dX8_suitingLane_97 : decode cX8_suitingLane 97 = .ok (.bipush 8, 2) := by decide +kernel
theorem dX8_suitingLane_99 : decode cX8_suitingLane 99 = .ok (.iaload, 1) := by decide +kernel
theorem dX8_suitingLane_100 : decode cX8_suitingLane 100 = .ok (.if_icmp .gt 7, 3) := by decide +kernel
theorem dX8_suitingLane_103 : decode cX8_suitingLane 103 = .ok (.iconst 1, 1) := by decide +kernel
theorem dX8_suitingLane_104 : decode cX8_suitingLane 104 = .ok (.goto 4, 3) := by decide +kernel
theorem dX8_suitingLane_107 : decode cX8_suitingLane 107 = .ok (.iconst 0, 1) := by decide +kernel
theorem dX8_suitingLane_108 : decode cX8_suitingLane 108 = .ok (.istore 8, 2) := by decide +kernel
theorem dX8_suitingLane_110 : decode cX8_suitingLane 110 = .ok (.iload 8, 2) := by decide +kernel
theorem dX8_suitingLane_112 : decode cX8_suitingLane 112 = .ok (.ifCond .eq 27, 3) := by decide +kernel
theorem dX8_suitingLane_115 : decode cX8_suitingLane 115 = .ok (.iload_n 3, 1) := by decide +kernel
theorem dX8_suitingLane_116 : decode cX8_suitingLane 116 = .ok (.iconst (-1), 1) := by decide +kernel
theorem dX8_suitingLane_117 : decode cX8_suitingLane 117 = .ok (.if_icmp .eq 19, 3) := by decide +kernel
theorem dX8_suitingLane_120 : decode cX8_suitingLane 120 = .ok (.aload_n 0, 1) := by decide +kernel
theorem dX8_suitingLane_121 : decode cX8_suitingLane 121 = .ok (.getfield 41, 3) := by decide +kernel
theorem dX8_suitingLane_124 : decode cX8_suitingLane 124 = .ok (.iload 4, 2) := by decide +kernel
theorem dX8_suitingLane_126 : decode cX8_suitingLane 126 = .ok (.iaload, 1) := by decide +kernel
theorem dX8_suitingLane_127 : decode cX8_suitingLane 127 = .ok (.aload_n 0, 1) := by decide +kernel
theorem dX8_suitingLane_128 : decode cX8_suitingLane 128 = .ok (.getfield 41, 3) := by decide +kernel
theorem dX8_suitingLane_131 : decode cX8_suitingLane 131 = .ok (.iload_n 3, 1) := by decide +kernel
theorem dX8_suitingLane_132 : decode cX8_suitingLane 132 = .ok (.iaload, 1) := by decide +kernel
theorem dX8_suitingLane_133 : decode cX8_suitingLane 133 = .ok (.if_icmp .ge 6, 3) := by decide +kernel
theorem dX8_suitingLane_136 : decode cX8_suitingLane 136 = .ok (.iload 4, 2) := by decide +kernel
theorem dX8_suitingLane_138 : decode cX8_suitingLane 138 = .ok (.istore_n 3, 1) := by decide +kernel
theorem dX8_suitingLane_139 : decode cX8_suitingLane 139 = .ok (.iinc 4 1, 3) := by decide +kernel
theorem dX8_suitingLane_142 : decode cX8_suitingLane 142 = .ok (.goto (-137), 3) := by decide +kernel
theorem dX8_suitingLane_145 : decode cX8_suitingLane 145 = .ok (.iload_n 3, 1) := by decide +kernel
theorem dX8_suitingLane_146 : decode cX8_suitingLane 146 = .ok (.ireturn, 1) := by decide +kernel
theorem dX8_isFreeSomewhere_0 : decode cX8_isFreeSomewhere 0 = .ok (.iconst 0, 1) := by decide +kernel
theorem dX8_isFreeSomewhere_1 : decode cX8_isFreeSomewhere 1 = .ok (.istore_n 2, 1) := by decide +kernel
theorem dX8_isFreeSomewhere_2 : decode cX8_isFreeSomewhere 2 = .ok (.iload_n 2, 1) := by decide +kernel
theorem dX8_isFreeSomewhere_3 : decode cX8_isFreeSomewhere 3 = .ok (.iconst 3, 1) := by decide +kernel
theorem dX8_isFreeSomewhere_4 : decode cX8_isFreeSomewhere 4 = .ok (.if_icmp .ge 29, 3) := by decide +kernel
theorem dX8_isFreeSomewhere_7 : decode cX8_isFreeSomewhere 7 = .ok (.aload_n 0, 1) := by decide +kernel
theorem dX8_isFreeSomewhere_8 : decode cX8_isFreeSomewhere 8 = .ok (.getfield 19, 3) := by decide +kernel
theorem dX8_isFreeSomewhere_11 : decode cX8_isFreeSomewhere 11 = .ok (.bipush 6, 2) := by decide +kernel
theorem dX8_isFreeSomewhere_13 : decode cX8_isFreeSomewhere 13 = .ok (.iaload, 1) := by decide +kernel
theorem dX8_isFreeSomewhere_14 : decode cX8_isFreeSomewhere 14 = .ok (.aload_n 0, 1) := by decide +kernel
theorem dX8_isFreeSomewhere_15 : decode cX8_isFreeSomewhere 15 = .ok (.getfield 44, 3) := by decide +kernel
theorem dX8_isFreeSomewhere_18 : decode cX8_isFreeSomewhere 18 = .ok (.iload_n 2, 1) := by decide +kernel
theorem dX8_isFreeSomewhere_19 : decode cX8_isFreeSomewhere 19 = .ok (.iaload, 1) := by decide +kernel
theorem dX8_isFreeSomewhere_20 : decode cX8_isFreeSomewhere 20 = .ok (.isub, 1) := by decide +kernel
theorem dX8_isFreeSomewhere_21 : decode cX8_isFreeSomewhere 21 = .ok (.iload_n 1, 1) := by decide +kernel
theorem dX8_isFreeSomewhere_22 : decode cX8_isFreeSomewhere 22 = .ok (.if_icmp .lt 5, 3) := by decide +kernel
theorem dX8_isFreeSomewhere_25 : decode cX8_isFreeSomewhere 25 = .ok (.iconst 1, 1) := by decide +kernel
theorem dX8_isFreeSomewhere_26 : decode cX8_isFreeSomewhere 26 = .ok (.ireturn, 1) := by decide +kernel
theorem dX8_isFreeSomewhere_27 : decode cX8_isFreeSomewhere 27 = .ok (.iinc 2 1, 3) := by decide +kernel
theorem dX8_isFreeSomewhere_30 : decode cX8_isFreeSomewhere 30 = .ok (.goto (-28), 3) := by decide +kernel
theorem dX8_isFreeSomewhere_33 : decode cX8_isFreeSomewhere 33 = .ok (.iconst 0, 1) := by decide +kernel
theorem dX8_isFreeSomewhere_34 : decode cX8_isFreeSomewhere 34 = .ok (.ireturn, 1) := by decide +kernel
set_option maxRecDepth 20000 in
theorem ggX8_reasonFor_X8_carFact : GoodIn wsX8_reasonFor wsX8_carFact := goodIn_r _ [9, 10, 26, 27, 28, 29, 30, 31, 32, 33, 34, 35, 36, 37, 38] (by decide +kernel) (by decide +kernel)
set_option maxRecDepth 20000 in
theorem gX8_reasonFor_X8_carFact : GoodIn wsX8_reasonFor (wsV RX8 92 RX8 yX8_carFact wsX8_carFact) := goodIn_app (goodIn_of _ (by decide +kernel)) ggX8_reasonFor_X8_carFact
set_option maxRecDepth 20000 in
theorem ggX8_reasonFor_X8_kindFact : GoodIn wsX8_reasonFor wsX8_kindFact := goodIn_r _ [14, 15, 26, 27, 28, 29, 30, 31, 32, 33, 34, 35, 36, 37, 38] (by decide +kernel) (by decide +kernel)
set_option maxRecDepth 20000 in
theorem gX8_reasonFor_X8_kindFact : GoodIn wsX8_reasonFor (wsV RX8 95 RX8 yX8_kindFact wsX8_kindFact) := goodIn_app (goodIn_of _ (by decide +kernel)) ggX8_reasonFor_X8_kindFact
set_option maxRecDepth 20000 in
theorem ggX8_reasonFor_X8_isFreeSomewhere : GoodIn wsX8_reasonFor wsX8_isFreeSomewhere := goodIn_r _ [19, 2, 20, 26, 27, 28, 29, 30, 31, 32, 33, 34, 35, 36, 37, 38] (by decide +kernel) (by decide +kernel)
set_option maxRecDepth 20000 in
theorem gX8_reasonFor_X8_isFreeSomewhere : GoodIn wsX8_reasonFor (wsV RX8 105 RX8 yX8_isFreeSomewhere wsX8_isFreeSomewhere) := goodIn_app (goodIn_of _ (by decide +kernel)) ggX8_reasonFor_X8_isFreeSomewhere
set_option maxRecDepth 20000 in
theorem ggX8_reasonFor_X8_suitingLane : GoodIn wsX8_reasonFor wsX8_suitingLane := goodIn_r _ [24, 25, 2, 20, 26, 27, 28, 29, 30, 31, 32, 33, 34, 35, 36, 37, 38] (by decide +kernel) (by decide +kernel)
set_option maxRecDepth 20000 in
theorem gX8_reasonFor_X8_suitingLane : GoodIn wsX8_reasonFor (wsV RX8 109 RX8 yX8_suitingLane wsX8_suitingLane) := goodIn_app (goodIn_of _ (by decide +kernel)) ggX8_reasonFor_X8_suitingLane
theorem dX8_reasonFor_0 : decode cX8_reasonFor 0 = .ok (.aload_n 0, 1) := by decide +kernel
theorem dX8_reasonFor_1 : decode cX8_reasonFor 1 = .ok (.getfield 11, 3) := by decide +kernel
theorem dX8_reasonFor_4 : decode cX8_reasonFor 4 = .ok (.bipush 16, 2) := by decide +kernel
theorem dX8_reasonFor_6 : decode cX8_reasonFor 6 = .ok (.iaload, 1) := by decide +kernel
theorem dX8_reasonFor_7 : decode cX8_reasonFor 7 = .ok (.ifCond .ne 5, 3) := by decide +kernel
theorem dX8_reasonFor_10 : decode cX8_reasonFor 10 = .ok (.iconst 1, 1) := by decide +kernel
theorem dX8_reasonFor_11 : decode cX8_reasonFor 11 = .ok (.ireturn, 1) := by decide +kernel
theorem dX8_reasonFor_12 : decode cX8_reasonFor 12 = .ok (.aload_n 0, 1) := by decide +kernel
theorem dX8_reasonFor_13 : decode cX8_reasonFor 13 = .ok (.getfield 11, 3) := by decide +kernel
theorem dX8_reasonFor_16 : decode cX8_reasonFor 16 = .ok (.bipush 8, 2) := by decide +kernel
theorem dX8_reasonFor_18 : decode cX8_reasonFor 18 = .ok (.iaload, 1) := by decide +kernel
theorem dX8_reasonFor_19 : decode cX8_reasonFor 19 = .ok (.iconst (-1), 1) := by decide +kernel
theorem dX8_reasonFor_20 : decode cX8_reasonFor 20 = .ok (.if_icmp .eq 5, 3) := by decide +kernel
theorem dX8_reasonFor_23 : decode cX8_reasonFor 23 = .ok (.iconst 2, 1) := by decide +kernel
theorem dX8_reasonFor_24 : decode cX8_reasonFor 24 = .ok (.ireturn, 1) := by decide +kernel
theorem dX8_reasonFor_25 : decode cX8_reasonFor 25 = .ok (.aload_n 0, 1) := by decide +kernel
theorem dX8_reasonFor_26 : decode cX8_reasonFor 26 = .ok (.iload_n 1, 1) := by decide +kernel
theorem dX8_reasonFor_27 : decode cX8_reasonFor 27 = .ok (.iconst 0, 1) := by decide +kernel
theorem dX8_reasonFor_28 : decode cX8_reasonFor 28 = .ok (.invokevirtual 92, 3) := by decide +kernel
theorem dX8_reasonFor_31 : decode cX8_reasonFor 31 = .ok (.istore_n 2, 1) := by decide +kernel
theorem dX8_reasonFor_32 : decode cX8_reasonFor 32 = .ok (.aload_n 0, 1) := by decide +kernel
theorem dX8_reasonFor_33 : decode cX8_reasonFor 33 = .ok (.iload_n 1, 1) := by decide +kernel
theorem dX8_reasonFor_34 : decode cX8_reasonFor 34 = .ok (.iconst 1, 1) := by decide +kernel
theorem dX8_reasonFor_35 : decode cX8_reasonFor 35 = .ok (.invokevirtual 92, 3) := by decide +kernel
theorem dX8_reasonFor_38 : decode cX8_reasonFor 38 = .ok (.istore_n 3, 1) := by decide +kernel
theorem dX8_reasonFor_39 : decode cX8_reasonFor 39 = .ok (.aload_n 0, 1) := by decide +kernel
theorem dX8_reasonFor_40 : decode cX8_reasonFor 40 = .ok (.iload_n 2, 1) := by decide +kernel
theorem dX8_reasonFor_41 : decode cX8_reasonFor 41 = .ok (.iconst 2, 1) := by decide +kernel
theorem dX8_reasonFor_42 : decode cX8_reasonFor 42 = .ok (.invokevirtual 95, 3) := by decide +kernel
theorem dX8_reasonFor_45 : decode cX8_reasonFor 45 = .ok (.istore 4, 2) := by decide +kernel
theorem dX8_reasonFor_47 : decode cX8_reasonFor 47 = .ok (.aload_n 0, 1) := by decide +kernel
theorem dX8_reasonFor_48 : decode cX8_reasonFor 48 = .ok (.iload 4, 2) := by decide +kernel
theorem dX8_reasonFor_50 : decode cX8_reasonFor 50 = .ok (.invokevirtual 105, 3) := by decide +kernel
theorem dX8_reasonFor_53 : decode cX8_reasonFor 53 = .ok (.ifCond .ne 5, 3) := by decide +kernel
theorem dX8_reasonFor_56 : decode cX8_reasonFor 56 = .ok (.iconst 3, 1) := by decide +kernel
theorem dX8_reasonFor_57 : decode cX8_reasonFor 57 = .ok (.ireturn, 1) := by decide +kernel
theorem dX8_reasonFor_58 : decode cX8_reasonFor 58 = .ok (.aload_n 0, 1) := by decide +kernel
theorem dX8_reasonFor_59 : decode cX8_reasonFor 59 = .ok (.getfield 11, 3) := by decide +kernel
theorem dX8_reasonFor_62 : decode cX8_reasonFor 62 = .ok (.bipush 7, 2) := by decide +kernel
theorem dX8_reasonFor_64 : decode cX8_reasonFor 64 = .ok (.iaload, 1) := by decide +kernel
theorem dX8_reasonFor_65 : decode cX8_reasonFor 65 = .ok (.iload_n 3, 1) := by decide +kernel
theorem dX8_reasonFor_66 : decode cX8_reasonFor 66 = .ok (.iadd, 1) := by decide +kernel
theorem dX8_reasonFor_67 : decode cX8_reasonFor 67 = .ok (.aload_n 0, 1) := by decide +kernel
theorem dX8_reasonFor_68 : decode cX8_reasonFor 68 = .ok (.getfield 19, 3) := by decide +kernel
theorem dX8_reasonFor_71 : decode cX8_reasonFor 71 = .ok (.bipush 7, 2) := by decide +kernel
theorem dX8_reasonFor_73 : decode cX8_reasonFor 73 = .ok (.iaload, 1) := by decide +kernel
theorem dX8_reasonFor_74 : decode cX8_reasonFor 74 = .ok (.if_icmp .le 5, 3) := by decide +kernel
theorem dX8_reasonFor_77 : decode cX8_reasonFor 77 = .ok (.iconst 4, 1) := by decide +kernel
theorem dX8_reasonFor_78 : decode cX8_reasonFor 78 = .ok (.ireturn, 1) := by decide +kernel
theorem dX8_reasonFor_79 : decode cX8_reasonFor 79 = .ok (.aload_n 0, 1) := by decide +kernel
theorem dX8_reasonFor_80 : decode cX8_reasonFor 80 = .ok (.iload 4, 2) := by decide +kernel
theorem dX8_reasonFor_82 : decode cX8_reasonFor 82 = .ok (.iload_n 3, 1) := by decide +kernel
theorem dX8_reasonFor_83 : decode cX8_reasonFor 83 = .ok (.invokevirtual 109, 3) := by decide +kernel
theorem dX8_reasonFor_86 : decode cX8_reasonFor 86 = .ok (.iconst (-1), 1) := by decide +kernel
theorem dX8_reasonFor_87 : decode cX8_reasonFor 87 = .ok (.if_icmp .ne 5, 3) := by decide +kernel
theorem dX8_reasonFor_90 : decode cX8_reasonFor 90 = .ok (.iconst 5, 1) := by decide +kernel
theorem dX8_reasonFor_91 : decode cX8_reasonFor 91 = .ok (.ireturn, 1) := by decide +kernel
theorem dX8_reasonFor_92 : decode cX8_reasonFor 92 = .ok (.aload_n 0, 1) := by decide +kernel
theorem dX8_reasonFor_93 : decode cX8_reasonFor 93 = .ok (.getfield 56, 3) := by decide +kernel
theorem dX8_reasonFor_96 : decode cX8_reasonFor 96 = .ok (.aload_n 0, 1) := by decide +kernel
theorem dX8_reasonFor_97 : decode cX8_reasonFor 97 = .ok (.iload_n 2, 1) := by decide +kernel
theorem dX8_reasonFor_98 : decode cX8_reasonFor 98 = .ok (.iconst 0, 1) := by decide +kernel
theorem dX8_reasonFor_99 : decode cX8_reasonFor 99 = .ok (.invokevirtual 95, 3) := by decide +kernel
theorem dX8_reasonFor_102 : decode cX8_reasonFor 102 = .ok (.if_icmp .le 6, 3) := by decide +kernel
theorem dX8_reasonFor_105 : decode cX8_reasonFor 105 = .ok (.bipush 6, 2) := by decide +kernel
theorem dX8_reasonFor_107 : decode cX8_reasonFor 107 = .ok (.ireturn, 1) := by decide +kernel
theorem dX8_reasonFor_108 : decode cX8_reasonFor 108 = .ok (.aload_n 0, 1) := by decide +kernel
theorem dX8_reasonFor_109 : decode cX8_reasonFor 109 = .ok (.getfield 59, 3) := by decide +kernel
theorem dX8_reasonFor_112 : decode cX8_reasonFor 112 = .ok (.aload_n 0, 1) := by decide +kernel
theorem dX8_reasonFor_113 : decode cX8_reasonFor 113 = .ok (.iload_n 2, 1) := by decide +kernel
theorem dX8_reasonFor_114 : decode cX8_reasonFor 114 = .ok (.iconst 1, 1) := by decide +kernel
theorem dX8_reasonFor_115 : decode cX8_reasonFor 115 = .ok (.invokevirtual 95, 3) := by decide +kernel
theorem dX8_reasonFor_118 : decode cX8_reasonFor 118 = .ok (.if_icmp .le 8, 3) := by decide +kernel
theorem dX8_reasonFor_121 : decode cX8_reasonFor 121 = .ok (.bipush 7, 2) := by decide +kernel
theorem dX8_reasonFor_123 : decode cX8_reasonFor 123 = .ok (.goto 4, 3) := by decide +kernel
theorem dX8_reasonFor_126 : decode cX8_reasonFor 126 = .ok (.iconst 0, 1) := by decide +kernel
theorem dX8_reasonFor_127 : decode cX8_reasonFor 127 = .ok (.ireturn, 1) := by decide +kernel
set_option maxRecDepth 20000 in
theorem ggX8_addCar_X8_setCarFact : GoodIn wsX8_addCar wsX8_setCarFact := goodIn_r _ [7, 8, 9, 10, 11, 12, 13, 14, 15, 16, 17, 18, 19, 20, 21] (by decide +kernel) (by decide +kernel)
set_option maxRecDepth 20000 in
theorem gX8_addCar_X8_setCarFact : GoodIn wsX8_addCar (wsV RX8 112 RX8 yX8_setCarFact wsX8_setCarFact) := goodIn_app (goodIn_of _ (by decide +kernel)) ggX8_addCar_X8_setCarFact
theorem dX8_addCar_0 : decode cX8_addCar 0 = .ok (.aload_n 0, 1) := by decide +kernel
theorem dX8_addCar_1 : decode cX8_addCar 1 = .ok (.getfield 11, 3) := by decide +kernel
theorem dX8_addCar_4 : decode cX8_addCar 4 = .ok (.iconst 3, 1) := by decide +kernel
theorem dX8_addCar_5 : decode cX8_addCar 5 = .ok (.iaload, 1) := by decide +kernel
theorem dX8_addCar_6 : decode cX8_addCar 6 = .ok (.istore_n 3, 1) := by decide +kernel
theorem dX8_addCar_7 : decode cX8_addCar 7 = .ok (.aload_n 0, 1) := by decide +kernel
theorem dX8_addCar_8 : decode cX8_addCar 8 = .ok (.getfield 11, 3) := by decide +kernel
theorem dX8_addCar_11 : decode cX8_addCar 11 = .ok (.iconst 1, 1) := by decide +kernel
theorem dX8_addCar_12 : decode cX8_addCar 12 = .ok (.iaload, 1) := by decide +kernel
theorem dX8_addCar_13 : decode cX8_addCar 13 = .ok (.istore 4, 2) := by decide +kernel
theorem dX8_addCar_15 : decode cX8_addCar 15 = .ok (.iload_n 3, 1) := by decide +kernel
theorem dX8_addCar_16 : decode cX8_addCar 16 = .ok (.ifCond .lt 21, 3) := by decide +kernel
theorem dX8_addCar_19 : decode cX8_addCar 19 = .ok (.iload_n 3, 1) := by decide +kernel
theorem dX8_addCar_20 : decode cX8_addCar 20 = .ok (.bipush 60, 2) := by decide +kernel
theorem dX8_addCar_22 : decode cX8_addCar 22 = .ok (.if_icmp .ge 15, 3) := by decide +kernel
theorem dX8_addCar_25 : decode cX8_addCar 25 = .ok (.iload 4, 2) := by decide +kernel
theorem dX8_addCar_27 : decode cX8_addCar 27 = .ok (.ifCond .lt 10, 3) := by decide +kernel
theorem dX8_addCar_30 : decode cX8_addCar 30 = .ok (.iload 4, 2) := by decide +kernel
theorem dX8_addCar_32 : decode cX8_addCar 32 = .ok (.bipush 20, 2) := by decide +kernel
theorem dX8_addCar_34 : decode cX8_addCar 34 = .ok (.if_icmp .lt 5, 3) := by decide +kernel
theorem dX8_addCar_37 : decode cX8_addCar 37 = .ok (.iconst (-1), 1) := by decide +kernel
theorem dX8_addCar_38 : decode cX8_addCar 38 = .ok (.ireturn, 1) := by decide +kernel
theorem dX8_addCar_39 : decode cX8_addCar 39 = .ok (.aload_n 0, 1) := by decide +kernel
theorem dX8_addCar_40 : decode cX8_addCar 40 = .ok (.iload_n 3, 1) := by decide +kernel
theorem dX8_addCar_41 : decode cX8_addCar 41 = .ok (.iconst 0, 1) := by decide +kernel
theorem dX8_addCar_42 : decode cX8_addCar 42 = .ok (.iload_n 1, 1) := by decide +kernel
theorem dX8_addCar_43 : decode cX8_addCar 43 = .ok (.invokevirtual 112, 3) := by decide +kernel
theorem dX8_addCar_46 : decode cX8_addCar 46 = .ok (.aload_n 0, 1) := by decide +kernel
theorem dX8_addCar_47 : decode cX8_addCar 47 = .ok (.iload_n 3, 1) := by decide +kernel
theorem dX8_addCar_48 : decode cX8_addCar 48 = .ok (.iconst 1, 1) := by decide +kernel
theorem dX8_addCar_49 : decode cX8_addCar 49 = .ok (.iload_n 2, 1) := by decide +kernel
theorem dX8_addCar_50 : decode cX8_addCar 50 = .ok (.invokevirtual 112, 3) := by decide +kernel
theorem dX8_addCar_53 : decode cX8_addCar 53 = .ok (.aload_n 0, 1) := by decide +kernel
theorem dX8_addCar_54 : decode cX8_addCar 54 = .ok (.iload_n 3, 1) := by decide +kernel
theorem dX8_addCar_55 : decode cX8_addCar 55 = .ok (.iconst 2, 1) := by decide +kernel
theorem dX8_addCar_56 : decode cX8_addCar 56 = .ok (.iconst 0, 1) := by decide +kernel
theorem dX8_addCar_57 : decode cX8_addCar 57 = .ok (.invokevirtual 112, 3) := by decide +kernel
theorem dX8_addCar_60 : decode cX8_addCar 60 = .ok (.aload_n 0, 1) := by decide +kernel
theorem dX8_addCar_61 : decode cX8_addCar 61 = .ok (.iload_n 3, 1) := by decide +kernel
theorem dX8_addCar_62 : decode cX8_addCar 62 = .ok (.iconst 3, 1) := by decide +kernel
theorem dX8_addCar_63 : decode cX8_addCar 63 = .ok (.iconst (-1), 1) := by decide +kernel
theorem dX8_addCar_64 : decode cX8_addCar 64 = .ok (.invokevirtual 112, 3) := by decide +kernel
theorem dX8_addCar_67 : decode cX8_addCar 67 = .ok (.aload_n 0, 1) := by decide +kernel
theorem dX8_addCar_68 : decode cX8_addCar 68 = .ok (.iload_n 3, 1) := by decide +kernel
theorem dX8_addCar_69 : decode cX8_addCar 69 = .ok (.iconst 4, 1) := by decide +kernel
theorem dX8_addCar_70 : decode cX8_addCar 70 = .ok (.aload_n 0, 1) := by decide +kernel
theorem dX8_addCar_71 : decode cX8_addCar 71 = .ok (.getfield 11, 3) := by decide +kernel
theorem dX8_addCar_74 : decode cX8_addCar 74 = .ok (.iconst 0, 1) := by decide +kernel
theorem dX8_addCar_75 : decode cX8_addCar 75 = .ok (.iaload, 1) := by decide +kernel
theorem dX8_addCar_76 : decode cX8_addCar 76 = .ok (.invokevirtual 112, 3) := by decide +kernel
theorem dX8_addCar_79 : decode cX8_addCar 79 = .ok (.aload_n 0, 1) := by decide +kernel
theorem dX8_addCar_80 : decode cX8_addCar 80 = .ok (.iload_n 3, 1) := by decide +kernel
theorem dX8_addCar_81 : decode cX8_addCar 81 = .ok (.iconst 5, 1) := by decide +kernel
theorem dX8_addCar_82 : decode cX8_addCar 82 = .ok (.iconst (-1), 1) := by decide +kernel
theorem dX8_addCar_83 : decode cX8_addCar 83 = .ok (.invokevirtual 112, 3) := by decide +kernel
theorem dX8_addCar_86 : decode cX8_addCar 86 = .ok (.aload_n 0, 1) := by decide +kernel
theorem dX8_addCar_87 : decode cX8_addCar 87 = .ok (.iload_n 3, 1) := by decide +kernel
theorem dX8_addCar_88 : decode cX8_addCar 88 = .ok (.bipush 6, 2) := by decide +kernel
theorem dX8_addCar_90 : decode cX8_addCar 90 = .ok (.iconst (-1), 1) := by decide +kernel
theorem dX8_addCar_91 : decode cX8_addCar 91 = .ok (.invokevirtual 112, 3) := by decide +kernel
theorem dX8_addCar_94 : decode cX8_addCar 94 = .ok (.aload_n 0, 1) := by decide +kernel
theorem dX8_addCar_95 : decode cX8_addCar 95 = .ok (.getfield 32, 3) := by decide +kernel
theorem dX8_addCar_98 : decode cX8_addCar 98 = .ok (.iload 4, 2) := by decide +kernel
theorem dX8_addCar_100 : decode cX8_addCar 100 = .ok (.iload_n 3, 1) := by decide +kernel
theorem dX8_addCar_101 : decode cX8_addCar 101 = .ok (.iastore, 1) := by decide +kernel
theorem dX8_addCar_102 : decode cX8_addCar 102 = .ok (.aload_n 0, 1) := by decide +kernel
theorem dX8_addCar_103 : decode cX8_addCar 103 = .ok (.getfield 11, 3) := by decide +kernel
theorem dX8_addCar_106 : decode cX8_addCar 106 = .ok (.iconst 3, 1) := by decide +kernel
theorem dX8_addCar_107 : decode cX8_addCar 107 = .ok (.dup2, 1) := by decide +kernel
theorem dX8_addCar_108 : decode cX8_addCar 108 = .ok (.iaload, 1) := by decide +kernel
theorem dX8_addCar_109 : decode cX8_addCar 109 = .ok (.iconst 1, 1) := by decide +kernel
theorem dX8_addCar_110 : decode cX8_addCar 110 = .ok (.iadd, 1) := by decide +kernel
theorem dX8_addCar_111 : decode cX8_addCar 111 = .ok (.iastore, 1) := by decide +kernel
theorem dX8_addCar_112 : decode cX8_addCar 112 = .ok (.aload_n 0, 1) := by decide +kernel
theorem dX8_addCar_113 : decode cX8_addCar 113 = .ok (.getfield 11, 3) := by decide +kernel
theorem dX8_addCar_116 : decode cX8_addCar 116 = .ok (.iconst 1, 1) := by decide +kernel
theorem dX8_addCar_117 : decode cX8_addCar 117 = .ok (.dup2, 1) := by decide +kernel
theorem dX8_addCar_118 : decode cX8_addCar 118 = .ok (.iaload, 1) := by decide +kernel
theorem dX8_addCar_119 : decode cX8_addCar 119 = .ok (.iconst 1, 1) := by decide +kernel
theorem dX8_addCar_120 : decode cX8_addCar 120 = .ok (.iadd, 1) := by decide +kernel
theorem dX8_addCar_121 : decode cX8_addCar 121 = .ok (.iastore, 1) := by decide +kernel
theorem dX8_addCar_122 : decode cX8_addCar 122 = .ok (.iload_n 3, 1) := by decide +kernel
theorem dX8_addCar_123 : decode cX8_addCar 123 = .ok (.ireturn, 1) := by decide +kernel
theorem dX8_takeFromQueue_0 : decode cX8_takeFromQueue 0 = .ok (.aload_n 0, 1) := by decide +kernel
theorem dX8_takeFromQueue_1 : decode cX8_takeFromQueue 1 = .ok (.getfield 11, 3) := by decide +kernel
theorem dX8_takeFromQueue_4 : decode cX8_takeFromQueue 4 = .ok (.iconst 1, 1) := by decide +kernel
theorem dX8_takeFromQueue_5 : decode cX8_takeFromQueue 5 = .ok (.iaload, 1) := by decide +kernel
theorem dX8_takeFromQueue_6 : decode cX8_takeFromQueue 6 = .ok (.iconst 1, 1) := by decide +kernel
theorem dX8_takeFromQueue_7 : decode cX8_takeFromQueue 7 = .ok (.isub, 1) := by decide +kernel
theorem dX8_takeFromQueue_8 : decode cX8_takeFromQueue 8 = .ok (.istore_n 2, 1) := by decide +kernel
theorem dX8_takeFromQueue_9 : decode cX8_takeFromQueue 9 = .ok (.iload_n 1, 1) := by decide +kernel
theorem dX8_takeFromQueue_10 : decode cX8_takeFromQueue 10 = .ok (.ifCond .lt 14, 3) := by decide +kernel
theorem dX8_takeFromQueue_13 : decode cX8_takeFromQueue 13 = .ok (.iload_n 1, 1) := by decide +kernel
theorem dX8_takeFromQueue_14 : decode cX8_takeFromQueue 14 = .ok (.iload_n 2, 1) := by decide +kernel
theorem dX8_takeFromQueue_15 : decode cX8_takeFromQueue 15 = .ok (.if_icmp .gt 9, 3) := by decide +kernel
theorem dX8_takeFromQueue_18 : decode cX8_takeFromQueue 18 = .ok (.iload_n 2, 1) := by decide +kernel
theorem dX8_takeFromQueue_19 : decode cX8_takeFromQueue 19 = .ok (.bipush 20, 2) := by decide +kernel
theorem dX8_takeFromQueue_21 : decode cX8_takeFromQueue 21 = .ok (.if_icmp .lt 4, 3) := by decide +kernel
theorem dX8_takeFromQueue_24 : decode cX8_takeFromQueue 24 = .ok (.return_, 1) := by decide +kernel
theorem dX8_takeFromQueue_25 : decode cX8_takeFromQueue 25 = .ok (.iload_n 1, 1) := by decide +kernel
theorem dX8_takeFromQueue_26 : decode cX8_takeFromQueue 26 = .ok (.istore_n 3, 1) := by decide +kernel
theorem dX8_takeFromQueue_27 : decode cX8_takeFromQueue 27 = .ok (.iload_n 3, 1) := by decide +kernel
theorem dX8_takeFromQueue_28 : decode cX8_takeFromQueue 28 = .ok (.iload_n 2, 1) := by decide +kernel
theorem dX8_takeFromQueue_29 : decode cX8_takeFromQueue 29 = .ok (.if_icmp .ge 23, 3) := by decide +kernel
theorem dX8_takeFromQueue_32 : decode cX8_takeFromQueue 32 = .ok (.aload_n 0, 1) := by decide +kernel
theorem dX8_takeFromQueue_33 : decode cX8_takeFromQueue 33 = .ok (.getfield 32, 3) := by decide +kernel
theorem dX8_takeFromQueue_36 : decode cX8_takeFromQueue 36 = .ok (.iload_n 3, 1) := by decide +kernel
theorem dX8_takeFromQueue_37 : decode cX8_takeFromQueue 37 = .ok (.aload_n 0, 1) := by decide +kernel
theorem dX8_takeFromQueue_38 : decode cX8_takeFromQueue 38 = .ok (.getfield 32, 3) := by decide +kernel
theorem dX8_takeFromQueue_41 : decode cX8_takeFromQueue 41 = .ok (.iload_n 3, 1) := by decide +kernel
theorem dX8_takeFromQueue_42 : decode cX8_takeFromQueue 42 = .ok (.iconst 1, 1) := by decide +kernel
theorem dX8_takeFromQueue_43 : decode cX8_takeFromQueue 43 = .ok (.iadd, 1) := by decide +kernel
theorem dX8_takeFromQueue_44 : decode cX8_takeFromQueue 44 = .ok (.iaload, 1) := by decide +kernel
theorem dX8_takeFromQueue_45 : decode cX8_takeFromQueue 45 = .ok (.iastore, 1) := by decide +kernel
theorem dX8_takeFromQueue_46 : decode cX8_takeFromQueue 46 = .ok (.iinc 3 1, 3) := by decide +kernel
theorem dX8_takeFromQueue_49 : decode cX8_takeFromQueue 49 = .ok (.goto (-22), 3) := by decide +kernel
theorem dX8_takeFromQueue_52 : decode cX8_takeFromQueue 52 = .ok (.aload_n 0, 1) := by decide +kernel
theorem dX8_takeFromQueue_53 : decode cX8_takeFromQueue 53 = .ok (.getfield 11, 3) := by decide +kernel
theorem dX8_takeFromQueue_56 : decode cX8_takeFromQueue 56 = .ok (.iconst 1, 1) := by decide +kernel
theorem dX8_takeFromQueue_57 : decode cX8_takeFromQueue 57 = .ok (.iload_n 2, 1) := by decide +kernel
theorem dX8_takeFromQueue_58 : decode cX8_takeFromQueue 58 = .ok (.iastore, 1) := by decide +kernel
theorem dX8_takeFromQueue_59 : decode cX8_takeFromQueue 59 = .ok (.return_, 1) := by decide +kernel
theorem dX8_bringToFront_0 : decode cX8_bringToFront 0 = .ok (.iload_n 1, 1) := by decide +kernel
theorem dX8_bringToFront_1 : decode cX8_bringToFront 1 = .ok (.ifCond .lt 19, 3) := by decide +kernel
theorem dX8_bringToFront_4 : decode cX8_bringToFront 4 = .ok (.iload_n 1, 1) := by decide +kernel
theorem dX8_bringToFront_5 : decode cX8_bringToFront 5 = .ok (.aload_n 0, 1) := by decide +kernel
theorem dX8_bringToFront_6 : decode cX8_bringToFront 6 = .ok (.getfield 11, 3) := by decide +kernel
theorem dX8_bringToFront_9 : decode cX8_bringToFront 9 = .ok (.iconst 1, 1) := by decide +kernel
theorem dX8_bringToFront_10 : decode cX8_bringToFront 10 = .ok (.iaload, 1) := by decide +kernel
theorem dX8_bringToFront_11 : decode cX8_bringToFront 11 = .ok (.if_icmp .ge 9, 3) := by decide +kernel
theorem dX8_bringToFront_14 : decode cX8_bringToFront 14 = .ok (.iload_n 1, 1) := by decide +kernel
theorem dX8_bringToFront_15 : decode cX8_bringToFront 15 = .ok (.bipush 20, 2) := by decide +kernel
theorem dX8_bringToFront_17 : decode cX8_bringToFront 17 = .ok (.if_icmp .lt 4, 3) := by decide +kernel
theorem dX8_bringToFront_20 : decode cX8_bringToFront 20 = .ok (.return_, 1) := by decide +kernel
theorem dX8_bringToFront_21 : decode cX8_bringToFront 21 = .ok (.aload_n 0, 1) := by decide +kernel
theorem dX8_bringToFront_22 : decode cX8_bringToFront 22 = .ok (.getfield 32, 3) := by decide +kernel
theorem dX8_bringToFront_25 : decode cX8_bringToFront 25 = .ok (.iload_n 1, 1) := by decide +kernel
theorem dX8_bringToFront_26 : decode cX8_bringToFront 26 = .ok (.iaload, 1) := by decide +kernel
theorem dX8_bringToFront_27 : decode cX8_bringToFront 27 = .ok (.istore_n 2, 1) := by decide +kernel
theorem dX8_bringToFront_28 : decode cX8_bringToFront 28 = .ok (.iload_n 1, 1) := by decide +kernel
theorem dX8_bringToFront_29 : decode cX8_bringToFront 29 = .ok (.istore_n 3, 1) := by decide +kernel
theorem dX8_bringToFront_30 : decode cX8_bringToFront 30 = .ok (.iload_n 3, 1) := by decide +kernel
theorem dX8_bringToFront_31 : decode cX8_bringToFront 31 = .ok (.ifCond .le 23, 3) := by decide +kernel
theorem dX8_bringToFront_34 : decode cX8_bringToFront 34 = .ok (.aload_n 0, 1) := by decide +kernel
theorem dX8_bringToFront_35 : decode cX8_bringToFront 35 = .ok (.getfield 32, 3) := by decide +kernel
theorem dX8_bringToFront_38 : decode cX8_bringToFront 38 = .ok (.iload_n 3, 1) := by decide +kernel
theorem dX8_bringToFront_39 : decode cX8_bringToFront 39 = .ok (.aload_n 0, 1) := by decide +kernel
theorem dX8_bringToFront_40 : decode cX8_bringToFront 40 = .ok (.getfield 32, 3) := by decide +kernel
theorem dX8_bringToFront_43 : decode cX8_bringToFront 43 = .ok (.iload_n 3, 1) := by decide +kernel
theorem dX8_bringToFront_44 : decode cX8_bringToFront 44 = .ok (.iconst 1, 1) := by decide +kernel
theorem dX8_bringToFront_45 : decode cX8_bringToFront 45 = .ok (.isub, 1) := by decide +kernel
theorem dX8_bringToFront_46 : decode cX8_bringToFront 46 = .ok (.iaload, 1) := by decide +kernel
theorem dX8_bringToFront_47 : decode cX8_bringToFront 47 = .ok (.iastore, 1) := by decide +kernel
theorem dX8_bringToFront_48 : decode cX8_bringToFront 48 = .ok (.iinc 3 (-1), 3) := by decide +kernel
theorem dX8_bringToFront_51 : decode cX8_bringToFront 51 = .ok (.goto (-21), 3) := by decide +kernel
theorem dX8_bringToFront_54 : decode cX8_bringToFront 54 = .ok (.aload_n 0, 1) := by decide +kernel
theorem dX8_bringToFront_55 : decode cX8_bringToFront 55 = .ok (.getfield 32, 3) := by decide +kernel
theorem dX8_bringToFront_58 : decode cX8_bringToFront 58 = .ok (.iconst 0, 1) := by decide +kernel
theorem dX8_bringToFront_59 : decode cX8_bringToFront 59 = .ok (.iload_n 2, 1) := by decide +kernel
theorem dX8_bringToFront_60 : decode cX8_bringToFront 60 = .ok (.iastore, 1) := by decide +kernel
theorem dX8_bringToFront_61 : decode cX8_bringToFront 61 = .ok (.return_, 1) := by decide +kernel
set_option maxRecDepth 20000 in
theorem ggX8_passTicks_X8_measureAll : GoodIn wsX8_passTicks wsX8_measureAll := goodIn_r _ [6, 1, 7, 8, 9, 10, 5, 11, 12, 13, 14, 15, 16, 17, 18, 19, 20, 21, 22, 23, 24, 25, 100, 101, 102, 103, 104, 105, 106, 107, 108, 109, 110, 111, 112] (by decide +kernel) (by decide +kernel)
set_option maxRecDepth 20000 in
theorem gX8_passTicks_X8_measureAll : GoodIn wsX8_passTicks (wsV RX8 79 RX8 yX8_measureAll wsX8_measureAll) := goodIn_app (goodIn_of _ (by decide +kernel)) ggX8_passTicks_X8_measureAll
set_option maxRecDepth 20000 in
theorem ggX8_passTicks_X8_runWinch : GoodIn wsX8_passTicks wsX8_runWinch := goodIn_r _ [29, 1, 22, 12, 30, 31, 32, 5, 33, 7, 17, 18, 19, 20, 21, 23, 24, 25, 100, 101, 102, 103, 104, 105, 106, 107, 108, 109, 110, 111, 112] (by decide +kernel) (by decide +kernel)
set_option maxRecDepth 20000 in
theorem gX8_passTicks_X8_runWinch : GoodIn wsX8_passTicks (wsV RX8 116 RX8 yX8_runWinch wsX8_runWinch) := goodIn_app (goodIn_of _ (by decide +kernel)) ggX8_passTicks_X8_runWinch
set_option maxRecDepth 20000 in
theorem ggX8_passTicks_X8_runCarOnRamp : GoodIn wsX8_passTicks wsX8_runCarOnRamp := goodIn_r _ [37, 1, 21, 22, 12, 38, 39, 40, 5, 41, 42, 43, 44, 45, 46, 47, 48, 49, 50, 51, 52, 53, 54, 55, 56, 57, 58, 59, 60, 61, 2, 3, 4, 6, 7, 8, 9, 10, 11, 13, 14, 15, 16, 17, 18, 19, 20, 23, 24, 25, 100, 101, 102, 103, 104, 105, 106, 107, 108, 109, 110, 111, 112] (by decide +kernel) (by decide +kernel)
set_option maxRecDepth 20000 in
theorem gX8_passTicks_X8_runCarOnRamp : GoodIn wsX8_passTicks (wsV RX8 119 RX8 yX8_runCarOnRamp wsX8_runCarOnRamp) := goodIn_app (goodIn_of _ (by decide +kernel)) ggX8_passTicks_X8_runCarOnRamp
set_option maxRecDepth 20000 in
theorem ggX8_passTicks_X8_runQueue : GoodIn wsX8_passTicks wsX8_runQueue := goodIn_r _ [65, 1, 66, 12, 67, 68, 69, 5, 70, 21, 22, 42, 43, 44, 45, 46, 47, 48, 49, 50, 51, 71, 72, 73, 74, 75, 76, 77, 78, 79, 80, 81, 82, 83, 84, 85, 24, 86, 87, 88, 89, 90, 58, 59, 60, 61, 91, 92, 93, 94, 95, 96, 97, 98, 99, 100, 101, 102, 103, 104, 105, 106, 107, 108, 109, 110, 111, 112] (by decide +kernel) (by decide +kernel)
set_option maxRecDepth 20000 in
theorem gX8_passTicks_X8_runQueue : GoodIn wsX8_passTicks (wsV RX8 122 RX8 yX8_runQueue wsX8_runQueue) := goodIn_app (goodIn_of _ (by decide +kernel)) ggX8_passTicks_X8_runQueue
theorem dX8_passTicks_0 : decode cX8_passTicks 0 = .ok (.aload_n 0, 1) := by decide +kernel
theorem dX8_passTicks_1 : decode cX8_passTicks 1 = .ok (.getfield 11, 3) := by decide +kernel
theorem dX8_passTicks_4 : decode cX8_passTicks 4 = .ok (.bipush 13, 2) := by decide +kernel
theorem dX8_passTicks_6 : decode cX8_passTicks 6 = .ok (.iaload, 1) := by decide +kernel
theorem dX8_passTicks_7 : decode cX8_passTicks 7 = .ok (.istore_n 2, 1) := by decide +kernel
theorem dX8_passTicks_8 : decode cX8_passTicks 8 = .ok (.iconst 0, 1) := by decide +kernel
theorem dX8_passTicks_9 : decode cX8_passTicks 9 = .ok (.istore_n 3, 1) := by decide +kernel
theorem dX8_passTicks_10 : decode cX8_passTicks 10 = .ok (.iload_n 3, 1) := by decide +kernel
theorem dX8_passTicks_11 : decode cX8_passTicks 11 = .ok (.iload_n 1, 1) := by decide +kernel
theorem dX8_passTicks_12 : decode cX8_passTicks 12 = .ok (.if_icmp .ge 35, 3) := by decide +kernel
theorem dX8_passTicks_15 : decode cX8_passTicks 15 = .ok (.aload_n 0, 1) := by decide +kernel
theorem dX8_passTicks_16 : decode cX8_passTicks 16 = .ok (.getfield 11, 3) := by decide +kernel
theorem dX8_passTicks_19 : decode cX8_passTicks 19 = .ok (.iconst 0, 1) := by decide +kernel
theorem dX8_passTicks_20 : decode cX8_passTicks 20 = .ok (.dup2, 1) := by decide +kernel
theorem dX8_passTicks_21 : decode cX8_passTicks 21 = .ok (.iaload, 1) := by decide +kernel
theorem dX8_passTicks_22 : decode cX8_passTicks 22 = .ok (.iconst 1, 1) := by decide +kernel
theorem dX8_passTicks_23 : decode cX8_passTicks 23 = .ok (.iadd, 1) := by decide +kernel
theorem dX8_passTicks_24 : decode cX8_passTicks 24 = .ok (.iastore, 1) := by decide +kernel
theorem dX8_passTicks_25 : decode cX8_passTicks 25 = .ok (.aload_n 0, 1) := by decide +kernel
theorem dX8_passTicks_26 : decode cX8_passTicks 26 = .ok (.invokevirtual 79, 3) := by decide +kernel
theorem dX8_passTicks_29 : decode cX8_passTicks 29 = .ok (.aload_n 0, 1) := by decide +kernel
theorem dX8_passTicks_30 : decode cX8_passTicks 30 = .ok (.invokevirtual 116, 3) := by decide +kernel
theorem dX8_passTicks_33 : decode cX8_passTicks 33 = .ok (.aload_n 0, 1) := by decide +kernel
theorem dX8_passTicks_34 : decode cX8_passTicks 34 = .ok (.invokevirtual 119, 3) := by decide +kernel
theorem dX8_passTicks_37 : decode cX8_passTicks 37 = .ok (.aload_n 0, 1) := by decide +kernel
theorem dX8_passTicks_38 : decode cX8_passTicks 38 = .ok (.invokevirtual 122, 3) := by decide +kernel
theorem dX8_passTicks_41 : decode cX8_passTicks 41 = .ok (.iinc 3 1, 3) := by decide +kernel
theorem dX8_passTicks_44 : decode cX8_passTicks 44 = .ok (.goto (-34), 3) := by decide +kernel
theorem dX8_passTicks_47 : decode cX8_passTicks 47 = .ok (.aload_n 0, 1) := by decide +kernel
theorem dX8_passTicks_48 : decode cX8_passTicks 48 = .ok (.getfield 11, 3) := by decide +kernel
theorem dX8_passTicks_51 : decode cX8_passTicks 51 = .ok (.bipush 13, 2) := by decide +kernel
theorem dX8_passTicks_53 : decode cX8_passTicks 53 = .ok (.iaload, 1) := by decide +kernel
theorem dX8_passTicks_54 : decode cX8_passTicks 54 = .ok (.iload_n 2, 1) := by decide +kernel
theorem dX8_passTicks_55 : decode cX8_passTicks 55 = .ok (.isub, 1) := by decide +kernel
theorem dX8_passTicks_56 : decode cX8_passTicks 56 = .ok (.ireturn, 1) := by decide +kernel
set_option maxRecDepth 20000 in
theorem ggX8_runWinch_X8_pullEnd : GoodIn wsX8_runWinch wsX8_pullEnd := goodIn_r _ [8, 2, 3, 1, 9, 10, 11, 12, 7, 13, 14, 15, 16, 17, 18, 19, 20, 21, 22, 23, 24, 25, 26, 27, 28, 29, 30] (by decide +kernel) (by decide +kernel)
set_option maxRecDepth 20000 in
theorem gX8_runWinch_X8_pullEnd : GoodIn wsX8_runWinch (wsV RX8 125 RX8 yX8_pullEnd wsX8_pullEnd) := goodIn_app (goodIn_of _ (by decide +kernel)) ggX8_runWinch_X8_pullEnd
theorem dX8_runWinch_0 : decode cX8_runWinch 0 = .ok (.aload_n 0, 1) := by decide +kernel
theorem dX8_runWinch_1 : decode cX8_runWinch 1 = .ok (.getfield 11, 3) := by decide +kernel
theorem dX8_runWinch_4 : decode cX8_runWinch 4 = .ok (.iconst 5, 1) := by decide +kernel
theorem dX8_runWinch_5 : decode cX8_runWinch 5 = .ok (.iaload, 1) := by decide +kernel
theorem dX8_runWinch_6 : decode cX8_runWinch 6 = .ok (.ifCond .ne 41, 3) := by decide +kernel
theorem dX8_runWinch_9 : decode cX8_runWinch 9 = .ok (.aload_n 0, 1) := by decide +kernel
theorem dX8_runWinch_10 : decode cX8_runWinch 10 = .ok (.getfield 59, 3) := by decide +kernel
theorem dX8_runWinch_13 : decode cX8_runWinch 13 = .ok (.aload_n 0, 1) := by decide +kernel
theorem dX8_runWinch_14 : decode cX8_runWinch 14 = .ok (.getfield 19, 3) := by decide +kernel
theorem dX8_runWinch_17 : decode cX8_runWinch 17 = .ok (.bipush 10, 2) := by decide +kernel
theorem dX8_runWinch_19 : decode cX8_runWinch 19 = .ok (.iaload, 1) := by decide +kernel
theorem dX8_runWinch_20 : decode cX8_runWinch 20 = .ok (.if_icmp .le 27, 3) := by decide +kernel
theorem dX8_runWinch_23 : decode cX8_runWinch 23 = .ok (.aload_n 0, 1) := by decide +kernel
theorem dX8_runWinch_24 : decode cX8_runWinch 24 = .ok (.getfield 11, 3) := by decide +kernel
theorem dX8_runWinch_27 : decode cX8_runWinch 27 = .ok (.iconst 5, 1) := by decide +kernel
theorem dX8_runWinch_28 : decode cX8_runWinch 28 = .ok (.iconst 1, 1) := by decide +kernel
theorem dX8_runWinch_29 : decode cX8_runWinch 29 = .ok (.iastore, 1) := by decide +kernel
theorem dX8_runWinch_30 : decode cX8_runWinch 30 = .ok (.aload_n 0, 1) := by decide +kernel
theorem dX8_runWinch_31 : decode cX8_runWinch 31 = .ok (.getfield 11, 3) := by decide +kernel
theorem dX8_runWinch_34 : decode cX8_runWinch 34 = .ok (.bipush 6, 2) := by decide +kernel
theorem dX8_runWinch_36 : decode cX8_runWinch 36 = .ok (.aload_n 0, 1) := by decide +kernel
theorem dX8_runWinch_37 : decode cX8_runWinch 37 = .ok (.getfield 19, 3) := by decide +kernel
theorem dX8_runWinch_40 : decode cX8_runWinch 40 = .ok (.bipush 11, 2) := by decide +kernel
theorem dX8_runWinch_42 : decode cX8_runWinch 42 = .ok (.iaload, 1) := by decide +kernel
theorem dX8_runWinch_43 : decode cX8_runWinch 43 = .ok (.iastore, 1) := by decide +kernel
theorem dX8_runWinch_44 : decode cX8_runWinch 44 = .ok (.goto 24, 3) := by decide +kernel
theorem dX8_runWinch_47 : decode cX8_runWinch 47 = .ok (.aload_n 0, 1) := by decide +kernel
theorem dX8_runWinch_48 : decode cX8_runWinch 48 = .ok (.getfield 11, 3) := by decide +kernel
theorem dX8_runWinch_51 : decode cX8_runWinch 51 = .ok (.iconst 5, 1) := by decide +kernel
theorem dX8_runWinch_52 : decode cX8_runWinch 52 = .ok (.iaload, 1) := by decide +kernel
theorem dX8_runWinch_53 : decode cX8_runWinch 53 = .ok (.iconst 1, 1) := by decide +kernel
theorem dX8_runWinch_54 : decode cX8_runWinch 54 = .ok (.if_icmp .ne 14, 3) := by decide +kernel
theorem dX8_runWinch_57 : decode cX8_runWinch 57 = .ok (.aload_n 0, 1) := by decide +kernel
theorem dX8_runWinch_58 : decode cX8_runWinch 58 = .ok (.getfield 11, 3) := by decide +kernel
theorem dX8_runWinch_61 : decode cX8_runWinch 61 = .ok (.bipush 6, 2) := by decide +kernel
theorem dX8_runWinch_63 : decode cX8_runWinch 63 = .ok (.dup2, 1) := by decide +kernel
theorem dX8_runWinch_64 : decode cX8_runWinch 64 = .ok (.iaload, 1) := by decide +kernel
theorem dX8_runWinch_65 : decode cX8_runWinch 65 = .ok (.iconst 1, 1) := by decide +kernel
theorem dX8_runWinch_66 : decode cX8_runWinch 66 = .ok (.isub, 1) := by decide +kernel
theorem dX8_runWinch_67 : decode cX8_runWinch 67 = .ok (.iastore, 1) := by decide +kernel
theorem dX8_runWinch_68 : decode cX8_runWinch 68 = .ok (.aload_n 0, 1) := by decide +kernel
theorem dX8_runWinch_69 : decode cX8_runWinch 69 = .ok (.getfield 11, 3) := by decide +kernel
theorem dX8_runWinch_72 : decode cX8_runWinch 72 = .ok (.iconst 5, 1) := by decide +kernel
theorem dX8_runWinch_73 : decode cX8_runWinch 73 = .ok (.iaload, 1) := by decide +kernel
theorem dX8_runWinch_74 : decode cX8_runWinch 74 = .ok (.iconst 1, 1) := by decide +kernel
theorem dX8_runWinch_75 : decode cX8_runWinch 75 = .ok (.if_icmp .ne 20, 3) := by decide +kernel
theorem dX8_runWinch_78 : decode cX8_runWinch 78 = .ok (.aload_n 0, 1) := by decide +kernel
theorem dX8_runWinch_79 : decode cX8_runWinch 79 = .ok (.getfield 11, 3) := by decide +kernel
theorem dX8_runWinch_82 : decode cX8_runWinch 82 = .ok (.bipush 6, 2) := by decide +kernel
theorem dX8_runWinch_84 : decode cX8_runWinch 84 = .ok (.iaload, 1) := by decide +kernel
theorem dX8_runWinch_85 : decode cX8_runWinch 85 = .ok (.ifCond .gt 10, 3) := by decide +kernel
theorem dX8_runWinch_88 : decode cX8_runWinch 88 = .ok (.aload_n 0, 1) := by decide +kernel
theorem dX8_runWinch_89 : decode cX8_runWinch 89 = .ok (.getfield 11, 3) := by decide +kernel
theorem dX8_runWinch_92 : decode cX8_runWinch 92 = .ok (.iconst 5, 1) := by decide +kernel
theorem dX8_runWinch_93 : decode cX8_runWinch 93 = .ok (.iconst 2, 1) := by decide +kernel
theorem dX8_runWinch_94 : decode cX8_runWinch 94 = .ok (.iastore, 1) := by decide +kernel
theorem dX8_runWinch_95 : decode cX8_runWinch 95 = .ok (.aload_n 0, 1) := by decide +kernel
theorem dX8_runWinch_96 : decode cX8_runWinch 96 = .ok (.getfield 11, 3) := by decide +kernel
theorem dX8_runWinch_99 : decode cX8_runWinch 99 = .ok (.iconst 5, 1) := by decide +kernel
theorem dX8_runWinch_100 : decode cX8_runWinch 100 = .ok (.iaload, 1) := by decide +kernel
theorem dX8_runWinch_101 : decode cX8_runWinch 101 = .ok (.iconst 2, 1) := by decide +kernel
theorem dX8_runWinch_102 : decode cX8_runWinch 102 = .ok (.if_icmp .ne 7, 3) := by decide +kernel
theorem dX8_runWinch_105 : decode cX8_runWinch 105 = .ok (.aload_n 0, 1) := by decide +kernel
theorem dX8_runWinch_106 : decode cX8_runWinch 106 = .ok (.invokevirtual 125, 3) := by decide +kernel
theorem dX8_runWinch_109 : decode cX8_runWinch 109 = .ok (.return_, 1) := by decide +kernel
set_option maxRecDepth 20000 in
theorem ggX8_pullEnd_X8_measureRamp : GoodIn wsX8_pullEnd wsX8_measureRamp := goodIn_r _ [9, 3, 2, 10, 4, 1, 11, 12, 13, 14, 15, 16, 17, 18, 19, 20, 21, 22, 23, 24, 25, 26] (by decide +kernel) (by decide +kernel)
set_option maxRecDepth 20000 in
theorem gX8_pullEnd_X8_measureRamp : GoodIn wsX8_pullEnd (wsV RX8 85 RX8 yX8_measureRamp wsX8_measureRamp) := goodIn_app (goodIn_of _ (by decide +kernel)) ggX8_pullEnd_X8_measureRamp
theorem dX8_pullEnd_0 : decode cX8_pullEnd 0 = .ok (.aload_n 0, 1) := by decide +kernel
theorem dX8_pullEnd_1 : decode cX8_pullEnd 1 = .ok (.getfield 59, 3) := by decide +kernel
theorem dX8_pullEnd_4 : decode cX8_pullEnd 4 = .ok (.aload_n 0, 1) := by decide +kernel
theorem dX8_pullEnd_5 : decode cX8_pullEnd 5 = .ok (.getfield 19, 3) := by decide +kernel
theorem dX8_pullEnd_8 : decode cX8_pullEnd 8 = .ok (.bipush 9, 2) := by decide +kernel
theorem dX8_pullEnd_10 : decode cX8_pullEnd 10 = .ok (.iaload, 1) := by decide +kernel
theorem dX8_pullEnd_11 : decode cX8_pullEnd 11 = .ok (.if_icmp .ge 10, 3) := by decide +kernel
theorem dX8_pullEnd_14 : decode cX8_pullEnd 14 = .ok (.aload_n 0, 1) := by decide +kernel
theorem dX8_pullEnd_15 : decode cX8_pullEnd 15 = .ok (.getfield 59, 3) := by decide +kernel
theorem dX8_pullEnd_18 : decode cX8_pullEnd 18 = .ok (.goto 10, 3) := by decide +kernel
theorem dX8_pullEnd_21 : decode cX8_pullEnd 21 = .ok (.aload_n 0, 1) := by decide +kernel
theorem dX8_pullEnd_22 : decode cX8_pullEnd 22 = .ok (.getfield 19, 3) := by decide +kernel
theorem dX8_pullEnd_25 : decode cX8_pullEnd 25 = .ok (.bipush 9, 2) := by decide +kernel
theorem dX8_pullEnd_27 : decode cX8_pullEnd 27 = .ok (.iaload, 1) := by decide +kernel
theorem dX8_pullEnd_28 : decode cX8_pullEnd 28 = .ok (.istore_n 1, 1) := by decide +kernel
theorem dX8_pullEnd_29 : decode cX8_pullEnd 29 = .ok (.aload_n 0, 1) := by decide +kernel
theorem dX8_pullEnd_30 : decode cX8_pullEnd 30 = .ok (.getfield 11, 3) := by decide +kernel
theorem dX8_pullEnd_33 : decode cX8_pullEnd 33 = .ok (.iconst 4, 1) := by decide +kernel
theorem dX8_pullEnd_34 : decode cX8_pullEnd 34 = .ok (.dup2, 1) := by decide +kernel
theorem dX8_pullEnd_35 : decode cX8_pullEnd 35 = .ok (.iaload, 1) := by decide +kernel
theorem dX8_pullEnd_36 : decode cX8_pullEnd 36 = .ok (.aload_n 0, 1) := by decide +kernel
theorem dX8_pullEnd_37 : decode cX8_pullEnd 37 = .ok (.getfield 11, 3) := by decide +kernel
theorem dX8_pullEnd_40 : decode cX8_pullEnd 40 = .ok (.iconst 4, 1) := by decide +kernel
theorem dX8_pullEnd_41 : decode cX8_pullEnd 41 = .ok (.iaload, 1) := by decide +kernel
theorem dX8_pullEnd_42 : decode cX8_pullEnd 42 = .ok (.aload_n 0, 1) := by decide +kernel
theorem dX8_pullEnd_43 : decode cX8_pullEnd 43 = .ok (.getfield 52, 3) := by decide +kernel
theorem dX8_pullEnd_46 : decode cX8_pullEnd 46 = .ok (.if_icmp .ge 7, 3) := by decide +kernel
theorem dX8_pullEnd_49 : decode cX8_pullEnd 49 = .ok (.iload_n 1, 1) := by decide +kernel
theorem dX8_pullEnd_50 : decode cX8_pullEnd 50 = .ok (.goto 5, 3) := by decide +kernel
theorem dX8_pullEnd_53 : decode cX8_pullEnd 53 = .ok (.iload_n 1, 1) := by decide +kernel
theorem dX8_pullEnd_54 : decode cX8_pullEnd 54 = .ok (.ineg, 1) := by decide +kernel
theorem dX8_pullEnd_55 : decode cX8_pullEnd 55 = .ok (.iadd, 1) := by decide +kernel
theorem dX8_pullEnd_56 : decode cX8_pullEnd 56 = .ok (.iastore, 1) := by decide +kernel
theorem dX8_pullEnd_57 : decode cX8_pullEnd 57 = .ok (.aload_n 0, 1) := by decide +kernel
theorem dX8_pullEnd_58 : decode cX8_pullEnd 58 = .ok (.invokevirtual 85, 3) := by decide +kernel
theorem dX8_pullEnd_61 : decode cX8_pullEnd 61 = .ok (.aload_n 0, 1) := by decide +kernel
theorem dX8_pullEnd_62 : decode cX8_pullEnd 62 = .ok (.getfield 59, 3) := by decide +kernel
theorem dX8_pullEnd_65 : decode cX8_pullEnd 65 = .ok (.ifCond .ne 10, 3) := by decide +kernel
theorem dX8_pullEnd_68 : decode cX8_pullEnd 68 = .ok (.aload_n 0, 1) := by decide +kernel
theorem dX8_pullEnd_69 : decode cX8_pullEnd 69 = .ok (.getfield 11, 3) := by decide +kernel
theorem dX8_pullEnd_72 : decode cX8_pullEnd 72 = .ok (.iconst 5, 1) := by decide +kernel
theorem dX8_pullEnd_73 : decode cX8_pullEnd 73 = .ok (.iconst 0, 1) := by decide +kernel
theorem dX8_pullEnd_74 : decode cX8_pullEnd 74 = .ok (.iastore, 1) := by decide +kernel
theorem dX8_pullEnd_75 : decode cX8_pullEnd 75 = .ok (.return_, 1) := by decide +kernel
set_option maxRecDepth 20000 in
theorem ggX8_runCarOnRamp_X8_carKindFact : GoodIn wsX8_runCarOnRamp wsX8_carKindFact := goodIn_r _ [9, 10, 11, 12, 8, 13, 14, 15, 16, 17, 18, 19, 50, 51, 52, 53, 54, 55, 56, 57, 58, 59, 60, 61, 62] (by decide +kernel) (by decide +kernel)
set_option maxRecDepth 20000 in
theorem gX8_runCarOnRamp_X8_carKindFact : GoodIn wsX8_runCarOnRamp (wsV RX8 128 RX8 yX8_carKindFact wsX8_carKindFact) := goodIn_app (goodIn_of _ (by decide +kernel)) ggX8_runCarOnRamp_X8_carKindFact
set_option maxRecDepth 20000 in
theorem ggX8_runCarOnRamp_X8_putOnDeck : GoodIn wsX8_runCarOnRamp wsX8_putOnDeck := goodIn_r _ [23, 24, 25, 1, 10, 11, 12, 8, 13, 14, 26, 27, 28, 29, 50, 51, 52, 53, 54, 55, 56, 57, 58, 59, 60, 61, 62] (by decide +kernel) (by decide +kernel)
set_option maxRecDepth 20000 in
theorem gX8_runCarOnRamp_X8_putOnDeck : GoodIn wsX8_runCarOnRamp (wsV RX8 131 RX8 yX8_putOnDeck wsX8_putOnDeck) := goodIn_app (goodIn_of _ (by decide +kernel)) ggX8_runCarOnRamp_X8_putOnDeck
set_option maxRecDepth 20000 in
theorem ggX8_runCarOnRamp_X8_measureAll : GoodIn wsX8_runCarOnRamp wsX8_measureAll := goodIn_r _ [33, 1, 34, 35, 36, 37, 8, 38, 4, 39, 40, 41, 42, 43, 44, 45, 46, 2, 3, 47, 48, 49, 50, 51, 52, 53, 54, 55, 56, 57, 58, 59, 60, 61, 62] (by decide +kernel) (by decide +kernel)
set_option maxRecDepth 20000 in
theorem gX8_runCarOnRamp_X8_measureAll : GoodIn wsX8_runCarOnRamp (wsV RX8 79 RX8 yX8_measureAll wsX8_measureAll) := goodIn_app (goodIn_of _ (by decide +kernel)) ggX8_runCarOnRamp_X8_measureAll
theorem dX8_runCarOnRamp_0 : decode cX8_runCarOnRamp 0 = .ok (.aload_n 0, 1) := by decide +kernel
theorem dX8_runCarOnRamp_1 : decode cX8_runCarOnRamp 1 = .ok (.getfield 11, 3) := by decide +kernel
theorem dX8_runCarOnRamp_4 : decode cX8_runCarOnRamp 4 = .ok (.bipush 8, 2) := by decide +kernel
theorem dX8_runCarOnRamp_6 : decode cX8_runCarOnRamp 6 = .ok (.iaload, 1) := by decide +kernel
theorem dX8_runCarOnRamp_7 : decode cX8_runCarOnRamp 7 = .ok (.istore_n 1, 1) := by decide +kernel
theorem dX8_runCarOnRamp_8 : decode cX8_runCarOnRamp 8 = .ok (.iload_n 1, 1) := by decide +kernel
theorem dX8_runCarOnRamp_9 : decode cX8_runCarOnRamp 9 = .ok (.iconst (-1), 1) := by decide +kernel
theorem dX8_runCarOnRamp_10 : decode cX8_runCarOnRamp 10 = .ok (.if_icmp .ne 4, 3) := by decide +kernel
theorem dX8_runCarOnRamp_13 : decode cX8_runCarOnRamp 13 = .ok (.return_, 1) := by decide +kernel
theorem dX8_runCarOnRamp_14 : decode cX8_runCarOnRamp 14 = .ok (.aload_n 0, 1) := by decide +kernel
theorem dX8_runCarOnRamp_15 : decode cX8_runCarOnRamp 15 = .ok (.getfield 56, 3) := by decide +kernel
theorem dX8_runCarOnRamp_18 : decode cX8_runCarOnRamp 18 = .ok (.aload_n 0, 1) := by decide +kernel
theorem dX8_runCarOnRamp_19 : decode cX8_runCarOnRamp 19 = .ok (.iload_n 1, 1) := by decide +kernel
theorem dX8_runCarOnRamp_20 : decode cX8_runCarOnRamp 20 = .ok (.iconst 0, 1) := by decide +kernel
theorem dX8_runCarOnRamp_21 : decode cX8_runCarOnRamp 21 = .ok (.invokevirtual 128, 3) := by decide +kernel
theorem dX8_runCarOnRamp_24 : decode cX8_runCarOnRamp 24 = .ok (.if_icmp .gt 16, 3) := by decide +kernel
theorem dX8_runCarOnRamp_27 : decode cX8_runCarOnRamp 27 = .ok (.aload_n 0, 1) := by decide +kernel
theorem dX8_runCarOnRamp_28 : decode cX8_runCarOnRamp 28 = .ok (.getfield 59, 3) := by decide +kernel
theorem dX8_runCarOnRamp_31 : decode cX8_runCarOnRamp 31 = .ok (.aload_n 0, 1) := by decide +kernel
theorem dX8_runCarOnRamp_32 : decode cX8_runCarOnRamp 32 = .ok (.iload_n 1, 1) := by decide +kernel
theorem dX8_runCarOnRamp_33 : decode cX8_runCarOnRamp 33 = .ok (.iconst 1, 1) := by decide +kernel
theorem dX8_runCarOnRamp_34 : decode cX8_runCarOnRamp 34 = .ok (.invokevirtual 128, 3) := by decide +kernel
theorem dX8_runCarOnRamp_37 : decode cX8_runCarOnRamp 37 = .ok (.if_icmp .le 15, 3) := by decide +kernel
theorem dX8_runCarOnRamp_40 : decode cX8_runCarOnRamp 40 = .ok (.aload_n 0, 1) := by decide +kernel
theorem dX8_runCarOnRamp_41 : decode cX8_runCarOnRamp 41 = .ok (.getfield 11, 3) := by decide +kernel
theorem dX8_runCarOnRamp_44 : decode cX8_runCarOnRamp 44 = .ok (.bipush 10, 2) := by decide +kernel
theorem dX8_runCarOnRamp_46 : decode cX8_runCarOnRamp 46 = .ok (.dup2, 1) := by decide +kernel
theorem dX8_runCarOnRamp_47 : decode cX8_runCarOnRamp 47 = .ok (.iaload, 1) := by decide +kernel
theorem dX8_runCarOnRamp_48 : decode cX8_runCarOnRamp 48 = .ok (.iconst 1, 1) := by decide +kernel
theorem dX8_runCarOnRamp_49 : decode cX8_runCarOnRamp 49 = .ok (.iadd, 1) := by decide +kernel
theorem dX8_runCarOnRamp_50 : decode cX8_runCarOnRamp 50 = .ok (.iastore, 1) := by decide +kernel
theorem dX8_runCarOnRamp_51 : decode cX8_runCarOnRamp 51 = .ok (.return_, 1) := by decide +kernel
theorem dX8_runCarOnRamp_52 : decode cX8_runCarOnRamp 52 = .ok (.aload_n 0, 1) := by decide +kernel
theorem dX8_runCarOnRamp_53 : decode cX8_runCarOnRamp 53 = .ok (.getfield 11, 3) := by decide +kernel
theorem dX8_runCarOnRamp_56 : decode cX8_runCarOnRamp 56 = .ok (.bipush 9, 2) := by decide +kernel
theorem dX8_runCarOnRamp_58 : decode cX8_runCarOnRamp 58 = .ok (.dup2, 1) := by decide +kernel
theorem dX8_runCarOnRamp_59 : decode cX8_runCarOnRamp 59 = .ok (.iaload, 1) := by decide +kernel
theorem dX8_runCarOnRamp_60 : decode cX8_runCarOnRamp 60 = .ok (.iconst 1, 1) := by decide +kernel
theorem dX8_runCarOnRamp_61 : decode cX8_runCarOnRamp 61 = .ok (.iadd, 1) := by decide +kernel
theorem dX8_runCarOnRamp_62 : decode cX8_runCarOnRamp 62 = .ok (.iastore, 1) := by decide +kernel
theorem dX8_runCarOnRamp_63 : decode cX8_runCarOnRamp 63 = .ok (.aload_n 0, 1) := by decide +kernel
theorem dX8_runCarOnRamp_64 : decode cX8_runCarOnRamp 64 = .ok (.getfield 56, 3) := by decide +kernel
theorem dX8_runCarOnRamp_67 : decode cX8_runCarOnRamp 67 = .ok (.aload_n 0, 1) := by decide +kernel
theorem dX8_runCarOnRamp_68 : decode cX8_runCarOnRamp 68 = .ok (.getfield 11, 3) := by decide +kernel
theorem dX8_runCarOnRamp_71 : decode cX8_runCarOnRamp 71 = .ok (.bipush 15, 2) := by decide +kernel
theorem dX8_runCarOnRamp_73 : decode cX8_runCarOnRamp 73 = .ok (.iaload, 1) := by decide +kernel
theorem dX8_runCarOnRamp_74 : decode cX8_runCarOnRamp 74 = .ok (.if_icmp .le 14, 3) := by decide +kernel
theorem dX8_runCarOnRamp_77 : decode cX8_runCarOnRamp 77 = .ok (.aload_n 0, 1) := by decide +kernel
theorem dX8_runCarOnRamp_78 : decode cX8_runCarOnRamp 78 = .ok (.getfield 11, 3) := by decide +kernel
theorem dX8_runCarOnRamp_81 : decode cX8_runCarOnRamp 81 = .ok (.bipush 15, 2) := by decide +kernel
theorem dX8_runCarOnRamp_83 : decode cX8_runCarOnRamp 83 = .ok (.aload_n 0, 1) := by decide +kernel
theorem dX8_runCarOnRamp_84 : decode cX8_runCarOnRamp 84 = .ok (.getfield 56, 3) := by decide +kernel
theorem dX8_runCarOnRamp_87 : decode cX8_runCarOnRamp 87 = .ok (.iastore, 1) := by decide +kernel
theorem dX8_runCarOnRamp_88 : decode cX8_runCarOnRamp 88 = .ok (.aload_n 0, 1) := by decide +kernel
theorem dX8_runCarOnRamp_89 : decode cX8_runCarOnRamp 89 = .ok (.getfield 11, 3) := by decide +kernel
theorem dX8_runCarOnRamp_92 : decode cX8_runCarOnRamp 92 = .ok (.bipush 9, 2) := by decide +kernel
theorem dX8_runCarOnRamp_94 : decode cX8_runCarOnRamp 94 = .ok (.iaload, 1) := by decide +kernel
theorem dX8_runCarOnRamp_95 : decode cX8_runCarOnRamp 95 = .ok (.aload_n 0, 1) := by decide +kernel
theorem dX8_runCarOnRamp_96 : decode cX8_runCarOnRamp 96 = .ok (.getfield 19, 3) := by decide +kernel
theorem dX8_runCarOnRamp_99 : decode cX8_runCarOnRamp 99 = .ok (.bipush 12, 2) := by decide +kernel
theorem dX8_runCarOnRamp_101 : decode cX8_runCarOnRamp 101 = .ok (.iaload, 1) := by decide +kernel
theorem dX8_runCarOnRamp_102 : decode cX8_runCarOnRamp 102 = .ok (.if_icmp .lt 12, 3) := by decide +kernel
theorem dX8_runCarOnRamp_105 : decode cX8_runCarOnRamp 105 = .ok (.aload_n 0, 1) := by decide +kernel
theorem dX8_runCarOnRamp_106 : decode cX8_runCarOnRamp 106 = .ok (.iload_n 1, 1) := by decide +kernel
theorem dX8_runCarOnRamp_107 : decode cX8_runCarOnRamp 107 = .ok (.invokevirtual 131, 3) := by decide +kernel
theorem dX8_runCarOnRamp_110 : decode cX8_runCarOnRamp 110 = .ok (.aload_n 0, 1) := by decide +kernel
theorem dX8_runCarOnRamp_111 : decode cX8_runCarOnRamp 111 = .ok (.invokevirtual 79, 3) := by decide +kernel
theorem dX8_runCarOnRamp_114 : decode cX8_runCarOnRamp 114 = .ok (.return_, 1) := by decide +kernel
set_option maxRecDepth 20000 in
theorem ggX8_runQueue_X8_reasonFor : GoodIn wsX8_runQueue wsX8_reasonFor := goodIn_r _ [8, 1, 3, 9, 10, 11, 12, 13, 7, 14, 15, 16, 17, 18, 19, 20, 21, 22, 23, 24, 25, 26, 27, 28, 29, 30, 55, 56, 57, 58, 59, 60, 61, 62, 63, 64, 65, 66, 67] (by decide +kernel) (by decide +kernel)
set_option maxRecDepth 20000 in
theorem gX8_runQueue_X8_reasonFor : GoodIn wsX8_runQueue (wsV RX8 135 RX8 yX8_reasonFor wsX8_reasonFor) := goodIn_app (goodIn_of _ (by decide +kernel)) ggX8_runQueue_X8_reasonFor
set_option maxRecDepth 20000 in
theorem ggX8_runQueue_X8_begin : GoodIn wsX8_runQueue wsX8_begin := goodIn_r _ [34, 2, 1, 30, 25, 35, 36, 37, 11, 12, 13, 7, 14, 15, 16, 17, 18, 19, 20, 26, 27, 28, 29, 3, 38, 39, 40, 41, 42, 43, 44, 45, 55, 56, 57, 58, 59, 60, 61, 62, 63, 64, 65, 66, 67] (by decide +kernel) (by decide +kernel)
set_option maxRecDepth 20000 in
theorem gX8_runQueue_X8_begin : GoodIn wsX8_runQueue (wsV RX8 138 RX8 yX8_begin wsX8_begin) := goodIn_app (goodIn_of _ (by decide +kernel)) ggX8_runQueue_X8_begin
set_option maxRecDepth 20000 in
theorem ggX8_runQueue_X8_callCrew : GoodIn wsX8_runQueue wsX8_callCrew := goodIn_r _ [49, 2, 1, 4, 5, 6, 7, 8, 3, 9, 10, 11, 12, 13, 14, 15, 16, 17, 18, 19, 20, 21, 22, 23, 24, 25, 26, 27, 28, 29, 30, 31, 32, 33, 34, 35, 36, 37, 38, 39, 40, 41, 42, 43, 44, 45, 50, 51, 52, 53, 54, 55, 56, 57, 58, 59, 60, 61, 62, 63, 64, 65, 66, 67] (by decide +kernel) (by decide +kernel)
set_option maxRecDepth 20000 in
theorem gX8_runQueue_X8_callCrew : GoodIn wsX8_runQueue (wsV RX8 141 RX8 yX8_callCrew wsX8_callCrew) := goodIn_app (goodIn_of _ (by decide +kernel)) ggX8_runQueue_X8_callCrew
theorem dX8_runQueue_0 : decode cX8_runQueue 0 = .ok (.aload_n 0, 1) := by decide +kernel
theorem dX8_runQueue_1 : decode cX8_runQueue 1 = .ok (.getfield 11, 3) := by decide +kernel
theorem dX8_runQueue_4 : decode cX8_runQueue 4 = .ok (.bipush 8, 2) := by decide +kernel
theorem dX8_runQueue_6 : decode cX8_runQueue 6 = .ok (.iaload, 1) := by decide +kernel
theorem dX8_runQueue_7 : decode cX8_runQueue 7 = .ok (.iconst (-1), 1) := by decide +kernel
theorem dX8_runQueue_8 : decode cX8_runQueue 8 = .ok (.if_icmp .ne 13, 3) := by decide +kernel
theorem dX8_runQueue_11 : decode cX8_runQueue 11 = .ok (.aload_n 0, 1) := by decide +kernel
theorem dX8_runQueue_12 : decode cX8_runQueue 12 = .ok (.getfield 11, 3) := by decide +kernel
theorem dX8_runQueue_15 : decode cX8_runQueue 15 = .ok (.iconst 1, 1) := by decide +kernel
theorem dX8_runQueue_16 : decode cX8_runQueue 16 = .ok (.iaload, 1) := by decide +kernel
theorem dX8_runQueue_17 : decode cX8_runQueue 17 = .ok (.iconst 1, 1) := by decide +kernel
theorem dX8_runQueue_18 : decode cX8_runQueue 18 = .ok (.if_icmp .ge 4, 3) := by decide +kernel
theorem dX8_runQueue_21 : decode cX8_runQueue 21 = .ok (.return_, 1) := by decide +kernel
theorem dX8_runQueue_22 : decode cX8_runQueue 22 = .ok (.aload_n 0, 1) := by decide +kernel
theorem dX8_runQueue_23 : decode cX8_runQueue 23 = .ok (.aload_n 0, 1) := by decide +kernel
theorem dX8_runQueue_24 : decode cX8_runQueue 24 = .ok (.getfield 32, 3) := by decide +kernel
theorem dX8_runQueue_27 : decode cX8_runQueue 27 = .ok (.iconst 0, 1) := by decide +kernel
theorem dX8_runQueue_28 : decode cX8_runQueue 28 = .ok (.iaload, 1) := by decide +kernel
theorem dX8_runQueue_29 : decode cX8_runQueue 29 = .ok (.invokevirtual 135, 3) := by decide +kernel
theorem dX8_runQueue_32 : decode cX8_runQueue 32 = .ok (.istore_n 1, 1) := by decide +kernel
theorem dX8_runQueue_33 : decode cX8_runQueue 33 = .ok (.iload_n 1, 1) := by decide +kernel
theorem dX8_runQueue_34 : decode cX8_runQueue 34 = .ok (.ifCond .ne 11, 3) := by decide +kernel
theorem dX8_runQueue_37 : decode cX8_runQueue 37 = .ok (.aload_n 0, 1) := by decide +kernel
theorem dX8_runQueue_38 : decode cX8_runQueue 38 = .ok (.iconst 0, 1) := by decide +kernel
theorem dX8_runQueue_39 : decode cX8_runQueue 39 = .ok (.invokevirtual 138, 3) := by decide +kernel
theorem dX8_runQueue_42 : decode cX8_runQueue 42 = .ok (.goto 41, 3) := by decide +kernel
theorem dX8_runQueue_45 : decode cX8_runQueue 45 = .ok (.iload_n 1, 1) := by decide +kernel
theorem dX8_runQueue_46 : decode cX8_runQueue 46 = .ok (.iconst 1, 1) := by decide +kernel
theorem dX8_runQueue_47 : decode cX8_runQueue 47 = .ok (.if_icmp .eq 36, 3) := by decide +kernel
theorem dX8_runQueue_50 : decode cX8_runQueue 50 = .ok (.aload_n 0, 1) := by decide +kernel
theorem dX8_runQueue_51 : decode cX8_runQueue 51 = .ok (.getfield 11, 3) := by decide +kernel
theorem dX8_runQueue_54 : decode cX8_runQueue 54 = .ok (.bipush 11, 2) := by decide +kernel
theorem dX8_runQueue_56 : decode cX8_runQueue 56 = .ok (.dup2, 1) := by decide +kernel
theorem dX8_runQueue_57 : decode cX8_runQueue 57 = .ok (.iaload, 1) := by decide +kernel
theorem dX8_runQueue_58 : decode cX8_runQueue 58 = .ok (.iconst 1, 1) := by decide +kernel
theorem dX8_runQueue_59 : decode cX8_runQueue 59 = .ok (.iadd, 1) := by decide +kernel
theorem dX8_runQueue_60 : decode cX8_runQueue 60 = .ok (.iastore, 1) := by decide +kernel
theorem dX8_runQueue_61 : decode cX8_runQueue 61 = .ok (.aload_n 0, 1) := by decide +kernel
theorem dX8_runQueue_62 : decode cX8_runQueue 62 = .ok (.getfield 11, 3) := by decide +kernel
theorem dX8_runQueue_65 : decode cX8_runQueue 65 = .ok (.bipush 11, 2) := by decide +kernel
theorem dX8_runQueue_67 : decode cX8_runQueue 67 = .ok (.iaload, 1) := by decide +kernel
theorem dX8_runQueue_68 : decode cX8_runQueue 68 = .ok (.aload_n 0, 1) := by decide +kernel
theorem dX8_runQueue_69 : decode cX8_runQueue 69 = .ok (.getfield 19, 3) := by decide +kernel
theorem dX8_runQueue_72 : decode cX8_runQueue 72 = .ok (.bipush 13, 2) := by decide +kernel
theorem dX8_runQueue_74 : decode cX8_runQueue 74 = .ok (.iaload, 1) := by decide +kernel
theorem dX8_runQueue_75 : decode cX8_runQueue 75 = .ok (.if_icmp .lt 8, 3) := by decide +kernel
theorem dX8_runQueue_78 : decode cX8_runQueue 78 = .ok (.aload_n 0, 1) := by decide +kernel
theorem dX8_runQueue_79 : decode cX8_runQueue 79 = .ok (.iload_n 1, 1) := by decide +kernel
theorem dX8_runQueue_80 : decode cX8_runQueue 80 = .ok (.invokevirtual 141, 3) := by decide +kernel
theorem dX8_runQueue_83 : decode cX8_runQueue 83 = .ok (.return_, 1) := by decide +kernel
set_option maxRecDepth 20000 in
theorem ggX8_callCrew_X8_reasonFor : GoodIn wsX8_callCrew wsX8_reasonFor := goodIn_r _ [7, 2, 8, 9, 10, 11, 12, 13, 6, 14, 15, 16, 17, 18, 19, 20, 21, 22, 23, 24, 25, 26, 27, 28, 29, 30, 51, 52, 53, 54, 55, 56, 57, 58, 59, 60, 61, 62, 63] (by decide +kernel) (by decide +kernel)
set_option maxRecDepth 20000 in
theorem gX8_callCrew_X8_reasonFor : GoodIn wsX8_callCrew (wsV RX8 135 RX8 yX8_reasonFor wsX8_reasonFor) := goodIn_app (goodIn_of _ (by decide +kernel)) ggX8_callCrew_X8_reasonFor
set_option maxRecDepth 20000 in
theorem ggX8_callCrew_X8_begin : GoodIn wsX8_callCrew wsX8_begin := goodIn_r _ [34, 1, 2, 30, 25, 35, 36, 37, 11, 12, 13, 6, 14, 15, 16, 17, 18, 19, 20, 26, 27, 28, 29, 8, 38, 39, 40, 41, 42, 43, 44, 45, 51, 52, 53, 54, 55, 56, 57, 58, 59, 60, 61, 62, 63] (by decide +kernel) (by decide +kernel)
set_option maxRecDepth 20000 in
theorem gX8_callCrew_X8_begin : GoodIn wsX8_callCrew (wsV RX8 138 RX8 yX8_begin wsX8_begin) := goodIn_app (goodIn_of _ (by decide +kernel)) ggX8_callCrew_X8_begin
set_option maxRecDepth 20000 in
theorem ggX8_callCrew_X8_keepCall : GoodIn wsX8_callCrew wsX8_keepCall := goodIn_r _ [49, 2, 50, 51, 52, 53, 54, 55, 56, 57, 58, 59, 60, 61, 62, 63] (by decide +kernel) (by decide +kernel)
set_option maxRecDepth 20000 in
theorem gX8_callCrew_X8_keepCall : GoodIn wsX8_callCrew (wsV RX8 144 RX8 yX8_keepCall wsX8_keepCall) := goodIn_app (goodIn_of _ (by decide +kernel)) ggX8_callCrew_X8_keepCall
theorem dX8_callCrew_0 : decode cX8_callCrew 0 = .ok (.aload_n 0, 1) := by decide +kernel
theorem dX8_callCrew_1 : decode cX8_callCrew 1 = .ok (.getfield 32, 3) := by decide +kernel
theorem dX8_callCrew_4 : decode cX8_callCrew 4 = .ok (.iconst 0, 1) := by decide +kernel
theorem dX8_callCrew_5 : decode cX8_callCrew 5 = .ok (.iaload, 1) := by decide +kernel
theorem dX8_callCrew_6 : decode cX8_callCrew 6 = .ok (.istore_n 2, 1) := by decide +kernel
theorem dX8_callCrew_7 : decode cX8_callCrew 7 = .ok (.iconst (-1), 1) := by decide +kernel
theorem dX8_callCrew_8 : decode cX8_callCrew 8 = .ok (.istore_n 3, 1) := by decide +kernel
theorem dX8_callCrew_9 : decode cX8_callCrew 9 = .ok (.iconst 1, 1) := by decide +kernel
theorem dX8_callCrew_10 : decode cX8_callCrew 10 = .ok (.istore 4, 2) := by decide +kernel
theorem dX8_callCrew_12 : decode cX8_callCrew 12 = .ok (.iload 4, 2) := by decide +kernel
theorem dX8_callCrew_14 : decode cX8_callCrew 14 = .ok (.aload_n 0, 1) := by decide +kernel
theorem dX8_callCrew_15 : decode cX8_callCrew 15 = .ok (.getfield 11, 3) := by decide +kernel
theorem dX8_callCrew_18 : decode cX8_callCrew 18 = .ok (.iconst 1, 1) := by decide +kernel
theorem dX8_callCrew_19 : decode cX8_callCrew 19 = .ok (.iaload, 1) := by decide +kernel
theorem dX8_callCrew_20 : decode cX8_callCrew 20 = .ok (.if_icmp .ge 47, 3) := by decide +kernel
theorem dX8_callCrew_23 : decode cX8_callCrew 23 = .ok (.iload 4, 2) := by decide +kernel
theorem dX8_callCrew_25 : decode cX8_callCrew 25 = .ok (.bipush 20, 2) := by decide +kernel
theorem dX8_callCrew_27 : decode cX8_callCrew 27 = .ok (.if_icmp .ge 40, 3) := by decide +kernel
theorem dX8_callCrew_30 : decode cX8_callCrew 30 = .ok (.aload_n 0, 1) := by decide +kernel
theorem dX8_callCrew_31 : decode cX8_callCrew 31 = .ok (.aload_n 0, 1) := by decide +kernel
theorem dX8_callCrew_32 : decode cX8_callCrew 32 = .ok (.getfield 32, 3) := by decide +kernel
theorem dX8_callCrew_35 : decode cX8_callCrew 35 = .ok (.iload 4, 2) := by decide +kernel
theorem dX8_callCrew_37 : decode cX8_callCrew 37 = .ok (.iaload, 1) := by decide +kernel
theorem dX8_callCrew_38 : decode cX8_callCrew 38 = .ok (.invokevirtual 135, 3) := by decide +kernel
theorem dX8_callCrew_41 : decode cX8_callCrew 41 = .ok (.ifCond .ne 20, 3) := by decide +kernel
theorem dX8_callCrew_44 : decode cX8_callCrew 44 = .ok (.aload_n 0, 1) := by decide +kernel
theorem dX8_callCrew_45 : decode cX8_callCrew 45 = .ok (.getfield 32, 3) := by decide +kernel
theorem dX8_callCrew_48 : decode cX8_callCrew 48 = .ok (.iload 4, 2) := by decide +kernel
theorem dX8_callCrew_50 : decode cX8_callCrew 50 = .ok (.iaload, 1) := by decide +kernel
theorem dX8_callCrew_51 : decode cX8_callCrew 51 = .ok (.istore_n 3, 1) := by decide +kernel
theorem dX8_callCrew_52 : decode cX8_callCrew 52 = .ok (.aload_n 0, 1) := by decide +kernel
theorem dX8_callCrew_53 : decode cX8_callCrew 53 = .ok (.iload 4, 2) := by decide +kernel
theorem dX8_callCrew_55 : decode cX8_callCrew 55 = .ok (.invokevirtual 138, 3) := by decide +kernel
theorem dX8_callCrew_58 : decode cX8_callCrew 58 = .ok (.goto 9, 3) := by decide +kernel
theorem dX8_callCrew_61 : decode cX8_callCrew 61 = .ok (.iinc 4 1, 3) := by decide +kernel
theorem dX8_callCrew_64 : decode cX8_callCrew 64 = .ok (.goto (-52), 3) := by decide +kernel
theorem dX8_callCrew_67 : decode cX8_callCrew 67 = .ok (.aload_n 0, 1) := by decide +kernel
theorem dX8_callCrew_68 : decode cX8_callCrew 68 = .ok (.iload_n 2, 1) := by decide +kernel
theorem dX8_callCrew_69 : decode cX8_callCrew 69 = .ok (.iload_n 1, 1) := by decide +kernel
theorem dX8_callCrew_70 : decode cX8_callCrew 70 = .ok (.iload_n 3, 1) := by decide +kernel
theorem dX8_callCrew_71 : decode cX8_callCrew 71 = .ok (.invokevirtual 144, 3) := by decide +kernel
theorem dX8_callCrew_74 : decode cX8_callCrew 74 = .ok (.aload_n 0, 1) := by decide +kernel
theorem dX8_callCrew_75 : decode cX8_callCrew 75 = .ok (.getfield 11, 3) := by decide +kernel
theorem dX8_callCrew_78 : decode cX8_callCrew 78 = .ok (.bipush 11, 2) := by decide +kernel
theorem dX8_callCrew_80 : decode cX8_callCrew 80 = .ok (.iconst 0, 1) := by decide +kernel
theorem dX8_callCrew_81 : decode cX8_callCrew 81 = .ok (.iastore, 1) := by decide +kernel
theorem dX8_callCrew_82 : decode cX8_callCrew 82 = .ok (.return_, 1) := by decide +kernel
theorem dX8_keepCall_0 : decode cX8_keepCall 0 = .ok (.aload_n 0, 1) := by decide +kernel
theorem dX8_keepCall_1 : decode cX8_keepCall 1 = .ok (.getfield 11, 3) := by decide +kernel
theorem dX8_keepCall_4 : decode cX8_keepCall 4 = .ok (.bipush 12, 2) := by decide +kernel
theorem dX8_keepCall_6 : decode cX8_keepCall 6 = .ok (.iaload, 1) := by decide +kernel
theorem dX8_keepCall_7 : decode cX8_keepCall 7 = .ok (.bipush 20, 2) := by decide +kernel
theorem dX8_keepCall_9 : decode cX8_keepCall 9 = .ok (.irem, 1) := by decide +kernel
theorem dX8_keepCall_10 : decode cX8_keepCall 10 = .ok (.iconst 4, 1) := by decide +kernel
theorem dX8_keepCall_11 : decode cX8_keepCall 11 = .ok (.imul, 1) := by decide +kernel
theorem dX8_keepCall_12 : decode cX8_keepCall 12 = .ok (.istore 4, 2) := by decide +kernel
theorem dX8_keepCall_14 : decode cX8_keepCall 14 = .ok (.iload 4, 2) := by decide +kernel
theorem dX8_keepCall_16 : decode cX8_keepCall 16 = .ok (.ifCond .lt 15, 3) := by decide +kernel
theorem dX8_keepCall_19 : decode cX8_keepCall 19 = .ok (.iload 4, 2) := by decide +kernel
theorem dX8_keepCall_21 : decode cX8_keepCall 21 = .ok (.iconst 4, 1) := by decide +kernel
theorem dX8_keepCall_22 : decode cX8_keepCall 22 = .ok (.iadd, 1) := by decide +kernel
theorem dX8_keepCall_23 : decode cX8_keepCall 23 = .ok (.aload_n 0, 1) := by decide +kernel
theorem dX8_keepCall_24 : decode cX8_keepCall 24 = .ok (.getfield 49, 3) := by decide +kernel
theorem dX8_keepCall_27 : decode cX8_keepCall 27 = .ok (.arraylength, 1) := by decide +kernel
theorem dX8_keepCall_28 : decode cX8_keepCall 28 = .ok (.if_icmp .le 4, 3) := by decide +kernel
theorem dX8_keepCall_31 : decode cX8_keepCall 31 = .ok (.return_, 1) := by decide +kernel
theorem dX8_keepCall_32 : decode cX8_keepCall 32 = .ok (.aload_n 0, 1) := by decide +kernel
theorem dX8_keepCall_33 : decode cX8_keepCall 33 = .ok (.getfield 49, 3) := by decide +kernel
theorem dX8_keepCall_36 : decode cX8_keepCall 36 = .ok (.iload 4, 2) := by decide +kernel
theorem dX8_keepCall_38 : decode cX8_keepCall 38 = .ok (.iconst 0, 1) := by decide +kernel
theorem dX8_keepCall_39 : decode cX8_keepCall 39 = .ok (.iadd, 1) := by decide +kernel
theorem dX8_keepCall_40 : decode cX8_keepCall 40 = .ok (.aload_n 0, 1) := by decide +kernel
theorem dX8_keepCall_41 : decode cX8_keepCall 41 = .ok (.getfield 11, 3) := by decide +kernel
theorem dX8_keepCall_44 : decode cX8_keepCall 44 = .ok (.iconst 0, 1) := by decide +kernel
theorem dX8_keepCall_45 : decode cX8_keepCall 45 = .ok (.iaload, 1) := by decide +kernel
theorem dX8_keepCall_46 : decode cX8_keepCall 46 = .ok (.iastore, 1) := by decide +kernel
theorem dX8_keepCall_47 : decode cX8_keepCall 47 = .ok (.aload_n 0, 1) := by decide +kernel
theorem dX8_keepCall_48 : decode cX8_keepCall 48 = .ok (.getfield 49, 3) := by decide +kernel
theorem dX8_keepCall_51 : decode cX8_keepCall 51 = .ok (.iload 4, 2) := by decide +kernel
theorem dX8_keepCall_53 : decode cX8_keepCall 53 = .ok (.iconst 1, 1) := by decide +kernel
theorem dX8_keepCall_54 : decode cX8_keepCall 54 = .ok (.iadd, 1) := by decide +kernel
theorem dX8_keepCall_55 : decode cX8_keepCall 55 = .ok (.iload_n 1, 1) := by decide +kernel
theorem dX8_keepCall_56 : decode cX8_keepCall 56 = .ok (.iastore, 1) := by decide +kernel
theorem dX8_keepCall_57 : decode cX8_keepCall 57 = .ok (.aload_n 0, 1) := by decide +kernel
theorem dX8_keepCall_58 : decode cX8_keepCall 58 = .ok (.getfield 49, 3) := by decide +kernel
theorem dX8_keepCall_61 : decode cX8_keepCall 61 = .ok (.iload 4, 2) := by decide +kernel
theorem dX8_keepCall_63 : decode cX8_keepCall 63 = .ok (.iconst 2, 1) := by decide +kernel
theorem dX8_keepCall_64 : decode cX8_keepCall 64 = .ok (.iadd, 1) := by decide +kernel
theorem dX8_keepCall_65 : decode cX8_keepCall 65 = .ok (.iload_n 2, 1) := by decide +kernel
theorem dX8_keepCall_66 : decode cX8_keepCall 66 = .ok (.iastore, 1) := by decide +kernel
theorem dX8_keepCall_67 : decode cX8_keepCall 67 = .ok (.aload_n 0, 1) := by decide +kernel
theorem dX8_keepCall_68 : decode cX8_keepCall 68 = .ok (.getfield 49, 3) := by decide +kernel
theorem dX8_keepCall_71 : decode cX8_keepCall 71 = .ok (.iload 4, 2) := by decide +kernel
theorem dX8_keepCall_73 : decode cX8_keepCall 73 = .ok (.iconst 3, 1) := by decide +kernel
theorem dX8_keepCall_74 : decode cX8_keepCall 74 = .ok (.iadd, 1) := by decide +kernel
theorem dX8_keepCall_75 : decode cX8_keepCall 75 = .ok (.iload_n 3, 1) := by decide +kernel
theorem dX8_keepCall_76 : decode cX8_keepCall 76 = .ok (.iastore, 1) := by decide +kernel
theorem dX8_keepCall_77 : decode cX8_keepCall 77 = .ok (.aload_n 0, 1) := by decide +kernel
theorem dX8_keepCall_78 : decode cX8_keepCall 78 = .ok (.getfield 11, 3) := by decide +kernel
theorem dX8_keepCall_81 : decode cX8_keepCall 81 = .ok (.bipush 12, 2) := by decide +kernel
theorem dX8_keepCall_83 : decode cX8_keepCall 83 = .ok (.dup2, 1) := by decide +kernel
theorem dX8_keepCall_84 : decode cX8_keepCall 84 = .ok (.iaload, 1) := by decide +kernel
theorem dX8_keepCall_85 : decode cX8_keepCall 85 = .ok (.iconst 1, 1) := by decide +kernel
theorem dX8_keepCall_86 : decode cX8_keepCall 86 = .ok (.iadd, 1) := by decide +kernel
theorem dX8_keepCall_87 : decode cX8_keepCall 87 = .ok (.iastore, 1) := by decide +kernel
theorem dX8_keepCall_88 : decode cX8_keepCall 88 = .ok (.return_, 1) := by decide +kernel
set_option maxRecDepth 20000 in
theorem ggX8_begin_X9_at : GoodIn wsX8_begin wsX9_at := goodIn_r _ [7] (by decide +kernel) (by decide +kernel)
set_option maxRecDepth 20000 in
theorem gX8_begin_X9_at_n98 : GoodIn wsX8_begin (wsX9_at) := ggX8_begin_X9_at
set_option maxRecDepth 20000 in
theorem ggX8_begin_X8_carFact : GoodIn wsX8_begin wsX8_carFact := goodIn_r _ [12, 13, 32, 33, 34, 35, 36, 37, 38, 39, 40, 41, 42, 43, 44] (by decide +kernel) (by decide +kernel)
set_option maxRecDepth 20000 in
theorem gX8_begin_X8_carFact : GoodIn wsX8_begin (wsV RX8 92 RX8 yX8_carFact wsX8_carFact) := goodIn_app (goodIn_of _ (by decide +kernel)) ggX8_begin_X8_carFact
set_option maxRecDepth 20000 in
theorem ggX8_begin_X8_kindFact : GoodIn wsX8_begin wsX8_kindFact := goodIn_r _ [17, 18, 32, 33, 34, 35, 36, 37, 38, 39, 40, 41, 42, 43, 44] (by decide +kernel) (by decide +kernel)
set_option maxRecDepth 20000 in
theorem gX8_begin_X8_kindFact : GoodIn wsX8_begin (wsV RX8 95 RX8 yX8_kindFact wsX8_kindFact) := goodIn_app (goodIn_of _ (by decide +kernel)) ggX8_begin_X8_kindFact
set_option maxRecDepth 20000 in
theorem ggX8_begin_X8_suitingLane : GoodIn wsX8_begin wsX8_suitingLane := goodIn_r _ [22, 3, 23, 4, 32, 33, 34, 35, 36, 37, 38, 39, 40, 41, 42, 43, 44] (by decide +kernel) (by decide +kernel)
set_option maxRecDepth 20000 in
theorem gX8_begin_X8_suitingLane : GoodIn wsX8_begin (wsV RX8 109 RX8 yX8_suitingLane wsX8_suitingLane) := goodIn_app (goodIn_of _ (by decide +kernel)) ggX8_begin_X8_suitingLane
set_option maxRecDepth 20000 in
theorem ggX8_begin_X8_takeFromQueue : GoodIn wsX8_begin wsX8_takeFromQueue := goodIn_r _ [27, 2, 1, 32, 33, 34, 35, 36, 37, 38, 39, 40, 41, 42, 43, 44] (by decide +kernel) (by decide +kernel)
set_option maxRecDepth 20000 in
theorem gX8_begin_X8_takeFromQueue : GoodIn wsX8_begin (wsV RX8 147 RX8 yX8_takeFromQueue wsX8_takeFromQueue) := goodIn_app (goodIn_of _ (by decide +kernel)) ggX8_begin_X8_takeFromQueue
set_option maxRecDepth 20000 in
theorem ggX8_begin_X8_setCarFact : GoodIn wsX8_begin wsX8_setCarFact := goodIn_r _ [31, 13, 32, 33, 34, 35, 36, 37, 38, 39, 40, 41, 42, 43, 44] (by decide +kernel) (by decide +kernel)
set_option maxRecDepth 20000 in
theorem gX8_begin_X8_setCarFact : GoodIn wsX8_begin (wsV RX8 112 RX8 yX8_setCarFact wsX8_setCarFact) := goodIn_app (goodIn_of _ (by decide +kernel)) ggX8_begin_X8_setCarFact
theorem dX8_begin_0 : decode cX8_begin 0 = .ok (.aload_n 0, 1) := by decide +kernel
theorem dX8_begin_1 : decode cX8_begin 1 = .ok (.getfield 32, 3) := by decide +kernel
theorem dX8_begin_4 : decode cX8_begin 4 = .ok (.iload_n 1, 1) := by decide +kernel
theorem dX8_begin_5 : decode cX8_begin 5 = .ok (.invokestatic 98, 3) := by decide +kernel
theorem dX8_begin_8 : decode cX8_begin 8 = .ok (.istore_n 2, 1) := by decide +kernel
theorem dX8_begin_9 : decode cX8_begin 9 = .ok (.aload_n 0, 1) := by decide +kernel
theorem dX8_begin_10 : decode cX8_begin 10 = .ok (.iload_n 2, 1) := by decide +kernel
theorem dX8_begin_11 : decode cX8_begin 11 = .ok (.iconst 1, 1) := by decide +kernel
theorem dX8_begin_12 : decode cX8_begin 12 = .ok (.invokevirtual 92, 3) := by decide +kernel
theorem dX8_begin_15 : decode cX8_begin 15 = .ok (.istore_n 3, 1) := by decide +kernel
theorem dX8_begin_16 : decode cX8_begin 16 = .ok (.aload_n 0, 1) := by decide +kernel
theorem dX8_begin_17 : decode cX8_begin 17 = .ok (.aload_n 0, 1) := by decide +kernel
theorem dX8_begin_18 : decode cX8_begin 18 = .ok (.iload_n 2, 1) := by decide +kernel
theorem dX8_begin_19 : decode cX8_begin 19 = .ok (.iconst 0, 1) := by decide +kernel
theorem dX8_begin_20 : decode cX8_begin 20 = .ok (.invokevirtual 92, 3) := by decide +kernel
theorem dX8_begin_23 : decode cX8_begin 23 = .ok (.iconst 2, 1) := by decide +kernel
theorem dX8_begin_24 : decode cX8_begin 24 = .ok (.invokevirtual 95, 3) := by decide +kernel
theorem dX8_begin_27 : decode cX8_begin 27 = .ok (.istore 4, 2) := by decide +kernel
theorem dX8_begin_29 : decode cX8_begin 29 = .ok (.aload_n 0, 1) := by decide +kernel
theorem dX8_begin_30 : decode cX8_begin 30 = .ok (.iload 4, 2) := by decide +kernel
theorem dX8_begin_32 : decode cX8_begin 32 = .ok (.iload_n 3, 1) := by decide +kernel
theorem dX8_begin_33 : decode cX8_begin 33 = .ok (.invokevirtual 109, 3) := by decide +kernel
theorem dX8_begin_36 : decode cX8_begin 36 = .ok (.istore 5, 2) := by decide +kernel
theorem dX8_begin_38 : decode cX8_begin 38 = .ok (.iload 5, 2) := by decide +kernel
theorem dX8_begin_40 : decode cX8_begin 40 = .ok (.ifCond .lt 9, 3) := by decide +kernel
theorem dX8_begin_43 : decode cX8_begin 43 = .ok (.iload 5, 2) := by decide +kernel
theorem dX8_begin_45 : decode cX8_begin 45 = .ok (.iconst 3, 1) := by decide +kernel
theorem dX8_begin_46 : decode cX8_begin 46 = .ok (.if_icmp .lt 4, 3) := by decide +kernel
theorem dX8_begin_49 : decode cX8_begin 49 = .ok (.return_, 1) := by decide +kernel
theorem dX8_begin_50 : decode cX8_begin 50 = .ok (.aload_n 0, 1) := by decide +kernel
theorem dX8_begin_51 : decode cX8_begin 51 = .ok (.iload_n 1, 1) := by decide +kernel
theorem dX8_begin_52 : decode cX8_begin 52 = .ok (.invokevirtual 147, 3) := by decide +kernel
theorem dX8_begin_55 : decode cX8_begin 55 = .ok (.aload_n 0, 1) := by decide +kernel
theorem dX8_begin_56 : decode cX8_begin 56 = .ok (.iload_n 2, 1) := by decide +kernel
theorem dX8_begin_57 : decode cX8_begin 57 = .ok (.iconst 2, 1) := by decide +kernel
theorem dX8_begin_58 : decode cX8_begin 58 = .ok (.iconst 1, 1) := by decide +kernel
theorem dX8_begin_59 : decode cX8_begin 59 = .ok (.invokevirtual 112, 3) := by decide +kernel
theorem dX8_begin_62 : decode cX8_begin 62 = .ok (.aload_n 0, 1) := by decide +kernel
theorem dX8_begin_63 : decode cX8_begin 63 = .ok (.iload_n 2, 1) := by decide +kernel
theorem dX8_begin_64 : decode cX8_begin 64 = .ok (.iconst 3, 1) := by decide +kernel
theorem dX8_begin_65 : decode cX8_begin 65 = .ok (.iload 5, 2) := by decide +kernel
theorem dX8_begin_67 : decode cX8_begin 67 = .ok (.invokevirtual 112, 3) := by decide +kernel
theorem dX8_begin_70 : decode cX8_begin 70 = .ok (.aload_n 0, 1) := by decide +kernel
theorem dX8_begin_71 : decode cX8_begin 71 = .ok (.iload_n 2, 1) := by decide +kernel
theorem dX8_begin_72 : decode cX8_begin 72 = .ok (.iconst 5, 1) := by decide +kernel
theorem dX8_begin_73 : decode cX8_begin 73 = .ok (.aload_n 0, 1) := by decide +kernel
theorem dX8_begin_74 : decode cX8_begin 74 = .ok (.getfield 11, 3) := by decide +kernel
theorem dX8_begin_77 : decode cX8_begin 77 = .ok (.iconst 0, 1) := by decide +kernel
theorem dX8_begin_78 : decode cX8_begin 78 = .ok (.iaload, 1) := by decide +kernel
theorem dX8_begin_79 : decode cX8_begin 79 = .ok (.invokevirtual 112, 3) := by decide +kernel
theorem dX8_begin_82 : decode cX8_begin 82 = .ok (.aload_n 0, 1) := by decide +kernel
theorem dX8_begin_83 : decode cX8_begin 83 = .ok (.getfield 41, 3) := by decide +kernel
theorem dX8_begin_86 : decode cX8_begin 86 = .ok (.iload 5, 2) := by decide +kernel
theorem dX8_begin_88 : decode cX8_begin 88 = .ok (.dup2, 1) := by decide +kernel
theorem dX8_begin_89 : decode cX8_begin 89 = .ok (.iaload, 1) := by decide +kernel
theorem dX8_begin_90 : decode cX8_begin 90 = .ok (.iload_n 3, 1) := by decide +kernel
theorem dX8_begin_91 : decode cX8_begin 91 = .ok (.iadd, 1) := by decide +kernel
theorem dX8_begin_92 : decode cX8_begin 92 = .ok (.iastore, 1) := by decide +kernel
theorem dX8_begin_93 : decode cX8_begin 93 = .ok (.aload_n 0, 1) := by decide +kernel
theorem dX8_begin_94 : decode cX8_begin 94 = .ok (.getfield 44, 3) := by decide +kernel
theorem dX8_begin_97 : decode cX8_begin 97 = .ok (.iload 5, 2) := by decide +kernel
theorem dX8_begin_99 : decode cX8_begin 99 = .ok (.dup2, 1) := by decide +kernel
theorem dX8_begin_100 : decode cX8_begin 100 = .ok (.iaload, 1) := by decide +kernel
theorem dX8_begin_101 : decode cX8_begin 101 = .ok (.iload 4, 2) := by decide +kernel
theorem dX8_begin_103 : decode cX8_begin 103 = .ok (.iadd, 1) := by decide +kernel
theorem dX8_begin_104 : decode cX8_begin 104 = .ok (.iastore, 1) := by decide +kernel
theorem dX8_begin_105 : decode cX8_begin 105 = .ok (.aload_n 0, 1) := by decide +kernel
theorem dX8_begin_106 : decode cX8_begin 106 = .ok (.getfield 11, 3) := by decide +kernel
theorem dX8_begin_109 : decode cX8_begin 109 = .ok (.bipush 8, 2) := by decide +kernel
theorem dX8_begin_111 : decode cX8_begin 111 = .ok (.iload_n 2, 1) := by decide +kernel
theorem dX8_begin_112 : decode cX8_begin 112 = .ok (.iastore, 1) := by decide +kernel
theorem dX8_begin_113 : decode cX8_begin 113 = .ok (.aload_n 0, 1) := by decide +kernel
theorem dX8_begin_114 : decode cX8_begin 114 = .ok (.getfield 11, 3) := by decide +kernel
theorem dX8_begin_117 : decode cX8_begin 117 = .ok (.bipush 11, 2) := by decide +kernel
theorem dX8_begin_119 : decode cX8_begin 119 = .ok (.iconst 0, 1) := by decide +kernel
theorem dX8_begin_120 : decode cX8_begin 120 = .ok (.iastore, 1) := by decide +kernel
theorem dX8_begin_121 : decode cX8_begin 121 = .ok (.return_, 1) := by decide +kernel
set_option maxRecDepth 20000 in
theorem ggX8_putOnDeck_X8_carFact : GoodIn wsX8_putOnDeck wsX8_carFact := goodIn_r _ [8, 9, 14, 15, 16, 17, 18, 19, 20, 21, 22, 23, 24, 25, 26] (by decide +kernel) (by decide +kernel)
set_option maxRecDepth 20000 in
theorem gX8_putOnDeck_X8_carFact : GoodIn wsX8_putOnDeck (wsV RX8 92 RX8 yX8_carFact wsX8_carFact) := goodIn_app (goodIn_of _ (by decide +kernel)) ggX8_putOnDeck_X8_carFact
set_option maxRecDepth 20000 in
theorem ggX8_putOnDeck_X8_setCarFact : GoodIn wsX8_putOnDeck wsX8_setCarFact := goodIn_r _ [13, 9, 14, 15, 16, 17, 18, 19, 20, 21, 22, 23, 24, 25, 26] (by decide +kernel) (by decide +kernel)
set_option maxRecDepth 20000 in
theorem gX8_putOnDeck_X8_setCarFact : GoodIn wsX8_putOnDeck (wsV RX8 112 RX8 yX8_setCarFact wsX8_setCarFact) := goodIn_app (goodIn_of _ (by decide +kernel)) ggX8_putOnDeck_X8_setCarFact
theorem dX8_putOnDeck_0 : decode cX8_putOnDeck 0 = .ok (.aload_n 0, 1) := by decide +kernel
theorem dX8_putOnDeck_1 : decode cX8_putOnDeck 1 = .ok (.iload_n 1, 1) := by decide +kernel
theorem dX8_putOnDeck_2 : decode cX8_putOnDeck 2 = .ok (.iconst 3, 1) := by decide +kernel
theorem dX8_putOnDeck_3 : decode cX8_putOnDeck 3 = .ok (.invokevirtual 92, 3) := by decide +kernel
theorem dX8_putOnDeck_6 : decode cX8_putOnDeck 6 = .ok (.istore_n 2, 1) := by decide +kernel
theorem dX8_putOnDeck_7 : decode cX8_putOnDeck 7 = .ok (.iload_n 2, 1) := by decide +kernel
theorem dX8_putOnDeck_8 : decode cX8_putOnDeck 8 = .ok (.ifCond .lt 28, 3) := by decide +kernel
theorem dX8_putOnDeck_11 : decode cX8_putOnDeck 11 = .ok (.iload_n 2, 1) := by decide +kernel
theorem dX8_putOnDeck_12 : decode cX8_putOnDeck 12 = .ok (.iconst 3, 1) := by decide +kernel
theorem dX8_putOnDeck_13 : decode cX8_putOnDeck 13 = .ok (.if_icmp .ge 23, 3) := by decide +kernel
theorem dX8_putOnDeck_16 : decode cX8_putOnDeck 16 = .ok (.aload_n 0, 1) := by decide +kernel
theorem dX8_putOnDeck_17 : decode cX8_putOnDeck 17 = .ok (.getfield 38, 3) := by decide +kernel
theorem dX8_putOnDeck_20 : decode cX8_putOnDeck 20 = .ok (.iload_n 2, 1) := by decide +kernel
theorem dX8_putOnDeck_21 : decode cX8_putOnDeck 21 = .ok (.iaload, 1) := by decide +kernel
theorem dX8_putOnDeck_22 : decode cX8_putOnDeck 22 = .ok (.ifCond .lt 14, 3) := by decide +kernel
theorem dX8_putOnDeck_25 : decode cX8_putOnDeck 25 = .ok (.aload_n 0, 1) := by decide +kernel
theorem dX8_putOnDeck_26 : decode cX8_putOnDeck 26 = .ok (.getfield 38, 3) := by decide +kernel
theorem dX8_putOnDeck_29 : decode cX8_putOnDeck 29 = .ok (.iload_n 2, 1) := by decide +kernel
theorem dX8_putOnDeck_30 : decode cX8_putOnDeck 30 = .ok (.iaload, 1) := by decide +kernel
theorem dX8_putOnDeck_31 : decode cX8_putOnDeck 31 = .ok (.bipush 30, 2) := by decide +kernel
theorem dX8_putOnDeck_33 : decode cX8_putOnDeck 33 = .ok (.if_icmp .lt 4, 3) := by decide +kernel
theorem dX8_putOnDeck_36 : decode cX8_putOnDeck 36 = .ok (.return_, 1) := by decide +kernel
theorem dX8_putOnDeck_37 : decode cX8_putOnDeck 37 = .ok (.aload_n 0, 1) := by decide +kernel
theorem dX8_putOnDeck_38 : decode cX8_putOnDeck 38 = .ok (.getfield 35, 3) := by decide +kernel
theorem dX8_putOnDeck_41 : decode cX8_putOnDeck 41 = .ok (.iload_n 2, 1) := by decide +kernel
theorem dX8_putOnDeck_42 : decode cX8_putOnDeck 42 = .ok (.bipush 30, 2) := by decide +kernel
theorem dX8_putOnDeck_44 : decode cX8_putOnDeck 44 = .ok (.imul, 1) := by decide +kernel
theorem dX8_putOnDeck_45 : decode cX8_putOnDeck 45 = .ok (.aload_n 0, 1) := by decide +kernel
theorem dX8_putOnDeck_46 : decode cX8_putOnDeck 46 = .ok (.getfield 38, 3) := by decide +kernel
theorem dX8_putOnDeck_49 : decode cX8_putOnDeck 49 = .ok (.iload_n 2, 1) := by decide +kernel
theorem dX8_putOnDeck_50 : decode cX8_putOnDeck 50 = .ok (.iaload, 1) := by decide +kernel
theorem dX8_putOnDeck_51 : decode cX8_putOnDeck 51 = .ok (.iadd, 1) := by decide +kernel
theorem dX8_putOnDeck_52 : decode cX8_putOnDeck 52 = .ok (.iload_n 1, 1) := by decide +kernel
theorem dX8_putOnDeck_53 : decode cX8_putOnDeck 53 = .ok (.iastore, 1) := by decide +kernel
theorem dX8_putOnDeck_54 : decode cX8_putOnDeck 54 = .ok (.aload_n 0, 1) := by decide +kernel
theorem dX8_putOnDeck_55 : decode cX8_putOnDeck 55 = .ok (.getfield 38, 3) := by decide +kernel
theorem dX8_putOnDeck_58 : decode cX8_putOnDeck 58 = .ok (.iload_n 2, 1) := by decide +kernel
theorem dX8_putOnDeck_59 : decode cX8_putOnDeck 59 = .ok (.dup2, 1) := by decide +kernel
theorem dX8_putOnDeck_60 : decode cX8_putOnDeck 60 = .ok (.iaload, 1) := by decide +kernel
theorem dX8_putOnDeck_61 : decode cX8_putOnDeck 61 = .ok (.iconst 1, 1) := by decide +kernel
theorem dX8_putOnDeck_62 : decode cX8_putOnDeck 62 = .ok (.iadd, 1) := by decide +kernel
theorem dX8_putOnDeck_63 : decode cX8_putOnDeck 63 = .ok (.iastore, 1) := by decide +kernel
theorem dX8_putOnDeck_64 : decode cX8_putOnDeck 64 = .ok (.aload_n 0, 1) := by decide +kernel
theorem dX8_putOnDeck_65 : decode cX8_putOnDeck 65 = .ok (.iload_n 1, 1) := by decide +kernel
theorem dX8_putOnDeck_66 : decode cX8_putOnDeck 66 = .ok (.iconst 2, 1) := by decide +kernel
theorem dX8_putOnDeck_67 : decode cX8_putOnDeck 67 = .ok (.iconst 2, 1) := by decide +kernel
theorem dX8_putOnDeck_68 : decode cX8_putOnDeck 68 = .ok (.invokevirtual 112, 3) := by decide +kernel
theorem dX8_putOnDeck_71 : decode cX8_putOnDeck 71 = .ok (.aload_n 0, 1) := by decide +kernel
theorem dX8_putOnDeck_72 : decode cX8_putOnDeck 72 = .ok (.iload_n 1, 1) := by decide +kernel
theorem dX8_putOnDeck_73 : decode cX8_putOnDeck 73 = .ok (.bipush 6, 2) := by decide +kernel
theorem dX8_putOnDeck_75 : decode cX8_putOnDeck 75 = .ok (.aload_n 0, 1) := by decide +kernel
theorem dX8_putOnDeck_76 : decode cX8_putOnDeck 76 = .ok (.getfield 11, 3) := by decide +kernel
theorem dX8_putOnDeck_79 : decode cX8_putOnDeck 79 = .ok (.iconst 0, 1) := by decide +kernel
theorem dX8_putOnDeck_80 : decode cX8_putOnDeck 80 = .ok (.iaload, 1) := by decide +kernel
theorem dX8_putOnDeck_81 : decode cX8_putOnDeck 81 = .ok (.invokevirtual 112, 3) := by decide +kernel
theorem dX8_putOnDeck_84 : decode cX8_putOnDeck 84 = .ok (.aload_n 0, 1) := by decide +kernel
theorem dX8_putOnDeck_85 : decode cX8_putOnDeck 85 = .ok (.getfield 11, 3) := by decide +kernel
theorem dX8_putOnDeck_88 : decode cX8_putOnDeck 88 = .ok (.bipush 7, 2) := by decide +kernel
theorem dX8_putOnDeck_90 : decode cX8_putOnDeck 90 = .ok (.dup2, 1) := by decide +kernel
theorem dX8_putOnDeck_91 : decode cX8_putOnDeck 91 = .ok (.iaload, 1) := by decide +kernel
theorem dX8_putOnDeck_92 : decode cX8_putOnDeck 92 = .ok (.aload_n 0, 1) := by decide +kernel
theorem dX8_putOnDeck_93 : decode cX8_putOnDeck 93 = .ok (.iload_n 1, 1) := by decide +kernel
theorem dX8_putOnDeck_94 : decode cX8_putOnDeck 94 = .ok (.iconst 1, 1) := by decide +kernel
theorem dX8_putOnDeck_95 : decode cX8_putOnDeck 95 = .ok (.invokevirtual 92, 3) := by decide +kernel
theorem dX8_putOnDeck_98 : decode cX8_putOnDeck 98 = .ok (.iadd, 1) := by decide +kernel
theorem dX8_putOnDeck_99 : decode cX8_putOnDeck 99 = .ok (.iastore, 1) := by decide +kernel
theorem dX8_putOnDeck_100 : decode cX8_putOnDeck 100 = .ok (.aload_n 0, 1) := by decide +kernel
theorem dX8_putOnDeck_101 : decode cX8_putOnDeck 101 = .ok (.getfield 11, 3) := by decide +kernel
theorem dX8_putOnDeck_104 : decode cX8_putOnDeck 104 = .ok (.iconst 2, 1) := by decide +kernel
theorem dX8_putOnDeck_105 : decode cX8_putOnDeck 105 = .ok (.dup2, 1) := by decide +kernel
theorem dX8_putOnDeck_106 : decode cX8_putOnDeck 106 = .ok (.iaload, 1) := by decide +kernel
theorem dX8_putOnDeck_107 : decode cX8_putOnDeck 107 = .ok (.iconst 1, 1) := by decide +kernel
theorem dX8_putOnDeck_108 : decode cX8_putOnDeck 108 = .ok (.iadd, 1) := by decide +kernel
theorem dX8_putOnDeck_109 : decode cX8_putOnDeck 109 = .ok (.iastore, 1) := by decide +kernel
theorem dX8_putOnDeck_110 : decode cX8_putOnDeck 110 = .ok (.aload_n 0, 1) := by decide +kernel
theorem dX8_putOnDeck_111 : decode cX8_putOnDeck 111 = .ok (.getfield 11, 3) := by decide +kernel
theorem dX8_putOnDeck_114 : decode cX8_putOnDeck 114 = .ok (.bipush 13, 2) := by decide +kernel
theorem dX8_putOnDeck_116 : decode cX8_putOnDeck 116 = .ok (.dup2, 1) := by decide +kernel
theorem dX8_putOnDeck_117 : decode cX8_putOnDeck 117 = .ok (.iaload, 1) := by decide +kernel
theorem dX8_putOnDeck_118 : decode cX8_putOnDeck 118 = .ok (.iconst 1, 1) := by decide +kernel
theorem dX8_putOnDeck_119 : decode cX8_putOnDeck 119 = .ok (.iadd, 1) := by decide +kernel
theorem dX8_putOnDeck_120 : decode cX8_putOnDeck 120 = .ok (.iastore, 1) := by decide +kernel
theorem dX8_putOnDeck_121 : decode cX8_putOnDeck 121 = .ok (.aload_n 0, 1) := by decide +kernel
theorem dX8_putOnDeck_122 : decode cX8_putOnDeck 122 = .ok (.getfield 11, 3) := by decide +kernel
theorem dX8_putOnDeck_125 : decode cX8_putOnDeck 125 = .ok (.bipush 8, 2) := by decide +kernel
theorem dX8_putOnDeck_127 : decode cX8_putOnDeck 127 = .ok (.iconst (-1), 1) := by decide +kernel
theorem dX8_putOnDeck_128 : decode cX8_putOnDeck 128 = .ok (.iastore, 1) := by decide +kernel
theorem dX8_putOnDeck_129 : decode cX8_putOnDeck 129 = .ok (.aload_n 0, 1) := by decide +kernel
theorem dX8_putOnDeck_130 : decode cX8_putOnDeck 130 = .ok (.getfield 11, 3) := by decide +kernel
theorem dX8_putOnDeck_133 : decode cX8_putOnDeck 133 = .ok (.bipush 9, 2) := by decide +kernel
theorem dX8_putOnDeck_135 : decode cX8_putOnDeck 135 = .ok (.iconst 0, 1) := by decide +kernel
theorem dX8_putOnDeck_136 : decode cX8_putOnDeck 136 = .ok (.iastore, 1) := by decide +kernel
theorem dX8_putOnDeck_137 : decode cX8_putOnDeck 137 = .ok (.return_, 1) := by decide +kernel
set_option maxRecDepth 20000 in
theorem ggX8_takeFromDeck_X8_lastOnDeck : GoodIn wsX8_takeFromDeck wsX8_lastOnDeck := goodIn_r _ [9, 1, 10, 11, 12, 8, 13, 14, 15, 16, 17, 58, 59, 60, 61, 62, 63, 64, 65, 66, 67, 68, 69, 70] (by decide +kernel) (by decide +kernel)
set_option maxRecDepth 20000 in
theorem gX8_takeFromDeck_X8_lastOnDeck : GoodIn wsX8_takeFromDeck (wsV RX8 150 RX8 yX8_lastOnDeck wsX8_lastOnDeck) := goodIn_app (goodIn_of _ (by decide +kernel)) ggX8_takeFromDeck_X8_lastOnDeck
set_option maxRecDepth 20000 in
theorem ggX8_takeFromDeck_X8_carFact : GoodIn wsX8_takeFromDeck wsX8_carFact := goodIn_r _ [21, 22, 58, 59, 60, 61, 62, 63, 64, 65, 66, 67, 68, 69, 70] (by decide +kernel) (by decide +kernel)
set_option maxRecDepth 20000 in
theorem gX8_takeFromDeck_X8_carFact : GoodIn wsX8_takeFromDeck (wsV RX8 92 RX8 yX8_carFact wsX8_carFact) := goodIn_app (goodIn_of _ (by decide +kernel)) ggX8_takeFromDeck_X8_carFact
set_option maxRecDepth 20000 in
theorem ggX8_takeFromDeck_X8_carKindFact : GoodIn wsX8_takeFromDeck wsX8_carKindFact := goodIn_r _ [26, 18, 19, 20, 8, 21, 22, 27, 28, 29, 30, 31, 58, 59, 60, 61, 62, 63, 64, 65, 66, 67, 68, 69, 70] (by decide +kernel) (by decide +kernel)
set_option maxRecDepth 20000 in
theorem gX8_takeFromDeck_X8_carKindFact : GoodIn wsX8_takeFromDeck (wsV RX8 128 RX8 yX8_carKindFact wsX8_carKindFact) := goodIn_app (goodIn_of _ (by decide +kernel)) ggX8_takeFromDeck_X8_carKindFact
set_option maxRecDepth 20000 in
theorem ggX8_takeFromDeck_X8_setCarFact : GoodIn wsX8_takeFromDeck wsX8_setCarFact := goodIn_r _ [35, 22, 58, 59, 60, 61, 62, 63, 64, 65, 66, 67, 68, 69, 70] (by decide +kernel) (by decide +kernel)
set_option maxRecDepth 20000 in
theorem gX8_takeFromDeck_X8_setCarFact : GoodIn wsX8_takeFromDeck (wsV RX8 112 RX8 yX8_setCarFact wsX8_setCarFact) := goodIn_app (goodIn_of _ (by decide +kernel)) ggX8_takeFromDeck_X8_setCarFact
set_option maxRecDepth 20000 in
theorem ggX8_takeFromDeck_X8_measureAll : GoodIn wsX8_takeFromDeck wsX8_measureAll := goodIn_r _ [39, 4, 40, 41, 42, 43, 8, 44, 45, 46, 47, 48, 49, 50, 51, 52, 53, 54, 55, 56, 16, 57, 58, 59, 60, 61, 62, 63, 64, 65, 66, 67, 68, 69, 70] (by decide +kernel) (by decide +kernel)
set_option maxRecDepth 20000 in
theorem gX8_takeFromDeck_X8_measureAll : GoodIn wsX8_takeFromDeck (wsV RX8 79 RX8 yX8_measureAll wsX8_measureAll) := goodIn_app (goodIn_of _ (by decide +kernel)) ggX8_takeFromDeck_X8_measureAll
theorem dX8_takeFromDeck_0 : decode cX8_takeFromDeck 0 = .ok (.aload_n 0, 1) := by decide +kernel
theorem dX8_takeFromDeck_1 : decode cX8_takeFromDeck 1 = .ok (.iload_n 1, 1) := by decide +kernel
theorem dX8_takeFromDeck_2 : decode cX8_takeFromDeck 2 = .ok (.invokevirtual 150, 3) := by decide +kernel
theorem dX8_takeFromDeck_5 : decode cX8_takeFromDeck 5 = .ok (.istore_n 2, 1) := by decide +kernel
theorem dX8_takeFromDeck_6 : decode cX8_takeFromDeck 6 = .ok (.iload_n 2, 1) := by decide +kernel
theorem dX8_takeFromDeck_7 : decode cX8_takeFromDeck 7 = .ok (.iconst (-1), 1) := by decide +kernel
theorem dX8_takeFromDeck_8 : decode cX8_takeFromDeck 8 = .ok (.if_icmp .eq 12, 3) := by decide +kernel
theorem dX8_takeFromDeck_11 : decode cX8_takeFromDeck 11 = .ok (.iload_n 1, 1) := by decide +kernel
theorem dX8_takeFromDeck_12 : decode cX8_takeFromDeck 12 = .ok (.ifCond .lt 8, 3) := by decide +kernel
theorem dX8_takeFromDeck_15 : decode cX8_takeFromDeck 15 = .ok (.iload_n 1, 1) := by decide +kernel
theorem dX8_takeFromDeck_16 : decode cX8_takeFromDeck 16 = .ok (.iconst 3, 1) := by decide +kernel
theorem dX8_takeFromDeck_17 : decode cX8_takeFromDeck 17 = .ok (.if_icmp .lt 4, 3) := by decide +kernel
theorem dX8_takeFromDeck_20 : decode cX8_takeFromDeck 20 = .ok (.return_, 1) := by decide +kernel
theorem dX8_takeFromDeck_21 : decode cX8_takeFromDeck 21 = .ok (.aload_n 0, 1) := by decide +kernel
theorem dX8_takeFromDeck_22 : decode cX8_takeFromDeck 22 = .ok (.iload_n 2, 1) := by decide +kernel
theorem dX8_takeFromDeck_23 : decode cX8_takeFromDeck 23 = .ok (.iconst 1, 1) := by decide +kernel
theorem dX8_takeFromDeck_24 : decode cX8_takeFromDeck 24 = .ok (.invokevirtual 92, 3) := by decide +kernel
theorem dX8_takeFromDeck_27 : decode cX8_takeFromDeck 27 = .ok (.istore_n 3, 1) := by decide +kernel
theorem dX8_takeFromDeck_28 : decode cX8_takeFromDeck 28 = .ok (.aload_n 0, 1) := by decide +kernel
theorem dX8_takeFromDeck_29 : decode cX8_takeFromDeck 29 = .ok (.getfield 38, 3) := by decide +kernel
theorem dX8_takeFromDeck_32 : decode cX8_takeFromDeck 32 = .ok (.iload_n 1, 1) := by decide +kernel
theorem dX8_takeFromDeck_33 : decode cX8_takeFromDeck 33 = .ok (.dup2, 1) := by decide +kernel
theorem dX8_takeFromDeck_34 : decode cX8_takeFromDeck 34 = .ok (.iaload, 1) := by decide +kernel
theorem dX8_takeFromDeck_35 : decode cX8_takeFromDeck 35 = .ok (.iconst 1, 1) := by decide +kernel
theorem dX8_takeFromDeck_36 : decode cX8_takeFromDeck 36 = .ok (.isub, 1) := by decide +kernel
theorem dX8_takeFromDeck_37 : decode cX8_takeFromDeck 37 = .ok (.iastore, 1) := by decide +kernel
theorem dX8_takeFromDeck_38 : decode cX8_takeFromDeck 38 = .ok (.aload_n 0, 1) := by decide +kernel
theorem dX8_takeFromDeck_39 : decode cX8_takeFromDeck 39 = .ok (.getfield 41, 3) := by decide +kernel
theorem dX8_takeFromDeck_42 : decode cX8_takeFromDeck 42 = .ok (.iload_n 1, 1) := by decide +kernel
theorem dX8_takeFromDeck_43 : decode cX8_takeFromDeck 43 = .ok (.dup2, 1) := by decide +kernel
theorem dX8_takeFromDeck_44 : decode cX8_takeFromDeck 44 = .ok (.iaload, 1) := by decide +kernel
theorem dX8_takeFromDeck_45 : decode cX8_takeFromDeck 45 = .ok (.iload_n 3, 1) := by decide +kernel
theorem dX8_takeFromDeck_46 : decode cX8_takeFromDeck 46 = .ok (.isub, 1) := by decide +kernel
theorem dX8_takeFromDeck_47 : decode cX8_takeFromDeck 47 = .ok (.iastore, 1) := by decide +kernel
theorem dX8_takeFromDeck_48 : decode cX8_takeFromDeck 48 = .ok (.aload_n 0, 1) := by decide +kernel
theorem dX8_takeFromDeck_49 : decode cX8_takeFromDeck 49 = .ok (.getfield 44, 3) := by decide +kernel
theorem dX8_takeFromDeck_52 : decode cX8_takeFromDeck 52 = .ok (.iload_n 1, 1) := by decide +kernel
theorem dX8_takeFromDeck_53 : decode cX8_takeFromDeck 53 = .ok (.dup2, 1) := by decide +kernel
theorem dX8_takeFromDeck_54 : decode cX8_takeFromDeck 54 = .ok (.iaload, 1) := by decide +kernel
theorem dX8_takeFromDeck_55 : decode cX8_takeFromDeck 55 = .ok (.aload_n 0, 1) := by decide +kernel
theorem dX8_takeFromDeck_56 : decode cX8_takeFromDeck 56 = .ok (.iload_n 2, 1) := by decide +kernel
theorem dX8_takeFromDeck_57 : decode cX8_takeFromDeck 57 = .ok (.iconst 2, 1) := by decide +kernel
theorem dX8_takeFromDeck_58 : decode cX8_takeFromDeck 58 = .ok (.invokevirtual 128, 3) := by decide +kernel
theorem dX8_takeFromDeck_61 : decode cX8_takeFromDeck 61 = .ok (.isub, 1) := by decide +kernel
theorem dX8_takeFromDeck_62 : decode cX8_takeFromDeck 62 = .ok (.iastore, 1) := by decide +kernel
theorem dX8_takeFromDeck_63 : decode cX8_takeFromDeck 63 = .ok (.aload_n 0, 1) := by decide +kernel
theorem dX8_takeFromDeck_64 : decode cX8_takeFromDeck 64 = .ok (.iload_n 2, 1) := by decide +kernel
theorem dX8_takeFromDeck_65 : decode cX8_takeFromDeck 65 = .ok (.iconst 2, 1) := by decide +kernel
theorem dX8_takeFromDeck_66 : decode cX8_takeFromDeck 66 = .ok (.iconst 3, 1) := by decide +kernel
theorem dX8_takeFromDeck_67 : decode cX8_takeFromDeck 67 = .ok (.invokevirtual 112, 3) := by decide +kernel
theorem dX8_takeFromDeck_70 : decode cX8_takeFromDeck 70 = .ok (.aload_n 0, 1) := by decide +kernel
theorem dX8_takeFromDeck_71 : decode cX8_takeFromDeck 71 = .ok (.getfield 11, 3) := by decide +kernel
theorem dX8_takeFromDeck_74 : decode cX8_takeFromDeck 74 = .ok (.bipush 7, 2) := by decide +kernel
theorem dX8_takeFromDeck_76 : decode cX8_takeFromDeck 76 = .ok (.dup2, 1) := by decide +kernel
theorem dX8_takeFromDeck_77 : decode cX8_takeFromDeck 77 = .ok (.iaload, 1) := by decide +kernel
theorem dX8_takeFromDeck_78 : decode cX8_takeFromDeck 78 = .ok (.iload_n 3, 1) := by decide +kernel
theorem dX8_takeFromDeck_79 : decode cX8_takeFromDeck 79 = .ok (.isub, 1) := by decide +kernel
theorem dX8_takeFromDeck_80 : decode cX8_takeFromDeck 80 = .ok (.iastore, 1) := by decide +kernel
theorem dX8_takeFromDeck_81 : decode cX8_takeFromDeck 81 = .ok (.aload_n 0, 1) := by decide +kernel
theorem dX8_takeFromDeck_82 : decode cX8_takeFromDeck 82 = .ok (.getfield 11, 3) := by decide +kernel
theorem dX8_takeFromDeck_85 : decode cX8_takeFromDeck 85 = .ok (.iconst 2, 1) := by decide +kernel
theorem dX8_takeFromDeck_86 : decode cX8_takeFromDeck 86 = .ok (.dup2, 1) := by decide +kernel
theorem dX8_takeFromDeck_87 : decode cX8_takeFromDeck 87 = .ok (.iaload, 1) := by decide +kernel
theorem dX8_takeFromDeck_88 : decode cX8_takeFromDeck 88 = .ok (.iconst 1, 1) := by decide +kernel
theorem dX8_takeFromDeck_89 : decode cX8_takeFromDeck 89 = .ok (.isub, 1) := by decide +kernel
theorem dX8_takeFromDeck_90 : decode cX8_takeFromDeck 90 = .ok (.iastore, 1) := by decide +kernel
theorem dX8_takeFromDeck_91 : decode cX8_takeFromDeck 91 = .ok (.aload_n 0, 1) := by decide +kernel
theorem dX8_takeFromDeck_92 : decode cX8_takeFromDeck 92 = .ok (.getfield 11, 3) := by decide +kernel
theorem dX8_takeFromDeck_95 : decode cX8_takeFromDeck 95 = .ok (.bipush 14, 2) := by decide +kernel
theorem dX8_takeFromDeck_97 : decode cX8_takeFromDeck 97 = .ok (.dup2, 1) := by decide +kernel
theorem dX8_takeFromDeck_98 : decode cX8_takeFromDeck 98 = .ok (.iaload, 1) := by decide +kernel
theorem dX8_takeFromDeck_99 : decode cX8_takeFromDeck 99 = .ok (.iconst 1, 1) := by decide +kernel
theorem dX8_takeFromDeck_100 : decode cX8_takeFromDeck 100 = .ok (.iadd, 1) := by decide +kernel
theorem dX8_takeFromDeck_101 : decode cX8_takeFromDeck 101 = .ok (.iastore, 1) := by decide +kernel
theorem dX8_takeFromDeck_102 : decode cX8_takeFromDeck 102 = .ok (.aload_n 0, 1) := by decide +kernel
theorem dX8_takeFromDeck_103 : decode cX8_takeFromDeck 103 = .ok (.invokevirtual 79, 3) := by decide +kernel
theorem dX8_takeFromDeck_106 : decode cX8_takeFromDeck 106 = .ok (.return_, 1) := by decide +kernel
