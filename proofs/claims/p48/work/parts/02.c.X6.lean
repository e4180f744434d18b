theorem dX6_init_0 : decode cX6_init 0 = .ok (.aload_n 0, 1) := by decide +kernel
theorem dX6_init_1 : decode cX6_init 1 = .ok (.invokespecial 3, 3) := by decide +kernel
theorem dX6_init_4 : decode cX6_init 4 = .ok (.aload_n 0, 1) := by decide +kernel
theorem dX6_init_5 : decode cX6_init 5 = .ok (.sipush 500, 3) := by decide +kernel
theorem dX6_init_8 : decode cX6_init 8 = .ok (.newarray .int, 2) := by decide +kernel
theorem dX6_init_10 : decode cX6_init 10 = .ok (.putfield 9, 3) := by decide +kernel
theorem dX6_init_13 : decode cX6_init 13 = .ok (.aload_n 0, 1) := by decide +kernel
theorem dX6_init_14 : decode cX6_init 14 = .ok (.iconst 0, 1) := by decide +kernel
theorem dX6_init_15 : decode cX6_init 15 = .ok (.putfield 15, 3) := by decide +kernel
theorem dX6_init_18 : decode cX6_init 18 = .ok (.aload_n 0, 1) := by decide +kernel
theorem dX6_init_19 : decode cX6_init 19 = .ok (.iconst 0, 1) := by decide +kernel
theorem dX6_init_20 : decode cX6_init 20 = .ok (.putfield 19, 3) := by decide +kernel
theorem dX6_init_23 : decode cX6_init 23 = .ok (.aload_n 0, 1) := by decide +kernel
theorem dX6_init_24 : decode cX6_init 24 = .ok (.iconst (-1), 1) := by decide +kernel
theorem dX6_init_25 : decode cX6_init 25 = .ok (.putfield 22, 3) := by decide +kernel
theorem dX6_init_28 : decode cX6_init 28 = .ok (.aload_n 0, 1) := by decide +kernel
theorem dX6_init_29 : decode cX6_init 29 = .ok (.sipush 160, 3) := by decide +kernel
theorem dX6_init_32 : decode cX6_init 32 = .ok (.newarray .int, 2) := by decide +kernel
theorem dX6_init_34 : decode cX6_init 34 = .ok (.putfield 27, 3) := by decide +kernel
theorem dX6_init_37 : decode cX6_init 37 = .ok (.aload_n 0, 1) := by decide +kernel
theorem dX6_init_38 : decode cX6_init 38 = .ok (.iconst 0, 1) := by decide +kernel
theorem dX6_init_39 : decode cX6_init 39 = .ok (.putfield 30, 3) := by decide +kernel
theorem dX6_init_42 : decode cX6_init 42 = .ok (.aload_n 0, 1) := by decide +kernel
theorem dX6_init_43 : decode cX6_init 43 = .ok (.iconst 0, 1) := by decide +kernel
theorem dX6_init_44 : decode cX6_init 44 = .ok (.putfield 33, 3) := by decide +kernel
theorem dX6_init_47 : decode cX6_init 47 = .ok (.aload_n 0, 1) := by decide +kernel
theorem dX6_init_48 : decode cX6_init 48 = .ok (.iconst 0, 1) := by decide +kernel
theorem dX6_init_49 : decode cX6_init 49 = .ok (.putfield 36, 3) := by decide +kernel
theorem dX6_init_52 : decode cX6_init 52 = .ok (.aload_n 0, 1) := by decide +kernel
theorem dX6_init_53 : decode cX6_init 53 = .ok (.iconst 0, 1) := by decide +kernel
theorem dX6_init_54 : decode cX6_init 54 = .ok (.putfield 39, 3) := by decide +kernel
theorem dX6_init_57 : decode cX6_init 57 = .ok (.aload_n 0, 1) := by decide +kernel
theorem dX6_init_58 : decode cX6_init 58 = .ok (.iconst 0, 1) := by decide +kernel
theorem dX6_init_59 : decode cX6_init 59 = .ok (.putfield 42, 3) := by decide +kernel
theorem dX6_init_62 : decode cX6_init 62 = .ok (.aload_n 0, 1) := by decide +kernel
theorem dX6_init_63 : decode cX6_init 63 = .ok (.iconst 0, 1) := by decide +kernel
theorem dX6_init_64 : decode cX6_init 64 = .ok (.putfield 45, 3) := by decide +kernel
theorem dX6_init_67 : decode cX6_init 67 = .ok (.return_, 1) := by decide +kernel
theorem dX6_addByte_0 : decode cX6_addByte 0 = .ok (.aload_n 0, 1) := by decide +kernel
theorem dX6_addByte_1 : decode cX6_addByte 1 = .ok (.getfield 15, 3) := by decide +kernel
theorem dX6_addByte_4 : decode cX6_addByte 4 = .ok (.ifCond .lt 35, 3) := by decide +kernel
theorem dX6_addByte_7 : decode cX6_addByte 7 = .ok (.aload_n 0, 1) := by decide +kernel
theorem dX6_addByte_8 : decode cX6_addByte 8 = .ok (.getfield 15, 3) := by decide +kernel
theorem dX6_addByte_11 : decode cX6_addByte 11 = .ok (.aload_n 0, 1) := by decide +kernel
theorem dX6_addByte_12 : decode cX6_addByte 12 = .ok (.getfield 9, 3) := by decide +kernel
theorem dX6_addByte_15 : decode cX6_addByte 15 = .ok (.arraylength, 1) := by decide +kernel
theorem dX6_addByte_16 : decode cX6_addByte 16 = .ok (.if_icmp .ge 23, 3) := by decide +kernel
theorem dX6_addByte_19 : decode cX6_addByte 19 = .ok (.aload_n 0, 1) := by decide +kernel
theorem dX6_addByte_20 : decode cX6_addByte 20 = .ok (.getfield 9, 3) := by decide +kernel
theorem dX6_addByte_23 : decode cX6_addByte 23 = .ok (.aload_n 0, 1) := by decide +kernel
theorem dX6_addByte_24 : decode cX6_addByte 24 = .ok (.getfield 15, 3) := by decide +kernel
theorem dX6_addByte_27 : decode cX6_addByte 27 = .ok (.iload_n 1, 1) := by decide +kernel
theorem dX6_addByte_28 : decode cX6_addByte 28 = .ok (.iastore, 1) := by decide +kernel
theorem dX6_addByte_29 : decode cX6_addByte 29 = .ok (.aload_n 0, 1) := by decide +kernel
theorem dX6_addByte_30 : decode cX6_addByte 30 = .ok (.dup, 1) := by decide +kernel
theorem dX6_addByte_31 : decode cX6_addByte 31 = .ok (.getfield 15, 3) := by decide +kernel
theorem dX6_addByte_34 : decode cX6_addByte 34 = .ok (.iconst 1, 1) := by decide +kernel
theorem dX6_addByte_35 : decode cX6_addByte 35 = .ok (.iadd, 1) := by decide +kernel
theorem dX6_addByte_36 : decode cX6_addByte 36 = .ok (.putfield 15, 3) := by decide +kernel
theorem dX6_addByte_39 : decode cX6_addByte 39 = .ok (.return_, 1) := by decide +kernel
set_option maxRecDepth 20000 in
theorem ggX6_readSetup_X8_becomeNew : GoodIn wsX6_readSetup wsX8_becomeNew := goodIn_r _ [9, 10, 11, 12, 13, 14, 15, 16, 8, 17, 18, 19, 20, 21, 22, 23, 196, 197, 198, 199, 200, 201, 202, 203, 204, 205, 206, 207, 208] (by decide +kernel) (by decide +kernel)
set_option maxRecDepth 20000 in
theorem gX6_readSetup_X8_becomeNew : GoodIn wsX6_readSetup (wsV RX6 52 RX8 yX8_becomeNew wsX8_becomeNew) := goodIn_app (goodIn_of _ (by decide +kernel)) ggX6_readSetup_X8_becomeNew
set_option maxRecDepth 20000 in
theorem ggX6_readSetup_X6_readFirstToken : GoodIn wsX6_readSetup wsX6_readFirstToken := goodIn_r _ [28, 4, 29, 30, 31, 32, 33, 27, 34, 35, 36, 3, 37, 38, 39, 40, 41, 185, 186, 187, 188, 189, 190, 191, 192, 193, 194, 195] (by decide +kernel) (by decide +kernel)
set_option maxRecDepth 20000 in
theorem gX6_readSetup_X6_readFirstToken : GoodIn wsX6_readSetup (wsV RX6 57 RX6 yX6_readFirstToken wsX6_readFirstToken) := goodIn_app (goodIn_of _ (by decide +kernel)) ggX6_readSetup_X6_readFirstToken
set_option maxRecDepth 20000 in
theorem ggX6_readSetup_X6_readStatement : GoodIn wsX6_readSetup wsX6_readStatement := goodIn_r _ [45, 46, 1, 47, 48, 49, 27, 50, 51, 52, 53, 54, 3, 30, 36, 41, 55, 56, 57, 58, 59, 60, 61, 62, 63, 64, 65, 66, 67, 68, 69, 70, 71, 72, 73, 74, 75, 76, 77, 78, 79, 80, 81, 82, 83, 84, 85, 86, 87, 88, 89, 90, 91, 92, 93, 94, 95, 96, 97, 98, 99, 100, 101, 102, 103, 104, 105, 106, 107, 108, 109, 110, 111, 112, 113, 114, 4, 29, 31, 32, 33, 34, 35, 37, 38, 39, 40, 115, 116, 117, 118, 119, 120, 121, 122, 123, 124, 125, 126, 127, 128, 129, 130, 131, 132, 133, 134, 135, 136, 137, 138, 139, 140, 2, 141, 20, 21, 8, 22, 23, 142, 143, 144, 145, 146, 147, 148, 149, 10, 150, 151, 152, 153, 154, 155, 156, 157, 158, 159, 196, 197, 198, 199, 200, 201, 202, 203, 204, 205, 206, 207, 208, 185, 186, 187, 188, 189, 190, 191, 192, 193, 194, 195, 209, 210, 211, 212] (by decide +kernel) (by decide +kernel)
set_option maxRecDepth 20000 in
theorem gX6_readSetup_X6_readStatement : GoodIn wsX6_readSetup (wsV RX6 60 RX6 yX6_readStatement wsX6_readStatement) := goodIn_app (goodIn_of _ (by decide +kernel)) ggX6_readSetup_X6_readStatement
set_option maxRecDepth 20000 in
theorem ggX6_readSetup_X8_becomeLevel : GoodIn wsX6_readSetup wsX8_becomeLevel := goodIn_r _ [163, 10, 164, 165, 166, 8, 167, 18, 168, 169, 170, 171, 172, 173, 174, 175, 176, 177, 178, 179, 180, 181, 182, 183, 68, 184, 196, 197, 198, 199, 200, 201, 202, 203, 204, 205, 206, 207, 208] (by decide +kernel) (by decide +kernel)
set_option maxRecDepth 20000 in
theorem gX6_readSetup_X8_becomeLevel : GoodIn wsX6_readSetup (wsV RX6 64 RX8 yX8_becomeLevel wsX8_becomeLevel) := goodIn_app (goodIn_of _ (by decide +kernel)) ggX6_readSetup_X8_becomeLevel
theorem dX6_readSetup_0 : decode cX6_readSetup 0 = .ok (.aload_n 1, 1) := by decide +kernel
theorem dX6_readSetup_1 : decode cX6_readSetup 1 = .ok (.invokevirtual 52, 3) := by decide +kernel
theorem dX6_readSetup_4 : decode cX6_readSetup 4 = .ok (.aload_n 0, 1) := by decide +kernel
theorem dX6_readSetup_5 : decode cX6_readSetup 5 = .ok (.iconst 0, 1) := by decide +kernel
theorem dX6_readSetup_6 : decode cX6_readSetup 6 = .ok (.putfield 42, 3) := by decide +kernel
theorem dX6_readSetup_9 : decode cX6_readSetup 9 = .ok (.aload_n 0, 1) := by decide +kernel
theorem dX6_readSetup_10 : decode cX6_readSetup 10 = .ok (.iconst 0, 1) := by decide +kernel
theorem dX6_readSetup_11 : decode cX6_readSetup 11 = .ok (.putfield 45, 3) := by decide +kernel
theorem dX6_readSetup_14 : decode cX6_readSetup 14 = .ok (.aload_n 0, 1) := by decide +kernel
theorem dX6_readSetup_15 : decode cX6_readSetup 15 = .ok (.invokevirtual 57, 3) := by decide +kernel
theorem dX6_readSetup_18 : decode cX6_readSetup 18 = .ok (.iconst 0, 1) := by decide +kernel
theorem dX6_readSetup_19 : decode cX6_readSetup 19 = .ok (.istore_n 2, 1) := by decide +kernel
theorem dX6_readSetup_20 : decode cX6_readSetup 20 = .ok (.iload_n 2, 1) := by decide +kernel
theorem dX6_readSetup_21 : decode cX6_readSetup 21 = .ok (.sipush 500, 3) := by decide +kernel
theorem dX6_readSetup_24 : decode cX6_readSetup 24 = .ok (.if_icmp .gt 28, 3) := by decide +kernel
theorem dX6_readSetup_27 : decode cX6_readSetup 27 = .ok (.aload_n 0, 1) := by decide +kernel
theorem dX6_readSetup_28 : decode cX6_readSetup 28 = .ok (.getfield 33, 3) := by decide +kernel
theorem dX6_readSetup_31 : decode cX6_readSetup 31 = .ok (.ifCond .eq 21, 3) := by decide +kernel
theorem dX6_readSetup_34 : decode cX6_readSetup 34 = .ok (.aload_n 0, 1) := by decide +kernel
theorem dX6_readSetup_35 : decode cX6_readSetup 35 = .ok (.getfield 19, 3) := by decide +kernel
theorem dX6_readSetup_38 : decode cX6_readSetup 38 = .ok (.ifCond .ne 14, 3) := by decide +kernel
theorem dX6_readSetup_41 : decode cX6_readSetup 41 = .ok (.aload_n 0, 1) := by decide +kernel
theorem dX6_readSetup_42 : decode cX6_readSetup 42 = .ok (.aload_n 1, 1) := by decide +kernel
theorem dX6_readSetup_43 : decode cX6_readSetup 43 = .ok (.invokevirtual 60, 3) := by decide +kernel
theorem dX6_readSetup_46 : decode cX6_readSetup 46 = .ok (.iinc 2 1, 3) := by decide +kernel
theorem dX6_readSetup_49 : decode cX6_readSetup 49 = .ok (.goto (-29), 3) := by decide +kernel
theorem dX6_readSetup_52 : decode cX6_readSetup 52 = .ok (.aload_n 1, 1) := by decide +kernel
theorem dX6_readSetup_53 : decode cX6_readSetup 53 = .ok (.invokevirtual 64, 3) := by decide +kernel
theorem dX6_readSetup_56 : decode cX6_readSetup 56 = .ok (.aload_n 0, 1) := by decide +kernel
theorem dX6_readSetup_57 : decode cX6_readSetup 57 = .ok (.getfield 19, 3) := by decide +kernel
theorem dX6_readSetup_60 : decode cX6_readSetup 60 = .ok (.ifCond .ne 7, 3) := by decide +kernel
theorem dX6_readSetup_63 : decode cX6_readSetup 63 = .ok (.iconst 1, 1) := by decide +kernel
theorem dX6_readSetup_64 : decode cX6_readSetup 64 = .ok (.goto 4, 3) := by decide +kernel
theorem dX6_readSetup_67 : decode cX6_readSetup 67 = .ok (.iconst 0, 1) := by decide +kernel
theorem dX6_readSetup_68 : decode cX6_readSetup 68 = .ok (.ireturn, 1) := by decide +kernel
set_option maxRecDepth 20000 in
theorem ggX6_readStatement_X6_statementHere : GoodIn wsX6_readStatement wsX6_statementHere := goodIn_r _ [7, 8, 9, 10, 6, 11, 12, 13, 14, 15, 16, 17, 18, 19, 20, 21, 22, 23, 24, 25, 26, 27, 28, 29, 30, 31, 32, 33, 34, 35, 36, 37, 38, 39, 40, 41, 42, 43, 44, 45, 46, 47, 48, 49, 50, 51, 52, 53, 54, 55, 56, 57, 58, 59, 60, 61, 62, 63, 64, 65, 66, 67, 152, 153, 154, 155, 156, 157, 158, 159, 160, 161, 162, 163, 164, 165, 166] (by decide +kernel) (by decide +kernel)
set_option maxRecDepth 20000 in
theorem gX6_readStatement_X6_statementHere : GoodIn wsX6_readStatement (wsV RX6 67 RX6 yX6_statementHere wsX6_statementHere) := goodIn_app (goodIn_of _ (by decide +kernel)) ggX6_readStatement_X6_statementHere
set_option maxRecDepth 20000 in
theorem ggX6_readStatement_X6_fail : GoodIn wsX6_readStatement wsX6_fail := goodIn_r _ [71, 14, 72, 73, 74, 6, 75, 76, 77, 152, 153, 154, 155, 156, 157, 158, 159, 160, 161, 162] (by decide +kernel) (by decide +kernel)
set_option maxRecDepth 20000 in
theorem gX6_readStatement_X6_fail : GoodIn wsX6_readStatement (wsV RX6 71 RX6 yX6_fail wsX6_fail) := goodIn_app (goodIn_of _ (by decide +kernel)) ggX6_readStatement_X6_fail
set_option maxRecDepth 20000 in
theorem ggX6_readStatement_X6_readToken : GoodIn wsX6_readStatement wsX6_readToken := goodIn_r _ [81, 76, 13, 82, 14, 12, 83, 84, 85, 6, 86, 15, 152, 153, 154, 155, 156, 157, 158, 159, 160, 161, 162] (by decide +kernel) (by decide +kernel)
set_option maxRecDepth 20000 in
theorem gX6_readStatement_X6_readToken : GoodIn wsX6_readStatement (wsV RX6 80 RX6 yX6_readToken wsX6_readToken) := goodIn_app (goodIn_of _ (by decide +kernel)) ggX6_readStatement_X6_readToken
set_option maxRecDepth 20000 in
theorem ggX6_readStatement_X6_readSettings : GoodIn wsX6_readStatement wsX6_readSettings := goodIn_r _ [90, 91, 92, 93, 94, 6, 95, 76, 12, 14, 78, 79, 80, 81, 13, 82, 83, 84, 85, 86, 15, 96, 97, 98, 99, 68, 69, 70, 71, 72, 73, 74, 75, 77, 100, 101, 102, 103, 104, 28, 29, 30, 105, 106, 107, 108, 8, 9, 10, 11, 16, 17, 18, 19, 20, 21, 22, 23, 24, 25, 26, 27, 31, 32, 33, 34, 35, 36, 37, 38, 39, 40, 41, 42, 43, 44, 45, 46, 47, 48, 49, 50, 51, 52, 53, 54, 55, 56, 57, 58, 59, 60, 61, 62, 63, 64, 65, 66, 67, 109, 110, 111, 112, 113, 114, 115, 116, 117, 118, 119, 120, 121, 122, 123, 124, 125, 126, 127, 128, 129, 130, 131, 132, 133, 134, 139, 140, 141, 142, 143, 144, 145, 146, 147, 148, 149, 150, 151, 152, 153, 154, 155, 156, 157, 158, 159, 160, 161, 162, 163, 164, 165, 166] (by decide +kernel) (by decide +kernel)
set_option maxRecDepth 20000 in
theorem gX6_readStatement_X6_readSettings : GoodIn wsX6_readStatement (wsV RX6 83 RX6 yX6_readSettings wsX6_readSettings) := goodIn_app (goodIn_of _ (by decide +kernel)) ggX6_readStatement_X6_readSettings
set_option maxRecDepth 20000 in
theorem ggX6_readStatement_X6_readSemicolon : GoodIn wsX6_readStatement wsX6_readSemicolon := goodIn_r _ [138, 12, 78, 79, 80, 6, 81, 76, 13, 82, 14, 83, 84, 85, 86, 15, 68, 69, 70, 71, 72, 73, 74, 75, 77, 152, 153, 154, 155, 156, 157, 158, 159, 160, 161, 162] (by decide +kernel) (by decide +kernel)
set_option maxRecDepth 20000 in
theorem gX6_readStatement_X6_readSemicolon : GoodIn wsX6_readStatement (wsV RX6 87 RX6 yX6_readSemicolon wsX6_readSemicolon) := goodIn_app (goodIn_of _ (by decide +kernel)) ggX6_readStatement_X6_readSemicolon
theorem dX6_readStatement_0 : decode cX6_readStatement 0 = .ok (.aload_n 0, 1) := by decide +kernel
theorem dX6_readStatement_1 : decode cX6_readStatement 1 = .ok (.invokevirtual 67, 3) := by decide +kernel
theorem dX6_readStatement_4 : decode cX6_readStatement 4 = .ok (.istore_n 2, 1) := by decide +kernel
theorem dX6_readStatement_5 : decode cX6_readStatement 5 = .ok (.iload_n 2, 1) := by decide +kernel
theorem dX6_readStatement_6 : decode cX6_readStatement 6 = .ok (.iconst (-1), 1) := by decide +kernel
theorem dX6_readStatement_7 : decode cX6_readStatement 7 = .ok (.if_icmp .ne 11, 3) := by decide +kernel
theorem dX6_readStatement_10 : decode cX6_readStatement 10 = .ok (.aload_n 0, 1) := by decide +kernel
theorem dX6_readStatement_11 : decode cX6_readStatement 11 = .ok (.iconst 1, 1) := by decide +kernel
theorem dX6_readStatement_12 : decode cX6_readStatement 12 = .ok (.invokevirtual 71, 3) := by decide +kernel
theorem dX6_readStatement_15 : decode cX6_readStatement 15 = .ok (.goto 79, 3) := by decide +kernel
theorem dX6_readStatement_18 : decode cX6_readStatement 18 = .ok (.iload_n 2, 1) := by decide +kernel
theorem dX6_readStatement_19 : decode cX6_readStatement 19 = .ok (.bipush 7, 2) := by decide +kernel
theorem dX6_readStatement_21 : decode cX6_readStatement 21 = .ok (.if_icmp .ne 22, 3) := by decide +kernel
theorem dX6_readStatement_24 : decode cX6_readStatement 24 = .ok (.aload_n 1, 1) := by decide +kernel
theorem dX6_readStatement_25 : decode cX6_readStatement 25 = .ok (.getfield 75, 3) := by decide +kernel
theorem dX6_readStatement_28 : decode cX6_readStatement 28 = .ok (.iconst 3, 1) := by decide +kernel
theorem dX6_readStatement_29 : decode cX6_readStatement 29 = .ok (.iaload, 1) := by decide +kernel
theorem dX6_readStatement_30 : decode cX6_readStatement 30 = .ok (.bipush 20, 2) := by decide +kernel
theorem dX6_readStatement_32 : decode cX6_readStatement 32 = .ok (.if_icmp .lt 11, 3) := by decide +kernel
theorem dX6_readStatement_35 : decode cX6_readStatement 35 = .ok (.aload_n 0, 1) := by decide +kernel
theorem dX6_readStatement_36 : decode cX6_readStatement 36 = .ok (.iconst 4, 1) := by decide +kernel
theorem dX6_readStatement_37 : decode cX6_readStatement 37 = .ok (.invokevirtual 71, 3) := by decide +kernel
theorem dX6_readStatement_40 : decode cX6_readStatement 40 = .ok (.goto 54, 3) := by decide +kernel
theorem dX6_readStatement_43 : decode cX6_readStatement 43 = .ok (.iload_n 2, 1) := by decide +kernel
theorem dX6_readStatement_44 : decode cX6_readStatement 44 = .ok (.bipush 6, 2) := by decide +kernel
theorem dX6_readStatement_46 : decode cX6_readStatement 46 = .ok (.if_icmp .ge 22, 3) := by decide +kernel
theorem dX6_readStatement_49 : decode cX6_readStatement 49 = .ok (.aload_n 0, 1) := by decide +kernel
theorem dX6_readStatement_50 : decode cX6_readStatement 50 = .ok (.getfield 42, 3) := by decide +kernel
theorem dX6_readStatement_53 : decode cX6_readStatement 53 = .ok (.iload_n 2, 1) := by decide +kernel
theorem dX6_readStatement_54 : decode cX6_readStatement 54 = .ok (.ishr, 1) := by decide +kernel
theorem dX6_readStatement_55 : decode cX6_readStatement 55 = .ok (.iconst 1, 1) := by decide +kernel
theorem dX6_readStatement_56 : decode cX6_readStatement 56 = .ok (.iand, 1) := by decide +kernel
theorem dX6_readStatement_57 : decode cX6_readStatement 57 = .ok (.ifCond .eq 11, 3) := by decide +kernel
theorem dX6_readStatement_60 : decode cX6_readStatement 60 = .ok (.aload_n 0, 1) := by decide +kernel
theorem dX6_readStatement_61 : decode cX6_readStatement 61 = .ok (.iconst 3, 1) := by decide +kernel
theorem dX6_readStatement_62 : decode cX6_readStatement 62 = .ok (.invokevirtual 71, 3) := by decide +kernel
theorem dX6_readStatement_65 : decode cX6_readStatement 65 = .ok (.goto 29, 3) := by decide +kernel
theorem dX6_readStatement_68 : decode cX6_readStatement 68 = .ok (.aload_n 0, 1) := by decide +kernel
theorem dX6_readStatement_69 : decode cX6_readStatement 69 = .ok (.dup, 1) := by decide +kernel
theorem dX6_readStatement_70 : decode cX6_readStatement 70 = .ok (.getfield 42, 3) := by decide +kernel
theorem dX6_readStatement_73 : decode cX6_readStatement 73 = .ok (.iconst 1, 1) := by decide +kernel
theorem dX6_readStatement_74 : decode cX6_readStatement 74 = .ok (.iload_n 2, 1) := by decide +kernel
theorem dX6_readStatement_75 : decode cX6_readStatement 75 = .ok (.ishl, 1) := by decide +kernel
theorem dX6_readStatement_76 : decode cX6_readStatement 76 = .ok (.ior, 1) := by decide +kernel
theorem dX6_readStatement_77 : decode cX6_readStatement 77 = .ok (.putfield 42, 3) := by decide +kernel
theorem dX6_readStatement_80 : decode cX6_readStatement 80 = .ok (.aload_n 0, 1) := by decide +kernel
theorem dX6_readStatement_81 : decode cX6_readStatement 81 = .ok (.invokevirtual 80, 3) := by decide +kernel
theorem dX6_readStatement_84 : decode cX6_readStatement 84 = .ok (.aload_n 0, 1) := by decide +kernel
theorem dX6_readStatement_85 : decode cX6_readStatement 85 = .ok (.iload_n 2, 1) := by decide +kernel
theorem dX6_readStatement_86 : decode cX6_readStatement 86 = .ok (.aload_n 1, 1) := by decide +kernel
theorem dX6_readStatement_87 : decode cX6_readStatement 87 = .ok (.invokevirtual 83, 3) := by decide +kernel
theorem dX6_readStatement_90 : decode cX6_readStatement 90 = .ok (.aload_n 0, 1) := by decide +kernel
theorem dX6_readStatement_91 : decode cX6_readStatement 91 = .ok (.invokevirtual 87, 3) := by decide +kernel
theorem dX6_readStatement_94 : decode cX6_readStatement 94 = .ok (.return_, 1) := by decide +kernel
set_option maxRecDepth 20000 in
theorem ggX6_statementHere_X6_isHere : GoodIn wsX6_statementHere wsX6_isHere := goodIn_r _ [5, 6, 7, 8, 9, 10, 11, 12, 13, 14, 15, 16, 17, 18, 19, 20, 21, 22, 23, 24, 25, 26, 27, 28, 29, 30, 31, 32, 33, 34, 35, 36, 37, 38, 39, 40, 41, 42, 43, 44, 45, 46, 47, 48, 49, 50, 51, 52, 53, 54, 55, 56, 57, 58, 59, 60, 61, 62, 63, 64, 65, 66, 67, 68, 69, 70, 71, 72, 73, 74, 75, 76] (by decide +kernel) (by decide +kernel)
set_option maxRecDepth 20000 in
theorem gX6_statementHere_X6_isHere : GoodIn wsX6_statementHere (wsV RX6 92 RX6 yX6_isHere wsX6_isHere) := goodIn_app (goodIn_of _ (by decide +kernel)) ggX6_statementHere_X6_isHere
theorem dX6_statementHere_0 : decode cX6_statementHere 0 = .ok (.aload_n 0, 1) := by decide +kernel
theorem dX6_statementHere_1 : decode cX6_statementHere 1 = .ok (.ldc 90, 2) := by decide +kernel
theorem dX6_statementHere_3 : decode cX6_statementHere 3 = .ok (.invokevirtual 92, 3) := by decide +kernel
theorem dX6_statementHere_6 : decode cX6_statementHere 6 = .ok (.ifCond .eq 5, 3) := by decide +kernel
theorem dX6_statementHere_9 : decode cX6_statementHere 9 = .ok (.iconst 0, 1) := by decide +kernel
theorem dX6_statementHere_10 : decode cX6_statementHere 10 = .ok (.ireturn, 1) := by decide +kernel
theorem dX6_statementHere_11 : decode cX6_statementHere 11 = .ok (.aload_n 0, 1) := by decide +kernel
theorem dX6_statementHere_12 : decode cX6_statementHere 12 = .ok (.ldc 96, 2) := by decide +kernel
theorem dX6_statementHere_14 : decode cX6_statementHere 14 = .ok (.invokevirtual 92, 3) := by decide +kernel
theorem dX6_statementHere_17 : decode cX6_statementHere 17 = .ok (.ifCond .eq 5, 3) := by decide +kernel
theorem dX6_statementHere_20 : decode cX6_statementHere 20 = .ok (.iconst 1, 1) := by decide +kernel
theorem dX6_statementHere_21 : decode cX6_statementHere 21 = .ok (.ireturn, 1) := by decide +kernel
theorem dX6_statementHere_22 : decode cX6_statementHere 22 = .ok (.aload_n 0, 1) := by decide +kernel
theorem dX6_statementHere_23 : decode cX6_statementHere 23 = .ok (.ldc 98, 2) := by decide +kernel
theorem dX6_statementHere_25 : decode cX6_statementHere 25 = .ok (.invokevirtual 92, 3) := by decide +kernel
theorem dX6_statementHere_28 : decode cX6_statementHere 28 = .ok (.ifCond .eq 5, 3) := by decide +kernel
theorem dX6_statementHere_31 : decode cX6_statementHere 31 = .ok (.iconst 2, 1) := by decide +kernel
theorem dX6_statementHere_32 : decode cX6_statementHere 32 = .ok (.ireturn, 1) := by decide +kernel
theorem dX6_statementHere_33 : decode cX6_statementHere 33 = .ok (.aload_n 0, 1) := by decide +kernel
theorem dX6_statementHere_34 : decode cX6_statementHere 34 = .ok (.ldc 100, 2) := by decide +kernel
theorem dX6_statementHere_36 : decode cX6_statementHere 36 = .ok (.invokevirtual 92, 3) := by decide +kernel
theorem dX6_statementHere_39 : decode cX6_statementHere 39 = .ok (.ifCond .eq 5, 3) := by decide +kernel
theorem dX6_statementHere_42 : decode cX6_statementHere 42 = .ok (.iconst 3, 1) := by decide +kernel
theorem dX6_statementHere_43 : decode cX6_statementHere 43 = .ok (.ireturn, 1) := by decide +kernel
theorem dX6_statementHere_44 : decode cX6_statementHere 44 = .ok (.aload_n 0, 1) := by decide +kernel
theorem dX6_statementHere_45 : decode cX6_statementHere 45 = .ok (.ldc 102, 2) := by decide +kernel
theorem dX6_statementHere_47 : decode cX6_statementHere 47 = .ok (.invokevirtual 92, 3) := by decide +kernel
theorem dX6_statementHere_50 : decode cX6_statementHere 50 = .ok (.ifCond .eq 5, 3) := by decide +kernel
theorem dX6_statementHere_53 : decode cX6_statementHere 53 = .ok (.iconst 4, 1) := by decide +kernel
theorem dX6_statementHere_54 : decode cX6_statementHere 54 = .ok (.ireturn, 1) := by decide +kernel
theorem dX6_statementHere_55 : decode cX6_statementHere 55 = .ok (.aload_n 0, 1) := by decide +kernel
theorem dX6_statementHere_56 : decode cX6_statementHere 56 = .ok (.ldc 104, 2) := by decide +kernel
theorem dX6_statementHere_58 : decode cX6_statementHere 58 = .ok (.invokevirtual 92, 3) := by decide +kernel
theorem dX6_statementHere_61 : decode cX6_statementHere 61 = .ok (.ifCond .eq 5, 3) := by decide +kernel
theorem dX6_statementHere_64 : decode cX6_statementHere 64 = .ok (.iconst 5, 1) := by decide +kernel
theorem dX6_statementHere_65 : decode cX6_statementHere 65 = .ok (.ireturn, 1) := by decide +kernel
theorem dX6_statementHere_66 : decode cX6_statementHere 66 = .ok (.aload_n 0, 1) := by decide +kernel
theorem dX6_statementHere_67 : decode cX6_statementHere 67 = .ok (.ldc 106, 2) := by decide +kernel
theorem dX6_statementHere_69 : decode cX6_statementHere 69 = .ok (.invokevirtual 92, 3) := by decide +kernel
theorem dX6_statementHere_72 : decode cX6_statementHere 72 = .ok (.ifCond .eq 6, 3) := by decide +kernel
theorem dX6_statementHere_75 : decode cX6_statementHere 75 = .ok (.bipush 6, 2) := by decide +kernel
theorem dX6_statementHere_77 : decode cX6_statementHere 77 = .ok (.ireturn, 1) := by decide +kernel
theorem dX6_statementHere_78 : decode cX6_statementHere 78 = .ok (.aload_n 0, 1) := by decide +kernel
theorem dX6_statementHere_79 : decode cX6_statementHere 79 = .ok (.ldc 108, 2) := by decide +kernel
theorem dX6_statementHere_81 : decode cX6_statementHere 81 = .ok (.invokevirtual 92, 3) := by decide +kernel
theorem dX6_statementHere_84 : decode cX6_statementHere 84 = .ok (.ifCond .eq 8, 3) := by decide +kernel
theorem dX6_statementHere_87 : decode cX6_statementHere 87 = .ok (.bipush 7, 2) := by decide +kernel
theorem dX6_statementHere_89 : decode cX6_statementHere 89 = .ok (.goto 4, 3) := by decide +kernel
theorem dX6_statementHere_92 : decode cX6_statementHere 92 = .ok (.iconst (-1), 1) := by decide +kernel
theorem dX6_statementHere_93 : decode cX6_statementHere 93 = .ok (.ireturn, 1) := by decide +kernel
set_option maxRecDepth 20000 in
theorem ggX6_readSettings_X6_readHeight : GoodIn wsX6_readSettings wsX6_readHeight := goodIn_r _ [6, 7, 8, 9, 10, 11, 12, 5, 13, 14, 15, 16, 17, 18, 19, 20, 21, 22, 23, 24, 25, 26, 27, 28, 29, 30, 31, 32, 33, 34, 35, 36, 37, 38, 39, 40, 41, 138, 139, 140, 141, 142, 143, 144, 145, 146, 147, 148] (by decide +kernel) (by decide +kernel)
set_option maxRecDepth 20000 in
theorem gX6_readSettings_X6_readHeight : GoodIn wsX6_readSettings (wsV RX6 115 RX6 yX6_readHeight wsX6_readHeight) := goodIn_app (goodIn_of _ (by decide +kernel)) ggX6_readSettings_X6_readHeight
set_option maxRecDepth 20000 in
theorem ggX6_readSettings_X6_readWord : GoodIn wsX6_readSettings wsX6_readWord := goodIn_r _ [45, 46, 47, 48, 5, 49, 8, 14, 9, 20, 50, 51, 52, 53, 54, 55, 56, 57, 58, 59, 60, 61, 39, 40, 41, 62, 63, 64, 65, 66, 67, 68, 69, 70, 71, 72, 73, 74, 75, 76, 77, 78, 79, 80, 81, 82, 83, 84, 85, 86, 87, 88, 89, 90, 91, 92, 93, 94, 95, 96, 97, 98, 10, 11, 12, 13, 7, 15, 16, 17, 18, 19, 25, 26, 27, 28, 29, 30, 31, 32, 33, 138, 139, 140, 141, 142, 143, 144, 145, 146, 147, 148, 149, 150, 151, 152] (by decide +kernel) (by decide +kernel)
set_option maxRecDepth 20000 in
theorem gX6_readSettings_X6_readWord : GoodIn wsX6_readSettings (wsV RX6 121 RX6 yX6_readWord wsX6_readWord) := goodIn_app (goodIn_of _ (by decide +kernel)) ggX6_readSettings_X6_readWord
set_option maxRecDepth 20000 in
theorem ggX6_readSettings_X6_readNumber : GoodIn wsX6_readSettings wsX6_readNumber := goodIn_r _ [24, 8, 25, 26, 27, 5, 28, 9, 29, 30, 31, 32, 7, 33, 34, 35, 36, 37, 14, 20, 38, 39, 40, 41, 10, 11, 12, 13, 15, 16, 17, 18, 19, 138, 139, 140, 141, 142, 143, 144, 145, 146, 147, 148] (by decide +kernel) (by decide +kernel)
set_option maxRecDepth 20000 in
theorem gX6_readSettings_X6_readNumber : GoodIn wsX6_readSettings (wsV RX6 125 RX6 yX6_readNumber wsX6_readNumber) := goodIn_app (goodIn_of _ (by decide +kernel)) ggX6_readSettings_X6_readNumber
set_option maxRecDepth 20000 in
theorem ggX6_readSettings_X6_readKind : GoodIn wsX6_readSettings wsX6_readKind := goodIn_r _ [102, 9, 7, 103, 21, 22, 23, 5, 24, 8, 25, 26, 27, 28, 29, 30, 31, 32, 33, 34, 35, 36, 37, 14, 20, 38, 39, 40, 41, 10, 11, 12, 13, 15, 16, 17, 18, 19, 104, 105, 106, 107, 108, 109, 138, 139, 140, 141, 142, 143, 144, 145, 146, 147, 148, 125, 126, 127, 128, 129, 130, 131, 132, 133, 134, 135, 136, 137] (by decide +kernel) (by decide +kernel)
set_option maxRecDepth 20000 in
theorem gX6_readSettings_X6_readKind : GoodIn wsX6_readSettings (wsV RX6 136 RX6 yX6_readKind wsX6_readKind) := goodIn_app (goodIn_of _ (by decide +kernel)) ggX6_readSettings_X6_readKind
set_option maxRecDepth 20000 in
theorem ggX6_readSettings_X6_readCar : GoodIn wsX6_readSettings wsX6_readCar := goodIn_r _ [113, 21, 22, 23, 5, 24, 8, 25, 26, 27, 28, 9, 29, 30, 31, 32, 7, 33, 34, 35, 36, 37, 14, 20, 38, 39, 40, 41, 10, 11, 12, 13, 15, 16, 17, 18, 19, 114, 115, 116, 107, 117, 118, 119, 120, 121, 122, 123, 124, 138, 139, 140, 141, 142, 143, 144, 145, 146, 147, 148, 125, 126, 127, 128, 129, 130, 131, 132, 133, 134, 135, 136, 137] (by decide +kernel) (by decide +kernel)
set_option maxRecDepth 20000 in
theorem gX6_readSettings_X6_readCar : GoodIn wsX6_readSettings (wsV RX6 139 RX6 yX6_readCar wsX6_readCar) := goodIn_app (goodIn_of _ (by decide +kernel)) ggX6_readSettings_X6_readCar
theorem dX6_readSettings_0 : decode cX6_readSettings 0 = .ok (.aload_n 2, 1) := by decide +kernel
theorem dX6_readSettings_1 : decode cX6_readSettings 1 = .ok (.getfield 110, 3) := by decide +kernel
theorem dX6_readSettings_4 : decode cX6_readSettings 4 = .ok (.astore_n 3, 1) := by decide +kernel
theorem dX6_readSettings_5 : decode cX6_readSettings 5 = .ok (.iload_n 1, 1) := by decide +kernel
theorem dX6_readSettings_6 : decode cX6_readSettings 6 = .ok (.tableswitch 259 0 6 #[42, 87, 103, 134, 184, 220, 251], 42) := by decide +kernel
theorem dX6_readSettings_48 : decode cX6_readSettings 48 = .ok (.aload_n 3, 1) := by decide +kernel
theorem dX6_readSettings_49 : decode cX6_readSettings 49 = .ok (.iconst 0, 1) := by decide +kernel
theorem dX6_readSettings_50 : decode cX6_readSettings 50 = .ok (.aload_n 0, 1) := by decide +kernel
theorem dX6_readSettings_51 : decode cX6_readSettings 51 = .ok (.sipush (-500), 3) := by decide +kernel
theorem dX6_readSettings_54 : decode cX6_readSettings 54 = .ok (.sipush 500, 3) := by decide +kernel
theorem dX6_readSettings_57 : decode cX6_readSettings 57 = .ok (.invokevirtual 115, 3) := by decide +kernel
theorem dX6_readSettings_60 : decode cX6_readSettings 60 = .ok (.iastore, 1) := by decide +kernel
theorem dX6_readSettings_61 : decode cX6_readSettings 61 = .ok (.aload_n 3, 1) := by decide +kernel
theorem dX6_readSettings_62 : decode cX6_readSettings 62 = .ok (.iconst 1, 1) := by decide +kernel
theorem dX6_readSettings_63 : decode cX6_readSettings 63 = .ok (.aload_n 0, 1) := by decide +kernel
theorem dX6_readSettings_64 : decode cX6_readSettings 64 = .ok (.aload_n 3, 1) := by decide +kernel
theorem dX6_readSettings_65 : decode cX6_readSettings 65 = .ok (.iconst 0, 1) := by decide +kernel
theorem dX6_readSettings_66 : decode cX6_readSettings 66 = .ok (.iaload, 1) := by decide +kernel
theorem dX6_readSettings_67 : decode cX6_readSettings 67 = .ok (.sipush 500, 3) := by decide +kernel
theorem dX6_readSettings_70 : decode cX6_readSettings 70 = .ok (.invokevirtual 115, 3) := by decide +kernel
theorem dX6_readSettings_73 : decode cX6_readSettings 73 = .ok (.iastore, 1) := by decide +kernel
theorem dX6_readSettings_74 : decode cX6_readSettings 74 = .ok (.aload_n 0, 1) := by decide +kernel
theorem dX6_readSettings_75 : decode cX6_readSettings 75 = .ok (.ldc 119, 2) := by decide +kernel
theorem dX6_readSettings_77 : decode cX6_readSettings 77 = .ok (.invokevirtual 121, 3) := by decide +kernel
theorem dX6_readSettings_80 : decode cX6_readSettings 80 = .ok (.aload_n 3, 1) := by decide +kernel
theorem dX6_readSettings_81 : decode cX6_readSettings 81 = .ok (.iconst 2, 1) := by decide +kernel
theorem dX6_readSettings_82 : decode cX6_readSettings 82 = .ok (.aload_n 0, 1) := by decide +kernel
theorem dX6_readSettings_83 : decode cX6_readSettings 83 = .ok (.iconst 1, 1) := by decide +kernel
theorem dX6_readSettings_84 : decode cX6_readSettings 84 = .ok (.bipush 99, 2) := by decide +kernel
theorem dX6_readSettings_86 : decode cX6_readSettings 86 = .ok (.invokevirtual 125, 3) := by decide +kernel
theorem dX6_readSettings_89 : decode cX6_readSettings 89 = .ok (.iastore, 1) := by decide +kernel
theorem dX6_readSettings_90 : decode cX6_readSettings 90 = .ok (.goto 180, 3) := by decide +kernel
theorem dX6_readSettings_93 : decode cX6_readSettings 93 = .ok (.aload_n 3, 1) := by decide +kernel
theorem dX6_readSettings_94 : decode cX6_readSettings 94 = .ok (.iconst 3, 1) := by decide +kernel
theorem dX6_readSettings_95 : decode cX6_readSettings 95 = .ok (.aload_n 0, 1) := by decide +kernel
theorem dX6_readSettings_96 : decode cX6_readSettings 96 = .ok (.sipush (-500), 3) := by decide +kernel
theorem dX6_readSettings_99 : decode cX6_readSettings 99 = .ok (.sipush 500, 3) := by decide +kernel
theorem dX6_readSettings_102 : decode cX6_readSettings 102 = .ok (.invokevirtual 115, 3) := by decide +kernel
theorem dX6_readSettings_105 : decode cX6_readSettings 105 = .ok (.iastore, 1) := by decide +kernel
theorem dX6_readSettings_106 : decode cX6_readSettings 106 = .ok (.goto 164, 3) := by decide +kernel
theorem dX6_readSettings_109 : decode cX6_readSettings 109 = .ok (.aload_n 3, 1) := by decide +kernel
theorem dX6_readSettings_110 : decode cX6_readSettings 110 = .ok (.iconst 4, 1) := by decide +kernel
theorem dX6_readSettings_111 : decode cX6_readSettings 111 = .ok (.aload_n 0, 1) := by decide +kernel
theorem dX6_readSettings_112 : decode cX6_readSettings 112 = .ok (.iconst 0, 1) := by decide +kernel
theorem dX6_readSettings_113 : decode cX6_readSettings 113 = .ok (.sipush 300, 3) := by decide +kernel
theorem dX6_readSettings_116 : decode cX6_readSettings 116 = .ok (.invokevirtual 125, 3) := by decide +kernel
theorem dX6_readSettings_119 : decode cX6_readSettings 119 = .ok (.iastore, 1) := by decide +kernel
theorem dX6_readSettings_120 : decode cX6_readSettings 120 = .ok (.aload_n 0, 1) := by decide +kernel
theorem dX6_readSettings_121 : decode cX6_readSettings 121 = .ok (.ldc 128, 2) := by decide +kernel
theorem dX6_readSettings_123 : decode cX6_readSettings 123 = .ok (.invokevirtual 121, 3) := by decide +kernel
theorem dX6_readSettings_126 : decode cX6_readSettings 126 = .ok (.aload_n 3, 1) := by decide +kernel
theorem dX6_readSettings_127 : decode cX6_readSettings 127 = .ok (.iconst 5, 1) := by decide +kernel
theorem dX6_readSettings_128 : decode cX6_readSettings 128 = .ok (.aload_n 0, 1) := by decide +kernel
theorem dX6_readSettings_129 : decode cX6_readSettings 129 = .ok (.iconst 1, 1) := by decide +kernel
theorem dX6_readSettings_130 : decode cX6_readSettings 130 = .ok (.sipush 999, 3) := by decide +kernel
theorem dX6_readSettings_133 : decode cX6_readSettings 133 = .ok (.invokevirtual 125, 3) := by decide +kernel
theorem dX6_readSettings_136 : decode cX6_readSettings 136 = .ok (.iastore, 1) := by decide +kernel
theorem dX6_readSettings_137 : decode cX6_readSettings 137 = .ok (.goto 133, 3) := by decide +kernel
theorem dX6_readSettings_140 : decode cX6_readSettings 140 = .ok (.aload_n 3, 1) := by decide +kernel
theorem dX6_readSettings_141 : decode cX6_readSettings 141 = .ok (.bipush 6, 2) := by decide +kernel
theorem dX6_readSettings_143 : decode cX6_readSettings 143 = .ok (.aload_n 0, 1) := by decide +kernel
theorem dX6_readSettings_144 : decode cX6_readSettings 144 = .ok (.iconst 1, 1) := by decide +kernel
theorem dX6_readSettings_145 : decode cX6_readSettings 145 = .ok (.bipush 30, 2) := by decide +kernel
theorem dX6_readSettings_147 : decode cX6_readSettings 147 = .ok (.invokevirtual 125, 3) := by decide +kernel
theorem dX6_readSettings_150 : decode cX6_readSettings 150 = .ok (.iastore, 1) := by decide +kernel
theorem dX6_readSettings_151 : decode cX6_readSettings 151 = .ok (.aload_n 0, 1) := by decide +kernel
theorem dX6_readSettings_152 : decode cX6_readSettings 152 = .ok (.ldc 130, 2) := by decide +kernel
theorem dX6_readSettings_154 : decode cX6_readSettings 154 = .ok (.invokevirtual 121, 3) := by decide +kernel
theorem dX6_readSettings_157 : decode cX6_readSettings 157 = .ok (.aload_n 3, 1) := by decide +kernel
theorem dX6_readSettings_158 : decode cX6_readSettings 158 = .ok (.bipush 7, 2) := by decide +kernel
theorem dX6_readSettings_160 : decode cX6_readSettings 160 = .ok (.aload_n 0, 1) := by decide +kernel
theorem dX6_readSettings_161 : decode cX6_readSettings 161 = .ok (.iconst 1, 1) := by decide +kernel
theorem dX6_readSettings_162 : decode cX6_readSettings 162 = .ok (.sipush 9999, 3) := by decide +kernel
theorem dX6_readSettings_165 : decode cX6_readSettings 165 = .ok (.invokevirtual 125, 3) := by decide +kernel
theorem dX6_readSettings_168 : decode cX6_readSettings 168 = .ok (.iastore, 1) := by decide +kernel
theorem dX6_readSettings_169 : decode cX6_readSettings 169 = .ok (.aload_n 0, 1) := by decide +kernel
theorem dX6_readSettings_170 : decode cX6_readSettings 170 = .ok (.ldc 132, 2) := by decide +kernel
theorem dX6_readSettings_172 : decode cX6_readSettings 172 = .ok (.invokevirtual 121, 3) := by decide +kernel
theorem dX6_readSettings_175 : decode cX6_readSettings 175 = .ok (.aload_n 3, 1) := by decide +kernel
theorem dX6_readSettings_176 : decode cX6_readSettings 176 = .ok (.bipush 8, 2) := by decide +kernel
theorem dX6_readSettings_178 : decode cX6_readSettings 178 = .ok (.aload_n 0, 1) := by decide +kernel
theorem dX6_readSettings_179 : decode cX6_readSettings 179 = .ok (.iconst 0, 1) := by decide +kernel
theorem dX6_readSettings_180 : decode cX6_readSettings 180 = .ok (.sipush 9999, 3) := by decide +kernel
theorem dX6_readSettings_183 : decode cX6_readSettings 183 = .ok (.invokevirtual 125, 3) := by decide +kernel
theorem dX6_readSettings_186 : decode cX6_readSettings 186 = .ok (.iastore, 1) := by decide +kernel
theorem dX6_readSettings_187 : decode cX6_readSettings 187 = .ok (.goto 83, 3) := by decide +kernel
theorem dX6_readSettings_190 : decode cX6_readSettings 190 = .ok (.aload_n 3, 1) := by decide +kernel
theorem dX6_readSettings_191 : decode cX6_readSettings 191 = .ok (.bipush 9, 2) := by decide +kernel
theorem dX6_readSettings_193 : decode cX6_readSettings 193 = .ok (.aload_n 0, 1) := by decide +kernel
theorem dX6_readSettings_194 : decode cX6_readSettings 194 = .ok (.iconst 1, 1) := by decide +kernel
theorem dX6_readSettings_195 : decode cX6_readSettings 195 = .ok (.bipush 20, 2) := by decide +kernel
theorem dX6_readSettings_197 : decode cX6_readSettings 197 = .ok (.invokevirtual 125, 3) := by decide +kernel
theorem dX6_readSettings_200 : decode cX6_readSettings 200 = .ok (.iastore, 1) := by decide +kernel
theorem dX6_readSettings_201 : decode cX6_readSettings 201 = .ok (.aload_n 3, 1) := by decide +kernel
theorem dX6_readSettings_202 : decode cX6_readSettings 202 = .ok (.bipush 10, 2) := by decide +kernel
theorem dX6_readSettings_204 : decode cX6_readSettings 204 = .ok (.aload_n 0, 1) := by decide +kernel
theorem dX6_readSettings_205 : decode cX6_readSettings 205 = .ok (.iconst 0, 1) := by decide +kernel
theorem dX6_readSettings_206 : decode cX6_readSettings 206 = .ok (.bipush 50, 2) := by decide +kernel
theorem dX6_readSettings_208 : decode cX6_readSettings 208 = .ok (.invokevirtual 125, 3) := by decide +kernel
theorem dX6_readSettings_211 : decode cX6_readSettings 211 = .ok (.iastore, 1) := by decide +kernel
theorem dX6_readSettings_212 : decode cX6_readSettings 212 = .ok (.aload_n 3, 1) := by decide +kernel
theorem dX6_readSettings_213 : decode cX6_readSettings 213 = .ok (.bipush 11, 2) := by decide +kernel
theorem dX6_readSettings_215 : decode cX6_readSettings 215 = .ok (.aload_n 0, 1) := by decide +kernel
theorem dX6_readSettings_216 : decode cX6_readSettings 216 = .ok (.iconst 0, 1) := by decide +kernel
theorem dX6_readSettings_217 : decode cX6_readSettings 217 = .ok (.bipush 20, 2) := by decide +kernel
theorem dX6_readSettings_219 : decode cX6_readSettings 219 = .ok (.invokevirtual 125, 3) := by decide +kernel
theorem dX6_readSettings_222 : decode cX6_readSettings 222 = .ok (.iastore, 1) := by decide +kernel
theorem dX6_readSettings_223 : decode cX6_readSettings 223 = .ok (.goto 47, 3) := by decide +kernel
theorem dX6_readSettings_226 : decode cX6_readSettings 226 = .ok (.aload_n 3, 1) := by decide +kernel
theorem dX6_readSettings_227 : decode cX6_readSettings 227 = .ok (.bipush 12, 2) := by decide +kernel
theorem dX6_readSettings_229 : decode cX6_readSettings 229 = .ok (.aload_n 0, 1) := by decide +kernel
theorem dX6_readSettings_230 : decode cX6_readSettings 230 = .ok (.iconst 1, 1) := by decide +kernel
theorem dX6_readSettings_231 : decode cX6_readSettings 231 = .ok (.bipush 20, 2) := by decide +kernel
theorem dX6_readSettings_233 : decode cX6_readSettings 233 = .ok (.invokevirtual 125, 3) := by decide +kernel
theorem dX6_readSettings_236 : decode cX6_readSettings 236 = .ok (.iastore, 1) := by decide +kernel
theorem dX6_readSettings_237 : decode cX6_readSettings 237 = .ok (.aload_n 0, 1) := by decide +kernel
theorem dX6_readSettings_238 : decode cX6_readSettings 238 = .ok (.ldc 134, 2) := by decide +kernel
theorem dX6_readSettings_240 : decode cX6_readSettings 240 = .ok (.invokevirtual 121, 3) := by decide +kernel
theorem dX6_readSettings_243 : decode cX6_readSettings 243 = .ok (.aload_n 3, 1) := by decide +kernel
theorem dX6_readSettings_244 : decode cX6_readSettings 244 = .ok (.bipush 13, 2) := by decide +kernel
theorem dX6_readSettings_246 : decode cX6_readSettings 246 = .ok (.aload_n 0, 1) := by decide +kernel
theorem dX6_readSettings_247 : decode cX6_readSettings 247 = .ok (.iconst 1, 1) := by decide +kernel
theorem dX6_readSettings_248 : decode cX6_readSettings 248 = .ok (.bipush 50, 2) := by decide +kernel
theorem dX6_readSettings_250 : decode cX6_readSettings 250 = .ok (.invokevirtual 125, 3) := by decide +kernel
theorem dX6_readSettings_253 : decode cX6_readSettings 253 = .ok (.iastore, 1) := by decide +kernel
theorem dX6_readSettings_254 : decode cX6_readSettings 254 = .ok (.goto 16, 3) := by decide +kernel
theorem dX6_readSettings_257 : decode cX6_readSettings 257 = .ok (.aload_n 0, 1) := by decide +kernel
theorem dX6_readSettings_258 : decode cX6_readSettings 258 = .ok (.aload_n 2, 1) := by decide +kernel
theorem dX6_readSettings_259 : decode cX6_readSettings 259 = .ok (.invokevirtual 136, 3) := by decide +kernel
theorem dX6_readSettings_262 : decode cX6_readSettings 262 = .ok (.goto 8, 3) := by decide +kernel
theorem dX6_readSettings_265 : decode cX6_readSettings 265 = .ok (.aload_n 0, 1) := by decide +kernel
theorem dX6_readSettings_266 : decode cX6_readSettings 266 = .ok (.aload_n 2, 1) := by decide +kernel
theorem dX6_readSettings_267 : decode cX6_readSettings 267 = .ok (.invokevirtual 139, 3) := by decide +kernel
theorem dX6_readSettings_270 : decode cX6_readSettings 270 = .ok (.return_, 1) := by decide +kernel
set_option maxRecDepth 20000 in
theorem ggX6_readKind_X6_readNumber : GoodIn wsX6_readKind wsX6_readNumber := goodIn_r _ [8, 9, 10, 11, 12, 7, 13, 1, 14, 15, 16, 17, 2, 18, 19, 20, 21, 22, 23, 24, 25, 26, 27, 28, 29, 30, 31, 32, 33, 34, 35, 36, 37, 44, 45, 46, 47, 48, 49, 50, 51, 52, 53, 54] (by decide +kernel) (by decide +kernel)
set_option maxRecDepth 20000 in
theorem gX6_readKind_X6_readNumber : GoodIn wsX6_readKind (wsV RX6 125 RX6 yX6_readNumber wsX6_readNumber) := goodIn_app (goodIn_of _ (by decide +kernel)) ggX6_readKind_X6_readNumber
set_option maxRecDepth 20000 in
theorem ggX6_readKind_X6_failAt : GoodIn wsX6_readKind wsX6_failAt := goodIn_r _ [17, 2, 18, 44, 45, 46, 47, 48, 49, 50, 51, 52, 53, 54] (by decide +kernel) (by decide +kernel)
set_option maxRecDepth 20000 in
theorem gX6_readKind_X6_failAt : GoodIn wsX6_readKind (wsV RX6 142 RX6 yX6_failAt wsX6_failAt) := goodIn_app (goodIn_of _ (by decide +kernel)) ggX6_readKind_X6_failAt
set_option maxRecDepth 20000 in
theorem ggX6_readKind_X8_setKind : GoodIn wsX6_readKind wsX8_setKind := goodIn_r _ [42, 43, 55, 56, 57, 58, 59, 60, 61, 62, 63, 64, 65, 66, 67] (by decide +kernel) (by decide +kernel)
set_option maxRecDepth 20000 in
theorem gX6_readKind_X8_setKind : GoodIn wsX6_readKind (wsV RX6 146 RX8 yX8_setKind wsX8_setKind) := goodIn_app (goodIn_of _ (by decide +kernel)) ggX6_readKind_X8_setKind
theorem dX6_readKind_0 : decode cX6_readKind 0 = .ok (.aload_n 0, 1) := by decide +kernel
theorem dX6_readKind_1 : decode cX6_readKind 1 = .ok (.getfield 36, 3) := by decide +kernel
theorem dX6_readKind_4 : decode cX6_readKind 4 = .ok (.istore_n 2, 1) := by decide +kernel
theorem dX6_readKind_5 : decode cX6_readKind 5 = .ok (.aload_n 0, 1) := by decide +kernel
theorem dX6_readKind_6 : decode cX6_readKind 6 = .ok (.iconst 0, 1) := by decide +kernel
theorem dX6_readKind_7 : decode cX6_readKind 7 = .ok (.iconst 3, 1) := by decide +kernel
theorem dX6_readKind_8 : decode cX6_readKind 8 = .ok (.invokevirtual 125, 3) := by decide +kernel
theorem dX6_readKind_11 : decode cX6_readKind 11 = .ok (.istore_n 3, 1) := by decide +kernel
theorem dX6_readKind_12 : decode cX6_readKind 12 = .ok (.aload_n 0, 1) := by decide +kernel
theorem dX6_readKind_13 : decode cX6_readKind 13 = .ok (.getfield 19, 3) := by decide +kernel
theorem dX6_readKind_16 : decode cX6_readKind 16 = .ok (.ifCond .ne 20, 3) := by decide +kernel
theorem dX6_readKind_19 : decode cX6_readKind 19 = .ok (.aload_n 0, 1) := by decide +kernel
theorem dX6_readKind_20 : decode cX6_readKind 20 = .ok (.getfield 45, 3) := by decide +kernel
theorem dX6_readKind_23 : decode cX6_readKind 23 = .ok (.iload_n 3, 1) := by decide +kernel
theorem dX6_readKind_24 : decode cX6_readKind 24 = .ok (.ishr, 1) := by decide +kernel
theorem dX6_readKind_25 : decode cX6_readKind 25 = .ok (.iconst 1, 1) := by decide +kernel
theorem dX6_readKind_26 : decode cX6_readKind 26 = .ok (.iand, 1) := by decide +kernel
theorem dX6_readKind_27 : decode cX6_readKind 27 = .ok (.ifCond .eq 9, 3) := by decide +kernel
theorem dX6_readKind_30 : decode cX6_readKind 30 = .ok (.aload_n 0, 1) := by decide +kernel
theorem dX6_readKind_31 : decode cX6_readKind 31 = .ok (.iconst 3, 1) := by decide +kernel
theorem dX6_readKind_32 : decode cX6_readKind 32 = .ok (.iload_n 2, 1) := by decide +kernel
theorem dX6_readKind_33 : decode cX6_readKind 33 = .ok (.invokevirtual 142, 3) := by decide +kernel
theorem dX6_readKind_36 : decode cX6_readKind 36 = .ok (.aload_n 0, 1) := by decide +kernel
theorem dX6_readKind_37 : decode cX6_readKind 37 = .ok (.dup, 1) := by decide +kernel
theorem dX6_readKind_38 : decode cX6_readKind 38 = .ok (.getfield 45, 3) := by decide +kernel
theorem dX6_readKind_41 : decode cX6_readKind 41 = .ok (.iconst 1, 1) := by decide +kernel
theorem dX6_readKind_42 : decode cX6_readKind 42 = .ok (.iload_n 3, 1) := by decide +kernel
theorem dX6_readKind_43 : decode cX6_readKind 43 = .ok (.ishl, 1) := by decide +kernel
theorem dX6_readKind_44 : decode cX6_readKind 44 = .ok (.ior, 1) := by decide +kernel
theorem dX6_readKind_45 : decode cX6_readKind 45 = .ok (.putfield 45, 3) := by decide +kernel
theorem dX6_readKind_48 : decode cX6_readKind 48 = .ok (.aload_n 0, 1) := by decide +kernel
theorem dX6_readKind_49 : decode cX6_readKind 49 = .ok (.iconst 0, 1) := by decide +kernel
theorem dX6_readKind_50 : decode cX6_readKind 50 = .ok (.sipush 500, 3) := by decide +kernel
theorem dX6_readKind_53 : decode cX6_readKind 53 = .ok (.invokevirtual 125, 3) := by decide +kernel
theorem dX6_readKind_56 : decode cX6_readKind 56 = .ok (.istore 4, 2) := by decide +kernel
theorem dX6_readKind_58 : decode cX6_readKind 58 = .ok (.aload_n 0, 1) := by decide +kernel
theorem dX6_readKind_59 : decode cX6_readKind 59 = .ok (.iconst 0, 1) := by decide +kernel
theorem dX6_readKind_60 : decode cX6_readKind 60 = .ok (.bipush 99, 2) := by decide +kernel
theorem dX6_readKind_62 : decode cX6_readKind 62 = .ok (.invokevirtual 125, 3) := by decide +kernel
theorem dX6_readKind_65 : decode cX6_readKind 65 = .ok (.istore 5, 2) := by decide +kernel
theorem dX6_readKind_67 : decode cX6_readKind 67 = .ok (.aload_n 0, 1) := by decide +kernel
theorem dX6_readKind_68 : decode cX6_readKind 68 = .ok (.iconst 1, 1) := by decide +kernel
theorem dX6_readKind_69 : decode cX6_readKind 69 = .ok (.bipush 9, 2) := by decide +kernel
theorem dX6_readKind_71 : decode cX6_readKind 71 = .ok (.invokevirtual 125, 3) := by decide +kernel
theorem dX6_readKind_74 : decode cX6_readKind 74 = .ok (.istore 6, 2) := by decide +kernel
theorem dX6_readKind_76 : decode cX6_readKind 76 = .ok (.aload_n 1, 1) := by decide +kernel
theorem dX6_readKind_77 : decode cX6_readKind 77 = .ok (.iload_n 3, 1) := by decide +kernel
theorem dX6_readKind_78 : decode cX6_readKind 78 = .ok (.iload 4, 2) := by decide +kernel
theorem dX6_readKind_80 : decode cX6_readKind 80 = .ok (.iload 5, 2) := by decide +kernel
theorem dX6_readKind_82 : decode cX6_readKind 82 = .ok (.iload 6, 2) := by decide +kernel
theorem dX6_readKind_84 : decode cX6_readKind 84 = .ok (.invokevirtual 146, 3) := by decide +kernel
theorem dX6_readKind_87 : decode cX6_readKind 87 = .ok (.return_, 1) := by decide +kernel
set_option maxRecDepth 20000 in
theorem ggX6_readCar_X6_readNumber : GoodIn wsX6_readCar wsX6_readNumber := goodIn_r _ [5, 6, 7, 8, 9, 4, 10, 11, 12, 13, 14, 15, 16, 17, 18, 19, 20, 21, 22, 23, 24, 25, 26, 27, 28, 29, 30, 31, 32, 33, 34, 35, 36, 49, 50, 51, 52, 53, 54, 55, 56, 57, 58, 59] (by decide +kernel) (by decide +kernel)
set_option maxRecDepth 20000 in
theorem gX6_readCar_X6_readNumber : GoodIn wsX6_readCar (wsV RX6 125 RX6 yX6_readNumber wsX6_readNumber) := goodIn_app (goodIn_of _ (by decide +kernel)) ggX6_readCar_X6_readNumber
set_option maxRecDepth 20000 in
theorem ggX6_readCar_X8_addCar : GoodIn wsX6_readCar wsX8_addCar := goodIn_r _ [41, 42, 43, 44, 45, 46, 40, 47, 48, 60, 61, 62, 63, 64, 65, 66, 67, 68, 69, 70, 71, 72] (by decide +kernel) (by decide +kernel)
set_option maxRecDepth 20000 in
theorem gX6_readCar_X8_addCar : GoodIn wsX6_readCar (wsV RX6 150 RX8 yX8_addCar wsX8_addCar) := goodIn_app (goodIn_of _ (by decide +kernel)) ggX6_readCar_X8_addCar
theorem dX6_readCar_0 : decode cX6_readCar 0 = .ok (.aload_n 0, 1) := by decide +kernel
theorem dX6_readCar_1 : decode cX6_readCar 1 = .ok (.iconst 0, 1) := by decide +kernel
theorem dX6_readCar_2 : decode cX6_readCar 2 = .ok (.iconst 3, 1) := by decide +kernel
theorem dX6_readCar_3 : decode cX6_readCar 3 = .ok (.invokevirtual 125, 3) := by decide +kernel
theorem dX6_readCar_6 : decode cX6_readCar 6 = .ok (.istore_n 2, 1) := by decide +kernel
theorem dX6_readCar_7 : decode cX6_readCar 7 = .ok (.aload_n 0, 1) := by decide +kernel
theorem dX6_readCar_8 : decode cX6_readCar 8 = .ok (.iconst 1, 1) := by decide +kernel
theorem dX6_readCar_9 : decode cX6_readCar 9 = .ok (.sipush 999, 3) := by decide +kernel
theorem dX6_readCar_12 : decode cX6_readCar 12 = .ok (.invokevirtual 125, 3) := by decide +kernel
theorem dX6_readCar_15 : decode cX6_readCar 15 = .ok (.istore_n 3, 1) := by decide +kernel
theorem dX6_readCar_16 : decode cX6_readCar 16 = .ok (.aload_n 1, 1) := by decide +kernel
theorem dX6_readCar_17 : decode cX6_readCar 17 = .ok (.iload_n 2, 1) := by decide +kernel
theorem dX6_readCar_18 : decode cX6_readCar 18 = .ok (.iload_n 3, 1) := by decide +kernel
theorem dX6_readCar_19 : decode cX6_readCar 19 = .ok (.invokevirtual 150, 3) := by decide +kernel
theorem dX6_readCar_22 : decode cX6_readCar 22 = .ok (.pop, 1) := by decide +kernel
theorem dX6_readCar_23 : decode cX6_readCar 23 = .ok (.return_, 1) := by decide +kernel
set_option maxRecDepth 20000 in
theorem ggX6_readHeight_X6_readToken : GoodIn wsX6_readHeight wsX6_readToken := goodIn_r _ [8, 1, 9, 10, 3, 2, 11, 12, 13, 7, 14, 15, 37, 38, 39, 40, 41, 42, 43, 44, 45, 46, 47] (by decide +kernel) (by decide +kernel)
set_option maxRecDepth 20000 in
theorem gX6_readHeight_X6_readToken : GoodIn wsX6_readHeight (wsV RX6 80 RX6 yX6_readToken wsX6_readToken) := goodIn_app (goodIn_of _ (by decide +kernel)) ggX6_readHeight_X6_readToken
set_option maxRecDepth 20000 in
theorem ggX6_readHeight_X6_readNumber : GoodIn wsX6_readHeight wsX6_readNumber := goodIn_r _ [19, 2, 20, 21, 22, 7, 23, 3, 24, 25, 26, 27, 1, 28, 29, 30, 31, 32, 9, 15, 33, 34, 35, 36, 4, 5, 6, 8, 10, 11, 12, 13, 14, 37, 38, 39, 40, 41, 42, 43, 44, 45, 46, 47] (by decide +kernel) (by decide +kernel)
set_option maxRecDepth 20000 in
theorem gX6_readHeight_X6_readNumber : GoodIn wsX6_readHeight (wsV RX6 125 RX6 yX6_readNumber wsX6_readNumber) := goodIn_app (goodIn_of _ (by decide +kernel)) ggX6_readHeight_X6_readNumber
set_option maxRecDepth 20000 in
theorem ggX6_readHeight_X6_failAt : GoodIn wsX6_readHeight wsX6_failAt := goodIn_r _ [27, 1, 28, 37, 38, 39, 40, 41, 42, 43, 44, 45, 46, 47] (by decide +kernel) (by decide +kernel)
set_option maxRecDepth 20000 in
theorem gX6_readHeight_X6_failAt : GoodIn wsX6_readHeight (wsV RX6 142 RX6 yX6_failAt wsX6_failAt) := goodIn_app (goodIn_of _ (by decide +kernel)) ggX6_readHeight_X6_failAt
theorem dX6_readHeight_0 : decode cX6_readHeight 0 = .ok (.aload_n 0, 1) := by decide +kernel
theorem dX6_readHeight_1 : decode cX6_readHeight 1 = .ok (.getfield 19, 3) := by decide +kernel
theorem dX6_readHeight_4 : decode cX6_readHeight 4 = .ok (.ifCond .ne 15, 3) := by decide +kernel
theorem dX6_readHeight_7 : decode cX6_readHeight 7 = .ok (.aload_n 0, 1) := by decide +kernel
theorem dX6_readHeight_8 : decode cX6_readHeight 8 = .ok (.getfield 33, 3) := by decide +kernel
theorem dX6_readHeight_11 : decode cX6_readHeight 11 = .ok (.iconst 3, 1) := by decide +kernel
theorem dX6_readHeight_12 : decode cX6_readHeight 12 = .ok (.if_icmp .ne 7, 3) := by decide +kernel
theorem dX6_readHeight_15 : decode cX6_readHeight 15 = .ok (.iconst 1, 1) := by decide +kernel
theorem dX6_readHeight_16 : decode cX6_readHeight 16 = .ok (.goto 4, 3) := by decide +kernel
theorem dX6_readHeight_19 : decode cX6_readHeight 19 = .ok (.iconst 0, 1) := by decide +kernel
theorem dX6_readHeight_20 : decode cX6_readHeight 20 = .ok (.istore_n 3, 1) := by decide +kernel
theorem dX6_readHeight_21 : decode cX6_readHeight 21 = .ok (.iload_n 3, 1) := by decide +kernel
theorem dX6_readHeight_22 : decode cX6_readHeight 22 = .ok (.ifCond .eq 7, 3) := by decide +kernel
theorem dX6_readHeight_25 : decode cX6_readHeight 25 = .ok (.aload_n 0, 1) := by decide +kernel
theorem dX6_readHeight_26 : decode cX6_readHeight 26 = .ok (.invokevirtual 80, 3) := by decide +kernel
theorem dX6_readHeight_29 : decode cX6_readHeight 29 = .ok (.aload_n 0, 1) := by decide +kernel
theorem dX6_readHeight_30 : decode cX6_readHeight 30 = .ok (.getfield 36, 3) := by decide +kernel
theorem dX6_readHeight_33 : decode cX6_readHeight 33 = .ok (.istore 4, 2) := by decide +kernel
theorem dX6_readHeight_35 : decode cX6_readHeight 35 = .ok (.aload_n 0, 1) := by decide +kernel
theorem dX6_readHeight_36 : decode cX6_readHeight 36 = .ok (.iconst 0, 1) := by decide +kernel
theorem dX6_readHeight_37 : decode cX6_readHeight 37 = .ok (.iload_n 2, 1) := by decide +kernel
theorem dX6_readHeight_38 : decode cX6_readHeight 38 = .ok (.invokevirtual 125, 3) := by decide +kernel
theorem dX6_readHeight_41 : decode cX6_readHeight 41 = .ok (.istore 5, 2) := by decide +kernel
theorem dX6_readHeight_43 : decode cX6_readHeight 43 = .ok (.iload_n 3, 1) := by decide +kernel
theorem dX6_readHeight_44 : decode cX6_readHeight 44 = .ok (.ifCond .eq 9, 3) := by decide +kernel
theorem dX6_readHeight_47 : decode cX6_readHeight 47 = .ok (.iload 5, 2) := by decide +kernel
theorem dX6_readHeight_49 : decode cX6_readHeight 49 = .ok (.ineg, 1) := by decide +kernel
theorem dX6_readHeight_50 : decode cX6_readHeight 50 = .ok (.goto 5, 3) := by decide +kernel
theorem dX6_readHeight_53 : decode cX6_readHeight 53 = .ok (.iload 5, 2) := by decide +kernel
theorem dX6_readHeight_55 : decode cX6_readHeight 55 = .ok (.istore 6, 2) := by decide +kernel
theorem dX6_readHeight_57 : decode cX6_readHeight 57 = .ok (.aload_n 0, 1) := by decide +kernel
theorem dX6_readHeight_58 : decode cX6_readHeight 58 = .ok (.getfield 19, 3) := by decide +kernel
theorem dX6_readHeight_61 : decode cX6_readHeight 61 = .ok (.ifCond .ne 16, 3) := by decide +kernel
theorem dX6_readHeight_64 : decode cX6_readHeight 64 = .ok (.iload 6, 2) := by decide +kernel
theorem dX6_readHeight_66 : decode cX6_readHeight 66 = .ok (.iload_n 1, 1) := by decide +kernel
theorem dX6_readHeight_67 : decode cX6_readHeight 67 = .ok (.if_icmp .ge 10, 3) := by decide +kernel
theorem dX6_readHeight_70 : decode cX6_readHeight 70 = .ok (.aload_n 0, 1) := by decide +kernel
theorem dX6_readHeight_71 : decode cX6_readHeight 71 = .ok (.iconst 2, 1) := by decide +kernel
theorem dX6_readHeight_72 : decode cX6_readHeight 72 = .ok (.iload 4, 2) := by decide +kernel
theorem dX6_readHeight_74 : decode cX6_readHeight 74 = .ok (.invokevirtual 142, 3) := by decide +kernel
theorem dX6_readHeight_77 : decode cX6_readHeight 77 = .ok (.iload 6, 2) := by decide +kernel
theorem dX6_readHeight_79 : decode cX6_readHeight 79 = .ok (.ireturn, 1) := by decide +kernel
set_option maxRecDepth 20000 in
theorem ggX6_readNumber_X6_fail : GoodIn wsX6_readNumber wsX6_fail := goodIn_r _ [6, 7, 8, 9, 10, 5, 11, 12, 13, 33, 34, 35, 36, 37, 38, 39, 40, 41, 42, 43] (by decide +kernel) (by decide +kernel)
set_option maxRecDepth 20000 in
theorem gX6_readNumber_X6_fail : GoodIn wsX6_readNumber (wsV RX6 71 RX6 yX6_fail wsX6_fail) := goodIn_app (goodIn_of _ (by decide +kernel)) ggX6_readNumber_X6_fail
set_option maxRecDepth 20000 in
theorem ggX6_readNumber_X6_numberHere : GoodIn wsX6_readNumber wsX6_numberHere := goodIn_r _ [17, 7, 18, 19, 20, 21, 22, 23, 33, 34, 35, 36, 37, 38, 39, 40, 41, 42, 43] (by decide +kernel) (by decide +kernel)
set_option maxRecDepth 20000 in
theorem gX6_readNumber_X6_numberHere : GoodIn wsX6_readNumber (wsV RX6 184 RX6 yX6_numberHere wsX6_numberHere) := goodIn_app (goodIn_of _ (by decide +kernel)) ggX6_readNumber_X6_numberHere
set_option maxRecDepth 20000 in
theorem ggX6_readNumber_X6_readToken : GoodIn wsX6_readNumber wsX6_readToken := goodIn_r _ [27, 12, 18, 28, 7, 1, 29, 30, 31, 5, 32, 19, 33, 34, 35, 36, 37, 38, 39, 40, 41, 42, 43] (by decide +kernel) (by decide +kernel)
set_option maxRecDepth 20000 in
theorem gX6_readNumber_X6_readToken : GoodIn wsX6_readNumber (wsV RX6 80 RX6 yX6_readToken wsX6_readToken) := goodIn_app (goodIn_of _ (by decide +kernel)) ggX6_readNumber_X6_readToken
theorem dX6_readNumber_0 : decode cX6_readNumber 0 = .ok (.aload_n 0, 1) := by decide +kernel
theorem dX6_readNumber_1 : decode cX6_readNumber 1 = .ok (.getfield 33, 3) := by decide +kernel
theorem dX6_readNumber_4 : decode cX6_readNumber 4 = .ok (.iconst 2, 1) := by decide +kernel
theorem dX6_readNumber_5 : decode cX6_readNumber 5 = .ok (.if_icmp .eq 10, 3) := by decide +kernel
theorem dX6_readNumber_8 : decode cX6_readNumber 8 = .ok (.aload_n 0, 1) := by decide +kernel
theorem dX6_readNumber_9 : decode cX6_readNumber 9 = .ok (.iconst 1, 1) := by decide +kernel
theorem dX6_readNumber_10 : decode cX6_readNumber 10 = .ok (.invokevirtual 71, 3) := by decide +kernel
theorem dX6_readNumber_13 : decode cX6_readNumber 13 = .ok (.iload_n 1, 1) := by decide +kernel
theorem dX6_readNumber_14 : decode cX6_readNumber 14 = .ok (.ireturn, 1) := by decide +kernel
theorem dX6_readNumber_15 : decode cX6_readNumber 15 = .ok (.aload_n 0, 1) := by decide +kernel
theorem dX6_readNumber_16 : decode cX6_readNumber 16 = .ok (.invokevirtual 184, 3) := by decide +kernel
theorem dX6_readNumber_19 : decode cX6_readNumber 19 = .ok (.istore_n 3, 1) := by decide +kernel
theorem dX6_readNumber_20 : decode cX6_readNumber 20 = .ok (.iload_n 3, 1) := by decide +kernel
theorem dX6_readNumber_21 : decode cX6_readNumber 21 = .ok (.iload_n 1, 1) := by decide +kernel
theorem dX6_readNumber_22 : decode cX6_readNumber 22 = .ok (.if_icmp .lt 8, 3) := by decide +kernel
theorem dX6_readNumber_25 : decode cX6_readNumber 25 = .ok (.iload_n 3, 1) := by decide +kernel
theorem dX6_readNumber_26 : decode cX6_readNumber 26 = .ok (.iload_n 2, 1) := by decide +kernel
theorem dX6_readNumber_27 : decode cX6_readNumber 27 = .ok (.if_icmp .le 10, 3) := by decide +kernel
theorem dX6_readNumber_30 : decode cX6_readNumber 30 = .ok (.aload_n 0, 1) := by decide +kernel
theorem dX6_readNumber_31 : decode cX6_readNumber 31 = .ok (.iconst 2, 1) := by decide +kernel
theorem dX6_readNumber_32 : decode cX6_readNumber 32 = .ok (.invokevirtual 71, 3) := by decide +kernel
theorem dX6_readNumber_35 : decode cX6_readNumber 35 = .ok (.iload_n 1, 1) := by decide +kernel
theorem dX6_readNumber_36 : decode cX6_readNumber 36 = .ok (.ireturn, 1) := by decide +kernel
theorem dX6_readNumber_37 : decode cX6_readNumber 37 = .ok (.aload_n 0, 1) := by decide +kernel
theorem dX6_readNumber_38 : decode cX6_readNumber 38 = .ok (.invokevirtual 80, 3) := by decide +kernel
theorem dX6_readNumber_41 : decode cX6_readNumber 41 = .ok (.iload_n 3, 1) := by decide +kernel
theorem dX6_readNumber_42 : decode cX6_readNumber 42 = .ok (.ireturn, 1) := by decide +kernel
set_option maxRecDepth 20000 in
theorem ggX6_readWord_X6_isHere : GoodIn wsX6_readWord wsX6_isHere := goodIn_r _ [5, 6, 7, 8, 9, 10, 11, 12, 13, 14, 15, 16, 17, 18, 19, 20, 21, 22, 23, 24, 25, 26, 27, 28, 29, 30, 31, 32, 33, 34, 35, 36, 37, 38, 39, 40, 41, 42, 43, 44, 45, 46, 47, 48, 49, 50, 51, 52, 53, 54, 55, 56, 57, 58, 59, 60, 61, 81, 82, 83, 84, 85, 86, 87, 88, 89, 90, 91, 92, 93, 94, 95] (by decide +kernel) (by decide +kernel)
set_option maxRecDepth 20000 in
theorem gX6_readWord_X6_isHere : GoodIn wsX6_readWord (wsV RX6 92 RX6 yX6_isHere wsX6_isHere) := goodIn_app (goodIn_of _ (by decide +kernel)) ggX6_readWord_X6_isHere
set_option maxRecDepth 20000 in
theorem ggX6_readWord_X6_readToken : GoodIn wsX6_readWord wsX6_readToken := goodIn_r _ [65, 66, 7, 67, 8, 6, 68, 69, 70, 4, 71, 9, 81, 82, 83, 84, 85, 86, 87, 88, 89, 90, 91] (by decide +kernel) (by decide +kernel)
set_option maxRecDepth 20000 in
theorem gX6_readWord_X6_readToken : GoodIn wsX6_readWord (wsV RX6 80 RX6 yX6_readToken wsX6_readToken) := goodIn_app (goodIn_of _ (by decide +kernel)) ggX6_readWord_X6_readToken
set_option maxRecDepth 20000 in
theorem ggX6_readWord_X6_fail : GoodIn wsX6_readWord wsX6_fail := goodIn_r _ [75, 8, 76, 77, 78, 4, 79, 66, 80, 81, 82, 83, 84, 85, 86, 87, 88, 89, 90, 91] (by decide +kernel) (by decide +kernel)
set_option maxRecDepth 20000 in
theorem gX6_readWord_X6_fail : GoodIn wsX6_readWord (wsV RX6 71 RX6 yX6_fail wsX6_fail) := goodIn_app (goodIn_of _ (by decide +kernel)) ggX6_readWord_X6_fail
theorem dX6_readWord_0 : decode cX6_readWord 0 = .ok (.aload_n 0, 1) := by decide +kernel
theorem dX6_readWord_1 : decode cX6_readWord 1 = .ok (.aload_n 1, 1) := by decide +kernel
theorem dX6_readWord_2 : decode cX6_readWord 2 = .ok (.invokevirtual 92, 3) := by decide +kernel
theorem dX6_readWord_5 : decode cX6_readWord 5 = .ok (.ifCond .eq 10, 3) := by decide +kernel
theorem dX6_readWord_8 : decode cX6_readWord 8 = .ok (.aload_n 0, 1) := by decide +kernel
theorem dX6_readWord_9 : decode cX6_readWord 9 = .ok (.invokevirtual 80, 3) := by decide +kernel
theorem dX6_readWord_12 : decode cX6_readWord 12 = .ok (.goto 8, 3) := by decide +kernel
theorem dX6_readWord_15 : decode cX6_readWord 15 = .ok (.aload_n 0, 1) := by decide +kernel
theorem dX6_readWord_16 : decode cX6_readWord 16 = .ok (.iconst 1, 1) := by decide +kernel
theorem dX6_readWord_17 : decode cX6_readWord 17 = .ok (.invokevirtual 71, 3) := by decide +kernel
theorem dX6_readWord_20 : decode cX6_readWord 20 = .ok (.return_, 1) := by decide +kernel
set_option maxRecDepth 20000 in
theorem ggX6_readSemicolon_X6_readToken : GoodIn wsX6_readSemicolon wsX6_readToken := goodIn_r _ [6, 7, 8, 9, 10, 1, 11, 12, 13, 5, 14, 15, 25, 26, 27, 28, 29, 30, 31, 32, 33, 34, 35] (by decide +kernel) (by decide +kernel)
set_option maxRecDepth 20000 in
theorem gX6_readSemicolon_X6_readToken : GoodIn wsX6_readSemicolon (wsV RX6 80 RX6 yX6_readToken wsX6_readToken) := goodIn_app (goodIn_of _ (by decide +kernel)) ggX6_readSemicolon_X6_readToken
set_option maxRecDepth 20000 in
theorem ggX6_readSemicolon_X6_fail : GoodIn wsX6_readSemicolon wsX6_fail := goodIn_r _ [19, 10, 20, 21, 22, 5, 23, 7, 24, 25, 26, 27, 28, 29, 30, 31, 32, 33, 34, 35] (by decide +kernel) (by decide +kernel)
set_option maxRecDepth 20000 in
theorem gX6_readSemicolon_X6_fail : GoodIn wsX6_readSemicolon (wsV RX6 71 RX6 yX6_fail wsX6_fail) := goodIn_app (goodIn_of _ (by decide +kernel)) ggX6_readSemicolon_X6_fail
theorem dX6_readSemicolon_0 : decode cX6_readSemicolon 0 = .ok (.aload_n 0, 1) := by decide +kernel
theorem dX6_readSemicolon_1 : decode cX6_readSemicolon 1 = .ok (.getfield 33, 3) := by decide +kernel
theorem dX6_readSemicolon_4 : decode cX6_readSemicolon 4 = .ok (.iconst 4, 1) := by decide +kernel
theorem dX6_readSemicolon_5 : decode cX6_readSemicolon 5 = .ok (.if_icmp .ne 10, 3) := by decide +kernel
theorem dX6_readSemicolon_8 : decode cX6_readSemicolon 8 = .ok (.aload_n 0, 1) := by decide +kernel
theorem dX6_readSemicolon_9 : decode cX6_readSemicolon 9 = .ok (.invokevirtual 80, 3) := by decide +kernel
theorem dX6_readSemicolon_12 : decode cX6_readSemicolon 12 = .ok (.goto 8, 3) := by decide +kernel
theorem dX6_readSemicolon_15 : decode cX6_readSemicolon 15 = .ok (.aload_n 0, 1) := by decide +kernel
theorem dX6_readSemicolon_16 : decode cX6_readSemicolon 16 = .ok (.iconst 1, 1) := by decide +kernel
theorem dX6_readSemicolon_17 : decode cX6_readSemicolon 17 = .ok (.invokevirtual 71, 3) := by decide +kernel
theorem dX6_readSemicolon_20 : decode cX6_readSemicolon 20 = .ok (.return_, 1) := by decide +kernel
set_option maxRecDepth 20000 in
theorem ggX6_fail_X6_failAt : GoodIn wsX6_fail wsX6_failAt := goodIn_r _ [6, 7, 8, 9, 10, 11, 12, 13, 14, 15, 16, 17, 18, 19] (by decide +kernel) (by decide +kernel)
set_option maxRecDepth 20000 in
theorem gX6_fail_X6_failAt : GoodIn wsX6_fail (wsV RX6 142 RX6 yX6_failAt wsX6_failAt) := goodIn_app (goodIn_of _ (by decide +kernel)) ggX6_fail_X6_failAt
theorem dX6_fail_0 : decode cX6_fail 0 = .ok (.aload_n 0, 1) := by decide +kernel
theorem dX6_fail_1 : decode cX6_fail 1 = .ok (.iload_n 1, 1) := by decide +kernel
theorem dX6_fail_2 : decode cX6_fail 2 = .ok (.aload_n 0, 1) := by decide +kernel
theorem dX6_fail_3 : decode cX6_fail 3 = .ok (.getfield 36, 3) := by decide +kernel
theorem dX6_fail_6 : decode cX6_fail 6 = .ok (.invokevirtual 142, 3) := by decide +kernel
theorem dX6_fail_9 : decode cX6_fail 9 = .ok (.return_, 1) := by decide +kernel
theorem dX6_failAt_0 : decode cX6_failAt 0 = .ok (.aload_n 0, 1) := by decide +kernel
theorem dX6_failAt_1 : decode cX6_failAt 1 = .ok (.getfield 19, 3) := by decide +kernel
theorem dX6_failAt_4 : decode cX6_failAt 4 = .ok (.ifCond .ne 13, 3) := by decide +kernel
theorem dX6_failAt_7 : decode cX6_failAt 7 = .ok (.aload_n 0, 1) := by decide +kernel
theorem dX6_failAt_8 : decode cX6_failAt 8 = .ok (.iload_n 1, 1) := by decide +kernel
theorem dX6_failAt_9 : decode cX6_failAt 9 = .ok (.putfield 19, 3) := by decide +kernel
theorem dX6_failAt_12 : decode cX6_failAt 12 = .ok (.aload_n 0, 1) := by decide +kernel
theorem dX6_failAt_13 : decode cX6_failAt 13 = .ok (.iload_n 2, 1) := by decide +kernel
theorem dX6_failAt_14 : decode cX6_failAt 14 = .ok (.putfield 22, 3) := by decide +kernel
theorem dX6_failAt_17 : decode cX6_failAt 17 = .ok (.return_, 1) := by decide +kernel
set_option maxRecDepth 20000 in
theorem ggX6_readFirstToken_X6_readToken : GoodIn wsX6_readFirstToken wsX6_readToken := goodIn_r _ [8, 1, 3, 9, 10, 11, 12, 13, 14, 7, 15, 16, 17, 18, 19, 20, 21, 22, 23, 24, 25, 26, 27] (by decide +kernel) (by decide +kernel)
set_option maxRecDepth 20000 in
theorem gX6_readFirstToken_X6_readToken : GoodIn wsX6_readFirstToken (wsV RX6 80 RX6 yX6_readToken wsX6_readToken) := goodIn_app (goodIn_of _ (by decide +kernel)) ggX6_readFirstToken_X6_readToken
theorem dX6_readFirstToken_0 : decode cX6_readFirstToken 0 = .ok (.aload_n 0, 1) := by decide +kernel
theorem dX6_readFirstToken_1 : decode cX6_readFirstToken 1 = .ok (.iconst 0, 1) := by decide +kernel
theorem dX6_readFirstToken_2 : decode cX6_readFirstToken 2 = .ok (.putfield 19, 3) := by decide +kernel
theorem dX6_readFirstToken_5 : decode cX6_readFirstToken 5 = .ok (.aload_n 0, 1) := by decide +kernel
theorem dX6_readFirstToken_6 : decode cX6_readFirstToken 6 = .ok (.iconst (-1), 1) := by decide +kernel
theorem dX6_readFirstToken_7 : decode cX6_readFirstToken 7 = .ok (.putfield 22, 3) := by decide +kernel
theorem dX6_readFirstToken_10 : decode cX6_readFirstToken 10 = .ok (.aload_n 0, 1) := by decide +kernel
theorem dX6_readFirstToken_11 : decode cX6_readFirstToken 11 = .ok (.iconst 0, 1) := by decide +kernel
theorem dX6_readFirstToken_12 : decode cX6_readFirstToken 12 = .ok (.putfield 39, 3) := by decide +kernel
theorem dX6_readFirstToken_15 : decode cX6_readFirstToken 15 = .ok (.aload_n 0, 1) := by decide +kernel
theorem dX6_readFirstToken_16 : decode cX6_readFirstToken 16 = .ok (.invokevirtual 80, 3) := by decide +kernel
theorem dX6_readFirstToken_19 : decode cX6_readFirstToken 19 = .ok (.return_, 1) := by decide +kernel
set_option maxRecDepth 20000 in
theorem ggX6_readToken_X6_typeAt : GoodIn wsX6_readToken wsX6_typeAt := goodIn_r _ [10, 3, 11, 12, 13, 14, 15, 16, 17, 18, 19, 20, 21, 22] (by decide +kernel) (by decide +kernel)
set_option maxRecDepth 20000 in
theorem gX6_readToken_X6_typeAt : GoodIn wsX6_readToken (wsV RX6 187 RX6 yX6_typeAt wsX6_typeAt) := goodIn_app (goodIn_of _ (by decide +kernel)) ggX6_readToken_X6_typeAt
theorem dX6_readToken_0 : decode cX6_readToken 0 = .ok (.aload_n 0, 1) := by decide +kernel
theorem dX6_readToken_1 : decode cX6_readToken 1 = .ok (.getfield 19, 3) := by decide +kernel
theorem dX6_readToken_4 : decode cX6_readToken 4 = .ok (.ifCond .eq 4, 3) := by decide +kernel
theorem dX6_readToken_7 : decode cX6_readToken 7 = .ok (.return_, 1) := by decide +kernel
theorem dX6_readToken_8 : decode cX6_readToken 8 = .ok (.aload_n 0, 1) := by decide +kernel
theorem dX6_readToken_9 : decode cX6_readToken 9 = .ok (.getfield 39, 3) := by decide +kernel
theorem dX6_readToken_12 : decode cX6_readToken 12 = .ok (.istore_n 1, 1) := by decide +kernel
theorem dX6_readToken_13 : decode cX6_readToken 13 = .ok (.iload_n 1, 1) := by decide +kernel
theorem dX6_readToken_14 : decode cX6_readToken 14 = .ok (.aload_n 0, 1) := by decide +kernel
theorem dX6_readToken_15 : decode cX6_readToken 15 = .ok (.getfield 15, 3) := by decide +kernel
theorem dX6_readToken_18 : decode cX6_readToken 18 = .ok (.if_icmp .ge 18, 3) := by decide +kernel
theorem dX6_readToken_21 : decode cX6_readToken 21 = .ok (.aload_n 0, 1) := by decide +kernel
theorem dX6_readToken_22 : decode cX6_readToken 22 = .ok (.iload_n 1, 1) := by decide +kernel
theorem dX6_readToken_23 : decode cX6_readToken 23 = .ok (.invokevirtual 187, 3) := by decide +kernel
theorem dX6_readToken_26 : decode cX6_readToken 26 = .ok (.iconst 5, 1) := by decide +kernel
theorem dX6_readToken_27 : decode cX6_readToken 27 = .ok (.if_icmp .ne 9, 3) := by decide +kernel
theorem dX6_readToken_30 : decode cX6_readToken 30 = .ok (.iinc 1 1, 3) := by decide +kernel
theorem dX6_readToken_33 : decode cX6_readToken 33 = .ok (.goto (-20), 3) := by decide +kernel
theorem dX6_readToken_36 : decode cX6_readToken 36 = .ok (.aload_n 0, 1) := by decide +kernel
theorem dX6_readToken_37 : decode cX6_readToken 37 = .ok (.iload_n 1, 1) := by decide +kernel
theorem dX6_readToken_38 : decode cX6_readToken 38 = .ok (.putfield 36, 3) := by decide +kernel
theorem dX6_readToken_41 : decode cX6_readToken 41 = .ok (.aload_n 0, 1) := by decide +kernel
theorem dX6_readToken_42 : decode cX6_readToken 42 = .ok (.aload_n 0, 1) := by decide +kernel
theorem dX6_readToken_43 : decode cX6_readToken 43 = .ok (.iload_n 1, 1) := by decide +kernel
theorem dX6_readToken_44 : decode cX6_readToken 44 = .ok (.invokevirtual 187, 3) := by decide +kernel
theorem dX6_readToken_47 : decode cX6_readToken 47 = .ok (.putfield 33, 3) := by decide +kernel
theorem dX6_readToken_50 : decode cX6_readToken 50 = .ok (.aload_n 0, 1) := by decide +kernel
theorem dX6_readToken_51 : decode cX6_readToken 51 = .ok (.getfield 33, 3) := by decide +kernel
theorem dX6_readToken_54 : decode cX6_readToken 54 = .ok (.iconst 1, 1) := by decide +kernel
theorem dX6_readToken_55 : decode cX6_readToken 55 = .ok (.if_icmp .eq 11, 3) := by decide +kernel
theorem dX6_readToken_58 : decode cX6_readToken 58 = .ok (.aload_n 0, 1) := by decide +kernel
theorem dX6_readToken_59 : decode cX6_readToken 59 = .ok (.getfield 33, 3) := by decide +kernel
theorem dX6_readToken_62 : decode cX6_readToken 62 = .ok (.iconst 2, 1) := by decide +kernel
theorem dX6_readToken_63 : decode cX6_readToken 63 = .ok (.if_icmp .ne 29, 3) := by decide +kernel
theorem dX6_readToken_66 : decode cX6_readToken 66 = .ok (.iload_n 1, 1) := by decide +kernel
theorem dX6_readToken_67 : decode cX6_readToken 67 = .ok (.aload_n 0, 1) := by decide +kernel
theorem dX6_readToken_68 : decode cX6_readToken 68 = .ok (.getfield 15, 3) := by decide +kernel
theorem dX6_readToken_71 : decode cX6_readToken 71 = .ok (.if_icmp .ge 31, 3) := by decide +kernel
theorem dX6_readToken_74 : decode cX6_readToken 74 = .ok (.aload_n 0, 1) := by decide +kernel
theorem dX6_readToken_75 : decode cX6_readToken 75 = .ok (.iload_n 1, 1) := by decide +kernel
theorem dX6_readToken_76 : decode cX6_readToken 76 = .ok (.invokevirtual 187, 3) := by decide +kernel
theorem dX6_readToken_79 : decode cX6_readToken 79 = .ok (.aload_n 0, 1) := by decide +kernel
theorem dX6_readToken_80 : decode cX6_readToken 80 = .ok (.getfield 33, 3) := by decide +kernel
theorem dX6_readToken_83 : decode cX6_readToken 83 = .ok (.if_icmp .ne 19, 3) := by decide +kernel
theorem dX6_readToken_86 : decode cX6_readToken 86 = .ok (.iinc 1 1, 3) := by decide +kernel
theorem dX6_readToken_89 : decode cX6_readToken 89 = .ok (.goto (-23), 3) := by decide +kernel
theorem dX6_readToken_92 : decode cX6_readToken 92 = .ok (.aload_n 0, 1) := by decide +kernel
theorem dX6_readToken_93 : decode cX6_readToken 93 = .ok (.getfield 33, 3) := by decide +kernel
theorem dX6_readToken_96 : decode cX6_readToken 96 = .ok (.ifCond .eq 6, 3) := by decide +kernel
theorem dX6_readToken_99 : decode cX6_readToken 99 = .ok (.iinc 1 1, 3) := by decide +kernel
theorem dX6_readToken_102 : decode cX6_readToken 102 = .ok (.aload_n 0, 1) := by decide +kernel
theorem dX6_readToken_103 : decode cX6_readToken 103 = .ok (.iload_n 1, 1) := by decide +kernel
theorem dX6_readToken_104 : decode cX6_readToken 104 = .ok (.putfield 39, 3) := by decide +kernel
theorem dX6_readToken_107 : decode cX6_readToken 107 = .ok (.return_, 1) := by decide +kernel
theorem dX6_typeAt_0 : decode cX6_typeAt 0 = .ok (.iload_n 1, 1) := by decide +kernel
theorem dX6_typeAt_1 : decode cX6_typeAt 1 = .ok (.ifCond .lt 20, 3) := by decide +kernel
theorem dX6_typeAt_4 : decode cX6_typeAt 4 = .ok (.iload_n 1, 1) := by decide +kernel
theorem dX6_typeAt_5 : decode cX6_typeAt 5 = .ok (.aload_n 0, 1) := by decide +kernel
theorem dX6_typeAt_6 : decode cX6_typeAt 6 = .ok (.getfield 15, 3) := by decide +kernel
theorem dX6_typeAt_9 : decode cX6_typeAt 9 = .ok (.if_icmp .ge 12, 3) := by decide +kernel
theorem dX6_typeAt_12 : decode cX6_typeAt 12 = .ok (.iload_n 1, 1) := by decide +kernel
theorem dX6_typeAt_13 : decode cX6_typeAt 13 = .ok (.aload_n 0, 1) := by decide +kernel
theorem dX6_typeAt_14 : decode cX6_typeAt 14 = .ok (.getfield 9, 3) := by decide +kernel
theorem dX6_typeAt_17 : decode cX6_typeAt 17 = .ok (.arraylength, 1) := by decide +kernel
theorem dX6_typeAt_18 : decode cX6_typeAt 18 = .ok (.if_icmp .lt 5, 3) := by decide +kernel
theorem dX6_typeAt_21 : decode cX6_typeAt 21 = .ok (.iconst 0, 1) := by decide +kernel
theorem dX6_typeAt_22 : decode cX6_typeAt 22 = .ok (.ireturn, 1) := by decide +kernel
theorem dX6_typeAt_23 : decode cX6_typeAt 23 = .ok (.aload_n 0, 1) := by decide +kernel
theorem dX6_typeAt_24 : decode cX6_typeAt 24 = .ok (.getfield 9, 3) := by decide +kernel
theorem dX6_typeAt_27 : decode cX6_typeAt 27 = .ok (.iload_n 1, 1) := by decide +kernel
theorem dX6_typeAt_28 : decode cX6_typeAt 28 = .ok (.iaload, 1) := by decide +kernel
theorem dX6_typeAt_29 : decode cX6_typeAt 29 = .ok (.istore_n 2, 1) := by decide +kernel
theorem dX6_typeAt_30 : decode cX6_typeAt 30 = .ok (.iload_n 2, 1) := by decide +kernel
theorem dX6_typeAt_31 : decode cX6_typeAt 31 = .ok (.bipush 97, 2) := by decide +kernel
theorem dX6_typeAt_33 : decode cX6_typeAt 33 = .ok (.if_icmp .lt 11, 3) := by decide +kernel
theorem dX6_typeAt_36 : decode cX6_typeAt 36 = .ok (.iload_n 2, 1) := by decide +kernel
theorem dX6_typeAt_37 : decode cX6_typeAt 37 = .ok (.bipush 122, 2) := by decide +kernel
theorem dX6_typeAt_39 : decode cX6_typeAt 39 = .ok (.if_icmp .gt 5, 3) := by decide +kernel
theorem dX6_typeAt_42 : decode cX6_typeAt 42 = .ok (.iconst 1, 1) := by decide +kernel
theorem dX6_typeAt_43 : decode cX6_typeAt 43 = .ok (.ireturn, 1) := by decide +kernel
theorem dX6_typeAt_44 : decode cX6_typeAt 44 = .ok (.iload_n 2, 1) := by decide +kernel
theorem dX6_typeAt_45 : decode cX6_typeAt 45 = .ok (.bipush 48, 2) := by decide +kernel
theorem dX6_typeAt_47 : decode cX6_typeAt 47 = .ok (.if_icmp .lt 11, 3) := by decide +kernel
theorem dX6_typeAt_50 : decode cX6_typeAt 50 = .ok (.iload_n 2, 1) := by decide +kernel
theorem dX6_typeAt_51 : decode cX6_typeAt 51 = .ok (.bipush 57, 2) := by decide +kernel
theorem dX6_typeAt_53 : decode cX6_typeAt 53 = .ok (.if_icmp .gt 5, 3) := by decide +kernel
theorem dX6_typeAt_56 : decode cX6_typeAt 56 = .ok (.iconst 2, 1) := by decide +kernel
theorem dX6_typeAt_57 : decode cX6_typeAt 57 = .ok (.ireturn, 1) := by decide +kernel
theorem dX6_typeAt_58 : decode cX6_typeAt 58 = .ok (.iload_n 2, 1) := by decide +kernel
theorem dX6_typeAt_59 : decode cX6_typeAt 59 = .ok (.bipush 45, 2) := by decide +kernel
theorem dX6_typeAt_61 : decode cX6_typeAt 61 = .ok (.if_icmp .ne 5, 3) := by decide +kernel
theorem dX6_typeAt_64 : decode cX6_typeAt 64 = .ok (.iconst 3, 1) := by decide +kernel
theorem dX6_typeAt_65 : decode cX6_typeAt 65 = .ok (.ireturn, 1) := by decide +kernel
theorem dX6_typeAt_66 : decode cX6_typeAt 66 = .ok (.iload_n 2, 1) := by decide +kernel
theorem dX6_typeAt_67 : decode cX6_typeAt 67 = .ok (.bipush 59, 2) := by decide +kernel
theorem dX6_typeAt_69 : decode cX6_typeAt 69 = .ok (.if_icmp .ne 5, 3) := by decide +kernel
theorem dX6_typeAt_72 : decode cX6_typeAt 72 = .ok (.iconst 4, 1) := by decide +kernel
theorem dX6_typeAt_73 : decode cX6_typeAt 73 = .ok (.ireturn, 1) := by decide +kernel
theorem dX6_typeAt_74 : decode cX6_typeAt 74 = .ok (.iload_n 2, 1) := by decide +kernel
theorem dX6_typeAt_75 : decode cX6_typeAt 75 = .ok (.bipush 32, 2) := by decide +kernel
theorem dX6_typeAt_77 : decode cX6_typeAt 77 = .ok (.if_icmp .eq 9, 3) := by decide +kernel
theorem dX6_typeAt_80 : decode cX6_typeAt 80 = .ok (.iload_n 2, 1) := by decide +kernel
theorem dX6_typeAt_81 : decode cX6_typeAt 81 = .ok (.bipush 10, 2) := by decide +kernel
theorem dX6_typeAt_83 : decode cX6_typeAt 83 = .ok (.if_icmp .ne 7, 3) := by decide +kernel
theorem dX6_typeAt_86 : decode cX6_typeAt 86 = .ok (.iconst 5, 1) := by decide +kernel
theorem dX6_typeAt_87 : decode cX6_typeAt 87 = .ok (.goto 5, 3) := by decide +kernel
theorem dX6_typeAt_90 : decode cX6_typeAt 90 = .ok (.bipush 6, 2) := by decide +kernel
theorem dX6_typeAt_92 : decode cX6_typeAt 92 = .ok (.ireturn, 1) := by decide +kernel
set_option maxRecDepth 20000 in
theorem ggX6_isHere_J0_length_8abf5 : GoodIn wsX6_isHere wsJ0_length_8abf5 := goodIn_r _ [9, 10, 11, 12, 13, 8, 14, 15, 16, 68, 69, 70, 71] (by decide +kernel) (by decide +kernel)
set_option maxRecDepth 20000 in
theorem gX6_isHere_J0_length_8abf5 : GoodIn wsX6_isHere (wsV RX6 191 RJ0 yJ0_length_8abf5 wsJ0_length_8abf5) := goodIn_app (goodIn_of _ (by decide +kernel)) ggX6_isHere_J0_length_8abf5
set_option maxRecDepth 20000 in
theorem ggX6_isHere_X9_at : GoodIn wsX6_isHere wsX9_at := goodIn_r _ [19] (by decide +kernel) (by decide +kernel)
set_option maxRecDepth 20000 in
theorem gX6_isHere_X9_at_n48 : GoodIn wsX6_isHere (wsX9_at) := ggX6_isHere_X9_at
set_option maxRecDepth 20000 in
theorem ggX6_isHere_J0_charAt_5068e : GoodIn wsX6_isHere wsJ0_charAt_5068e := goodIn_r _ [23, 10, 24, 25, 26, 8, 27, 15, 16, 28, 29, 30, 31, 32, 33, 34, 35, 36, 37, 38, 39, 40, 41, 42, 43, 44, 45, 46, 47, 48, 49, 50, 51, 52, 53, 54, 55, 56, 68, 69, 70, 71] (by decide +kernel) (by decide +kernel)
set_option maxRecDepth 20000 in
theorem gX6_isHere_J0_charAt_5068e : GoodIn wsX6_isHere (wsV RX6 195 RJ0 yJ0_charAt_5068e wsJ0_charAt_5068e) := goodIn_app (goodIn_of _ (by decide +kernel)) ggX6_isHere_J0_charAt_5068e
theorem dX6_isHere_0 : decode cX6_isHere 0 = .ok (.aload_n 0, 1) := by decide +kernel
theorem dX6_isHere_1 : decode cX6_isHere 1 = .ok (.getfield 33, 3) := by decide +kernel
theorem dX6_isHere_4 : decode cX6_isHere 4 = .ok (.iconst 1, 1) := by decide +kernel
theorem dX6_isHere_5 : decode cX6_isHere 5 = .ok (.if_icmp .ne 19, 3) := by decide +kernel
theorem dX6_isHere_8 : decode cX6_isHere 8 = .ok (.aload_n 0, 1) := by decide +kernel
theorem dX6_isHere_9 : decode cX6_isHere 9 = .ok (.getfield 39, 3) := by decide +kernel
theorem dX6_isHere_12 : decode cX6_isHere 12 = .ok (.aload_n 0, 1) := by decide +kernel
theorem dX6_isHere_13 : decode cX6_isHere 13 = .ok (.getfield 36, 3) := by decide +kernel
theorem dX6_isHere_16 : decode cX6_isHere 16 = .ok (.isub, 1) := by decide +kernel
theorem dX6_isHere_17 : decode cX6_isHere 17 = .ok (.aload_n 1, 1) := by decide +kernel
theorem dX6_isHere_18 : decode cX6_isHere 18 = .ok (.invokevirtual 191, 3) := by decide +kernel
theorem dX6_isHere_21 : decode cX6_isHere 21 = .ok (.if_icmp .eq 5, 3) := by decide +kernel
theorem dX6_isHere_24 : decode cX6_isHere 24 = .ok (.iconst 0, 1) := by decide +kernel
theorem dX6_isHere_25 : decode cX6_isHere 25 = .ok (.ireturn, 1) := by decide +kernel
theorem dX6_isHere_26 : decode cX6_isHere 26 = .ok (.iconst 0, 1) := by decide +kernel
theorem dX6_isHere_27 : decode cX6_isHere 27 = .ok (.istore_n 2, 1) := by decide +kernel
theorem dX6_isHere_28 : decode cX6_isHere 28 = .ok (.iload_n 2, 1) := by decide +kernel
theorem dX6_isHere_29 : decode cX6_isHere 29 = .ok (.aload_n 1, 1) := by decide +kernel
theorem dX6_isHere_30 : decode cX6_isHere 30 = .ok (.invokevirtual 191, 3) := by decide +kernel
theorem dX6_isHere_33 : decode cX6_isHere 33 = .ok (.if_icmp .ge 32, 3) := by decide +kernel
theorem dX6_isHere_36 : decode cX6_isHere 36 = .ok (.aload_n 0, 1) := by decide +kernel
theorem dX6_isHere_37 : decode cX6_isHere 37 = .ok (.getfield 9, 3) := by decide +kernel
theorem dX6_isHere_40 : decode cX6_isHere 40 = .ok (.aload_n 0, 1) := by decide +kernel
theorem dX6_isHere_41 : decode cX6_isHere 41 = .ok (.getfield 36, 3) := by decide +kernel
theorem dX6_isHere_44 : decode cX6_isHere 44 = .ok (.iload_n 2, 1) := by decide +kernel
theorem dX6_isHere_45 : decode cX6_isHere 45 = .ok (.iadd, 1) := by decide +kernel
theorem dX6_isHere_46 : decode cX6_isHere 46 = .ok (.invokestatic 48, 3) := by decide +kernel
theorem dX6_isHere_49 : decode cX6_isHere 49 = .ok (.aload_n 1, 1) := by decide +kernel
theorem dX6_isHere_50 : decode cX6_isHere 50 = .ok (.iload_n 2, 1) := by decide +kernel
theorem dX6_isHere_51 : decode cX6_isHere 51 = .ok (.invokevirtual 195, 3) := by decide +kernel
theorem dX6_isHere_54 : decode cX6_isHere 54 = .ok (.if_icmp .eq 5, 3) := by decide +kernel
theorem dX6_isHere_57 : decode cX6_isHere 57 = .ok (.iconst 0, 1) := by decide +kernel
theorem dX6_isHere_58 : decode cX6_isHere 58 = .ok (.ireturn, 1) := by decide +kernel
theorem dX6_isHere_59 : decode cX6_isHere 59 = .ok (.iinc 2 1, 3) := by decide +kernel
theorem dX6_isHere_62 : decode cX6_isHere 62 = .ok (.goto (-34), 3) := by decide +kernel
theorem dX6_isHere_65 : decode cX6_isHere 65 = .ok (.iconst 1, 1) := by decide +kernel
theorem dX6_isHere_66 : decode cX6_isHere 66 = .ok (.ireturn, 1) := by decide +kernel
set_option maxRecDepth 20000 in
theorem ggX6_numberHere_X9_at : GoodIn wsX6_numberHere wsX9_at := goodIn_r _ [7] (by decide +kernel) (by decide +kernel)
set_option maxRecDepth 20000 in
theorem gX6_numberHere_X9_at_n48 : GoodIn wsX6_numberHere (wsX9_at) := ggX6_numberHere_X9_at
theorem dX6_numberHere_0 : decode cX6_numberHere 0 = .ok (.iconst 0, 1) := by decide +kernel
theorem dX6_numberHere_1 : decode cX6_numberHere 1 = .ok (.istore_n 1, 1) := by decide +kernel
theorem dX6_numberHere_2 : decode cX6_numberHere 2 = .ok (.aload_n 0, 1) := by decide +kernel
theorem dX6_numberHere_3 : decode cX6_numberHere 3 = .ok (.getfield 36, 3) := by decide +kernel
theorem dX6_numberHere_6 : decode cX6_numberHere 6 = .ok (.istore_n 2, 1) := by decide +kernel
theorem dX6_numberHere_7 : decode cX6_numberHere 7 = .ok (.iload_n 2, 1) := by decide +kernel
theorem dX6_numberHere_8 : decode cX6_numberHere 8 = .ok (.aload_n 0, 1) := by decide +kernel
theorem dX6_numberHere_9 : decode cX6_numberHere 9 = .ok (.getfield 39, 3) := by decide +kernel
theorem dX6_numberHere_12 : decode cX6_numberHere 12 = .ok (.if_icmp .ge 35, 3) := by decide +kernel
theorem dX6_numberHere_15 : decode cX6_numberHere 15 = .ok (.iload_n 1, 1) := by decide +kernel
theorem dX6_numberHere_16 : decode cX6_numberHere 16 = .ok (.bipush 10, 2) := by decide +kernel
theorem dX6_numberHere_18 : decode cX6_numberHere 18 = .ok (.imul, 1) := by decide +kernel
theorem dX6_numberHere_19 : decode cX6_numberHere 19 = .ok (.aload_n 0, 1) := by decide +kernel
theorem dX6_numberHere_20 : decode cX6_numberHere 20 = .ok (.getfield 9, 3) := by decide +kernel
theorem dX6_numberHere_23 : decode cX6_numberHere 23 = .ok (.iload_n 2, 1) := by decide +kernel
theorem dX6_numberHere_24 : decode cX6_numberHere 24 = .ok (.invokestatic 48, 3) := by decide +kernel
theorem dX6_numberHere_27 : decode cX6_numberHere 27 = .ok (.iadd, 1) := by decide +kernel
theorem dX6_numberHere_28 : decode cX6_numberHere 28 = .ok (.bipush 48, 2) := by decide +kernel
theorem dX6_numberHere_30 : decode cX6_numberHere 30 = .ok (.isub, 1) := by decide +kernel
theorem dX6_numberHere_31 : decode cX6_numberHere 31 = .ok (.istore_n 1, 1) := by decide +kernel
theorem dX6_numberHere_32 : decode cX6_numberHere 32 = .ok (.iload_n 1, 1) := by decide +kernel
theorem dX6_numberHere_33 : decode cX6_numberHere 33 = .ok (.ldc 199, 2) := by decide +kernel
theorem dX6_numberHere_35 : decode cX6_numberHere 35 = .ok (.if_icmp .le 6, 3) := by decide +kernel
theorem dX6_numberHere_38 : decode cX6_numberHere 38 = .ok (.ldc 199, 2) := by decide +kernel
theorem dX6_numberHere_40 : decode cX6_numberHere 40 = .ok (.istore_n 1, 1) := by decide +kernel
theorem dX6_numberHere_41 : decode cX6_numberHere 41 = .ok (.iinc 2 1, 3) := by decide +kernel
theorem dX6_numberHere_44 : decode cX6_numberHere 44 = .ok (.goto (-37), 3) := by decide +kernel
theorem dX6_numberHere_47 : decode cX6_numberHere 47 = .ok (.iload_n 1, 1) := by decide +kernel
theorem dX6_numberHere_48 : decode cX6_numberHere 48 = .ok (.ireturn, 1) := by decide +kernel
