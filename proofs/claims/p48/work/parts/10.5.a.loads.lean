set_option maxRecDepth 20000 in
theorem ggL_loads_L_draw : GoodIn wsL_loads wsL_draw := goodIn_r _ [7, 8, 9, 10, 11, 12, 13, 14, 15, 16, 17, 18, 6, 19, 20, 21, 529, 530, 531, 532] (by decide +kernel) (by decide +kernel)
set_option maxRecDepth 20000 in
theorem gL_loads_L_draw : GoodIn wsL_loads (wsV RL 139 RL yL_draw wsL_draw) := goodIn_app (goodIn_of _ (by decide +kernel)) ggL_loads_L_draw
set_option maxRecDepth 20000 in
theorem ggL_loads_J4_setLength_d00df : GoodIn wsL_loads wsJ4_setLength_d00df := goodIn_r _ [26, 27, 28, 29, 30, 31, 32, 33, 34, 35, 36, 37, 38, 39, 40, 41, 42, 43, 44, 45, 46, 47, 48, 49, 50, 51, 52, 53, 54, 55, 11, 12, 13, 56, 57, 58, 59, 60, 61, 62, 63, 64, 65, 66, 67, 68, 69, 70, 71, 72, 73, 74, 75, 76, 77, 78, 79, 80, 81, 82, 83, 84, 85, 86, 87, 88, 89, 90, 91, 92, 93, 94, 95, 25, 96, 97, 98, 99, 100, 101, 102, 103, 533, 534, 535, 536, 537, 538, 539, 540, 541, 542, 543, 544, 545, 546, 547, 548] (by decide +kernel) (by decide +kernel)
set_option maxRecDepth 20000 in
theorem gL_loads_J4_setLength_d00df : GoodIn wsL_loads (wsV RL 142 RJ4 yJ4_setLength_d00df wsJ4_setLength_d00df) := goodIn_app (goodIn_of _ (by decide +kernel)) ggL_loads_J4_setLength_d00df
set_option maxRecDepth 20000 in
theorem ggL_loads_J4_append_15ec4 : GoodIn wsL_loads wsJ4_append_15ec4 := goodIn_r _ [107, 108, 109, 29, 110, 31, 111, 36, 112, 113, 114, 115, 116, 37, 39, 40, 41, 42, 43, 44, 45, 46, 47, 48, 49, 50, 51, 52, 53, 54, 55, 11, 12, 13, 56, 57, 58, 59, 60, 61, 62, 63, 64, 65, 66, 67, 68, 69, 70, 71, 72, 73, 74, 75, 76, 77, 78, 79, 80, 81, 82, 83, 117, 118, 101, 119, 120, 121, 122, 123, 124, 125, 126, 127, 128, 129, 130, 131, 132, 133, 134, 135, 136, 137, 138, 139, 140, 141, 142, 143, 144, 145, 146, 147, 148, 149, 150, 151, 152, 153, 154, 155, 156, 157, 158, 159, 160, 161, 162, 163, 164, 165, 166, 167, 168, 169, 170, 171, 172, 173, 174, 175, 176, 86, 177, 178, 179, 180, 181, 182, 183, 184, 185, 186, 187, 188, 189, 190, 191, 192, 193, 194, 195, 539, 540, 541, 542, 549, 550, 551, 552] (by decide +kernel) (by decide +kernel)
set_option maxRecDepth 20000 in
theorem gL_loads_J4_append_15ec4 : GoodIn wsL_loads (wsV RL 147 RJ4 yJ4_append_15ec4 wsJ4_append_15ec4) := goodIn_app (goodIn_of _ (by decide +kernel)) ggL_loads_J4_append_15ec4
set_option maxRecDepth 20000 in
theorem ggL_loads_J4_append_bf812 : GoodIn wsL_loads wsJ4_append_bf812 := goodIn_r _ [199, 200, 201, 29, 202, 31, 203, 36, 37, 204, 205, 206, 207, 39, 40, 41, 42, 43, 44, 45, 46, 47, 48, 49, 50, 51, 52, 53, 54, 55, 11, 12, 13, 56, 57, 58, 59, 60, 61, 62, 63, 64, 65, 66, 67, 68, 69, 70, 71, 72, 73, 74, 75, 76, 77, 78, 79, 80, 81, 82, 83, 208, 209, 210, 211, 212, 213, 214, 101, 215, 120, 121, 122, 123, 124, 125, 126, 127, 128, 129, 130, 131, 132, 133, 134, 135, 216, 217, 218, 219, 220, 136, 137, 138, 139, 140, 539, 540, 541, 542] (by decide +kernel) (by decide +kernel)
set_option maxRecDepth 20000 in
theorem gL_loads_J4_append_bf812 : GoodIn wsL_loads (wsV RL 151 RJ4 yJ4_append_bf812 wsJ4_append_bf812) := goodIn_app (goodIn_of _ (by decide +kernel)) ggL_loads_J4_append_bf812
set_option maxRecDepth 20000 in
theorem ggL_loads_J4_append_cf468 : GoodIn wsL_loads wsJ4_append_cf468 := goodIn_r _ [224, 225, 226, 29, 227, 31, 228, 36, 37, 39, 40, 41, 42, 43, 44, 45, 46, 47, 48, 49, 50, 51, 52, 53, 54, 55, 11, 12, 13, 56, 57, 58, 59, 60, 61, 62, 63, 64, 65, 66, 67, 68, 69, 70, 71, 72, 73, 74, 75, 76, 77, 78, 79, 80, 81, 82, 83, 229, 230, 86, 231, 163, 164, 165, 166, 167, 168, 169, 101, 170, 171, 172, 173, 174, 175, 176, 177, 178, 179, 180, 181, 182, 183, 124, 125, 126, 184, 185, 129, 186, 131, 187, 188, 134, 189, 136, 137, 138, 120, 139, 140, 232, 233, 234, 235, 236, 237, 238, 239, 240, 241, 242, 243, 539, 540, 541, 542] (by decide +kernel) (by decide +kernel)
set_option maxRecDepth 20000 in
theorem gL_loads_J4_append_cf468 : GoodIn wsL_loads (wsV RL 154 RJ4 yJ4_append_cf468 wsJ4_append_cf468) := goodIn_app (goodIn_of _ (by decide +kernel)) ggL_loads_J4_append_cf468
set_option maxRecDepth 20000 in
theorem ggL_loads_J4_toString_0e30d : GoodIn wsL_loads wsJ4_toString_0e30d := goodIn_r _ [247, 248, 249, 129, 250, 251, 252, 253, 254, 255, 256, 257, 258, 151, 145, 150, 259, 260, 261, 262, 263, 31, 264, 37, 265, 266, 267, 268, 269, 25, 270, 271, 29, 272, 273, 36, 274, 79, 80, 81, 82, 83, 44, 275, 276, 62, 277, 64, 65, 66, 67, 68, 69, 278, 279, 280, 70, 71, 72, 12, 73, 74, 75, 76, 77, 281, 282, 283, 94, 95, 284, 285, 101, 286, 287, 288, 289, 181, 182, 183, 124, 125, 126, 184, 185, 186, 131, 187, 188, 134, 189, 290, 291, 292, 120, 139, 140, 171, 172, 173, 174, 293, 294, 295, 296, 549, 550, 551, 552, 539, 540, 541, 542] (by decide +kernel) (by decide +kernel)
set_option maxRecDepth 20000 in
theorem gL_loads_J4_toString_0e30d : GoodIn wsL_loads (wsV RL 179 RJ4 yJ4_toString_0e30d wsJ4_toString_0e30d) := goodIn_app (goodIn_of _ (by decide +kernel)) ggL_loads_J4_toString_0e30d
set_option maxRecDepth 20000 in
theorem ggL_loads_L_lays : GoodIn wsL_loads wsL_lays := goodIn_ca (goodIn_ca (goodIn_r _ [300, 2, 301, 302, 6, 303, 304, 305, 306, 307, 308, 309, 310, 311, 312, 313, 314, 142, 143, 129, 144, 145, 146, 147, 148, 149, 150, 151, 315, 316, 317, 318, 319, 320, 321, 322, 323, 324, 86, 325, 326, 239, 240, 131, 241, 242, 134, 243, 327, 328, 101, 329, 235, 236, 237, 124, 125, 126, 238, 290, 291, 292, 120, 139, 140, 330, 331, 332, 333, 334, 335, 336, 337, 338, 339, 340, 341, 342, 343, 344, 345, 346, 529, 530, 531, 532, 553, 554, 555, 556, 557, 558, 559, 560, 561, 562, 563, 564, 565, 566, 567, 568, 569, 570, 571, 572, 549, 550, 551, 552] (by decide +kernel) (by decide +kernel)) (goodIn_sub (fun _ h => List.mem_cons_of_mem _ (List.mem_append_left _ (List.mem_append_right _ h))) (by decide +kernel))) (goodIn_sub (fun _ h => List.mem_cons_of_mem _ (List.mem_append_right _ h)) (by decide +kernel))
set_option maxRecDepth 20000 in
theorem gL_loads_L_lays : GoodIn wsL_loads (wsV RL 183 RL yL_lays wsL_lays) := goodIn_app (goodIn_of _ (by decide +kernel)) ggL_loads_L_lays
set_option maxRecDepth 20000 in
theorem ggL_loads_X9_load : GoodIn wsL_loads wsX9_load := goodIn_r _ [350, 312, 351, 313, 352, 353, 354, 355, 356, 357, 343, 358, 359, 360, 361, 362, 363, 364, 365, 366, 367, 368, 369, 370, 371, 372, 373, 374, 375, 376, 377, 378, 379, 380, 381, 382, 383, 384, 385, 386, 387, 388, 389, 390, 391, 345, 392, 393, 394, 395, 396, 346, 397, 398, 399, 400, 401, 402, 403, 404, 405, 406, 407, 408, 409, 410, 142, 143, 129, 144, 145, 146, 147, 148, 149, 150, 151, 411, 308, 412, 413, 316, 317, 318, 319, 320, 321, 322, 323, 324, 86, 325, 326, 239, 240, 131, 241, 242, 134, 243, 327, 328, 101, 329, 235, 236, 237, 124, 125, 126, 238, 290, 291, 292, 120, 139, 140, 414, 415, 416, 417, 418, 419, 420, 421, 422, 423, 424, 425, 426, 427, 428, 429, 430, 431, 432, 433, 434, 435, 436, 437, 438, 439, 440, 441, 442, 443, 444, 445, 446, 447, 448, 449, 450, 451, 452, 453, 454, 455, 456, 457, 458, 459, 460, 461, 462, 463, 464, 465, 466, 467, 468, 469, 470, 471, 472, 473, 474, 475, 476, 477, 478, 479, 480, 481, 482, 483, 484, 485, 486, 487, 488, 489, 490, 491, 492, 493, 494, 495, 496, 75, 76, 77, 497, 498, 499, 500, 501, 502, 503, 504, 553, 554, 555, 556, 557, 558, 559, 560, 561, 562, 563, 564, 565, 566, 567, 568, 569, 570, 571, 572, 573, 574, 575, 576, 577, 578, 579, 580, 581, 582, 583, 584, 585, 549, 550, 551, 552, 586, 587, 588] (by decide +kernel) (by decide +kernel)
set_option maxRecDepth 20000 in
theorem gL_loads_X9_load : GoodIn wsL_loads (wsV RL 187 RX9 yX9_load wsX9_load) := goodIn_app (goodIn_of _ (by decide +kernel)) ggL_loads_X9_load
set_option maxRecDepth 20000 in
theorem ggL_loads_X9_lip : GoodIn wsL_loads wsX9_lip := goodIn_r _ [508, 352, 509, 553, 554, 555, 556, 557, 558, 559, 560, 561, 573, 574, 575, 576, 577, 578, 579, 580, 581, 582, 583, 584, 585] (by decide +kernel) (by decide +kernel)
set_option maxRecDepth 20000 in
theorem gL_loads_X9_lip : GoodIn wsL_loads (wsV RL 190 RX9 yX9_lip wsX9_lip) := goodIn_app (goodIn_of _ (by decide +kernel)) ggL_loads_X9_lip
set_option maxRecDepth 20000 in
theorem ggL_loads_X9_undo : GoodIn wsL_loads wsX9_undo := goodIn_r _ [513, 353, 352, 514, 515, 516, 502, 517, 504, 518, 519, 520, 493, 494, 366, 495, 368, 496, 75, 76, 77, 376, 381, 462, 457, 497, 369, 370, 371, 498, 483, 488, 489, 553, 554, 555, 556, 557, 558, 559, 560, 561, 586, 587, 588, 573, 574, 575, 576, 577, 578, 579, 580, 581, 582, 583, 584, 585] (by decide +kernel) (by decide +kernel)
set_option maxRecDepth 20000 in
theorem gL_loads_X9_undo : GoodIn wsL_loads (wsV RL 193 RX9 yX9_undo wsX9_undo) := goodIn_app (goodIn_of _ (by decide +kernel)) ggL_loads_X9_undo
set_option maxRecDepth 20000 in
theorem ggL_loads_L_count : GoodIn wsL_loads wsL_count := goodIn_ca (goodIn_r _ [523, 304, 524, 525, 526, 308, 527, 310, 311, 353, 528, 352, 354, 553, 554, 555, 556, 557, 558, 559, 560, 561, 586, 587, 588, 573, 574, 575, 576, 577, 578, 579, 580, 581, 582, 583, 584, 585] (by decide +kernel) (by decide +kernel)) (goodIn_sub (fun _ h => List.mem_cons_of_mem _ (List.mem_append_left _ (List.mem_append_right _ h))) (by decide +kernel))
set_option maxRecDepth 20000 in
theorem gL_loads_L_count : GoodIn wsL_loads (va_wsS RL 196 yL_count wsL_count) := goodIn_app (goodIn_of _ (by decide +kernel)) ggL_loads_L_count
theorem dL_loads_0 : decode cL_loads 0 = .ok (.aload_n 0, 1) := by decide +kernel
theorem dL_loads_1 : decode cL_loads 1 = .ok (.bipush 10, 2) := by decide +kernel
theorem dL_loads_3 : decode cL_loads 3 = .ok (.invokevirtual 139, 3) := by decide +kernel
theorem dL_loads_6 : decode cL_loads 6 = .ok (.istore_n 1, 1) := by decide +kernel
theorem dL_loads_7 : decode cL_loads 7 = .ok (.iconst 3, 1) := by decide +kernel
theorem dL_loads_8 : decode cL_loads 8 = .ok (.aload_n 0, 1) := by decide +kernel
theorem dL_loads_9 : decode cL_loads 9 = .ok (.bipush 6, 2) := by decide +kernel
theorem dL_loads_11 : decode cL_loads 11 = .ok (.invokevirtual 139, 3) := by decide +kernel
theorem dL_loads_14 : decode cL_loads 14 = .ok (.iadd, 1) := by decide +kernel
theorem dL_loads_15 : decode cL_loads 15 = .ok (.istore_n 2, 1) := by decide +kernel
theorem dL_loads_16 : decode cL_loads 16 = .ok (.aload_n 0, 1) := by decide +kernel
theorem dL_loads_17 : decode cL_loads 17 = .ok (.getfield 19, 3) := by decide +kernel
theorem dL_loads_20 : decode cL_loads 20 = .ok (.iconst 0, 1) := by decide +kernel
theorem dL_loads_21 : decode cL_loads 21 = .ok (.invokevirtual 142, 3) := by decide +kernel
theorem dL_loads_24 : decode cL_loads 24 = .ok (.aload_n 0, 1) := by decide +kernel
theorem dL_loads_25 : decode cL_loads 25 = .ok (.getfield 19, 3) := by decide +kernel
theorem dL_loads_28 : decode cL_loads 28 = .ok (.ldc 145, 2) := by decide +kernel
theorem dL_loads_30 : decode cL_loads 30 = .ok (.invokevirtual 147, 3) := by decide +kernel
theorem dL_loads_33 : decode cL_loads 33 = .ok (.iload_n 1, 1) := by decide +kernel
theorem dL_loads_34 : decode cL_loads 34 = .ok (.invokevirtual 151, 3) := by decide +kernel
theorem dL_loads_37 : decode cL_loads 37 = .ok (.bipush 32, 2) := by decide +kernel
theorem dL_loads_39 : decode cL_loads 39 = .ok (.invokevirtual 154, 3) := by decide +kernel
theorem dL_loads_42 : decode cL_loads 42 = .ok (.iload_n 1, 1) := by decide +kernel
theorem dL_loads_43 : decode cL_loads 43 = .ok (.aload_n 0, 1) := by decide +kernel
theorem dL_loads_44 : decode cL_loads 44 = .ok (.bipush 30, 2) := by decide +kernel
theorem dL_loads_46 : decode cL_loads 46 = .ok (.invokevirtual 139, 3) := by decide +kernel
theorem dL_loads_49 : decode cL_loads 49 = .ok (.iadd, 1) := by decide +kernel
theorem dL_loads_50 : decode cL_loads 50 = .ok (.invokevirtual 151, 3) := by decide +kernel
theorem dL_loads_53 : decode cL_loads 53 = .ok (.ldc 157, 2) := by decide +kernel
theorem dL_loads_55 : decode cL_loads 55 = .ok (.invokevirtual 147, 3) := by decide +kernel
theorem dL_loads_58 : decode cL_loads 58 = .ok (.iconst 2, 1) := by decide +kernel
theorem dL_loads_59 : decode cL_loads 59 = .ok (.aload_n 0, 1) := by decide +kernel
theorem dL_loads_60 : decode cL_loads 60 = .ok (.bipush 12, 2) := by decide +kernel
theorem dL_loads_62 : decode cL_loads 62 = .ok (.invokevirtual 139, 3) := by decide +kernel
theorem dL_loads_65 : decode cL_loads 65 = .ok (.iadd, 1) := by decide +kernel
theorem dL_loads_66 : decode cL_loads 66 = .ok (.invokevirtual 151, 3) := by decide +kernel
theorem dL_loads_69 : decode cL_loads 69 = .ok (.ldc 159, 2) := by decide +kernel
theorem dL_loads_71 : decode cL_loads 71 = .ok (.invokevirtual 147, 3) := by decide +kernel
theorem dL_loads_74 : decode cL_loads 74 = .ok (.aload_n 0, 1) := by decide +kernel
theorem dL_loads_75 : decode cL_loads 75 = .ok (.bipush 8, 2) := by decide +kernel
theorem dL_loads_77 : decode cL_loads 77 = .ok (.invokevirtual 139, 3) := by decide +kernel
theorem dL_loads_80 : decode cL_loads 80 = .ok (.invokevirtual 151, 3) := by decide +kernel
theorem dL_loads_83 : decode cL_loads 83 = .ok (.ldc 161, 2) := by decide +kernel
theorem dL_loads_85 : decode cL_loads 85 = .ok (.invokevirtual 147, 3) := by decide +kernel
theorem dL_loads_88 : decode cL_loads 88 = .ok (.iconst 5, 1) := by decide +kernel
theorem dL_loads_89 : decode cL_loads 89 = .ok (.aload_n 0, 1) := by decide +kernel
theorem dL_loads_90 : decode cL_loads 90 = .ok (.bipush 40, 2) := by decide +kernel
theorem dL_loads_92 : decode cL_loads 92 = .ok (.invokevirtual 139, 3) := by decide +kernel
theorem dL_loads_95 : decode cL_loads 95 = .ok (.iadd, 1) := by decide +kernel
theorem dL_loads_96 : decode cL_loads 96 = .ok (.invokevirtual 151, 3) := by decide +kernel
theorem dL_loads_99 : decode cL_loads 99 = .ok (.ldc 163, 2) := by decide +kernel
theorem dL_loads_101 : decode cL_loads 101 = .ok (.invokevirtual 147, 3) := by decide +kernel
theorem dL_loads_104 : decode cL_loads 104 = .ok (.iconst 3, 1) := by decide +kernel
theorem dL_loads_105 : decode cL_loads 105 = .ok (.aload_n 0, 1) := by decide +kernel
theorem dL_loads_106 : decode cL_loads 106 = .ok (.bipush 6, 2) := by decide +kernel
theorem dL_loads_108 : decode cL_loads 108 = .ok (.invokevirtual 139, 3) := by decide +kernel
theorem dL_loads_111 : decode cL_loads 111 = .ok (.iadd, 1) := by decide +kernel
theorem dL_loads_112 : decode cL_loads 112 = .ok (.invokevirtual 151, 3) := by decide +kernel
theorem dL_loads_115 : decode cL_loads 115 = .ok (.ldc 165, 2) := by decide +kernel
theorem dL_loads_117 : decode cL_loads 117 = .ok (.invokevirtual 147, 3) := by decide +kernel
theorem dL_loads_120 : decode cL_loads 120 = .ok (.sipush 150, 3) := by decide +kernel
theorem dL_loads_123 : decode cL_loads 123 = .ok (.aload_n 0, 1) := by decide +kernel
theorem dL_loads_124 : decode cL_loads 124 = .ok (.sipush 500, 3) := by decide +kernel
theorem dL_loads_127 : decode cL_loads 127 = .ok (.invokevirtual 139, 3) := by decide +kernel
theorem dL_loads_130 : decode cL_loads 130 = .ok (.iadd, 1) := by decide +kernel
theorem dL_loads_131 : decode cL_loads 131 = .ok (.invokevirtual 151, 3) := by decide +kernel
theorem dL_loads_134 : decode cL_loads 134 = .ok (.ldc 167, 2) := by decide +kernel
theorem dL_loads_136 : decode cL_loads 136 = .ok (.invokevirtual 147, 3) := by decide +kernel
theorem dL_loads_139 : decode cL_loads 139 = .ok (.bipush 40, 2) := by decide +kernel
theorem dL_loads_141 : decode cL_loads 141 = .ok (.aload_n 0, 1) := by decide +kernel
theorem dL_loads_142 : decode cL_loads 142 = .ok (.sipush 160, 3) := by decide +kernel
theorem dL_loads_145 : decode cL_loads 145 = .ok (.invokevirtual 139, 3) := by decide +kernel
theorem dL_loads_148 : decode cL_loads 148 = .ok (.iadd, 1) := by decide +kernel
theorem dL_loads_149 : decode cL_loads 149 = .ok (.invokevirtual 151, 3) := by decide +kernel
theorem dL_loads_152 : decode cL_loads 152 = .ok (.ldc 169, 2) := by decide +kernel
theorem dL_loads_154 : decode cL_loads 154 = .ok (.invokevirtual 147, 3) := by decide +kernel
theorem dL_loads_157 : decode cL_loads 157 = .ok (.iconst 1, 1) := by decide +kernel
theorem dL_loads_158 : decode cL_loads 158 = .ok (.aload_n 0, 1) := by decide +kernel
theorem dL_loads_159 : decode cL_loads 159 = .ok (.iconst 3, 1) := by decide +kernel
theorem dL_loads_160 : decode cL_loads 160 = .ok (.invokevirtual 139, 3) := by decide +kernel
theorem dL_loads_163 : decode cL_loads 163 = .ok (.iadd, 1) := by decide +kernel
theorem dL_loads_164 : decode cL_loads 164 = .ok (.invokevirtual 151, 3) := by decide +kernel
theorem dL_loads_167 : decode cL_loads 167 = .ok (.bipush 32, 2) := by decide +kernel
theorem dL_loads_169 : decode cL_loads 169 = .ok (.invokevirtual 154, 3) := by decide +kernel
theorem dL_loads_172 : decode cL_loads 172 = .ok (.aload_n 0, 1) := by decide +kernel
theorem dL_loads_173 : decode cL_loads 173 = .ok (.iconst 5, 1) := by decide +kernel
theorem dL_loads_174 : decode cL_loads 174 = .ok (.invokevirtual 139, 3) := by decide +kernel
theorem dL_loads_177 : decode cL_loads 177 = .ok (.invokevirtual 151, 3) := by decide +kernel
theorem dL_loads_180 : decode cL_loads 180 = .ok (.bipush 32, 2) := by decide +kernel
theorem dL_loads_182 : decode cL_loads 182 = .ok (.invokevirtual 154, 3) := by decide +kernel
theorem dL_loads_185 : decode cL_loads 185 = .ok (.aload_n 0, 1) := by decide +kernel
theorem dL_loads_186 : decode cL_loads 186 = .ok (.iconst 3, 1) := by decide +kernel
theorem dL_loads_187 : decode cL_loads 187 = .ok (.invokevirtual 139, 3) := by decide +kernel
theorem dL_loads_190 : decode cL_loads 190 = .ok (.invokevirtual 151, 3) := by decide +kernel
theorem dL_loads_193 : decode cL_loads 193 = .ok (.ldc 171, 2) := by decide +kernel
theorem dL_loads_195 : decode cL_loads 195 = .ok (.invokevirtual 147, 3) := by decide +kernel
theorem dL_loads_198 : decode cL_loads 198 = .ok (.iconst 1, 1) := by decide +kernel
theorem dL_loads_199 : decode cL_loads 199 = .ok (.aload_n 0, 1) := by decide +kernel
theorem dL_loads_200 : decode cL_loads 200 = .ok (.iconst 3, 1) := by decide +kernel
theorem dL_loads_201 : decode cL_loads 201 = .ok (.invokevirtual 139, 3) := by decide +kernel
theorem dL_loads_204 : decode cL_loads 204 = .ok (.iadd, 1) := by decide +kernel
theorem dL_loads_205 : decode cL_loads 205 = .ok (.invokevirtual 151, 3) := by decide +kernel
theorem dL_loads_208 : decode cL_loads 208 = .ok (.ldc 173, 2) := by decide +kernel
theorem dL_loads_210 : decode cL_loads 210 = .ok (.invokevirtual 147, 3) := by decide +kernel
theorem dL_loads_213 : decode cL_loads 213 = .ok (.iconst 1, 1) := by decide +kernel
theorem dL_loads_214 : decode cL_loads 214 = .ok (.aload_n 0, 1) := by decide +kernel
theorem dL_loads_215 : decode cL_loads 215 = .ok (.iconst 4, 1) := by decide +kernel
theorem dL_loads_216 : decode cL_loads 216 = .ok (.invokevirtual 139, 3) := by decide +kernel
theorem dL_loads_219 : decode cL_loads 219 = .ok (.iadd, 1) := by decide +kernel
theorem dL_loads_220 : decode cL_loads 220 = .ok (.invokevirtual 151, 3) := by decide +kernel
theorem dL_loads_223 : decode cL_loads 223 = .ok (.bipush 59, 2) := by decide +kernel
theorem dL_loads_225 : decode cL_loads 225 = .ok (.invokevirtual 154, 3) := by decide +kernel
theorem dL_loads_228 : decode cL_loads 228 = .ok (.pop, 1) := by decide +kernel
theorem dL_loads_229 : decode cL_loads 229 = .ok (.iconst 0, 1) := by decide +kernel
theorem dL_loads_230 : decode cL_loads 230 = .ok (.istore_n 3, 1) := by decide +kernel
theorem dL_loads_231 : decode cL_loads 231 = .ok (.iload_n 3, 1) := by decide +kernel
theorem dL_loads_232 : decode cL_loads 232 = .ok (.iconst 4, 1) := by decide +kernel
theorem dL_loads_233 : decode cL_loads 233 = .ok (.if_icmp .ge 84, 3) := by decide +kernel
theorem dL_loads_236 : decode cL_loads 236 = .ok (.aload_n 0, 1) := by decide +kernel
theorem dL_loads_237 : decode cL_loads 237 = .ok (.iconst 2, 1) := by decide +kernel
theorem dL_loads_238 : decode cL_loads 238 = .ok (.invokevirtual 139, 3) := by decide +kernel
theorem dL_loads_241 : decode cL_loads 241 = .ok (.ifCond .ne 70, 3) := by decide +kernel
theorem dL_loads_244 : decode cL_loads 244 = .ok (.aload_n 0, 1) := by decide +kernel
theorem dL_loads_245 : decode cL_loads 245 = .ok (.getfield 19, 3) := by decide +kernel
theorem dL_loads_248 : decode cL_loads 248 = .ok (.ldc 175, 2) := by decide +kernel
theorem dL_loads_250 : decode cL_loads 250 = .ok (.invokevirtual 147, 3) := by decide +kernel
theorem dL_loads_253 : decode cL_loads 253 = .ok (.iload_n 3, 1) := by decide +kernel
theorem dL_loads_254 : decode cL_loads 254 = .ok (.invokevirtual 151, 3) := by decide +kernel
theorem dL_loads_257 : decode cL_loads 257 = .ok (.bipush 32, 2) := by decide +kernel
theorem dL_loads_259 : decode cL_loads 259 = .ok (.invokevirtual 154, 3) := by decide +kernel
theorem dL_loads_262 : decode cL_loads 262 = .ok (.bipush 8, 2) := by decide +kernel
theorem dL_loads_264 : decode cL_loads 264 = .ok (.aload_n 0, 1) := by decide +kernel
theorem dL_loads_265 : decode cL_loads 265 = .ok (.bipush 30, 2) := by decide +kernel
theorem dL_loads_267 : decode cL_loads 267 = .ok (.invokevirtual 139, 3) := by decide +kernel
theorem dL_loads_270 : decode cL_loads 270 = .ok (.iadd, 1) := by decide +kernel
theorem dL_loads_271 : decode cL_loads 271 = .ok (.invokevirtual 151, 3) := by decide +kernel
theorem dL_loads_274 : decode cL_loads 274 = .ok (.bipush 32, 2) := by decide +kernel
theorem dL_loads_276 : decode cL_loads 276 = .ok (.invokevirtual 154, 3) := by decide +kernel
theorem dL_loads_279 : decode cL_loads 279 = .ok (.iconst 2, 1) := by decide +kernel
theorem dL_loads_280 : decode cL_loads 280 = .ok (.aload_n 0, 1) := by decide +kernel
theorem dL_loads_281 : decode cL_loads 281 = .ok (.bipush 9, 2) := by decide +kernel
theorem dL_loads_283 : decode cL_loads 283 = .ok (.invokevirtual 139, 3) := by decide +kernel
theorem dL_loads_286 : decode cL_loads 286 = .ok (.iadd, 1) := by decide +kernel
theorem dL_loads_287 : decode cL_loads 287 = .ok (.invokevirtual 151, 3) := by decide +kernel
theorem dL_loads_290 : decode cL_loads 290 = .ok (.bipush 32, 2) := by decide +kernel
theorem dL_loads_292 : decode cL_loads 292 = .ok (.invokevirtual 154, 3) := by decide +kernel
theorem dL_loads_295 : decode cL_loads 295 = .ok (.iconst 1, 1) := by decide +kernel
theorem dL_loads_296 : decode cL_loads 296 = .ok (.aload_n 0, 1) := by decide +kernel
theorem dL_loads_297 : decode cL_loads 297 = .ok (.iconst 3, 1) := by decide +kernel
theorem dL_loads_298 : decode cL_loads 298 = .ok (.invokevirtual 139, 3) := by decide +kernel
theorem dL_loads_301 : decode cL_loads 301 = .ok (.iadd, 1) := by decide +kernel
theorem dL_loads_302 : decode cL_loads 302 = .ok (.invokevirtual 151, 3) := by decide +kernel
theorem dL_loads_305 : decode cL_loads 305 = .ok (.bipush 59, 2) := by decide +kernel
theorem dL_loads_307 : decode cL_loads 307 = .ok (.invokevirtual 154, 3) := by decide +kernel
theorem dL_loads_310 : decode cL_loads 310 = .ok (.pop, 1) := by decide +kernel
theorem dL_loads_311 : decode cL_loads 311 = .ok (.iinc 3 1, 3) := by decide +kernel
theorem dL_loads_314 : decode cL_loads 314 = .ok (.goto (-83), 3) := by decide +kernel
theorem dL_loads_317 : decode cL_loads 317 = .ok (.iconst 0, 1) := by decide +kernel
theorem dL_loads_318 : decode cL_loads 318 = .ok (.istore_n 3, 1) := by decide +kernel
theorem dL_loads_319 : decode cL_loads 319 = .ok (.iload_n 3, 1) := by decide +kernel
theorem dL_loads_320 : decode cL_loads 320 = .ok (.iload_n 2, 1) := by decide +kernel
theorem dL_loads_321 : decode cL_loads 321 = .ok (.if_icmp .ge 48, 3) := by decide +kernel
theorem dL_loads_324 : decode cL_loads 324 = .ok (.aload_n 0, 1) := by decide +kernel
theorem dL_loads_325 : decode cL_loads 325 = .ok (.getfield 19, 3) := by decide +kernel
theorem dL_loads_328 : decode cL_loads 328 = .ok (.ldc 177, 2) := by decide +kernel
theorem dL_loads_330 : decode cL_loads 330 = .ok (.invokevirtual 147, 3) := by decide +kernel
theorem dL_loads_333 : decode cL_loads 333 = .ok (.aload_n 0, 1) := by decide +kernel
theorem dL_loads_334 : decode cL_loads 334 = .ok (.iconst 4, 1) := by decide +kernel
theorem dL_loads_335 : decode cL_loads 335 = .ok (.invokevirtual 139, 3) := by decide +kernel
theorem dL_loads_338 : decode cL_loads 338 = .ok (.invokevirtual 151, 3) := by decide +kernel
theorem dL_loads_341 : decode cL_loads 341 = .ok (.bipush 32, 2) := by decide +kernel
theorem dL_loads_343 : decode cL_loads 343 = .ok (.invokevirtual 154, 3) := by decide +kernel
theorem dL_loads_346 : decode cL_loads 346 = .ok (.iconst 1, 1) := by decide +kernel
theorem dL_loads_347 : decode cL_loads 347 = .ok (.aload_n 0, 1) := by decide +kernel
theorem dL_loads_348 : decode cL_loads 348 = .ok (.bipush 120, 2) := by decide +kernel
theorem dL_loads_350 : decode cL_loads 350 = .ok (.invokevirtual 139, 3) := by decide +kernel
theorem dL_loads_353 : decode cL_loads 353 = .ok (.iadd, 1) := by decide +kernel
theorem dL_loads_354 : decode cL_loads 354 = .ok (.invokevirtual 151, 3) := by decide +kernel
theorem dL_loads_357 : decode cL_loads 357 = .ok (.bipush 59, 2) := by decide +kernel
theorem dL_loads_359 : decode cL_loads 359 = .ok (.invokevirtual 154, 3) := by decide +kernel
theorem dL_loads_362 : decode cL_loads 362 = .ok (.pop, 1) := by decide +kernel
theorem dL_loads_363 : decode cL_loads 363 = .ok (.iinc 3 1, 3) := by decide +kernel
theorem dL_loads_366 : decode cL_loads 366 = .ok (.goto (-47), 3) := by decide +kernel
theorem dL_loads_369 : decode cL_loads 369 = .ok (.aload_n 0, 1) := by decide +kernel
theorem dL_loads_370 : decode cL_loads 370 = .ok (.aload_n 0, 1) := by decide +kernel
theorem dL_loads_371 : decode cL_loads 371 = .ok (.getfield 19, 3) := by decide +kernel
theorem dL_loads_374 : decode cL_loads 374 = .ok (.invokevirtual 179, 3) := by decide +kernel
theorem dL_loads_377 : decode cL_loads 377 = .ok (.invokevirtual 183, 3) := by decide +kernel
theorem dL_loads_380 : decode cL_loads 380 = .ok (.ifCond .eq 51, 3) := by decide +kernel
theorem dL_loads_383 : decode cL_loads 383 = .ok (.aload_n 0, 1) := by decide +kernel
theorem dL_loads_384 : decode cL_loads 384 = .ok (.getfield 10, 3) := by decide +kernel
theorem dL_loads_387 : decode cL_loads 387 = .ok (.invokevirtual 187, 3) := by decide +kernel
theorem dL_loads_390 : decode cL_loads 390 = .ok (.iload_n 2, 1) := by decide +kernel
theorem dL_loads_391 : decode cL_loads 391 = .ok (.if_icmp .ne 40, 3) := by decide +kernel
theorem dL_loads_394 : decode cL_loads 394 = .ok (.aload_n 0, 1) := by decide +kernel
theorem dL_loads_395 : decode cL_loads 395 = .ok (.getfield 10, 3) := by decide +kernel
theorem dL_loads_398 : decode cL_loads 398 = .ok (.invokevirtual 190, 3) := by decide +kernel
theorem dL_loads_401 : decode cL_loads 401 = .ok (.ifCond .ne 30, 3) := by decide +kernel
theorem dL_loads_404 : decode cL_loads 404 = .ok (.aload_n 0, 1) := by decide +kernel
theorem dL_loads_405 : decode cL_loads 405 = .ok (.getfield 10, 3) := by decide +kernel
theorem dL_loads_408 : decode cL_loads 408 = .ok (.invokevirtual 193, 3) := by decide +kernel
theorem dL_loads_411 : decode cL_loads 411 = .ok (.iconst (-1), 1) := by decide +kernel
theorem dL_loads_412 : decode cL_loads 412 = .ok (.if_icmp .ne 19, 3) := by decide +kernel
theorem dL_loads_415 : decode cL_loads 415 = .ok (.aload_n 0, 1) := by decide +kernel
theorem dL_loads_416 : decode cL_loads 416 = .ok (.getfield 10, 3) := by decide +kernel
theorem dL_loads_419 : decode cL_loads 419 = .ok (.iconst 1, 1) := by decide +kernel
theorem dL_loads_420 : decode cL_loads 420 = .ok (.invokestatic 196, 3) := by decide +kernel
theorem dL_loads_423 : decode cL_loads 423 = .ok (.iload_n 2, 1) := by decide +kernel
theorem dL_loads_424 : decode cL_loads 424 = .ok (.if_icmp .ne 7, 3) := by decide +kernel
theorem dL_loads_427 : decode cL_loads 427 = .ok (.iconst 1, 1) := by decide +kernel
theorem dL_loads_428 : decode cL_loads 428 = .ok (.goto 4, 3) := by decide +kernel
theorem dL_loads_431 : decode cL_loads 431 = .ok (.iconst 0, 1) := by decide +kernel
theorem dL_loads_432 : decode cL_loads 432 = .ok (.ireturn, 1) := by decide +kernel
