def wsL_holdsH : List Cond := .code yL_holds cL_holds 5 (some .boolean) :: (wsL_holds_r1 ++ (wsL_holds_r2 ++ (wsL_holds_r3 ++ (wsL_holds_r4 ++ (wsL_holds_r5 ++ (wsL_holds_r6 ++ (wsL_holds_r7 ++ (wsL_holds_r8 ++ (wsL_holds_r9 ++ (wsL_holds_r10 ++ (wsL_holds_r11 ++ (wsL_holds_r12 ++ (wsL_holds_r13 ++ (wsL_holds_r14 ++ (wsL_holds_r15 ++ (wsL_holds_r16 ++ (wsL_holds_r17 ++ (wsL_holds_r18 ++ (wsL_holds_r19 ++ (wsL_holds_r20 ++ (wsL_holds_r21 ++ (wsL_holds_r22 ++ (wsL_holds_r23 ++ (wsL_holds_r24 ++ (wsL_holds_r25 ++ (wsL_holds_r26 ++ (wsL_holds_r27 ++ (wsL_holds_r28 ++ (wsL_holds_r29 ++ (wsL_holds_r30 ++ (wsL_holds_r31 ++ (wsL_holds_r32 ++ (wsL_holds_r33 ++ (wsL_holds_r34 ++ (wsL_holds_r35 ++ (wsL_holds_r36 ++ (wsL_holds_r37 ++ (wsL0 ++ (wsJx7c7330 ++ (wsJ40 ++ (wsJx000600 ++ (wsJ00 ++ (wsX90 ++ (wsX60 ++ (wsX80 ++ (wsX40 ++ (((vx_atS RX9 75 "java/lang/IllegalArgumentException" ["java/lang/RuntimeException", "java/lang/Exception"]).filter goodWord) ++ (((vx_atS RX9 65 "java/lang/IllegalStateException" ["java/lang/RuntimeException", "java/lang/Exception"]).filter goodWord) ++ (((vx_atS RX9 123 "java/lang/IndexOutOfBoundsException" ["java/lang/RuntimeException", "java/lang/Exception"]).filter goodWord))))))))))))))))))))))))))))))))))))))))))))))))))
theorem wsL_holds_H : wsL_holds = wsL_holdsH := by
  unfold wsL_holds wsL_holdsH
  simp only [List.append_assoc]
theorem wsL_holds_gH {ws : List Cond} (h : GoodIn wsL_holdsH ws) : GoodIn wsL_holds ws := by
  rw [wsL_holds_H]
  exact h
set_option maxRecDepth 20000 in
theorem ggL_holds_L_loads_r1 : GoodIn wsL_holds wsL_loads_r1 := wsL_holds_gH (goodIn_r _ [7, 8, 9, 10, 11, 5, 12, 1, 13, 14, 15, 16, 17, 18, 19, 20, 21, 22, 23, 24, 25, 26, 27, 28] rfl (by decide +kernel))
set_option maxRecDepth 20000 in
theorem ggL_holds_L_loads_r2 : GoodIn wsL_holds wsL_loads_r2 := wsL_holds_gH (goodIn_r _ [29, 30, 31, 32, 33, 34, 35, 36, 37, 38, 39, 40, 41, 42, 43, 44, 45, 46, 47, 48, 49, 50, 51, 52] rfl (by decide +kernel))
set_option maxRecDepth 20000 in
theorem ggL_holds_L_loads_r3 : GoodIn wsL_holds wsL_loads_r3 := wsL_holds_gH (goodIn_r _ [53, 54, 55, 56, 57, 58, 59, 60, 61, 62, 63, 64, 65, 66, 67, 68, 69, 70, 71, 72, 73, 74, 75, 76] rfl (by decide +kernel))
set_option maxRecDepth 20000 in
theorem ggL_holds_L_loads_r4 : GoodIn wsL_holds wsL_loads_r4 := wsL_holds_gH (goodIn_r _ [77, 78, 79, 80, 81, 82, 83, 84, 85, 86, 87, 88, 89, 90, 91, 92, 93, 94, 95, 96, 97, 98, 99, 100] rfl (by decide +kernel))
set_option maxRecDepth 20000 in
theorem ggL_holds_L_loads_r5 : GoodIn wsL_holds wsL_loads_r5 := wsL_holds_gH (goodIn_r _ [101, 102, 103, 104, 105, 106, 107, 108, 109, 110, 111, 112, 113, 114, 115, 116, 117, 118, 119, 120, 121, 122, 123, 124] rfl (by decide +kernel))
set_option maxRecDepth 20000 in
theorem ggL_holds_L_loads_r6 : GoodIn wsL_holds wsL_loads_r6 := wsL_holds_gH (goodIn_r _ [125, 126, 127, 128, 129, 130, 131, 132, 133, 134, 135, 136, 137, 138, 139, 140, 141, 142, 143, 144, 145, 146, 147, 148] rfl (by decide +kernel))
set_option maxRecDepth 20000 in
theorem ggL_holds_L_loads_r7 : GoodIn wsL_holds wsL_loads_r7 := wsL_holds_gH (goodIn_r _ [149, 150, 151, 152, 153, 154, 155, 156, 157, 158, 159, 160, 161, 162, 163, 164, 165, 166, 167, 168, 169, 170, 171, 172] rfl (by decide +kernel))
set_option maxRecDepth 20000 in
theorem ggL_holds_L_loads_r8 : GoodIn wsL_holds wsL_loads_r8 := wsL_holds_gH (goodIn_r _ [173, 174, 175, 176, 177, 178, 179, 180, 181, 182, 183, 184, 185, 186, 187, 188, 189, 190, 191, 192, 193, 194, 195, 196] rfl (by decide +kernel))
set_option maxRecDepth 20000 in
theorem ggL_holds_L_loads_r9 : GoodIn wsL_holds wsL_loads_r9 := wsL_holds_gH (goodIn_r _ [197, 198, 199, 200, 201, 202, 203, 204, 205, 206, 207, 208, 209, 210, 211, 212, 213, 214, 215, 216, 217, 218, 219, 220] rfl (by decide +kernel))
set_option maxRecDepth 20000 in
theorem ggL_holds_L_loads_r10 : GoodIn wsL_holds wsL_loads_r10 := wsL_holds_gH (goodIn_r _ [221, 222, 223, 224, 225, 226, 227, 228, 229, 230, 231, 232, 233, 234, 235, 236, 237, 238, 239, 240, 241, 242, 243, 244] rfl (by decide +kernel))
set_option maxRecDepth 20000 in
theorem ggL_holds_L_loads_r11 : GoodIn wsL_holds wsL_loads_r11 := wsL_holds_gH (goodIn_r _ [245, 246, 247, 248, 249, 250, 251, 252, 253, 254, 255, 256, 257, 258, 259, 260, 261, 262, 263, 264, 265, 266, 267, 268] rfl (by decide +kernel))
set_option maxRecDepth 20000 in
theorem ggL_holds_L_loads_r12 : GoodIn wsL_holds wsL_loads_r12 := wsL_holds_gH (goodIn_r _ [269, 270, 271, 272, 273, 274, 275, 276, 277, 278, 279, 280, 281, 282, 283, 284, 285, 286, 287, 288, 289, 290, 291, 292] rfl (by decide +kernel))
set_option maxRecDepth 20000 in
theorem ggL_holds_L_loads_r13 : GoodIn wsL_holds wsL_loads_r13 := wsL_holds_gH (goodIn_r _ [293, 294, 295, 296, 297, 298, 299, 300, 301, 302, 303, 304, 305, 306, 307, 308, 309, 310, 311, 312, 313, 314, 315, 316] rfl (by decide +kernel))
set_option maxRecDepth 20000 in
theorem ggL_holds_L_loads_r14 : GoodIn wsL_holds wsL_loads_r14 := wsL_holds_gH (goodIn_r _ [317, 318, 319, 320, 321, 322, 323, 324, 325, 326, 327, 328, 329, 330, 331, 332, 333, 334, 335, 336, 337, 338, 339, 340] rfl (by decide +kernel))
set_option maxRecDepth 20000 in
theorem ggL_holds_L_loads_r15 : GoodIn wsL_holds wsL_loads_r15 := wsL_holds_gH (goodIn_r _ [341, 342, 343, 344, 345, 346, 347, 348, 349, 350, 351, 352, 353, 354, 355, 356, 357, 358, 359, 360, 361, 362, 363, 364] rfl (by decide +kernel))
set_option maxRecDepth 20000 in
theorem ggL_holds_L_loads_r16 : GoodIn wsL_holds wsL_loads_r16 := wsL_holds_gH (goodIn_r _ [365, 366, 367, 368, 369, 370, 371, 372, 373, 374, 375, 376, 377, 378, 379, 380, 381, 382, 383, 384, 385, 386, 387, 388] rfl (by decide +kernel))
set_option maxRecDepth 20000 in
theorem ggL_holds_L_loads_r17 : GoodIn wsL_holds wsL_loads_r17 := wsL_holds_gH (goodIn_r _ [389, 390, 391, 392, 393, 394, 395, 396, 397, 398, 399, 400, 401, 402, 403, 404, 405, 406, 407, 408, 409, 410, 411, 412] rfl (by decide +kernel))
set_option maxRecDepth 20000 in
theorem ggL_holds_L_loads_r18 : GoodIn wsL_holds wsL_loads_r18 := wsL_holds_gH (goodIn_r _ [413, 414, 415, 416, 417, 418, 419, 420, 421, 422, 423, 424, 425, 426, 427, 428, 429, 430, 431, 432, 433, 434, 435, 436] rfl (by decide +kernel))
set_option maxRecDepth 20000 in
theorem ggL_holds_L_loads_r19 : GoodIn wsL_holds wsL_loads_r19 := wsL_holds_gH (goodIn_r _ [437, 438, 439, 440, 441, 442, 443, 444, 445, 446, 447, 448, 449, 450, 451, 452, 453, 454, 455, 456, 457, 458, 459, 460] rfl (by decide +kernel))
set_option maxRecDepth 20000 in
theorem ggL_holds_L_loads_r20 : GoodIn wsL_holds wsL_loads_r20 := wsL_holds_gH (goodIn_r _ [461, 462, 463, 464, 465, 466, 467, 468, 469, 470, 471, 472, 473, 474, 475, 476, 477, 478, 479, 480, 481, 482, 483, 484] rfl (by decide +kernel))
set_option maxRecDepth 20000 in
theorem ggL_holds_L_loads_r21 : GoodIn wsL_holds wsL_loads_r21 := wsL_holds_gH (goodIn_r _ [485, 486, 487, 488, 489, 490, 491, 492, 493, 494, 495, 496, 497, 498, 499, 500, 501, 502, 503, 504, 505, 506, 507, 508] rfl (by decide +kernel))
set_option maxRecDepth 20000 in
theorem ggL_holds_L_loads_r22 : GoodIn wsL_holds wsL_loads_r22 := wsL_holds_gH (goodIn_r _ [509, 510, 511, 512, 513, 514, 515, 516, 517, 518, 519, 520, 521, 522, 523, 524, 525, 526, 527, 528, 529, 530, 531, 532] rfl (by decide +kernel))
set_option maxRecDepth 20000 in
theorem ggL_holds_L_loads_wsL0 : GoodIn wsL_holds wsL0 := wsL_holds_gH (goodIn_r _ [871, 872, 873, 874] rfl (by decide +kernel))
set_option maxRecDepth 20000 in
theorem ggL_holds_L_loads_wsJx7c7330 : GoodIn wsL_holds wsJx7c7330 := wsL_holds_gH (goodIn_r _ [875, 876, 877, 878, 879, 880] rfl (by decide +kernel))
set_option maxRecDepth 20000 in
theorem ggL_holds_L_loads_wsJ40 : GoodIn wsL_holds wsJ40 := wsL_holds_gH (goodIn_r _ [881, 882, 883, 884] rfl (by decide +kernel))
set_option maxRecDepth 20000 in
theorem ggL_holds_L_loads_wsJx000600 : GoodIn wsL_holds wsJx000600 := wsL_holds_gH (goodIn_r _ [885, 886, 887, 888, 889, 890] rfl (by decide +kernel))
set_option maxRecDepth 20000 in
theorem ggL_holds_L_loads_wsJ00 : GoodIn wsL_holds wsJ00 := wsL_holds_gH (goodIn_r _ [891, 892, 893, 894] rfl (by decide +kernel))
set_option maxRecDepth 20000 in
theorem ggL_holds_L_loads_wsX90 : GoodIn wsL_holds wsX90 := wsL_holds_gH (goodIn_r _ [895, 896, 897, 898, 899, 900, 901, 902, 903] rfl (by decide +kernel))
set_option maxRecDepth 20000 in
theorem ggL_holds_L_loads_wsX60 : GoodIn wsL_holds wsX60 := wsL_holds_gH (goodIn_r _ [904, 905, 906, 907, 908, 909, 910, 911, 912, 913, 914] rfl (by decide +kernel))
set_option maxRecDepth 20000 in
theorem ggL_holds_L_loads_wsX80 : GoodIn wsL_holds wsX80 := wsL_holds_gH (goodIn_r _ [915, 916, 917, 918, 919, 920, 921, 922, 923, 924, 925, 926, 927] rfl (by decide +kernel))
set_option maxRecDepth 20000 in
theorem ggL_holds_L_loads_wsX40 : GoodIn wsL_holds wsX40 := wsL_holds_gH (goodIn_r _ [928, 929, 930] rfl (by decide +kernel))
set_option maxRecDepth 20000 in
theorem ggL_holds_L_loads_r0 : GoodIn wsL_holds ((wsL_loads).take 1) := wsL_holds_gH (goodIn_r _ [6] rfl (by decide +kernel))
set_option maxRecDepth 20000 in
theorem ggL_holds_L_loads : GoodIn wsL_holds wsL_loads := goodIn_ca (goodIn_ca (goodIn_app ggL_holds_L_loads_r0 (goodIn_app (goodIn_app (goodIn_app (goodIn_app (goodIn_app (goodIn_app (goodIn_app (goodIn_app (goodIn_app (goodIn_app ggL_holds_L_loads_r1 (goodIn_app ggL_holds_L_loads_r2 (goodIn_app ggL_holds_L_loads_r3 (goodIn_app ggL_holds_L_loads_r4 (goodIn_app ggL_holds_L_loads_r5 (goodIn_app ggL_holds_L_loads_r6 (goodIn_app ggL_holds_L_loads_r7 (goodIn_app ggL_holds_L_loads_r8 (goodIn_app ggL_holds_L_loads_r9 (goodIn_app ggL_holds_L_loads_r10 (goodIn_app ggL_holds_L_loads_r11 (goodIn_app ggL_holds_L_loads_r12 (goodIn_app ggL_holds_L_loads_r13 (goodIn_app ggL_holds_L_loads_r14 (goodIn_app ggL_holds_L_loads_r15 (goodIn_app ggL_holds_L_loads_r16 (goodIn_app ggL_holds_L_loads_r17 (goodIn_app ggL_holds_L_loads_r18 (goodIn_app ggL_holds_L_loads_r19 (goodIn_app ggL_holds_L_loads_r20 (goodIn_app ggL_holds_L_loads_r21 (ggL_holds_L_loads_r22)))))))))))))))))))))) ggL_holds_L_loads_wsL0) ggL_holds_L_loads_wsJx7c7330) ggL_holds_L_loads_wsJ40) ggL_holds_L_loads_wsJx000600) ggL_holds_L_loads_wsJ00) ggL_holds_L_loads_wsX90) ggL_holds_L_loads_wsX60) ggL_holds_L_loads_wsX80) ggL_holds_L_loads_wsX40)) (goodIn_sub (fun _ h => List.mem_cons_of_mem _ (List.mem_append_left _ (List.mem_append_left _ (List.mem_append_right _ h)))) (by decide +kernel))) (goodIn_sub (fun _ h => List.mem_cons_of_mem _ (List.mem_append_left _ (List.mem_append_right _ h))) (by decide +kernel))
set_option maxRecDepth 20000 in
theorem gL_holds_L_loads : GoodIn wsL_holds (wsV RL 274 RL yL_loads wsL_loads) := goodIn_app (goodIn_of _ (by decide +kernel)) ggL_holds_L_loads
set_option maxRecDepth 20000 in
theorem ggL_holds_L_addsUp_r1 : GoodIn wsL_holds wsL_addsUp_r1 := wsL_holds_gH (goodIn_r _ [8, 537, 538, 539, 16, 540, 14, 15, 17, 525, 526, 5, 527, 308, 528, 529, 530, 312, 531, 314, 315, 357, 532, 356] rfl (by decide +kernel))
set_option maxRecDepth 20000 in
theorem ggL_holds_L_addsUp_r2 : GoodIn wsL_holds wsL_addsUp_r2 := wsL_holds_gH (goodIn_r _ [358, 541, 542, 543, 544, 545, 546, 547, 548, 549, 550, 551, 552, 553, 554, 555, 556, 557, 558, 559, 560, 561, 370, 562] rfl (by decide +kernel))
set_option maxRecDepth 20000 in
theorem ggL_holds_L_addsUp_r3 : GoodIn wsL_holds wsL_addsUp_r3 := wsL_holds_gH (goodIn_r _ [466, 563, 564, 565, 566, 567, 568, 569, 570, 571, 572, 573, 385, 574, 575, 576, 577, 578, 579, 580, 581, 582, 583, 584] rfl (by decide +kernel))
set_option maxRecDepth 20000 in
theorem ggL_holds_L_addsUp_r4 : GoodIn wsL_holds wsL_addsUp_r4 := wsL_holds_gH (goodIn_r _ [585, 586, 587, 588, 589, 590, 591, 592, 593, 373, 501, 415, 416, 594, 595, 596, 597, 598, 599, 600, 601, 602, 603, 604] rfl (by decide +kernel))
set_option maxRecDepth 20000 in
theorem ggL_holds_L_addsUp_r5 : GoodIn wsL_holds wsL_addsUp_r5 := wsL_holds_gH (goodIn_r _ [605, 606, 607, 476, 477, 478, 380, 372, 479, 480, 481, 482, 608, 609, 610, 611, 612, 613, 614, 615, 509, 510, 511, 512] rfl (by decide +kernel))
set_option maxRecDepth 20000 in
theorem ggL_holds_L_addsUp_r6 : GoodIn wsL_holds wsL_addsUp_r6 := wsL_holds_gH (goodIn_r _ [513, 616, 617, 618, 619, 620, 621, 622, 623, 624, 625, 626, 627, 628, 629, 630, 631, 632] rfl (by decide +kernel))
set_option maxRecDepth 20000 in
theorem ggL_holds_L_addsUp_wsL0 : GoodIn wsL_holds wsL0 := wsL_holds_gH (goodIn_r _ [871, 872, 873, 874] rfl (by decide +kernel))
set_option maxRecDepth 20000 in
theorem ggL_holds_L_addsUp_wsX90 : GoodIn wsL_holds wsX90 := wsL_holds_gH (goodIn_r _ [895, 896, 897, 898, 899, 900, 901, 902, 903] rfl (by decide +kernel))
set_option maxRecDepth 20000 in
theorem ggL_holds_L_addsUp_wsX40 : GoodIn wsL_holds wsX40 := wsL_holds_gH (goodIn_r _ [928, 929, 930] rfl (by decide +kernel))
set_option maxRecDepth 20000 in
theorem ggL_holds_L_addsUp_wsX80 : GoodIn wsL_holds wsX80 := wsL_holds_gH (goodIn_r _ [915, 916, 917, 918, 919, 920, 921, 922, 923, 924, 925, 926, 927] rfl (by decide +kernel))
set_option maxRecDepth 20000 in
theorem ggL_holds_L_addsUp_r0 : GoodIn wsL_holds ((wsL_addsUp).take 1) := wsL_holds_gH (goodIn_r _ [536] rfl (by decide +kernel))
set_option maxRecDepth 20000 in
theorem ggL_holds_L_addsUp : GoodIn wsL_holds wsL_addsUp := goodIn_ca (goodIn_ca (goodIn_app ggL_holds_L_addsUp_r0 (goodIn_app (goodIn_app (goodIn_app (goodIn_app (goodIn_app ggL_holds_L_addsUp_r1 (goodIn_app ggL_holds_L_addsUp_r2 (goodIn_app ggL_holds_L_addsUp_r3 (goodIn_app ggL_holds_L_addsUp_r4 (goodIn_app ggL_holds_L_addsUp_r5 (ggL_holds_L_addsUp_r6)))))) ggL_holds_L_addsUp_wsL0) ggL_holds_L_addsUp_wsX90) ggL_holds_L_addsUp_wsX40) ggL_holds_L_addsUp_wsX80)) (goodIn_sub (fun _ h => List.mem_cons_of_mem _ (List.mem_append_left _ (List.mem_append_left _ (List.mem_append_right _ h)))) (by decide +kernel))) (goodIn_sub (fun _ h => List.mem_cons_of_mem _ (List.mem_append_right _ h)) (by decide +kernel))
set_option maxRecDepth 20000 in
theorem gL_holds_L_addsUp : GoodIn wsL_holds (wsV RL 278 RL yL_addsUp wsL_addsUp) := goodIn_app (goodIn_of _ (by decide +kernel)) ggL_holds_L_addsUp
set_option maxRecDepth 20000 in
theorem ggL_holds_L_draw : GoodIn wsL_holds wsL_draw := goodIn_r _ [12, 1, 13, 14, 15, 16, 17, 18, 19, 20, 21, 22, 5, 23, 24, 25, 871, 872, 873, 874] (by decide +kernel) (by decide +kernel)
set_option maxRecDepth 20000 in
theorem gL_holds_L_draw : GoodIn wsL_holds (wsV RL 139 RL yL_draw wsL_draw) := goodIn_app (goodIn_of _ (by decide +kernel)) ggL_holds_L_draw
set_option maxRecDepth 20000 in
theorem ggL_holds_L_others_r1 : GoodIn wsL_holds wsL_others_r1 := wsL_holds_gH (goodIn_r _ [8, 525, 526, 5, 527, 308, 528, 529, 530, 312, 531, 314, 315, 357, 532, 356, 358, 9, 10, 11, 12, 1, 13, 14] rfl (by decide +kernel))
set_option maxRecDepth 20000 in
theorem ggL_holds_L_others_r2 : GoodIn wsL_holds wsL_others_r2 := wsL_holds_gH (goodIn_r _ [15, 16, 17, 18, 19, 20, 21, 22, 23, 24, 25, 637, 638, 639, 552, 640, 641, 642, 643, 557, 558, 644, 645, 646] rfl (by decide +kernel))
set_option maxRecDepth 20000 in
theorem ggL_holds_L_others_r3 : GoodIn wsL_holds wsL_others_r3 := wsL_holds_gH (goodIn_r _ [647, 648, 649, 650, 651, 652, 653, 654, 655, 656, 657, 658, 659, 506, 660, 522, 523, 508, 524, 497, 498, 370, 499, 372] rfl (by decide +kernel))
set_option maxRecDepth 20000 in
theorem ggL_holds_L_others_r4 : GoodIn wsL_holds wsL_others_r4 := wsL_holds_gH (goodIn_r _ [500, 79, 80, 81, 380, 385, 466, 461, 501, 373, 374, 375, 502, 487, 492, 493, 661, 458, 459, 460, 462, 463, 464, 465] rfl (by decide +kernel))
set_option maxRecDepth 20000 in
theorem ggL_holds_L_others_r5 : GoodIn wsL_holds wsL_others_r5 := wsL_holds_gH (goodIn_r _ [594, 595, 596, 597, 598, 599, 415, 416, 549, 550, 551, 553, 554, 555, 556, 559, 560, 561, 562, 662, 663, 664, 665, 666] rfl (by decide +kernel))
set_option maxRecDepth 20000 in
theorem ggL_holds_L_others_r6 : GoodIn wsL_holds wsL_others_r6 := wsL_holds_gH (goodIn_r _ [667, 668, 669, 670, 671, 672, 673, 674, 675, 676, 677, 678, 571, 572, 573, 679, 680, 681, 682, 683, 684, 685, 686, 687] rfl (by decide +kernel))
set_option maxRecDepth 20000 in
theorem ggL_holds_L_others_r7 : GoodIn wsL_holds wsL_others_r7 := wsL_holds_gH (goodIn_r _ [688, 689, 690, 691, 692, 693, 694, 695, 696, 697, 620, 513, 698, 699, 700, 701, 702, 591, 592, 593, 703, 704, 705, 706] rfl (by decide +kernel))
set_option maxRecDepth 20000 in
theorem ggL_holds_L_others_r8 : GoodIn wsL_holds wsL_others_r8 := wsL_holds_gH (goodIn_r _ [707, 708, 709, 710, 711, 712, 483, 484, 485, 486, 475, 476, 477, 478, 479, 480, 481, 482, 488, 489, 490, 491, 494, 495] rfl (by decide +kernel))
set_option maxRecDepth 20000 in
theorem ggL_holds_L_others_r9 : GoodIn wsL_holds wsL_others_r9 := wsL_holds_gH (goodIn_r _ [583, 584, 585, 586, 587, 588, 589, 590, 514, 515, 516, 517, 518, 519, 520, 521, 713, 714, 715, 716, 717, 718, 719, 720] rfl (by decide +kernel))
set_option maxRecDepth 20000 in
theorem ggL_holds_L_others_r10 : GoodIn wsL_holds wsL_others_r10 := wsL_holds_gH (goodIn_r _ [721, 722, 723, 724, 509, 510, 511, 512, 725, 726, 727, 728, 729, 730, 731, 732, 733, 734, 735, 736, 737, 738, 739, 740] rfl (by decide +kernel))
set_option maxRecDepth 20000 in
theorem ggL_holds_L_others_wsL0 : GoodIn wsL_holds wsL0 := wsL_holds_gH (goodIn_r _ [871, 872, 873, 874] rfl (by decide +kernel))
set_option maxRecDepth 20000 in
theorem ggL_holds_L_others_wsX90 : GoodIn wsL_holds wsX90 := wsL_holds_gH (goodIn_r _ [895, 896, 897, 898, 899, 900, 901, 902, 903] rfl (by decide +kernel))
set_option maxRecDepth 20000 in
theorem ggL_holds_L_others_wsX40 : GoodIn wsL_holds wsX40 := wsL_holds_gH (goodIn_r _ [928, 929, 930] rfl (by decide +kernel))
set_option maxRecDepth 20000 in
theorem ggL_holds_L_others_wsX80 : GoodIn wsL_holds wsX80 := wsL_holds_gH (goodIn_r _ [915, 916, 917, 918, 919, 920, 921, 922, 923, 924, 925, 926, 927] rfl (by decide +kernel))
set_option maxRecDepth 20000 in
theorem ggL_holds_L_others_r0 : GoodIn wsL_holds ((wsL_others).take 1) := wsL_holds_gH (goodIn_r _ [636] rfl (by decide +kernel))
set_option maxRecDepth 20000 in
theorem ggL_holds_L_others : GoodIn wsL_holds wsL_others := goodIn_ca (goodIn_ca (goodIn_app ggL_holds_L_others_r0 (goodIn_app (goodIn_app (goodIn_app (goodIn_app (goodIn_app ggL_holds_L_others_r1 (goodIn_app ggL_holds_L_others_r2 (goodIn_app ggL_holds_L_others_r3 (goodIn_app ggL_holds_L_others_r4 (goodIn_app ggL_holds_L_others_r5 (goodIn_app ggL_holds_L_others_r6 (goodIn_app ggL_holds_L_others_r7 (goodIn_app ggL_holds_L_others_r8 (goodIn_app ggL_holds_L_others_r9 (ggL_holds_L_others_r10)))))))))) ggL_holds_L_others_wsL0) ggL_holds_L_others_wsX90) ggL_holds_L_others_wsX40) ggL_holds_L_others_wsX80)) (goodIn_sub (fun _ h => List.mem_cons_of_mem _ (List.mem_append_left _ (List.mem_append_left _ (List.mem_append_right _ h)))) (by decide +kernel))) (goodIn_sub (fun _ h => List.mem_cons_of_mem _ (List.mem_append_right _ h)) (by decide +kernel))
set_option maxRecDepth 20000 in
theorem gL_holds_L_others : GoodIn wsL_holds (wsV RL 281 RL yL_others wsL_others) := goodIn_app (goodIn_of _ (by decide +kernel)) ggL_holds_L_others
set_option maxRecDepth 20000 in
theorem ggL_holds_L_comes_r1 : GoodIn wsL_holds wsL_comes_r1 := wsL_holds_gH (goodIn_r _ [8, 9, 10, 11, 5, 12, 1, 13, 14, 15, 16, 17, 18, 19, 20, 21, 22, 23, 24, 25, 745, 746, 747, 308] rfl (by decide +kernel))
set_option maxRecDepth 20000 in
theorem ggL_holds_L_comes_r2 : GoodIn wsL_holds wsL_comes_r2 := wsL_holds_gH (goodIn_r _ [748, 749, 750, 312, 751, 314, 315, 355, 356, 496, 497, 498, 370, 499, 372, 500, 79, 80, 81, 380, 385, 466, 461, 501] rfl (by decide +kernel))
set_option maxRecDepth 20000 in
theorem ggL_holds_L_comes_r3 : GoodIn wsL_holds wsL_comes_r3 := wsL_holds_gH (goodIn_r _ [373, 374, 375, 502, 487, 492, 493, 752, 753, 754, 755, 483, 484, 485, 486, 475, 476, 477, 478, 479, 480, 481, 482, 488] rfl (by decide +kernel))
set_option maxRecDepth 20000 in
theorem ggL_holds_L_comes_r4 : GoodIn wsL_holds wsL_comes_r4 := wsL_holds_gH (goodIn_r _ [489, 490, 491, 494, 495, 756, 757, 758, 759, 760, 761, 762, 763, 764, 765, 766, 767, 712, 704, 705, 706, 677, 560, 561] rfl (by decide +kernel))
set_option maxRecDepth 20000 in
theorem ggL_holds_L_comes_r5 : GoodIn wsL_holds wsL_comes_r5 := wsL_holds_gH (goodIn_r _ [562, 678, 571, 572, 573, 768, 769, 770, 771, 462, 463, 464, 465, 772, 773, 774, 775, 776, 674, 675, 676, 679, 680, 681] rfl (by decide +kernel))
set_option maxRecDepth 20000 in
theorem ggL_holds_L_comes_r6 : GoodIn wsL_holds wsL_comes_r6 := wsL_holds_gH (goodIn_r _ [682, 683, 684, 685, 686, 777, 778, 779, 780, 415, 416, 781, 737, 738, 739, 782, 783, 784, 785, 786, 787, 788, 789, 790] rfl (by decide +kernel))
set_option maxRecDepth 20000 in
theorem ggL_holds_L_comes_r7 : GoodIn wsL_holds wsL_comes_r7 := wsL_holds_gH (goodIn_r _ [791, 792, 552, 793, 794, 795, 796, 557, 558, 620, 513, 570, 797, 798, 799, 800, 358, 525, 526, 527, 528, 529, 530, 531] rfl (by decide +kernel))
set_option maxRecDepth 20000 in
theorem ggL_holds_L_comes_r8 : GoodIn wsL_holds wsL_comes_r8 := wsL_holds_gH (goodIn_r _ [357, 532, 801, 802, 803, 804, 805, 806, 807, 808, 809, 616, 617, 618, 619, 563, 564, 565, 566, 567, 568, 569, 509, 510] rfl (by decide +kernel))
set_option maxRecDepth 20000 in
theorem ggL_holds_L_comes_r9 : GoodIn wsL_holds wsL_comes_r9 := wsL_holds_gH (goodIn_r _ [511, 512, 810, 811, 812, 813, 814, 815, 816, 817, 818, 819, 820, 653, 654, 655, 656, 652, 657, 658, 659, 506, 660, 522] rfl (by decide +kernel))
set_option maxRecDepth 20000 in
theorem ggL_holds_L_comes_r10 : GoodIn wsL_holds wsL_comes_r10 := wsL_holds_gH (goodIn_r _ [523, 508, 524, 821, 822, 823, 337, 824, 825, 826, 827, 342, 343, 503, 504, 505, 507, 549, 550, 551, 553, 554, 555, 556] rfl (by decide +kernel))
set_option maxRecDepth 20000 in
theorem ggL_holds_L_comes_r11 : GoodIn wsL_holds wsL_comes_r11 := wsL_holds_gH (goodIn_r _ [559] rfl (by decide +kernel))
set_option maxRecDepth 20000 in
theorem ggL_holds_L_comes_wsL0 : GoodIn wsL_holds wsL0 := wsL_holds_gH (goodIn_r _ [871, 872, 873, 874] rfl (by decide +kernel))
set_option maxRecDepth 20000 in
theorem ggL_holds_L_comes_wsX90 : GoodIn wsL_holds wsX90 := wsL_holds_gH (goodIn_r _ [895, 896, 897, 898, 899, 900, 901, 902, 903] rfl (by decide +kernel))
set_option maxRecDepth 20000 in
theorem ggL_holds_L_comes_wsX80 : GoodIn wsL_holds wsX80 := wsL_holds_gH (goodIn_r _ [915, 916, 917, 918, 919, 920, 921, 922, 923, 924, 925, 926, 927] rfl (by decide +kernel))
set_option maxRecDepth 20000 in
theorem ggL_holds_L_comes_wsX40 : GoodIn wsL_holds wsX40 := wsL_holds_gH (goodIn_r _ [928, 929, 930] rfl (by decide +kernel))
set_option maxRecDepth 20000 in
theorem ggL_holds_L_comes_r0 : GoodIn wsL_holds ((wsL_comes).take 1) := wsL_holds_gH (goodIn_r _ [744] rfl (by decide +kernel))
set_option maxRecDepth 20000 in
theorem ggL_holds_L_comes : GoodIn wsL_holds wsL_comes := goodIn_ca (goodIn_ca (goodIn_ca (goodIn_app ggL_holds_L_comes_r0 (goodIn_app (goodIn_app (goodIn_app (goodIn_app (goodIn_app ggL_holds_L_comes_r1 (goodIn_app ggL_holds_L_comes_r2 (goodIn_app ggL_holds_L_comes_r3 (goodIn_app ggL_holds_L_comes_r4 (goodIn_app ggL_holds_L_comes_r5 (goodIn_app ggL_holds_L_comes_r6 (goodIn_app ggL_holds_L_comes_r7 (goodIn_app ggL_holds_L_comes_r8 (goodIn_app ggL_holds_L_comes_r9 (goodIn_app ggL_holds_L_comes_r10 (ggL_holds_L_comes_r11))))))))))) ggL_holds_L_comes_wsL0) ggL_holds_L_comes_wsX90) ggL_holds_L_comes_wsX80) ggL_holds_L_comes_wsX40)) (goodIn_sub (fun _ h => List.mem_cons_of_mem _ (List.mem_append_left _ (List.mem_append_left _ (List.mem_append_right _ h)))) (by decide +kernel))) (goodIn_sub (fun _ h => List.mem_cons_of_mem _ (List.mem_append_right _ h)) (by decide +kernel))) (goodIn_sub (fun _ h => List.mem_cons_of_mem _ (List.mem_append_left _ (List.mem_append_right _ h))) (by decide +kernel))
set_option maxRecDepth 20000 in
theorem gL_holds_L_comes : GoodIn wsL_holds (wsV RL 284 RL yL_comes wsL_comes) := goodIn_app (goodIn_of _ (by decide +kernel)) ggL_holds_L_comes
set_option maxRecDepth 20000 in
theorem ggL_holds_L_best_r1 : GoodIn wsL_holds wsL_best_r1 := wsL_holds_gH (goodIn_r _ [8, 9, 10, 11, 5, 12, 1, 13, 14, 15, 16, 17, 18, 19, 20, 21, 22, 23, 24, 25, 832, 833, 834, 308] rfl (by decide +kernel))
set_option maxRecDepth 20000 in
theorem ggL_holds_L_best_r2 : GoodIn wsL_holds wsL_best_r2 := wsL_holds_gH (goodIn_r _ [835, 836, 837, 312, 838, 314, 315, 356, 358, 355, 598, 496, 497, 498, 370, 499, 372, 500, 79, 80, 81, 380, 385, 466] rfl (by decide +kernel))
set_option maxRecDepth 20000 in
theorem ggL_holds_L_best_r3 : GoodIn wsL_holds wsL_best_r3 := wsL_holds_gH (goodIn_r _ [461, 501, 373, 374, 375, 502, 487, 492, 493, 839, 840, 841, 842, 752, 753, 754, 755, 483, 484, 485, 486, 475, 476, 477] rfl (by decide +kernel))
set_option maxRecDepth 20000 in
theorem ggL_holds_L_best_r4 : GoodIn wsL_holds wsL_best_r4 := wsL_holds_gH (goodIn_r _ [478, 479, 480, 481, 482, 488, 489, 490, 491, 494, 495, 756, 757, 758, 759, 760, 761, 762, 763, 764, 765, 766, 767, 712] rfl (by decide +kernel))
set_option maxRecDepth 20000 in
theorem ggL_holds_L_best_r5 : GoodIn wsL_holds wsL_best_r5 := wsL_holds_gH (goodIn_r _ [704, 705, 706, 677, 560, 561, 562, 678, 571, 572, 573, 768, 769, 770, 771, 462, 463, 464, 465, 772, 773, 774, 775, 776] rfl (by decide +kernel))
set_option maxRecDepth 20000 in
theorem ggL_holds_L_best_r6 : GoodIn wsL_holds wsL_best_r6 := wsL_holds_gH (goodIn_r _ [674, 675, 676, 679, 680, 681, 682, 683, 684, 685, 686, 777, 778, 779, 780, 415, 416, 781, 737, 738, 739, 782, 783, 784] rfl (by decide +kernel))
set_option maxRecDepth 20000 in
theorem ggL_holds_L_best_r7 : GoodIn wsL_holds wsL_best_r7 := wsL_holds_gH (goodIn_r _ [785, 786, 787, 788, 789, 599, 525, 526, 527, 528, 529, 530, 531, 357, 532, 801, 802, 803, 804, 805, 806, 807, 808, 809] rfl (by decide +kernel))
set_option maxRecDepth 20000 in
theorem ggL_holds_L_best_r8 : GoodIn wsL_holds wsL_best_r8 := wsL_holds_gH (goodIn_r _ [843, 844, 845, 552, 846, 847, 848, 849, 557, 558, 850, 851, 852, 853, 669, 670, 671, 672, 648, 649, 650, 651, 652, 653] rfl (by decide +kernel))
set_option maxRecDepth 20000 in
theorem ggL_holds_L_best_r9 : GoodIn wsL_holds wsL_best_r9 := wsL_holds_gH (goodIn_r _ [654, 655, 656, 657, 658, 659, 506, 660, 522, 523, 508, 524, 745, 746, 747, 748, 749, 750, 751, 594, 595, 596, 597, 821] rfl (by decide +kernel))
set_option maxRecDepth 20000 in
theorem ggL_holds_L_best_r10 : GoodIn wsL_holds wsL_best_r10 := wsL_holds_gH (goodIn_r _ [822, 823, 337, 824, 825, 826, 827, 342, 343, 503, 504, 505, 507] rfl (by decide +kernel))
set_option maxRecDepth 20000 in
theorem ggL_holds_L_best_wsL0 : GoodIn wsL_holds wsL0 := wsL_holds_gH (goodIn_r _ [871, 872, 873, 874] rfl (by decide +kernel))
set_option maxRecDepth 20000 in
theorem ggL_holds_L_best_wsX90 : GoodIn wsL_holds wsX90 := wsL_holds_gH (goodIn_r _ [895, 896, 897, 898, 899, 900, 901, 902, 903] rfl (by decide +kernel))
set_option maxRecDepth 20000 in
theorem ggL_holds_L_best_wsX80 : GoodIn wsL_holds wsX80 := wsL_holds_gH (goodIn_r _ [915, 916, 917, 918, 919, 920, 921, 922, 923, 924, 925, 926, 927] rfl (by decide +kernel))
set_option maxRecDepth 20000 in
theorem ggL_holds_L_best_wsX40 : GoodIn wsL_holds wsX40 := wsL_holds_gH (goodIn_r _ [928, 929, 930] rfl (by decide +kernel))
set_option maxRecDepth 20000 in
theorem ggL_holds_L_best_r0 : GoodIn wsL_holds ((wsL_best).take 1) := wsL_holds_gH (goodIn_r _ [831] rfl (by decide +kernel))
set_option maxRecDepth 20000 in
theorem ggL_holds_L_best : GoodIn wsL_holds wsL_best := goodIn_ca (goodIn_ca (goodIn_ca (goodIn_app ggL_holds_L_best_r0 (goodIn_app (goodIn_app (goodIn_app (goodIn_app (goodIn_app ggL_holds_L_best_r1 (goodIn_app ggL_holds_L_best_r2 (goodIn_app ggL_holds_L_best_r3 (goodIn_app ggL_holds_L_best_r4 (goodIn_app ggL_holds_L_best_r5 (goodIn_app ggL_holds_L_best_r6 (goodIn_app ggL_holds_L_best_r7 (goodIn_app ggL_holds_L_best_r8 (goodIn_app ggL_holds_L_best_r9 (ggL_holds_L_best_r10)))))))))) ggL_holds_L_best_wsL0) ggL_holds_L_best_wsX90) ggL_holds_L_best_wsX80) ggL_holds_L_best_wsX40)) (goodIn_sub (fun _ h => List.mem_cons_of_mem _ (List.mem_append_left _ (List.mem_append_left _ (List.mem_append_right _ h)))) (by decide +kernel))) (goodIn_sub (fun _ h => List.mem_cons_of_mem _ (List.mem_append_right _ h)) (by decide +kernel))) (goodIn_sub (fun _ h => List.mem_cons_of_mem _ (List.mem_append_left _ (List.mem_append_right _ h))) (by decide +kernel))
set_option maxRecDepth 20000 in
theorem gL_holds_L_best : GoodIn wsL_holds (wsV RL 287 RL yL_best wsL_best) := goodIn_app (goodIn_of _ (by decide +kernel)) ggL_holds_L_best
set_option maxRecDepth 20000 in
theorem ggL_holds_L_ticks_r1 : GoodIn wsL_holds wsL_ticks_r1 := wsL_holds_gH (goodIn_r _ [8, 538, 539, 16, 540, 858, 76, 77, 525, 526, 5, 527, 308, 528, 529, 530, 312, 531, 314, 315, 357, 532, 356, 358] rfl (by decide +kernel))
set_option maxRecDepth 20000 in
theorem ggL_holds_L_ticks_r2 : GoodIn wsL_holds wsL_ticks_r2 := wsL_holds_gH (goodIn_r _ [594, 595, 596, 597, 598, 599, 415, 416, 797, 798, 799, 800, 355, 496, 497, 498, 370, 499, 372, 500, 79, 80, 81, 380] rfl (by decide +kernel))
set_option maxRecDepth 20000 in
theorem ggL_holds_L_ticks_r3 : GoodIn wsL_holds wsL_ticks_r3 := wsL_holds_gH (goodIn_r _ [385, 466, 461, 501, 373, 374, 375, 502, 487, 492, 493, 752, 753, 754, 755, 483, 484, 485, 486, 475, 476, 477, 478, 479] rfl (by decide +kernel))
set_option maxRecDepth 20000 in
theorem ggL_holds_L_ticks_r4 : GoodIn wsL_holds wsL_ticks_r4 := wsL_holds_gH (goodIn_r _ [480, 481, 482, 488, 489, 490, 491, 494, 495, 756, 757, 758, 759, 760, 761, 762, 763, 764, 765, 766, 767, 712, 704, 705] rfl (by decide +kernel))
set_option maxRecDepth 20000 in
theorem ggL_holds_L_ticks_r5 : GoodIn wsL_holds wsL_ticks_r5 := wsL_holds_gH (goodIn_r _ [706, 677, 560, 561, 562, 678, 571, 572, 573, 768, 769, 770, 771, 462, 463, 464, 465, 772, 773, 774, 775, 776, 674, 675] rfl (by decide +kernel))
set_option maxRecDepth 20000 in
theorem ggL_holds_L_ticks_r6 : GoodIn wsL_holds wsL_ticks_r6 := wsL_holds_gH (goodIn_r _ [676, 679, 680, 681, 682, 683, 684, 685, 686, 777, 778, 779, 780, 781, 737, 738, 739, 782, 783, 784, 785, 786, 787, 788] rfl (by decide +kernel))
set_option maxRecDepth 20000 in
theorem ggL_holds_L_ticks_r7 : GoodIn wsL_holds wsL_ticks_r7 := wsL_holds_gH (goodIn_r _ [789, 745, 746, 747, 748, 749, 750, 751, 859, 860, 861, 862, 541, 542, 543, 544, 545, 546, 547, 548, 600, 601, 602, 603] rfl (by decide +kernel))
set_option maxRecDepth 20000 in
theorem ggL_holds_L_ticks_r8 : GoodIn wsL_holds wsL_ticks_r8 := wsL_holds_gH (goodIn_r _ [604, 605, 606, 607, 810, 811, 812, 813, 814, 815, 816, 817, 818, 819, 820, 653, 654, 655, 656, 652, 657, 658, 659, 506] rfl (by decide +kernel))
set_option maxRecDepth 20000 in
theorem ggL_holds_L_ticks_r9 : GoodIn wsL_holds wsL_ticks_r9 := wsL_holds_gH (goodIn_r _ [660, 522, 523, 508, 524, 549, 550, 551, 552, 553, 554, 555, 556, 557, 558, 559, 863, 864, 865, 866, 867, 868, 869, 870] rfl (by decide +kernel))
set_option maxRecDepth 20000 in
theorem ggL_holds_L_ticks_r10 : GoodIn wsL_holds wsL_ticks_r10 := wsL_holds_gH (goodIn_r _ [662, 663, 664, 665, 666, 667, 668, 669, 670, 671, 672, 673] rfl (by decide +kernel))
set_option maxRecDepth 20000 in
theorem ggL_holds_L_ticks_wsL0 : GoodIn wsL_holds wsL0 := wsL_holds_gH (goodIn_r _ [871, 872, 873, 874] rfl (by decide +kernel))
set_option maxRecDepth 20000 in
theorem ggL_holds_L_ticks_wsX90 : GoodIn wsL_holds wsX90 := wsL_holds_gH (goodIn_r _ [895, 896, 897, 898, 899, 900, 901, 902, 903] rfl (by decide +kernel))
set_option maxRecDepth 20000 in
theorem ggL_holds_L_ticks_wsX40 : GoodIn wsL_holds wsX40 := wsL_holds_gH (goodIn_r _ [928, 929, 930] rfl (by decide +kernel))
set_option maxRecDepth 20000 in
theorem ggL_holds_L_ticks_wsX80 : GoodIn wsL_holds wsX80 := wsL_holds_gH (goodIn_r _ [915, 916, 917, 918, 919, 920, 921, 922, 923, 924, 925, 926, 927] rfl (by decide +kernel))
set_option maxRecDepth 20000 in
theorem ggL_holds_L_ticks_r0 : GoodIn wsL_holds ((wsL_ticks).take 1) := wsL_holds_gH (goodIn_r _ [857] rfl (by decide +kernel))
set_option maxRecDepth 20000 in
theorem ggL_holds_L_ticks : GoodIn wsL_holds wsL_ticks := goodIn_ca (goodIn_ca (goodIn_app ggL_holds_L_ticks_r0 (goodIn_app (goodIn_app (goodIn_app (goodIn_app (goodIn_app ggL_holds_L_ticks_r1 (goodIn_app ggL_holds_L_ticks_r2 (goodIn_app ggL_holds_L_ticks_r3 (goodIn_app ggL_holds_L_ticks_r4 (goodIn_app ggL_holds_L_ticks_r5 (goodIn_app ggL_holds_L_ticks_r6 (goodIn_app ggL_holds_L_ticks_r7 (goodIn_app ggL_holds_L_ticks_r8 (goodIn_app ggL_holds_L_ticks_r9 (ggL_holds_L_ticks_r10)))))))))) ggL_holds_L_ticks_wsL0) ggL_holds_L_ticks_wsX90) ggL_holds_L_ticks_wsX40) ggL_holds_L_ticks_wsX80)) (goodIn_sub (fun _ h => List.mem_cons_of_mem _ (List.mem_append_left _ (List.mem_append_left _ (List.mem_append_right _ h)))) (by decide +kernel))) (goodIn_sub (fun _ h => List.mem_cons_of_mem _ (List.mem_append_right _ h)) (by decide +kernel))
set_option maxRecDepth 20000 in
theorem gL_holds_L_ticks : GoodIn wsL_holds (wsV RL 290 RL yL_ticks wsL_ticks) := goodIn_app (goodIn_of _ (by decide +kernel)) ggL_holds_L_ticks
theorem dL_holds_0 : decode cL_holds 0 = .ok (.aload_n 0, 1) := by decide +kernel
theorem dL_holds_1 : decode cL_holds 1 = .ok (.aload_n 1, 1) := by decide +kernel
theorem dL_holds_2 : decode cL_holds 2 = .ok (.putfield 25, 3) := by decide +kernel
theorem dL_holds_5 : decode cL_holds 5 = .ok (.iconst 0, 1) := by decide +kernel
theorem dL_holds_6 : decode cL_holds 6 = .ok (.istore_n 2, 1) := by decide +kernel
theorem dL_holds_7 : decode cL_holds 7 = .ok (.iload_n 2, 1) := by decide +kernel
theorem dL_holds_8 : decode cL_holds 8 = .ok (.iconst 3, 1) := by decide +kernel
theorem dL_holds_9 : decode cL_holds 9 = .ok (.if_icmp .ge 171, 3) := by decide +kernel
theorem dL_holds_12 : decode cL_holds 12 = .ok (.aload_n 0, 1) := by decide +kernel
theorem dL_holds_13 : decode cL_holds 13 = .ok (.invokevirtual 274, 3) := by decide +kernel
theorem dL_holds_16 : decode cL_holds 16 = .ok (.ifCond .eq 10, 3) := by decide +kernel
theorem dL_holds_19 : decode cL_holds 19 = .ok (.aload_n 0, 1) := by decide +kernel
theorem dL_holds_20 : decode cL_holds 20 = .ok (.invokevirtual 278, 3) := by decide +kernel
theorem dL_holds_23 : decode cL_holds 23 = .ok (.ifCond .ne 5, 3) := by decide +kernel
theorem dL_holds_26 : decode cL_holds 26 = .ok (.iconst 0, 1) := by decide +kernel
theorem dL_holds_27 : decode cL_holds 27 = .ok (.ireturn, 1) := by decide +kernel
theorem dL_holds_28 : decode cL_holds 28 = .ok (.iconst 0, 1) := by decide +kernel
theorem dL_holds_29 : decode cL_holds 29 = .ok (.istore_n 3, 1) := by decide +kernel
theorem dL_holds_30 : decode cL_holds 30 = .ok (.iload_n 3, 1) := by decide +kernel
theorem dL_holds_31 : decode cL_holds 31 = .ok (.bipush 60, 2) := by decide +kernel
theorem dL_holds_33 : decode cL_holds 33 = .ok (.if_icmp .ge 132, 3) := by decide +kernel
theorem dL_holds_36 : decode cL_holds 36 = .ok (.aload_n 0, 1) := by decide +kernel
theorem dL_holds_37 : decode cL_holds 37 = .ok (.bipush 10, 2) := by decide +kernel
theorem dL_holds_39 : decode cL_holds 39 = .ok (.invokevirtual 139, 3) := by decide +kernel
theorem dL_holds_42 : decode cL_holds 42 = .ok (.tableswitch 89 0 3 #[30, 30, 39, 64], 30) := by decide +kernel
theorem dL_holds_72 : decode cL_holds 72 = .ok (.aload_n 0, 1) := by decide +kernel
theorem dL_holds_73 : decode cL_holds 73 = .ok (.invokevirtual 281, 3) := by decide +kernel
theorem dL_holds_76 : decode cL_holds 76 = .ok (.istore 4, 2) := by decide +kernel
theorem dL_holds_78 : decode cL_holds 78 = .ok (.goto 59, 3) := by decide +kernel
theorem dL_holds_81 : decode cL_holds 81 = .ok (.aload_n 0, 1) := by decide +kernel
theorem dL_holds_82 : decode cL_holds 82 = .ok (.iconst 2, 1) := by decide +kernel
theorem dL_holds_83 : decode cL_holds 83 = .ok (.invokevirtual 139, 3) := by decide +kernel
theorem dL_holds_86 : decode cL_holds 86 = .ok (.ifCond .gt 10, 3) := by decide +kernel
theorem dL_holds_89 : decode cL_holds 89 = .ok (.aload_n 0, 1) := by decide +kernel
theorem dL_holds_90 : decode cL_holds 90 = .ok (.invokevirtual 284, 3) := by decide +kernel
theorem dL_holds_93 : decode cL_holds 93 = .ok (.ifCond .eq 7, 3) := by decide +kernel
theorem dL_holds_96 : decode cL_holds 96 = .ok (.iconst 1, 1) := by decide +kernel
theorem dL_holds_97 : decode cL_holds 97 = .ok (.goto 4, 3) := by decide +kernel
theorem dL_holds_100 : decode cL_holds 100 = .ok (.iconst 0, 1) := by decide +kernel
theorem dL_holds_101 : decode cL_holds 101 = .ok (.istore 4, 2) := by decide +kernel
theorem dL_holds_103 : decode cL_holds 103 = .ok (.goto 34, 3) := by decide +kernel
theorem dL_holds_106 : decode cL_holds 106 = .ok (.aload_n 0, 1) := by decide +kernel
theorem dL_holds_107 : decode cL_holds 107 = .ok (.iconst 3, 1) := by decide +kernel
theorem dL_holds_108 : decode cL_holds 108 = .ok (.invokevirtual 139, 3) := by decide +kernel
theorem dL_holds_111 : decode cL_holds 111 = .ok (.ifCond .gt 10, 3) := by decide +kernel
theorem dL_holds_114 : decode cL_holds 114 = .ok (.aload_n 0, 1) := by decide +kernel
theorem dL_holds_115 : decode cL_holds 115 = .ok (.invokevirtual 287, 3) := by decide +kernel
theorem dL_holds_118 : decode cL_holds 118 = .ok (.ifCond .eq 7, 3) := by decide +kernel
theorem dL_holds_121 : decode cL_holds 121 = .ok (.iconst 1, 1) := by decide +kernel
theorem dL_holds_122 : decode cL_holds 122 = .ok (.goto 4, 3) := by decide +kernel
theorem dL_holds_125 : decode cL_holds 125 = .ok (.iconst 0, 1) := by decide +kernel
theorem dL_holds_126 : decode cL_holds 126 = .ok (.istore 4, 2) := by decide +kernel
theorem dL_holds_128 : decode cL_holds 128 = .ok (.goto 9, 3) := by decide +kernel
theorem dL_holds_131 : decode cL_holds 131 = .ok (.aload_n 0, 1) := by decide +kernel
theorem dL_holds_132 : decode cL_holds 132 = .ok (.invokevirtual 290, 3) := by decide +kernel
theorem dL_holds_135 : decode cL_holds 135 = .ok (.istore 4, 2) := by decide +kernel
theorem dL_holds_137 : decode cL_holds 137 = .ok (.iload 4, 2) := by decide +kernel
theorem dL_holds_139 : decode cL_holds 139 = .ok (.ifCond .eq 18, 3) := by decide +kernel
theorem dL_holds_142 : decode cL_holds 142 = .ok (.iload_n 3, 1) := by decide +kernel
theorem dL_holds_143 : decode cL_holds 143 = .ok (.bipush 6, 2) := by decide +kernel
theorem dL_holds_145 : decode cL_holds 145 = .ok (.irem, 1) := by decide +kernel
theorem dL_holds_146 : decode cL_holds 146 = .ok (.iconst 2, 1) := by decide +kernel
theorem dL_holds_147 : decode cL_holds 147 = .ok (.if_icmp .ne 12, 3) := by decide +kernel
theorem dL_holds_150 : decode cL_holds 150 = .ok (.aload_n 0, 1) := by decide +kernel
theorem dL_holds_151 : decode cL_holds 151 = .ok (.invokevirtual 278, 3) := by decide +kernel
theorem dL_holds_154 : decode cL_holds 154 = .ok (.ifCond .ne 5, 3) := by decide +kernel
theorem dL_holds_157 : decode cL_holds 157 = .ok (.iconst 0, 1) := by decide +kernel
theorem dL_holds_158 : decode cL_holds 158 = .ok (.ireturn, 1) := by decide +kernel
theorem dL_holds_159 : decode cL_holds 159 = .ok (.iinc 3 1, 3) := by decide +kernel
theorem dL_holds_162 : decode cL_holds 162 = .ok (.goto (-132), 3) := by decide +kernel
theorem dL_holds_165 : decode cL_holds 165 = .ok (.aload_n 0, 1) := by decide +kernel
theorem dL_holds_166 : decode cL_holds 166 = .ok (.invokevirtual 278, 3) := by decide +kernel
theorem dL_holds_169 : decode cL_holds 169 = .ok (.ifCond .ne 5, 3) := by decide +kernel
theorem dL_holds_172 : decode cL_holds 172 = .ok (.iconst 0, 1) := by decide +kernel
theorem dL_holds_173 : decode cL_holds 173 = .ok (.ireturn, 1) := by decide +kernel
theorem dL_holds_174 : decode cL_holds 174 = .ok (.iinc 2 1, 3) := by decide +kernel
theorem dL_holds_177 : decode cL_holds 177 = .ok (.goto (-170), 3) := by decide +kernel
theorem dL_holds_180 : decode cL_holds 180 = .ok (.iconst 1, 1) := by decide +kernel
theorem dL_holds_181 : decode cL_holds 181 = .ok (.ireturn, 1) := by decide +kernel

