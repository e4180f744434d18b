def wsL_lawH : List Cond := wsL_law0 ++ (((vx_atS RX9 75 "java/lang/IllegalArgumentException" ["java/lang/RuntimeException", "java/lang/Exception"]).filter goodWord) ++ (((vx_atS RX9 65 "java/lang/IllegalStateException" ["java/lang/RuntimeException", "java/lang/Exception"]).filter goodWord) ++ (((vx_atS RX9 123 "java/lang/IndexOutOfBoundsException" ["java/lang/RuntimeException", "java/lang/Exception"]).filter goodWord))))
theorem wsL_law_H : wsL_law = wsL_lawH := by
  unfold wsL_law wsL_lawH
  simp only [List.append_assoc]
theorem wsL_law_gH {ws : List Cond} (h : GoodIn wsL_lawH ws) : GoodIn wsL_law ws := by
  rw [wsL_law_H]
  exact h
set_option maxRecDepth 20000 in
theorem ggL_law_L_init_r1 : GoodIn wsL_law wsL_init_r1 := wsL_law_gH (goodIn_r _ [6, 7, 8, 9, 10, 11, 12, 13, 14, 15, 16, 17, 18, 19, 20, 21, 22, 23, 24, 25, 26, 27, 28, 29] rfl (by decide +kernel))
set_option maxRecDepth 20000 in
theorem ggL_law_L_init_r2 : GoodIn wsL_law wsL_init_r2 := wsL_law_gH (goodIn_r _ [30, 31, 32, 33, 34, 35, 36, 37, 38, 39, 40, 41, 42, 43, 44, 45, 46, 47, 48, 49, 50, 51, 52, 53] rfl (by decide +kernel))
set_option maxRecDepth 20000 in
theorem ggL_law_L_init_r3 : GoodIn wsL_law wsL_init_r3 := wsL_law_gH (goodIn_r _ [54, 55, 56, 57, 58, 59, 60, 61, 62, 63, 64, 65, 66, 67, 68, 69, 70, 71, 72, 73, 74, 75, 76, 77] rfl (by decide +kernel))
set_option maxRecDepth 20000 in
theorem ggL_law_L_init_r4 : GoodIn wsL_law wsL_init_r4 := wsL_law_gH (goodIn_r _ [78, 79, 80, 81, 82, 83, 84, 85, 86, 87, 88, 89, 90, 91, 92, 93, 94, 95, 96, 97, 98, 99, 100, 101] rfl (by decide +kernel))
set_option maxRecDepth 20000 in
theorem ggL_law_L_init_r5 : GoodIn wsL_law wsL_init_r5 := wsL_law_gH (goodIn_r _ [102, 103, 104, 105, 106, 107, 108, 109, 110, 111, 112, 113, 114, 115, 116, 117, 118, 119, 120, 121, 122, 123, 124, 125] rfl (by decide +kernel))
set_option maxRecDepth 20000 in
theorem ggL_law_L_init_r6 : GoodIn wsL_law wsL_init_r6 := wsL_law_gH (goodIn_r _ [126, 127, 128, 129, 130, 131, 132] rfl (by decide +kernel))
set_option maxRecDepth 20000 in
theorem ggL_law_L_init_wsX90 : GoodIn wsL_law wsX90 := wsL_law_gH (goodIn_r _ [922, 923, 924, 925, 926, 927, 928, 929, 930] rfl (by decide +kernel))
set_option maxRecDepth 20000 in
theorem ggL_law_L_init_wsL0 : GoodIn wsL_law wsL0 := wsL_law_gH (goodIn_r _ [918, 919, 920, 921] rfl (by decide +kernel))
set_option maxRecDepth 20000 in
theorem ggL_law_L_init_wsJ40 : GoodIn wsL_law wsJ40 := wsL_law_gH (goodIn_r _ [931, 932, 933, 934] rfl (by decide +kernel))
set_option maxRecDepth 20000 in
theorem ggL_law_L_init_wsX80 : GoodIn wsL_law wsX80 := wsL_law_gH (goodIn_r _ [935, 936, 937, 938, 939, 940, 941, 942, 943, 944, 945, 946, 947] rfl (by decide +kernel))
set_option maxRecDepth 20000 in
theorem ggL_law_L_init_wsX40 : GoodIn wsL_law wsX40 := wsL_law_gH (goodIn_r _ [948, 949, 950] rfl (by decide +kernel))
set_option maxRecDepth 20000 in
theorem ggL_law_L_init_wsX60 : GoodIn wsL_law wsX60 := wsL_law_gH (goodIn_r _ [951, 952, 953, 954, 955, 956, 957, 958, 959, 960, 961] rfl (by decide +kernel))
set_option maxRecDepth 20000 in
theorem ggL_law_L_init_r0 : GoodIn wsL_law ((wsL_init).take 1) := wsL_law_gH (goodIn_r _ [5] rfl (by decide +kernel))
set_option maxRecDepth 20000 in
theorem ggL_law_L_init : GoodIn wsL_law wsL_init := goodIn_app ggL_law_L_init_r0 (goodIn_app (goodIn_app (goodIn_app (goodIn_app (goodIn_app (goodIn_app (goodIn_app ggL_law_L_init_r1 (goodIn_app ggL_law_L_init_r2 (goodIn_app ggL_law_L_init_r3 (goodIn_app ggL_law_L_init_r4 (goodIn_app ggL_law_L_init_r5 (ggL_law_L_init_r6)))))) ggL_law_L_init_wsX90) ggL_law_L_init_wsL0) ggL_law_L_init_wsJ40) ggL_law_L_init_wsX80) ggL_law_L_init_wsX40) ggL_law_L_init_wsX60)
set_option maxRecDepth 20000 in
theorem gL_law_L_init : GoodIn wsL_law (wsL_init) := ggL_law_L_init
set_option maxRecDepth 20000 in
theorem ggL_law_L_holds_r1 : GoodIn wsL_law wsL_holds_r1 := wsL_law_gH (goodIn_r _ [137, 138, 139, 140, 2, 141, 16, 12, 142, 143, 144, 145, 146, 147, 148, 149, 150, 151, 152, 153, 154, 155, 156, 157] rfl (by decide +kernel))
set_option maxRecDepth 20000 in
theorem ggL_law_L_holds_r2 : GoodIn wsL_law wsL_holds_r2 := wsL_law_gH (goodIn_r _ [158, 159, 160, 161, 15, 162, 163, 164, 165, 166, 118, 167, 168, 169, 170, 171, 123, 172, 173, 174, 175, 176, 177, 124] rfl (by decide +kernel))
set_option maxRecDepth 20000 in
theorem ggL_law_L_holds_r3 : GoodIn wsL_law wsL_holds_r3 := wsL_law_gH (goodIn_r _ [178, 179, 180, 181, 182, 183, 184, 185, 186, 187, 188, 189, 190, 191, 192, 193, 194, 195, 196, 197, 198, 199, 200, 201] rfl (by decide +kernel))
set_option maxRecDepth 20000 in
theorem ggL_law_L_holds_r4 : GoodIn wsL_law wsL_holds_r4 := wsL_law_gH (goodIn_r _ [202, 122, 203, 204, 205, 206, 207, 208, 209, 210, 211, 212, 213, 214, 121, 215, 216, 217, 218, 219, 220, 221, 222, 223] rfl (by decide +kernel))
set_option maxRecDepth 20000 in
theorem ggL_law_L_holds_r5 : GoodIn wsL_law wsL_holds_r5 := wsL_law_gH (goodIn_r _ [224, 225, 14, 226, 227, 228, 229, 230, 127, 231, 232, 233, 234, 235, 236, 237, 238, 239, 240, 241, 242, 243, 244, 245] rfl (by decide +kernel))
set_option maxRecDepth 20000 in
theorem ggL_law_L_holds_r6 : GoodIn wsL_law wsL_holds_r6 := wsL_law_gH (goodIn_r _ [246, 247, 248, 249, 250, 251, 252, 253, 254, 255, 256, 257, 258, 259, 260, 261, 262, 263, 264, 265, 266, 267, 268, 269] rfl (by decide +kernel))
set_option maxRecDepth 20000 in
theorem ggL_law_L_holds_r7 : GoodIn wsL_law wsL_holds_r7 := wsL_law_gH (goodIn_r _ [270, 271, 272, 273, 274, 275, 276, 277, 278, 279, 280, 281, 282, 283, 284, 285, 286, 287, 288, 289, 290, 291, 292, 293] rfl (by decide +kernel))
set_option maxRecDepth 20000 in
theorem ggL_law_L_holds_r8 : GoodIn wsL_law wsL_holds_r8 := wsL_law_gH (goodIn_r _ [294, 295, 296, 125, 126, 128, 129, 130, 131, 132, 297, 298, 299, 300, 301, 302, 303, 304, 305, 306, 307, 308, 309, 310] rfl (by decide +kernel))
set_option maxRecDepth 20000 in
theorem ggL_law_L_holds_r9 : GoodIn wsL_law wsL_holds_r9 := wsL_law_gH (goodIn_r _ [311, 312, 313, 314, 315, 316, 317, 318, 319, 320, 321, 322, 323, 324, 325, 326, 327, 328, 329, 330, 331, 332, 333, 334] rfl (by decide +kernel))
set_option maxRecDepth 20000 in
theorem ggL_law_L_holds_r10 : GoodIn wsL_law wsL_holds_r10 := wsL_law_gH (goodIn_r _ [335, 336, 337, 338, 339, 340, 341, 342, 343, 344, 345, 346, 347, 348, 349, 350, 351, 352, 353, 354, 355, 356, 357, 358] rfl (by decide +kernel))
set_option maxRecDepth 20000 in
theorem ggL_law_L_holds_r11 : GoodIn wsL_law wsL_holds_r11 := wsL_law_gH (goodIn_r _ [359, 360, 361, 362, 363, 364, 365, 366, 367, 368, 369, 370, 371, 372, 373, 374, 375, 376, 377, 378, 7, 8, 379, 380] rfl (by decide +kernel))
set_option maxRecDepth 20000 in
theorem ggL_law_L_holds_r12 : GoodIn wsL_law wsL_holds_r12 := wsL_law_gH (goodIn_r _ [381, 382, 383, 384, 385, 386, 387, 388, 389, 390, 391, 392, 393, 394, 395, 396, 397, 398, 399, 400, 401, 402, 403, 404] rfl (by decide +kernel))
set_option maxRecDepth 20000 in
theorem ggL_law_L_holds_r13 : GoodIn wsL_law wsL_holds_r13 := wsL_law_gH (goodIn_r _ [405, 406, 407, 408, 409, 410, 411, 412, 413, 414, 415, 416, 417, 418, 419, 420, 421, 422, 423, 424, 425, 426, 427, 11] rfl (by decide +kernel))
set_option maxRecDepth 20000 in
theorem ggL_law_L_holds_r14 : GoodIn wsL_law wsL_holds_r14 := wsL_law_gH (goodIn_r _ [428, 429, 430, 36, 431, 432, 433, 434, 435, 436, 437, 438, 439, 440, 441, 442, 443, 444, 445, 446, 447, 448, 449, 450] rfl (by decide +kernel))
set_option maxRecDepth 20000 in
theorem ggL_law_L_holds_r15 : GoodIn wsL_law wsL_holds_r15 := wsL_law_gH (goodIn_r _ [451, 452, 453, 454, 455, 456, 457, 458, 459, 460, 35, 461, 69, 68, 462, 463, 464, 465, 25, 24, 29, 466, 467, 468] rfl (by decide +kernel))
set_option maxRecDepth 20000 in
theorem ggL_law_L_holds_r16 : GoodIn wsL_law wsL_holds_r16 := wsL_law_gH (goodIn_r _ [469, 470, 77, 78, 74, 70, 471, 80, 81, 23, 82, 44, 50, 51, 52, 83, 84, 85, 86, 45, 87, 88, 89, 90] rfl (by decide +kernel))
set_option maxRecDepth 20000 in
theorem ggL_law_L_holds_r17 : GoodIn wsL_law wsL_holds_r17 := wsL_law_gH (goodIn_r _ [46, 472, 473, 474, 475, 71, 76, 476, 477, 478, 479, 75, 480, 481, 482, 483, 484, 485, 486, 487, 488, 489, 490, 491] rfl (by decide +kernel))
set_option maxRecDepth 20000 in
theorem ggL_law_L_holds_r18 : GoodIn wsL_law wsL_holds_r18 := wsL_law_gH (goodIn_r _ [492, 493, 494, 495, 496, 497, 498, 499, 500, 501, 502, 503, 504, 505, 506, 507, 508, 509, 510, 511, 512, 513, 514, 515] rfl (by decide +kernel))
set_option maxRecDepth 20000 in
theorem ggL_law_L_holds_r19 : GoodIn wsL_law wsL_holds_r19 := wsL_law_gH (goodIn_r _ [516, 517, 518, 519, 520, 521, 522, 523, 524, 525, 526, 527, 528, 529, 530, 531, 532, 533, 534, 535, 536, 537, 538, 539] rfl (by decide +kernel))
set_option maxRecDepth 20000 in
theorem ggL_law_L_holds_r20 : GoodIn wsL_law wsL_holds_r20 := wsL_law_gH (goodIn_r _ [540, 541, 542, 543, 48, 544, 545, 546, 547, 47, 548, 549, 550, 551, 552, 92, 93, 94, 95, 96, 97, 98, 99, 100] rfl (by decide +kernel))
set_option maxRecDepth 20000 in
theorem ggL_law_L_holds_r21 : GoodIn wsL_law wsL_holds_r21 := wsL_law_gH (goodIn_r _ [101, 102, 103, 104, 105, 106, 54, 107, 108, 109, 110, 55, 56, 111, 112, 553, 554, 555, 556, 557, 49, 53, 558, 559] rfl (by decide +kernel))
set_option maxRecDepth 20000 in
theorem ggL_law_L_holds_r22 : GoodIn wsL_law wsL_holds_r22 := wsL_law_gH (goodIn_r _ [560, 28, 561, 64, 562, 563, 564, 565, 566, 567, 568, 569, 570, 571, 572, 573, 574, 63, 62, 575, 576, 577, 578, 579] rfl (by decide +kernel))
set_option maxRecDepth 20000 in
theorem ggL_law_L_holds_r23 : GoodIn wsL_law wsL_holds_r23 := wsL_law_gH (goodIn_r _ [580, 581, 582, 583, 584, 585, 586, 587, 37, 588, 589, 590, 591, 592, 593, 594, 595, 596, 597, 598, 599, 600, 601, 602] rfl (by decide +kernel))
set_option maxRecDepth 20000 in
theorem ggL_law_L_holds_r24 : GoodIn wsL_law wsL_holds_r24 := wsL_law_gH (goodIn_r _ [603, 604, 605, 606, 607, 608, 609, 610, 611, 612, 613, 614, 615, 616, 617, 618, 619, 620, 621, 622, 623, 624, 625, 626] rfl (by decide +kernel))
set_option maxRecDepth 20000 in
theorem ggL_law_L_holds_r25 : GoodIn wsL_law wsL_holds_r25 := wsL_law_gH (goodIn_r _ [627, 628, 629, 630, 631, 632, 633, 634, 635, 636, 637, 638, 639, 640, 641, 642, 643, 644, 645, 646, 647, 648, 649, 650] rfl (by decide +kernel))
set_option maxRecDepth 20000 in
theorem ggL_law_L_holds_r26 : GoodIn wsL_law wsL_holds_r26 := wsL_law_gH (goodIn_r _ [651, 652, 653, 654, 655, 656, 657, 658, 659, 660, 661, 662, 663, 664, 665, 666, 667, 668, 669, 670, 671, 672, 673, 674] rfl (by decide +kernel))
set_option maxRecDepth 20000 in
theorem ggL_law_L_holds_r27 : GoodIn wsL_law wsL_holds_r27 := wsL_law_gH (goodIn_r _ [675, 676, 677, 678, 679, 680, 681, 682, 683, 684, 685, 686, 687, 688, 689, 690, 691, 692, 693, 694, 695, 696, 697, 698] rfl (by decide +kernel))
set_option maxRecDepth 20000 in
theorem ggL_law_L_holds_r28 : GoodIn wsL_law wsL_holds_r28 := wsL_law_gH (goodIn_r _ [699, 700, 701, 38, 702, 703, 704, 705, 706, 707, 708, 709, 710, 711, 712, 713, 714, 715, 716, 717, 718, 719, 720, 721] rfl (by decide +kernel))
set_option maxRecDepth 20000 in
theorem ggL_law_L_holds_r29 : GoodIn wsL_law wsL_holds_r29 := wsL_law_gH (goodIn_r _ [722, 723, 724, 725, 726, 727, 728, 729, 730, 731, 732, 733, 734, 735, 736, 737, 738, 739, 740, 741, 742, 743, 744, 745] rfl (by decide +kernel))
set_option maxRecDepth 20000 in
theorem ggL_law_L_holds_r30 : GoodIn wsL_law wsL_holds_r30 := wsL_law_gH (goodIn_r _ [746, 747, 748, 749, 750, 751, 752, 753, 754, 755, 756, 757, 758, 759, 760, 761, 762, 763, 764, 765, 766, 767, 768, 769] rfl (by decide +kernel))
set_option maxRecDepth 20000 in
theorem ggL_law_L_holds_r31 : GoodIn wsL_law wsL_holds_r31 := wsL_law_gH (goodIn_r _ [770, 771, 772, 773, 774, 775, 776, 777, 778, 779, 780, 781, 782, 783, 784, 785, 786, 787, 788, 789, 790, 791, 792, 793] rfl (by decide +kernel))
set_option maxRecDepth 20000 in
theorem ggL_law_L_holds_r32 : GoodIn wsL_law wsL_holds_r32 := wsL_law_gH (goodIn_r _ [794, 795, 796, 797, 798, 799, 800, 801, 802, 803, 804, 805, 806, 807, 808, 809, 810, 811, 812, 813, 814, 815, 816, 817] rfl (by decide +kernel))
set_option maxRecDepth 20000 in
theorem ggL_law_L_holds_r33 : GoodIn wsL_law wsL_holds_r33 := wsL_law_gH (goodIn_r _ [818, 819, 820, 821, 822, 823, 824, 825, 826, 827, 828, 829, 830, 831, 832, 833, 834, 835, 836, 837, 838, 839, 840, 841] rfl (by decide +kernel))
set_option maxRecDepth 20000 in
theorem ggL_law_L_holds_r34 : GoodIn wsL_law wsL_holds_r34 := wsL_law_gH (goodIn_r _ [842, 843, 844, 845, 846, 847, 848, 849, 850, 851, 852, 853, 854, 855, 856, 30, 32, 857, 858, 859, 860, 861, 862, 863] rfl (by decide +kernel))
set_option maxRecDepth 20000 in
theorem ggL_law_L_holds_r35 : GoodIn wsL_law wsL_holds_r35 := wsL_law_gH (goodIn_r _ [864, 865, 866, 867, 868, 869, 870, 871, 872, 873, 874, 875, 876, 877, 878, 879, 880, 881, 882, 883, 884, 885, 886, 887] rfl (by decide +kernel))
set_option maxRecDepth 20000 in
theorem ggL_law_L_holds_r36 : GoodIn wsL_law wsL_holds_r36 := wsL_law_gH (goodIn_r _ [888, 889, 890, 891, 892, 893, 894, 895, 896, 897, 898, 899, 900, 901, 902, 903, 904, 905, 906, 907, 908, 909, 910, 911] rfl (by decide +kernel))
set_option maxRecDepth 20000 in
theorem ggL_law_L_holds_r37 : GoodIn wsL_law wsL_holds_r37 := wsL_law_gH (goodIn_r _ [912, 913, 914, 915, 916, 917] rfl (by decide +kernel))
set_option maxRecDepth 20000 in
theorem ggL_law_L_holds_wsL0 : GoodIn wsL_law wsL0 := wsL_law_gH (goodIn_r _ [918, 919, 920, 921] rfl (by decide +kernel))
set_option maxRecDepth 20000 in
theorem ggL_law_L_holds_wsJx7c7330 : GoodIn wsL_law wsJx7c7330 := wsL_law_gH (goodIn_r _ [962, 963, 964, 965, 966, 967] rfl (by decide +kernel))
set_option maxRecDepth 20000 in
theorem ggL_law_L_holds_wsJ40 : GoodIn wsL_law wsJ40 := wsL_law_gH (goodIn_r _ [931, 932, 933, 934] rfl (by decide +kernel))
set_option maxRecDepth 20000 in
theorem ggL_law_L_holds_wsJx000600 : GoodIn wsL_law wsJx000600 := wsL_law_gH (goodIn_r _ [968, 969, 970, 971, 972, 973] rfl (by decide +kernel))
set_option maxRecDepth 20000 in
theorem ggL_law_L_holds_wsJ00 : GoodIn wsL_law wsJ00 := wsL_law_gH (goodIn_r _ [974, 975, 976, 977] rfl (by decide +kernel))
set_option maxRecDepth 20000 in
theorem ggL_law_L_holds_wsX90 : GoodIn wsL_law wsX90 := wsL_law_gH (goodIn_r _ [922, 923, 924, 925, 926, 927, 928, 929, 930] rfl (by decide +kernel))
set_option maxRecDepth 20000 in
theorem ggL_law_L_holds_wsX60 : GoodIn wsL_law wsX60 := wsL_law_gH (goodIn_r _ [951, 952, 953, 954, 955, 956, 957, 958, 959, 960, 961] rfl (by decide +kernel))
set_option maxRecDepth 20000 in
theorem ggL_law_L_holds_wsX80 : GoodIn wsL_law wsX80 := wsL_law_gH (goodIn_r _ [935, 936, 937, 938, 939, 940, 941, 942, 943, 944, 945, 946, 947] rfl (by decide +kernel))
set_option maxRecDepth 20000 in
theorem ggL_law_L_holds_wsX40 : GoodIn wsL_law wsX40 := wsL_law_gH (goodIn_r _ [948, 949, 950] rfl (by decide +kernel))
set_option maxRecDepth 20000 in
theorem ggL_law_L_holds_r0 : GoodIn wsL_law ((wsL_holds).take 1) := wsL_law_gH (goodIn_r _ [136] rfl (by decide +kernel))
set_option maxRecDepth 20000 in
theorem ggL_law_L_holds : GoodIn wsL_law wsL_holds := goodIn_ca (goodIn_ca (goodIn_ca (goodIn_app ggL_law_L_holds_r0 (goodIn_app (goodIn_app (goodIn_app (goodIn_app (goodIn_app (goodIn_app (goodIn_app (goodIn_app (goodIn_app (goodIn_app ggL_law_L_holds_r1 (goodIn_app ggL_law_L_holds_r2 (goodIn_app ggL_law_L_holds_r3 (goodIn_app ggL_law_L_holds_r4 (goodIn_app ggL_law_L_holds_r5 (goodIn_app ggL_law_L_holds_r6 (goodIn_app ggL_law_L_holds_r7 (goodIn_app ggL_law_L_holds_r8 (goodIn_app ggL_law_L_holds_r9 (goodIn_app ggL_law_L_holds_r10 (goodIn_app ggL_law_L_holds_r11 (goodIn_app ggL_law_L_holds_r12 (goodIn_app ggL_law_L_holds_r13 (goodIn_app ggL_law_L_holds_r14 (goodIn_app ggL_law_L_holds_r15 (goodIn_app ggL_law_L_holds_r16 (goodIn_app ggL_law_L_holds_r17 (goodIn_app ggL_law_L_holds_r18 (goodIn_app ggL_law_L_holds_r19 (goodIn_app ggL_law_L_holds_r20 (goodIn_app ggL_law_L_holds_r21 (goodIn_app ggL_law_L_holds_r22 (goodIn_app ggL_law_L_holds_r23 (goodIn_app ggL_law_L_holds_r24 (goodIn_app ggL_law_L_holds_r25 (goodIn_app ggL_law_L_holds_r26 (goodIn_app ggL_law_L_holds_r27 (goodIn_app ggL_law_L_holds_r28 (goodIn_app ggL_law_L_holds_r29 (goodIn_app ggL_law_L_holds_r30 (goodIn_app ggL_law_L_holds_r31 (goodIn_app ggL_law_L_holds_r32 (goodIn_app ggL_law_L_holds_r33 (goodIn_app ggL_law_L_holds_r34 (goodIn_app ggL_law_L_holds_r35 (goodIn_app ggL_law_L_holds_r36 (ggL_law_L_holds_r37))))))))))))))))))))))))))))))))))))) ggL_law_L_holds_wsL0) ggL_law_L_holds_wsJx7c7330) ggL_law_L_holds_wsJ40) ggL_law_L_holds_wsJx000600) ggL_law_L_holds_wsJ00) ggL_law_L_holds_wsX90) ggL_law_L_holds_wsX60) ggL_law_L_holds_wsX80) ggL_law_L_holds_wsX40)) (goodIn_sub (fun _ h => (List.mem_append_left _ (List.mem_append_left _ (List.mem_append_right _ h)))) (by decide +kernel))) (goodIn_sub (fun _ h => (List.mem_append_left _ (List.mem_append_right _ h))) (by decide +kernel))) (goodIn_sub (fun _ h => (List.mem_append_right _ h)) (by decide +kernel))
set_option maxRecDepth 20000 in
theorem gL_law_L_holds : GoodIn wsL_law (wsV RL 270 RL yL_holds wsL_holds) := goodIn_app (goodIn_of _ (by decide +kernel)) ggL_law_L_holds
theorem dL_law_0 : decode cL_law 0 = .ok (.new 11, 3) := by decide +kernel
theorem dL_law_3 : decode cL_law 3 = .ok (.dup, 1) := by decide +kernel
theorem dL_law_4 : decode cL_law 4 = .ok (.invokespecial 269, 3) := by decide +kernel
theorem dL_law_7 : decode cL_law 7 = .ok (.aload_n 0, 1) := by decide +kernel
theorem dL_law_8 : decode cL_law 8 = .ok (.invokevirtual 270, 3) := by decide +kernel
theorem dL_law_11 : decode cL_law 11 = .ok (.ireturn, 1) := by decide +kernel
