set_option maxRecDepth 20000 in
theorem qg_X9_play_9 : GoodIn wsL_law wsX9_play_r9 := goodIn_r _ [88, 89, 90, 91, 92, 93, 94, 99, 100, 101, 102, 103, 104, 528, 529, 530, 531, 532, 533, 534, 535, 536, 537, 538] (by decide +kernel) (by decide +kernel)
set_option maxRecDepth 20000 in
theorem qg_X9_play_10 : GoodIn wsL_law wsX9_play_r10 := goodIn_r _ [539, 540, 541, 542, 543, 544, 545, 546, 547, 548, 549, 550, 551, 552, 553, 554, 555, 304, 305, 306, 307, 556, 557, 558] (by decide +kernel) (by decide +kernel)
set_option maxRecDepth 20000 in
theorem qg_X9_play_11 : GoodIn wsL_law wsX9_play_r11 := goodIn_r _ [559, 560, 561, 562, 563, 564, 565, 566, 567, 568, 569, 570, 571, 572, 573, 574, 575, 576, 577, 578, 579, 580, 581, 582] (by decide +kernel) (by decide +kernel)
set_option maxRecDepth 20000 in
theorem qg_X9_play_12 : GoodIn wsL_law wsX9_play_r12 := goodIn_r _ [583, 584, 585, 586, 587, 588, 589, 590, 591, 179, 592, 593, 594, 595, 596, 301, 302, 303, 597, 598, 599, 600, 601, 602] (by decide +kernel) (by decide +kernel)
set_option maxRecDepth 20000 in
theorem qg_X9_play_13 : GoodIn wsL_law wsX9_play_r13 := goodIn_r _ [603, 604, 605, 606, 607, 608, 609, 610, 611, 612, 613, 614, 615, 616, 617, 618, 619, 620, 621, 622, 623, 624, 625, 626] (by decide +kernel) (by decide +kernel)
set_option maxRecDepth 20000 in
theorem qg_X9_play_14 : GoodIn wsL_law wsX9_play_r14 := goodIn_r _ [627, 628, 629, 630, 631, 632, 633, 634, 635, 636, 637, 638, 639, 640, 641, 642, 643, 644, 645, 646, 647, 648, 649, 650] (by decide +kernel) (by decide +kernel)
set_option maxRecDepth 20000 in
theorem qg_X9_play_15 : GoodIn wsL_law wsX9_play_r15 := goodIn_r _ [651, 652] (by decide +kernel) (by decide +kernel)
set_option maxRecDepth 20000 in
theorem qg_X9_play_wsX90 : GoodIn wsL_law wsX90 := goodIn_r _ [1312, 1313, 1314, 1315, 1316, 1317, 1318, 1319, 1320] (by decide +kernel) (by decide +kernel)
set_option maxRecDepth 20000 in
theorem qg_X9_play_wsX60 : GoodIn wsL_law wsX60 := goodIn_r _ [1360, 1361, 1362, 1363, 1364, 1365, 1366, 1367, 1368, 1369, 1370] (by decide +kernel) (by decide +kernel)
set_option maxRecDepth 20000 in
theorem qg_X9_play_wsX40 : GoodIn wsL_law wsX40 := goodIn_r _ [1357, 1358, 1359] (by decide +kernel) (by decide +kernel)
set_option maxRecDepth 20000 in
theorem qg_X9_play_wsX80 : GoodIn wsL_law wsX80 := goodIn_r _ [1344, 1345, 1346, 1347, 1348, 1349, 1350, 1351, 1352, 1353, 1354, 1355, 1356] (by decide +kernel) (by decide +kernel)
theorem ggL_law_X9_play : GoodIn wsL_law wsX9_play := goodIn_cn qg_X9_play_c (goodIn_app (goodIn_app (goodIn_app (goodIn_app (goodIn_app qg_X9_play_1 (goodIn_app qg_X9_play_2 (goodIn_app qg_X9_play_3 (goodIn_app qg_X9_play_4 (goodIn_app qg_X9_play_5 (goodIn_app qg_X9_play_6 (goodIn_app qg_X9_play_7 (goodIn_app qg_X9_play_8 (goodIn_app qg_X9_play_9 (goodIn_app qg_X9_play_10 (goodIn_app qg_X9_play_11 (goodIn_app qg_X9_play_12 (goodIn_app qg_X9_play_13 (goodIn_app qg_X9_play_14 (qg_X9_play_15))))))))))))))) qg_X9_play_wsX90) qg_X9_play_wsX60) qg_X9_play_wsX40) qg_X9_play_wsX80)
set_option maxRecDepth 20000 in
theorem gL_law_X9_play : GoodIn wsL_law (wsV RL 122 RX9 yX9_play wsX9_play) := goodIn_app (goodIn_of _ (by decide +kernel)) ggL_law_X9_play
set_option maxRecDepth 20000 in
theorem qg_X10_play_c : GoodIn wsL_law [Cond.code yX10_play cX10_play 2 (some .int)] := goodIn_r _ [656] (by decide +kernel) (by decide +kernel)
set_option maxRecDepth 20000 in
theorem qg_X10_play_1 : GoodIn wsL_law wsX10_play_r1 := goodIn_r _ [148, 329, 149, 340, 334, 335, 336, 5, 337, 338, 118, 339, 341, 342, 343, 344, 345, 346, 347, 348, 349, 350, 351, 352] (by decide +kernel) (by decide +kernel)
set_option maxRecDepth 20000 in
theorem qg_X10_play_2 : GoodIn wsL_law wsX10_play_r2 := goodIn_r _ [353, 354, 355, 356, 357, 116, 358, 359, 360, 361, 362, 363, 364, 365, 366, 367, 657, 658, 659, 660, 661, 662, 663, 664] (by decide +kernel) (by decide +kernel)
set_option maxRecDepth 20000 in
theorem qg_X10_play_3 : GoodIn wsL_law wsX10_play_r3 := goodIn_r _ [372, 373, 374, 375, 376, 211, 212, 213, 214, 215, 216, 217, 218, 219, 220, 221, 377, 225, 226, 227, 228, 229, 230, 231] (by decide +kernel) (by decide +kernel)
set_option maxRecDepth 20000 in
theorem qg_X10_play_4 : GoodIn wsL_law wsX10_play_r4 := goodIn_r _ [232, 233, 234, 235, 236, 237, 238, 239, 240, 241, 242, 243, 244, 245, 246, 247, 248, 249, 250, 251, 252, 253, 254, 255] (by decide +kernel) (by decide +kernel)
set_option maxRecDepth 20000 in
theorem qg_X10_play_5 : GoodIn wsL_law wsX10_play_r5 := goodIn_r _ [256, 257, 258, 259, 260, 386, 387, 388, 389, 665, 666, 667, 668, 117, 390, 391, 392, 393, 669, 670, 671, 672, 410, 411] (by decide +kernel) (by decide +kernel)
set_option maxRecDepth 20000 in
theorem qg_X10_play_6 : GoodIn wsL_law wsX10_play_r6 := goodIn_r _ [412, 413, 402, 403, 404, 405, 172, 173, 174, 673, 674, 675, 676, 394, 395, 396, 397, 398, 399, 400, 401, 406, 407, 408] (by decide +kernel) (by decide +kernel)
set_option maxRecDepth 20000 in
theorem qg_X10_play_7 : GoodIn wsL_law wsX10_play_r7 := goodIn_r _ [409, 454, 455, 456, 457, 677, 678, 679, 680, 681, 682, 683, 684, 685, 686, 687, 688, 330, 109, 112, 115, 689, 690, 691] (by decide +kernel) (by decide +kernel)
set_option maxRecDepth 20000 in
theorem qg_X10_play_8 : GoodIn wsL_law wsX10_play_r8 := goodIn_r _ [692, 331, 332, 333, 693, 694, 695, 696, 697, 698, 699, 700, 701, 702, 703, 704, 705, 706, 707, 708, 709, 710, 711, 458] (by decide +kernel) (by decide +kernel)
set_option maxRecDepth 20000 in
theorem qg_X10_play_9 : GoodIn wsL_law wsX10_play_r9 := goodIn_r _ [459, 460, 461, 462, 463, 464, 465, 466, 467, 468, 469, 470, 471, 472, 473, 712, 713, 714, 715, 716, 717, 718, 719, 720] (by decide +kernel) (by decide +kernel)
set_option maxRecDepth 20000 in
theorem qg_X10_play_10 : GoodIn wsL_law wsX10_play_r10 := goodIn_r _ [721, 722, 723, 724, 725, 726, 727, 728, 729, 730, 731, 732, 733, 734, 450, 451, 452, 453, 735, 736, 737, 738, 739, 740] (by decide +kernel) (by decide +kernel)
set_option maxRecDepth 20000 in
theorem qg_X10_play_11 : GoodIn wsL_law wsX10_play_r11 := goodIn_r _ [741, 742, 743, 744, 745, 746, 747, 748, 749, 750, 751, 752, 753, 754, 755, 756, 757, 758, 759, 760, 761, 762, 763, 764] (by decide +kernel) (by decide +kernel)
set_option maxRecDepth 20000 in
theorem qg_X10_play_12 : GoodIn wsL_law wsX10_play_r12 := goodIn_r _ [765, 766, 767, 768, 769, 770, 771, 772, 773, 774, 775, 776, 777, 778, 779, 780, 781, 782, 783, 784, 785, 786, 787, 788] (by decide +kernel) (by decide +kernel)
set_option maxRecDepth 20000 in
theorem qg_X10_play_13 : GoodIn wsL_law wsX10_play_r13 := goodIn_r _ [789, 790, 791, 792, 793, 794, 446, 447, 448, 449, 795, 796, 797, 798, 799, 800, 801, 802, 803, 804, 805, 806, 807, 808] (by decide +kernel) (by decide +kernel)
set_option maxRecDepth 20000 in
theorem qg_X10_play_14 : GoodIn wsL_law wsX10_play_r14 := goodIn_r _ [809, 810, 811, 812, 813, 814, 815, 816, 817, 818, 819, 820, 821, 822, 823, 824, 825, 826, 827, 828, 829, 830, 831, 832] (by decide +kernel) (by decide +kernel)
