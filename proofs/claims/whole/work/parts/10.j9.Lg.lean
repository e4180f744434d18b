set_option maxRecDepth 20000 in
theorem ggL_law_L_bestFirst : GoodIn wsL_law wsL_bestFirst := goodIn_ca (goodIn_r _ [1123, 161, 1124, 1125, 1126, 2, 1127, 166, 167, 16, 179, 17, 930, 313, 314, 315, 15, 316, 36, 317, 318, 319, 320, 37, 38, 39, 40, 41, 42, 43, 44, 45, 46, 47, 48, 605, 606, 607, 608, 524, 525, 526, 527, 95, 96, 97, 98, 87, 88, 89, 90, 91, 92, 93, 94, 99, 100, 101, 102, 103, 104, 528, 529, 530, 531, 532, 533, 534, 535, 536, 537, 538, 539, 540, 541, 542, 543, 544, 545, 546, 547, 548, 549, 550, 551, 552, 553, 554, 555, 304, 305, 306, 307, 556, 557, 558, 559, 560, 561, 562, 563, 564, 565, 566, 567, 568, 569, 570, 571, 572, 573, 574, 575, 222, 223, 576, 577, 578, 579, 580, 581, 582, 583, 584, 585, 586, 587, 931, 1312, 1313, 1314, 1315, 1316, 1317, 1318, 1319, 1320, 1344, 1345, 1346, 1347, 1348, 1349, 1350, 1351, 1352, 1353, 1354, 1355, 1356] (by decide +kernel) (by decide +kernel)) (goodIn_sub (fun _ h => List.mem_append_left _ (List.mem_append_right _ h)) (by decide +kernel))
set_option maxRecDepth 20000 in
theorem gL_law_L_bestFirst : GoodIn wsL_law (va_wsS RL 211 yL_bestFirst wsL_bestFirst) := goodIn_app (goodIn_of _ (by decide +kernel)) ggL_law_L_bestFirst
set_option maxRecDepth 20000 in
theorem ggL_law_X10_bestFirst : GoodIn wsL_law wsX10_bestFirst := goodIn_r _ [1131, 148, 109, 111, 172, 173, 5, 174, 150, 151, 152, 153, 331, 332, 333, 807, 808, 809, 810, 779, 780, 781, 782, 693, 694, 695, 696, 697, 698, 699, 700, 701, 702, 703, 704, 705, 706, 707, 708, 709, 710, 352, 711, 458, 459, 460, 461, 462, 463, 464, 465, 466, 467, 468, 469, 470, 471, 472, 473, 712, 713, 714, 715, 350, 351, 353, 716, 717, 718, 719, 720, 721, 722, 723, 724, 725, 726, 727, 728, 729, 730, 731, 732, 733, 734, 450, 451, 452, 453, 735, 736, 737, 738, 739, 740, 741, 742, 743, 744, 745, 746, 747, 748, 749, 750, 751, 752, 753, 754, 755, 756, 757, 758, 759, 760, 761, 762, 763, 764, 765, 766, 767, 768, 769, 770, 771, 772, 773, 774, 775, 776, 777, 778, 783, 784, 785, 786, 1321, 1322, 1323, 1324, 1325, 1326, 1327, 1328, 1329, 1330, 1331, 1332, 1333, 1334, 1335, 1336, 1337, 1338, 1339, 1340, 1341, 1342, 1343] (by decide +kernel) (by decide +kernel)
set_option maxRecDepth 20000 in
theorem gL_law_X10_bestFirst : GoodIn wsL_law (wsV RL 213 RX10 yX10_bestFirst wsX10_bestFirst) := goodIn_app (goodIn_of _ (by decide +kernel)) ggL_law_X10_bestFirst
set_option maxRecDepth 20000 in
theorem ggL_law_X9_meanWait : GoodIn wsL_law wsX9_meanWait := goodIn_r _ [1135, 16, 179, 921, 545, 546, 15, 547, 39, 1312, 1313, 1314, 1315, 1316, 1317, 1318, 1319, 1320, 1344, 1345, 1346, 1347, 1348, 1349, 1350, 1351, 1352, 1353, 1354, 1355, 1356] (by decide +kernel) (by decide +kernel)
set_option maxRecDepth 20000 in
theorem gL_law_X9_meanWait : GoodIn wsL_law (wsV RL 214 RX9 yX9_meanWait wsX9_meanWait) := goodIn_app (goodIn_of _ (by decide +kernel)) ggL_law_X9_meanWait
set_option maxRecDepth 20000 in
theorem ggL_law_X10_meanWait : GoodIn wsL_law wsX10_meanWait := goodIn_r _ [1139, 148, 109, 470, 471, 472, 5, 473, 1083, 1084, 1085, 1086, 1321, 1322, 1323, 1324, 1325, 1326, 1327, 1328, 1329, 1330, 1331, 1332, 1333, 1334, 1335, 1336, 1337, 1338, 1339, 1340, 1341, 1342, 1343] (by decide +kernel) (by decide +kernel)
set_option maxRecDepth 20000 in
theorem gL_law_X10_meanWait : GoodIn wsL_law (wsV RL 218 RX10 yX10_meanWait wsX10_meanWait) := goodIn_app (goodIn_of _ (by decide +kernel)) ggL_law_X10_meanWait
set_option maxRecDepth 20000 in
theorem ggL_law_X9_fullness : GoodIn wsL_law wsX9_fullness := goodIn_r _ [1143, 16, 648, 179, 1312, 1313, 1314, 1315, 1316, 1317, 1318, 1319, 1320, 1344, 1345, 1346, 1347, 1348, 1349, 1350, 1351, 1352, 1353, 1354, 1355, 1356] (by decide +kernel) (by decide +kernel)
set_option maxRecDepth 20000 in
theorem gL_law_X9_fullness : GoodIn wsL_law (wsV RL 219 RX9 yX9_fullness wsX9_fullness) := goodIn_app (goodIn_of _ (by decide +kernel)) ggL_law_X9_fullness
set_option maxRecDepth 20000 in
theorem ggL_law_X10_fullness : GoodIn wsL_law wsX10_fullness := goodIn_r _ [1147, 148, 109, 466, 467, 468, 5, 469, 470, 471, 472, 473, 1321, 1322, 1323, 1324, 1325, 1326, 1327, 1328, 1329, 1330, 1331, 1332, 1333, 1334, 1335, 1336, 1337, 1338, 1339, 1340, 1341, 1342, 1343] (by decide +kernel) (by decide +kernel)
set_option maxRecDepth 20000 in
theorem gL_law_X10_fullness : GoodIn wsL_law (wsV RL 223 RX10 yX10_fullness wsX10_fullness) := goodIn_app (goodIn_of _ (by decide +kernel)) ggL_law_X10_fullness
