/-! ===== PART 80.5: the law calls ===== -/
set_option maxRecDepth 20000 in
theorem ggL_law_X8_issue : GoodIn wsL_law wsX8_issue := goodIn_r _ [747, 523, 16, 519, 520, 521, 2, 522, 20, 41, 40, 524, 525, 526, 527, 186, 187, 188, 15, 189, 170, 470, 471, 472, 193, 194, 195, 196, 528, 529, 530, 19, 531, 201, 532, 533, 534, 535, 63, 65, 536, 67, 537, 270, 271, 39, 272, 58, 538, 539, 540, 541, 28, 542, 543, 544, 545, 36, 546, 547, 548, 549, 550, 551, 552, 553, 64, 554, 555, 556, 557, 558, 559, 560, 35, 561, 489, 100, 101, 102, 103, 562, 563, 564, 565, 27, 566, 243, 80, 79, 357, 567, 568, 569, 570, 571, 572, 573, 574, 66, 575, 576, 577, 578, 253, 82, 84, 579, 580, 581, 582, 583, 446, 447, 448, 254, 255, 256, 584, 585, 586, 587, 83, 85, 86, 87, 88, 588, 748, 749, 750, 751, 52, 505, 752, 753, 754, 755, 171, 107, 108, 109, 776, 777, 778, 779, 780, 781, 782, 783, 827, 828, 829, 830, 831, 832, 833, 834, 835, 836, 861, 856, 857, 858, 859, 860, 842, 843, 844, 845, 846, 847, 848, 849, 850, 851, 852, 853] (by decide +kernel) (by decide +kernel)
set_option maxRecDepth 20000 in
theorem gL_law_X8_issue : GoodIn wsL_law (wsV RL 83 RX8 yX8_issue wsX8_issue) := goodIn_app (goodIn_of _ (by decide +kernel)) ggL_law_X8_issue
set_option maxRecDepth 20000 in
theorem ggL_law_X9_issue : GoodIn wsL_law wsX9_issue := goodIn_r _ [759, 150, 743, 590, 591, 5, 592, 593, 594, 154, 152, 145, 595, 596, 597, 598, 209, 210, 211, 212, 180, 478, 479, 480, 216, 217, 218, 219, 599, 600, 601, 602, 207, 127, 129, 131, 128, 138, 139, 151, 153, 161, 130, 603, 604, 605, 606, 495, 146, 147, 148, 149, 607, 608, 609, 610, 403, 136, 135, 611, 612, 613, 614, 140, 142, 143, 144, 141, 784, 785, 786, 787, 788, 789, 790, 791, 792, 793, 794, 795, 796, 797, 798, 799, 800, 801, 802, 803, 804, 805, 806, 807, 808, 809, 810, 811, 812, 813, 814, 815, 816, 817, 818, 819, 820, 821, 822, 823, 824, 825, 826] (by decide +kernel) (by decide +kernel)
set_option maxRecDepth 20000 in
theorem gL_law_X9_issue : GoodIn wsL_law (wsV RL 86 RX9 yX9_issue wsX9_issue) := goodIn_app (goodIn_of _ (by decide +kernel)) ggL_law_X9_issue
set_option maxRecDepth 20000 in
theorem ggL_law_X8_issued : GoodIn wsL_law wsX8_issued := goodIn_r _ [763, 16, 523, 186, 187, 188, 15, 189, 170, 470, 471, 2, 472, 748, 749, 750, 751, 52, 505, 270, 271, 39, 272, 58, 776, 777, 778, 779, 780, 781, 782, 783, 827, 828, 829, 830, 861] (by decide +kernel) (by decide +kernel)
set_option maxRecDepth 20000 in
theorem gL_law_X8_issued : GoodIn wsL_law (wsV RL 87 RX8 yX8_issued wsX8_issued) := goodIn_app (goodIn_of _ (by decide +kernel)) ggL_law_X8_issued
set_option maxRecDepth 20000 in
theorem ggL_law_X9_issued : GoodIn wsL_law wsX9_issued := goodIn_r _ [767, 150, 593, 209, 210, 211, 5, 212, 180, 478, 479, 480, 784, 785, 786, 787, 788, 789, 790, 791, 792, 793, 794, 795, 796, 797, 798, 799, 800, 801, 802, 803, 804, 805, 806, 807, 808, 809, 810, 811, 812, 813, 814, 815, 816, 817, 818, 819, 820, 821, 822, 823, 824, 825, 826] (by decide +kernel) (by decide +kernel)
set_option maxRecDepth 20000 in
theorem gL_law_X9_issued : GoodIn wsL_law (wsV RL 90 RX9 yX9_issued wsX9_issued) := goodIn_app (goodIn_of _ (by decide +kernel)) ggL_law_X9_issued
set_option maxRecDepth 20000 in
theorem ggL_law_X8_reverse : GoodIn wsL_law wsX8_reverse := goodIn_r _ [771, 16, 523, 186, 187, 188, 15, 189, 170, 470, 471, 2, 472, 748, 749, 750, 751, 52, 505, 270, 271, 39, 272, 58, 752, 753, 754, 755, 171, 107, 108, 109, 776, 777, 778, 779, 780, 781, 782, 783, 827, 828, 829, 830, 861] (by decide +kernel) (by decide +kernel)
set_option maxRecDepth 20000 in
theorem gL_law_X8_reverse : GoodIn wsL_law (wsV RL 91 RX8 yX8_reverse wsX8_reverse) := goodIn_app (goodIn_of _ (by decide +kernel)) ggL_law_X8_reverse
set_option maxRecDepth 20000 in
theorem ggL_law_X9_reverse : GoodIn wsL_law wsX9_reverse := goodIn_r _ [775, 593, 150, 209, 210, 211, 5, 212, 180, 478, 479, 480, 784, 785, 786, 787, 788, 789, 790, 791, 792, 793, 794, 795, 796, 797, 798, 799, 800, 801, 802, 803, 804, 805, 806, 807, 808, 809, 810, 811, 812, 813, 814, 815, 816, 817, 818, 819, 820, 821, 822, 823, 824, 825, 826] (by decide +kernel) (by decide +kernel)
set_option maxRecDepth 20000 in
theorem gL_law_X9_reverse : GoodIn wsL_law (wsV RL 94 RX9 yX9_reverse wsX9_reverse) := goodIn_app (goodIn_of _ (by decide +kernel)) ggL_law_X9_reverse
