/-! ===== PART 80.4: the law calls ===== -/
set_option maxRecDepth 20000 in
theorem ggL_law_X8_open : GoodIn wsL_law wsX8_open := goodIn_r _ [704, 45, 705, 706, 707, 44, 708, 623, 117, 114, 684, 270, 271, 39, 272, 58, 776, 777, 778, 779, 780, 781, 782, 783, 862, 863, 864, 865, 866, 867, 868, 861] (by decide +kernel) (by decide +kernel)
set_option maxRecDepth 20000 in
theorem gL_law_X8_open : GoodIn wsL_law (wsV RL 70 RX8 yX8_open wsX8_open) := goodIn_app (goodIn_of _ (by decide +kernel)) ggL_law_X8_open
set_option maxRecDepth 20000 in
theorem ggL_law_X9_open : GoodIn wsL_law wsX9_open := goodIn_r _ [712, 661, 158, 155, 784, 785, 786, 787, 788, 789, 790, 791, 792, 793, 794, 795, 796, 797, 798, 799, 800, 801, 802, 803, 804, 805, 806, 807, 808, 809, 810, 811, 812, 813, 814, 815, 816, 817, 818, 819, 820, 821, 822, 823, 824, 825, 826] (by decide +kernel) (by decide +kernel)
set_option maxRecDepth 20000 in
theorem gL_law_X9_open : GoodIn wsL_law (wsV RL 73 RX9 yX9_open wsX9_open) := goodIn_app (goodIn_of _ (by decide +kernel)) ggL_law_X9_open
set_option maxRecDepth 20000 in
theorem ggL_law_X8_write : GoodIn wsL_law wsX8_write := goodIn_r _ [716, 45, 717, 718, 719, 44, 720, 624, 118, 684, 270, 271, 39, 272, 58, 776, 777, 778, 779, 780, 781, 782, 783, 862, 863, 864, 865, 866, 867, 868, 861] (by decide +kernel) (by decide +kernel)
set_option maxRecDepth 20000 in
theorem gL_law_X8_write : GoodIn wsL_law (wsV RL 74 RX8 yX8_write wsX8_write) := goodIn_app (goodIn_of _ (by decide +kernel)) ggL_law_X8_write
set_option maxRecDepth 20000 in
theorem ggL_law_X9_write : GoodIn wsL_law wsX9_write := goodIn_r _ [724, 662, 160, 784, 785, 786, 787, 788, 789, 790, 791, 792, 793, 794, 795, 796, 797, 798, 799, 800, 801, 802, 803, 804, 805, 806, 807, 808, 809, 810, 811, 812, 813, 814, 815, 816, 817, 818, 819, 820, 821, 822, 823, 824, 825, 826] (by decide +kernel) (by decide +kernel)
set_option maxRecDepth 20000 in
theorem gL_law_X9_write : GoodIn wsL_law (wsV RL 77 RX9 yX9_write wsX9_write) := goodIn_app (goodIn_of _ (by decide +kernel)) ggL_law_X9_write
set_option maxRecDepth 20000 in
theorem ggL_law_X8_flat : GoodIn wsL_law wsX8_flat := goodIn_r _ [728, 16, 523, 500, 501, 502, 15, 503, 50, 504, 187, 188, 189, 170, 505, 270, 271, 39, 272, 58, 519, 520, 521, 2, 522, 20, 41, 40, 524, 525, 526, 527, 186, 470, 471, 472, 193, 194, 195, 196, 528, 529, 530, 19, 531, 201, 532, 533, 534, 535, 63, 65, 536, 67, 537, 538, 539, 540, 541, 28, 542, 543, 544, 545, 36, 546, 547, 548, 549, 550, 551, 552, 553, 64, 554, 555, 556, 557, 558, 559, 560, 35, 561, 489, 100, 101, 102, 103, 562, 563, 564, 565, 27, 566, 243, 80, 79, 357, 567, 568, 569, 570, 571, 572, 573, 574, 66, 575, 576, 577, 578, 253, 82, 84, 579, 580, 581, 582, 583, 446, 447, 448, 254, 255, 256, 584, 585, 586, 587, 83, 85, 86, 87, 88, 588, 729, 730, 731, 732, 733, 734, 735, 736, 737, 738, 51, 776, 777, 778, 779, 780, 781, 782, 783, 827, 828, 829, 830, 861, 831, 832, 833, 834, 835, 836, 856, 857, 858, 859, 860, 842, 843, 844, 845, 846, 847, 848, 849, 850, 851, 852, 853] (by decide +kernel) (by decide +kernel)
set_option maxRecDepth 20000 in
theorem gL_law_X8_flat : GoodIn wsL_law (wsV RL 78 RX8 yX8_flat wsX8_flat) := goodIn_app (goodIn_of _ (by decide +kernel)) ggL_law_X8_flat
set_option maxRecDepth 20000 in
theorem ggL_law_X9_flat : GoodIn wsL_law wsX9_flat := goodIn_r _ [742, 593, 125, 126, 511, 512, 513, 5, 514, 209, 210, 211, 212, 180, 743, 590, 591, 592, 594, 154, 152, 145, 595, 596, 597, 598, 478, 479, 480, 216, 217, 218, 219, 599, 600, 601, 602, 207, 127, 129, 131, 128, 138, 139, 151, 153, 161, 130, 603, 604, 605, 606, 495, 146, 147, 148, 149, 607, 608, 609, 610, 403, 136, 135, 611, 612, 613, 614, 140, 142, 143, 144, 141, 784, 785, 786, 787, 788, 789, 790, 791, 792, 793, 794, 795, 796, 797, 798, 799, 800, 801, 802, 803, 804, 805, 806, 807, 808, 809, 810, 811, 812, 813, 814, 815, 816, 817, 818, 819, 820, 821, 822, 823, 824, 825, 826] (by decide +kernel) (by decide +kernel)
set_option maxRecDepth 20000 in
theorem gL_law_X9_flat : GoodIn wsL_law (wsV RL 82 RX9 yX9_flat wsX9_flat) := goodIn_app (goodIn_of _ (by decide +kernel)) ggL_law_X9_flat
