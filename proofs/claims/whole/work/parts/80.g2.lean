/-! ===== PART 80.2: the law calls ===== -/
set_option maxRecDepth 20000 in
theorem ggL_law_X8_cap : GoodIn wsL_law wsX8_cap := goodIn_r _ [468, 469, 40, 470, 471, 2, 472, 106, 107, 108, 39, 109, 58, 776, 777, 778, 779, 780, 781, 782, 783, 861] (by decide +kernel) (by decide +kernel)
set_option maxRecDepth 20000 in
theorem gL_law_X8_cap : GoodIn wsL_law (wsV RL 40 RX8 yX8_cap wsX8_cap) := goodIn_app (goodIn_of _ (by decide +kernel)) ggL_law_X8_cap
set_option maxRecDepth 20000 in
theorem ggL_law_X9_cap : GoodIn wsL_law wsX9_cap := goodIn_r _ [476, 477, 145, 478, 479, 5, 480, 784, 785, 786, 787, 788, 789, 790, 791, 792, 793, 794, 795, 796, 797, 798, 799, 800, 801, 802, 803, 804, 805, 806, 807, 808, 809, 810, 811, 812, 813, 814, 815, 816, 817, 818, 819, 820, 821, 822, 823, 824, 825, 826] (by decide +kernel) (by decide +kernel)
set_option maxRecDepth 20000 in
theorem gL_law_X9_cap : GoodIn wsL_law (wsV RL 44 RX9 yX9_cap wsX9_cap) := goodIn_app (goodIn_of _ (by decide +kernel)) ggL_law_X9_cap
set_option maxRecDepth 20000 in
theorem ggL_law_X8_relief : GoodIn wsL_law wsX8_relief := goodIn_r _ [484, 16, 36, 186, 187, 188, 15, 189, 170, 190, 191, 2, 192, 193, 194, 195, 196, 485, 486, 487, 35, 488, 489, 100, 101, 102, 103, 490, 107, 108, 39, 109, 58, 776, 777, 778, 779, 780, 781, 782, 783, 827, 828, 829, 830, 856, 857, 858, 859, 860, 861] (by decide +kernel) (by decide +kernel)
set_option maxRecDepth 20000 in
theorem gL_law_X8_relief : GoodIn wsL_law (wsV RL 45 RX8 yX8_relief wsX8_relief) := goodIn_app (goodIn_of _ (by decide +kernel)) ggL_law_X8_relief
set_option maxRecDepth 20000 in
theorem ggL_law_X9_relief : GoodIn wsL_law wsX9_relief := goodIn_r _ [494, 495, 146, 147, 148, 149, 209, 210, 211, 5, 212, 180, 213, 214, 215, 216, 217, 218, 219, 784, 785, 786, 787, 788, 789, 790, 791, 792, 793, 794, 795, 796, 797, 798, 799, 800, 801, 802, 803, 804, 805, 806, 807, 808, 809, 810, 811, 812, 813, 814, 815, 816, 817, 818, 819, 820, 821, 822, 823, 824, 825, 826] (by decide +kernel) (by decide +kernel)
set_option maxRecDepth 20000 in
theorem gL_law_X9_relief : GoodIn wsL_law (wsV RL 49 RX9 yX9_relief wsX9_relief) := goodIn_app (goodIn_of _ (by decide +kernel)) ggL_law_X9_relief
set_option maxRecDepth 20000 in
theorem ggL_law_X8_weight : GoodIn wsL_law wsX8_weight := goodIn_r _ [499, 16, 500, 501, 502, 15, 503, 50, 504, 187, 188, 189, 170, 505, 270, 271, 39, 272, 58, 506, 173, 174, 175, 51, 171, 107, 108, 109, 776, 777, 778, 779, 780, 781, 782, 783, 827, 828, 829, 830, 861] (by decide +kernel) (by decide +kernel)
set_option maxRecDepth 20000 in
theorem gL_law_X8_weight : GoodIn wsL_law (wsV RL 50 RX8 yX8_weight wsX8_weight) := goodIn_app (goodIn_of _ (by decide +kernel)) ggL_law_X8_weight
set_option maxRecDepth 20000 in
theorem ggL_law_X9_weight : GoodIn wsL_law wsX9_weight := goodIn_r _ [510, 126, 511, 512, 513, 5, 514, 125, 209, 210, 211, 212, 180, 784, 785, 786, 787, 788, 789, 790, 791, 792, 793, 794, 795, 796, 797, 798, 799, 800, 801, 802, 803, 804, 805, 806, 807, 808, 809, 810, 811, 812, 813, 814, 815, 816, 817, 818, 819, 820, 821, 822, 823, 824, 825, 826] (by decide +kernel) (by decide +kernel)
set_option maxRecDepth 20000 in
theorem gL_law_X9_weight : GoodIn wsL_law (wsV RL 54 RX9 yX9_weight wsX9_weight) := goodIn_app (goodIn_of _ (by decide +kernel)) ggL_law_X9_weight
