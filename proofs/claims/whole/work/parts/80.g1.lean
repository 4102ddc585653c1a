/-! ===== PART 80.1: the law calls ===== -/
set_option maxRecDepth 20000 in
theorem ggL_law_X8_unit : GoodIn wsL_law wsX8_unit := goodIn_r _ [223, 24, 224, 225, 226, 23, 227, 228, 73, 229, 107, 108, 39, 109, 58, 776, 777, 778, 779, 780, 781, 782, 783, 837, 838, 839, 840, 841, 861] (by decide +kernel) (by decide +kernel)
set_option maxRecDepth 20000 in
theorem gL_law_X8_unit : GoodIn wsL_law (wsV RL 25 RX8 yX8_unit wsX8_unit) := goodIn_app (goodIn_of _ (by decide +kernel)) ggL_law_X8_unit
set_option maxRecDepth 20000 in
theorem ggL_law_X9_unit : GoodIn wsL_law wsX9_unit := goodIn_r _ [233, 234, 132, 784, 785, 786, 787, 788, 789, 790, 791, 792, 793, 794, 795, 796, 797, 798, 799, 800, 801, 802, 803, 804, 805, 806, 807, 808, 809, 810, 811, 812, 813, 814, 815, 816, 817, 818, 819, 820, 821, 822, 823, 824, 825, 826] (by decide +kernel) (by decide +kernel)
set_option maxRecDepth 20000 in
theorem gL_law_X9_unit : GoodIn wsL_law (wsV RL 29 RX9 yX9_unit wsX9_unit) := goodIn_app (goodIn_of _ (by decide +kernel)) ggL_law_X9_unit
set_option maxRecDepth 20000 in
theorem ggL_law_X8_read : GoodIn wsL_law wsX8_read := goodIn_r _ [238, 28, 32, 24, 193, 194, 2, 195, 196, 239, 240, 241, 27, 242, 243, 244, 245, 246, 31, 247, 95, 94, 248, 249, 250, 251, 252, 82, 253, 254, 255, 256, 257, 107, 108, 39, 109, 58, 258, 259, 260, 23, 261, 262, 263, 264, 265, 266, 267, 268, 228, 73, 269, 270, 271, 272, 273, 274, 275, 276, 277, 278, 279, 280, 281, 282, 283, 284, 285, 286, 287, 288, 289, 290, 291, 292, 293, 294, 295, 296, 297, 298, 299, 300, 301, 302, 303, 304, 305, 306, 307, 308, 309, 310, 311, 312, 313, 314, 315, 316, 317, 318, 319, 320, 321, 322, 323, 324, 325, 326, 327, 328, 329, 330, 331, 332, 333, 334, 335, 336, 337, 338, 339, 340, 341, 342, 343, 344, 345, 346, 347, 348, 349, 350, 351, 352, 353, 354, 355, 356, 357, 358, 359, 360, 361, 362, 363, 364, 365, 366, 367, 368, 369, 370, 83, 84, 85, 86, 371, 372, 373, 374, 375, 376, 377, 378, 87, 88, 379, 380, 381, 382, 383, 384, 385, 386, 387, 388, 389, 390, 391, 392, 393, 394, 79, 80, 81, 395, 396, 397, 398, 776, 777, 778, 779, 780, 781, 782, 783, 842, 843, 844, 845, 846, 847, 848, 849, 850, 851, 852, 853, 854, 855, 861, 837, 838, 839, 840, 841] (by decide +kernel) (by decide +kernel)
set_option maxRecDepth 20000 in
theorem gL_law_X8_read : GoodIn wsL_law (wsV RL 30 RX8 yX8_read wsX8_read) := goodIn_app (goodIn_of _ (by decide +kernel)) ggL_law_X8_read
set_option maxRecDepth 20000 in
theorem ggL_law_X9_read : GoodIn wsL_law wsX9_read := goodIn_r _ [402, 234, 403, 135, 136, 404, 405, 406, 5, 407, 408, 132, 133, 134, 216, 217, 218, 219, 409, 410, 411, 412, 138, 139, 140, 142, 141, 143, 144, 413, 414, 415, 416, 417, 418, 419, 420, 421, 422, 423, 424, 425, 426, 427, 428, 429, 430, 431, 432, 433, 434, 435, 436, 437, 438, 439, 440, 784, 785, 786, 787, 788, 789, 790, 791, 792, 793, 794, 795, 796, 797, 798, 799, 800, 801, 802, 803, 804, 805, 806, 807, 808, 809, 810, 811, 812, 813, 814, 815, 816, 817, 818, 819, 820, 821, 822, 823, 824, 825, 826] (by decide +kernel) (by decide +kernel)
set_option maxRecDepth 20000 in
theorem gL_law_X9_read : GoodIn wsL_law (wsV RL 34 RX9 yX9_read wsX9_read) := goodIn_app (goodIn_of _ (by decide +kernel)) ggL_law_X9_read
set_option maxRecDepth 20000 in
theorem ggL_law_X8_edition : GoodIn wsL_law wsX8_edition := goodIn_r _ [444, 28, 445, 446, 447, 27, 448, 243, 449, 450, 451, 452, 79, 357, 270, 271, 39, 272, 58, 453, 454, 455, 456, 80, 457, 458, 459, 460, 81, 776, 777, 778, 779, 780, 781, 782, 783, 842, 843, 844, 845, 846, 847, 848, 849, 850, 851, 852, 853, 861] (by decide +kernel) (by decide +kernel)
set_option maxRecDepth 20000 in
theorem gL_law_X8_edition : GoodIn wsL_law (wsV RL 35 RX8 yX8_edition wsX8_edition) := goodIn_app (goodIn_of _ (by decide +kernel)) ggL_law_X8_edition
set_option maxRecDepth 20000 in
theorem ggL_law_X9_edition : GoodIn wsL_law wsX9_edition := goodIn_r _ [464, 403, 135, 136, 138, 784, 785, 786, 787, 788, 789, 790, 791, 792, 793, 794, 795, 796, 797, 798, 799, 800, 801, 802, 803, 804, 805, 806, 807, 808, 809, 810, 811, 812, 813, 814, 815, 816, 817, 818, 819, 820, 821, 822, 823, 824, 825, 826] (by decide +kernel) (by decide +kernel)
set_option maxRecDepth 20000 in
theorem gL_law_X9_edition : GoodIn wsL_law (wsV RL 39 RX9 yX9_edition wsX9_edition) := goodIn_app (goodIn_of _ (by decide +kernel)) ggL_law_X9_edition
