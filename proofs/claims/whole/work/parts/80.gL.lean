/-! ===== PART 80: the law calls ===== -/
set_option maxRecDepth 20000 in
theorem ggL_law_X8_init : GoodIn wsL_law wsX8_init := goodIn_r _ [9, 10, 11, 12, 13, 14, 15, 16, 17, 18, 19, 20, 21, 22, 23, 24, 25, 26, 27, 28, 29, 30, 31, 32, 33, 34, 35, 36, 37, 38, 39, 40, 41, 42, 43, 44, 45, 46, 47, 48, 49, 50, 51, 52, 53, 54, 55, 56, 57, 58, 59, 60, 61, 62, 63, 64, 65, 66, 67, 68, 69, 70, 71, 72, 73, 74, 75, 76, 77, 78, 79, 80, 81, 82, 83, 84, 85, 86, 87, 88, 89, 90, 91, 92, 93, 94, 95, 96, 97, 98, 99, 100, 101, 102, 103, 104, 105, 106, 107, 108, 109, 110, 111, 112, 113, 114, 115, 116, 117, 118, 119, 827, 828, 829, 830, 776, 777, 778, 779, 780, 781, 782, 783, 831, 832, 833, 834, 835, 836, 837, 838, 839, 840, 841, 842, 843, 844, 845, 846, 847, 848, 849, 850, 851, 852, 853, 854, 855, 856, 857, 858, 859, 860, 861, 862, 863, 864, 865, 866, 867, 868] (by decide +kernel) (by decide +kernel)
set_option maxRecDepth 20000 in
theorem gL_law_X8_init : GoodIn wsL_law (wsX8_init) := ggL_law_X8_init
set_option maxRecDepth 20000 in
theorem ggL_law_X9_init : GoodIn wsL_law wsX9_init := goodIn_r _ [122, 123, 11, 12, 124, 125, 126, 127, 128, 129, 130, 131, 132, 133, 134, 135, 136, 137, 138, 139, 140, 141, 142, 143, 144, 57, 145, 146, 147, 148, 149, 150, 151, 152, 153, 154, 155, 156, 157, 158, 159, 160, 161, 784, 785, 786, 787, 788, 789, 790, 791, 792, 793, 794, 795, 796, 797, 798, 799, 800, 801, 802, 803, 804, 805, 806, 807, 808, 809, 810, 811, 812, 813, 814, 815, 816, 817, 818, 819, 820, 821, 822, 823, 824, 825, 826] (by decide +kernel) (by decide +kernel)
set_option maxRecDepth 20000 in
theorem gL_law_X9_init : GoodIn wsL_law (wsX9_init) := ggL_law_X9_init
set_option maxRecDepth 20000 in
theorem ggL_law_X8_house : GoodIn wsL_law wsX8_house := goodIn_r _ [165, 16, 166, 167, 168, 15, 169, 170, 50, 171, 107, 108, 39, 109, 58, 172, 173, 174, 175, 51, 776, 777, 778, 779, 780, 781, 782, 783, 827, 828, 829, 830, 861] (by decide +kernel) (by decide +kernel)
set_option maxRecDepth 20000 in
theorem gL_law_X8_house : GoodIn wsL_law (wsV RL 13 RX8 yX8_house wsX8_house) := goodIn_app (goodIn_of _ (by decide +kernel)) ggL_law_X8_house
set_option maxRecDepth 20000 in
theorem ggL_law_X9_house : GoodIn wsL_law wsX9_house := goodIn_r _ [179, 180, 125, 784, 785, 786, 787, 788, 789, 790, 791, 792, 793, 794, 795, 796, 797, 798, 799, 800, 801, 802, 803, 804, 805, 806, 807, 808, 809, 810, 811, 812, 813, 814, 815, 816, 817, 818, 819, 820, 821, 822, 823, 824, 825, 826] (by decide +kernel) (by decide +kernel)
set_option maxRecDepth 20000 in
theorem gL_law_X9_house : GoodIn wsL_law (wsV RL 17 RX9 yX9_house wsX9_house) := goodIn_app (goodIn_of _ (by decide +kernel)) ggL_law_X9_house
set_option maxRecDepth 20000 in
theorem ggL_law_X8_fact : GoodIn wsL_law wsX8_fact := goodIn_r _ [184, 16, 185, 20, 186, 187, 188, 15, 189, 170, 190, 191, 2, 192, 193, 194, 195, 196, 197, 198, 199, 19, 200, 201, 63, 64, 65, 66, 67, 202, 107, 108, 39, 109, 58, 776, 777, 778, 779, 780, 781, 782, 783, 827, 828, 829, 830, 831, 832, 833, 834, 835, 836, 861] (by decide +kernel) (by decide +kernel)
set_option maxRecDepth 20000 in
theorem gL_law_X8_fact : GoodIn wsL_law (wsV RL 20 RX8 yX8_fact wsX8_fact) := goodIn_app (goodIn_of _ (by decide +kernel)) ggL_law_X8_fact
set_option maxRecDepth 20000 in
theorem ggL_law_X9_fact : GoodIn wsL_law wsX9_fact := goodIn_r _ [206, 207, 208, 127, 128, 129, 130, 131, 209, 210, 211, 5, 212, 180, 213, 214, 215, 216, 217, 218, 219, 784, 785, 786, 787, 788, 789, 790, 791, 792, 793, 794, 795, 796, 797, 798, 799, 800, 801, 802, 803, 804, 805, 806, 807, 808, 809, 810, 811, 812, 813, 814, 815, 816, 817, 818, 819, 820, 821, 822, 823, 824, 825, 826] (by decide +kernel) (by decide +kernel)
set_option maxRecDepth 20000 in
theorem gL_law_X9_fact : GoodIn wsL_law (wsV RL 24 RX9 yX9_fact wsX9_fact) := goodIn_app (goodIn_of _ (by decide +kernel)) ggL_law_X9_fact
set_option maxRecDepth 20000 in
theorem ggL_law_X8_unit : GoodIn wsL_law wsX8_unit := goodIn_r _ [223, 24, 224, 225, 226, 23, 227, 228, 73, 229, 107, 108, 39, 109, 58, 776, 777, 778, 779, 780, 781, 782, 783, 837, 838, 839, 840, 841, 861] (by decide +kernel) (by decide +kernel)
set_option maxRecDepth 20000 in
theorem gL_law_X8_unit : GoodIn wsL_law (wsV RL 25 RX8 yX8_unit wsX8_unit) := goodIn_app (goodIn_of _ (by decide +kernel)) ggL_law_X8_unit
set_option maxRecDepth 20000 in
theorem ggL_law_X9_unit : GoodIn wsL_law wsX9_unit := goodIn_r _ [233, 234, 132, 784, 785, 786, 787, 788, 789, 790, 791, 792, 793, 794, 795, 796, 797, 798, 799, 800, 801, 802, 803, 804, 805, 806, 807, 808, 809, 810, 811, 812, 813, 814, 815, 816, 817, 818, 819, 820, 821, 822, 823, 824, 825, 826] (by decide +kernel) (by decide +kernel)
set_option maxRecDepth 20000 in
theorem gL_law_X9_unit : GoodIn wsL_law (wsV RL 29 RX9 yX9_unit wsX9_unit) := goodIn_app (goodIn_of _ (by decide +kernel)) ggL_law_X9_unit
set_option maxRecDepth 20000 in
theorem ggL_law_X8_read : GoodIn wsL_law wsX8_read := goodIn_r _ [238, 28, 32, 24, 193, 194, 2, 195, 196, 239, 240, 241, 27, 242, 243, 244, 245, 246, 31, 247, 95, 94, 248, 249, 250, 251, 252, 82, 253, 254, 255, 256, 257, 107, 108, 39, 109, 58, 258, 259, 260, 23, 261, 262, 263, 264, 265, 266, 267, 268, 228, 73, 269, 270, 271, 272, 273, 274, 275, 276, 277, 278, 279, 280, 281, 282, 283, 284, 285, 286, 287, 288, 289, 290, 291, 292, 293, 294, 295, 296, 297, 298, 299, 300, 301, 302, 303, 304, 305, 306, 307, 308, 309, 310, 311, 312, 313, 314, 315, 316, 317, 318, 319, 320, 321, 322, 323, 324, 325, 326, 327, 328, 329, 330, 331, 332, 333, 334, 335, 336, 337, 338, 339, 340, 341, 342, 343, 344, 345, 346, 347, 348, 349, 350, 351, 352, 353, 354, 355, 356, 357, 358, 359, 360, 361, 362, 363, 364, 365, 366, 367, 368, 369, 370, 83, 84, 85, 86, 371, 372, 373, 374, 375, 376, 377, 378, 87, 88, 379, 380, 381, 382, 383, 384, 385, 386, 387, 388, 389, 390, 391, 392, 393, 394, 79, 80, 81, 395, 396, 397, 398, 776, 777, 778, 779, 780, 781, 782, 783, 842, 843, 844, 845, 846, 847, 848, 849, 850, 851, 852, 853, 854, 855, 861, 837, 838, 839, 840, 841] (by decide +kernel) (by decide +kernel)
set_option maxRecDepth 20000 in
theorem gL_law_X8_read : GoodIn wsL_law (wsV RL 30 RX8 yX8_read wsX8_read) := goodIn_app (goodIn_of _ (by decide +kernel)) ggL_law_X8_read
set_option maxRecDepth 20000 in
theorem ggL_law_X9_read : GoodIn wsL_law wsX9_read := goodIn_r _ [402, 234, 403, 135, 136, 404, 405, 406, 5, 407, 408, 132, 133, 134, 216, 217, 218, 219, 409, 410, 411, 412, 138, 139, 140, 142, 141, 143, 144, 413, 414, 415, 416, 417, 418, 419, 420, 421, 422, 423, 424, 425, 426, 427, 428, 429, 430, 431, 432, 433, 434, 435, 436, 437, 438, 439, 440, 784, 785, 786, 787, 788, 789, 790, 791, 792, 793, 794, 795, 796, 797, 798, 799, 800, 801, 802, 803, 804, 805, 806, 807, 808, 809, 810, 811, 812, 813, 814, 815, 816, 817, 818, 819, 820, 821, 822, 823, 824, 825, 826] (by decide +kernel) (by decide +kernel)
set_option maxRecDepth 20000 in
theorem gL_law_X9_read : GoodIn wsL_law (wsV RL 34 RX9 yX9_read wsX9_read) := goodIn_app (goodIn_of _ (by decide +kernel)) ggL_law_X9_read
set_option maxRecDepth 20000 in
theorem ggL_law_X8_edition : GoodIn wsL_law wsX8_edition := goodIn_r _ [444, 28, 445, 446, 447, 27, 448, 243, 449, 450, 451, 452, 79, 357, 270, 271, 39, 272, 58, 453, 454, 455, 456, 80, 457, 458, 459, 460, 81, 776, 777, 778, 779, 780, 781, 782, 783, 842, 843, 844, 845, 846, 847, 848, 849, 850, 851, 852, 853, 861] (by decide +kernel) (by decide +kernel)
set_option maxRecDepth 20000 in
theorem gL_law_X8_edition : GoodIn wsL_law (wsV RL 35 RX8 yX8_edition wsX8_edition) := goodIn_app (goodIn_of _ (by decide +kernel)) ggL_law_X8_edition
set_option maxRecDepth 20000 in
theorem ggL_law_X9_edition : GoodIn wsL_law wsX9_edition := goodIn_r _ [464, 403, 135, 136, 138, 784, 785, 786, 787, 788, 789, 790, 791, 792, 793, 794, 795, 796, 797, 798, 799, 800, 801, 802, 803, 804, 805, 806, 807, 808, 809, 810, 811, 812, 813, 814, 815, 816, 817, 818, 819, 820, 821, 822, 823, 824, 825, 826] (by decide +kernel) (by decide +kernel)
set_option maxRecDepth 20000 in
theorem gL_law_X9_edition : GoodIn wsL_law (wsV RL 39 RX9 yX9_edition wsX9_edition) := goodIn_app (goodIn_of _ (by decide +kernel)) ggL_law_X9_edition
set_option maxRecDepth 20000 in
theorem ggL_law_X8_cap : GoodIn wsL_law wsX8_cap := goodIn_r _ [468, 469, 40, 470, 471, 2, 472, 106, 107, 108, 39, 109, 58, 776, 777, 778, 779, 780, 781, 782, 783, 861] (by decide +kernel) (by decide +kernel)
set_option maxRecDepth 20000 in
theorem gL_law_X8_cap : GoodIn wsL_law (wsV RL 40 RX8 yX8_cap wsX8_cap) := goodIn_app (goodIn_of _ (by decide +kernel)) ggL_law_X8_cap
set_option maxRecDepth 20000 in
theorem ggL_law_X9_cap : GoodIn wsL_law wsX9_cap := goodIn_r _ [476, 477, 145, 478, 479, 5, 480, 784, 785, 786, 787, 788, 789, 790, 791, 792, 793, 794, 795, 796, 797, 798, 799, 800, 801, 802, 803, 804, 805, 806, 807, 808, 809, 810, 811, 812, 813, 814, 815, 816, 817, 818, 819, 820, 821, 822, 823, 824, 825, 826] (by decide +kernel) (by decide +kernel)
set_option maxRecDepth 20000 in
theorem gL_law_X9_cap : GoodIn wsL_law (wsV RL 44 RX9 yX9_cap wsX9_cap) := goodIn_app (goodIn_of _ (by decide +kernel)) ggL_law_X9_cap
set_option maxRecDepth 20000 in
theorem ggL_law_X8_relief : GoodIn wsL_law wsX8_relief := goodIn_r _ [484, 16, 36, 186, 187, 188, 15, 189, 170, 190, 191, 2, 192, 193, 194, 195, 196, 485, 486, 487, 35, 488, 489, 100, 101, 102, 103, 490, 107, 108, 39, 109, 58, 776, 777, 778, 779, 780, 781, 782, 783, 827, 828, 829, 830, 856, 857, 858, 859, 860, 861] (by decide +kernel) (by decide +kernel)
set_option maxRecDepth 20000 in
theorem gL_law_X8_relief : GoodIn wsL_law (wsV RL 45 RX8 yX8_relief wsX8_relief) := goodIn_app (goodIn_of _ (by decide +kernel)) ggL_law_X8_relief
set_option maxRecDepth 20000 in
theorem ggL_law_X9_relief : GoodIn wsL_law wsX9_relief := goodIn_r _ [494, 495, 146, 147, 148, 149, 209, 210, 211, 5, 212, 180, 213, 214, 215, 216, 217, 218, 219, 784, 785, 786, 787, 788, 789, 790, 791, 792, 793, 794, 795, 796, 797, 798, 799, 800, 801, 802, 803, 804, 805, 806, 807, 808, 809, 810, 811, 812, 813, 814, 815, 816, 817, 818, 819, 820, 821, 822, 823, 824, 825, 826] (by decide +kernel) (by decide +kernel)
set_option maxRecDepth 20000 in
theorem gL_law_X9_relief : GoodIn wsL_law (wsV RL 49 RX9 yX9_relief wsX9_relief) := goodIn_app (goodIn_of _ (by decide +kernel)) ggL_law_X9_relief
set_option maxRecDepth 20000 in
theorem ggL_law_X8_weight : GoodIn wsL_law wsX8_weight := goodIn_r _ [499, 16, 500, 501, 502, 15, 503, 50, 504, 187, 188, 189, 170, 505, 270, 271, 39, 272, 58, 506, 173, 174, 175, 51, 171, 107, 108, 109, 776, 777, 778, 779, 780, 781, 782, 783, 827, 828, 829, 830, 861] (by decide +kernel) (by decide +kernel)
set_option maxRecDepth 20000 in
theorem gL_law_X8_weight : GoodIn wsL_law (wsV RL 50 RX8 yX8_weight wsX8_weight) := goodIn_app (goodIn_of _ (by decide +kernel)) ggL_law_X8_weight
set_option maxRecDepth 20000 in
theorem ggL_law_X9_weight : GoodIn wsL_law wsX9_weight := goodIn_r _ [510, 126, 511, 512, 513, 5, 514, 125, 209, 210, 211, 212, 180, 784, 785, 786, 787, 788, 789, 790, 791, 792, 793, 794, 795, 796, 797, 798, 799, 800, 801, 802, 803, 804, 805, 806, 807, 808, 809, 810, 811, 812, 813, 814, 815, 816, 817, 818, 819, 820, 821, 822, 823, 824, 825, 826] (by decide +kernel) (by decide +kernel)
set_option maxRecDepth 20000 in
theorem gL_law_X9_weight : GoodIn wsL_law (wsV RL 54 RX9 yX9_weight wsX9_weight) := goodIn_app (goodIn_of _ (by decide +kernel)) ggL_law_X9_weight
set_option maxRecDepth 20000 in
theorem ggL_law_X8_bill : GoodIn wsL_law wsX8_bill := goodIn_r _ [518, 519, 520, 521, 2, 522, 523, 20, 41, 40, 524, 525, 526, 527, 16, 186, 187, 188, 15, 189, 170, 470, 471, 472, 193, 194, 195, 196, 528, 529, 530, 19, 531, 201, 532, 533, 534, 535, 63, 65, 536, 67, 537, 270, 271, 39, 272, 58, 538, 539, 540, 541, 28, 542, 543, 544, 545, 36, 546, 547, 548, 549, 550, 551, 552, 553, 64, 554, 555, 556, 557, 558, 559, 560, 35, 561, 489, 100, 101, 102, 103, 562, 563, 564, 565, 27, 566, 243, 80, 79, 357, 567, 568, 569, 570, 571, 572, 573, 574, 66, 575, 576, 577, 578, 253, 82, 84, 579, 580, 581, 582, 583, 446, 447, 448, 254, 255, 256, 584, 585, 586, 587, 83, 85, 86, 87, 88, 588, 776, 777, 778, 779, 780, 781, 782, 783, 827, 828, 829, 830, 831, 832, 833, 834, 835, 836, 861, 856, 857, 858, 859, 860, 842, 843, 844, 845, 846, 847, 848, 849, 850, 851, 852, 853] (by decide +kernel) (by decide +kernel)
set_option maxRecDepth 20000 in
theorem gL_law_X8_bill : GoodIn wsL_law (wsV RL 55 RX8 yX8_bill wsX8_bill) := goodIn_app (goodIn_of _ (by decide +kernel)) ggL_law_X8_bill
set_option maxRecDepth 20000 in
theorem ggL_law_X9_bill : GoodIn wsL_law wsX9_bill := goodIn_r _ [592, 593, 594, 154, 152, 145, 595, 596, 597, 5, 598, 209, 210, 211, 212, 180, 478, 479, 480, 216, 217, 218, 219, 599, 600, 601, 602, 207, 127, 129, 131, 128, 138, 139, 151, 153, 161, 130, 603, 604, 605, 606, 495, 146, 147, 148, 149, 607, 608, 609, 610, 403, 136, 135, 611, 612, 613, 614, 140, 142, 143, 144, 141, 784, 785, 786, 787, 788, 789, 790, 791, 792, 793, 794, 795, 796, 797, 798, 799, 800, 801, 802, 803, 804, 805, 806, 807, 808, 809, 810, 811, 812, 813, 814, 815, 816, 817, 818, 819, 820, 821, 822, 823, 824, 825, 826] (by decide +kernel) (by decide +kernel)
set_option maxRecDepth 20000 in
theorem gL_law_X9_bill : GoodIn wsL_law (wsV RL 59 RX9 yX9_bill wsX9_bill) := goodIn_app (goodIn_of _ (by decide +kernel)) ggL_law_X9_bill
set_option maxRecDepth 20000 in
theorem ggL_law_X8_walk : GoodIn wsL_law wsX8_walk := goodIn_r _ [618, 45, 20, 524, 525, 526, 2, 527, 16, 186, 187, 188, 15, 189, 170, 470, 471, 472, 193, 194, 195, 196, 619, 620, 621, 44, 622, 623, 624, 528, 529, 530, 19, 531, 201, 532, 533, 534, 535, 63, 65, 536, 67, 537, 270, 271, 39, 272, 58, 625, 626, 627, 628, 538, 539, 540, 541, 28, 542, 543, 544, 545, 36, 546, 547, 548, 549, 550, 551, 552, 553, 64, 554, 555, 556, 557, 558, 559, 560, 35, 561, 489, 100, 101, 102, 103, 562, 563, 564, 565, 27, 566, 243, 80, 79, 357, 567, 568, 569, 570, 571, 572, 573, 574, 66, 575, 576, 577, 578, 253, 82, 84, 579, 580, 581, 582, 583, 446, 447, 448, 254, 255, 256, 584, 585, 586, 587, 83, 85, 86, 87, 88, 629, 630, 631, 632, 41, 633, 634, 635, 636, 637, 114, 115, 116, 117, 638, 107, 108, 109, 639, 640, 641, 642, 643, 644, 645, 646, 647, 648, 649, 650, 651, 652, 118, 653, 654, 655, 656, 776, 777, 778, 779, 780, 781, 782, 783, 827, 828, 829, 830, 862, 863, 864, 865, 866, 867, 868, 831, 832, 833, 834, 835, 836, 861, 856, 857, 858, 859, 860, 842, 843, 844, 845, 846, 847, 848, 849, 850, 851, 852, 853] (by decide +kernel) (by decide +kernel)
set_option maxRecDepth 20000 in
theorem gL_law_X8_walk : GoodIn wsL_law (wsV RL 60 RX8 yX8_walk wsX8_walk) := goodIn_app (goodIn_of _ (by decide +kernel)) ggL_law_X8_walk
set_option maxRecDepth 20000 in
theorem ggL_law_X9_walk : GoodIn wsL_law wsX9_walk := goodIn_r _ [660, 594, 661, 662, 151, 155, 156, 152, 157, 153, 158, 154, 128, 130, 595, 596, 597, 5, 598, 209, 210, 211, 212, 180, 478, 479, 480, 216, 217, 218, 219, 599, 600, 601, 602, 207, 127, 129, 131, 138, 139, 161, 603, 604, 605, 606, 495, 146, 147, 148, 149, 607, 608, 609, 610, 403, 136, 135, 611, 612, 613, 614, 140, 142, 143, 144, 141, 663, 664, 665, 666, 667, 668, 669, 670, 671, 160, 784, 785, 786, 787, 788, 789, 790, 791, 792, 793, 794, 795, 796, 797, 798, 799, 800, 801, 802, 803, 804, 805, 806, 807, 808, 809, 810, 811, 812, 813, 814, 815, 816, 817, 818, 819, 820, 821, 822, 823, 824, 825, 826] (by decide +kernel) (by decide +kernel)
set_option maxRecDepth 20000 in
theorem gL_law_X9_walk : GoodIn wsL_law (wsV RL 64 RX9 yX9_walk wsX9_walk) := goodIn_app (goodIn_of _ (by decide +kernel)) ggL_law_X9_walk
set_option maxRecDepth 20000 in
theorem ggL_law_X8_line : GoodIn wsL_law wsX8_line := goodIn_r _ [675, 45, 41, 676, 677, 678, 44, 679, 623, 680, 681, 682, 683, 114, 684, 270, 271, 39, 272, 58, 685, 686, 687, 688, 115, 689, 690, 691, 692, 116, 693, 694, 695, 696, 117, 776, 777, 778, 779, 780, 781, 782, 783, 862, 863, 864, 865, 866, 867, 868, 861] (by decide +kernel) (by decide +kernel)
set_option maxRecDepth 20000 in
theorem gL_law_X8_line : GoodIn wsL_law (wsV RL 65 RX8 yX8_line wsX8_line) := goodIn_app (goodIn_of _ (by decide +kernel)) ggL_law_X8_line
set_option maxRecDepth 20000 in
theorem ggL_law_X9_line : GoodIn wsL_law wsX9_line := goodIn_r _ [700, 661, 161, 155, 156, 157, 158, 784, 785, 786, 787, 788, 789, 790, 791, 792, 793, 794, 795, 796, 797, 798, 799, 800, 801, 802, 803, 804, 805, 806, 807, 808, 809, 810, 811, 812, 813, 814, 815, 816, 817, 818, 819, 820, 821, 822, 823, 824, 825, 826] (by decide +kernel) (by decide +kernel)
set_option maxRecDepth 20000 in
theorem gL_law_X9_line : GoodIn wsL_law (wsV RL 69 RX9 yX9_line wsX9_line) := goodIn_app (goodIn_of _ (by decide +kernel)) ggL_law_X9_line
set_option maxRecDepth 20000 in
theorem ggL_law_X8_open : GoodIn wsL_law wsX8_open := goodIn_r _ [704, 45, 705, 706, 707, 44, 708, 623, 117, 114, 684, 270, 271, 39, 272, 58, 776, 777, 778, 779, 780, 781, 782, 783, 862, 863, 864, 865, 866, 867, 868, 861] (by decide +kernel) (by decide +kernel)
set_option maxRecDepth 20000 in
theorem gL_law_X8_open : GoodIn wsL_law (wsV RL 70 RX8 yX8_open wsX8_open) := goodIn_app (goodIn_of _ (by decide +kernel)) ggL_law_X8_open
set_option maxRecDepth 20000 in
theorem ggL_law_X9_open : GoodIn wsL_law wsX9_open := goodIn_r _ [712, 661, 158, 155, 784, 785, 786, 787, 788, 789, 790, 791, 792, 793, 794, 795, 796, 797, 798, 799, 800, 801, 802, 803, 804, 805, 806, 807, 808, 809, 810, 811, 812, 813, 814, 815, 816, 817, 818, 819, 820, 821, 822, 823, 824, 825, 826] (by decide +kernel) (by decide +kernel)
set_option maxRecDepth 20000 in
theorem gL_law_X9_open : GoodIn wsL_law (wsV RL 73 RX9 yX9_open wsX9_open) := goodIn_app (goodIn_of _ (by decide +kernel)) ggL_law_X9_open
set_option maxRecDepth 20000 in
theorem ggL_law_X8_write : GoodIn wsL_law wsX8_write := goodIn_r _ [716, 45, 717, 718, 719, 44, 720, 624, 118, 684, 270, 271, 39, 272, 58, 776, 777, 778, 779, 780, 781, 782, 783, 862, 863, 864, 865, 866, 867, 868, 861] (by decide +kernel) (by decide +kernel)
set_option maxRecDepth 20000 in
theorem gL_law_X8_write : GoodIn wsL_law (wsV RL 74 RX8 yX8_write wsX8_write) := goodIn_app (goodIn_of _ (by decide +kernel)) ggL_law_X8_write
set_option maxRecDepth 20000 in
theorem ggL_law_X9_write : GoodIn wsL_law wsX9_write := goodIn_r _ [724, 662, 160, 784, 785, 786, 787, 788, 789, 790, 791, 792, 793, 794, 795, 796, 797, 798, 799, 800, 801, 802, 803, 804, 805, 806, 807, 808, 809, 810, 811, 812, 813, 814, 815, 816, 817, 818, 819, 820, 821, 822, 823, 824, 825, 826] (by decide +kernel) (by decide +kernel)
set_option maxRecDepth 20000 in
theorem gL_law_X9_write : GoodIn wsL_law (wsV RL 77 RX9 yX9_write wsX9_write) := goodIn_app (goodIn_of _ (by decide +kernel)) ggL_law_X9_write
set_option maxRecDepth 20000 in
theorem ggL_law_X8_flat : GoodIn wsL_law wsX8_flat := goodIn_r _ [728, 16, 523, 500, 501, 502, 15, 503, 50, 504, 187, 188, 189, 170, 505, 270, 271, 39, 272, 58, 519, 520, 521, 2, 522, 20, 41, 40, 524, 525, 526, 527, 186, 470, 471, 472, 193, 194, 195, 196, 528, 529, 530, 19, 531, 201, 532, 533, 534, 535, 63, 65, 536, 67, 537, 538, 539, 540, 541, 28, 542, 543, 544, 545, 36, 546, 547, 548, 549, 550, 551, 552, 553, 64, 554, 555, 556, 557, 558, 559, 560, 35, 561, 489, 100, 101, 102, 103, 562, 563, 564, 565, 27, 566, 243, 80, 79, 357, 567, 568, 569, 570, 571, 572, 573, 574, 66, 575, 576, 577, 578, 253, 82, 84, 579, 580, 581, 582, 583, 446, 447, 448, 254, 255, 256, 584, 585, 586, 587, 83, 85, 86, 87, 88, 588, 729, 730, 731, 732, 733, 734, 735, 736, 737, 738, 51, 776, 777, 778, 779, 780, 781, 782, 783, 827, 828, 829, 830, 861, 831, 832, 833, 834, 835, 836, 856, 857, 858, 859, 860, 842, 843, 844, 845, 846, 847, 848, 849, 850, 851, 852, 853] (by decide +kernel) (by decide +kernel)
set_option maxRecDepth 20000 in
theorem gL_law_X8_flat : GoodIn wsL_law (wsV RL 78 RX8 yX8_flat wsX8_flat) := goodIn_app (goodIn_of _ (by decide +kernel)) ggL_law_X8_flat
set_option maxRecDepth 20000 in
theorem ggL_law_X9_flat : GoodIn wsL_law wsX9_flat := goodIn_r _ [742, 593, 125, 126, 511, 512, 513, 5, 514, 209, 210, 211, 212, 180, 743, 590, 591, 592, 594, 154, 152, 145, 595, 596, 597, 598, 478, 479, 480, 216, 217, 218, 219, 599, 600, 601, 602, 207, 127, 129, 131, 128, 138, 139, 151, 153, 161, 130, 603, 604, 605, 606, 495, 146, 147, 148, 149, 607, 608, 609, 610, 403, 136, 135, 611, 612, 613, 614, 140, 142, 143, 144, 141, 784, 785, 786, 787, 788, 789, 790, 791, 792, 793, 794, 795, 796, 797, 798, 799, 800, 801, 802, 803, 804, 805, 806, 807, 808, 809, 810, 811, 812, 813, 814, 815, 816, 817, 818, 819, 820, 821, 822, 823, 824, 825, 826] (by decide +kernel) (by decide +kernel)
set_option maxRecDepth 20000 in
theorem gL_law_X9_flat : GoodIn wsL_law (wsV RL 82 RX9 yX9_flat wsX9_flat) := goodIn_app (goodIn_of _ (by decide +kernel)) ggL_law_X9_flat
set_option maxRecDepth 20000 in
theorem ggL_law_X8_issue : GoodIn wsL_law wsX8_issue := goodIn_r _ [747, 523, 16, 519, 520, 521, 2, 522, 20, 41, 40, 524, 525, 526, 527, 186, 187, 188, 15, 189, 170, 470, 471, 472, 193, 194, 195, 196, 528, 529, 530, 19, 531, 201, 532, 533, 534, 535, 63, 65, 536, 67, 537, 270, 271, 39, 272, 58, 538, 539, 540, 541, 28, 542, 543, 544, 545, 36, 546, 547, 548, 549, 550, 551, 552, 553, 64, 554, 555, 556, 557, 558, 559, 560, 35, 561, 489, 100, 101, 102, 103, 562, 563, 564, 565, 27, 566, 243, 80, 79, 357, 567, 568, 569, 570, 571, 572, 573, 574, 66, 575, 576, 577, 578, 253, 82, 84, 579, 580, 581, 582, 583, 446, 447, 448, 254, 255, 256, 584, 585, 586, 587, 83, 85, 86, 87, 88, 588, 748, 749, 750, 751, 52, 505, 752, 753, 754, 755, 171, 107, 108, 109, 776, 777, 778, 779, 780, 781, 782, 783, 827, 828, 829, 830, 831, 832, 833, 834, 835, 836, 861, 856, 857, 858, 859, 860, 842, 843, 844, 845, 846, 847, 848, 849, 850, 851, 852, 853] (by decide +kernel) (by decide +kernel)
set_option maxRecDepth 20000 in
theorem gL_law_X8_issue : GoodIn wsL_law (wsV RL 83 RX8 yX8_issue wsX8_issue) := goodIn_app (goodIn_of _ (by decide +kernel)) ggL_law_X8_issue
set_option maxRecDepth 20000 in
theorem ggL_law_X9_issue : GoodIn wsL_law wsX9_issue := goodIn_r _ [759, 150, 743, 590, 591, 5, 592, 593, 594, 154, 152, 145, 595, 596, 597, 598, 209, 210, 211, 212, 180, 478, 479, 480, 216, 217, 218, 219, 599, 600, 601, 602, 207, 127, 129, 131, 128, 138, 139, 151, 153, 161, 130, 603, 604, 605, 606, 495, 146, 147, 148, 149, 607, 608, 609, 610, 403, 136, 135, 611, 612, 613, 614, 140, 142, 143, 144, 141, 784, 785, 786, 787, 788, 789, 790, 791, 792, 793, 794, 795, 796, 797, 798, 799, 800, 801, 802, 803, 804, 805, 806, 807, 808, 809, 810, 811, 812, 813, 814, 815, 816, 817, 818, 819, 820, 821, 822, 823, 824, 825, 826] (by decide +kernel) (by decide +kernel)
set_option maxRecDepth 20000 in
theorem gL_law_X9_issue : GoodIn wsL_law (wsV RL 86 RX9 yX9_issue wsX9_issue) := goodIn_app (goodIn_of _ (by decide +kernel)) ggL_law_X9_issue
set_option maxRecDepth 20000 in
theorem ggL_law_X8_issued : GoodIn wsL_law wsX8_issued := goodIn_r _ [763, 16, 523, 186, 187, 188, 15, 189, 170, 470, 471, 2, 472, 748, 749, 750, 751, 52, 505, 270, 271, 39, 272, 58, 776, 777, 778, 779, 780, 781, 782, 783, 827, 828, 829, 830, 861] (by decide +kernel) (by decide +kernel)
set_option maxRecDepth 20000 in
theorem gL_law_X8_issued : GoodIn wsL_law (wsV RL 87 RX8 yX8_issued wsX8_issued) := goodIn_app (goodIn_of _ (by decide +kernel)) ggL_law_X8_issued
set_option maxRecDepth 20000 in
theorem ggL_law_X9_issued : GoodIn wsL_law wsX9_issued := goodIn_r _ [767, 150, 593, 209, 210, 211, 5, 212, 180, 478, 479, 480, 784, 785, 786, 787, 788, 789, 790, 791, 792, 793, 794, 795, 796, 797, 798, 799, 800, 801, 802, 803, 804, 805, 806, 807, 808, 809, 810, 811, 812, 813, 814, 815, 816, 817, 818, 819, 820, 821, 822, 823, 824, 825, 826] (by decide +kernel) (by decide +kernel)
set_option maxRecDepth 20000 in
theorem gL_law_X9_issued : GoodIn wsL_law (wsV RL 90 RX9 yX9_issued wsX9_issued) := goodIn_app (goodIn_of _ (by decide +kernel)) ggL_law_X9_issued
set_option maxRecDepth 20000 in
theorem ggL_law_X8_reverse : GoodIn wsL_law wsX8_reverse := goodIn_r _ [771, 16, 523, 186, 187, 188, 15, 189, 170, 470, 471, 2, 472, 748, 749, 750, 751, 52, 505, 270, 271, 39, 272, 58, 752, 753, 754, 755, 171, 107, 108, 109, 776, 777, 778, 779, 780, 781, 782, 783, 827, 828, 829, 830, 861] (by decide +kernel) (by decide +kernel)
set_option maxRecDepth 20000 in
theorem gL_law_X8_reverse : GoodIn wsL_law (wsV RL 91 RX8 yX8_reverse wsX8_reverse) := goodIn_app (goodIn_of _ (by decide +kernel)) ggL_law_X8_reverse
set_option maxRecDepth 20000 in
theorem ggL_law_X9_reverse : GoodIn wsL_law wsX9_reverse := goodIn_r _ [775, 593, 150, 209, 210, 211, 5, 212, 180, 478, 479, 480, 784, 785, 786, 787, 788, 789, 790, 791, 792, 793, 794, 795, 796, 797, 798, 799, 800, 801, 802, 803, 804, 805, 806, 807, 808, 809, 810, 811, 812, 813, 814, 815, 816, 817, 818, 819, 820, 821, 822, 823, 824, 825, 826] (by decide +kernel) (by decide +kernel)
set_option maxRecDepth 20000 in
theorem gL_law_X9_reverse : GoodIn wsL_law (wsV RL 94 RX9 yX9_reverse wsX9_reverse) := goodIn_app (goodIn_of _ (by decide +kernel)) ggL_law_X9_reverse
