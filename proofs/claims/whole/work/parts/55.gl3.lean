set_option maxRecDepth 20000 in
theorem ggL_law_X5_ratio : GoodIn wsL_law wsX5_ratio := goodIn_r _ [390, 347, 348, 19, 268, 349, 168, 169, 170, 2, 171, 15, 102, 350, 351, 352, 361, 143, 144, 18, 145, 48, 365, 147, 148, 149, 49, 374, 375, 376, 369, 370, 371, 372, 373, 780, 781, 782, 783, 784, 785, 814, 815, 816, 817, 818, 805, 806, 807, 808, 809, 810, 811, 812, 813] (by decide +kernel) (by decide +kernel)
set_option maxRecDepth 20000 in
theorem gL_law_X5_ratio : GoodIn wsL_law (wsV RL 62 RX5 yX5_ratio wsX5_ratio) := goodIn_app (goodIn_of _ (by decide +kernel)) ggL_law_X5_ratio
set_option maxRecDepth 20000 in
theorem ggL_law_X6_ratio : GoodIn wsL_law wsX6_ratio := goodIn_r _ [394, 381, 382, 88, 383, 89, 176, 177, 178, 5, 179, 159, 160, 161, 162, 295, 296, 297, 298, 211, 299, 300, 301, 302, 85, 86, 261, 262, 263, 303, 304, 305, 306, 90, 91, 92, 294, 307, 308, 309, 310, 311, 312, 313, 384, 385, 386, 786, 787, 788, 789, 790, 791, 792, 793, 794, 795, 796, 797, 798, 799, 800, 801, 802, 803, 804] (by decide +kernel) (by decide +kernel)
set_option maxRecDepth 20000 in
theorem gL_law_X6_ratio : GoodIn wsL_law (wsV RL 66 RX6 yX6_ratio wsX6_ratio) := goodIn_app (goodIn_of _ (by decide +kernel)) ggL_law_X6_ratio
set_option maxRecDepth 20000 in
theorem ggL_law_X5_off : GoodIn wsL_law wsX5_off := goodIn_r _ [398, 347, 348, 19, 338, 349, 15, 334, 336, 220, 221, 222, 2, 223, 195, 350, 351, 352, 361, 143, 144, 18, 145, 48, 399, 135, 136, 14, 137, 42, 40, 365, 147, 148, 149, 49, 400, 139, 140, 141, 374, 375, 376, 369, 370, 371, 372, 373, 780, 781, 782, 783, 784, 785, 814, 815, 816, 817, 818, 805, 806, 807, 808, 809, 810, 811, 812, 813] (by decide +kernel) (by decide +kernel)
set_option maxRecDepth 20000 in
theorem gL_law_X5_off : GoodIn wsL_law (wsV RL 67 RX5 yX5_off wsX5_off) := goodIn_app (goodIn_of _ (by decide +kernel)) ggL_law_X5_off
set_option maxRecDepth 20000 in
theorem ggL_law_X6_off : GoodIn wsL_law wsX6_off := goodIn_r _ [404, 381, 382, 85, 86, 383, 88, 89, 228, 229, 230, 5, 231, 211, 160, 161, 162, 295, 296, 297, 298, 299, 300, 301, 302, 261, 262, 263, 303, 304, 305, 306, 90, 91, 92, 294, 307, 308, 309, 310, 311, 312, 313, 384, 385, 386, 786, 787, 788, 789, 790, 791, 792, 793, 794, 795, 796, 797, 798, 799, 800, 801, 802, 803, 804] (by decide +kernel) (by decide +kernel)
set_option maxRecDepth 20000 in
theorem gL_law_X6_off : GoodIn wsL_law (wsV RL 70 RX6 yX6_off wsX6_off) := goodIn_app (goodIn_of _ (by decide +kernel)) ggL_law_X6_off
set_option maxRecDepth 20000 in
theorem ggL_law_X5_ring : GoodIn wsL_law wsX5_ring := goodIn_r _ [408, 19, 338, 15, 334, 336, 220, 221, 222, 2, 223, 195, 409, 410, 411, 18, 412, 50, 780, 781, 782, 783, 784, 785, 814, 815, 816, 817, 818, 805, 806, 807, 808, 809, 810, 811, 812, 813] (by decide +kernel) (by decide +kernel)
set_option maxRecDepth 20000 in
theorem gL_law_X5_ring : GoodIn wsL_law (wsV RL 71 RX5 yX5_ring wsX5_ring) := goodIn_app (goodIn_of _ (by decide +kernel)) ggL_law_X5_ring
set_option maxRecDepth 20000 in
theorem ggL_law_X6_ring : GoodIn wsL_law wsX6_ring := goodIn_r _ [416, 85, 86, 90, 228, 229, 230, 5, 231, 211, 160, 161, 162, 295, 296, 297, 298, 299, 300, 301, 302, 88, 89, 261, 262, 263, 303, 304, 305, 306, 91, 92, 294, 307, 308, 309, 310, 311, 312, 313, 786, 787, 788, 789, 790, 791, 792, 793, 794, 795, 796, 797, 798, 799, 800, 801, 802, 803, 804] (by decide +kernel) (by decide +kernel)
set_option maxRecDepth 20000 in
theorem gL_law_X6_ring : GoodIn wsL_law (wsV RL 74 RX6 yX6_ring wsX6_ring) := goodIn_app (goodIn_of _ (by decide +kernel)) ggL_law_X6_ring
set_option maxRecDepth 20000 in
theorem ggL_law_X5_mark : GoodIn wsL_law wsX5_mark := goodIn_r _ [420, 23, 421, 27, 184, 185, 2, 186, 282, 283, 284, 22, 285, 286, 287, 288, 289, 57, 56, 422, 423, 424, 425, 426, 427, 428, 429, 150, 151, 152, 26, 153, 154, 780, 781, 782, 783, 784, 785, 819, 820, 821, 822, 823, 824, 825, 826, 827, 828, 829] (by decide +kernel) (by decide +kernel)
set_option maxRecDepth 20000 in
theorem gL_law_X5_mark : GoodIn wsL_law (wsV RL 75 RX5 yX5_mark wsX5_mark) := goodIn_app (goodIn_of _ (by decide +kernel)) ggL_law_X5_mark
set_option maxRecDepth 20000 in
theorem ggL_law_X6_mark : GoodIn wsL_law wsX6_mark := goodIn_r _ [433, 93, 160, 161, 5, 162, 326, 327, 328, 329, 94, 434, 435, 436, 437, 438, 439, 440, 441, 786, 787, 788, 789, 790, 791, 792, 793, 794, 795, 796, 797, 798, 799, 800, 801, 802, 803, 804] (by decide +kernel) (by decide +kernel)
set_option maxRecDepth 20000 in
theorem gL_law_X6_mark : GoodIn wsL_law (wsV RL 79 RX6 yX6_mark wsX6_mark) := goodIn_app (goodIn_of _ (by decide +kernel)) ggL_law_X6_mark
set_option maxRecDepth 20000 in
theorem ggL_law_X5_markAt : GoodIn wsL_law wsX5_markAt := goodIn_r _ [445, 23, 421, 446, 780, 781, 782, 783, 784, 785, 819, 820] (by decide +kernel) (by decide +kernel)
set_option maxRecDepth 20000 in
theorem gL_law_X5_markAt : GoodIn wsL_law (wsV RL 80 RX5 yX5_markAt wsX5_markAt) := goodIn_app (goodIn_of _ (by decide +kernel)) ggL_law_X5_markAt
set_option maxRecDepth 20000 in
theorem ggL_law_X6_markAt : GoodIn wsL_law wsX6_markAt := goodIn_r _ [450, 93, 94, 160, 161, 5, 162, 786, 787, 788, 789, 790, 791, 792, 793, 794, 795, 796, 797, 798, 799, 800, 801, 802, 803, 804] (by decide +kernel) (by decide +kernel)
set_option maxRecDepth 20000 in
theorem gL_law_X6_markAt : GoodIn wsL_law (wsV RL 83 RX6 yX6_markAt wsX6_markAt) := goodIn_app (goodIn_of _ (by decide +kernel)) ggL_law_X6_markAt
set_option maxRecDepth 20000 in
theorem ggL_law_X5_nearest : GoodIn wsL_law wsX5_nearest := goodIn_r _ [454, 168, 169, 170, 2, 171, 15, 102, 455, 456, 457, 458, 19, 23, 353, 354, 355, 18, 356, 47, 357, 358, 359, 360, 32, 361, 143, 144, 145, 48, 362, 363, 364, 365, 147, 148, 149, 49, 366, 367, 368, 369, 370, 371, 372, 373, 374, 375, 376, 459, 460, 461, 22, 462, 57, 56, 463, 464, 132, 465, 780, 781, 782, 783, 784, 785, 805, 806, 807, 808, 809, 810, 811, 812, 813, 814, 815, 816, 817, 818, 819, 820] (by decide +kernel) (by decide +kernel)
set_option maxRecDepth 20000 in
theorem gL_law_X5_nearest : GoodIn wsL_law (wsV RL 84 RX5 yX5_nearest wsX5_nearest) := goodIn_app (goodIn_of _ (by decide +kernel)) ggL_law_X5_nearest
set_option maxRecDepth 20000 in
theorem ggL_law_X6_nearest : GoodIn wsL_law wsX6_nearest := goodIn_r _ [469, 94, 176, 177, 178, 5, 179, 159, 160, 161, 162, 295, 296, 297, 298, 211, 299, 300, 301, 302, 85, 86, 88, 89, 261, 262, 263, 303, 304, 305, 306, 90, 91, 92, 294, 307, 308, 309, 310, 311, 312, 313, 470, 471, 472, 473, 93, 84, 474, 475, 476, 786, 787, 788, 789, 790, 791, 792, 793, 794, 795, 796, 797, 798, 799, 800, 801, 802, 803, 804] (by decide +kernel) (by decide +kernel)
set_option maxRecDepth 20000 in
theorem gL_law_X6_nearest : GoodIn wsL_law (wsV RL 87 RX6 yX6_nearest wsX6_nearest) := goodIn_app (goodIn_of _ (by decide +kernel)) ggL_law_X6_nearest
