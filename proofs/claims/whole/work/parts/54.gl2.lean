set_option maxRecDepth 20000 in
theorem ggL_law_X5_untie : GoodIn wsL_law wsX5_untie := goodIn_r _ [235, 15, 195, 220, 221, 222, 2, 223, 236, 237, 238, 14, 239, 206, 39, 40, 41, 42, 43, 111, 112, 113, 114, 19, 27, 115, 116, 117, 18, 118, 47, 48, 49, 50, 119, 51, 120, 121, 122, 123, 124, 125, 126, 127, 128, 129, 130, 131, 132, 133, 134, 135, 136, 137, 138, 139, 140, 141, 142, 143, 144, 145, 146, 147, 148, 149, 150, 151, 152, 26, 153, 154, 780, 781, 782, 783, 784, 785, 805, 806, 807, 808, 809, 810, 811, 812, 813, 814, 815, 816, 817, 818, 821, 822, 823, 824, 825, 826, 827, 828, 829] (by decide +kernel) (by decide +kernel)
set_option maxRecDepth 20000 in
theorem gL_law_X5_untie : GoodIn wsL_law (wsV RL 36 RX5 yX5_untie wsX5_untie) := goodIn_app (goodIn_of _ (by decide +kernel)) ggL_law_X5_untie
set_option maxRecDepth 20000 in
theorem ggL_law_X6_untie : GoodIn wsL_law wsX6_untie := goodIn_r _ [243, 211, 85, 228, 229, 230, 5, 231, 160, 161, 162, 786, 787, 788, 789, 790, 791, 792, 793, 794, 795, 796, 797, 798, 799, 800, 801, 802, 803, 804] (by decide +kernel) (by decide +kernel)
set_option maxRecDepth 20000 in
theorem gL_law_X6_untie : GoodIn wsL_law (wsV RL 39 RX6 yX6_untie wsX6_untie) := goodIn_app (goodIn_of _ (by decide +kernel)) ggL_law_X6_untie
set_option maxRecDepth 20000 in
theorem ggL_law_X5_clear : GoodIn wsL_law wsX5_clear := goodIn_r _ [247, 15, 195, 102, 111, 112, 113, 2, 114, 19, 27, 115, 116, 117, 18, 118, 47, 48, 49, 50, 119, 51, 120, 121, 122, 123, 124, 125, 126, 127, 128, 129, 130, 131, 132, 133, 134, 135, 136, 14, 137, 42, 40, 138, 139, 140, 141, 142, 143, 144, 145, 146, 147, 148, 149, 150, 151, 152, 26, 153, 154, 780, 781, 782, 783, 784, 785, 805, 806, 807, 808, 809, 810, 811, 812, 813, 814, 815, 816, 817, 818, 821, 822, 823, 824, 825, 826, 827, 828, 829] (by decide +kernel) (by decide +kernel)
set_option maxRecDepth 20000 in
theorem gL_law_X5_clear : GoodIn wsL_law (wsV RL 40 RX5 yX5_clear wsX5_clear) := goodIn_app (goodIn_of _ (by decide +kernel)) ggL_law_X5_clear
set_option maxRecDepth 20000 in
theorem ggL_law_X6_clear : GoodIn wsL_law wsX6_clear := goodIn_r _ [251, 211, 159, 786, 787, 788, 789, 790, 791, 792, 793, 794, 795, 796, 797, 798, 799, 800, 801, 802, 803, 804] (by decide +kernel) (by decide +kernel)
set_option maxRecDepth 20000 in
theorem gL_law_X6_clear : GoodIn wsL_law (wsV RL 44 RX6 yX6_clear wsX6_clear) := goodIn_app (goodIn_of _ (by decide +kernel)) ggL_law_X6_clear
set_option maxRecDepth 20000 in
theorem ggL_law_X5_ticks : GoodIn wsL_law wsX5_ticks := goodIn_r _ [255, 256, 196, 197, 2, 198] (by decide +kernel) (by decide +kernel)
set_option maxRecDepth 20000 in
theorem gL_law_X5_ticks : GoodIn wsL_law (wsV RL 45 RX5 yX5_ticks wsX5_ticks) := goodIn_app (goodIn_of _ (by decide +kernel)) ggL_law_X5_ticks
set_option maxRecDepth 20000 in
theorem ggL_law_X6_ticks : GoodIn wsL_law wsX6_ticks := goodIn_r _ [260, 212, 213, 5, 214, 160, 161, 162, 261, 262, 263] (by decide +kernel) (by decide +kernel)
set_option maxRecDepth 20000 in
theorem gL_law_X6_ticks : GoodIn wsL_law (wsV RL 48 RX6 yX6_ticks wsX6_ticks) := goodIn_app (goodIn_of _ (by decide +kernel)) ggL_law_X6_ticks
set_option maxRecDepth 20000 in
theorem ggL_law_X5_ofSection : GoodIn wsL_law wsX5_ofSection := goodIn_r _ [267, 15, 167, 19, 102, 268, 269, 168, 169, 170, 2, 171, 270, 271, 272, 14, 273, 206, 39, 41, 274, 275, 276, 18, 277, 47, 278, 279, 280, 281, 23, 282, 283, 284, 22, 285, 286, 287, 288, 289, 57, 56, 780, 781, 782, 783, 784, 785, 805, 806, 807, 808, 809, 810, 811, 812, 813, 814, 815, 816, 817, 818, 819, 820] (by decide +kernel) (by decide +kernel)
set_option maxRecDepth 20000 in
theorem gL_law_X5_ofSection : GoodIn wsL_law (wsV RL 49 RX5 yX5_ofSection wsX5_ofSection) := goodIn_app (goodIn_of _ (by decide +kernel)) ggL_law_X5_ofSection
set_option maxRecDepth 20000 in
theorem ggL_law_X6_ofSection : GoodIn wsL_law wsX6_ofSection := goodIn_r _ [293, 82, 294, 83, 176, 177, 178, 5, 179, 159, 160, 161, 162, 295, 296, 297, 298, 211, 299, 300, 301, 302, 85, 86, 88, 89, 261, 262, 263, 303, 304, 305, 306, 90, 91, 92, 307, 308, 309, 310, 311, 312, 313, 314, 315, 316, 317, 318, 319, 320, 321, 322, 323, 324, 325, 326, 327, 328, 329, 93, 94, 786, 787, 788, 789, 790, 791, 792, 793, 794, 795, 796, 797, 798, 799, 800, 801, 802, 803, 804] (by decide +kernel) (by decide +kernel)
set_option maxRecDepth 20000 in
theorem gL_law_X6_ofSection : GoodIn wsL_law (wsV RL 52 RX6 yX6_ofSection wsX6_ofSection) := goodIn_app (goodIn_of _ (by decide +kernel)) ggL_law_X6_ofSection
set_option maxRecDepth 20000 in
theorem ggL_law_X5_ofTie : GoodIn wsL_law wsX5_ofTie := goodIn_r _ [333, 15, 334, 335, 336, 337, 219, 19, 338, 220, 221, 222, 2, 223, 195, 780, 781, 782, 783, 784, 785, 805, 806, 807, 808, 809, 810, 811, 812, 813, 814, 815, 816, 817, 818] (by decide +kernel) (by decide +kernel)
set_option maxRecDepth 20000 in
theorem gL_law_X5_ofTie : GoodIn wsL_law (wsV RL 53 RX5 yX5_ofTie wsX5_ofTie) := goodIn_app (goodIn_of _ (by decide +kernel)) ggL_law_X5_ofTie
set_option maxRecDepth 20000 in
theorem ggL_law_X6_ofTie : GoodIn wsL_law wsX6_ofTie := goodIn_r _ [342, 86, 85, 228, 229, 230, 5, 231, 211, 160, 161, 162, 299, 300, 301, 302, 88, 89, 261, 262, 263, 303, 304, 305, 306, 90, 91, 92, 294, 307, 308, 309, 310, 311, 312, 313, 786, 787, 788, 789, 790, 791, 792, 793, 794, 795, 796, 797, 798, 799, 800, 801, 802, 803, 804] (by decide +kernel) (by decide +kernel)
set_option maxRecDepth 20000 in
theorem gL_law_X6_ofTie : GoodIn wsL_law (wsV RL 56 RX6 yX6_ofTie wsX6_ofTie) := goodIn_app (goodIn_of _ (by decide +kernel)) ggL_law_X6_ofTie
set_option maxRecDepth 20000 in
theorem ggL_law_X5_tempo : GoodIn wsL_law wsX5_tempo := goodIn_r _ [346, 347, 348, 19, 349, 168, 169, 170, 2, 171, 15, 102, 350, 351, 352, 353, 354, 355, 18, 356, 47, 357, 358, 359, 360, 32, 361, 143, 144, 145, 48, 362, 363, 364, 365, 147, 148, 149, 49, 366, 367, 368, 369, 370, 371, 372, 373, 374, 375, 376, 780, 781, 782, 783, 784, 785, 805, 806, 807, 808, 809, 810, 811, 812, 813, 814, 815, 816, 817, 818] (by decide +kernel) (by decide +kernel)
set_option maxRecDepth 20000 in
theorem gL_law_X5_tempo : GoodIn wsL_law (wsV RL 57 RX5 yX5_tempo wsX5_tempo) := goodIn_app (goodIn_of _ (by decide +kernel)) ggL_law_X5_tempo
set_option maxRecDepth 20000 in
theorem ggL_law_X6_tempo : GoodIn wsL_law wsX6_tempo := goodIn_r _ [380, 381, 382, 88, 383, 84, 89, 176, 177, 178, 5, 179, 159, 160, 161, 162, 295, 296, 297, 298, 211, 299, 300, 301, 302, 85, 86, 261, 262, 263, 303, 304, 305, 306, 90, 91, 92, 294, 307, 308, 309, 310, 311, 312, 313, 384, 385, 386, 786, 787, 788, 789, 790, 791, 792, 793, 794, 795, 796, 797, 798, 799, 800, 801, 802, 803, 804] (by decide +kernel) (by decide +kernel)
set_option maxRecDepth 20000 in
theorem gL_law_X6_tempo : GoodIn wsL_law (wsV RL 61 RX6 yX6_tempo wsX6_tempo) := goodIn_app (goodIn_of _ (by decide +kernel)) ggL_law_X6_tempo
