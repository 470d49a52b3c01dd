set_option maxRecDepth 20000 in
theorem ggL_law_X5_away : GoodIn wsL_law wsX5_away := goodIn_r _ [480, 347, 348, 349, 481, 464, 132, 465, 168, 169, 170, 2, 171, 15, 102, 350, 351, 352, 455, 456, 457, 458, 19, 23, 353, 354, 355, 18, 356, 47, 357, 358, 359, 360, 32, 361, 143, 144, 145, 48, 362, 363, 364, 365, 147, 148, 149, 49, 366, 367, 368, 369, 370, 371, 372, 373, 374, 375, 376, 459, 460, 461, 22, 462, 57, 56, 463, 780, 781, 782, 783, 784, 785, 805, 806, 807, 808, 809, 810, 811, 812, 813, 814, 815, 816, 817, 818, 819, 820] (by decide +kernel) (by decide +kernel)
set_option maxRecDepth 20000 in
theorem gL_law_X5_away : GoodIn wsL_law (wsV RL 88 RX5 yX5_away wsX5_away) := goodIn_app (goodIn_of _ (by decide +kernel)) ggL_law_X5_away
set_option maxRecDepth 20000 in
theorem ggL_law_X6_away : GoodIn wsL_law wsX6_away := goodIn_r _ [485, 381, 382, 383, 94, 89, 84, 88, 176, 177, 178, 5, 179, 159, 160, 161, 162, 295, 296, 297, 298, 211, 299, 300, 301, 302, 85, 86, 261, 262, 263, 303, 304, 305, 306, 90, 91, 92, 294, 307, 308, 309, 310, 311, 312, 313, 470, 471, 472, 473, 93, 474, 475, 476, 384, 385, 386, 786, 787, 788, 789, 790, 791, 792, 793, 794, 795, 796, 797, 798, 799, 800, 801, 802, 803, 804] (by decide +kernel) (by decide +kernel)
set_option maxRecDepth 20000 in
theorem gL_law_X6_away : GoodIn wsL_law (wsV RL 91 RX6 yX6_away wsX6_away) := goodIn_app (goodIn_of _ (by decide +kernel)) ggL_law_X6_away
set_option maxRecDepth 20000 in
theorem ggL_law_X5_pin : GoodIn wsL_law wsX5_pin := goodIn_r _ [489, 15, 269, 27, 168, 169, 170, 2, 171, 102, 184, 185, 186, 150, 151, 152, 26, 153, 154, 780, 781, 782, 783, 784, 785, 805, 806, 807, 808, 809, 810, 811, 812, 813, 821, 822, 823, 824, 825, 826, 827, 828, 829] (by decide +kernel) (by decide +kernel)
set_option maxRecDepth 20000 in
theorem gL_law_X5_pin : GoodIn wsL_law (wsV RL 92 RX5 yX5_pin wsX5_pin) := goodIn_app (goodIn_of _ (by decide +kernel)) ggL_law_X5_pin
set_option maxRecDepth 20000 in
theorem ggL_law_X6_pin : GoodIn wsL_law wsX6_pin := goodIn_r _ [493, 83, 176, 177, 178, 5, 179, 159, 160, 161, 162, 786, 787, 788, 789, 790, 791, 792, 793, 794, 795, 796, 797, 798, 799, 800, 801, 802, 803, 804] (by decide +kernel) (by decide +kernel)
set_option maxRecDepth 20000 in
theorem gL_law_X6_pin : GoodIn wsL_law (wsV RL 95 RX6 yX6_pin wsX6_pin) := goodIn_app (goodIn_of _ (by decide +kernel)) ggL_law_X6_pin
set_option maxRecDepth 20000 in
theorem ggL_law_X5_harm : GoodIn wsL_law wsX5_harm := goodIn_r _ [497, 27, 15, 19, 23, 498, 499, 500, 501, 26, 502, 154, 503, 61, 504, 505, 506, 507, 508, 509, 510, 62, 63, 511, 287, 288, 22, 289, 57, 56, 512, 354, 355, 18, 356, 47, 513, 514, 515, 516, 66, 517, 518, 519, 67, 520, 521, 522, 14, 523, 39, 41, 524, 525, 526, 527, 65, 528, 529, 530, 531, 532, 533, 534, 535, 536, 131, 132, 133, 537, 538, 539, 540, 40, 42, 541, 542, 543, 544, 545, 546, 547, 780, 781, 782, 783, 784, 785, 821, 822, 823, 824, 825, 826, 827, 828, 829, 805, 806, 807, 808, 809, 810, 811, 812, 813, 819, 820, 814, 815, 816, 817, 818] (by decide +kernel) (by decide +kernel)
set_option maxRecDepth 20000 in
theorem gL_law_X5_harm : GoodIn wsL_law (wsV RL 96 RX5 yX5_harm wsX5_harm) := goodIn_app (goodIn_of _ (by decide +kernel)) ggL_law_X5_harm
set_option maxRecDepth 20000 in
theorem ggL_law_X6_harm : GoodIn wsL_law wsX6_harm := goodIn_r _ [551, 552, 553, 554, 5, 555, 159, 93, 95, 83, 88, 295, 296, 297, 298, 211, 299, 300, 301, 302, 85, 86, 89, 261, 262, 263, 303, 304, 305, 306, 90, 91, 92, 294, 307, 308, 309, 310, 311, 312, 313, 322, 323, 324, 325, 326, 327, 328, 329, 94, 556, 557, 558, 559, 96, 560, 561, 562, 563, 564, 565, 566, 567, 568, 786, 787, 788, 789, 790, 791, 792, 793, 794, 795, 796, 797, 798, 799, 800, 801, 802, 803, 804] (by decide +kernel) (by decide +kernel)
set_option maxRecDepth 20000 in
theorem gL_law_X6_harm : GoodIn wsL_law (wsV RL 99 RX6 yX6_harm wsX6_harm) := goodIn_app (goodIn_of _ (by decide +kernel)) ggL_law_X6_harm
set_option maxRecDepth 20000 in
theorem ggL_law_X5_play : GoodIn wsL_law wsX5_play := goodIn_r _ [572, 27, 15, 19, 23, 573, 168, 169, 170, 2, 171, 102, 499, 500, 501, 26, 502, 154, 503, 61, 504, 505, 506, 507, 508, 509, 510, 62, 63, 511, 287, 288, 22, 289, 57, 56, 512, 354, 355, 18, 356, 47, 513, 514, 515, 516, 66, 517, 518, 519, 67, 520, 521, 522, 14, 523, 39, 41, 524, 525, 526, 527, 65, 528, 529, 530, 531, 532, 533, 534, 535, 536, 131, 132, 133, 537, 538, 539, 540, 40, 42, 541, 542, 543, 544, 545, 546, 547, 780, 781, 782, 783, 784, 785, 821, 822, 823, 824, 825, 826, 827, 828, 829, 805, 806, 807, 808, 809, 810, 811, 812, 813, 819, 820, 814, 815, 816, 817, 818] (by decide +kernel) (by decide +kernel)
set_option maxRecDepth 20000 in
theorem gL_law_X5_play : GoodIn wsL_law (wsV RL 100 RX5 yX5_play wsX5_play) := goodIn_app (goodIn_of _ (by decide +kernel)) ggL_law_X5_play
set_option maxRecDepth 20000 in
theorem ggL_law_X6_play : GoodIn wsL_law wsX6_play := goodIn_r _ [577, 176, 177, 178, 5, 179, 159, 160, 161, 162, 552, 553, 554, 555, 93, 95, 83, 88, 295, 296, 297, 298, 211, 299, 300, 301, 302, 85, 86, 89, 261, 262, 263, 303, 304, 305, 306, 90, 91, 92, 294, 307, 308, 309, 310, 311, 312, 313, 322, 323, 324, 325, 326, 327, 328, 329, 94, 556, 557, 558, 559, 96, 560, 561, 562, 563, 564, 565, 566, 567, 568, 578, 579, 580, 581, 786, 787, 788, 789, 790, 791, 792, 793, 794, 795, 796, 797, 798, 799, 800, 801, 802, 803, 804] (by decide +kernel) (by decide +kernel)
set_option maxRecDepth 20000 in
theorem gL_law_X6_play : GoodIn wsL_law (wsV RL 103 RX6 yX6_play wsX6_play) := goodIn_app (goodIn_of _ (by decide +kernel)) ggL_law_X6_play
set_option maxRecDepth 20000 in
theorem ggL_law_X5_drift : GoodIn wsL_law wsX5_drift := goodIn_r _ [585, 27, 15, 19, 23, 573, 334, 336, 220, 221, 222, 2, 223, 195, 499, 500, 501, 26, 502, 154, 503, 61, 504, 505, 506, 507, 508, 509, 510, 62, 63, 511, 287, 288, 22, 289, 57, 56, 512, 354, 355, 18, 356, 47, 513, 514, 515, 516, 66, 517, 518, 519, 67, 520, 521, 522, 14, 523, 39, 41, 524, 525, 526, 527, 65, 528, 529, 530, 531, 532, 533, 534, 535, 536, 131, 132, 133, 537, 538, 539, 540, 40, 42, 541, 542, 543, 544, 545, 546, 547, 586, 780, 781, 782, 783, 784, 785, 821, 822, 823, 824, 825, 826, 827, 828, 829, 805, 806, 807, 808, 809, 810, 811, 812, 813, 819, 820, 814, 815, 816, 817, 818] (by decide +kernel) (by decide +kernel)
set_option maxRecDepth 20000 in
theorem gL_law_X5_drift : GoodIn wsL_law (wsV RL 104 RX5 yX5_drift wsX5_drift) := goodIn_app (goodIn_of _ (by decide +kernel)) ggL_law_X5_drift
set_option maxRecDepth 20000 in
theorem ggL_law_X6_drift : GoodIn wsL_law wsX6_drift := goodIn_r _ [590, 85, 228, 229, 230, 5, 231, 211, 160, 161, 162, 552, 553, 554, 555, 159, 93, 95, 83, 88, 295, 296, 297, 298, 299, 300, 301, 302, 86, 89, 261, 262, 263, 303, 304, 305, 306, 90, 91, 92, 294, 307, 308, 309, 310, 311, 312, 313, 322, 323, 324, 325, 326, 327, 328, 329, 94, 556, 557, 558, 559, 96, 560, 561, 562, 563, 564, 565, 566, 567, 568, 578, 579, 580, 581, 786, 787, 788, 789, 790, 791, 792, 793, 794, 795, 796, 797, 798, 799, 800, 801, 802, 803, 804] (by decide +kernel) (by decide +kernel)
set_option maxRecDepth 20000 in
theorem gL_law_X6_drift : GoodIn wsL_law (wsV RL 107 RX6 yX6_drift wsX6_drift) := goodIn_app (goodIn_of _ (by decide +kernel)) ggL_law_X6_drift
set_option maxRecDepth 20000 in
theorem ggL_law_X5_clock : GoodIn wsL_law wsX5_clock := goodIn_r _ [594, 347, 348, 19, 349, 32, 168, 169, 170, 2, 171, 15, 102, 353, 354, 355, 18, 356, 47, 595, 596, 597, 598, 167, 599, 361, 143, 144, 145, 48, 365, 147, 148, 149, 49, 374, 375, 376, 369, 370, 371, 372, 373, 600, 601, 602, 603, 780, 781, 782, 783, 784, 785, 805, 806, 807, 808, 809, 810, 811, 812, 813, 814, 815, 816, 817, 818] (by decide +kernel) (by decide +kernel)
set_option maxRecDepth 20000 in
theorem gL_law_X5_clock : GoodIn wsL_law (wsV RL 108 RX5 yX5_clock wsX5_clock) := goodIn_app (goodIn_of _ (by decide +kernel)) ggL_law_X5_clock
set_option maxRecDepth 20000 in
theorem ggL_law_X6_clock : GoodIn wsL_law wsX6_clock := goodIn_r _ [607, 381, 382, 88, 383, 84, 176, 177, 178, 5, 179, 159, 160, 161, 162, 295, 296, 297, 298, 211, 299, 300, 301, 302, 85, 86, 89, 261, 262, 263, 303, 304, 305, 306, 90, 91, 92, 294, 307, 308, 309, 310, 311, 312, 313, 608, 609, 610, 611, 612, 613, 614, 615, 82, 616, 786, 787, 788, 789, 790, 791, 792, 793, 794, 795, 796, 797, 798, 799, 800, 801, 802, 803, 804] (by decide +kernel) (by decide +kernel)
set_option maxRecDepth 20000 in
theorem gL_law_X6_clock : GoodIn wsL_law (wsV RL 111 RX6 yX6_clock wsX6_clock) := goodIn_app (goodIn_of _ (by decide +kernel)) ggL_law_X6_clock
