set_option maxRecDepth 20000 in
theorem ggL_law_X5_whole : GoodIn wsL_law wsX5_whole := goodIn_r _ [620, 15, 102, 32, 600, 601, 602, 2, 603, 595, 596, 597, 598, 19, 167, 599, 353, 354, 355, 18, 356, 47, 361, 143, 144, 145, 48, 365, 147, 148, 149, 49, 374, 375, 376, 369, 370, 371, 372, 373, 780, 781, 782, 783, 784, 785, 805, 806, 807, 808, 809, 810, 811, 812, 813, 814, 815, 816, 817, 818] (by decide +kernel) (by decide +kernel)
set_option maxRecDepth 20000 in
theorem gL_law_X5_whole : GoodIn wsL_law (wsV RL 112 RX5 yX5_whole wsX5_whole) := goodIn_app (goodIn_of _ (by decide +kernel)) ggL_law_X5_whole
set_option maxRecDepth 20000 in
theorem ggL_law_X6_whole : GoodIn wsL_law wsX6_whole := goodIn_r _ [624, 159, 295, 296, 297, 5, 298, 211, 299, 300, 301, 302, 85, 86, 88, 89, 261, 262, 263, 303, 304, 305, 306, 90, 91, 92, 294, 307, 308, 309, 310, 311, 312, 313, 608, 609, 610, 611, 84, 612, 613, 614, 615, 82, 616, 786, 787, 788, 789, 790, 791, 792, 793, 794, 795, 796, 797, 798, 799, 800, 801, 802, 803, 804] (by decide +kernel) (by decide +kernel)
set_option maxRecDepth 20000 in
theorem gL_law_X6_whole : GoodIn wsL_law (wsV RL 116 RX6 yX6_whole wsX6_whole) := goodIn_app (goodIn_of _ (by decide +kernel)) ggL_law_X6_whole
set_option maxRecDepth 20000 in
theorem ggL_law_X5_where : GoodIn wsL_law wsX5_where := goodIn_r _ [628, 15, 102, 32, 629, 630, 2, 631, 632, 595, 596, 597, 598, 19, 167, 599, 353, 354, 355, 18, 356, 47, 361, 143, 144, 145, 48, 365, 147, 148, 149, 49, 374, 375, 376, 369, 370, 371, 372, 373, 780, 781, 782, 783, 784, 785, 805, 806, 807, 808, 809, 810, 811, 812, 813, 814, 815, 816, 817, 818] (by decide +kernel) (by decide +kernel)
set_option maxRecDepth 20000 in
theorem gL_law_X5_where : GoodIn wsL_law (wsV RL 117 RX5 yX5_where wsX5_where) := goodIn_app (goodIn_of _ (by decide +kernel)) ggL_law_X5_where
set_option maxRecDepth 20000 in
theorem ggL_law_X6_where : GoodIn wsL_law wsX6_where := goodIn_r _ [636, 637, 159, 88, 84, 160, 161, 5, 162, 295, 296, 297, 298, 211, 299, 300, 301, 302, 85, 86, 89, 261, 262, 263, 303, 304, 305, 306, 90, 91, 92, 294, 307, 308, 309, 310, 311, 312, 313, 612, 613, 614, 615, 82, 616, 786, 787, 788, 789, 790, 791, 792, 793, 794, 795, 796, 797, 798, 799, 800, 801, 802, 803, 804] (by decide +kernel) (by decide +kernel)
set_option maxRecDepth 20000 in
theorem gL_law_X6_where : GoodIn wsL_law (wsV RL 120 RX6 yX6_where wsX6_where) := goodIn_app (goodIn_of _ (by decide +kernel)) ggL_law_X6_where
set_option maxRecDepth 20000 in
theorem ggL_law_X5_within : GoodIn wsL_law wsX5_within := goodIn_r _ [641, 15, 102, 629, 630, 2, 631, 632, 600, 601, 602, 603, 595, 596, 597, 598, 19, 167, 599, 353, 354, 355, 18, 356, 47, 361, 143, 144, 145, 48, 365, 147, 148, 149, 49, 374, 375, 376, 369, 370, 371, 372, 373, 780, 781, 782, 783, 784, 785, 805, 806, 807, 808, 809, 810, 811, 812, 813, 814, 815, 816, 817, 818] (by decide +kernel) (by decide +kernel)
set_option maxRecDepth 20000 in
theorem gL_law_X5_within : GoodIn wsL_law (wsV RL 121 RX5 yX5_within wsX5_within) := goodIn_app (goodIn_of _ (by decide +kernel)) ggL_law_X5_within
set_option maxRecDepth 20000 in
theorem ggL_law_X6_within : GoodIn wsL_law wsX6_within := goodIn_r _ [645, 637, 159, 88, 160, 161, 5, 162, 295, 296, 297, 298, 211, 299, 300, 301, 302, 85, 86, 89, 261, 262, 263, 303, 304, 305, 306, 90, 91, 92, 294, 307, 308, 309, 310, 311, 312, 313, 612, 613, 614, 615, 82, 616, 786, 787, 788, 789, 790, 791, 792, 793, 794, 795, 796, 797, 798, 799, 800, 801, 802, 803, 804] (by decide +kernel) (by decide +kernel)
set_option maxRecDepth 20000 in
theorem gL_law_X6_within : GoodIn wsL_law (wsV RL 124 RX6 yX6_within wsX6_within) := goodIn_app (goodIn_of _ (by decide +kernel)) ggL_law_X6_within
set_option maxRecDepth 20000 in
theorem ggL_law_X5_pivot : GoodIn wsL_law wsX5_pivot := goodIn_r _ [649, 19, 256, 168, 169, 170, 2, 171, 15, 102, 184, 185, 186, 353, 354, 355, 18, 356, 47, 357, 358, 359, 360, 32, 361, 143, 144, 145, 48, 362, 363, 364, 365, 147, 148, 149, 49, 366, 367, 368, 369, 370, 371, 372, 373, 374, 375, 376, 780, 781, 782, 783, 784, 785, 805, 806, 807, 808, 809, 810, 811, 812, 813, 814, 815, 816, 817, 818] (by decide +kernel) (by decide +kernel)
set_option maxRecDepth 20000 in
theorem gL_law_X5_pivot : GoodIn wsL_law (wsV RL 125 RX5 yX5_pivot wsX5_pivot) := goodIn_app (goodIn_of _ (by decide +kernel)) ggL_law_X5_pivot
set_option maxRecDepth 20000 in
theorem ggL_law_X6_pivot : GoodIn wsL_law wsX6_pivot := goodIn_r _ [653, 88, 84, 89, 176, 177, 178, 5, 179, 159, 160, 161, 162, 295, 296, 297, 298, 211, 299, 300, 301, 302, 85, 86, 261, 262, 263, 303, 304, 305, 306, 90, 91, 92, 294, 307, 308, 309, 310, 311, 312, 313, 786, 787, 788, 789, 790, 791, 792, 793, 794, 795, 796, 797, 798, 799, 800, 801, 802, 803, 804] (by decide +kernel) (by decide +kernel)
set_option maxRecDepth 20000 in
theorem gL_law_X6_pivot : GoodIn wsL_law (wsV RL 129 RX6 yX6_pivot wsX6_pivot) := goodIn_app (goodIn_of _ (by decide +kernel)) ggL_law_X6_pivot
set_option maxRecDepth 20000 in
theorem ggL_law_X5_pivots : GoodIn wsL_law wsX5_pivots := goodIn_r _ [657, 658, 31, 659, 660, 184, 185, 2, 186, 661, 662, 663, 30, 664, 665, 666, 667, 668, 76, 367, 368, 369, 370, 362, 363, 364, 371, 372, 373, 669, 670, 671, 672, 673, 674, 675, 676, 72, 73, 677, 678, 679, 680, 681, 682, 75, 683, 684, 685, 686, 687, 688, 689, 690, 691, 692, 693, 694, 77, 695, 696, 697, 698, 699, 700, 701, 702, 703, 704, 705, 706, 707, 708, 709, 710, 71, 711, 712, 713, 714, 780, 781, 782, 783, 784, 785, 830, 831, 832, 833, 834, 835, 836, 837, 838, 839] (by decide +kernel) (by decide +kernel)
set_option maxRecDepth 20000 in
theorem gL_law_X5_pivots : GoodIn wsL_law (wsV RL 130 RX5 yX5_pivots wsX5_pivots) := goodIn_app (goodIn_of _ (by decide +kernel)) ggL_law_X5_pivots
set_option maxRecDepth 20000 in
theorem ggL_law_X6_pivots : GoodIn wsL_law wsX6_pivots := goodIn_r _ [718, 719, 720, 160, 161, 5, 162, 721, 722, 723, 724, 97, 311, 312, 313, 725, 726, 727, 728, 729, 730, 731, 732, 733, 734, 735, 736, 737, 738, 739, 740, 741, 742, 743, 261, 262, 263, 744, 745, 746, 747, 748, 749, 750, 751, 752, 753, 754, 755, 786, 787, 788, 789, 790, 791, 792, 793, 794, 795, 796, 797, 798, 799, 800, 801, 802, 803, 804] (by decide +kernel) (by decide +kernel)
set_option maxRecDepth 20000 in
theorem gL_law_X6_pivots : GoodIn wsL_law (wsV RL 134 RX6 yX6_pivots wsX6_pivots) := goodIn_app (goodIn_of _ (by decide +kernel)) ggL_law_X6_pivots
set_option maxRecDepth 20000 in
theorem ggL_law_X5_many : GoodIn wsL_law wsX5_many := goodIn_r _ [759, 15, 102, 195, 19, 23, 421, 32, 760, 761, 762, 18, 763, 51, 764, 765, 766, 2, 767, 278, 279, 280, 281, 269, 282, 283, 284, 22, 285, 286, 287, 288, 289, 57, 56, 780, 781, 782, 783, 784, 785, 805, 806, 807, 808, 809, 810, 811, 812, 813, 819, 820, 814, 815, 816, 817, 818] (by decide +kernel) (by decide +kernel)
set_option maxRecDepth 20000 in
theorem gL_law_X5_many : GoodIn wsL_law (wsV RL 135 RX5 yX5_many wsX5_many) := goodIn_app (goodIn_of _ (by decide +kernel)) ggL_law_X5_many
set_option maxRecDepth 20000 in
theorem ggL_law_X6_many : GoodIn wsL_law wsX6_many := goodIn_r _ [771, 159, 211, 93, 84, 772, 773, 774, 5, 775, 86, 299, 300, 301, 302, 85, 88, 89, 261, 262, 263, 303, 304, 305, 306, 90, 91, 92, 294, 307, 308, 309, 310, 311, 312, 313, 776, 777, 778, 779, 322, 323, 324, 325, 83, 326, 327, 328, 329, 94, 786, 787, 788, 789, 790, 791, 792, 793, 794, 795, 796, 797, 798, 799, 800, 801, 802, 803, 804] (by decide +kernel) (by decide +kernel)
set_option maxRecDepth 20000 in
theorem gL_law_X6_many : GoodIn wsL_law (wsV RL 138 RX6 yX6_many wsX6_many) := goodIn_app (goodIn_of _ (by decide +kernel)) ggL_law_X6_many
