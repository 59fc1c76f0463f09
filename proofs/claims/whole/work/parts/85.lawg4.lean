set_option maxRecDepth 20000 in
theorem ggL_law_X8_log : GoodIn wsL_law wsX8_log := goodIn_r _ [639, 173, 640, 641, 642, 643, 175, 644, 645, 646, 647, 137, 177, 178, 5, 179, 180, 181, 182, 183, 648, 649, 650, 651, 123, 124, 176, 132, 125, 246, 184, 185, 186, 187, 188, 247, 248, 249, 250, 251, 252, 253, 254, 255, 256, 257, 258, 813, 814, 815, 816, 817, 818, 819, 820, 821, 822, 823, 824, 825, 826, 827, 828, 829, 830, 831, 832, 833, 834] (by decide +kernel) (by decide +kernel)
set_option maxRecDepth 20000 in
theorem gL_law_X8_log : GoodIn wsL_law (wsV RL 95 RX8 yX8_log wsX8_log) := goodIn_app (goodIn_of _ (by decide +kernel)) ggL_law_X8_log
set_option maxRecDepth 20000 in
theorem ggL_law_X7_learn : GoodIn wsL_law wsX7_learn := goodIn_r _ [655, 143, 20, 263, 36, 13, 194, 295, 17, 264, 656, 265, 144, 145, 2, 146, 147, 148, 149, 266, 267, 268, 611, 612, 613, 614, 193, 195, 196, 197, 15, 198, 160, 150, 151, 152, 153, 41, 154, 615, 616, 617, 35, 618, 113, 619, 620, 621, 622, 623, 624, 162, 163, 164, 625, 626, 627, 628, 114, 629, 234, 235, 23, 236, 56, 630, 238, 239, 240, 57, 657, 658, 659, 660, 269, 270, 271, 19, 272, 51, 273, 274, 275, 276, 165, 166, 167, 168, 804, 805, 806, 807, 808, 809, 810, 811, 812, 835, 836, 837, 838, 839, 840, 860, 861, 862, 863, 864, 865, 841, 842] (by decide +kernel) (by decide +kernel)
set_option maxRecDepth 20000 in
theorem gL_law_X7_learn : GoodIn wsL_law (wsV RL 96 RX7 yX7_learn wsX7_learn) := goodIn_app (goodIn_of _ (by decide +kernel)) ggL_law_X7_learn
set_option maxRecDepth 20000 in
theorem ggL_law_X8_learn : GoodIn wsL_law wsX8_learn := goodIn_r _ [664, 173, 640, 175, 281, 282, 176, 137, 314, 126, 177, 178, 5, 179, 180, 181, 182, 183, 283, 284, 285, 286, 648, 649, 650, 651, 123, 124, 132, 644, 645, 646, 647, 125, 246, 184, 185, 186, 187, 188, 247, 248, 249, 250, 251, 252, 253, 254, 255, 256, 257, 258, 287, 288, 289, 290, 813, 814, 815, 816, 817, 818, 819, 820, 821, 822, 823, 824, 825, 826, 827, 828, 829, 830, 831, 832, 833, 834] (by decide +kernel) (by decide +kernel)
set_option maxRecDepth 20000 in
theorem gL_law_X8_learn : GoodIn wsL_law (wsV RL 99 RX8 yX8_learn wsX8_learn) := goodIn_app (goodIn_of _ (by decide +kernel)) ggL_law_X8_learn
set_option maxRecDepth 20000 in
theorem ggL_law_X7_kind : GoodIn wsL_law wsX7_kind := goodIn_r _ [668, 17, 143, 296, 297, 298, 2, 299, 20, 147, 148, 149, 669, 670, 671, 19, 672, 51, 304, 804, 805, 806, 807, 808, 809, 810, 811, 812, 839, 840] (by decide +kernel) (by decide +kernel)
set_option maxRecDepth 20000 in
theorem gL_law_X7_kind : GoodIn wsL_law (wsV RL 100 RX7 yX7_kind wsX7_kind) := goodIn_app (goodIn_of _ (by decide +kernel)) ggL_law_X7_kind
set_option maxRecDepth 20000 in
theorem ggL_law_X8_kind : GoodIn wsL_law wsX8_kind := goodIn_r _ [676, 173, 175, 315, 316, 317, 5, 318, 281, 181, 182, 183, 677, 678, 679, 680, 126, 813, 814, 815, 816, 817, 818, 819, 820, 821, 822, 823, 824, 825, 826, 827, 828, 829, 830, 831, 832, 833, 834] (by decide +kernel) (by decide +kernel)
set_option maxRecDepth 20000 in
theorem gL_law_X8_kind : GoodIn wsL_law (wsV RL 103 RX8 yX8_kind wsX8_kind) := goodIn_app (goodIn_of _ (by decide +kernel)) ggL_law_X8_kind
set_option maxRecDepth 20000 in
theorem ggL_law_X7_as : GoodIn wsL_law wsX7_as := goodIn_r _ [684, 143, 17, 264, 296, 297, 298, 2, 299, 20, 147, 148, 149, 685, 686, 687, 19, 688, 689, 670, 671, 672, 51, 304, 150, 151, 152, 153, 41, 154, 165, 166, 167, 168, 804, 805, 806, 807, 808, 809, 810, 811, 812, 839, 840] (by decide +kernel) (by decide +kernel)
set_option maxRecDepth 20000 in
theorem gL_law_X7_as : GoodIn wsL_law (wsV RL 104 RX7 yX7_as wsX7_as) := goodIn_app (goodIn_of _ (by decide +kernel)) ggL_law_X7_as
set_option maxRecDepth 20000 in
theorem ggL_law_X8_as : GoodIn wsL_law wsX8_as := goodIn_r _ [693, 173, 641, 175, 176, 126, 315, 316, 317, 5, 318, 281, 181, 182, 183, 677, 678, 679, 680, 694, 695, 696, 184, 185, 186, 187, 188, 813, 814, 815, 816, 817, 818, 819, 820, 821, 822, 823, 824, 825, 826, 827, 828, 829, 830, 831, 832, 833, 834] (by decide +kernel) (by decide +kernel)
set_option maxRecDepth 20000 in
theorem gL_law_X8_as : GoodIn wsL_law (wsV RL 107 RX8 yX8_as wsX8_as) := goodIn_app (goodIn_of _ (by decide +kernel)) ggL_law_X8_as
set_option maxRecDepth 20000 in
theorem ggL_law_X7_ask : GoodIn wsL_law wsX7_ask := goodIn_r _ [700, 143, 40, 701, 17, 296, 297, 298, 2, 299, 20, 147, 148, 149, 702, 39, 703, 704, 705, 670, 671, 19, 672, 51, 304, 706, 707, 708, 709, 710, 711, 712, 713, 714, 118, 715, 716, 717, 718, 719, 720, 721, 722, 723, 724, 725, 726, 727, 728, 729, 730, 731, 732, 733, 734, 735, 736, 737, 738, 739, 740, 741, 742, 743, 744, 745, 746, 747, 748, 749, 804, 805, 806, 807, 808, 809, 810, 811, 812, 866, 867, 839, 840] (by decide +kernel) (by decide +kernel)
set_option maxRecDepth 20000 in
theorem gL_law_X7_ask : GoodIn wsL_law (wsV RL 108 RX7 yX7_ask wsX7_ask) := goodIn_app (goodIn_of _ (by decide +kernel)) ggL_law_X7_ask
set_option maxRecDepth 20000 in
theorem ggL_law_X8_ask : GoodIn wsL_law wsX8_ask := goodIn_r _ [753, 173, 175, 754, 315, 316, 317, 5, 318, 281, 181, 182, 183, 677, 678, 679, 680, 126, 755, 756, 757, 758, 694, 695, 696, 759, 760, 761, 762, 763, 764, 765, 766, 138, 767, 768, 769, 770, 813, 814, 815, 816, 817, 818, 819, 820, 821, 822, 823, 824, 825, 826, 827, 828, 829, 830, 831, 832, 833, 834] (by decide +kernel) (by decide +kernel)
set_option maxRecDepth 20000 in
theorem gL_law_X8_ask : GoodIn wsL_law (wsV RL 111 RX8 yX8_ask wsX8_ask) := goodIn_app (goodIn_of _ (by decide +kernel)) ggL_law_X8_ask
set_option maxRecDepth 20000 in
theorem ggL_law_X7_trace : GoodIn wsL_law wsX7_trace := goodIn_r _ [774, 40, 701, 775, 347, 147, 148, 2, 149, 804, 805, 806, 807, 808, 809, 810, 811, 812, 866, 867] (by decide +kernel) (by decide +kernel)
set_option maxRecDepth 20000 in
theorem gL_law_X7_trace : GoodIn wsL_law (wsV RL 112 RX7 yX7_trace wsX7_trace) := goodIn_app (goodIn_of _ (by decide +kernel)) ggL_law_X7_trace
set_option maxRecDepth 20000 in
theorem ggL_law_X8_trace : GoodIn wsL_law wsX8_trace := goodIn_r _ [779, 173, 754, 138, 132, 181, 182, 5, 183, 813, 814, 815, 816, 817, 818, 819, 820, 821, 822, 823, 824, 825, 826, 827, 828, 829, 830, 831, 832, 833, 834] (by decide +kernel) (by decide +kernel)
set_option maxRecDepth 20000 in
theorem gL_law_X8_trace : GoodIn wsL_law (wsV RL 115 RX8 yX8_trace wsX8_trace) := goodIn_app (goodIn_of _ (by decide +kernel)) ggL_law_X8_trace
set_option maxRecDepth 20000 in
theorem ggL_law_X7_count : GoodIn wsL_law wsX7_count := goodIn_r _ [783, 20, 28, 348, 32, 143, 784, 785, 786, 2, 787, 13, 193, 788, 789, 790, 791, 17, 685, 686, 687, 19, 688, 689, 670, 671, 672, 51, 304, 520, 521, 522, 31, 523, 100, 99, 804, 805, 806, 807, 808, 809, 810, 811, 812, 843, 844, 845, 846, 847, 848, 849, 850, 851, 835, 836, 837, 838, 839, 840, 852, 853, 854, 855, 856, 857, 858, 859] (by decide +kernel) (by decide +kernel)
set_option maxRecDepth 20000 in
theorem gL_law_X7_count : GoodIn wsL_law (wsV RL 116 RX7 yX7_count wsX7_count) := goodIn_app (goodIn_of _ (by decide +kernel)) ggL_law_X7_count
set_option maxRecDepth 20000 in
theorem ggL_law_X8_count : GoodIn wsL_law wsX8_count := goodIn_r _ [795, 173, 123, 281, 342, 133, 132, 175, 677, 678, 679, 5, 680, 126, 694, 695, 696, 813, 814, 815, 816, 817, 818, 819, 820, 821, 822, 823, 824, 825, 826, 827, 828, 829, 830, 831, 832, 833, 834] (by decide +kernel) (by decide +kernel)
set_option maxRecDepth 20000 in
theorem gL_law_X8_count : GoodIn wsL_law (wsV RL 119 RX8 yX8_count wsX8_count) := goodIn_app (goodIn_of _ (by decide +kernel)) ggL_law_X8_count
