set_option maxRecDepth 20000 in
theorem ggL_law_X8_striker : GoodIn wsL_law wsX8_striker := goodIn_r _ [280, 173, 175, 281, 282, 126, 283, 284, 5, 285, 286, 181, 182, 183, 287, 288, 289, 290, 813, 814, 815, 816, 817, 818, 819, 820, 821, 822, 823, 824, 825, 826, 827, 828, 829, 830, 831, 832, 833, 834] (by decide +kernel) (by decide +kernel)
set_option maxRecDepth 20000 in
theorem gL_law_X8_striker : GoodIn wsL_law (wsV RL 40 RX8 yX8_striker wsX8_striker) := goodIn_app (goodIn_of _ (by decide +kernel)) ggL_law_X8_striker
set_option maxRecDepth 20000 in
theorem ggL_law_X7_train : GoodIn wsL_law wsX7_train := goodIn_r _ [294, 143, 17, 265, 264, 295, 32, 296, 297, 298, 2, 299, 20, 147, 148, 149, 266, 267, 268, 300, 301, 302, 19, 303, 304, 51, 269, 270, 271, 272, 305, 306, 307, 31, 308, 108, 804, 805, 806, 807, 808, 809, 810, 811, 812, 839, 840, 852, 853, 854, 855, 856, 857, 858, 859] (by decide +kernel) (by decide +kernel)
set_option maxRecDepth 20000 in
theorem gL_law_X7_train : GoodIn wsL_law (wsV RL 41 RX7 yX7_train wsX7_train) := goodIn_app (goodIn_of _ (by decide +kernel)) ggL_law_X7_train
set_option maxRecDepth 20000 in
theorem ggL_law_X8_train : GoodIn wsL_law wsX8_train := goodIn_r _ [312, 173, 313, 175, 126, 314, 315, 316, 317, 5, 318, 281, 181, 182, 183, 283, 284, 285, 286, 287, 288, 289, 290, 813, 814, 815, 816, 817, 818, 819, 820, 821, 822, 823, 824, 825, 826, 827, 828, 829, 830, 831, 832, 833, 834] (by decide +kernel) (by decide +kernel)
set_option maxRecDepth 20000 in
theorem gL_law_X8_train : GoodIn wsL_law (wsV RL 44 RX8 yX8_train wsX8_train) := goodIn_app (goodIn_of _ (by decide +kernel)) ggL_law_X8_train
set_option maxRecDepth 20000 in
theorem ggL_law_X7_chance : GoodIn wsL_law wsX7_chance := goodIn_r _ [322, 143, 17, 296, 297, 298, 2, 299, 20, 147, 148, 149, 300, 301, 302, 19, 303, 304, 51, 804, 805, 806, 807, 808, 809, 810, 811, 812, 839, 840] (by decide +kernel) (by decide +kernel)
set_option maxRecDepth 20000 in
theorem gL_law_X7_chance : GoodIn wsL_law (wsV RL 45 RX7 yX7_chance wsX7_chance) := goodIn_app (goodIn_of _ (by decide +kernel)) ggL_law_X7_chance
set_option maxRecDepth 20000 in
theorem ggL_law_X8_chance : GoodIn wsL_law wsX8_chance := goodIn_r _ [326, 173, 313, 175, 126, 315, 316, 317, 5, 318, 281, 181, 182, 183, 813, 814, 815, 816, 817, 818, 819, 820, 821, 822, 823, 824, 825, 826, 827, 828, 829, 830, 831, 832, 833, 834] (by decide +kernel) (by decide +kernel)
set_option maxRecDepth 20000 in
theorem gL_law_X8_chance : GoodIn wsL_law (wsV RL 49 RX8 yX8_chance wsX8_chance) := goodIn_app (goodIn_of _ (by decide +kernel)) ggL_law_X8_chance
set_option maxRecDepth 20000 in
theorem ggL_law_X7_order : GoodIn wsL_law wsX7_order := goodIn_r _ [330, 143, 13, 193, 194, 28, 144, 145, 2, 146, 147, 148, 149, 150, 151, 152, 153, 41, 154, 195, 196, 197, 15, 198, 160, 296, 297, 298, 299, 20, 331, 332, 333, 27, 334, 86, 335, 213, 214, 215, 336, 165, 166, 167, 168, 804, 805, 806, 807, 808, 809, 810, 811, 812, 835, 836, 837, 838, 843, 844, 845, 846, 847, 848, 849, 850, 851] (by decide +kernel) (by decide +kernel)
set_option maxRecDepth 20000 in
theorem gL_law_X7_order : GoodIn wsL_law (wsV RL 50 RX7 yX7_order wsX7_order) := goodIn_app (goodIn_of _ (by decide +kernel)) ggL_law_X7_order
set_option maxRecDepth 20000 in
theorem ggL_law_X8_order : GoodIn wsL_law wsX8_order := goodIn_r _ [340, 173, 341, 175, 123, 124, 125, 176, 342, 127, 177, 178, 5, 179, 180, 181, 182, 183, 184, 185, 186, 187, 188, 315, 316, 317, 318, 281, 813, 814, 815, 816, 817, 818, 819, 820, 821, 822, 823, 824, 825, 826, 827, 828, 829, 830, 831, 832, 833, 834] (by decide +kernel) (by decide +kernel)
set_option maxRecDepth 20000 in
theorem gL_law_X8_order : GoodIn wsL_law (wsV RL 53 RX8 yX8_order wsX8_order) := goodIn_app (goodIn_of _ (by decide +kernel)) ggL_law_X8_order
set_option maxRecDepth 20000 in
theorem ggL_law_X7_striking : GoodIn wsL_law wsX7_striking := goodIn_r _ [346, 347, 28, 348, 349, 143, 350, 351, 352, 2, 353, 147, 148, 149, 804, 805, 806, 807, 808, 809, 810, 811, 812, 843, 844, 845, 846, 847, 848, 849, 850, 851] (by decide +kernel) (by decide +kernel)
set_option maxRecDepth 20000 in
theorem gL_law_X7_striking : GoodIn wsL_law (wsV RL 54 RX7 yX7_striking wsX7_striking) := goodIn_app (goodIn_of _ (by decide +kernel)) ggL_law_X7_striking
set_option maxRecDepth 20000 in
theorem ggL_law_X8_striking : GoodIn wsL_law wsX8_striking := goodIn_r _ [357, 173, 132, 342, 127, 175, 181, 182, 5, 183, 813, 814, 815, 816, 817, 818, 819, 820, 821, 822, 823, 824, 825, 826, 827, 828, 829, 830, 831, 832, 833, 834] (by decide +kernel) (by decide +kernel)
set_option maxRecDepth 20000 in
theorem gL_law_X8_striking : GoodIn wsL_law (wsV RL 57 RX8 yX8_striking wsX8_striking) := goodIn_app (goodIn_of _ (by decide +kernel)) ggL_law_X8_striking
set_option maxRecDepth 20000 in
theorem ggL_law_X7_mean : GoodIn wsL_law wsX7_mean := goodIn_r _ [361, 143, 28, 147, 148, 2, 149, 350, 351, 352, 353, 348, 362, 363, 364, 27, 365, 89, 366, 367, 368, 369, 90, 370, 371, 163, 372, 373, 374, 375, 376, 94, 86, 336, 377, 378, 379, 380, 381, 93, 382, 383, 384, 385, 804, 805, 806, 807, 808, 809, 810, 811, 812, 843, 844, 845, 846, 847, 848, 849, 850, 851, 839, 840, 841, 842] (by decide +kernel) (by decide +kernel)
set_option maxRecDepth 20000 in
theorem gL_law_X7_mean : GoodIn wsL_law (wsV RL 58 RX7 yX7_mean wsX7_mean) := goodIn_app (goodIn_of _ (by decide +kernel)) ggL_law_X7_mean
set_option maxRecDepth 20000 in
theorem ggL_law_X8_mean : GoodIn wsL_law wsX8_mean := goodIn_r _ [389, 173, 175, 128, 390, 391, 392, 5, 393, 394, 342, 395, 181, 182, 183, 396, 397, 398, 399, 126, 127, 400, 286, 253, 254, 255, 256, 257, 258, 250, 251, 252, 813, 814, 815, 816, 817, 818, 819, 820, 821, 822, 823, 824, 825, 826, 827, 828, 829, 830, 831, 832, 833, 834] (by decide +kernel) (by decide +kernel)
set_option maxRecDepth 20000 in
theorem gL_law_X8_mean : GoodIn wsL_law (wsV RL 61 RX8 yX8_mean wsX8_mean) := goodIn_app (goodIn_of _ (by decide +kernel)) ggL_law_X8_mean
set_option maxRecDepth 20000 in
theorem ggL_law_X7_likely : GoodIn wsL_law wsX7_likely := goodIn_r _ [404, 143, 28, 147, 148, 2, 149, 350, 351, 352, 353, 348, 405, 406, 407, 27, 408, 409, 91, 92, 410, 411, 412, 413, 162, 163, 164, 373, 374, 375, 376, 94, 86, 336, 377, 414, 415, 416, 417, 93, 385, 418, 238, 239, 23, 240, 57, 419, 234, 235, 236, 56, 804, 805, 806, 807, 808, 809, 810, 811, 812, 843, 844, 845, 846, 847, 848, 849, 850, 851, 839, 840, 841, 842] (by decide +kernel) (by decide +kernel)
set_option maxRecDepth 20000 in
theorem gL_law_X7_likely : GoodIn wsL_law (wsV RL 62 RX7 yX7_likely wsX7_likely) := goodIn_app (goodIn_of _ (by decide +kernel)) ggL_law_X7_likely
set_option maxRecDepth 20000 in
theorem ggL_law_X8_likely : GoodIn wsL_law wsX8_likely := goodIn_r _ [423, 173, 341, 175, 342, 400, 130, 126, 127, 424, 286, 390, 391, 392, 5, 393, 394, 395, 181, 182, 183, 253, 254, 255, 256, 257, 258, 250, 251, 252, 813, 814, 815, 816, 817, 818, 819, 820, 821, 822, 823, 824, 825, 826, 827, 828, 829, 830, 831, 832, 833, 834] (by decide +kernel) (by decide +kernel)
set_option maxRecDepth 20000 in
theorem gL_law_X8_likely : GoodIn wsL_law (wsV RL 66 RX8 yX8_likely wsX8_likely) := goodIn_app (goodIn_of _ (by decide +kernel)) ggL_law_X8_likely
