set_option maxRecDepth 20000 in
theorem ggL_law_X7_worth : GoodIn wsL_law wsX7_worth := goodIn_r _ [428, 143, 28, 147, 148, 2, 149, 350, 351, 352, 353, 348, 429, 430, 431, 27, 432, 90, 93, 384, 89, 366, 367, 368, 369, 370, 371, 163, 372, 373, 374, 375, 376, 94, 86, 336, 377, 378, 379, 380, 381, 382, 383, 385, 419, 234, 235, 23, 236, 56, 418, 238, 239, 240, 57, 804, 805, 806, 807, 808, 809, 810, 811, 812, 843, 844, 845, 846, 847, 848, 849, 850, 851, 839, 840, 841, 842] (by decide +kernel) (by decide +kernel)
set_option maxRecDepth 20000 in
theorem gL_law_X7_worth : GoodIn wsL_law (wsV RL 67 RX7 yX7_worth wsX7_worth) := goodIn_app (goodIn_of _ (by decide +kernel)) ggL_law_X7_worth
set_option maxRecDepth 20000 in
theorem ggL_law_X8_worth : GoodIn wsL_law wsX8_worth := goodIn_r _ [436, 173, 313, 175, 424, 128, 342, 390, 391, 392, 5, 393, 394, 395, 181, 182, 183, 396, 397, 398, 399, 126, 127, 400, 286, 253, 254, 255, 256, 257, 258, 250, 251, 252, 813, 814, 815, 816, 817, 818, 819, 820, 821, 822, 823, 824, 825, 826, 827, 828, 829, 830, 831, 832, 833, 834] (by decide +kernel) (by decide +kernel)
set_option maxRecDepth 20000 in
theorem gL_law_X8_worth : GoodIn wsL_law (wsV RL 70 RX8 yX8_worth wsX8_worth) := goodIn_app (goodIn_of _ (by decide +kernel)) ggL_law_X8_worth
set_option maxRecDepth 20000 in
theorem ggL_law_X7_rate : GoodIn wsL_law wsX7_rate := goodIn_r _ [440, 28, 348, 295, 441, 442, 443, 27, 444, 336, 445, 363, 364, 365, 89, 366, 367, 368, 369, 90, 370, 371, 163, 372, 373, 374, 375, 376, 94, 86, 377, 378, 379, 380, 381, 93, 382, 383, 384, 385, 804, 805, 806, 807, 808, 809, 810, 811, 812, 843, 844, 845, 846, 847, 848, 849, 850, 851, 839, 840, 841, 842] (by decide +kernel) (by decide +kernel)
set_option maxRecDepth 20000 in
theorem gL_law_X7_rate : GoodIn wsL_law (wsV RL 71 RX7 yX7_rate wsX7_rate) := goodIn_app (goodIn_of _ (by decide +kernel)) ggL_law_X7_rate
set_option maxRecDepth 20000 in
theorem ggL_law_X8_rate : GoodIn wsL_law wsX8_rate := goodIn_r _ [449, 173, 342, 314, 450, 451, 452, 5, 453, 128, 396, 397, 398, 399, 126, 127, 400, 286, 253, 254, 255, 256, 257, 258, 250, 251, 252, 813, 814, 815, 816, 817, 818, 819, 820, 821, 822, 823, 824, 825, 826, 827, 828, 829, 830, 831, 832, 833, 834] (by decide +kernel) (by decide +kernel)
set_option maxRecDepth 20000 in
theorem gL_law_X8_rate : GoodIn wsL_law (wsV RL 75 RX8 yX8_rate wsX8_rate) := goodIn_app (goodIn_of _ (by decide +kernel)) ggL_law_X8_rate
set_option maxRecDepth 20000 in
theorem ggL_law_X7_swapped : GoodIn wsL_law wsX7_swapped := goodIn_r _ [457, 28, 348, 295, 458, 459, 460, 27, 461, 462, 463, 464, 465, 336, 86, 466, 442, 443, 444, 445, 363, 364, 365, 89, 366, 367, 368, 369, 90, 370, 371, 163, 372, 373, 374, 375, 376, 94, 377, 378, 379, 380, 381, 93, 382, 383, 384, 385, 467, 468, 469, 470, 804, 805, 806, 807, 808, 809, 810, 811, 812, 843, 844, 845, 846, 847, 848, 849, 850, 851, 839, 840, 841, 842] (by decide +kernel) (by decide +kernel)
set_option maxRecDepth 20000 in
theorem gL_law_X7_swapped : GoodIn wsL_law (wsV RL 76 RX7 yX7_swapped wsX7_swapped) := goodIn_app (goodIn_of _ (by decide +kernel)) ggL_law_X7_swapped
set_option maxRecDepth 20000 in
theorem ggL_law_X8_swapped : GoodIn wsL_law wsX8_swapped := goodIn_r _ [474, 173, 342, 314, 450, 451, 452, 5, 453, 128, 396, 397, 398, 399, 126, 127, 400, 286, 253, 254, 255, 256, 257, 258, 250, 251, 252, 475, 476, 477, 478, 813, 814, 815, 816, 817, 818, 819, 820, 821, 822, 823, 824, 825, 826, 827, 828, 829, 830, 831, 832, 833, 834] (by decide +kernel) (by decide +kernel)
set_option maxRecDepth 20000 in
theorem gL_law_X8_swapped : GoodIn wsL_law (wsV RL 79 RX8 yX8_swapped wsX8_swapped) := goodIn_app (goodIn_of _ (by decide +kernel)) ggL_law_X8_swapped
set_option maxRecDepth 20000 in
theorem ggL_law_X7_best : GoodIn wsL_law wsX7_best := goodIn_r _ [482, 28, 348, 295, 483, 484, 485, 27, 486, 86, 87, 336, 335, 213, 214, 215, 487, 488, 489, 490, 467, 468, 469, 470, 491, 492, 493, 494, 466, 442, 443, 444, 445, 363, 364, 365, 89, 366, 367, 368, 369, 90, 370, 371, 163, 372, 373, 374, 375, 376, 94, 377, 378, 379, 380, 381, 93, 382, 383, 384, 385, 495, 496, 497, 498, 804, 805, 806, 807, 808, 809, 810, 811, 812, 843, 844, 845, 846, 847, 848, 849, 850, 851, 839, 840, 841, 842] (by decide +kernel) (by decide +kernel)
set_option maxRecDepth 20000 in
theorem gL_law_X7_best : GoodIn wsL_law (wsV RL 80 RX7 yX7_best wsX7_best) := goodIn_app (goodIn_of _ (by decide +kernel)) ggL_law_X7_best
set_option maxRecDepth 20000 in
theorem ggL_law_X8_best : GoodIn wsL_law wsX8_best := goodIn_r _ [502, 173, 342, 314, 127, 131, 475, 476, 477, 5, 478, 450, 451, 452, 453, 128, 396, 397, 398, 399, 126, 400, 286, 253, 254, 255, 256, 257, 258, 250, 251, 252, 503, 504, 505, 506, 813, 814, 815, 816, 817, 818, 819, 820, 821, 822, 823, 824, 825, 826, 827, 828, 829, 830, 831, 832, 833, 834] (by decide +kernel) (by decide +kernel)
set_option maxRecDepth 20000 in
theorem gL_law_X8_best : GoodIn wsL_law (wsV RL 83 RX8 yX8_best wsX8_best) := goodIn_app (goodIn_of _ (by decide +kernel)) ggL_law_X8_best
set_option maxRecDepth 20000 in
theorem ggL_law_X7_team : GoodIn wsL_law wsX7_team := goodIn_r _ [510, 143, 32, 511, 147, 148, 2, 149, 296, 297, 298, 299, 20, 305, 306, 307, 31, 308, 108, 804, 805, 806, 807, 808, 809, 810, 811, 812, 852, 853, 854, 855, 856, 857, 858, 859] (by decide +kernel) (by decide +kernel)
set_option maxRecDepth 20000 in
theorem gL_law_X7_team : GoodIn wsL_law (wsV RL 84 RX7 yX7_team wsX7_team) := goodIn_app (goodIn_of _ (by decide +kernel)) ggL_law_X7_team
set_option maxRecDepth 20000 in
theorem ggL_law_X8_team : GoodIn wsL_law wsX8_team := goodIn_r _ [515, 173, 175, 133, 181, 182, 5, 183, 315, 316, 317, 318, 281, 813, 814, 815, 816, 817, 818, 819, 820, 821, 822, 823, 824, 825, 826, 827, 828, 829, 830, 831, 832, 833, 834] (by decide +kernel) (by decide +kernel)
set_option maxRecDepth 20000 in
theorem gL_law_X8_team : GoodIn wsL_law (wsV RL 87 RX8 yX8_team wsX8_team) := goodIn_app (goodIn_of _ (by decide +kernel)) ggL_law_X8_team
set_option maxRecDepth 20000 in
theorem ggL_law_X7_game : GoodIn wsL_law wsX7_game := goodIn_r _ [519, 143, 32, 295, 147, 148, 2, 149, 520, 521, 522, 31, 523, 100, 99, 524, 525, 526, 527, 528, 529, 530, 531, 101, 102, 532, 533, 534, 535, 108, 536, 537, 538, 539, 540, 103, 541, 542, 543, 544, 545, 546, 547, 548, 549, 550, 551, 552, 105, 553, 554, 555, 556, 557, 104, 558, 559, 560, 561, 23, 562, 563, 564, 565, 566, 567, 568, 569, 570, 64, 65, 571, 572, 573, 574, 575, 576, 577, 578, 579, 580, 581, 582, 583, 804, 805, 806, 807, 808, 809, 810, 811, 812, 852, 853, 854, 855, 856, 857, 858, 859, 839, 840, 841, 842] (by decide +kernel) (by decide +kernel)
set_option maxRecDepth 20000 in
theorem gL_law_X7_game : GoodIn wsL_law (wsV RL 88 RX7 yX7_game wsX7_game) := goodIn_app (goodIn_of _ (by decide +kernel)) ggL_law_X7_game
set_option maxRecDepth 20000 in
theorem ggL_law_X8_game : GoodIn wsL_law wsX8_game := goodIn_r _ [587, 173, 588, 589, 341, 394, 590, 174, 175, 133, 132, 314, 135, 136, 181, 182, 5, 183, 591, 592, 593, 594, 424, 595, 126, 286, 596, 597, 598, 599, 600, 601, 602, 253, 254, 255, 256, 257, 258, 250, 251, 252, 603, 604, 605, 606, 247, 248, 249, 813, 814, 815, 816, 817, 818, 819, 820, 821, 822, 823, 824, 825, 826, 827, 828, 829, 830, 831, 832, 833, 834] (by decide +kernel) (by decide +kernel)
set_option maxRecDepth 20000 in
theorem gL_law_X8_game : GoodIn wsL_law (wsV RL 91 RX8 yX8_game wsX8_game) := goodIn_app (goodIn_of _ (by decide +kernel)) ggL_law_X8_game
set_option maxRecDepth 20000 in
theorem ggL_law_X7_log : GoodIn wsL_law wsX7_log := goodIn_r _ [610, 143, 36, 13, 194, 144, 145, 2, 146, 147, 148, 149, 611, 612, 613, 614, 193, 195, 196, 197, 15, 198, 160, 150, 151, 152, 153, 41, 154, 615, 616, 617, 35, 618, 113, 619, 620, 621, 622, 623, 624, 162, 163, 164, 625, 626, 627, 628, 114, 629, 234, 235, 23, 236, 56, 630, 238, 239, 240, 57, 631, 632, 633, 634, 635, 165, 166, 167, 168, 804, 805, 806, 807, 808, 809, 810, 811, 812, 835, 836, 837, 838, 860, 861, 862, 863, 864, 865, 841, 842] (by decide +kernel) (by decide +kernel)
set_option maxRecDepth 20000 in
theorem gL_law_X7_log : GoodIn wsL_law (wsV RL 92 RX7 yX7_log wsX7_log) := goodIn_app (goodIn_of _ (by decide +kernel)) ggL_law_X7_log
