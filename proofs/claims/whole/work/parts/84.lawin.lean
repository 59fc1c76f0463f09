/-! the law's words stand in the tables, by places -/
theorem ih_pl_in {big ws : List Cond} (ps : List Nat) (h : ws.map some = ps.map (fun i => big[i]?)) : ∀ w ∈ ws, w ∈ big := by
  intro w hw
  have h1 : some w ∈ ws.map some := List.mem_map.mpr ⟨w, hw, rfl⟩
  rw [h] at h1
  obtain ⟨i, -, hi⟩ := List.mem_map.mp h1
  exact List.mem_of_getElem? hi
set_option maxRecDepth 20000 in
theorem lwi_1 : ∀ w ∈ wsL_law_r1, w ∈ lw_tbl := ih_pl_in [71, 72, 58, 709, 710, 67, 73, 74, 75, 76, 77, 78, 79, 278, 81, 59, 104, 279, 106, 60, 280, 125, 126, 61] (by decide +kernel)
set_option maxRecDepth 20000 in
theorem lwi_2 : ∀ w ∈ wsL_law_r2, w ∈ lw_tbl := ih_pl_in [281, 165, 166, 63, 282, 202, 203, 64, 283, 237, 238, 65, 284, 263, 264, 66, 285, 286, 83, 84, 85, 103, 86, 88] (by decide +kernel)
set_option maxRecDepth 20000 in
theorem lwi_3 : ∀ w ∈ wsL_law_r3, w ∈ lw_tbl := ih_pl_in [108, 109, 110, 111, 127, 128, 129, 130, 154, 157, 131, 133, 0, 134, 138, 135, 136, 137, 139, 140, 141, 142, 143, 144] (by decide +kernel)
set_option maxRecDepth 20000 in
theorem lwi_4 : ∀ w ∈ wsL_law_r4, w ∈ lw_tbl := ih_pl_in [145, 146, 147, 148, 149, 62, 150, 151, 152, 153, 167, 168, 169, 170, 173, 177, 201, 178, 179, 180, 181, 171, 172, 204] (by decide +kernel)
set_option maxRecDepth 20000 in
theorem lwi_5 : ∀ w ∈ wsL_law_r5, w ∈ lw_tbl := ih_pl_in [205, 206, 207, 208, 213, 215, 217, 218, 211, 212, 209, 210, 216, 239, 240, 241, 242, 244, 243, 266, 267, 268, 269, 711] (by decide +kernel)
set_option maxRecDepth 20000 in
theorem lwi_6 : ∀ w ∈ wsL_law_r6, w ∈ lw_tbl := ih_pl_in [712, 713, 714, 720, 721, 722, 724, 726, 727, 715, 728, 729, 716, 730, 717, 731, 732, 737, 738, 306, 307, 308, 309, 316] (by decide +kernel)
set_option maxRecDepth 20000 in
theorem lwi_7 : ∀ w ∈ wsL_law_r7, w ∈ lw_tbl := ih_pl_in [310, 311, 312, 313, 314, 315, 317, 319, 1, 320, 321, 322, 323, 324, 325, 90, 92, 326, 327, 68, 328, 329, 331, 2] (by decide +kernel)
set_option maxRecDepth 20000 in
theorem lwi_8 : ∀ w ∈ wsL_law_r8, w ∈ lw_tbl := ih_pl_in [332, 785, 786, 787, 788, 718, 796, 797, 719, 789, 790, 791, 792, 793, 794, 795, 798, 800, 40, 801, 802, 333, 334, 335] (by decide +kernel)
set_option maxRecDepth 20000 in
theorem lwi_9 : ∀ w ∈ wsL_law_r9, w ∈ lw_tbl := ih_pl_in [336, 89, 87, 337, 338, 339, 340, 341, 342, 343, 344, 803, 804, 805, 806, 345, 346, 347, 348, 91, 349, 351, 350, 69] (by decide +kernel)
set_option maxRecDepth 20000 in
theorem lwi_10 : ∀ w ∈ wsL_law_r10, w ∈ lw_tbl := ih_pl_in [807, 808, 809, 810, 352, 353, 354, 355, 93, 811, 812, 813, 814, 356, 357, 358, 359, 360, 361, 362, 363, 364, 365, 366] (by decide +kernel)
set_option maxRecDepth 20000 in
theorem lwi_11 : ∀ w ∈ wsL_law_r11, w ∈ lw_tbl := ih_pl_in [367, 815, 816, 817, 818, 819, 820, 821, 822, 823, 824, 825, 826, 827, 828, 829, 830, 831, 832, 368, 369, 370, 371, 375] (by decide +kernel)
set_option maxRecDepth 20000 in
theorem lwi_12 : ∀ w ∈ wsL_law_r12, w ∈ lw_tbl := ih_pl_in [113, 118, 372, 373, 374, 376, 377, 378, 379, 380, 382, 3, 383, 833, 834, 835, 836, 723, 841, 837, 838, 839, 840, 842] (by decide +kernel)
set_option maxRecDepth 20000 in
theorem lwi_13 : ∀ w ∈ wsL_law_r13, w ∈ lw_tbl := ih_pl_in [844, 41, 845, 384, 385, 386, 387, 396, 388, 390, 4, 391, 392, 393, 394, 395, 116, 397, 398, 399, 400, 846, 847, 848] (by decide +kernel)
set_option maxRecDepth 20000 in
theorem lwi_14 : ∀ w ∈ wsL_law_r14, w ∈ lw_tbl := ih_pl_in [849, 854, 855, 850, 852, 42, 853, 401, 402, 403, 404, 856, 857, 858, 859, 405, 406, 407, 408, 409, 410, 411, 412, 413] (by decide +kernel)
set_option maxRecDepth 20000 in
theorem lwi_15 : ∀ w ∈ wsL_law_r15, w ∈ lw_tbl := ih_pl_in [175, 860, 861, 862, 863, 864, 725, 414, 415, 416, 417, 418, 176, 174, 419, 421, 5, 422, 865, 866, 867, 868, 423, 424] (by decide +kernel)
set_option maxRecDepth 20000 in
theorem lwi_16 : ∀ w ∈ wsL_law_r16, w ∈ lw_tbl := ih_pl_in [425, 426, 427, 428, 429, 430, 431, 433, 6, 434, 435, 436, 437, 438, 440, 7, 441, 114, 442, 444, 8, 445, 155, 158] (by decide +kernel)
set_option maxRecDepth 20000 in
theorem lwi_17 : ∀ w ∈ wsL_law_r17, w ∈ lw_tbl := ih_pl_in [446, 447, 869, 870, 871, 872, 873, 875, 43, 876, 877, 878, 879, 881, 44, 882, 883, 448, 449, 450, 451, 452, 453, 454] (by decide +kernel)
set_option maxRecDepth 20000 in
theorem lwi_18 : ∀ w ∈ wsL_law_r18, w ∈ lw_tbl := ih_pl_in [455, 456, 457, 458, 459, 460, 461, 463, 9, 464, 465, 466, 884, 885, 886, 887, 888, 467, 468, 469, 470, 471, 472, 473] (by decide +kernel)
set_option maxRecDepth 20000 in
theorem lwi_19 : ∀ w ∈ wsL_law_r19, w ∈ lw_tbl := ih_pl_in [474, 889, 890, 891, 892, 475, 476, 477, 478, 479, 480, 481, 482, 483, 893, 894, 895, 896, 897, 899, 45, 900, 484, 485] (by decide +kernel)
set_option maxRecDepth 20000 in
theorem lwi_20 : ∀ w ∈ wsL_law_r20, w ∈ lw_tbl := ih_pl_in [486, 487, 488, 489, 490, 491, 492, 494, 10, 495, 496, 497, 499, 11, 500, 901, 902, 903, 904, 905, 907, 46, 908, 501] (by decide +kernel)
set_option maxRecDepth 20000 in
theorem lwi_21 : ∀ w ∈ wsL_law_r21, w ∈ lw_tbl := ih_pl_in [502, 503, 504, 505, 506, 507, 508, 509, 511, 12, 512, 513, 515, 13, 516, 517, 519, 14, 520, 909, 910, 911, 912, 913] (by decide +kernel)
set_option maxRecDepth 20000 in
theorem lwi_22 : ∀ w ∈ wsL_law_r22, w ∈ lw_tbl := ih_pl_in [915, 47, 916, 521, 522, 523, 524, 214, 917, 918, 919, 920, 525, 526, 527, 528, 529, 530, 531, 532, 533, 534, 535, 536] (by decide +kernel)
set_option maxRecDepth 20000 in
theorem lwi_23 : ∀ w ∈ wsL_law_r23, w ∈ lw_tbl := ih_pl_in [537, 538, 70, 539, 540, 542, 15, 543, 544, 546, 16, 547, 219, 548, 550, 17, 551, 552, 554, 18, 555, 556, 558, 19] (by decide +kernel)
set_option maxRecDepth 20000 in
theorem lwi_24 : ∀ w ∈ wsL_law_r24, w ∈ lw_tbl := ih_pl_in [559, 115, 560, 562, 20, 563, 159, 156, 564, 565, 566, 567, 569, 21, 570, 571, 572, 573, 574, 575, 577, 22, 578, 119] (by decide +kernel)
set_option maxRecDepth 20000 in
theorem lwi_25 : ∀ w ∈ wsL_law_r25, w ∈ lw_tbl := ih_pl_in [579, 581, 23, 582, 583, 585, 24, 586, 921, 922, 923, 924, 925, 926, 927, 928, 930, 48, 931, 935, 932, 933, 934, 936] (by decide +kernel)
set_option maxRecDepth 20000 in
theorem lwi_26 : ∀ w ∈ wsL_law_r26, w ∈ lw_tbl := ih_pl_in [938, 49, 939, 940, 942, 50, 943, 587, 588, 589, 590, 591, 593, 25, 594, 595, 596, 597, 598, 600, 246, 247, 248, 249] (by decide +kernel)
set_option maxRecDepth 20000 in
theorem lwi_27 : ∀ w ∈ wsL_law_r27, w ∈ lw_tbl := ih_pl_in [599, 601, 603, 26, 604, 606, 607, 608, 609, 610, 611, 612, 944, 945, 946, 947, 948, 949, 950, 951, 733, 734, 735, 736] (by decide +kernel)
set_option maxRecDepth 20000 in
theorem lwi_28 : ∀ w ∈ wsL_law_r28, w ∈ lw_tbl := ih_pl_in [952, 954, 51, 955, 613, 614, 615, 616, 245, 617, 618, 619, 620, 956, 957, 958, 959, 621, 622, 623, 624, 625, 626, 627] (by decide +kernel)
set_option maxRecDepth 20000 in
theorem lwi_29 : ∀ w ∈ wsL_law_r29, w ∈ lw_tbl := ih_pl_in [628, 960, 961, 962, 963, 964, 966, 52, 967, 629, 630, 631, 632, 633, 634, 635, 636, 637, 968, 969, 970, 971, 972, 973] (by decide +kernel)
set_option maxRecDepth 20000 in
theorem lwi_30 : ∀ w ∈ wsL_law_r30, w ∈ lw_tbl := ih_pl_in [974, 638, 639, 640, 641, 272, 644, 27, 645, 646, 647, 649, 28, 650, 651, 653, 29, 654, 271, 655, 657, 30, 658, 112] (by decide +kernel)
set_option maxRecDepth 20000 in
theorem lwi_31 : ∀ w ∈ wsL_law_r31, w ∈ lw_tbl := ih_pl_in [659, 661, 31, 662, 117, 663, 665, 32, 670, 671, 673, 34, 675, 677, 35, 678, 679, 681, 36, 682, 684, 686, 37, 687] (by decide +kernel)
set_option maxRecDepth 20000 in
theorem lwi_32 : ∀ w ∈ wsL_law_r32, w ∈ lw_tbl := ih_pl_in [674, 683, 666, 667, 669, 33, 975, 976, 977, 978, 739, 979, 981, 53, 982, 983, 985, 54, 986, 987, 989, 55, 990, 991] (by decide +kernel)
set_option maxRecDepth 20000 in
theorem lwi_33 : ∀ w ∈ wsL_law_r33, w ∈ lw_tbl := ih_pl_in [993, 56, 994, 689, 690, 691, 692, 270, 995, 996, 997, 998, 693, 694, 695, 696, 697, 699, 38, 700, 701, 703, 39, 704] (by decide +kernel)
set_option maxRecDepth 20000 in
theorem lwi_34 : ∀ w ∈ wsL_law_r34, w ∈ lw_tbl := ih_pl_in [999, 1000, 1001, 1002, 705, 706, 707, 708, 1003, 1004, 1005, 1006] (by decide +kernel)
set_option maxRecDepth 20000 in
theorem inX0 : ∀ w ∈ wsX00, w ∈ lw_tbl := ih_pl_in [273, 275] (by decide +kernel)
set_option maxRecDepth 20000 in
theorem inX1 : ∀ w ∈ wsX10, w ∈ lw_tbl := ih_pl_in [160, 162] (by decide +kernel)
set_option maxRecDepth 20000 in
theorem inX2 : ∀ w ∈ wsX20, w ∈ lw_tbl := ih_pl_in [182, 184, 186, 188, 190, 192, 194, 196, 198] (by decide +kernel)
set_option maxRecDepth 20000 in
theorem inX3 : ∀ w ∈ wsX30, w ∈ lw_tbl := ih_pl_in [250, 252, 254, 256, 258, 260] (by decide +kernel)
set_option maxRecDepth 20000 in
theorem inX4 : ∀ w ∈ wsX40, w ∈ lw_tbl := ih_pl_in [220, 222, 224, 226, 228, 230, 232, 234] (by decide +kernel)
set_option maxRecDepth 20000 in
theorem inX5 : ∀ w ∈ wsX50, w ∈ lw_tbl := ih_pl_in [94, 96, 98, 100] (by decide +kernel)
set_option maxRecDepth 20000 in
theorem inX6 : ∀ w ∈ wsX60, w ∈ lw_tbl := ih_pl_in [120, 122] (by decide +kernel)
set_option maxRecDepth 20000 in
theorem inX7 : ∀ w ∈ wsX70, w ∈ lw_tbl := ih_pl_in [287, 289, 291, 293, 295, 297, 299, 301, 303] (by decide +kernel)
set_option maxRecDepth 20000 in
theorem inX8 : ∀ w ∈ wsX80, w ∈ lw_tbl := ih_pl_in [740, 742, 744, 746, 748, 750, 752, 754, 756, 758, 760, 762, 764, 766, 768, 770, 772, 774, 776, 778, 780, 782] (by decide +kernel)
theorem ih_app_in {big a b : List Cond} (h1 : ∀ w ∈ a, w ∈ big) (h2 : ∀ w ∈ b, w ∈ big) : ∀ w ∈ a ++ b, w ∈ big := fun w h => (List.mem_append.mp h).elim (h1 w) (h2 w)
theorem wsL_law_in : ∀ w ∈ wsL_law, w ∈ lw_tbl := ih_app_in (ih_app_in (ih_app_in (ih_app_in (ih_app_in (ih_app_in (ih_app_in (ih_app_in (ih_app_in (ih_app_in (ih_app_in lwi_1 (ih_app_in lwi_2 (ih_app_in lwi_3 (ih_app_in lwi_4 (ih_app_in lwi_5 (ih_app_in lwi_6 (ih_app_in lwi_7 (ih_app_in lwi_8 (ih_app_in lwi_9 (ih_app_in lwi_10 (ih_app_in lwi_11 (ih_app_in lwi_12 (ih_app_in lwi_13 (ih_app_in lwi_14 (ih_app_in lwi_15 (ih_app_in lwi_16 (ih_app_in lwi_17 (ih_app_in lwi_18 (ih_app_in lwi_19 (ih_app_in lwi_20 (ih_app_in lwi_21 (ih_app_in lwi_22 (ih_app_in lwi_23 (ih_app_in lwi_24 (ih_app_in lwi_25 (ih_app_in lwi_26 (ih_app_in lwi_27 (ih_app_in lwi_28 (ih_app_in lwi_29 (ih_app_in lwi_30 (ih_app_in lwi_31 (ih_app_in lwi_32 (ih_app_in lwi_33 lwi_34))))))))))))))))))))))))))))))))) inX7) inX8) inX5) inX6) inX1) inX2) inX4) inX3) inX0) (fun w h => absurd h List.not_mem_nil)
