/-! ===== the law's words stand in the table ===== -/
theorem kin_app {big a b : List Cond} (ha : ∀ w ∈ a, w ∈ big) (hb : ∀ w ∈ b, w ∈ big) : ∀ w ∈ a ++ b, w ∈ big := fun w h => (List.mem_append.mp h).elim (ha w) (hb w)
theorem kin_places {big : List Cond} (ws : List Cond) (ps : List Nat) (hp : ws = ps.filterMap (fun i => big[i]?)) : ∀ w ∈ ws, w ∈ big := by
  intro w hw
  rw [hp] at hw
  obtain ⟨i, -, hi⟩ := List.mem_filterMap.mp hw
  first | exact List.mem_of_getElem? hi | exact List.getElem?_mem hi
set_option maxRecDepth 20000 in
theorem wsLp_1 : ∀ w ∈ wsL_law0_r1, w ∈ lw_tbl := kin_places _ [55, 56, 33, 680, 681, 37, 929, 930, 57, 58, 59, 60, 61, 62, 63, 64, 36, 89, 90, 91, 92, 93, 94, 95] (by decide +kernel)
set_option maxRecDepth 20000 in
theorem wsLp_2 : ∀ w ∈ wsL_law0_r2, w ∈ lw_tbl := kin_places _ [65, 66, 67, 75, 77, 68, 69, 35, 70, 79, 71, 72, 34, 73, 74, 682, 683, 684, 685, 394, 689, 772, 690, 691] (by decide +kernel)
set_option maxRecDepth 20000 in
theorem wsLp_3 : ∀ w ∈ wsL_law0_r3, w ∈ lw_tbl := kin_places _ [692, 693, 695, 696, 697, 698, 699, 700, 701, 702, 703, 704, 705, 706, 708, 709, 710, 686, 712, 713, 123, 124, 32, 125] (by decide +kernel)
set_option maxRecDepth 20000 in
theorem wsLp_4 : ∀ w ∈ wsL_law0_r4, w ∈ lw_tbl := kin_places _ [126, 127, 128, 129, 130, 131, 204, 42, 234, 246, 234, 235, 45, 132, 134, 0, 135, 136, 41, 119, 120, 121, 122, 78] (by decide +kernel)
set_option maxRecDepth 20000 in
theorem wsLp_5 : ∀ w ∈ wsL_law0_r5, w ∈ lw_tbl := kin_places _ [220, 221, 222, 223, 224, 225, 43, 226, 227, 228, 44, 229, 230, 231, 232, 233, 236, 237, 238, 239, 243, 245, 241, 242] (by decide +kernel)
set_option maxRecDepth 20000 in
theorem wsLp_6 : ∀ w ∈ wsL_law0_r6, w ∈ lw_tbl := kin_places _ [258, 259, 260, 261, 80, 81, 262, 264, 2, 265, 266, 268, 3, 269, 270, 272, 4, 273, 313, 278, 47, 279, 314, 274] (by decide +kernel)
set_option maxRecDepth 20000 in
theorem wsLp_7 : ∀ w ∈ wsL_law0_r7, w ∈ lw_tbl := kin_places _ [275, 46, 276, 277, 280, 281, 282, 283, 284, 285, 48, 286, 287, 945, 288, 300, 301, 302, 303, 304, 306, 307, 308, 309] (by decide +kernel)
set_option maxRecDepth 20000 in
theorem wsLp_8 : ∀ w ∈ wsL_law0_r8, w ∈ lw_tbl := kin_places _ [310, 312, 311, 49, 777, 778, 779, 780, 688, 714, 781, 783, 19, 784, 785, 786, 787, 773, 774, 775, 776, 315, 316, 317] (by decide +kernel)
set_option maxRecDepth 20000 in
theorem wsLp_9 : ∀ w ∈ wsL_law0_r9, w ∈ lw_tbl := kin_places _ [318, 319, 320, 321, 322, 343, 344, 51, 323, 324, 325, 326, 50, 345, 346, 347, 348, 349, 351, 352, 353, 354, 357, 359] (by decide +kernel)
set_option maxRecDepth 20000 in
theorem wsLp_10 : ∀ w ∈ wsL_law0_r10, w ∈ lw_tbl := kin_places _ [361, 788, 789, 790, 791, 694, 395, 396, 397, 398, 399, 400, 401, 343, 356, 402, 404, 5, 405, 407, 408, 409, 410, 792] (by decide +kernel)
set_option maxRecDepth 20000 in
theorem wsLp_11 : ∀ w ∈ wsL_law0_r11, w ∈ lw_tbl := kin_places _ [793, 794, 795, 796, 798, 20, 799, 411, 412, 413, 414, 415, 416, 417, 800, 801, 802, 803, 418, 419, 420, 421, 422, 423] (by decide +kernel)
set_option maxRecDepth 20000 in
theorem wsLp_12 : ∀ w ∈ wsL_law0_r12, w ∈ lw_tbl := kin_places _ [424, 355, 804, 805, 806, 807, 425, 426, 427, 428, 429, 430, 431, 432, 434, 435, 52, 436, 437, 438, 439, 440, 442, 443] (by decide +kernel)
set_option maxRecDepth 20000 in
theorem wsLp_13 : ∀ w ∈ wsL_law0_r13, w ∈ lw_tbl := kin_places _ [808, 809, 810, 811, 812, 707, 451, 452, 453, 454, 455, 456, 457, 434, 459, 460, 461, 462, 463, 464, 465, 466, 467, 468] (by decide +kernel)
set_option maxRecDepth 20000 in
theorem wsLp_14 : ∀ w ∈ wsL_law0_r14, w ∈ lw_tbl := kin_places _ [813, 814, 815, 816, 687, 469, 470, 471, 472, 473, 474, 475, 476, 478, 6, 479, 480, 482, 7, 483, 484, 485, 486, 487] (by decide +kernel)
set_option maxRecDepth 20000 in
theorem wsLp_15 : ∀ w ∈ wsL_law0_r15, w ∈ lw_tbl := kin_places _ [488, 489, 490, 491, 492, 494, 8, 495, 247, 248, 244, 496, 498, 9, 499, 500, 501, 502, 503, 504, 505, 506, 507, 508] (by decide +kernel)
set_option maxRecDepth 20000 in
theorem wsLp_16 : ∀ w ∈ wsL_law0_r16, w ∈ lw_tbl := kin_places _ [510, 10, 511, 512, 514, 11, 515, 358, 516, 518, 12, 519, 520, 522, 13, 523, 524, 525, 526, 527, 362, 529, 530, 53] (by decide +kernel)
set_option maxRecDepth 20000 in
theorem wsLp_17 : ∀ w ∈ wsL_law0_r17, w ∈ lw_tbl := kin_places _ [531, 532, 533, 534, 535, 537, 14, 538, 363, 364, 563, 539, 541, 15, 542, 441, 350, 543, 544, 545, 546, 547, 549, 16] (by decide +kernel)
set_option maxRecDepth 20000 in
theorem wsLp_18 : ∀ w ∈ wsL_law0_r18, w ∈ lw_tbl := kin_places _ [550, 551, 552, 553, 54, 554, 555, 556, 557, 558, 560, 562, 571, 573, 17, 574, 366, 365, 817, 818, 819, 820, 711, 821] (by decide +kernel)
set_option maxRecDepth 20000 in
theorem wsLp_19 : ∀ w ∈ wsL_law0_r19, w ∈ lw_tbl := kin_places _ [823, 21, 824, 825, 827, 22, 828, 829, 831, 23, 832, 833, 835, 24, 836, 837, 839, 25, 840, 841, 843, 26, 844, 845] (by decide +kernel)
set_option maxRecDepth 20000 in
theorem wsLp_20 : ∀ w ∈ wsL_law0_r20, w ∈ lw_tbl := kin_places _ [847, 27, 848, 849, 851, 28, 852, 853, 855, 29, 856, 111, 112, 113, 114, 857, 858, 859, 860, 575, 576, 577, 578, 579] (by decide +kernel)
set_option maxRecDepth 20000 in
theorem wsLp_21 : ∀ w ∈ wsL_law0_r21, w ∈ lw_tbl := kin_places _ [580, 581, 861, 862, 863, 864, 582, 583, 584, 585, 586, 587, 588, 589, 865, 866, 867, 868, 869, 871, 30, 872, 590, 591] (by decide +kernel)
set_option maxRecDepth 20000 in
theorem wsLp_22 : ∀ w ∈ wsL_law0_r22, w ∈ lw_tbl := kin_places _ [592, 593, 594, 595, 596, 360, 873, 874, 875, 876, 597, 598, 599, 600, 601, 602, 603, 877, 878, 879, 880, 604, 605, 606] (by decide +kernel)
set_option maxRecDepth 20000 in
theorem wsLp_23 : ∀ w ∈ wsL_law0_r23, w ∈ lw_tbl := kin_places _ [607, 608, 609, 610, 881, 882, 883, 884, 611, 612, 613, 614, 615, 616, 617, 885, 886, 887, 888, 618, 619, 620, 621, 622] (by decide +kernel)
set_option maxRecDepth 20000 in
theorem wsLp_24 : ∀ w ∈ wsL_law0_r24, w ∈ lw_tbl := kin_places _ [623, 624, 889, 890, 891, 892, 625, 626, 627, 628, 629, 630, 631, 893, 894, 895, 896, 632, 633, 634, 635, 636, 637, 638] (by decide +kernel)
set_option maxRecDepth 20000 in
theorem wsLp_25 : ∀ w ∈ wsL_law0_r25, w ∈ lw_tbl := kin_places _ [897, 898, 899, 900, 115, 116, 117, 118, 901, 902, 903, 904, 639, 640, 641, 642, 643, 644, 645, 905, 906, 907, 908, 646] (by decide +kernel)
set_option maxRecDepth 20000 in
theorem wsLp_26 : ∀ w ∈ wsL_law0_r26, w ∈ lw_tbl := kin_places _ [647, 648, 649, 650, 651, 652, 552, 559, 653, 655, 18, 656, 909, 910, 911, 912, 913, 915, 31, 916, 658, 659, 660, 661] (by decide +kernel)
set_option maxRecDepth 20000 in
theorem wsLp_27 : ∀ w ∈ wsL_law0_r27, w ∈ lw_tbl := kin_places _ [662, 663, 664, 561, 917, 918, 919, 920, 665, 666, 667, 668, 669, 670, 671, 921, 922, 923, 924, 672, 673, 674, 675, 676] (by decide +kernel)
set_option maxRecDepth 20000 in
theorem wsLp_28 : ∀ w ∈ wsL_law0_r28, w ∈ lw_tbl := kin_places _ [677, 678, 925, 926, 927, 928] (by decide +kernel)
set_option maxRecDepth 20000 in
theorem inJx4a65c : ∀ w ∈ wsJx4a65c0, w ∈ lw_tbl := kin_places _ [86, 82, 84] (by decide +kernel)
set_option maxRecDepth 20000 in
theorem inX0 : ∀ w ∈ wsX00, w ∈ lw_tbl := kin_places _ [564, 566, 568] (by decide +kernel)
set_option maxRecDepth 20000 in
theorem inX1 : ∀ w ∈ wsX10, w ∈ lw_tbl := kin_places _ [367, 369, 371, 373, 375, 377, 379, 381, 383, 385, 387, 389, 391] (by decide +kernel)
set_option maxRecDepth 20000 in
theorem inX2 : ∀ w ∈ wsX20, w ∈ lw_tbl := kin_places _ [249, 251, 253, 255] (by decide +kernel)
set_option maxRecDepth 20000 in
theorem inX3 : ∀ w ∈ wsX30, w ∈ lw_tbl := kin_places _ [444, 446, 448] (by decide +kernel)
set_option maxRecDepth 20000 in
theorem inX4 : ∀ w ∈ wsX40, w ∈ lw_tbl := kin_places _ [96, 98, 100, 102, 104, 106, 108] (by decide +kernel)
set_option maxRecDepth 20000 in
theorem inX5 : ∀ w ∈ wsX50, w ∈ lw_tbl := kin_places _ [715, 717, 719, 721, 723, 725, 727, 729, 731, 733, 735, 737, 739, 741, 743, 745, 747, 749, 751, 753, 755, 757, 759, 761, 763, 765, 767, 769] (by decide +kernel)
theorem wsLx_0 : ∀ w ∈ (vx_atS RX4 47 "java/lang/IllegalStateException" ["java/lang/RuntimeException", "java/lang/Exception"]).filter goodWord, w ∈ lw_tbl := by decide +kernel
theorem wsLx_1 : ∀ w ∈ (vx_atS RX4 105 "java/lang/IndexOutOfBoundsException" ["java/lang/RuntimeException", "java/lang/Exception"]).filter goodWord, w ∈ lw_tbl := by decide +kernel
theorem wsLx_2 : ∀ w ∈ (vx_atS RX4 179 "java/lang/IllegalArgumentException" ["java/lang/RuntimeException", "java/lang/Exception"]).filter goodWord, w ∈ lw_tbl := by decide +kernel
theorem wsL_law_in : ∀ w ∈ wsL_law, w ∈ lw_tbl := by
  unfold wsL_law wsL_law0
  exact kin_app (kin_app (kin_app (kin_app (kin_app (kin_app (kin_app (kin_app (kin_app (kin_app (kin_app (kin_app wsLp_1 (kin_app wsLp_2 (kin_app wsLp_3 (kin_app wsLp_4 (kin_app wsLp_5 (kin_app wsLp_6 (kin_app wsLp_7 (kin_app wsLp_8 (kin_app wsLp_9 (kin_app wsLp_10 (kin_app wsLp_11 (kin_app wsLp_12 (kin_app wsLp_13 (kin_app wsLp_14 (kin_app wsLp_15 (kin_app wsLp_16 (kin_app wsLp_17 (kin_app wsLp_18 (kin_app wsLp_19 (kin_app wsLp_20 (kin_app wsLp_21 (kin_app wsLp_22 (kin_app wsLp_23 (kin_app wsLp_24 (kin_app wsLp_25 (kin_app wsLp_26 (kin_app wsLp_27 wsLp_28))))))))))))))))))))))))))) inX4) inX5) inJx4a65c) inX2) inX1) inX3) inX0) (fun _ h => absurd h List.not_mem_nil)) wsLx_0) wsLx_1) wsLx_2
