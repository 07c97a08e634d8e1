set_option maxRecDepth 20000 in
theorem wl_L_law_r1 : GoodIn lw_tbl wsL_law_r1 := goodIn_r _ [104, 105, 93, 745, 746, 100, 106, 107, 108, 109, 110, 111, 137, 296, 297, 112, 113, 94, 298, 138, 139, 95, 299, 300] (by decide +kernel) (by decide +kernel)
set_option maxRecDepth 20000 in
theorem wl_L_law_r2 : GoodIn lw_tbl wsL_law_r2 := goodIn_r _ [214, 215, 96, 301, 302, 303, 232, 233, 97, 304, 254, 255, 98, 305, 273, 274, 99, 306, 307, 308, 309, 115, 116, 117] (by decide +kernel) (by decide +kernel)
set_option maxRecDepth 20000 in
theorem wl_L_law_r3 : GoodIn lw_tbl wsL_law_r3 := goodIn_r _ [118, 119, 120, 121, 122, 123, 141, 142, 143, 144, 149, 152, 157, 160, 163, 166, 171, 176, 179, 184, 187, 217, 218, 219] (by decide +kernel) (by decide +kernel)
set_option maxRecDepth 20000 in
theorem wl_L_law_r4 : GoodIn lw_tbl wsL_law_r4 := goodIn_r _ [220, 221, 222, 235, 236, 237, 238, 239, 242, 243, 257, 258, 259, 260, 261, 262, 263, 276, 277, 278, 279, 281, 282, 283] (by decide +kernel) (by decide +kernel)
set_option maxRecDepth 20000 in
theorem wl_L_law_r5 : GoodIn lw_tbl wsL_law_r5 := goodIn_r _ [285, 747, 748, 749, 750, 847, 760, 762, 763, 764, 765, 766, 767, 768, 769, 770, 771, 772, 779, 848, 780, 781, 782, 783] (by decide +kernel) (by decide +kernel)
set_option maxRecDepth 20000 in
theorem wl_L_law_r6 : GoodIn lw_tbl wsL_law_r6 := goodIn_r _ [784, 785, 786, 751, 753, 62, 754, 773, 755, 757, 63, 758, 787, 339, 340, 341, 342, 849, 850, 851, 852, 761, 853, 854] (by decide +kernel) (by decide +kernel)
set_option maxRecDepth 20000 in
theorem wl_L_law_r7 : GoodIn lw_tbl wsL_law_r7 := goodIn_r _ [855, 343, 344, 345, 346, 856, 857, 858, 859, 347, 348, 349, 350, 353, 0, 354, 355, 356, 101, 357, 360, 1, 361, 362] (by decide +kernel) (by decide +kernel)
set_option maxRecDepth 20000 in
theorem wl_L_law_r8 : GoodIn lw_tbl wsL_law_r8 := goodIn_r _ [364, 2, 365, 366, 367, 368, 369, 371, 3, 372, 373, 375, 4, 376, 377, 379, 5, 380, 381, 383, 6, 384, 385, 387] (by decide +kernel) (by decide +kernel)
set_option maxRecDepth 20000 in
theorem wl_L_law_r9 : GoodIn lw_tbl wsL_law_r9 := goodIn_r _ [7, 388, 389, 391, 8, 392, 393, 395, 9, 396, 397, 399, 10, 400, 401, 403, 11, 404, 405, 407, 12, 408, 411, 13] (by decide +kernel) (by decide +kernel)
set_option maxRecDepth 20000 in
theorem wl_L_law_r10 : GoodIn lw_tbl wsL_law_r10 := goodIn_r _ [412, 413, 415, 414, 102, 860, 861, 862, 863, 774, 778, 776, 864, 866, 64, 867, 775, 777, 868, 870, 65, 871, 872, 874] (by decide +kernel) (by decide +kernel)
set_option maxRecDepth 20000 in
theorem wl_L_law_r11 : GoodIn lw_tbl wsL_law_r11 := goodIn_r _ [66, 875, 876, 878, 67, 879, 880, 882, 68, 883, 884, 886, 69, 887, 416, 417, 418, 419, 422, 14, 423, 426, 15, 427] (by decide +kernel) (by decide +kernel)
set_option maxRecDepth 20000 in
theorem wl_L_law_r12 : GoodIn lw_tbl wsL_law_r12 := goodIn_r _ [428, 430, 16, 431, 432, 434, 17, 435, 438, 18, 439, 440, 442, 19, 443, 888, 889, 890, 891, 892, 894, 70, 895, 896] (by decide +kernel) (by decide +kernel)
set_option maxRecDepth 20000 in
theorem wl_L_law_r13 : GoodIn lw_tbl wsL_law_r13 := goodIn_r _ [898, 71, 899, 900, 902, 72, 903, 904, 906, 73, 907, 444, 445, 446, 447, 450, 20, 451, 454, 21, 455, 456, 458, 22] (by decide +kernel) (by decide +kernel)
set_option maxRecDepth 20000 in
theorem wl_L_law_r14 : GoodIn lw_tbl wsL_law_r14 := goodIn_r _ [459, 461, 463, 23, 464, 908, 909, 910, 911, 912, 914, 74, 915, 916, 918, 75, 919, 920, 922, 76, 923, 466, 467, 468] (by decide +kernel) (by decide +kernel)
set_option maxRecDepth 20000 in
theorem wl_L_law_r15 : GoodIn lw_tbl wsL_law_r15 := goodIn_r _ [469, 924, 925, 926, 927, 470, 471, 472, 473, 476, 24, 477, 480, 25, 481, 484, 26, 485, 486, 488, 27, 489, 492, 28] (by decide +kernel) (by decide +kernel)
set_option maxRecDepth 20000 in
theorem wl_L_law_r16 : GoodIn lw_tbl wsL_law_r16 := goodIn_r _ [493, 500, 496, 498, 29, 499, 501, 503, 30, 504, 505, 507, 31, 508, 509, 511, 32, 512, 515, 33, 516, 522, 34, 523] (by decide +kernel) (by decide +kernel)
set_option maxRecDepth 20000 in
theorem wl_L_law_r17 : GoodIn lw_tbl wsL_law_r17 := goodIn_r _ [524, 526, 35, 527, 530, 36, 531, 532, 928, 929, 930, 931, 932, 934, 77, 935, 936, 938, 78, 939, 940, 942, 79, 943] (by decide +kernel) (by decide +kernel)
set_option maxRecDepth 20000 in
theorem wl_L_law_r18 : GoodIn lw_tbl wsL_law_r18 := goodIn_r _ [944, 946, 80, 947, 948, 950, 81, 951, 952, 954, 82, 955, 956, 958, 83, 959, 960, 962, 84, 963, 533, 534, 535, 536] (by decide +kernel) (by decide +kernel)
set_option maxRecDepth 20000 in
theorem wl_L_law_r19 : GoodIn lw_tbl wsL_law_r19 := goodIn_r _ [539, 37, 540, 543, 38, 544, 545, 546, 548, 39, 549, 964, 965, 966, 967, 968, 970, 85, 971, 972, 974, 86, 975, 976] (by decide +kernel) (by decide +kernel)
set_option maxRecDepth 20000 in
theorem wl_L_law_r20 : GoodIn lw_tbl wsL_law_r20 := goodIn_r _ [978, 87, 979, 550, 551, 552, 553, 980, 981, 982, 983, 555, 556, 557, 558, 984, 985, 986, 987, 559, 560, 561, 562, 988] (by decide +kernel) (by decide +kernel)
set_option maxRecDepth 20000 in
theorem wl_L_law_r21 : GoodIn lw_tbl wsL_law_r21 := goodIn_r _ [989, 990, 991, 563, 564, 565, 566, 569, 40, 570, 992, 993, 994, 995, 571, 572, 573, 574, 577, 41, 578, 996, 997, 998] (by decide +kernel) (by decide +kernel)
set_option maxRecDepth 20000 in
theorem wl_L_law_r22 : GoodIn lw_tbl wsL_law_r22 := goodIn_r _ [999, 579, 580, 581, 582, 585, 42, 586, 587, 589, 43, 590, 591, 593, 44, 594, 595, 597, 45, 598, 1000, 1001, 1002, 1003] (by decide +kernel) (by decide +kernel)
set_option maxRecDepth 20000 in
theorem wl_L_law_r23 : GoodIn lw_tbl wsL_law_r23 := goodIn_r _ [599, 600, 601, 602, 1004, 1005, 1006, 1007, 603, 604, 605, 606, 609, 46, 610, 613, 47, 614, 615, 616, 617, 618, 620, 48] (by decide +kernel) (by decide +kernel)
set_option maxRecDepth 20000 in
theorem wl_L_law_r24 : GoodIn lw_tbl wsL_law_r24 := goodIn_r _ [621, 622, 624, 625, 103, 626, 627, 628, 629, 1008, 1009, 1010, 1011, 1012, 1014, 88, 1015, 1016, 1017, 1018, 1019, 1021, 89, 1022] (by decide +kernel) (by decide +kernel)
set_option maxRecDepth 20000 in
theorem wl_L_law_r25 : GoodIn lw_tbl wsL_law_r25 := goodIn_r _ [1023, 1025, 90, 1026, 1027, 1029, 91, 1030, 636, 637, 638, 639, 642, 49, 643, 1031, 1032, 1033, 1034, 644, 645, 646, 647, 650] (by decide +kernel) (by decide +kernel)
set_option maxRecDepth 20000 in
theorem wl_L_law_r26 : GoodIn lw_tbl wsL_law_r26 := goodIn_r _ [50, 651, 652, 653, 1035, 1036, 1037, 1038, 654, 655, 656, 657, 660, 51, 661, 662, 664, 52, 665, 668, 53, 669, 670, 671] (by decide +kernel) (by decide +kernel)
set_option maxRecDepth 20000 in
theorem wl_L_law_r27 : GoodIn lw_tbl wsL_law_r27 := goodIn_r _ [672, 1039, 1040, 1041, 1042, 673, 674, 675, 676, 1043, 1044, 1045, 1046, 677, 678, 679, 680, 1047, 1048, 1049, 1050, 681, 682, 683] (by decide +kernel) (by decide +kernel)
set_option maxRecDepth 20000 in
theorem wl_L_law_r28 : GoodIn lw_tbl wsL_law_r28 := goodIn_r _ [684, 685, 687, 54, 688, 1051, 1052, 1053, 1054, 690, 691, 692, 693, 694, 695, 697, 55, 698, 699, 701, 56, 702, 703, 704] (by decide +kernel) (by decide +kernel)
set_option maxRecDepth 20000 in
theorem wl_L_law_r29 : GoodIn lw_tbl wsL_law_r29 := goodIn_r _ [706, 57, 707, 708, 709, 711, 58, 712, 713, 714, 716, 59, 717, 718, 719, 720, 722, 60, 723, 724, 1055, 1056, 1057, 1058] (by decide +kernel) (by decide +kernel)
set_option maxRecDepth 20000 in
theorem wl_L_law_r30 : GoodIn lw_tbl wsL_law_r30 := goodIn_r _ [1059, 759, 1060, 1061, 1062, 1063, 1065, 1064, 725, 726, 727, 728, 731, 61, 732, 1066, 1067, 1068, 1069, 733, 734, 735, 736, 1070] (by decide +kernel) (by decide +kernel)
set_option maxRecDepth 20000 in
theorem wl_L_law_r31 : GoodIn lw_tbl wsL_law_r31 := goodIn_r _ [1071, 1072, 1073, 737, 738, 739, 740, 1074, 1075, 1076, 1077, 741, 742, 743, 744, 1078, 1079, 1080, 1081] (by decide +kernel) (by decide +kernel)
set_option maxRecDepth 20000 in
theorem wl_X00 : GoodIn lw_tbl wsX00 := goodIn_r _ [189, 191, 193, 195, 197, 199, 201, 203, 205, 207, 209, 211] (by decide +kernel) (by decide +kernel)
set_option maxRecDepth 20000 in
theorem wl_X10 : GoodIn lw_tbl wsX10 := goodIn_r _ [224, 226, 228] (by decide +kernel) (by decide +kernel)
set_option maxRecDepth 20000 in
theorem wl_X20 : GoodIn lw_tbl wsX20 := goodIn_r _ [245, 247, 249, 251] (by decide +kernel) (by decide +kernel)
set_option maxRecDepth 20000 in
theorem wl_X30 : GoodIn lw_tbl wsX30 := goodIn_r _ [124, 126, 128, 130, 132, 134] (by decide +kernel) (by decide +kernel)
set_option maxRecDepth 20000 in
theorem wl_X40 : GoodIn lw_tbl wsX40 := goodIn_r _ [287, 289, 291, 293] (by decide +kernel) (by decide +kernel)
set_option maxRecDepth 20000 in
theorem wl_X50 : GoodIn lw_tbl wsX50 := goodIn_r _ [264, 266, 268, 270] (by decide +kernel) (by decide +kernel)
set_option maxRecDepth 20000 in
theorem wl_X60 : GoodIn lw_tbl wsX60 := goodIn_r _ [310, 312, 314, 316, 318, 320, 322, 324, 326, 328, 330, 332, 334, 336] (by decide +kernel) (by decide +kernel)
set_option maxRecDepth 20000 in
theorem wl_X70 : GoodIn lw_tbl wsX70 := goodIn_r _ [788, 790, 792, 794, 796, 798, 800, 802, 804, 806, 808, 810, 812, 814, 816, 818, 820, 822, 824, 826, 828, 830, 832, 834, 836, 838, 840, 842, 844] (by decide +kernel) (by decide +kernel)
theorem wl_all : GoodIn lw_tbl wsL_law := by
  unfold wsL_law
  exact goodIn_app (goodIn_app (goodIn_app (goodIn_app (goodIn_app (goodIn_app (goodIn_app (goodIn_app (goodIn_app (goodIn_app wl_L_law_r1 (goodIn_app wl_L_law_r2 (goodIn_app wl_L_law_r3 (goodIn_app wl_L_law_r4 (goodIn_app wl_L_law_r5 (goodIn_app wl_L_law_r6 (goodIn_app wl_L_law_r7 (goodIn_app wl_L_law_r8 (goodIn_app wl_L_law_r9 (goodIn_app wl_L_law_r10 (goodIn_app wl_L_law_r11 (goodIn_app wl_L_law_r12 (goodIn_app wl_L_law_r13 (goodIn_app wl_L_law_r14 (goodIn_app wl_L_law_r15 (goodIn_app wl_L_law_r16 (goodIn_app wl_L_law_r17 (goodIn_app wl_L_law_r18 (goodIn_app wl_L_law_r19 (goodIn_app wl_L_law_r20 (goodIn_app wl_L_law_r21 (goodIn_app wl_L_law_r22 (goodIn_app wl_L_law_r23 (goodIn_app wl_L_law_r24 (goodIn_app wl_L_law_r25 (goodIn_app wl_L_law_r26 (goodIn_app wl_L_law_r27 (goodIn_app wl_L_law_r28 (goodIn_app wl_L_law_r29 (goodIn_app wl_L_law_r30 (wl_L_law_r31))))))))))))))))))))))))))))))) wl_X60) wl_X70) wl_X30) wl_X00) wl_X10) wl_X20) wl_X50) wl_X40) (fun w h => by cases h)
theorem wsL_law_in : ∀ w ∈ wsL_law, w ∈ lw_tbl := fun w h => (wl_all w h).1
theorem inX0 : ∀ w ∈ wsX00, w ∈ lw_tbl := fun w h => (wl_X00 w h).1
theorem inX1 : ∀ w ∈ wsX10, w ∈ lw_tbl := fun w h => (wl_X10 w h).1
theorem inX2 : ∀ w ∈ wsX20, w ∈ lw_tbl := fun w h => (wl_X20 w h).1
theorem inX3 : ∀ w ∈ wsX30, w ∈ lw_tbl := fun w h => (wl_X30 w h).1
theorem inX4 : ∀ w ∈ wsX40, w ∈ lw_tbl := fun w h => (wl_X40 w h).1
theorem inX5 : ∀ w ∈ wsX50, w ∈ lw_tbl := fun w h => (wl_X50 w h).1
theorem inX6 : ∀ w ∈ wsX60, w ∈ lw_tbl := fun w h => (wl_X60 w h).1
theorem inX7 : ∀ w ∈ wsX70, w ∈ lw_tbl := fun w h => (wl_X70 w h).1

