/-! THE LAW'S WORDS (printed by wip/whole/words.py) -/
theorem mem_r {Ts ws : List Cond} (is : List Nat) (h : is.map (fun i => Ts[i]?) = ws.map some) : ∀ w ∈ ws, w ∈ Ts := by
  intro w hw
  have : some w ∈ is.map (fun i => Ts[i]?) := by rw [h]; exact List.mem_map.mpr ⟨w, hw, rfl⟩
  obtain ⟨i, -, hi⟩ := List.mem_map.mp this
  exact List.mem_of_getElem? hi
set_option maxRecDepth 100000 in
theorem wsL_law_r1_in : ∀ w ∈ wsL_law_r1, w ∈ lw_tbl := mem_r [82, 83, 69, 747, 748, 73, 1175, 84, 85, 86, 87, 88, 89, 90, 91, 70, 213, 214, 215, 165, 166, 71, 217, 192] (by decide +kernel)
set_option maxRecDepth 100000 in
theorem wsL_law_r2_in : ∀ w ∈ wsL_law_r2, w ∈ lw_tbl := mem_r [218, 164, 219, 194, 72, 93, 94, 95, 96, 99, 102, 112, 114, 116, 118, 121, 124, 127, 129, 131, 168, 169, 170, 191] (by decide +kernel)
set_option maxRecDepth 100000 in
theorem wsL_law_r3_in : ∀ w ∈ wsL_law_r3, w ∈ lw_tbl := mem_r [173, 196, 197, 198, 212, 203, 749, 750, 751, 752, 753, 754, 755, 757, 758, 760, 761, 762, 763, 235, 236, 237, 238, 243] (by decide +kernel)
set_option maxRecDepth 100000 in
theorem wsL_law_r4_in : ∀ w ∈ wsL_law_r4, w ∈ lw_tbl := mem_r [239, 241, 0, 242, 108, 248, 98, 244, 246, 1, 247, 249, 251, 2, 252, 101, 253, 255, 3, 256, 104, 257, 258, 259] (by decide +kernel)
set_option maxRecDepth 100000 in
theorem wsL_law_r5_in : ∀ w ∈ wsL_law_r5, w ∈ lw_tbl := mem_r [799, 800, 801, 802, 803, 813, 818, 804, 805, 806, 807, 808, 809, 810, 811, 812, 814, 816, 28, 817, 819, 821, 29, 822] (by decide +kernel)
set_option maxRecDepth 100000 in
theorem wsL_law_r6_in : ∀ w ∈ wsL_law_r6, w ∈ lw_tbl := mem_r [260, 261, 262, 263, 273, 264, 265, 266, 267, 268, 269, 270, 271, 272, 274, 275, 276, 277, 107, 823, 824, 825, 826, 827] (by decide +kernel)
set_option maxRecDepth 100000 in
theorem wsL_law_r7_in : ∀ w ∈ wsL_law_r7, w ∈ lw_tbl := mem_r [828, 829, 830, 831, 833, 30, 834, 835, 837, 31, 838, 278, 279, 280, 281, 113, 115, 117, 119, 122, 125, 128, 130, 282] (by decide +kernel)
set_option maxRecDepth 100000 in
theorem wsL_law_r8_in : ∀ w ∈ wsL_law_r8, w ∈ lw_tbl := mem_r [283, 284, 285, 286, 287, 288, 289, 290, 291, 293, 4, 294, 839, 840, 841, 842, 847, 843, 845, 32, 846, 848, 850, 33] (by decide +kernel)
set_option maxRecDepth 100000 in
theorem wsL_law_r9_in : ∀ w ∈ wsL_law_r9, w ∈ lw_tbl := mem_r [851, 852, 854, 34, 855, 856, 858, 35, 859, 860, 862, 36, 863, 295, 296, 297, 298, 299, 300, 301, 302, 304, 5, 305] (by decide +kernel)
set_option maxRecDepth 100000 in
theorem wsL_law_r10_in : ∀ w ∈ wsL_law_r10, w ∈ lw_tbl := mem_r [306, 307, 308, 309, 864, 865, 866, 867, 868, 870, 37, 871, 310, 311, 312, 313, 872, 873, 874, 875, 314, 315, 316, 317] (by decide +kernel)
set_option maxRecDepth 100000 in
theorem wsL_law_r11_in : ∀ w ∈ wsL_law_r11, w ∈ lw_tbl := mem_r [323, 318, 319, 74, 320, 321, 876, 877, 878, 879, 883, 880, 881, 882, 324, 325, 326, 327, 328, 329, 330, 331, 332, 333] (by decide +kernel)
set_option maxRecDepth 100000 in
theorem wsL_law_r12_in : ∀ w ∈ wsL_law_r12, w ∈ lw_tbl := mem_r [334, 335, 336, 337, 338, 339, 348, 349, 75, 350, 340, 342, 6, 343, 344, 346, 7, 347, 351, 352, 353, 354, 355, 357] (by decide +kernel)
set_option maxRecDepth 100000 in
theorem wsL_law_r13_in : ∀ w ∈ wsL_law_r13, w ∈ lw_tbl := mem_r [8, 358, 110, 884, 885, 886, 887, 888, 890, 38, 891, 892, 894, 39, 895, 896, 898, 40, 899, 900, 902, 41, 903, 904] (by decide +kernel)
set_option maxRecDepth 100000 in
theorem wsL_law_r14_in : ∀ w ∈ wsL_law_r14, w ∈ lw_tbl := mem_r [906, 42, 907, 359, 360, 361, 362, 111, 363, 364, 365, 366, 105, 908, 909, 910, 911, 912, 914, 43, 915, 367, 368, 369] (by decide +kernel)
set_option maxRecDepth 100000 in
theorem wsL_law_r15_in : ∀ w ∈ wsL_law_r15, w ∈ lw_tbl := mem_r [370, 371, 372, 373, 374, 375, 376, 377, 378, 379, 380, 381, 382, 383, 384, 385, 387, 9, 388, 916, 917, 918, 919, 920] (by decide +kernel)
set_option maxRecDepth 100000 in
theorem wsL_law_r16_in : ∀ w ∈ wsL_law_r16, w ∈ lw_tbl := mem_r [921, 923, 44, 924, 389, 390, 391, 392, 106, 925, 926, 927, 928, 393, 394, 395, 396, 397, 398, 399, 400, 401, 929, 930] (by decide +kernel)
set_option maxRecDepth 100000 in
theorem wsL_law_r17_in : ∀ w ∈ wsL_law_r17, w ∈ lw_tbl := mem_r [931, 932, 933, 935, 45, 936, 402, 403, 404, 405, 406, 407, 408, 409, 410, 411, 413, 10, 414, 415, 937, 938, 939, 940] (by decide +kernel)
set_option maxRecDepth 100000 in
theorem wsL_law_r18_in : ∀ w ∈ wsL_law_r18, w ∈ lw_tbl := mem_r [941, 943, 46, 944, 945, 947, 47, 948, 949, 416, 417, 418, 419, 420, 421, 422, 423, 424, 425, 950, 951, 952, 953, 426] (by decide +kernel)
set_option maxRecDepth 100000 in
theorem wsL_law_r19_in : ∀ w ∈ wsL_law_r19, w ∈ lw_tbl := mem_r [427, 428, 429, 430, 432, 11, 433, 954, 955, 956, 957, 434, 435, 436, 437, 438, 440, 12, 441, 442, 443, 444, 445, 958] (by decide +kernel)
set_option maxRecDepth 100000 in
theorem wsL_law_r20_in : ∀ w ∈ wsL_law_r20, w ∈ lw_tbl := mem_r [959, 960, 961, 962, 963, 965, 48, 966, 967, 969, 49, 970, 971, 973, 50, 974, 446, 447, 448, 449, 975, 976, 977, 978] (by decide +kernel)
set_option maxRecDepth 100000 in
theorem wsL_law_r21_in : ∀ w ∈ wsL_law_r21, w ∈ lw_tbl := mem_r [979, 981, 51, 982, 450, 451, 452, 453, 983, 984, 985, 986, 987, 454, 455, 456, 457, 458, 988, 989, 990, 991, 459, 460] (by decide +kernel)
set_option maxRecDepth 100000 in
theorem wsL_law_r22_in : ∀ w ∈ wsL_law_r22, w ∈ lw_tbl := mem_r [461, 462, 992, 993, 994, 995, 463, 464, 465, 466, 467, 468, 469, 470, 471, 472, 996, 997, 998, 999, 1000, 1002, 52, 1003] (by decide +kernel)
set_option maxRecDepth 100000 in
theorem wsL_law_r23_in : ∀ w ∈ wsL_law_r23, w ∈ lw_tbl := mem_r [473, 474, 475, 476, 1004, 1005, 1006, 1007, 1008, 1010, 53, 1011, 477, 478, 479, 480, 1012, 1013, 1014, 1015, 481, 482, 483, 484] (by decide +kernel)
set_option maxRecDepth 100000 in
theorem wsL_law_r24_in : ∀ w ∈ wsL_law_r24, w ∈ lw_tbl := mem_r [1016, 1017, 1018, 1019, 485, 486, 487, 488, 1020, 1021, 1022, 1023, 489, 490, 491, 492, 1024, 1025, 1026, 1027, 493, 494, 495, 496] (by decide +kernel)
set_option maxRecDepth 100000 in
theorem wsL_law_r25_in : ∀ w ∈ wsL_law_r25, w ∈ lw_tbl := mem_r [497, 498, 499, 500, 1028, 1029, 1030, 1031, 1032, 1034, 54, 1035, 501, 502, 503, 504, 1036, 1037, 1038, 1039, 505, 506, 507, 508] (by decide +kernel)
set_option maxRecDepth 100000 in
theorem wsL_law_r26_in : ∀ w ∈ wsL_law_r26, w ∈ lw_tbl := mem_r [509, 1040, 1041, 1042, 1043, 1044, 1045, 510, 511, 512, 513, 132, 1046, 1047, 1048, 1049, 514, 515, 516, 517, 172, 518, 519, 520] (by decide +kernel)
set_option maxRecDepth 100000 in
theorem wsL_law_r27_in : ∀ w ∈ wsL_law_r27, w ∈ lw_tbl := mem_r [521, 171, 1050, 1051, 1052, 1053, 1054, 759, 522, 523, 524, 525, 526, 527, 528, 529, 1055, 1056, 1057, 1058, 530, 531, 532, 533] (by decide +kernel)
set_option maxRecDepth 100000 in
theorem wsL_law_r28_in : ∀ w ∈ wsL_law_r28, w ∈ lw_tbl := mem_r [534, 535, 536, 537, 176, 174, 175, 538, 540, 13, 541, 542, 544, 14, 545, 546, 547, 548, 549, 551, 15, 552, 109, 553] (by decide +kernel)
set_option maxRecDepth 100000 in
theorem wsL_law_r29_in : ∀ w ∈ wsL_law_r29, w ∈ lw_tbl := mem_r [555, 16, 556, 557, 558, 559, 566, 568, 17, 569, 570, 571, 572, 76, 573, 1176, 574, 575, 576, 577, 578, 1177, 580, 581] (by decide +kernel)
set_option maxRecDepth 100000 in
theorem wsL_law_r30_in : ∀ w ∈ wsL_law_r30, w ∈ lw_tbl := mem_r [582, 583, 584, 585, 586, 587, 588, 589, 77, 590, 591, 592, 593, 594, 596, 597, 78, 598, 599, 600, 79, 601, 602, 603] (by decide +kernel)
set_option maxRecDepth 100000 in
theorem wsL_law_r31_in : ∀ w ∈ wsL_law_r31, w ∈ lw_tbl := mem_r [604, 605, 606, 607, 608, 609, 610, 611, 612, 614, 616, 618, 620, 18, 621, 177, 97, 120, 123, 126, 623, 625, 19, 626] (by decide +kernel)
set_option maxRecDepth 100000 in
theorem wsL_law_r32_in : ∀ w ∈ wsL_law_r32, w ∈ lw_tbl := mem_r [627, 629, 20, 630, 634, 635, 637, 639, 21, 640, 642, 644, 22, 645, 100, 647, 649, 23, 650, 103, 1059, 1060, 1061, 1062] (by decide +kernel)
set_option maxRecDepth 100000 in
theorem wsL_law_r33_in : ∀ w ∈ wsL_law_r33, w ∈ lw_tbl := mem_r [766, 765, 764, 1063, 1065, 55, 1066, 767, 1067, 1069, 56, 1070, 1071, 1072, 1073, 1074, 1075, 1076, 1077, 1079, 57, 1080, 1081, 1083] (by decide +kernel)
set_option maxRecDepth 100000 in
theorem wsL_law_r34_in : ∀ w ∈ wsL_law_r34, w ∈ lw_tbl := mem_r [58, 1084, 1085, 1087, 59, 1088, 1089, 1091, 60, 1092, 1093, 1095, 61, 1096, 1097, 1099, 62, 1100, 1101, 1103, 63, 1104, 1105, 1107] (by decide +kernel)
set_option maxRecDepth 100000 in
theorem wsL_law_r35_in : ∀ w ∈ wsL_law_r35, w ∈ lw_tbl := mem_r [64, 1108, 1109, 1111, 65, 1112, 651, 652, 653, 654, 661, 655, 656, 657, 658, 659, 660, 662, 663, 664, 665, 199, 201, 666] (by decide +kernel)
set_option maxRecDepth 100000 in
theorem wsL_law_r36_in : ∀ w ∈ wsL_law_r36, w ∈ lw_tbl := mem_r [667, 80, 668, 1113, 1114, 1115, 1116, 1120, 1117, 1118, 1119, 669, 670, 671, 672, 204, 673, 675, 24, 676, 681, 677, 678, 679] (by decide +kernel)
set_option maxRecDepth 100000 in
theorem wsL_law_r37_in : ∀ w ∈ wsL_law_r37, w ∈ lw_tbl := mem_r [680, 682, 683, 684, 685, 686, 687, 688, 689, 690, 691, 693, 25, 694, 1121, 1122, 1123, 1124, 1125, 1126, 1127, 1128, 695, 696] (by decide +kernel)
set_option maxRecDepth 100000 in
theorem wsL_law_r38_in : ∀ w ∈ wsL_law_r38, w ∈ lw_tbl := mem_r [697, 698, 200, 703, 705, 704, 81, 699, 700, 701, 702, 1129, 1130, 1131, 1132, 706, 707, 708, 709, 202, 710, 1133, 1134, 1135] (by decide +kernel)
set_option maxRecDepth 100000 in
theorem wsL_law_r39_in : ∀ w ∈ wsL_law_r39, w ∈ lw_tbl := mem_r [1136, 1137, 1139, 66, 1140, 711, 712, 713, 714, 1141, 1142, 1143, 1144, 715, 716, 717, 718, 719, 721, 26, 722, 1145, 1146, 1147] (by decide +kernel)
set_option maxRecDepth 100000 in
theorem wsL_law_r40_in : ∀ w ∈ wsL_law_r40, w ∈ lw_tbl := mem_r [1148, 723, 724, 725, 726, 216, 1149, 1150, 1151, 1152, 756, 727, 728, 729, 730, 1153, 1154, 1155, 1156, 731, 732, 733, 734, 1157] (by decide +kernel)
set_option maxRecDepth 100000 in
theorem wsL_law_r41_in : ∀ w ∈ wsL_law_r41, w ∈ lw_tbl := mem_r [1158, 1159, 1160, 735, 736, 737, 738, 739, 741, 27, 742, 1161, 1162, 1163, 1164, 1165, 1167, 67, 1168, 743, 744, 745, 746, 1169] (by decide +kernel)
set_option maxRecDepth 100000 in
theorem wsL_law_r42_in : ∀ w ∈ wsL_law_r42, w ∈ lw_tbl := mem_r [1170, 1171, 1172, 1173, 1174] (by decide +kernel)
