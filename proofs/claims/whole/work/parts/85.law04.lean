set_option maxRecDepth 20000 in
theorem ggL_law_X4_feed : GoodIn wsL_law wsX4_feed := goodIn_r _ [619, 71, 22, 620, 124, 79, 80, 81, 2, 82, 26, 621, 622, 623, 21, 624, 625, 48, 989, 990, 991, 992, 993, 994, 995, 1026, 1027, 1028, 1029, 1030, 1031] (by decide +kernel) (by decide +kernel)
set_option maxRecDepth 20000 in
theorem gL_law_X4_feed : GoodIn wsL_law (wsV RL 133 RX4 yX4_feed wsX4_feed) := goodIn_app (goodIn_of _ (by decide +kernel)) ggL_law_X4_feed
set_option maxRecDepth 20000 in
theorem ggL_law_X5_feed : GoodIn wsL_law wsX5_feed := goodIn_r _ [629, 630, 101, 631, 146, 62, 103, 104, 5, 105, 112, 113, 114, 115, 61, 996, 997, 998, 999, 1000, 1001, 1002, 1003, 1004, 1005, 1006, 1007, 1008, 1009, 1010] (by decide +kernel) (by decide +kernel)
set_option maxRecDepth 20000 in
theorem gL_law_X5_feed : GoodIn wsL_law (wsV RL 136 RX5 yX5_feed wsX5_feed) := goodIn_app (goodIn_of _ (by decide +kernel)) ggL_law_X5_feed
set_option maxRecDepth 20000 in
theorem ggL_law_X4_wipe : GoodIn wsL_law wsX4_wipe := goodIn_r _ [635, 22, 636, 637, 638, 21, 639, 625, 989, 990, 991, 992, 993, 994, 995, 1026, 1027, 1028, 1029, 1030, 1031] (by decide +kernel) (by decide +kernel)
set_option maxRecDepth 20000 in
theorem gL_law_X4_wipe : GoodIn wsL_law (wsV RL 137 RX4 yX4_wipe wsX4_wipe) := goodIn_app (goodIn_of _ (by decide +kernel)) ggL_law_X4_wipe
set_option maxRecDepth 20000 in
theorem ggL_law_X5_wipe : GoodIn wsL_law wsX5_wipe := goodIn_r _ [643, 631, 996, 997, 998, 999, 1000, 1001, 1002, 1003, 1004, 1005, 1006, 1007, 1008, 1009, 1010] (by decide +kernel) (by decide +kernel)
set_option maxRecDepth 20000 in
theorem gL_law_X5_wipe : GoodIn wsL_law (wsV RL 140 RX5 yX5_wipe wsX5_wipe) := goodIn_app (goodIn_of _ (by decide +kernel)) ggL_law_X5_wipe
set_option maxRecDepth 20000 in
theorem ggL_law_X4_text : GoodIn wsL_law wsX4_text := goodIn_r _ [647, 22, 16, 447, 448, 449, 2, 450, 17, 451, 452, 453, 15, 454, 32, 33, 34, 324, 138, 290, 35, 36, 37, 38, 39, 40, 41, 42, 648, 649, 650, 21, 651, 652, 653, 654, 655, 656, 657, 658, 625, 659, 660, 661, 662, 48, 663, 664, 665, 666, 667, 668, 669, 670, 671, 672, 673, 674, 675, 676, 243, 677, 678, 679, 680, 681, 682, 683, 684, 685, 686, 687, 688, 689, 690, 691, 692, 693, 694, 695, 696, 697, 698, 699, 700, 701, 702, 703, 704, 705, 706, 707, 708, 709, 710, 711, 712, 713, 714, 715, 716, 717, 718, 719, 720, 721, 722, 723, 724, 725, 726, 727, 728, 729, 730, 731, 732, 733, 734, 735, 736, 737, 738, 739, 740, 741, 742, 743, 744, 745, 746, 747, 748, 135, 136, 137, 749, 168, 169, 170, 750, 751, 752, 753, 754, 755, 756, 757, 758, 759, 760, 761, 762, 763, 636, 637, 638, 639, 989, 990, 991, 992, 993, 994, 995, 1011, 1012, 1013, 1014, 1015, 1016, 1017, 1018, 1019, 1020, 1021, 1022, 1023, 1024, 1025, 1026, 1027, 1028, 1029, 1030, 1031] (by decide +kernel) (by decide +kernel)
set_option maxRecDepth 20000 in
theorem gL_law_X4_text : GoodIn wsL_law (wsV RL 141 RX4 yX4_text wsX4_text) := goodIn_app (goodIn_of _ (by decide +kernel)) ggL_law_X4_text
set_option maxRecDepth 20000 in
theorem ggL_law_X5_text : GoodIn wsL_law wsX5_text := goodIn_r _ [767, 768, 769, 770, 631, 460, 461, 462, 5, 463, 60, 58, 771, 772, 773, 774, 775, 776, 777, 778, 779, 62, 780, 781, 782, 783, 784, 785, 786, 787, 788, 789, 790, 791, 792, 793, 794, 795, 796, 797, 798, 799, 800, 801, 802, 803, 804, 805, 806, 807, 808, 809, 103, 104, 105, 147, 148, 149, 150, 151, 152, 153, 154, 810, 811, 812, 813, 814, 815, 816, 817, 818, 819, 820, 821, 106, 107, 108, 109, 110, 111, 468, 469, 470, 471, 996, 997, 998, 999, 1000, 1001, 1002, 1003, 1004, 1005, 1006, 1007, 1008, 1009, 1010] (by decide +kernel) (by decide +kernel)
set_option maxRecDepth 20000 in
theorem gL_law_X5_text : GoodIn wsL_law (wsV RL 144 RX5 yX5_text wsX5_text) := goodIn_app (goodIn_of _ (by decide +kernel)) ggL_law_X5_text
set_option maxRecDepth 20000 in
theorem ggL_law_X4_sheet : GoodIn wsL_law wsX4_sheet := goodIn_r _ [825, 71, 826, 24, 827, 828, 2, 829, 830, 831, 832, 79, 80, 81, 82, 26, 833, 834, 835, 28, 836, 837, 838, 53, 839, 840, 841, 842, 989, 990, 991, 992, 993, 994, 995, 1032, 1033, 1034] (by decide +kernel) (by decide +kernel)
set_option maxRecDepth 20000 in
theorem gL_law_X4_sheet : GoodIn wsL_law (wsV RL 145 RX4 yX4_sheet wsX4_sheet) := goodIn_app (goodIn_of _ (by decide +kernel)) ggL_law_X4_sheet
set_option maxRecDepth 20000 in
theorem ggL_law_X5_sheet : GoodIn wsL_law wsX5_sheet := goodIn_r _ [846, 101, 847, 63, 64, 65, 848, 849, 5, 850, 112, 113, 114, 115, 61, 996, 997, 998, 999, 1000, 1001, 1002, 1003, 1004, 1005, 1006, 1007, 1008, 1009, 1010] (by decide +kernel) (by decide +kernel)
set_option maxRecDepth 20000 in
theorem gL_law_X5_sheet : GoodIn wsL_law (wsV RL 148 RX5 yX5_sheet wsX5_sheet) := goodIn_app (goodIn_of _ (by decide +kernel)) ggL_law_X5_sheet
set_option maxRecDepth 20000 in
theorem ggL_law_X4_write : GoodIn wsL_law wsX4_write := goodIn_r _ [854, 24, 71, 855, 856, 857, 858, 2, 859, 860, 827, 828, 829, 861, 862, 863, 28, 864, 837, 79, 80, 81, 82, 26, 865, 866, 867, 868, 838, 869, 870, 871, 872, 53, 873, 874, 875, 876, 877, 989, 990, 991, 992, 993, 994, 995, 1032, 1033, 1034] (by decide +kernel) (by decide +kernel)
set_option maxRecDepth 20000 in
theorem gL_law_X4_write : GoodIn wsL_law (wsV RL 151 RX4 yX4_write wsX4_write) := goodIn_app (goodIn_of _ (by decide +kernel)) ggL_law_X4_write
set_option maxRecDepth 20000 in
theorem ggL_law_X5_write : GoodIn wsL_law wsX5_write := goodIn_r _ [881, 101, 63, 882, 64, 65, 848, 849, 5, 850, 112, 113, 114, 115, 61, 103, 104, 105, 883, 884, 885, 996, 997, 998, 999, 1000, 1001, 1002, 1003, 1004, 1005, 1006, 1007, 1008, 1009, 1010] (by decide +kernel) (by decide +kernel)
set_option maxRecDepth 20000 in
theorem gL_law_X5_write : GoodIn wsL_law (wsV RL 155 RX5 yX5_write wsX5_write) := goodIn_app (goodIn_of _ (by decide +kernel)) ggL_law_X5_write
set_option maxRecDepth 20000 in
theorem ggL_law_X4_copy : GoodIn wsL_law wsX4_copy := goodIn_r _ [889, 71, 24, 860, 890, 240, 855, 891, 892, 893, 894, 827, 828, 2, 829, 79, 80, 81, 82, 26, 861, 862, 863, 28, 864, 837, 895, 896, 897, 898, 838, 989, 990, 991, 992, 993, 994, 995, 1032, 1033, 1034] (by decide +kernel) (by decide +kernel)
set_option maxRecDepth 20000 in
theorem gL_law_X4_copy : GoodIn wsL_law (wsV RL 156 RX4 yX4_copy wsX4_copy) := goodIn_app (goodIn_of _ (by decide +kernel)) ggL_law_X4_copy
set_option maxRecDepth 20000 in
theorem ggL_law_X5_copy : GoodIn wsL_law wsX5_copy := goodIn_r _ [902, 101, 63, 882, 250, 64, 65, 848, 849, 5, 850, 112, 113, 114, 115, 61, 996, 997, 998, 999, 1000, 1001, 1002, 1003, 1004, 1005, 1006, 1007, 1008, 1009, 1010] (by decide +kernel) (by decide +kernel)
set_option maxRecDepth 20000 in
theorem gL_law_X5_copy : GoodIn wsL_law (wsV RL 160 RX5 yX5_copy wsX5_copy) := goodIn_app (goodIn_of _ (by decide +kernel)) ggL_law_X5_copy
set_option maxRecDepth 20000 in
theorem ggL_law_X4_lays : GoodIn wsL_law wsX4_lays := goodIn_r _ [906, 24, 907, 16, 76, 855, 908, 160, 856, 857, 858, 2, 859, 71, 860, 827, 828, 829, 861, 862, 863, 28, 864, 837, 79, 80, 81, 82, 26, 989, 990, 991, 992, 993, 994, 995, 1032, 1033, 1034, 1011, 1012, 1013, 1014, 1015, 1016, 1017, 1018, 1019, 1020, 1021, 1022, 1023, 1024, 1025] (by decide +kernel) (by decide +kernel)
set_option maxRecDepth 20000 in
theorem gL_law_X4_lays : GoodIn wsL_law (wsV RL 161 RX4 yX4_lays wsX4_lays) := goodIn_app (goodIn_of _ (by decide +kernel)) ggL_law_X4_lays
set_option maxRecDepth 20000 in
theorem ggL_law_X5_lays : GoodIn wsL_law wsX5_lays := goodIn_r _ [912, 64, 58, 65, 144, 913, 914, 915, 5, 916, 101, 63, 882, 848, 849, 850, 112, 113, 114, 115, 61, 103, 104, 105, 151, 152, 153, 154, 996, 997, 998, 999, 1000, 1001, 1002, 1003, 1004, 1005, 1006, 1007, 1008, 1009, 1010] (by decide +kernel) (by decide +kernel)
set_option maxRecDepth 20000 in
theorem gL_law_X5_lays : GoodIn wsL_law (wsV RL 164 RX5 yX5_lays wsX5_lays) := goodIn_app (goodIn_of _ (by decide +kernel)) ggL_law_X5_lays
set_option maxRecDepth 20000 in
theorem ggL_law_X4_film : GoodIn wsL_law wsX4_film := goodIn_r _ [920, 16, 71, 24, 907, 164, 856, 857, 858, 2, 859, 860, 827, 828, 829, 861, 862, 863, 28, 864, 837, 79, 80, 81, 82, 26, 167, 168, 169, 15, 170, 138, 447, 448, 449, 450, 17, 451, 452, 453, 454, 32, 33, 34, 324, 290, 35, 36, 37, 38, 39, 40, 41, 42, 869, 870, 871, 872, 53, 873, 866, 867, 868, 838, 874, 875, 876, 877, 337, 338, 339, 340, 341, 342, 343, 344, 345, 346, 347, 348, 43, 282, 283, 272, 284, 349, 263, 264, 265, 350, 267, 268, 269, 270, 271, 273, 175, 274, 275, 276, 277, 278, 279, 280, 281, 285, 259, 260, 261, 286, 287, 288, 289, 351, 352, 353, 354, 989, 990, 991, 992, 993, 994, 995, 1032, 1033, 1034, 1011, 1012, 1013, 1014, 1015, 1016, 1017, 1018, 1019, 1020, 1021, 1022, 1023, 1024, 1025] (by decide +kernel) (by decide +kernel)
set_option maxRecDepth 20000 in
theorem gL_law_X4_film : GoodIn wsL_law (wsV RL 165 RX4 yX4_film wsX4_film) := goodIn_app (goodIn_of _ (by decide +kernel)) ggL_law_X4_film
