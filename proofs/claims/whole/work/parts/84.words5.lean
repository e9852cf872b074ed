/-! THE LAW'S WORDS (printed by wip/whole/words.py) -/
set_option maxRecDepth 100000 in
theorem wsL_law_r31_in : ∀ w ∈ wsL_law_r31, w ∈ lw_tbl := mem_r [604, 605, 606, 607, 608, 609, 610, 611, 612, 614, 616, 618, 620, 18, 621, 177, 97, 120, 123, 126, 623, 625, 19, 626] (by decide +kernel)
set_option maxRecDepth 100000 in
theorem wsL_law_r32_in : ∀ w ∈ wsL_law_r32, w ∈ lw_tbl := mem_r [627, 629, 20, 630, 634, 635, 637, 639, 21, 640, 642, 644, 22, 645, 100, 647, 649, 23, 650, 103, 1059, 1060, 1061, 1062] (by decide +kernel)
set_option maxRecDepth 100000 in
theorem wsL_law_r33_in : ∀ w ∈ wsL_law_r33, w ∈ lw_tbl := mem_r [766, 765, 764, 1063, 1065, 55, 1066, 767, 1067, 1069, 56, 1070, 1071, 1072, 1073, 1074, 1075, 1076, 1077, 1079, 57, 1080, 1081, 1083] (by decide +kernel)
set_option maxRecDepth 100000 in
theorem wsL_law_r34_in : ∀ w ∈ wsL_law_r34, w ∈ lw_tbl := mem_r [58, 1084, 1085, 1087, 59, 1088, 1089, 1091, 60, 1092, 1093, 1095, 61, 1096, 1097, 1099, 62, 1100, 1101, 1103, 63, 1104, 1105, 1107] (by decide +kernel)
set_option maxRecDepth 100000 in
theorem wsL_law_r35_in : ∀ w ∈ wsL_law_r35, w ∈ lw_tbl := mem_r [64, 1108, 1109, 1111, 65, 1112, 651, 652, 653, 654, 661, 655, 656, 657, 658, 659, 660, 662, 663, 664, 665, 199, 201, 666] (by decide +kernel)
set_option maxRecDepth 100000 in
theorem wsL_law_r36_in : ∀ w ∈ wsL_law_r36, w ∈ lw_tbl := mem_r [667, 80, 668, 1113, 1114, 1115, 1116, 1120, 1117, 1118, 1119, 669, 670, 671, 672, 204, 673, 675, 24, 676, 681, 677, 678, 679] (by decide +kernel)
