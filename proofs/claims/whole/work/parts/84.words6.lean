/-! THE LAW'S WORDS (printed by wip/whole/words.py) -/
set_option maxRecDepth 100000 in
theorem wsL_law_r37_in : ∀ w ∈ wsL_law_r37, w ∈ lw_tbl := mem_r [680, 682, 683, 684, 685, 686, 687, 688, 689, 690, 691, 693, 25, 694, 1121, 1122, 1123, 1124, 1125, 1126, 1127, 1128, 695, 696] (by decide +kernel)
set_option maxRecDepth 100000 in
theorem wsL_law_r38_in : ∀ w ∈ wsL_law_r38, w ∈ lw_tbl := mem_r [697, 698, 200, 703, 705, 704, 81, 699, 700, 701, 702, 1129, 1130, 1131, 1132, 706, 707, 708, 709, 202, 710, 1133, 1134, 1135] (by decide +kernel)
set_option maxRecDepth 100000 in
theorem wsL_law_r39_in : ∀ w ∈ wsL_law_r39, w ∈ lw_tbl := mem_r [1136, 1137, 1139, 66, 1140, 711, 712, 713, 714, 1141, 1142, 1143, 1144, 715, 716, 717, 718, 719, 721, 26, 722, 1145, 1146, 1147] (by decide +kernel)
set_option maxRecDepth 100000 in
theorem wsL_law_r40_in : ∀ w ∈ wsL_law_r40, w ∈ lw_tbl := mem_r [1148, 723, 724, 725, 726, 216, 1149, 1150, 1151, 1152, 756, 727, 728, 729, 730, 1153, 1154, 1155, 1156, 731, 732, 733, 734, 1157] (by decide +kernel)
set_option maxRecDepth 100000 in
theorem wsL_law_r41_in : ∀ w ∈ wsL_law_r41, w ∈ lw_tbl := mem_r [1158, 1159, 1160, 735, 736, 737, 738, 739, 741, 27, 742, 1161, 1162, 1163, 1164, 1165, 1167, 67, 1168, 743, 744, 745, 746, 1169] (by decide +kernel)
set_option maxRecDepth 100000 in
theorem wsL_law_r42_in : ∀ w ∈ wsL_law_r42, w ∈ lw_tbl := mem_r [1170, 1171, 1172, 1173, 1174] (by decide +kernel)
