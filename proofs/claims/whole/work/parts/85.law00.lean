set_option maxRecDepth 20000 in
theorem ggL_law_X4_init : GoodIn wsL_law wsX4_init := goodIn_r _ [9, 10, 11, 12, 13, 14, 15, 16, 17, 18, 19, 20, 21, 22, 23, 24, 25, 26, 27, 28, 29, 30, 31, 32, 33, 34, 35, 36, 37, 38, 39, 40, 41, 42, 43, 44, 45, 46, 47, 48, 49, 50, 51, 52, 53, 1011, 1012, 1013, 1014, 1015, 1016, 1017, 1018, 1019, 1020, 1021, 1022, 1023, 1024, 1025, 989, 990, 991, 992, 993, 994, 995, 1026, 1027, 1028, 1029, 1030, 1031, 1032, 1033, 1034] (by decide +kernel) (by decide +kernel)
set_option maxRecDepth 20000 in
theorem gL_law_X4_init : GoodIn wsL_law (wsX4_init) := ggL_law_X4_init
set_option maxRecDepth 20000 in
theorem ggL_law_X5_init : GoodIn wsL_law wsX5_init := goodIn_r _ [56, 57, 11, 12, 25, 58, 59, 60, 61, 62, 63, 64, 52, 65, 66, 996, 997, 998, 999, 1000, 1001, 1002, 1003, 1004, 1005, 1006, 1007, 1008, 1009, 1010] (by decide +kernel) (by decide +kernel)
set_option maxRecDepth 20000 in
theorem gL_law_X5_init : GoodIn wsL_law (wsX5_init) := ggL_law_X5_init
set_option maxRecDepth 20000 in
theorem ggL_law_X4_let : GoodIn wsL_law wsX4_let := goodIn_r _ [70, 71, 72, 73, 74, 2, 75, 16, 76, 77, 78, 79, 80, 81, 82, 26, 83, 84, 85, 86, 87, 88, 89, 90, 91, 92, 93, 94, 95, 989, 990, 991, 992, 993, 994, 995, 1011, 1012, 1013, 1014, 1015, 1016, 1017, 1018, 1019, 1020, 1021, 1022, 1023, 1024, 1025] (by decide +kernel) (by decide +kernel)
set_option maxRecDepth 20000 in
theorem gL_law_X4_let : GoodIn wsL_law (wsV RL 13 RX4 yX4_let wsX4_let) := goodIn_app (goodIn_of _ (by decide +kernel)) ggL_law_X4_let
set_option maxRecDepth 20000 in
theorem ggL_law_X5_let : GoodIn wsL_law wsX5_let := goodIn_r _ [99, 100, 101, 58, 102, 103, 104, 5, 105, 106, 107, 108, 109, 110, 111, 112, 113, 114, 115, 61, 116, 117, 118, 119, 996, 997, 998, 999, 1000, 1001, 1002, 1003, 1004, 1005, 1006, 1007, 1008, 1009, 1010] (by decide +kernel) (by decide +kernel)
set_option maxRecDepth 20000 in
theorem gL_law_X5_let : GoodIn wsL_law (wsV RL 17 RX5 yX5_let wsX5_let) := goodIn_app (goodIn_of _ (by decide +kernel)) ggL_law_X5_let
set_option maxRecDepth 20000 in
theorem ggL_law_X4_runner : GoodIn wsL_law wsX4_runner := goodIn_r _ [123, 71, 16, 76, 124, 125, 126, 2, 127, 128, 129, 130, 131, 132, 133, 79, 80, 81, 82, 26, 134, 135, 136, 15, 137, 138, 35, 36, 37, 38, 39, 40, 41, 42, 989, 990, 991, 992, 993, 994, 995, 1011, 1012, 1013, 1014, 1015, 1016, 1017, 1018, 1019, 1020, 1021, 1022, 1023, 1024, 1025] (by decide +kernel) (by decide +kernel)
set_option maxRecDepth 20000 in
theorem gL_law_X4_runner : GoodIn wsL_law (wsV RL 18 RX4 yX4_runner wsX4_runner) := goodIn_app (goodIn_of _ (by decide +kernel)) ggL_law_X4_runner
set_option maxRecDepth 20000 in
theorem ggL_law_X5_runner : GoodIn wsL_law wsX5_runner := goodIn_r _ [142, 143, 144, 145, 101, 58, 146, 103, 104, 5, 105, 112, 113, 114, 115, 61, 147, 148, 149, 150, 151, 152, 153, 154, 996, 997, 998, 999, 1000, 1001, 1002, 1003, 1004, 1005, 1006, 1007, 1008, 1009, 1010] (by decide +kernel) (by decide +kernel)
set_option maxRecDepth 20000 in
theorem gL_law_X5_runner : GoodIn wsL_law (wsV RL 22 RX5 yX5_runner wsX5_runner) := goodIn_app (goodIn_of _ (by decide +kernel)) ggL_law_X5_runner
set_option maxRecDepth 20000 in
theorem ggL_law_X4_of : GoodIn wsL_law wsX4_of := goodIn_r _ [158, 16, 71, 159, 160, 161, 162, 163, 164, 165, 166, 167, 168, 169, 15, 170, 138, 79, 80, 81, 2, 82, 26, 171, 172, 173, 174, 175, 176, 177, 178, 179, 42, 40, 989, 990, 991, 992, 993, 994, 995, 1011, 1012, 1013, 1014, 1015, 1016, 1017, 1018, 1019, 1020, 1021, 1022, 1023, 1024, 1025] (by decide +kernel) (by decide +kernel)
set_option maxRecDepth 20000 in
theorem gL_law_X4_of : GoodIn wsL_law (wsV RL 23 RX4 yX4_of wsX4_of) := goodIn_app (goodIn_of _ (by decide +kernel)) ggL_law_X4_of
set_option maxRecDepth 20000 in
theorem ggL_law_X5_of : GoodIn wsL_law wsX5_of := goodIn_r _ [183, 184, 101, 185, 186, 187, 5, 188, 58, 103, 104, 105, 112, 113, 114, 115, 61, 189, 190, 191, 192, 193, 194, 195, 196, 197, 198, 199, 200, 201, 202, 203, 204, 996, 997, 998, 999, 1000, 1001, 1002, 1003, 1004, 1005, 1006, 1007, 1008, 1009, 1010] (by decide +kernel) (by decide +kernel)
set_option maxRecDepth 20000 in
theorem gL_law_X5_of : GoodIn wsL_law (wsV RL 26 RX5 yX5_of wsX5_of) := goodIn_app (goodIn_of _ (by decide +kernel)) ggL_law_X5_of
set_option maxRecDepth 20000 in
theorem ggL_law_X4_set : GoodIn wsL_law wsX4_set := goodIn_r _ [208, 16, 71, 160, 161, 162, 163, 167, 168, 169, 15, 170, 138, 79, 80, 81, 2, 82, 26, 128, 129, 130, 209, 210, 211, 131, 132, 133, 212, 213, 214, 215, 216, 217, 218, 219, 32, 989, 990, 991, 992, 993, 994, 995, 1011, 1012, 1013, 1014, 1015, 1016, 1017, 1018, 1019, 1020, 1021, 1022, 1023, 1024, 1025] (by decide +kernel) (by decide +kernel)
set_option maxRecDepth 20000 in
theorem gL_law_X4_set : GoodIn wsL_law (wsV RL 27 RX4 yX4_set wsX4_set) := goodIn_app (goodIn_of _ (by decide +kernel)) ggL_law_X4_set
set_option maxRecDepth 20000 in
theorem ggL_law_X5_set : GoodIn wsL_law wsX5_set := goodIn_r _ [223, 101, 185, 186, 187, 5, 188, 58, 224, 225, 226, 227, 144, 145, 103, 104, 105, 116, 117, 118, 119, 112, 113, 114, 115, 61, 996, 997, 998, 999, 1000, 1001, 1002, 1003, 1004, 1005, 1006, 1007, 1008, 1009, 1010] (by decide +kernel) (by decide +kernel)
set_option maxRecDepth 20000 in
theorem gL_law_X5_set : GoodIn wsL_law (wsV RL 30 RX5 yX5_set wsX5_set) := goodIn_app (goodIn_of _ (by decide +kernel)) ggL_law_X5_set
set_option maxRecDepth 20000 in
theorem ggL_law_X4_turn : GoodIn wsL_law wsX4_turn := goodIn_r _ [231, 16, 71, 159, 167, 168, 169, 15, 170, 138, 125, 126, 2, 127, 79, 80, 81, 82, 26, 209, 210, 211, 989, 990, 991, 992, 993, 994, 995, 1011, 1012, 1013, 1014, 1015, 1016, 1017, 1018, 1019, 1020, 1021, 1022, 1023, 1024, 1025] (by decide +kernel) (by decide +kernel)
set_option maxRecDepth 20000 in
theorem gL_law_X4_turn : GoodIn wsL_law (wsV RL 31 RX4 yX4_turn wsX4_turn) := goodIn_app (goodIn_of _ (by decide +kernel)) ggL_law_X4_turn
set_option maxRecDepth 20000 in
theorem ggL_law_X5_turn : GoodIn wsL_law wsX5_turn := goodIn_r _ [235, 143, 101, 185, 186, 187, 5, 188, 58, 103, 104, 105, 116, 117, 118, 119, 112, 113, 114, 115, 61, 996, 997, 998, 999, 1000, 1001, 1002, 1003, 1004, 1005, 1006, 1007, 1008, 1009, 1010] (by decide +kernel) (by decide +kernel)
set_option maxRecDepth 20000 in
theorem gL_law_X5_turn : GoodIn wsL_law (wsV RL 34 RX5 yX5_turn wsX5_turn) := goodIn_app (goodIn_of _ (by decide +kernel)) ggL_law_X5_turn
set_option maxRecDepth 20000 in
theorem ggL_law_X4_as : GoodIn wsL_law wsX4_as := goodIn_r _ [239, 16, 71, 159, 240, 160, 167, 168, 169, 15, 170, 138, 125, 126, 2, 127, 79, 80, 81, 82, 26, 241, 242, 243, 244, 245, 989, 990, 991, 992, 993, 994, 995, 1011, 1012, 1013, 1014, 1015, 1016, 1017, 1018, 1019, 1020, 1021, 1022, 1023, 1024, 1025] (by decide +kernel) (by decide +kernel)
set_option maxRecDepth 20000 in
theorem gL_law_X4_as : GoodIn wsL_law (wsV RL 35 RX4 yX4_as wsX4_as) := goodIn_app (goodIn_of _ (by decide +kernel)) ggL_law_X4_as
set_option maxRecDepth 20000 in
theorem ggL_law_X5_as : GoodIn wsL_law wsX5_as := goodIn_r _ [249, 143, 101, 250, 185, 186, 187, 5, 188, 58, 103, 104, 105, 112, 113, 114, 115, 61, 189, 190, 191, 192, 251, 252, 253, 996, 997, 998, 999, 1000, 1001, 1002, 1003, 1004, 1005, 1006, 1007, 1008, 1009, 1010] (by decide +kernel) (by decide +kernel)
set_option maxRecDepth 20000 in
theorem gL_law_X5_as : GoodIn wsL_law (wsV RL 38 RX5 yX5_as wsX5_as) := goodIn_app (goodIn_of _ (by decide +kernel)) ggL_law_X5_as
set_option maxRecDepth 20000 in
theorem ggL_law_X4_wish : GoodIn wsL_law wsX4_wish := goodIn_r _ [257, 16, 71, 77, 167, 168, 169, 15, 170, 138, 79, 80, 81, 2, 82, 26, 258, 259, 260, 261, 42, 175, 262, 263, 264, 265, 40, 266, 267, 268, 269, 35, 38, 33, 270, 271, 272, 273, 36, 274, 275, 276, 277, 32, 278, 279, 280, 281, 282, 283, 284, 285, 286, 287, 288, 289, 290, 989, 990, 991, 992, 993, 994, 995, 1011, 1012, 1013, 1014, 1015, 1016, 1017, 1018, 1019, 1020, 1021, 1022, 1023, 1024, 1025] (by decide +kernel) (by decide +kernel)
set_option maxRecDepth 20000 in
theorem gL_law_X4_wish : GoodIn wsL_law (wsV RL 39 RX4 yX4_wish wsX4_wish) := goodIn_app (goodIn_of _ (by decide +kernel)) ggL_law_X4_wish
