set_option maxRecDepth 20000 in
theorem ggL_law_X5_wish : GoodIn wsL_law wsX5_wish := goodIn_r _ [294, 101, 102, 185, 186, 187, 5, 188, 58, 112, 113, 114, 115, 61, 201, 202, 203, 204, 189, 190, 191, 192, 295, 296, 297, 298, 299, 300, 301, 302, 303, 304, 305, 306, 307, 308, 309, 310, 311, 312, 313, 314, 996, 997, 998, 999, 1000, 1001, 1002, 1003, 1004, 1005, 1006, 1007, 1008, 1009, 1010] (by decide +kernel) (by decide +kernel)
set_option maxRecDepth 20000 in
theorem gL_law_X5_wish : GoodIn wsL_law (wsV RL 43 RX5 yX5_wish wsX5_wish) := goodIn_app (goodIn_of _ (by decide +kernel)) ggL_law_X5_wish
set_option maxRecDepth 20000 in
theorem ggL_law_X4_line : GoodIn wsL_law wsX4_line := goodIn_r _ [318, 16, 319, 320, 321, 322, 15, 323, 138, 40, 39, 42, 324, 290, 989, 990, 991, 992, 993, 994, 995, 1011, 1012, 1013, 1014, 1015, 1016, 1017, 1018, 1019, 1020, 1021, 1022, 1023, 1024, 1025] (by decide +kernel) (by decide +kernel)
set_option maxRecDepth 20000 in
theorem gL_law_X4_line : GoodIn wsL_law (wsV RL 44 RX4 yX4_line wsX4_line) := goodIn_app (goodIn_of _ (by decide +kernel)) ggL_law_X4_line
set_option maxRecDepth 20000 in
theorem ggL_law_X5_line : GoodIn wsL_law wsX5_line := goodIn_r _ [328, 299, 300, 301, 5, 302, 58, 201, 202, 203, 204, 189, 190, 191, 192, 329, 330, 331, 332, 151, 152, 153, 154, 996, 997, 998, 999, 1000, 1001, 1002, 1003, 1004, 1005, 1006, 1007, 1008, 1009, 1010] (by decide +kernel) (by decide +kernel)
set_option maxRecDepth 20000 in
theorem gL_law_X5_line : GoodIn wsL_law (wsV RL 48 RX5 yX5_line wsX5_line) := goodIn_app (goodIn_of _ (by decide +kernel)) ggL_law_X5_line
set_option maxRecDepth 20000 in
theorem ggL_law_X4_seconds : GoodIn wsL_law wsX4_seconds := goodIn_r _ [336, 71, 16, 319, 79, 80, 81, 2, 82, 26, 337, 338, 339, 15, 340, 341, 342, 343, 344, 290, 138, 345, 346, 347, 348, 43, 42, 33, 282, 283, 272, 284, 324, 40, 32, 349, 263, 264, 265, 350, 267, 268, 269, 35, 38, 270, 271, 273, 36, 175, 168, 169, 170, 274, 275, 276, 277, 278, 279, 280, 281, 285, 259, 260, 261, 286, 287, 288, 289, 351, 352, 353, 354, 37, 989, 990, 991, 992, 993, 994, 995, 1011, 1012, 1013, 1014, 1015, 1016, 1017, 1018, 1019, 1020, 1021, 1022, 1023, 1024, 1025] (by decide +kernel) (by decide +kernel)
set_option maxRecDepth 20000 in
theorem gL_law_X4_seconds : GoodIn wsL_law (wsV RL 49 RX4 yX4_seconds wsX4_seconds) := goodIn_app (goodIn_of _ (by decide +kernel)) ggL_law_X4_seconds
set_option maxRecDepth 20000 in
theorem ggL_law_X5_seconds : GoodIn wsL_law wsX5_seconds := goodIn_r _ [358, 359, 101, 103, 104, 5, 105, 112, 113, 114, 115, 61, 360, 361, 362, 363, 58, 66, 299, 300, 301, 302, 201, 202, 203, 204, 189, 190, 191, 192, 295, 296, 297, 298, 303, 304, 305, 306, 307, 308, 309, 310, 311, 312, 313, 314, 151, 152, 153, 154, 996, 997, 998, 999, 1000, 1001, 1002, 1003, 1004, 1005, 1006, 1007, 1008, 1009, 1010] (by decide +kernel) (by decide +kernel)
set_option maxRecDepth 20000 in
theorem gL_law_X5_seconds : GoodIn wsL_law (wsV RL 52 RX5 yX5_seconds wsX5_seconds) := goodIn_app (goodIn_of _ (by decide +kernel)) ggL_law_X5_seconds
set_option maxRecDepth 20000 in
theorem ggL_law_X4_now : GoodIn wsL_law wsX4_now := goodIn_r _ [367, 16, 368, 78, 87, 92, 319, 71, 79, 80, 81, 2, 82, 26, 989, 990, 991, 992, 993, 994, 995, 1011, 1012, 1013, 1014, 1015, 1016, 1017, 1018, 1019, 1020, 1021, 1022, 1023, 1024, 1025] (by decide +kernel) (by decide +kernel)
set_option maxRecDepth 20000 in
theorem gL_law_X4_now : GoodIn wsL_law (wsV RL 53 RX4 yX4_now wsX4_now) := goodIn_app (goodIn_of _ (by decide +kernel)) ggL_law_X4_now
set_option maxRecDepth 20000 in
theorem ggL_law_X5_now : GoodIn wsL_law wsX5_now := goodIn_r _ [372, 58, 101, 299, 300, 301, 5, 302, 201, 202, 203, 204, 189, 190, 191, 192, 112, 113, 114, 115, 61, 996, 997, 998, 999, 1000, 1001, 1002, 1003, 1004, 1005, 1006, 1007, 1008, 1009, 1010] (by decide +kernel) (by decide +kernel)
set_option maxRecDepth 20000 in
theorem gL_law_X5_now : GoodIn wsL_law (wsV RL 56 RX5 yX5_now wsX5_now) := goodIn_app (goodIn_of _ (by decide +kernel)) ggL_law_X5_now
set_option maxRecDepth 20000 in
theorem ggL_law_X4_place : GoodIn wsL_law wsX4_place := goodIn_r _ [376, 16, 71, 167, 168, 169, 15, 170, 138, 377, 378, 379, 380, 381, 172, 173, 174, 175, 176, 177, 178, 179, 42, 40, 79, 80, 81, 2, 82, 26, 989, 990, 991, 992, 993, 994, 995, 1011, 1012, 1013, 1014, 1015, 1016, 1017, 1018, 1019, 1020, 1021, 1022, 1023, 1024, 1025] (by decide +kernel) (by decide +kernel)
set_option maxRecDepth 20000 in
theorem gL_law_X4_place : GoodIn wsL_law (wsV RL 57 RX4 yX4_place wsX4_place) := goodIn_app (goodIn_of _ (by decide +kernel)) ggL_law_X4_place
set_option maxRecDepth 20000 in
theorem ggL_law_X5_place : GoodIn wsL_law wsX5_place := goodIn_r _ [385, 101, 185, 186, 187, 5, 188, 58, 386, 387, 388, 389, 193, 194, 195, 196, 197, 198, 199, 200, 201, 202, 203, 204, 189, 190, 191, 192, 112, 113, 114, 115, 61, 996, 997, 998, 999, 1000, 1001, 1002, 1003, 1004, 1005, 1006, 1007, 1008, 1009, 1010] (by decide +kernel) (by decide +kernel)
set_option maxRecDepth 20000 in
theorem gL_law_X5_place : GoodIn wsL_law (wsV RL 60 RX5 yX5_place wsX5_place) := goodIn_app (goodIn_of _ (by decide +kernel)) ggL_law_X5_place
set_option maxRecDepth 20000 in
theorem ggL_law_X4_prize : GoodIn wsL_law wsX4_prize := goodIn_r _ [393, 16, 92, 394, 395, 396, 15, 397, 138, 398, 378, 379, 380, 381, 172, 173, 174, 175, 168, 169, 170, 176, 177, 178, 179, 42, 40, 399, 400, 401, 2, 402, 403, 79, 80, 81, 82, 71, 26, 989, 990, 991, 992, 993, 994, 995, 1011, 1012, 1013, 1014, 1015, 1016, 1017, 1018, 1019, 1020, 1021, 1022, 1023, 1024, 1025] (by decide +kernel) (by decide +kernel)
set_option maxRecDepth 20000 in
theorem gL_law_X4_prize : GoodIn wsL_law (wsV RL 61 RX4 yX4_prize wsX4_prize) := goodIn_app (goodIn_of _ (by decide +kernel)) ggL_law_X4_prize
set_option maxRecDepth 20000 in
theorem ggL_law_X5_prize : GoodIn wsL_law wsX5_prize := goodIn_r _ [407, 58, 408, 409, 410, 5, 411, 386, 387, 388, 389, 193, 194, 195, 196, 197, 198, 199, 200, 201, 202, 203, 204, 189, 190, 191, 192, 412, 413, 414, 415, 416, 112, 113, 114, 115, 61, 101, 996, 997, 998, 999, 1000, 1001, 1002, 1003, 1004, 1005, 1006, 1007, 1008, 1009, 1010] (by decide +kernel) (by decide +kernel)
set_option maxRecDepth 20000 in
theorem gL_law_X5_prize : GoodIn wsL_law (wsV RL 64 RX5 yX5_prize wsX5_prize) := goodIn_app (goodIn_of _ (by decide +kernel)) ggL_law_X5_prize
set_option maxRecDepth 20000 in
theorem ggL_law_X4_score : GoodIn wsL_law wsX4_score := goodIn_r _ [420, 16, 76, 77, 421, 342, 343, 15, 344, 290, 138, 79, 80, 81, 2, 82, 71, 26, 422, 423, 424, 425, 34, 41, 426, 395, 396, 397, 398, 378, 379, 380, 381, 172, 173, 174, 175, 168, 169, 170, 176, 177, 178, 179, 42, 40, 989, 990, 991, 992, 993, 994, 995, 1011, 1012, 1013, 1014, 1015, 1016, 1017, 1018, 1019, 1020, 1021, 1022, 1023, 1024, 1025] (by decide +kernel) (by decide +kernel)
set_option maxRecDepth 20000 in
theorem gL_law_X4_score : GoodIn wsL_law (wsV RL 65 RX4 yX4_score wsX4_score) := goodIn_app (goodIn_of _ (by decide +kernel)) ggL_law_X4_score
set_option maxRecDepth 20000 in
theorem ggL_law_X5_score : GoodIn wsL_law wsX5_score := goodIn_r _ [430, 58, 102, 299, 300, 301, 5, 302, 201, 202, 203, 204, 189, 190, 191, 192, 112, 113, 114, 115, 61, 101, 408, 409, 410, 411, 386, 387, 388, 389, 193, 194, 195, 196, 197, 198, 199, 200, 151, 152, 153, 154, 996, 997, 998, 999, 1000, 1001, 1002, 1003, 1004, 1005, 1006, 1007, 1008, 1009, 1010] (by decide +kernel) (by decide +kernel)
set_option maxRecDepth 20000 in
theorem gL_law_X5_score : GoodIn wsL_law (wsV RL 68 RX5 yX5_score wsX5_score) := goodIn_app (goodIn_of _ (by decide +kernel)) ggL_law_X5_score
set_option maxRecDepth 20000 in
theorem ggL_law_X4_leads : GoodIn wsL_law wsX4_leads := goodIn_r _ [434, 16, 165, 435, 436, 437, 2, 438, 76, 399, 400, 401, 402, 403, 79, 80, 81, 82, 71, 26, 989, 990, 991, 992, 993, 994, 995, 1011, 1012, 1013, 1014, 1015, 1016, 1017, 1018, 1019, 1020, 1021, 1022, 1023, 1024, 1025] (by decide +kernel) (by decide +kernel)
set_option maxRecDepth 20000 in
theorem gL_law_X4_leads : GoodIn wsL_law (wsV RL 69 RX4 yX4_leads wsX4_leads) := goodIn_app (goodIn_of _ (by decide +kernel)) ggL_law_X4_leads
set_option maxRecDepth 20000 in
theorem ggL_law_X5_leads : GoodIn wsL_law wsX5_leads := goodIn_r _ [442, 58, 189, 190, 191, 5, 192, 412, 413, 414, 415, 416, 112, 113, 114, 115, 61, 101, 996, 997, 998, 999, 1000, 1001, 1002, 1003, 1004, 1005, 1006, 1007, 1008, 1009, 1010] (by decide +kernel) (by decide +kernel)
set_option maxRecDepth 20000 in
theorem gL_law_X5_leads : GoodIn wsL_law (wsV RL 72 RX5 yX5_leads wsX5_leads) := goodIn_app (goodIn_of _ (by decide +kernel)) ggL_law_X5_leads
