/-! THE LAW'S WORDS (printed by wip/whole/words.py) -/
set_option maxRecDepth 100000 in
theorem wsL_law_r13_in : ∀ w ∈ wsL_law_r13, w ∈ lw_tbl := mem_r [8, 358, 110, 884, 885, 886, 887, 888, 890, 38, 891, 892, 894, 39, 895, 896, 898, 40, 899, 900, 902, 41, 903, 904] (by decide +kernel)
set_option maxRecDepth 100000 in
theorem wsL_law_r14_in : ∀ w ∈ wsL_law_r14, w ∈ lw_tbl := mem_r [906, 42, 907, 359, 360, 361, 362, 111, 363, 364, 365, 366, 105, 908, 909, 910, 911, 912, 914, 43, 915, 367, 368, 369] (by decide +kernel)
set_option maxRecDepth 100000 in
theorem wsL_law_r15_in : ∀ w ∈ wsL_law_r15, w ∈ lw_tbl := mem_r [370, 371, 372, 373, 374, 375, 376, 377, 378, 379, 380, 381, 382, 383, 384, 385, 387, 9, 388, 916, 917, 918, 919, 920] (by decide +kernel)
set_option maxRecDepth 100000 in
theorem wsL_law_r16_in : ∀ w ∈ wsL_law_r16, w ∈ lw_tbl := mem_r [921, 923, 44, 924, 389, 390, 391, 392, 106, 925, 926, 927, 928, 393, 394, 395, 396, 397, 398, 399, 400, 401, 929, 930] (by decide +kernel)
set_option maxRecDepth 100000 in
theorem wsL_law_r17_in : ∀ w ∈ wsL_law_r17, w ∈ lw_tbl := mem_r [931, 932, 933, 935, 45, 936, 402, 403, 404, 405, 406, 407, 408, 409, 410, 411, 413, 10, 414, 415, 937, 938, 939, 940] (by decide +kernel)
set_option maxRecDepth 100000 in
theorem wsL_law_r18_in : ∀ w ∈ wsL_law_r18, w ∈ lw_tbl := mem_r [941, 943, 46, 944, 945, 947, 47, 948, 949, 416, 417, 418, 419, 420, 421, 422, 423, 424, 425, 950, 951, 952, 953, 426] (by decide +kernel)
