/-! THE LAW'S WORDS (printed by wip/whole/words.py) -/
set_option maxRecDepth 100000 in
theorem wsL_law_r19_in : ∀ w ∈ wsL_law_r19, w ∈ lw_tbl := mem_r [427, 428, 429, 430, 432, 11, 433, 954, 955, 956, 957, 434, 435, 436, 437, 438, 440, 12, 441, 442, 443, 444, 445, 958] (by decide +kernel)
set_option maxRecDepth 100000 in
theorem wsL_law_r20_in : ∀ w ∈ wsL_law_r20, w ∈ lw_tbl := mem_r [959, 960, 961, 962, 963, 965, 48, 966, 967, 969, 49, 970, 971, 973, 50, 974, 446, 447, 448, 449, 975, 976, 977, 978] (by decide +kernel)
set_option maxRecDepth 100000 in
theorem wsL_law_r21_in : ∀ w ∈ wsL_law_r21, w ∈ lw_tbl := mem_r [979, 981, 51, 982, 450, 451, 452, 453, 983, 984, 985, 986, 987, 454, 455, 456, 457, 458, 988, 989, 990, 991, 459, 460] (by decide +kernel)
set_option maxRecDepth 100000 in
theorem wsL_law_r22_in : ∀ w ∈ wsL_law_r22, w ∈ lw_tbl := mem_r [461, 462, 992, 993, 994, 995, 463, 464, 465, 466, 467, 468, 469, 470, 471, 472, 996, 997, 998, 999, 1000, 1002, 52, 1003] (by decide +kernel)
set_option maxRecDepth 100000 in
theorem wsL_law_r23_in : ∀ w ∈ wsL_law_r23, w ∈ lw_tbl := mem_r [473, 474, 475, 476, 1004, 1005, 1006, 1007, 1008, 1010, 53, 1011, 477, 478, 479, 480, 1012, 1013, 1014, 1015, 481, 482, 483, 484] (by decide +kernel)
set_option maxRecDepth 100000 in
theorem wsL_law_r24_in : ∀ w ∈ wsL_law_r24, w ∈ lw_tbl := mem_r [1016, 1017, 1018, 1019, 485, 486, 487, 488, 1020, 1021, 1022, 1023, 489, 490, 491, 492, 1024, 1025, 1026, 1027, 493, 494, 495, 496] (by decide +kernel)
