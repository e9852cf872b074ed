/-! THE LAW'S WORDS (printed by wip/whole/words.py) -/
set_option maxRecDepth 100000 in
theorem wsL_law_r25_in : ∀ w ∈ wsL_law_r25, w ∈ lw_tbl := mem_r [497, 498, 499, 500, 1028, 1029, 1030, 1031, 1032, 1034, 54, 1035, 501, 502, 503, 504, 1036, 1037, 1038, 1039, 505, 506, 507, 508] (by decide +kernel)
set_option maxRecDepth 100000 in
theorem wsL_law_r26_in : ∀ w ∈ wsL_law_r26, w ∈ lw_tbl := mem_r [509, 1040, 1041, 1042, 1043, 1044, 1045, 510, 511, 512, 513, 132, 1046, 1047, 1048, 1049, 514, 515, 516, 517, 172, 518, 519, 520] (by decide +kernel)
set_option maxRecDepth 100000 in
theorem wsL_law_r27_in : ∀ w ∈ wsL_law_r27, w ∈ lw_tbl := mem_r [521, 171, 1050, 1051, 1052, 1053, 1054, 759, 522, 523, 524, 525, 526, 527, 528, 529, 1055, 1056, 1057, 1058, 530, 531, 532, 533] (by decide +kernel)
set_option maxRecDepth 100000 in
theorem wsL_law_r28_in : ∀ w ∈ wsL_law_r28, w ∈ lw_tbl := mem_r [534, 535, 536, 537, 176, 174, 175, 538, 540, 13, 541, 542, 544, 14, 545, 546, 547, 548, 549, 551, 15, 552, 109, 553] (by decide +kernel)
set_option maxRecDepth 100000 in
theorem wsL_law_r29_in : ∀ w ∈ wsL_law_r29, w ∈ lw_tbl := mem_r [555, 16, 556, 557, 558, 559, 566, 568, 17, 569, 570, 571, 572, 76, 573, 1176, 574, 575, 576, 577, 578, 1177, 580, 581] (by decide +kernel)
set_option maxRecDepth 100000 in
theorem wsL_law_r30_in : ∀ w ∈ wsL_law_r30, w ∈ lw_tbl := mem_r [582, 583, 584, 585, 586, 587, 588, 589, 77, 590, 591, 592, 593, 594, 596, 597, 78, 598, 599, 600, 79, 601, 602, 603] (by decide +kernel)
