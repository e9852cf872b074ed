/-! THE LAW'S WORDS (printed by wip/whole/words.py) -/
set_option maxRecDepth 100000 in
theorem wsL_law_r7_in : ∀ w ∈ wsL_law_r7, w ∈ lw_tbl := mem_r [828, 829, 830, 831, 833, 30, 834, 835, 837, 31, 838, 278, 279, 280, 281, 113, 115, 117, 119, 122, 125, 128, 130, 282] (by decide +kernel)
set_option maxRecDepth 100000 in
theorem wsL_law_r8_in : ∀ w ∈ wsL_law_r8, w ∈ lw_tbl := mem_r [283, 284, 285, 286, 287, 288, 289, 290, 291, 293, 4, 294, 839, 840, 841, 842, 847, 843, 845, 32, 846, 848, 850, 33] (by decide +kernel)
set_option maxRecDepth 100000 in
theorem wsL_law_r9_in : ∀ w ∈ wsL_law_r9, w ∈ lw_tbl := mem_r [851, 852, 854, 34, 855, 856, 858, 35, 859, 860, 862, 36, 863, 295, 296, 297, 298, 299, 300, 301, 302, 304, 5, 305] (by decide +kernel)
set_option maxRecDepth 100000 in
theorem wsL_law_r10_in : ∀ w ∈ wsL_law_r10, w ∈ lw_tbl := mem_r [306, 307, 308, 309, 864, 865, 866, 867, 868, 870, 37, 871, 310, 311, 312, 313, 872, 873, 874, 875, 314, 315, 316, 317] (by decide +kernel)
set_option maxRecDepth 100000 in
theorem wsL_law_r11_in : ∀ w ∈ wsL_law_r11, w ∈ lw_tbl := mem_r [323, 318, 319, 74, 320, 321, 876, 877, 878, 879, 883, 880, 881, 882, 324, 325, 326, 327, 328, 329, 330, 331, 332, 333] (by decide +kernel)
set_option maxRecDepth 100000 in
theorem wsL_law_r12_in : ∀ w ∈ wsL_law_r12, w ∈ lw_tbl := mem_r [334, 335, 336, 337, 338, 339, 348, 349, 75, 350, 340, 342, 6, 343, 344, 346, 7, 347, 351, 352, 353, 354, 355, 357] (by decide +kernel)
