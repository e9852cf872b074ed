/-! THE LAW'S WORDS (printed by wip/whole/words.py) -/
theorem mem_r {Ts ws : List Cond} (is : List Nat) (h : is.map (fun i => Ts[i]?) = ws.map some) : ∀ w ∈ ws, w ∈ Ts := by
  intro w hw
  have : some w ∈ is.map (fun i => Ts[i]?) := by rw [h]; exact List.mem_map.mpr ⟨w, hw, rfl⟩
  obtain ⟨i, -, hi⟩ := List.mem_map.mp this
  exact List.mem_of_getElem? hi
set_option maxRecDepth 100000 in
theorem wsL_law_r1_in : ∀ w ∈ wsL_law_r1, w ∈ lw_tbl := mem_r [82, 83, 69, 747, 748, 73, 1175, 84, 85, 86, 87, 88, 89, 90, 91, 70, 213, 214, 215, 165, 166, 71, 217, 192] (by decide +kernel)
set_option maxRecDepth 100000 in
theorem wsL_law_r2_in : ∀ w ∈ wsL_law_r2, w ∈ lw_tbl := mem_r [218, 164, 219, 194, 72, 93, 94, 95, 96, 99, 102, 112, 114, 116, 118, 121, 124, 127, 129, 131, 168, 169, 170, 191] (by decide +kernel)
set_option maxRecDepth 100000 in
theorem wsL_law_r3_in : ∀ w ∈ wsL_law_r3, w ∈ lw_tbl := mem_r [173, 196, 197, 198, 212, 203, 749, 750, 751, 752, 753, 754, 755, 757, 758, 760, 761, 762, 763, 235, 236, 237, 238, 243] (by decide +kernel)
set_option maxRecDepth 100000 in
theorem wsL_law_r4_in : ∀ w ∈ wsL_law_r4, w ∈ lw_tbl := mem_r [239, 241, 0, 242, 108, 248, 98, 244, 246, 1, 247, 249, 251, 2, 252, 101, 253, 255, 3, 256, 104, 257, 258, 259] (by decide +kernel)
set_option maxRecDepth 100000 in
theorem wsL_law_r5_in : ∀ w ∈ wsL_law_r5, w ∈ lw_tbl := mem_r [799, 800, 801, 802, 803, 813, 818, 804, 805, 806, 807, 808, 809, 810, 811, 812, 814, 816, 28, 817, 819, 821, 29, 822] (by decide +kernel)
set_option maxRecDepth 100000 in
theorem wsL_law_r6_in : ∀ w ∈ wsL_law_r6, w ∈ lw_tbl := mem_r [260, 261, 262, 263, 273, 264, 265, 266, 267, 268, 269, 270, 271, 272, 274, 275, 276, 277, 107, 823, 824, 825, 826, 827] (by decide +kernel)
