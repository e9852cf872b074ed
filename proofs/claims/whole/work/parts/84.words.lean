/-! THE LAW'S WORDS, by their tables and places (printed by wip/whole/fast.py) -/
theorem mem_r {Ts ws : List Cond} (is : List Nat) (h : is.map (fun i => Ts[i]?) = ws.map some) : ∀ w ∈ ws, w ∈ Ts := by
  intro w hw
  have : some w ∈ is.map (fun i => Ts[i]?) := by rw [h]; exact List.mem_map.mpr ⟨w, hw, rfl⟩
  obtain ⟨i, -, hi⟩ := List.mem_map.mp this
  exact List.mem_of_getElem? hi
noncomputable def chT : List (List Cond) := [k2_sels lw_privs, tables_1_1, tables_1_2, tables_1_3, tables_1_4, tables_1_5]
theorem chT_in : ∀ c ∈ chT, ∀ w ∈ c, w ∈ lw_tbl := by
  unfold chT lw_tbl tables_1
  exact List.forall_mem_cons.mpr ⟨fun w h => List.mem_append_left _ h, List.forall_mem_cons.mpr ⟨fun w h => List.mem_append_right _ (List.mem_append_left _ h), List.forall_mem_cons.mpr ⟨fun w h => List.mem_append_right _ (List.mem_append_right _ (List.mem_append_left _ h)), List.forall_mem_cons.mpr ⟨fun w h => List.mem_append_right _ (List.mem_append_right _ (List.mem_append_right _ (List.mem_append_left _ h))), List.forall_mem_cons.mpr ⟨fun w h => List.mem_append_right _ (List.mem_append_right _ (List.mem_append_right _ (List.mem_append_right _ (List.mem_append_left _ h)))), List.forall_mem_cons.mpr ⟨fun w h => List.mem_append_right _ (List.mem_append_right _ (List.mem_append_right _ (List.mem_append_right _ (List.mem_append_right _ (h))))), fun _ h => absurd h List.not_mem_nil⟩⟩⟩⟩⟩⟩
theorem mem_t {ws : List Cond} (ps : List (Nat × Nat)) (h : ws = ps.filterMap (fun q => (chT[q.1]?.getD [])[q.2]?)) : ∀ w ∈ ws, w ∈ lw_tbl := by
  intro w hw
  rw [h] at hw
  obtain ⟨q, -, hq⟩ := List.mem_filterMap.mp hw
  cases hc : chT[q.1]? with
  | none => rw [hc] at hq; cases hq
  | some c =>
    rw [hc] at hq
    exact chT_in c (List.mem_of_getElem? hc) w (List.mem_of_getElem? hq)
set_option maxRecDepth 100000 in
theorem wsL_law_r1_in : ∀ w ∈ wsL_law_r1, w ∈ lw_tbl := mem_t [(1, 14), (1, 15), (1, 1), (3, 199), (3, 200), (1, 5), (5, 147), (1, 16), (1, 17), (1, 18), (1, 19), (1, 20), (1, 21), (1, 22), (1, 23), (1, 2), (1, 145), (1, 146), (1, 147), (1, 97), (1, 98), (1, 3), (1, 149), (1, 124)] rfl
set_option maxRecDepth 100000 in
theorem wsL_law_r2_in : ∀ w ∈ wsL_law_r2, w ∈ lw_tbl := mem_t [(1, 150), (1, 96), (1, 151), (1, 126), (1, 4), (1, 25), (1, 26), (1, 27), (1, 28), (1, 31), (1, 34), (1, 44), (1, 46), (1, 48), (1, 50), (1, 53), (1, 56), (1, 59), (1, 61), (1, 63), (1, 100), (1, 101), (1, 102), (1, 123)] rfl
set_option maxRecDepth 100000 in
theorem wsL_law_r3_in : ∀ w ∈ wsL_law_r3, w ∈ lw_tbl := mem_t [(1, 105), (1, 128), (1, 129), (1, 130), (1, 144), (1, 135), (3, 201), (3, 202), (3, 203), (3, 204), (3, 205), (3, 206), (3, 207), (3, 209), (3, 210), (3, 212), (3, 213), (3, 214), (3, 215), (1, 167), (1, 168), (1, 169), (1, 170), (1, 175)] rfl
set_option maxRecDepth 100000 in
theorem wsL_law_r4_in : ∀ w ∈ wsL_law_r4, w ∈ lw_tbl := mem_t [(1, 171), (1, 173), (0, 0), (1, 174), (1, 40), (1, 180), (1, 30), (1, 176), (1, 178), (0, 1), (1, 179), (1, 181), (1, 183), (0, 2), (1, 184), (1, 33), (1, 185), (1, 187), (0, 3), (1, 188), (1, 36), (1, 189), (1, 190), (1, 191)] rfl
set_option maxRecDepth 100000 in
theorem wsL_law_r5_in : ∀ w ∈ wsL_law_r5, w ∈ lw_tbl := mem_t [(4, 11), (4, 12), (4, 13), (4, 14), (4, 15), (4, 25), (4, 30), (4, 16), (4, 17), (4, 18), (4, 19), (4, 20), (4, 21), (4, 22), (4, 23), (4, 24), (4, 26), (4, 28), (0, 28), (4, 29), (4, 31), (4, 33), (0, 29), (4, 34)] rfl
set_option maxRecDepth 100000 in
theorem wsL_law_r6_in : ∀ w ∈ wsL_law_r6, w ∈ lw_tbl := mem_t [(1, 192), (1, 193), (1, 194), (1, 195), (1, 205), (1, 196), (1, 197), (1, 198), (1, 199), (1, 200), (1, 201), (1, 202), (1, 203), (1, 204), (1, 206), (1, 207), (1, 208), (1, 209), (1, 39), (4, 35), (4, 36), (4, 37), (4, 38), (4, 39)] rfl
set_option maxRecDepth 100000 in
theorem wsL_law_r7_in : ∀ w ∈ wsL_law_r7, w ∈ lw_tbl := mem_t [(4, 40), (4, 41), (4, 42), (4, 43), (4, 45), (0, 30), (4, 46), (4, 47), (4, 49), (0, 31), (4, 50), (1, 210), (1, 211), (1, 212), (1, 213), (1, 45), (1, 47), (1, 49), (1, 51), (1, 54), (1, 57), (1, 60), (1, 62), (1, 214)] rfl
set_option maxRecDepth 100000 in
theorem wsL_law_r8_in : ∀ w ∈ wsL_law_r8, w ∈ lw_tbl := mem_t [(1, 215), (1, 216), (1, 217), (1, 218), (1, 219), (1, 220), (1, 221), (1, 222), (1, 223), (1, 225), (0, 4), (1, 226), (4, 51), (4, 52), (4, 53), (4, 54), (4, 59), (4, 55), (4, 57), (0, 32), (4, 58), (4, 60), (4, 62), (0, 33)] rfl
set_option maxRecDepth 100000 in
theorem wsL_law_r9_in : ∀ w ∈ wsL_law_r9, w ∈ lw_tbl := mem_t [(4, 63), (4, 64), (4, 66), (0, 34), (4, 67), (4, 68), (4, 70), (0, 35), (4, 71), (4, 72), (4, 74), (0, 36), (4, 75), (1, 227), (1, 228), (1, 229), (1, 230), (1, 231), (1, 232), (1, 233), (1, 234), (1, 236), (0, 5), (1, 237)] rfl
set_option maxRecDepth 100000 in
theorem wsL_law_r10_in : ∀ w ∈ wsL_law_r10, w ∈ lw_tbl := mem_t [(1, 238), (1, 239), (2, 0), (2, 1), (4, 76), (4, 77), (4, 78), (4, 79), (4, 80), (4, 82), (0, 37), (4, 83), (2, 2), (2, 3), (2, 4), (2, 5), (4, 84), (4, 85), (4, 86), (4, 87), (2, 6), (2, 7), (2, 8), (2, 9)] rfl
set_option maxRecDepth 100000 in
theorem wsL_law_r11_in : ∀ w ∈ wsL_law_r11, w ∈ lw_tbl := mem_t [(2, 15), (2, 10), (2, 11), (1, 6), (2, 12), (2, 13), (4, 88), (4, 89), (4, 90), (4, 91), (4, 95), (4, 92), (4, 93), (4, 94), (2, 16), (2, 17), (2, 18), (2, 19), (2, 20), (2, 21), (2, 22), (2, 23), (2, 24), (2, 25)] rfl
set_option maxRecDepth 100000 in
theorem wsL_law_r12_in : ∀ w ∈ wsL_law_r12, w ∈ lw_tbl := mem_t [(2, 26), (2, 27), (2, 28), (2, 29), (2, 30), (2, 31), (2, 40), (2, 41), (1, 7), (2, 42), (2, 32), (2, 34), (0, 6), (2, 35), (2, 36), (2, 38), (0, 7), (2, 39), (2, 43), (2, 44), (2, 45), (2, 46), (2, 47), (2, 49)] rfl
set_option maxRecDepth 100000 in
theorem wsL_law_r13_in : ∀ w ∈ wsL_law_r13, w ∈ lw_tbl := mem_t [(0, 8), (2, 50), (1, 42), (4, 96), (4, 97), (4, 98), (4, 99), (4, 100), (4, 102), (0, 38), (4, 103), (4, 104), (4, 106), (0, 39), (4, 107), (4, 108), (4, 110), (0, 40), (4, 111), (4, 112), (4, 114), (0, 41), (4, 115), (4, 116)] rfl
set_option maxRecDepth 100000 in
theorem wsL_law_r14_in : ∀ w ∈ wsL_law_r14, w ∈ lw_tbl := mem_t [(4, 118), (0, 42), (4, 119), (2, 51), (2, 52), (2, 53), (2, 54), (1, 43), (2, 55), (2, 56), (2, 57), (2, 58), (1, 37), (4, 120), (4, 121), (4, 122), (4, 123), (4, 124), (4, 126), (0, 43), (4, 127), (2, 59), (2, 60), (2, 61)] rfl
set_option maxRecDepth 100000 in
theorem wsL_law_r15_in : ∀ w ∈ wsL_law_r15, w ∈ lw_tbl := mem_t [(2, 62), (2, 63), (2, 64), (2, 65), (2, 66), (2, 67), (2, 68), (2, 69), (2, 70), (2, 71), (2, 72), (2, 73), (2, 74), (2, 75), (2, 76), (2, 77), (2, 79), (0, 9), (2, 80), (4, 128), (4, 129), (4, 130), (4, 131), (4, 132)] rfl
set_option maxRecDepth 100000 in
theorem wsL_law_r16_in : ∀ w ∈ wsL_law_r16, w ∈ lw_tbl := mem_t [(4, 133), (4, 135), (0, 44), (4, 136), (2, 81), (2, 82), (2, 83), (2, 84), (1, 38), (4, 137), (4, 138), (4, 139), (4, 140), (2, 85), (2, 86), (2, 87), (2, 88), (2, 89), (2, 90), (2, 91), (2, 92), (2, 93), (4, 141), (4, 142)] rfl
set_option maxRecDepth 100000 in
theorem wsL_law_r17_in : ∀ w ∈ wsL_law_r17, w ∈ lw_tbl := mem_t [(4, 143), (4, 144), (4, 145), (4, 147), (0, 45), (4, 148), (2, 94), (2, 95), (2, 96), (2, 97), (2, 98), (2, 99), (2, 100), (2, 101), (2, 102), (2, 103), (2, 105), (0, 10), (2, 106), (2, 107), (4, 149), (4, 150), (4, 151), (4, 152)] rfl
set_option maxRecDepth 100000 in
theorem wsL_law_r18_in : ∀ w ∈ wsL_law_r18, w ∈ lw_tbl := mem_t [(4, 153), (4, 155), (0, 46), (4, 156), (4, 157), (4, 159), (0, 47), (4, 160), (4, 161), (2, 108), (2, 109), (2, 110), (2, 111), (2, 112), (2, 113), (2, 114), (2, 115), (2, 116), (2, 117), (4, 162), (4, 163), (4, 164), (4, 165), (2, 118)] rfl
set_option maxRecDepth 100000 in
theorem wsL_law_r19_in : ∀ w ∈ wsL_law_r19, w ∈ lw_tbl := mem_t [(2, 119), (2, 120), (2, 121), (2, 122), (2, 124), (0, 11), (2, 125), (4, 166), (4, 167), (4, 168), (4, 169), (2, 126), (2, 127), (2, 128), (2, 129), (2, 130), (2, 132), (0, 12), (2, 133), (2, 134), (2, 135), (2, 136), (2, 137), (4, 170)] rfl
set_option maxRecDepth 100000 in
theorem wsL_law_r20_in : ∀ w ∈ wsL_law_r20, w ∈ lw_tbl := mem_t [(4, 171), (4, 172), (4, 173), (4, 174), (4, 175), (4, 177), (0, 48), (4, 178), (4, 179), (4, 181), (0, 49), (4, 182), (4, 183), (4, 185), (0, 50), (4, 186), (2, 138), (2, 139), (2, 140), (2, 141), (4, 187), (4, 188), (4, 189), (4, 190)] rfl
set_option maxRecDepth 100000 in
theorem wsL_law_r21_in : ∀ w ∈ wsL_law_r21, w ∈ lw_tbl := mem_t [(4, 191), (4, 193), (0, 51), (4, 194), (2, 142), (2, 143), (2, 144), (2, 145), (4, 195), (4, 196), (4, 197), (4, 198), (4, 199), (2, 146), (2, 147), (2, 148), (2, 149), (2, 150), (4, 200), (4, 201), (4, 202), (4, 203), (2, 151), (2, 152)] rfl
set_option maxRecDepth 100000 in
theorem wsL_law_r22_in : ∀ w ∈ wsL_law_r22, w ∈ lw_tbl := mem_t [(2, 153), (2, 154), (4, 204), (4, 205), (4, 206), (4, 207), (2, 155), (2, 156), (2, 157), (2, 158), (2, 159), (2, 160), (2, 161), (2, 162), (2, 163), (2, 164), (4, 208), (4, 209), (4, 210), (4, 211), (4, 212), (4, 214), (0, 52), (4, 215)] rfl
set_option maxRecDepth 100000 in
theorem wsL_law_r23_in : ∀ w ∈ wsL_law_r23, w ∈ lw_tbl := mem_t [(2, 165), (2, 166), (2, 167), (2, 168), (4, 216), (4, 217), (4, 218), (4, 219), (4, 220), (4, 222), (0, 53), (4, 223), (2, 169), (2, 170), (2, 171), (2, 172), (4, 224), (4, 225), (4, 226), (4, 227), (2, 173), (2, 174), (2, 175), (2, 176)] rfl
set_option maxRecDepth 100000 in
theorem wsL_law_r24_in : ∀ w ∈ wsL_law_r24, w ∈ lw_tbl := mem_t [(4, 228), (4, 229), (4, 230), (4, 231), (2, 177), (2, 178), (2, 179), (2, 180), (4, 232), (4, 233), (4, 234), (4, 235), (2, 181), (2, 182), (2, 183), (2, 184), (4, 236), (4, 237), (4, 238), (4, 239), (2, 185), (2, 186), (2, 187), (2, 188)] rfl
set_option maxRecDepth 100000 in
theorem wsL_law_r25_in : ∀ w ∈ wsL_law_r25, w ∈ lw_tbl := mem_t [(2, 189), (2, 190), (2, 191), (2, 192), (5, 0), (5, 1), (5, 2), (5, 3), (5, 4), (5, 6), (0, 54), (5, 7), (2, 193), (2, 194), (2, 195), (2, 196), (5, 8), (5, 9), (5, 10), (5, 11), (2, 197), (2, 198), (2, 199), (2, 200)] rfl
set_option maxRecDepth 100000 in
theorem wsL_law_r26_in : ∀ w ∈ wsL_law_r26, w ∈ lw_tbl := mem_t [(2, 201), (5, 12), (5, 13), (5, 14), (5, 15), (5, 16), (5, 17), (2, 202), (2, 203), (2, 204), (2, 205), (1, 64), (5, 18), (5, 19), (5, 20), (5, 21), (2, 206), (2, 207), (2, 208), (2, 209), (1, 104), (2, 210), (2, 211), (2, 212)] rfl
set_option maxRecDepth 100000 in
theorem wsL_law_r27_in : ∀ w ∈ wsL_law_r27, w ∈ lw_tbl := mem_t [(2, 213), (1, 103), (5, 22), (5, 23), (5, 24), (5, 25), (5, 26), (3, 211), (2, 214), (2, 215), (2, 216), (2, 217), (2, 218), (2, 219), (2, 220), (2, 221), (5, 27), (5, 28), (5, 29), (5, 30), (2, 222), (2, 223), (2, 224), (2, 225)] rfl
set_option maxRecDepth 100000 in
theorem wsL_law_r28_in : ∀ w ∈ wsL_law_r28, w ∈ lw_tbl := mem_t [(2, 226), (2, 227), (2, 228), (2, 229), (1, 108), (1, 106), (1, 107), (2, 230), (2, 232), (0, 13), (2, 233), (2, 234), (2, 236), (0, 14), (2, 237), (2, 238), (2, 239), (3, 0), (3, 1), (3, 3), (0, 15), (3, 4), (1, 41), (3, 5)] rfl
set_option maxRecDepth 100000 in
theorem wsL_law_r29_in : ∀ w ∈ wsL_law_r29, w ∈ lw_tbl := mem_t [(3, 7), (0, 16), (3, 8), (3, 9), (3, 10), (3, 11), (3, 18), (3, 20), (0, 17), (3, 21), (3, 22), (3, 23), (3, 24), (1, 8), (3, 25), (5, 148), (3, 26), (3, 27), (3, 28), (3, 29), (3, 30), (5, 149), (3, 32), (3, 33)] rfl
set_option maxRecDepth 100000 in
theorem wsL_law_r30_in : ∀ w ∈ wsL_law_r30, w ∈ lw_tbl := mem_t [(3, 34), (3, 35), (3, 36), (3, 37), (3, 38), (3, 39), (3, 40), (3, 41), (1, 9), (3, 42), (3, 43), (3, 44), (3, 45), (3, 46), (3, 48), (3, 49), (1, 10), (3, 50), (3, 51), (3, 52), (1, 11), (3, 53), (3, 54), (3, 55)] rfl
set_option maxRecDepth 100000 in
theorem wsL_law_r31_in : ∀ w ∈ wsL_law_r31, w ∈ lw_tbl := mem_t [(3, 56), (3, 57), (3, 58), (3, 59), (3, 60), (3, 61), (3, 62), (3, 63), (3, 64), (3, 66), (3, 68), (3, 70), (3, 72), (0, 18), (3, 73), (1, 109), (1, 29), (1, 52), (1, 55), (1, 58), (3, 75), (3, 77), (0, 19), (3, 78)] rfl
set_option maxRecDepth 100000 in
theorem wsL_law_r32_in : ∀ w ∈ wsL_law_r32, w ∈ lw_tbl := mem_t [(3, 79), (3, 81), (0, 20), (3, 82), (3, 86), (3, 87), (3, 89), (3, 91), (0, 21), (3, 92), (3, 94), (3, 96), (0, 22), (3, 97), (1, 32), (3, 99), (3, 101), (0, 23), (3, 102), (1, 35), (5, 31), (5, 32), (5, 33), (5, 34)] rfl
set_option maxRecDepth 100000 in
theorem wsL_law_r33_in : ∀ w ∈ wsL_law_r33, w ∈ lw_tbl := mem_t [(3, 218), (3, 217), (3, 216), (5, 35), (5, 37), (0, 55), (5, 38), (3, 219), (5, 39), (5, 41), (0, 56), (5, 42), (5, 43), (5, 44), (5, 45), (5, 46), (5, 47), (5, 48), (5, 49), (5, 51), (0, 57), (5, 52), (5, 53), (5, 55)] rfl
set_option maxRecDepth 100000 in
theorem wsL_law_r34_in : ∀ w ∈ wsL_law_r34, w ∈ lw_tbl := mem_t [(0, 58), (5, 56), (5, 57), (5, 59), (0, 59), (5, 60), (5, 61), (5, 63), (0, 60), (5, 64), (5, 65), (5, 67), (0, 61), (5, 68), (5, 69), (5, 71), (0, 62), (5, 72), (5, 73), (5, 75), (0, 63), (5, 76), (5, 77), (5, 79)] rfl
set_option maxRecDepth 100000 in
theorem wsL_law_r35_in : ∀ w ∈ wsL_law_r35, w ∈ lw_tbl := mem_t [(0, 64), (5, 80), (5, 81), (5, 83), (0, 65), (5, 84), (3, 103), (3, 104), (3, 105), (3, 106), (3, 113), (3, 107), (3, 108), (3, 109), (3, 110), (3, 111), (3, 112), (3, 114), (3, 115), (3, 116), (3, 117), (1, 131), (1, 133), (3, 118)] rfl
set_option maxRecDepth 100000 in
theorem wsL_law_r36_in : ∀ w ∈ wsL_law_r36, w ∈ lw_tbl := mem_t [(3, 119), (1, 12), (3, 120), (5, 85), (5, 86), (5, 87), (5, 88), (5, 92), (5, 89), (5, 90), (5, 91), (3, 121), (3, 122), (3, 123), (3, 124), (1, 136), (3, 125), (3, 127), (0, 24), (3, 128), (3, 133), (3, 129), (3, 130), (3, 131)] rfl
set_option maxRecDepth 100000 in
theorem wsL_law_r37_in : ∀ w ∈ wsL_law_r37, w ∈ lw_tbl := mem_t [(3, 132), (3, 134), (3, 135), (3, 136), (3, 137), (3, 138), (3, 139), (3, 140), (3, 141), (3, 142), (3, 143), (3, 145), (0, 25), (3, 146), (5, 93), (5, 94), (5, 95), (5, 96), (5, 97), (5, 98), (5, 99), (5, 100), (3, 147), (3, 148)] rfl
set_option maxRecDepth 100000 in
theorem wsL_law_r38_in : ∀ w ∈ wsL_law_r38, w ∈ lw_tbl := mem_t [(3, 149), (3, 150), (1, 132), (3, 155), (3, 157), (3, 156), (1, 13), (3, 151), (3, 152), (3, 153), (3, 154), (5, 101), (5, 102), (5, 103), (5, 104), (3, 158), (3, 159), (3, 160), (3, 161), (1, 134), (3, 162), (5, 105), (5, 106), (5, 107)] rfl
set_option maxRecDepth 100000 in
theorem wsL_law_r39_in : ∀ w ∈ wsL_law_r39, w ∈ lw_tbl := mem_t [(5, 108), (5, 109), (5, 111), (0, 66), (5, 112), (3, 163), (3, 164), (3, 165), (3, 166), (5, 113), (5, 114), (5, 115), (5, 116), (3, 167), (3, 168), (3, 169), (3, 170), (3, 171), (3, 173), (0, 26), (3, 174), (5, 117), (5, 118), (5, 119)] rfl
set_option maxRecDepth 100000 in
theorem wsL_law_r40_in : ∀ w ∈ wsL_law_r40, w ∈ lw_tbl := mem_t [(5, 120), (3, 175), (3, 176), (3, 177), (3, 178), (1, 148), (5, 121), (5, 122), (5, 123), (5, 124), (3, 208), (3, 179), (3, 180), (3, 181), (3, 182), (5, 125), (5, 126), (5, 127), (5, 128), (3, 183), (3, 184), (3, 185), (3, 186), (5, 129)] rfl
set_option maxRecDepth 100000 in
theorem wsL_law_r41_in : ∀ w ∈ wsL_law_r41, w ∈ lw_tbl := mem_t [(5, 130), (5, 131), (5, 132), (3, 187), (3, 188), (3, 189), (3, 190), (3, 191), (3, 193), (0, 27), (3, 194), (5, 133), (5, 134), (5, 135), (5, 136), (5, 137), (5, 139), (0, 67), (5, 140), (3, 195), (3, 196), (3, 197), (3, 198), (5, 141)] rfl
set_option maxRecDepth 100000 in
theorem wsL_law_r42_in : ∀ w ∈ wsL_law_r42, w ∈ lw_tbl := mem_t [(5, 142), (5, 143), (5, 144), (5, 145), (5, 146)] rfl
set_option maxRecDepth 100000 in
theorem wsX40_in : ∀ w ∈ wsX40, w ∈ lw_tbl := mem_t [(1, 152), (1, 154), (1, 156), (1, 158), (1, 160), (1, 162), (1, 164)] rfl
set_option maxRecDepth 100000 in
theorem wsX50_in : ∀ w ∈ wsX50, w ∈ lw_tbl := mem_t [(3, 220), (3, 222), (3, 224), (3, 226), (3, 228), (3, 230), (3, 232), (3, 234), (3, 236), (3, 238), (4, 0), (4, 2), (4, 4), (4, 6), (4, 8)] rfl
set_option maxRecDepth 100000 in
theorem wsX30_in : ∀ w ∈ wsX30, w ∈ lw_tbl := mem_t [(1, 65), (1, 67), (1, 69), (1, 71), (1, 73), (1, 75), (1, 77), (1, 79), (1, 81), (1, 83), (1, 85), (1, 87), (1, 89), (1, 91), (1, 93)] rfl
set_option maxRecDepth 100000 in
theorem wsX20_in : ∀ w ∈ wsX20, w ∈ lw_tbl := mem_t [(1, 110), (1, 112), (1, 114), (1, 116), (1, 118), (1, 120)] rfl
set_option maxRecDepth 100000 in
theorem wsX10_in : ∀ w ∈ wsX10, w ∈ lw_tbl := mem_t [(1, 137), (1, 139), (1, 141)] rfl
set_option maxRecDepth 100000 in
theorem wsL_law_in : ∀ w ∈ wsL_law, w ∈ lw_tbl := by
  unfold wsL_law
  exact List.forall_mem_append.mpr ⟨List.forall_mem_append.mpr ⟨List.forall_mem_append.mpr ⟨List.forall_mem_append.mpr ⟨List.forall_mem_append.mpr ⟨List.forall_mem_append.mpr ⟨List.forall_mem_append.mpr ⟨wsL_law_r1_in, List.forall_mem_append.mpr ⟨wsL_law_r2_in, List.forall_mem_append.mpr ⟨wsL_law_r3_in, List.forall_mem_append.mpr ⟨wsL_law_r4_in, List.forall_mem_append.mpr ⟨wsL_law_r5_in, List.forall_mem_append.mpr ⟨wsL_law_r6_in, List.forall_mem_append.mpr ⟨wsL_law_r7_in, List.forall_mem_append.mpr ⟨wsL_law_r8_in, List.forall_mem_append.mpr ⟨wsL_law_r9_in, List.forall_mem_append.mpr ⟨wsL_law_r10_in, List.forall_mem_append.mpr ⟨wsL_law_r11_in, List.forall_mem_append.mpr ⟨wsL_law_r12_in, List.forall_mem_append.mpr ⟨wsL_law_r13_in, List.forall_mem_append.mpr ⟨wsL_law_r14_in, List.forall_mem_append.mpr ⟨wsL_law_r15_in, List.forall_mem_append.mpr ⟨wsL_law_r16_in, List.forall_mem_append.mpr ⟨wsL_law_r17_in, List.forall_mem_append.mpr ⟨wsL_law_r18_in, List.forall_mem_append.mpr ⟨wsL_law_r19_in, List.forall_mem_append.mpr ⟨wsL_law_r20_in, List.forall_mem_append.mpr ⟨wsL_law_r21_in, List.forall_mem_append.mpr ⟨wsL_law_r22_in, List.forall_mem_append.mpr ⟨wsL_law_r23_in, List.forall_mem_append.mpr ⟨wsL_law_r24_in, List.forall_mem_append.mpr ⟨wsL_law_r25_in, List.forall_mem_append.mpr ⟨wsL_law_r26_in, List.forall_mem_append.mpr ⟨wsL_law_r27_in, List.forall_mem_append.mpr ⟨wsL_law_r28_in, List.forall_mem_append.mpr ⟨wsL_law_r29_in, List.forall_mem_append.mpr ⟨wsL_law_r30_in, List.forall_mem_append.mpr ⟨wsL_law_r31_in, List.forall_mem_append.mpr ⟨wsL_law_r32_in, List.forall_mem_append.mpr ⟨wsL_law_r33_in, List.forall_mem_append.mpr ⟨wsL_law_r34_in, List.forall_mem_append.mpr ⟨wsL_law_r35_in, List.forall_mem_append.mpr ⟨wsL_law_r36_in, List.forall_mem_append.mpr ⟨wsL_law_r37_in, List.forall_mem_append.mpr ⟨wsL_law_r38_in, List.forall_mem_append.mpr ⟨wsL_law_r39_in, List.forall_mem_append.mpr ⟨wsL_law_r40_in, List.forall_mem_append.mpr ⟨wsL_law_r41_in, wsL_law_r42_in⟩⟩⟩⟩⟩⟩⟩⟩⟩⟩⟩⟩⟩⟩⟩⟩⟩⟩⟩⟩⟩⟩⟩⟩⟩⟩⟩⟩⟩⟩⟩⟩⟩⟩⟩⟩⟩⟩⟩⟩⟩, wsX40_in⟩, wsX50_in⟩, wsX30_in⟩, wsX20_in⟩, wsX10_in⟩, fun _ h => absurd h List.not_mem_nil⟩
