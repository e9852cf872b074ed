-- X5_feed
set_option maxRecDepth 100000 in
set_option maxHeartbeats 4000000 in
theorem kX5_feed (l : Launch) (G : sGl) {S : sWo} {M : sOb} {a1 : Int32} {a2 : Int32} {q : (Int32 × sOb)}  (h : fX5_feed M a1 a2 = some q) : sCt l G yX5_feed wsX5_feed rmX5_feed [.ref (sA G 9 0), .int a1, .int a2] S M (some (.int q.1)) S q.2 := by
  refine cMk (cc := cX5_feed) (maxL := 4) (ret := (some .int)) (by decide) rfl (Nat.le_of_ble_eq_true rfl) ?_
  intro p e s m args below meth c Q hQ hx hb hr hlk hml hown hts hw ls hl
  have hown : s.vm.findClass RX5 = some m.cls := hown
  have hl : lv_has ls 4 [(0, .ref (sA G 9 0)), (1, .int a1), (2, .int a2)] := hl
  have hiX5 : ∀ w ∈ u_ws RX5 TX5 15, w ∈ wsX5_feed := by decide +kernel
  unfold fX5_feed at h
  refine lv_iload_n hx hb dX5_feed_0 rfl (lv_at hl 2 rfl) ?_
  refine lv_i2l hx hb dX5_feed_1 rfl ?_
  refine lv_lconst (v := 1) hx hb dX5_feed_2 (by decide) ?_
  refine lv_ldc2 (v := 4) hx hb hown (hts (.constantLong RX5 166 (4)) (by decide +kernel)) dX5_feed_3 ?_
  obtain ⟨q6, eq6, h⟩ := o_bd h
  refine kS (As := [.long a2.toInt64, .long (1 : Int64), .long (4 : Int64)]) (rest := []) (st' := [.int q6]) ⟨hx, hb, hml, hown, hts⟩ (kX5_isIn l G eq6) (va_cwS 3 hts gX5_feed_X5_isIn rfl rfl rfl qqX5_isIn ⟨Nat.le_of_ble_eq_true rfl, Nat.le_of_ble_eq_true rfl⟩) hw rfl hl.1 rfl (Nat.le_of_ble_eq_true rfl) dX5_feed_6 ⟨Nat.zero_le _, Nat.zero_le _⟩ rfl (fun H locs hw => ?_)
  refine lv_if_ne (tgt := 19) hx hb dX5_feed_9 (by decide) (fun c9 => ?_) (fun c9 => ?_)
  · replace h := o_f c9 h
    refine lv_aload_n hx hb dX5_feed_19 rfl (lv_at hl 0 rfl) ?_
    refine gMd (v := .int (M.1 1)) hx hb hts hiX5 hown hw 6 (by decide) (hts (.fieldLink RX5 168 "SecondHomeModel" "taped" "I") (by decide +kernel)) rfl dX5_feed_20 ?_
    refine lv_iload_n hx hb dX5_feed_23 rfl (lv_at hl 2 rfl) ?_
    refine lv_iadd hx hb dX5_feed_24 ?_
    refine lv_bipush (v := 120) hx hb dX5_feed_25 (by decide) ?_
    refine lv_icmp_le (tgt := 37) hx hb dX5_feed_27 (by decide) (fun c27 => ?_) (fun c27 => ?_)
    · replace h := o_t c27 h
      refine lv_iload_n hx hb dX5_feed_37 rfl (lv_at hl 2 rfl) ?_
      refine lv_iconst (v := 1) hx hb dX5_feed_38 (by decide) ?_
      refine lv_isub hx hb dX5_feed_39 ?_
      refine lv_topi (fun v40 ev40 => ?_)
      replace h := o_nx ev40 h
      refine lv_istore_n (lv' := [(3, .int v40), (0, .ref (sA G 9 0)), (1, .int a1), (2, .int a2)]) hx hb dX5_feed_40 rfl hl (by decide) rfl (fun ls hl => ?_)
      refine fx2_w (F := (bX5_feed_41 a1)) (P := fun x3_41 T_41 => ∀ (H : Heap) (locs : List Loc) (ls : Array Slot), sHw G s S T_41 H locs → lv_has ls 4 [(0, .ref (sA G 9 0)), (1, .int a1), (3, .int x3_41)] → W p l e rmX5_feed s m args below meth c H locs 0 0 Q (F0 m 41 ls [])) ?_ _ _ _ h _ _ _ hw (lv_sub hl [1, 2, 0] rfl)
      intro rc41 IH41 x3_41 T_41 h H locs ls hw hl
      unfold bX5_feed_41 at h
      refine lv_iload_n hx hb dX5_feed_41 rfl (lv_at hl 2 rfl) ?_
      refine lv_if_lt (tgt := 80) hx hb dX5_feed_42 (by decide) (fun c42 => ?_) (fun c42 => ?_)
      · replace h := o_t c42 h
        refine lv_aload_n hx hb dX5_feed_80 rfl (lv_at hl 0 rfl) ?_
        refine gMd (v := .int (T_41.1 1)) hx hb hts hiX5 hown hw 6 (by decide) (hts (.fieldLink RX5 168 "SecondHomeModel" "taped" "I") (by decide +kernel)) rfl dX5_feed_81 ?_
        exact rI hQ hx hb hr hlk hw dX5_feed_84 (o_2a h) rfl (o_2b h)
      · replace h := o_f c42 h
        refine lv_aload_n hx hb dX5_feed_45 rfl (lv_at hl 0 rfl) ?_
        refine gMd (v := .ref (sA G 9 5)) hx hb hts hiX5 hown hw 5 (by decide) (hts (.fieldLink RX5 22 "SecondHomeModel" "tape" "[I") (by decide +kernel)) rfl dX5_feed_46 ?_
        refine lv_aload_n hx hb dX5_feed_49 rfl (lv_at hl 0 rfl) ?_
        refine gMd (v := .int (T_41.1 1)) hx hb hts hiX5 hown hw 6 (by decide) (hts (.fieldLink RX5 168 "SecondHomeModel" "taped" "I") (by decide +kernel)) rfl dX5_feed_50 ?_
        refine lv_iload_n hx hb dX5_feed_53 rfl (lv_at hl 1 rfl) ?_
        refine lv_bipush (v := 8) hx hb dX5_feed_54 (by decide) ?_
        refine lv_iload_n hx hb dX5_feed_56 rfl (lv_at hl 2 rfl) ?_
        refine lv_imul hx hb dX5_feed_57 ?_
        refine lv_ishr hx hb dX5_feed_58 ?_
        refine lv_sipush (v := 255) hx hb dX5_feed_59 (by decide) ?_
        refine lv_iand hx hb dX5_feed_62 ?_
        obtain ⟨b63, h⟩ := o_in h
        refine stMd hx hb hw 4 (by decide) (n := 120) rfl b63 dX5_feed_63 rfl (fun H locs hw => ?_)
        obtain ⟨M63, eM63, h⟩ := o_nm h
        rw [← eM63] at hw
        refine lv_aload_n hx hb dX5_feed_64 rfl (lv_at hl 0 rfl) ?_
        refine lv_dup hx hb dX5_feed_65 rfl ?_
        refine gMd (v := .int (M63.1 1)) hx hb hts hiX5 hown hw 6 (by decide) (hts (.fieldLink RX5 168 "SecondHomeModel" "taped" "I") (by decide +kernel)) rfl dX5_feed_66 ?_
        refine lv_iconst (v := 1) hx hb dX5_feed_69 (by decide) ?_
        refine lv_iadd hx hb dX5_feed_70 ?_
        refine pMd (ty := .int) hx hb hts hiX5 hown hw 6 1 (by decide) rfl rfl (by decide +kernel) rfl rfl (hts (.fieldLink RX5 168 "SecondHomeModel" "taped" "I") (by decide +kernel)) dX5_feed_71 rfl (fun H locs hw => ?_)
        obtain ⟨M71, eM71, h⟩ := o_nm h
        rw [← eM71] at hw
        obtain ⟨v74, ev74, h⟩ := o_nm h
        refine lv_iinc (v := v74) (lv' := [(3, .int v74), (0, .ref (sA G 9 0)), (1, .int a1)]) hx hb dX5_feed_74 hl (k := 2) rfl (by rw [ev74]; rfl) (by decide) rfl (fun ls hl => ?_)
        refine lv_goto (tgt := 41) hx hb dX5_feed_77 (by decide) ?_
        exact IH41 v74 M71 h _ _ _ hw (lv_sub hl [1, 2, 0] rfl)
    · replace h := o_f c27 h
      refine lv_aload_n hx hb dX5_feed_30 rfl (lv_at hl 0 rfl) ?_
      refine lv_ldc (v := -1000000002) hx hb hown (hts (.constant RX5 74 (-1000000002)) (by decide +kernel)) dX5_feed_31 ?_
      obtain ⟨q33, eq33, h⟩ := o_bd h
      refine kV (As := [.int (-1000000002 : Int32)]) (rest := []) (st' := [.int q33.1]) ⟨hx, hb, hml, hown, hts⟩ (kX5_finds l G eq33) (cwV 1 hts gX5_feed_X5_finds rfl rfl rfl qqX5_finds ⟨Nat.le_of_ble_eq_true rfl, Nat.le_of_ble_eq_true rfl⟩) hw (rvMd hw) rfl hl.1 rfl (Nat.le_of_ble_eq_true rfl) dX5_feed_33 ⟨Nat.zero_le _, Nat.zero_le _⟩ rfl (fun H locs hw => ?_)
      exact rI hQ hx hb hr hlk hw dX5_feed_36 (o_2a h) rfl (o_2b h)
  · replace h := o_t c9 h
    refine lv_aload_n hx hb dX5_feed_12 rfl (lv_at hl 0 rfl) ?_
    refine lv_ldc (v := -1000000001) hx hb hown (hts (.constant RX5 38 (-1000000001)) (by decide +kernel)) dX5_feed_13 ?_
    obtain ⟨q15, eq15, h⟩ := o_bd h
    refine kV (As := [.int (-1000000001 : Int32)]) (rest := []) (st' := [.int q15.1]) ⟨hx, hb, hml, hown, hts⟩ (kX5_finds l G eq15) (cwV 1 hts gX5_feed_X5_finds rfl rfl rfl qqX5_finds ⟨Nat.le_of_ble_eq_true rfl, Nat.le_of_ble_eq_true rfl⟩) hw (rvMd hw) rfl hl.1 rfl (Nat.le_of_ble_eq_true rfl) dX5_feed_15 ⟨Nat.zero_le _, Nat.zero_le _⟩ rfl (fun H locs hw => ?_)
    exact rI hQ hx hb hr hlk hw dX5_feed_18 (o_2a h) rfl (o_2b h)
-- X5_wipe
set_option maxRecDepth 100000 in
set_option maxHeartbeats 4000000 in
theorem kX5_wipe (l : Launch) (G : sGl) {S : sWo} {M : sOb}  {q : (Int32 × sOb)}  (h : fX5_wipe M = some q) : sCt l G yX5_wipe wsX5_wipe rmX5_wipe [.ref (sA G 9 0)] S M (some (.int q.1)) S q.2 := by
  refine cMk (cc := cX5_wipe) (maxL := 2) (ret := (some .int)) (by decide) rfl (Nat.le_of_ble_eq_true rfl) ?_
  intro p e s m args below meth c Q hQ hx hb hr hlk hml hown hts hw ls hl
  have hown : s.vm.findClass RX5 = some m.cls := hown
  have hl : lv_has ls 2 [(0, .ref (sA G 9 0))] := hl
  have hiX5 : ∀ w ∈ u_ws RX5 TX5 15, w ∈ wsX5_wipe := by decide +kernel
  unfold fX5_wipe at h
  refine lv_aload_n hx hb dX5_wipe_0 rfl (lv_at hl 0 rfl) ?_
  refine gMd (v := .int (M.1 1)) hx hb hts hiX5 hown hw 6 (by decide) (hts (.fieldLink RX5 168 "SecondHomeModel" "taped" "I") (by decide +kernel)) rfl dX5_wipe_1 ?_
  refine lv_topi (fun v4 ev4 => ?_)
  replace h := o_nx ev4 h
  refine lv_istore_n (lv' := [(1, .int v4), (0, .ref (sA G 9 0))]) hx hb dX5_wipe_4 rfl hl (by decide) rfl (fun ls hl => ?_)
  refine lv_aload_n hx hb dX5_wipe_5 rfl (lv_at hl 1 rfl) ?_
  refine lv_iconst (v := 0) hx hb dX5_wipe_6 (by decide) ?_
  refine pMd (ty := .int) hx hb hts hiX5 hown hw 6 1 (by decide) rfl rfl (by decide +kernel) rfl rfl (hts (.fieldLink RX5 168 "SecondHomeModel" "taped" "I") (by decide +kernel)) dX5_wipe_7 rfl (fun H locs hw => ?_)
  obtain ⟨M7, eM7, h⟩ := o_nm h
  rw [← eM7] at hw
  refine lv_iload_n hx hb dX5_wipe_10 rfl (lv_at hl 0 rfl) ?_
  exact rI hQ hx hb hr hlk hw dX5_wipe_11 (o_2a h) rfl (o_2b h)
-- X5_isLetter
set_option maxRecDepth 100000 in
set_option maxHeartbeats 4000000 in
theorem kX5_isLetter (l : Launch) (G : sGl) {S : sWo} {M : sOb} {a0 : Int32} {q : Int32}  (h : fX5_isLetter a0 = some q) : sCt l G yX5_isLetter wsX5_isLetter rmX5_isLetter [.int a0] S M (some (.int q)) S M := by
  refine cMk (cc := cX5_isLetter) (maxL := 1) (ret := (some .boolean)) (by decide) rfl (Nat.le_of_ble_eq_true rfl) ?_
  intro p e s m args below meth c Q hQ hx hb hr hlk hml hown hts hw ls hl
  have hown : s.vm.findClass RX5 = some m.cls := hown
  have hl : lv_has ls 1 [(0, .int a0)] := hl
  unfold fX5_isLetter at h
  refine lv_iload_n hx hb dX5_isLetter_0 rfl (lv_at hl 0 rfl) ?_
  refine lv_bipush (v := 97) hx hb dX5_isLetter_1 (by decide) ?_
  refine lv_icmp_lt (tgt := 16) hx hb dX5_isLetter_3 (by decide) (fun c3 => ?_) (fun c3 => ?_)
  · replace h := o_t c3 h
    refine lv_iconst (v := 0) hx hb dX5_isLetter_16 (by decide) ?_
    exact rZ hQ hx hb hr hlk hw (Or.inl rfl) dX5_isLetter_17 (o_1 h) rfl rfl
  · replace h := o_f c3 h
    refine lv_iload_n hx hb dX5_isLetter_6 rfl (lv_at hl 0 rfl) ?_
    refine lv_bipush (v := 122) hx hb dX5_isLetter_7 (by decide) ?_
    refine lv_icmp_gt (tgt := 16) hx hb dX5_isLetter_9 (by decide) (fun c9 => ?_) (fun c9 => ?_)
    · replace h := o_t c9 h
      refine lv_iconst (v := 0) hx hb dX5_isLetter_16 (by decide) ?_
      exact rZ hQ hx hb hr hlk hw (Or.inl rfl) dX5_isLetter_17 (o_1 h) rfl rfl
    · replace h := o_f c9 h
      refine lv_iconst (v := 1) hx hb dX5_isLetter_12 (by decide) ?_
      refine lv_goto (tgt := 17) hx hb dX5_isLetter_13 (by decide) ?_
      exact rZ hQ hx hb hr hlk hw (Or.inr rfl) dX5_isLetter_17 (o_1 h) rfl rfl
-- X5_isDigit
set_option maxRecDepth 100000 in
set_option maxHeartbeats 4000000 in
theorem kX5_isDigit (l : Launch) (G : sGl) {S : sWo} {M : sOb} {a0 : Int32} {q : Int32}  (h : fX5_isDigit a0 = some q) : sCt l G yX5_isDigit wsX5_isDigit rmX5_isDigit [.int a0] S M (some (.int q)) S M := by
  refine cMk (cc := cX5_isDigit) (maxL := 1) (ret := (some .boolean)) (by decide) rfl (Nat.le_of_ble_eq_true rfl) ?_
  intro p e s m args below meth c Q hQ hx hb hr hlk hml hown hts hw ls hl
  have hown : s.vm.findClass RX5 = some m.cls := hown
  have hl : lv_has ls 1 [(0, .int a0)] := hl
  unfold fX5_isDigit at h
  refine lv_iload_n hx hb dX5_isDigit_0 rfl (lv_at hl 0 rfl) ?_
  refine lv_bipush (v := 48) hx hb dX5_isDigit_1 (by decide) ?_
  refine lv_icmp_lt (tgt := 16) hx hb dX5_isDigit_3 (by decide) (fun c3 => ?_) (fun c3 => ?_)
  · replace h := o_t c3 h
    refine lv_iconst (v := 0) hx hb dX5_isDigit_16 (by decide) ?_
    exact rZ hQ hx hb hr hlk hw (Or.inl rfl) dX5_isDigit_17 (o_1 h) rfl rfl
  · replace h := o_f c3 h
    refine lv_iload_n hx hb dX5_isDigit_6 rfl (lv_at hl 0 rfl) ?_
    refine lv_bipush (v := 57) hx hb dX5_isDigit_7 (by decide) ?_
    refine lv_icmp_gt (tgt := 16) hx hb dX5_isDigit_9 (by decide) (fun c9 => ?_) (fun c9 => ?_)
    · replace h := o_t c9 h
      refine lv_iconst (v := 0) hx hb dX5_isDigit_16 (by decide) ?_
      exact rZ hQ hx hb hr hlk hw (Or.inl rfl) dX5_isDigit_17 (o_1 h) rfl rfl
    · replace h := o_f c9 h
      refine lv_iconst (v := 1) hx hb dX5_isDigit_12 (by decide) ?_
      refine lv_goto (tgt := 17) hx hb dX5_isDigit_13 (by decide) ?_
      exact rZ hQ hx hb hr hlk hw (Or.inr rfl) dX5_isDigit_17 (o_1 h) rfl rfl
-- X5_byteAt
set_option maxRecDepth 100000 in
set_option maxHeartbeats 4000000 in
theorem kX5_byteAt (l : Launch) (G : sGl) {S : sWo} {M : sOb} {a1 : Int32} {q : Int32}  (h : fX5_byteAt M a1 = some q) : sCt l G yX5_byteAt wsX5_byteAt rmX5_byteAt [.ref (sA G 9 0), .int a1] S M (some (.int q)) S M := by
  refine cMk (cc := cX5_byteAt) (maxL := 2) (ret := (some .int)) (by decide) rfl (Nat.le_of_ble_eq_true rfl) ?_
  intro p e s m args below meth c Q hQ hx hb hr hlk hml hown hts hw ls hl
  have hown : s.vm.findClass RX5 = some m.cls := hown
  have hl : lv_has ls 2 [(0, .ref (sA G 9 0)), (1, .int a1)] := hl
  have hiX5 : ∀ w ∈ u_ws RX5 TX5 15, w ∈ wsX5_byteAt := by decide +kernel
  unfold fX5_byteAt at h
  refine lv_iload_n hx hb dX5_byteAt_0 rfl (lv_at hl 1 rfl) ?_
  refine lv_aload_n hx hb dX5_byteAt_1 rfl (lv_at hl 0 rfl) ?_
  refine gMd (v := .int (M.1 1)) hx hb hts hiX5 hown hw 6 (by decide) (hts (.fieldLink RX5 168 "SecondHomeModel" "taped" "I") (by decide +kernel)) rfl dX5_byteAt_2 ?_
  refine lv_icmp_ge (tgt := 17) hx hb dX5_byteAt_5 (by decide) (fun c5 => ?_) (fun c5 => ?_)
  · replace h := o_t c5 h
    refine lv_iconst (v := -1) hx hb dX5_byteAt_17 (by decide) ?_
    exact rI hQ hx hb hr hlk hw dX5_byteAt_18 (o_1 h) rfl rfl
  · replace h := o_f c5 h
    refine lv_aload_n hx hb dX5_byteAt_8 rfl (lv_at hl 0 rfl) ?_
    refine gMd (v := .ref (sA G 9 5)) hx hb hts hiX5 hown hw 5 (by decide) (hts (.fieldLink RX5 22 "SecondHomeModel" "tape" "[I") (by decide +kernel)) rfl dX5_byteAt_9 ?_
    refine lv_iload_n hx hb dX5_byteAt_12 rfl (lv_at hl 1 rfl) ?_
    obtain ⟨b13, h⟩ := o_in h
    refine ldMd hx hb hw 4 (by decide) (n := 120) rfl b13 dX5_byteAt_13 ?_
    refine lv_goto (tgt := 18) hx hb dX5_byteAt_14 (by decide) ?_
    exact rI hQ hx hb hr hlk hw dX5_byteAt_18 (o_1 h) rfl rfl
-- X5_nextToken
set_option maxRecDepth 100000 in
set_option maxHeartbeats 4000000 in
theorem kX5_nextToken (l : Launch) (G : sGl) {S : sWo} {M : sOb}  {q : sOb}  (h : fX5_nextToken M = some q) : sCt l G yX5_nextToken wsX5_nextToken rmX5_nextToken [.ref (sA G 9 0)] S M none S q := by
  refine cMk (cc := cX5_nextToken) (maxL := 2) (ret := none) (by decide) rfl (Nat.le_of_ble_eq_true rfl) ?_
  intro p e s m args below meth c Q hQ hx hb hr hlk hml hown hts hw ls hl
  have hown : s.vm.findClass RX5 = some m.cls := hown
  have hl : lv_has ls 2 [(0, .ref (sA G 9 0))] := hl
  have hiX5 : ∀ w ∈ u_ws RX5 TX5 15, w ∈ wsX5_nextToken := by decide +kernel
  unfold fX5_nextToken at h
  refine lv_aload_n hx hb dX5_nextToken_0 rfl (lv_at hl 0 rfl) ?_
  refine lv_aload_n hx hb dX5_nextToken_1 rfl (lv_at hl 0 rfl) ?_
  refine gMd (v := .int (M.1 4)) hx hb hts hiX5 hown hw 13 (by decide) (hts (.fieldLink RX5 172 "SecondHomeModel" "to" "I") (by decide +kernel)) rfl dX5_nextToken_2 ?_
  refine pMd (ty := .int) hx hb hts hiX5 hown hw 12 3 (by decide) rfl rfl (by decide +kernel) rfl rfl (hts (.fieldLink RX5 175 "SecondHomeModel" "from" "I") (by decide +kernel)) dX5_nextToken_5 rfl (fun H locs hw => ?_)
  obtain ⟨M5, eM5, h⟩ := o_nm h
  rw [← eM5] at hw
  obtain ⟨k34, ek34, h⟩ := o_nm h
  have J34 : ∀ (T_34 : sOb) (H : Heap) (locs : List Loc) (ls : Array Slot), sHw G s S T_34 H locs → lv_has ls 2 [(0, .ref (sA G 9 0))] → k34 T_34 = some q → W p l e rmX5_nextToken s m args below meth c H locs 0 0 Q (F0 m 34 ls []) := by
    intro T_34 H locs ls hw hl h
    replace h := o_j1 ek34 h
    refine lv_aload_n hx hb dX5_nextToken_34 rfl (lv_at hl 0 rfl) ?_
    refine lv_aload_n hx hb dX5_nextToken_35 rfl (lv_at hl 0 rfl) ?_
    refine gMd (v := .int (T_34.1 3)) hx hb hts hiX5 hown hw 12 (by decide) (hts (.fieldLink RX5 175 "SecondHomeModel" "from" "I") (by decide +kernel)) rfl dX5_nextToken_36 ?_
    refine pMd (ty := .int) hx hb hts hiX5 hown hw 13 4 (by decide) rfl rfl (by decide +kernel) rfl rfl (hts (.fieldLink RX5 172 "SecondHomeModel" "to" "I") (by decide +kernel)) dX5_nextToken_39 rfl (fun H locs hw => ?_)
    obtain ⟨M39, eM39, h⟩ := o_nm h
    rw [← eM39] at hw
    refine lv_aload_n hx hb dX5_nextToken_42 rfl (lv_at hl 0 rfl) ?_
    refine lv_aload_n hx hb dX5_nextToken_43 rfl (lv_at hl 0 rfl) ?_
    refine gMd (v := .int (M39.1 3)) hx hb hts hiX5 hown hw 12 (by decide) (hts (.fieldLink RX5 175 "SecondHomeModel" "from" "I") (by decide +kernel)) rfl dX5_nextToken_44 ?_
    obtain ⟨q47, eq47, h⟩ := o_bd h
    refine kV (As := [.int (M39.1 3)]) (rest := []) (st' := [.int q47]) ⟨hx, hb, hml, hown, hts⟩ (kX5_byteAt l G eq47) (cwV 1 hts gX5_nextToken_X5_byteAt rfl rfl rfl qqX5_byteAt ⟨Nat.le_of_ble_eq_true rfl, Nat.le_of_ble_eq_true rfl⟩) hw (rvMd hw) rfl hl.1 rfl (Nat.le_of_ble_eq_true rfl) dX5_nextToken_47 ⟨Nat.zero_le _, Nat.zero_le _⟩ rfl (fun H locs hw => ?_)
    refine lv_istore_n (lv' := [(1, .int q47), (0, .ref (sA G 9 0))]) hx hb dX5_nextToken_50 rfl hl (by decide) rfl (fun ls hl => ?_)
    refine lv_aload_n hx hb dX5_nextToken_51 rfl (lv_at hl 1 rfl) ?_
    refine lv_iload_n hx hb dX5_nextToken_52 rfl (lv_at hl 0 rfl) ?_
    obtain ⟨k93, ek93, h⟩ := o_nm h
    have J93 : ∀ (y0_93 : Int32) (H : Heap) (locs : List Loc) (ls : Array Slot), sHw G s S M39 H locs → lv_has ls 2 [(0, .ref (sA G 9 0))] → k93 y0_93 = some q → W p l e rmX5_nextToken s m args below meth c H locs 0 0 Q (F0 m 93 ls [.int y0_93, .ref (sA G 9 0)]) := by
      intro y0_93 H locs ls hw hl h
      replace h := o_j1 ek93 h
      refine pMd (ty := .int) hx hb hts hiX5 hown hw 11 2 (by decide) rfl rfl (by decide +kernel) rfl rfl (hts (.fieldLink RX5 187 "SecondHomeModel" "token" "I") (by decide +kernel)) dX5_nextToken_93 rfl (fun H locs hw => ?_)
      obtain ⟨M93, eM93, h⟩ := o_nm h
      rw [← eM93] at hw
      refine lv_aload_n hx hb dX5_nextToken_96 rfl (lv_at hl 0 rfl) ?_
      refine lv_iconst (v := 0) hx hb dX5_nextToken_97 (by decide) ?_
      refine pMd (ty := .int) hx hb hts hiX5 hown hw 14 5 (by decide) rfl rfl (by decide +kernel) rfl rfl (hts (.fieldLink RX5 190 "SecondHomeModel" "value" "I") (by decide +kernel)) dX5_nextToken_98 rfl (fun H locs hw => ?_)
      obtain ⟨M98, eM98, h⟩ := o_nm h
      rw [← eM98] at hw
      obtain ⟨k136, ek136, h⟩ := o_nm h
      have J136 : ∀ (T_136 : sOb) (H : Heap) (locs : List Loc) (ls : Array Slot), sHw G s S T_136 H locs → lv_has ls 2 [(0, .ref (sA G 9 0))] → k136 T_136 = some q → W p l e rmX5_nextToken s m args below meth c H locs 0 0 Q (F0 m 136 ls []) := by
        intro T_136 H locs ls hw hl h
        replace h := o_j1 ek136 h
        obtain ⟨k211, ek211, h⟩ := o_nm h
        have J211 : ∀ (T_211 : sOb) (H : Heap) (locs : List Loc) (ls : Array Slot), sHw G s S T_211 H locs → lv_has ls 2 [(0, .ref (sA G 9 0))] → k211 T_211 = some q → W p l e rmX5_nextToken s m args below meth c H locs 0 0 Q (F0 m 211 ls []) := by
          intro T_211 H locs ls hw hl h
          replace h := o_j1 ek211 h
          refine lv_aload_n hx hb dX5_nextToken_211 rfl (lv_at hl 0 rfl) ?_
          refine lv_dup hx hb dX5_nextToken_212 rfl ?_
          refine gMd (v := .int (T_211.1 4)) hx hb hts hiX5 hown hw 13 (by decide) (hts (.fieldLink RX5 172 "SecondHomeModel" "to" "I") (by decide +kernel)) rfl dX5_nextToken_213 ?_
          refine lv_aload_n hx hb dX5_nextToken_216 rfl (lv_at hl 0 rfl) ?_
          refine gMd (v := .int (T_211.1 2)) hx hb hts hiX5 hown hw 11 (by decide) (hts (.fieldLink RX5 187 "SecondHomeModel" "token" "I") (by decide +kernel)) rfl dX5_nextToken_217 ?_
          refine lv_iconst (v := 2) hx hb dX5_nextToken_220 (by decide) ?_
          refine lv_icmp_le (tgt := 228) hx hb dX5_nextToken_221 (by decide) (fun c221 => ?_) (fun c221 => ?_)
          · replace h := o_t c221 h
            refine lv_iconst (v := 0) hx hb dX5_nextToken_228 (by decide) ?_
            refine lv_iadd hx hb dX5_nextToken_229 ?_
            refine pMd (ty := .int) hx hb hts hiX5 hown hw 13 4 (by decide) rfl rfl (by decide +kernel) rfl rfl (hts (.fieldLink RX5 172 "SecondHomeModel" "to" "I") (by decide +kernel)) dX5_nextToken_230 rfl (fun H locs hw => ?_)
            obtain ⟨M230, eM230, h⟩ := o_nm h
            rw [← eM230] at hw
            exact rV hQ hx hb hr hlk hw dX5_nextToken_233 rfl (o_1 h)
          · replace h := o_f c221 h
            refine lv_iconst (v := 1) hx hb dX5_nextToken_224 (by decide) ?_
            refine lv_goto (tgt := 229) hx hb dX5_nextToken_225 (by decide) ?_
            refine lv_iadd hx hb dX5_nextToken_229 ?_
            refine pMd (ty := .int) hx hb hts hiX5 hown hw 13 4 (by decide) rfl rfl (by decide +kernel) rfl rfl (hts (.fieldLink RX5 172 "SecondHomeModel" "to" "I") (by decide +kernel)) dX5_nextToken_230 rfl (fun H locs hw => ?_)
            obtain ⟨M230, eM230, h⟩ := o_nm h
            rw [← eM230] at hw
            exact rV hQ hx hb hr hlk hw dX5_nextToken_233 rfl (o_1 h)
        refine fx1_w (F := (bX5_nextToken_136 T_136 k211)) (P := fun T_136 => ∀ (H : Heap) (locs : List Loc) (ls : Array Slot), sHw G s S T_136 H locs → lv_has ls 2 [(0, .ref (sA G 9 0))] → W p l e rmX5_nextToken s m args below meth c H locs 0 0 Q (F0 m 136 ls [])) ?_ _ _ h _ _ _ hw (lv_sub hl [0] rfl)
        intro rc136 IH136 T_136 h H locs ls hw hl
        unfold bX5_nextToken_136 at h
        refine lv_aload_n hx hb dX5_nextToken_136 rfl (lv_at hl 0 rfl) ?_
        refine gMd (v := .int (T_136.1 2)) hx hb hts hiX5 hown hw 11 (by decide) (hts (.fieldLink RX5 187 "SecondHomeModel" "token" "I") (by decide +kernel)) rfl dX5_nextToken_137 ?_
        refine lv_iconst (v := 2) hx hb dX5_nextToken_140 (by decide) ?_
        refine lv_icmp_ne (tgt := 211) hx hb dX5_nextToken_141 (by decide) (fun c141 => ?_) (fun c141 => ?_)
        · replace h := o_f c141 h
          exact J211 T_136 _ _ _ hw (lv_sub hl [0] rfl) h
        · replace h := o_t c141 h
          refine lv_aload_n hx hb dX5_nextToken_144 rfl (lv_at hl 0 rfl) ?_
          refine lv_aload_n hx hb dX5_nextToken_145 rfl (lv_at hl 0 rfl) ?_
          refine gMd (v := .int (T_136.1 4)) hx hb hts hiX5 hown hw 13 (by decide) (hts (.fieldLink RX5 172 "SecondHomeModel" "to" "I") (by decide +kernel)) rfl dX5_nextToken_146 ?_
          obtain ⟨q149, eq149, h⟩ := o_bd h
          refine kV (As := [.int (T_136.1 4)]) (rest := []) (st' := [.int q149]) ⟨hx, hb, hml, hown, hts⟩ (kX5_byteAt l G eq149) (cwV 1 hts gX5_nextToken_X5_byteAt rfl rfl rfl qqX5_byteAt ⟨Nat.le_of_ble_eq_true rfl, Nat.le_of_ble_eq_true rfl⟩) hw (rvMd hw) rfl hl.1 rfl (Nat.le_of_ble_eq_true rfl) dX5_nextToken_149 ⟨Nat.zero_le _, Nat.zero_le _⟩ rfl (fun H locs hw => ?_)
          obtain ⟨q152, eq152, h⟩ := o_bd h
          refine kS (As := [.int q149]) (rest := []) (st' := [.int q152]) ⟨hx, hb, hml, hown, hts⟩ (kX5_isDigit l G eq152) (va_cwS 1 hts gX5_nextToken_X5_isDigit rfl rfl rfl qqX5_isDigit ⟨Nat.le_of_ble_eq_true rfl, Nat.le_of_ble_eq_true rfl⟩) hw rfl hl.1 rfl (Nat.le_of_ble_eq_true rfl) dX5_nextToken_152 ⟨Nat.zero_le _, Nat.zero_le _⟩ rfl (fun H locs hw => ?_)
          refine lv_if_eq (tgt := 211) hx hb dX5_nextToken_155 (by decide) (fun c155 => ?_) (fun c155 => ?_)
          · replace h := o_t c155 h
            exact J211 T_136 _ _ _ hw (lv_sub hl [0] rfl) h
          · replace h := o_f c155 h
            refine lv_aload_n hx hb dX5_nextToken_158 rfl (lv_at hl 0 rfl) ?_
            refine lv_aload_n hx hb dX5_nextToken_159 rfl (lv_at hl 0 rfl) ?_
            refine gMd (v := .int (T_136.1 5)) hx hb hts hiX5 hown hw 14 (by decide) (hts (.fieldLink RX5 190 "SecondHomeModel" "value" "I") (by decide +kernel)) rfl dX5_nextToken_160 ?_
            refine lv_sipush (v := 9999) hx hb dX5_nextToken_163 (by decide) ?_
            refine lv_icmp_le (tgt := 176) hx hb dX5_nextToken_166 (by decide) (fun c166 => ?_) (fun c166 => ?_)
            · replace h := o_t c166 h
              refine lv_bipush (v := 10) hx hb dX5_nextToken_176 (by decide) ?_
              refine lv_aload_n hx hb dX5_nextToken_178 rfl (lv_at hl 0 rfl) ?_
              refine gMd (v := .int (T_136.1 5)) hx hb hts hiX5 hown hw 14 (by decide) (hts (.fieldLink RX5 190 "SecondHomeModel" "value" "I") (by decide +kernel)) rfl dX5_nextToken_179 ?_
              refine lv_imul hx hb dX5_nextToken_182 ?_
              refine lv_aload_n hx hb dX5_nextToken_183 rfl (lv_at hl 0 rfl) ?_
              refine lv_aload_n hx hb dX5_nextToken_184 rfl (lv_at hl 0 rfl) ?_
              refine gMd (v := .int (T_136.1 4)) hx hb hts hiX5 hown hw 13 (by decide) (hts (.fieldLink RX5 172 "SecondHomeModel" "to" "I") (by decide +kernel)) rfl dX5_nextToken_185 ?_
              obtain ⟨q188, eq188, h⟩ := o_bd h
              refine kV (As := [.int (T_136.1 4)]) (rest := [.int ((10 : Int32) * (T_136.1 5)), .ref (sA G 9 0)]) (st' := [.int q188, .int ((10 : Int32) * (T_136.1 5)), .ref (sA G 9 0)]) ⟨hx, hb, hml, hown, hts⟩ (kX5_byteAt l G eq188) (cwV 1 hts gX5_nextToken_X5_byteAt rfl rfl rfl qqX5_byteAt ⟨Nat.le_of_ble_eq_true rfl, Nat.le_of_ble_eq_true rfl⟩) hw (rvMd hw) rfl hl.1 rfl (Nat.le_of_ble_eq_true rfl) dX5_nextToken_188 ⟨Nat.zero_le _, Nat.zero_le _⟩ rfl (fun H locs hw => ?_)
              refine lv_iadd hx hb dX5_nextToken_191 ?_
              refine lv_bipush (v := 48) hx hb dX5_nextToken_192 (by decide) ?_
              refine lv_isub hx hb dX5_nextToken_194 ?_
              refine pMd (ty := .int) hx hb hts hiX5 hown hw 14 5 (by decide) rfl rfl (by decide +kernel) rfl rfl (hts (.fieldLink RX5 190 "SecondHomeModel" "value" "I") (by decide +kernel)) dX5_nextToken_195 rfl (fun H locs hw => ?_)
              obtain ⟨M195, eM195, h⟩ := o_nm h
              rw [← eM195] at hw
              refine lv_aload_n hx hb dX5_nextToken_198 rfl (lv_at hl 0 rfl) ?_
              refine lv_dup hx hb dX5_nextToken_199 rfl ?_
              refine gMd (v := .int (M195.1 4)) hx hb hts hiX5 hown hw 13 (by decide) (hts (.fieldLink RX5 172 "SecondHomeModel" "to" "I") (by decide +kernel)) rfl dX5_nextToken_200 ?_
              refine lv_iconst (v := 1) hx hb dX5_nextToken_203 (by decide) ?_
              refine lv_iadd hx hb dX5_nextToken_204 ?_
              refine pMd (ty := .int) hx hb hts hiX5 hown hw 13 4 (by decide) rfl rfl (by decide +kernel) rfl rfl (hts (.fieldLink RX5 172 "SecondHomeModel" "to" "I") (by decide +kernel)) dX5_nextToken_205 rfl (fun H locs hw => ?_)
              obtain ⟨M205, eM205, h⟩ := o_nm h
              rw [← eM205] at hw
              refine lv_goto (tgt := 136) hx hb dX5_nextToken_208 (by decide) ?_
              exact IH136 M205 h _ _ _ hw (lv_sub hl [0] rfl)
            · replace h := o_f c166 h
              refine lv_aload_n hx hb dX5_nextToken_169 rfl (lv_at hl 0 rfl) ?_
              refine gMd (v := .int (T_136.1 5)) hx hb hts hiX5 hown hw 14 (by decide) (hts (.fieldLink RX5 190 "SecondHomeModel" "value" "I") (by decide +kernel)) rfl dX5_nextToken_170 ?_
              refine lv_goto (tgt := 195) hx hb dX5_nextToken_173 (by decide) ?_
              refine pMd (ty := .int) hx hb hts hiX5 hown hw 14 5 (by decide) rfl rfl (by decide +kernel) rfl rfl (hts (.fieldLink RX5 190 "SecondHomeModel" "value" "I") (by decide +kernel)) dX5_nextToken_195 rfl (fun H locs hw => ?_)
              obtain ⟨M195, eM195, h⟩ := o_nm h
              rw [← eM195] at hw
              refine lv_aload_n hx hb dX5_nextToken_198 rfl (lv_at hl 0 rfl) ?_
              refine lv_dup hx hb dX5_nextToken_199 rfl ?_
              refine gMd (v := .int (M195.1 4)) hx hb hts hiX5 hown hw 13 (by decide) (hts (.fieldLink RX5 172 "SecondHomeModel" "to" "I") (by decide +kernel)) rfl dX5_nextToken_200 ?_
              refine lv_iconst (v := 1) hx hb dX5_nextToken_203 (by decide) ?_
              refine lv_iadd hx hb dX5_nextToken_204 ?_
              refine pMd (ty := .int) hx hb hts hiX5 hown hw 13 4 (by decide) rfl rfl (by decide +kernel) rfl rfl (hts (.fieldLink RX5 172 "SecondHomeModel" "to" "I") (by decide +kernel)) dX5_nextToken_205 rfl (fun H locs hw => ?_)
              obtain ⟨M205, eM205, h⟩ := o_nm h
              rw [← eM205] at hw
              refine lv_goto (tgt := 136) hx hb dX5_nextToken_208 (by decide) ?_
              exact IH136 M205 h _ _ _ hw (lv_sub hl [0] rfl)
      refine fx1_w (F := (bX5_nextToken_101 k136)) (P := fun T_101 => ∀ (H : Heap) (locs : List Loc) (ls : Array Slot), sHw G s S T_101 H locs → lv_has ls 2 [(0, .ref (sA G 9 0))] → W p l e rmX5_nextToken s m args below meth c H locs 0 0 Q (F0 m 101 ls [])) ?_ _ _ h _ _ _ hw (lv_sub hl [0] rfl)
      intro rc101 IH101 T_101 h H locs ls hw hl
      unfold bX5_nextToken_101 at h
      refine lv_aload_n hx hb dX5_nextToken_101 rfl (lv_at hl 0 rfl) ?_
      refine gMd (v := .int (T_101.1 2)) hx hb hts hiX5 hown hw 11 (by decide) (hts (.fieldLink RX5 187 "SecondHomeModel" "token" "I") (by decide +kernel)) rfl dX5_nextToken_102 ?_
      refine lv_iconst (v := 1) hx hb dX5_nextToken_105 (by decide) ?_
      refine lv_icmp_ne (tgt := 136) hx hb dX5_nextToken_106 (by decide) (fun c106 => ?_) (fun c106 => ?_)
      · replace h := o_f c106 h
        exact J136 T_101 _ _ _ hw (lv_sub hl [0] rfl) h
      · replace h := o_t c106 h
        refine lv_aload_n hx hb dX5_nextToken_109 rfl (lv_at hl 0 rfl) ?_
        refine lv_aload_n hx hb dX5_nextToken_110 rfl (lv_at hl 0 rfl) ?_
        refine gMd (v := .int (T_101.1 4)) hx hb hts hiX5 hown hw 13 (by decide) (hts (.fieldLink RX5 172 "SecondHomeModel" "to" "I") (by decide +kernel)) rfl dX5_nextToken_111 ?_
        obtain ⟨q114, eq114, h⟩ := o_bd h
        refine kV (As := [.int (T_101.1 4)]) (rest := []) (st' := [.int q114]) ⟨hx, hb, hml, hown, hts⟩ (kX5_byteAt l G eq114) (cwV 1 hts gX5_nextToken_X5_byteAt rfl rfl rfl qqX5_byteAt ⟨Nat.le_of_ble_eq_true rfl, Nat.le_of_ble_eq_true rfl⟩) hw (rvMd hw) rfl hl.1 rfl (Nat.le_of_ble_eq_true rfl) dX5_nextToken_114 ⟨Nat.zero_le _, Nat.zero_le _⟩ rfl (fun H locs hw => ?_)
        obtain ⟨q117, eq117, h⟩ := o_bd h
        refine kS (As := [.int q114]) (rest := []) (st' := [.int q117]) ⟨hx, hb, hml, hown, hts⟩ (kX5_isLetter l G eq117) (va_cwS 1 hts gX5_nextToken_X5_isLetter rfl rfl rfl qqX5_isLetter ⟨Nat.le_of_ble_eq_true rfl, Nat.le_of_ble_eq_true rfl⟩) hw rfl hl.1 rfl (Nat.le_of_ble_eq_true rfl) dX5_nextToken_117 ⟨Nat.zero_le _, Nat.zero_le _⟩ rfl (fun H locs hw => ?_)
        refine lv_if_eq (tgt := 136) hx hb dX5_nextToken_120 (by decide) (fun c120 => ?_) (fun c120 => ?_)
        · replace h := o_t c120 h
          exact J136 T_101 _ _ _ hw (lv_sub hl [0] rfl) h
        · replace h := o_f c120 h
          refine lv_aload_n hx hb dX5_nextToken_123 rfl (lv_at hl 0 rfl) ?_
          refine lv_dup hx hb dX5_nextToken_124 rfl ?_
          refine gMd (v := .int (T_101.1 4)) hx hb hts hiX5 hown hw 13 (by decide) (hts (.fieldLink RX5 172 "SecondHomeModel" "to" "I") (by decide +kernel)) rfl dX5_nextToken_125 ?_
          refine lv_iconst (v := 1) hx hb dX5_nextToken_128 (by decide) ?_
          refine lv_iadd hx hb dX5_nextToken_129 ?_
          refine pMd (ty := .int) hx hb hts hiX5 hown hw 13 4 (by decide) rfl rfl (by decide +kernel) rfl rfl (hts (.fieldLink RX5 172 "SecondHomeModel" "to" "I") (by decide +kernel)) dX5_nextToken_130 rfl (fun H locs hw => ?_)
          obtain ⟨M130, eM130, h⟩ := o_nm h
          rw [← eM130] at hw
          refine lv_goto (tgt := 101) hx hb dX5_nextToken_133 (by decide) ?_
          exact IH101 M130 h _ _ _ hw (lv_sub hl [0] rfl)
    refine lv_if_ge (tgt := 60) hx hb dX5_nextToken_53 (by decide) (fun c53 => ?_) (fun c53 => ?_)
    · replace h := o_t c53 h
      refine lv_iload_n hx hb dX5_nextToken_60 rfl (lv_at hl 0 rfl) ?_
      obtain ⟨q61, eq61, h⟩ := o_bd h
      refine kS (As := [.int q47]) (rest := [.ref (sA G 9 0)]) (st' := [.int q61, .ref (sA G 9 0)]) ⟨hx, hb, hml, hown, hts⟩ (kX5_isLetter l G eq61) (va_cwS 1 hts gX5_nextToken_X5_isLetter rfl rfl rfl qqX5_isLetter ⟨Nat.le_of_ble_eq_true rfl, Nat.le_of_ble_eq_true rfl⟩) hw rfl hl.1 rfl (Nat.le_of_ble_eq_true rfl) dX5_nextToken_61 ⟨Nat.zero_le _, Nat.zero_le _⟩ rfl (fun H locs hw => ?_)
      refine lv_if_eq (tgt := 71) hx hb dX5_nextToken_64 (by decide) (fun c64 => ?_) (fun c64 => ?_)
      · replace h := o_t c64 h
        refine lv_iload_n hx hb dX5_nextToken_71 rfl (lv_at hl 0 rfl) ?_
        obtain ⟨q72, eq72, h⟩ := o_bd h
        refine kS (As := [.int q47]) (rest := [.ref (sA G 9 0)]) (st' := [.int q72, .ref (sA G 9 0)]) ⟨hx, hb, hml, hown, hts⟩ (kX5_isDigit l G eq72) (va_cwS 1 hts gX5_nextToken_X5_isDigit rfl rfl rfl qqX5_isDigit ⟨Nat.le_of_ble_eq_true rfl, Nat.le_of_ble_eq_true rfl⟩) hw rfl hl.1 rfl (Nat.le_of_ble_eq_true rfl) dX5_nextToken_72 ⟨Nat.zero_le _, Nat.zero_le _⟩ rfl (fun H locs hw => ?_)
        refine lv_if_eq (tgt := 82) hx hb dX5_nextToken_75 (by decide) (fun c75 => ?_) (fun c75 => ?_)
        · replace h := o_t c75 h
          refine lv_iload_n hx hb dX5_nextToken_82 rfl (lv_at hl 0 rfl) ?_
          refine lv_bipush (v := 59) hx hb dX5_nextToken_83 (by decide) ?_
          refine lv_icmp_ne (tgt := 92) hx hb dX5_nextToken_85 (by decide) (fun c85 => ?_) (fun c85 => ?_)
          · replace h := o_f c85 h
            refine lv_iconst (v := 4) hx hb dX5_nextToken_92 (by decide) ?_
            exact J93 (4 : Int32) _ _ _ hw (lv_sub hl [1] rfl) h
          · replace h := o_t c85 h
            refine lv_iconst (v := 3) hx hb dX5_nextToken_88 (by decide) ?_
            refine lv_goto (tgt := 93) hx hb dX5_nextToken_89 (by decide) ?_
            exact J93 (3 : Int32) _ _ _ hw (lv_sub hl [1] rfl) h
        · replace h := o_f c75 h
          refine lv_iconst (v := 2) hx hb dX5_nextToken_78 (by decide) ?_
          refine lv_goto (tgt := 93) hx hb dX5_nextToken_79 (by decide) ?_
          exact J93 (2 : Int32) _ _ _ hw (lv_sub hl [1] rfl) h
      · replace h := o_f c64 h
        refine lv_iconst (v := 1) hx hb dX5_nextToken_67 (by decide) ?_
        refine lv_goto (tgt := 93) hx hb dX5_nextToken_68 (by decide) ?_
        exact J93 (1 : Int32) _ _ _ hw (lv_sub hl [1] rfl) h
    · replace h := o_f c53 h
      refine lv_iconst (v := 0) hx hb dX5_nextToken_56 (by decide) ?_
      refine lv_goto (tgt := 93) hx hb dX5_nextToken_57 (by decide) ?_
      exact J93 (0 : Int32) _ _ _ hw (lv_sub hl [1] rfl) h
  refine fx1_w (F := (bX5_nextToken_8 k34)) (P := fun T_8 => ∀ (H : Heap) (locs : List Loc) (ls : Array Slot), sHw G s S T_8 H locs → lv_has ls 2 [(0, .ref (sA G 9 0))] → W p l e rmX5_nextToken s m args below meth c H locs 0 0 Q (F0 m 8 ls [])) ?_ _ _ h _ _ _ hw (lv_sub hl [0] rfl)
  intro rc8 IH8 T_8 h H locs ls hw hl
  unfold bX5_nextToken_8 at h
  refine lv_aload_n hx hb dX5_nextToken_8 rfl (lv_at hl 0 rfl) ?_
  refine lv_aload_n hx hb dX5_nextToken_9 rfl (lv_at hl 0 rfl) ?_
  refine gMd (v := .int (T_8.1 3)) hx hb hts hiX5 hown hw 12 (by decide) (hts (.fieldLink RX5 175 "SecondHomeModel" "from" "I") (by decide +kernel)) rfl dX5_nextToken_10 ?_
  obtain ⟨q13, eq13, h⟩ := o_bd h
  refine kV (As := [.int (T_8.1 3)]) (rest := []) (st' := [.int q13]) ⟨hx, hb, hml, hown, hts⟩ (kX5_byteAt l G eq13) (cwV 1 hts gX5_nextToken_X5_byteAt rfl rfl rfl qqX5_byteAt ⟨Nat.le_of_ble_eq_true rfl, Nat.le_of_ble_eq_true rfl⟩) hw (rvMd hw) rfl hl.1 rfl (Nat.le_of_ble_eq_true rfl) dX5_nextToken_13 ⟨Nat.zero_le _, Nat.zero_le _⟩ rfl (fun H locs hw => ?_)
  refine lv_bipush (v := 32) hx hb dX5_nextToken_16 (by decide) ?_
  refine lv_icmp_ne (tgt := 34) hx hb dX5_nextToken_18 (by decide) (fun c18 => ?_) (fun c18 => ?_)
  · replace h := o_f c18 h
    exact J34 T_8 _ _ _ hw (lv_sub hl [0] rfl) h
  · replace h := o_t c18 h
    refine lv_aload_n hx hb dX5_nextToken_21 rfl (lv_at hl 0 rfl) ?_
    refine lv_dup hx hb dX5_nextToken_22 rfl ?_
    refine gMd (v := .int (T_8.1 3)) hx hb hts hiX5 hown hw 12 (by decide) (hts (.fieldLink RX5 175 "SecondHomeModel" "from" "I") (by decide +kernel)) rfl dX5_nextToken_23 ?_
    refine lv_iconst (v := 1) hx hb dX5_nextToken_26 (by decide) ?_
    refine lv_iadd hx hb dX5_nextToken_27 ?_
    refine pMd (ty := .int) hx hb hts hiX5 hown hw 12 3 (by decide) rfl rfl (by decide +kernel) rfl rfl (hts (.fieldLink RX5 175 "SecondHomeModel" "from" "I") (by decide +kernel)) dX5_nextToken_28 rfl (fun H locs hw => ?_)
    obtain ⟨M28, eM28, h⟩ := o_nm h
    rw [← eM28] at hw
    refine lv_goto (tgt := 8) hx hb dX5_nextToken_31 (by decide) ?_
    exact IH8 M28 h _ _ _ hw (lv_sub hl [0] rfl)
-- X5_has3
set_option maxRecDepth 100000 in
set_option maxHeartbeats 4000000 in
theorem kX5_has3 (l : Launch) (G : sGl) {S : sWo} {M : sOb} {a1 : Int32} {a2 : Int32} {a3 : Int32} {a4 : Int32} {q : Int32}  (h : fX5_has3 M a1 a2 a3 a4 = some q) : sCt l G yX5_has3 wsX5_has3 rmX5_has3 [.ref (sA G 9 0), .int a1, .int a2, .int a3, .int a4] S M (some (.int q)) S M := by
  refine cMk (cc := cX5_has3) (maxL := 5) (ret := (some .boolean)) (by decide) rfl (Nat.le_of_ble_eq_true rfl) ?_
  intro p e s m args below meth c Q hQ hx hb hr hlk hml hown hts hw ls hl
  have hown : s.vm.findClass RX5 = some m.cls := hown
  have hl : lv_has ls 5 [(0, .ref (sA G 9 0)), (1, .int a1), (2, .int a2), (3, .int a3), (4, .int a4)] := hl
  have hiX5 : ∀ w ∈ u_ws RX5 TX5 15, w ∈ wsX5_has3 := by decide +kernel
  unfold fX5_has3 at h
  refine lv_aload_n hx hb dX5_has3_0 rfl (lv_at hl 0 rfl) ?_
  refine lv_aload_n hx hb dX5_has3_1 rfl (lv_at hl 0 rfl) ?_
  refine gMd (v := .int (M.1 3)) hx hb hts hiX5 hown hw 12 (by decide) (hts (.fieldLink RX5 175 "SecondHomeModel" "from" "I") (by decide +kernel)) rfl dX5_has3_2 ?_
  refine lv_iload_n hx hb dX5_has3_5 rfl (lv_at hl 1 rfl) ?_
  refine lv_iadd hx hb dX5_has3_6 ?_
  obtain ⟨q7, eq7, h⟩ := o_bd h
  refine kV (As := [.int ((M.1 3) + a1)]) (rest := []) (st' := [.int q7]) ⟨hx, hb, hml, hown, hts⟩ (kX5_byteAt l G eq7) (cwV 1 hts gX5_has3_X5_byteAt rfl rfl rfl qqX5_byteAt ⟨Nat.le_of_ble_eq_true rfl, Nat.le_of_ble_eq_true rfl⟩) hw (rvMd hw) rfl hl.1 rfl (Nat.le_of_ble_eq_true rfl) dX5_has3_7 ⟨Nat.zero_le _, Nat.zero_le _⟩ rfl (fun H locs hw => ?_)
  refine lv_iload_n hx hb dX5_has3_10 rfl (lv_at hl 2 rfl) ?_
  refine lv_icmp_ne (tgt := 51) hx hb dX5_has3_11 (by decide) (fun c11 => ?_) (fun c11 => ?_)
  · replace h := o_f c11 h
    refine lv_iconst (v := 0) hx hb dX5_has3_51 (by decide) ?_
    exact rZ hQ hx hb hr hlk hw (Or.inl rfl) dX5_has3_52 (o_1 h) rfl rfl
  · replace h := o_t c11 h
    refine lv_aload_n hx hb dX5_has3_14 rfl (lv_at hl 0 rfl) ?_
    refine lv_aload_n hx hb dX5_has3_15 rfl (lv_at hl 0 rfl) ?_
    refine gMd (v := .int (M.1 3)) hx hb hts hiX5 hown hw 12 (by decide) (hts (.fieldLink RX5 175 "SecondHomeModel" "from" "I") (by decide +kernel)) rfl dX5_has3_16 ?_
    refine lv_iload_n hx hb dX5_has3_19 rfl (lv_at hl 1 rfl) ?_
    refine lv_iadd hx hb dX5_has3_20 ?_
    refine lv_iconst (v := 1) hx hb dX5_has3_21 (by decide) ?_
    refine lv_iadd hx hb dX5_has3_22 ?_
    obtain ⟨q23, eq23, h⟩ := o_bd h
    refine kV (As := [.int (((M.1 3) + a1) + (1 : Int32))]) (rest := []) (st' := [.int q23]) ⟨hx, hb, hml, hown, hts⟩ (kX5_byteAt l G eq23) (cwV 1 hts gX5_has3_X5_byteAt rfl rfl rfl qqX5_byteAt ⟨Nat.le_of_ble_eq_true rfl, Nat.le_of_ble_eq_true rfl⟩) hw (rvMd hw) rfl hl.1 rfl (Nat.le_of_ble_eq_true rfl) dX5_has3_23 ⟨Nat.zero_le _, Nat.zero_le _⟩ rfl (fun H locs hw => ?_)
    refine lv_iload_n hx hb dX5_has3_26 rfl (lv_at hl 3 rfl) ?_
    refine lv_icmp_ne (tgt := 51) hx hb dX5_has3_27 (by decide) (fun c27 => ?_) (fun c27 => ?_)
    · replace h := o_f c27 h
      refine lv_iconst (v := 0) hx hb dX5_has3_51 (by decide) ?_
      exact rZ hQ hx hb hr hlk hw (Or.inl rfl) dX5_has3_52 (o_1 h) rfl rfl
    · replace h := o_t c27 h
      refine lv_aload_n hx hb dX5_has3_30 rfl (lv_at hl 0 rfl) ?_
      refine lv_aload_n hx hb dX5_has3_31 rfl (lv_at hl 0 rfl) ?_
      refine gMd (v := .int (M.1 3)) hx hb hts hiX5 hown hw 12 (by decide) (hts (.fieldLink RX5 175 "SecondHomeModel" "from" "I") (by decide +kernel)) rfl dX5_has3_32 ?_
      refine lv_iload_n hx hb dX5_has3_35 rfl (lv_at hl 1 rfl) ?_
      refine lv_iadd hx hb dX5_has3_36 ?_
      refine lv_iconst (v := 2) hx hb dX5_has3_37 (by decide) ?_
      refine lv_iadd hx hb dX5_has3_38 ?_
      obtain ⟨q39, eq39, h⟩ := o_bd h
      refine kV (As := [.int (((M.1 3) + a1) + (2 : Int32))]) (rest := []) (st' := [.int q39]) ⟨hx, hb, hml, hown, hts⟩ (kX5_byteAt l G eq39) (cwV 1 hts gX5_has3_X5_byteAt rfl rfl rfl qqX5_byteAt ⟨Nat.le_of_ble_eq_true rfl, Nat.le_of_ble_eq_true rfl⟩) hw (rvMd hw) rfl hl.1 rfl (Nat.le_of_ble_eq_true rfl) dX5_has3_39 ⟨Nat.zero_le _, Nat.zero_le _⟩ rfl (fun H locs hw => ?_)
      refine lv_iload hx hb dX5_has3_42 (lv_at hl 4 rfl) ?_
      refine lv_icmp_ne (tgt := 51) hx hb dX5_has3_44 (by decide) (fun c44 => ?_) (fun c44 => ?_)
      · replace h := o_f c44 h
        refine lv_iconst (v := 0) hx hb dX5_has3_51 (by decide) ?_
        exact rZ hQ hx hb hr hlk hw (Or.inl rfl) dX5_has3_52 (o_1 h) rfl rfl
      · replace h := o_t c44 h
        refine lv_iconst (v := 1) hx hb dX5_has3_47 (by decide) ?_
        refine lv_goto (tgt := 52) hx hb dX5_has3_48 (by decide) ?_
        exact rZ hQ hx hb hr hlk hw (Or.inr rfl) dX5_has3_52 (o_1 h) rfl rfl
-- X5_isWord
set_option maxRecDepth 100000 in
set_option maxHeartbeats 4000000 in
theorem kX5_isWord (l : Launch) (G : sGl) {S : sWo} {M : sOb} {a1 : Int32} {q : Int32}  (h : fX5_isWord M a1 = some q) : sCt l G yX5_isWord wsX5_isWord rmX5_isWord [.ref (sA G 9 0), .int a1] S M (some (.int q)) S M := by
  refine cMk (cc := cX5_isWord) (maxL := 2) (ret := (some .boolean)) (by decide) rfl (Nat.le_of_ble_eq_true rfl) ?_
  intro p e s m args below meth c Q hQ hx hb hr hlk hml hown hts hw ls hl
  have hown : s.vm.findClass RX5 = some m.cls := hown
  have hl : lv_has ls 2 [(0, .ref (sA G 9 0)), (1, .int a1)] := hl
  have hiX5 : ∀ w ∈ u_ws RX5 TX5 15, w ∈ wsX5_isWord := by decide +kernel
  unfold fX5_isWord at h
  refine lv_aload_n hx hb dX5_isWord_0 rfl (lv_at hl 0 rfl) ?_
  refine gMd (v := .int (M.1 2)) hx hb hts hiX5 hown hw 11 (by decide) (hts (.fieldLink RX5 187 "SecondHomeModel" "token" "I") (by decide +kernel)) rfl dX5_isWord_1 ?_
  refine lv_iconst (v := 1) hx hb dX5_isWord_4 (by decide) ?_
  refine lv_icmp_ne (tgt := 25) hx hb dX5_isWord_5 (by decide) (fun c5 => ?_) (fun c5 => ?_)
  · replace h := o_f c5 h
    refine lv_iconst (v := 0) hx hb dX5_isWord_25 (by decide) ?_
    exact rZ hQ hx hb hr hlk hw (Or.inl rfl) dX5_isWord_26 (o_1 h) rfl rfl
  · replace h := o_t c5 h
    refine lv_aload_n hx hb dX5_isWord_8 rfl (lv_at hl 0 rfl) ?_
    refine gMd (v := .int (M.1 4)) hx hb hts hiX5 hown hw 13 (by decide) (hts (.fieldLink RX5 172 "SecondHomeModel" "to" "I") (by decide +kernel)) rfl dX5_isWord_9 ?_
    refine lv_aload_n hx hb dX5_isWord_12 rfl (lv_at hl 0 rfl) ?_
    refine gMd (v := .int (M.1 3)) hx hb hts hiX5 hown hw 12 (by decide) (hts (.fieldLink RX5 175 "SecondHomeModel" "from" "I") (by decide +kernel)) rfl dX5_isWord_13 ?_
    refine lv_isub hx hb dX5_isWord_16 ?_
    refine lv_iload_n hx hb dX5_isWord_17 rfl (lv_at hl 1 rfl) ?_
    refine lv_icmp_ne (tgt := 25) hx hb dX5_isWord_18 (by decide) (fun c18 => ?_) (fun c18 => ?_)
    · replace h := o_f c18 h
      refine lv_iconst (v := 0) hx hb dX5_isWord_25 (by decide) ?_
      exact rZ hQ hx hb hr hlk hw (Or.inl rfl) dX5_isWord_26 (o_1 h) rfl rfl
    · replace h := o_t c18 h
      refine lv_iconst (v := 1) hx hb dX5_isWord_21 (by decide) ?_
      refine lv_goto (tgt := 26) hx hb dX5_isWord_22 (by decide) ?_
      exact rZ hQ hx hb hr hlk hw (Or.inr rfl) dX5_isWord_26 (o_1 h) rfl rfl
-- X5_kindNamed
set_option maxRecDepth 100000 in
set_option maxHeartbeats 4000000 in
theorem kX5_kindNamed (l : Launch) (G : sGl) {S : sWo} {M : sOb}  {q : Int32}  (h : fX5_kindNamed M = some q) : sCt l G yX5_kindNamed wsX5_kindNamed rmX5_kindNamed [.ref (sA G 9 0)] S M (some (.int q)) S M := by
  refine cMk (cc := cX5_kindNamed) (maxL := 1) (ret := (some .int)) (by decide) rfl (Nat.le_of_ble_eq_true rfl) ?_
  intro p e s m args below meth c Q hQ hx hb hr hlk hml hown hts hw ls hl
  have hown : s.vm.findClass RX5 = some m.cls := hown
  have hl : lv_has ls 1 [(0, .ref (sA G 9 0))] := hl
  unfold fX5_kindNamed at h
  refine lv_aload_n hx hb dX5_kindNamed_0 rfl (lv_at hl 0 rfl) ?_
  refine lv_bipush (v := 6) hx hb dX5_kindNamed_1 (by decide) ?_
  obtain ⟨q3, eq3, h⟩ := o_bd h
  refine kV (As := [.int (6 : Int32)]) (rest := []) (st' := [.int q3]) ⟨hx, hb, hml, hown, hts⟩ (kX5_isWord l G eq3) (cwV 1 hts gX5_kindNamed_X5_isWord rfl rfl rfl qqX5_isWord ⟨Nat.le_of_ble_eq_true rfl, Nat.le_of_ble_eq_true rfl⟩) hw (rvMd hw) rfl hl.1 rfl (Nat.le_of_ble_eq_true rfl) dX5_kindNamed_3 ⟨Nat.zero_le _, Nat.zero_le _⟩ rfl (fun H locs hw => ?_)
  obtain ⟨k39, ek39, h⟩ := o_nm h
  have J39 : ∀ (H : Heap) (locs : List Loc) (ls : Array Slot), sHw G s S M H locs → lv_has ls 1 [(0, .ref (sA G 9 0))] → k39 = some q → W p l e rmX5_kindNamed s m args below meth c H locs 0 0 Q (F0 m 39 ls []) := by
    intro H locs ls hw hl h
    replace h := o_j0 ek39 h
    refine lv_aload_n hx hb dX5_kindNamed_39 rfl (lv_at hl 0 rfl) ?_
    refine lv_bipush (v := 6) hx hb dX5_kindNamed_40 (by decide) ?_
    obtain ⟨q42, eq42, h⟩ := o_bd h
    refine kV (As := [.int (6 : Int32)]) (rest := []) (st' := [.int q42]) ⟨hx, hb, hml, hown, hts⟩ (kX5_isWord l G eq42) (cwV 1 hts gX5_kindNamed_X5_isWord rfl rfl rfl qqX5_isWord ⟨Nat.le_of_ble_eq_true rfl, Nat.le_of_ble_eq_true rfl⟩) hw (rvMd hw) rfl hl.1 rfl (Nat.le_of_ble_eq_true rfl) dX5_kindNamed_42 ⟨Nat.zero_le _, Nat.zero_le _⟩ rfl (fun H locs hw => ?_)
    obtain ⟨k78, ek78, h⟩ := o_nm h
    have J78 : ∀ (H : Heap) (locs : List Loc) (ls : Array Slot), sHw G s S M H locs → lv_has ls 1 [(0, .ref (sA G 9 0))] → k78 = some q → W p l e rmX5_kindNamed s m args below meth c H locs 0 0 Q (F0 m 78 ls []) := by
      intro H locs ls hw hl h
      replace h := o_j0 ek78 h
      refine lv_aload_n hx hb dX5_kindNamed_78 rfl (lv_at hl 0 rfl) ?_
      refine lv_bipush (v := 6) hx hb dX5_kindNamed_79 (by decide) ?_
      obtain ⟨q81, eq81, h⟩ := o_bd h
      refine kV (As := [.int (6 : Int32)]) (rest := []) (st' := [.int q81]) ⟨hx, hb, hml, hown, hts⟩ (kX5_isWord l G eq81) (cwV 1 hts gX5_kindNamed_X5_isWord rfl rfl rfl qqX5_isWord ⟨Nat.le_of_ble_eq_true rfl, Nat.le_of_ble_eq_true rfl⟩) hw (rvMd hw) rfl hl.1 rfl (Nat.le_of_ble_eq_true rfl) dX5_kindNamed_81 ⟨Nat.zero_le _, Nat.zero_le _⟩ rfl (fun H locs hw => ?_)
      obtain ⟨k117, ek117, h⟩ := o_nm h
      have J117 : ∀ (H : Heap) (locs : List Loc) (ls : Array Slot), sHw G s S M H locs → lv_has ls 1 [(0, .ref (sA G 9 0))] → k117 = some q → W p l e rmX5_kindNamed s m args below meth c H locs 0 0 Q (F0 m 117 ls []) := by
        intro H locs ls hw hl h
        replace h := o_j0 ek117 h
        refine lv_aload_n hx hb dX5_kindNamed_117 rfl (lv_at hl 0 rfl) ?_
        refine lv_bipush (v := 6) hx hb dX5_kindNamed_118 (by decide) ?_
        obtain ⟨q120, eq120, h⟩ := o_bd h
        refine kV (As := [.int (6 : Int32)]) (rest := []) (st' := [.int q120]) ⟨hx, hb, hml, hown, hts⟩ (kX5_isWord l G eq120) (cwV 1 hts gX5_kindNamed_X5_isWord rfl rfl rfl qqX5_isWord ⟨Nat.le_of_ble_eq_true rfl, Nat.le_of_ble_eq_true rfl⟩) hw (rvMd hw) rfl hl.1 rfl (Nat.le_of_ble_eq_true rfl) dX5_kindNamed_120 ⟨Nat.zero_le _, Nat.zero_le _⟩ rfl (fun H locs hw => ?_)
        obtain ⟨k156, ek156, h⟩ := o_nm h
        have J156 : ∀ (H : Heap) (locs : List Loc) (ls : Array Slot), sHw G s S M H locs → lv_has ls 1 [(0, .ref (sA G 9 0))] → k156 = some q → W p l e rmX5_kindNamed s m args below meth c H locs 0 0 Q (F0 m 156 ls []) := by
          intro H locs ls hw hl h
          replace h := o_j0 ek156 h
          refine lv_aload_n hx hb dX5_kindNamed_156 rfl (lv_at hl 0 rfl) ?_
          refine lv_bipush (v := 8) hx hb dX5_kindNamed_157 (by decide) ?_
          obtain ⟨q159, eq159, h⟩ := o_bd h
          refine kV (As := [.int (8 : Int32)]) (rest := []) (st' := [.int q159]) ⟨hx, hb, hml, hown, hts⟩ (kX5_isWord l G eq159) (cwV 1 hts gX5_kindNamed_X5_isWord rfl rfl rfl qqX5_isWord ⟨Nat.le_of_ble_eq_true rfl, Nat.le_of_ble_eq_true rfl⟩) hw (rvMd hw) rfl hl.1 rfl (Nat.le_of_ble_eq_true rfl) dX5_kindNamed_159 ⟨Nat.zero_le _, Nat.zero_le _⟩ rfl (fun H locs hw => ?_)
          obtain ⟨k209, ek209, h⟩ := o_nm h
          have J209 : ∀ (H : Heap) (locs : List Loc) (ls : Array Slot), sHw G s S M H locs → lv_has ls 1 [(0, .ref (sA G 9 0))] → k209 = some q → W p l e rmX5_kindNamed s m args below meth c H locs 0 0 Q (F0 m 209 ls []) := by
            intro H locs ls hw hl h
            replace h := o_j0 ek209 h
            refine lv_aload_n hx hb dX5_kindNamed_209 rfl (lv_at hl 0 rfl) ?_
            refine lv_iconst (v := 5) hx hb dX5_kindNamed_210 (by decide) ?_
            obtain ⟨q211, eq211, h⟩ := o_bd h
            refine kV (As := [.int (5 : Int32)]) (rest := []) (st' := [.int q211]) ⟨hx, hb, hml, hown, hts⟩ (kX5_isWord l G eq211) (cwV 1 hts gX5_kindNamed_X5_isWord rfl rfl rfl qqX5_isWord ⟨Nat.le_of_ble_eq_true rfl, Nat.le_of_ble_eq_true rfl⟩) hw (rvMd hw) rfl hl.1 rfl (Nat.le_of_ble_eq_true rfl) dX5_kindNamed_211 ⟨Nat.zero_le _, Nat.zero_le _⟩ rfl (fun H locs hw => ?_)
            refine lv_if_eq (tgt := 249) hx hb dX5_kindNamed_214 (by decide) (fun c214 => ?_) (fun c214 => ?_)
            · replace h := o_t c214 h
              refine lv_iconst (v := -1) hx hb dX5_kindNamed_249 (by decide) ?_
              exact rI hQ hx hb hr hlk hw dX5_kindNamed_250 (o_1 h) rfl rfl
            · replace h := o_f c214 h
              refine lv_aload_n hx hb dX5_kindNamed_217 rfl (lv_at hl 0 rfl) ?_
              refine lv_iconst (v := 0) hx hb dX5_kindNamed_218 (by decide) ?_
              refine lv_bipush (v := 105) hx hb dX5_kindNamed_219 (by decide) ?_
              refine lv_bipush (v := 100) hx hb dX5_kindNamed_221 (by decide) ?_
              refine lv_bipush (v := 108) hx hb dX5_kindNamed_223 (by decide) ?_
              obtain ⟨q225, eq225, h⟩ := o_bd h
              refine kV (As := [.int (0 : Int32), .int (105 : Int32), .int (100 : Int32), .int (108 : Int32)]) (rest := []) (st' := [.int q225]) ⟨hx, hb, hml, hown, hts⟩ (kX5_has3 l G eq225) (cwV 4 hts gX5_kindNamed_X5_has3 rfl rfl rfl qqX5_has3 ⟨Nat.le_of_ble_eq_true rfl, Nat.le_of_ble_eq_true rfl⟩) hw (rvMd hw) rfl hl.1 rfl (Nat.le_of_ble_eq_true rfl) dX5_kindNamed_225 ⟨Nat.zero_le _, Nat.zero_le _⟩ rfl (fun H locs hw => ?_)
              refine lv_if_eq (tgt := 249) hx hb dX5_kindNamed_228 (by decide) (fun c228 => ?_) (fun c228 => ?_)
              · replace h := o_t c228 h
                refine lv_iconst (v := -1) hx hb dX5_kindNamed_249 (by decide) ?_
                exact rI hQ hx hb hr hlk hw dX5_kindNamed_250 (o_1 h) rfl rfl
              · replace h := o_f c228 h
                refine lv_aload_n hx hb dX5_kindNamed_231 rfl (lv_at hl 0 rfl) ?_
                refine lv_iconst (v := 2) hx hb dX5_kindNamed_232 (by decide) ?_
                refine lv_bipush (v := 108) hx hb dX5_kindNamed_233 (by decide) ?_
                refine lv_bipush (v := 101) hx hb dX5_kindNamed_235 (by decide) ?_
                refine lv_bipush (v := 114) hx hb dX5_kindNamed_237 (by decide) ?_
                obtain ⟨q239, eq239, h⟩ := o_bd h
                refine kV (As := [.int (2 : Int32), .int (108 : Int32), .int (101 : Int32), .int (114 : Int32)]) (rest := []) (st' := [.int q239]) ⟨hx, hb, hml, hown, hts⟩ (kX5_has3 l G eq239) (cwV 4 hts gX5_kindNamed_X5_has3 rfl rfl rfl qqX5_has3 ⟨Nat.le_of_ble_eq_true rfl, Nat.le_of_ble_eq_true rfl⟩) hw (rvMd hw) rfl hl.1 rfl (Nat.le_of_ble_eq_true rfl) dX5_kindNamed_239 ⟨Nat.zero_le _, Nat.zero_le _⟩ rfl (fun H locs hw => ?_)
                refine lv_if_eq (tgt := 249) hx hb dX5_kindNamed_242 (by decide) (fun c242 => ?_) (fun c242 => ?_)
                · replace h := o_t c242 h
                  refine lv_iconst (v := -1) hx hb dX5_kindNamed_249 (by decide) ?_
                  exact rI hQ hx hb hr hlk hw dX5_kindNamed_250 (o_1 h) rfl rfl
                · replace h := o_f c242 h
                  refine lv_iconst (v := 5) hx hb dX5_kindNamed_245 (by decide) ?_
                  refine lv_goto (tgt := 250) hx hb dX5_kindNamed_246 (by decide) ?_
                  exact rI hQ hx hb hr hlk hw dX5_kindNamed_250 (o_1 h) rfl rfl
          refine lv_if_eq (tgt := 209) hx hb dX5_kindNamed_162 (by decide) (fun c162 => ?_) (fun c162 => ?_)
          · replace h := o_t c162 h
            exact J209 _ _ _ hw (lv_sub hl [0] rfl) h
          · replace h := o_f c162 h
            refine lv_aload_n hx hb dX5_kindNamed_165 rfl (lv_at hl 0 rfl) ?_
            refine lv_iconst (v := 0) hx hb dX5_kindNamed_166 (by decide) ?_
            refine lv_bipush (v := 115) hx hb dX5_kindNamed_167 (by decide) ?_
            refine lv_bipush (v := 112) hx hb dX5_kindNamed_169 (by decide) ?_
            refine lv_bipush (v := 114) hx hb dX5_kindNamed_171 (by decide) ?_
            obtain ⟨q173, eq173, h⟩ := o_bd h
            refine kV (As := [.int (0 : Int32), .int (115 : Int32), .int (112 : Int32), .int (114 : Int32)]) (rest := []) (st' := [.int q173]) ⟨hx, hb, hml, hown, hts⟩ (kX5_has3 l G eq173) (cwV 4 hts gX5_kindNamed_X5_has3 rfl rfl rfl qqX5_has3 ⟨Nat.le_of_ble_eq_true rfl, Nat.le_of_ble_eq_true rfl⟩) hw (rvMd hw) rfl hl.1 rfl (Nat.le_of_ble_eq_true rfl) dX5_kindNamed_173 ⟨Nat.zero_le _, Nat.zero_le _⟩ rfl (fun H locs hw => ?_)
            refine lv_if_eq (tgt := 209) hx hb dX5_kindNamed_176 (by decide) (fun c176 => ?_) (fun c176 => ?_)
            · replace h := o_t c176 h
              exact J209 _ _ _ hw (lv_sub hl [0] rfl) h
            · replace h := o_f c176 h
              refine lv_aload_n hx hb dX5_kindNamed_179 rfl (lv_at hl 0 rfl) ?_
              refine lv_iconst (v := 3) hx hb dX5_kindNamed_180 (by decide) ?_
              refine lv_bipush (v := 105) hx hb dX5_kindNamed_181 (by decide) ?_
              refine lv_bipush (v := 110) hx hb dX5_kindNamed_183 (by decide) ?_
              refine lv_bipush (v := 116) hx hb dX5_kindNamed_185 (by decide) ?_
              obtain ⟨q187, eq187, h⟩ := o_bd h
              refine kV (As := [.int (3 : Int32), .int (105 : Int32), .int (110 : Int32), .int (116 : Int32)]) (rest := []) (st' := [.int q187]) ⟨hx, hb, hml, hown, hts⟩ (kX5_has3 l G eq187) (cwV 4 hts gX5_kindNamed_X5_has3 rfl rfl rfl qqX5_has3 ⟨Nat.le_of_ble_eq_true rfl, Nat.le_of_ble_eq_true rfl⟩) hw (rvMd hw) rfl hl.1 rfl (Nat.le_of_ble_eq_true rfl) dX5_kindNamed_187 ⟨Nat.zero_le _, Nat.zero_le _⟩ rfl (fun H locs hw => ?_)
              refine lv_if_eq (tgt := 209) hx hb dX5_kindNamed_190 (by decide) (fun c190 => ?_) (fun c190 => ?_)
              · replace h := o_t c190 h
                exact J209 _ _ _ hw (lv_sub hl [0] rfl) h
              · replace h := o_f c190 h
                refine lv_aload_n hx hb dX5_kindNamed_193 rfl (lv_at hl 0 rfl) ?_
                refine lv_iconst (v := 5) hx hb dX5_kindNamed_194 (by decide) ?_
                refine lv_bipush (v := 116) hx hb dX5_kindNamed_195 (by decide) ?_
                refine lv_bipush (v := 101) hx hb dX5_kindNamed_197 (by decide) ?_
                refine lv_bipush (v := 114) hx hb dX5_kindNamed_199 (by decide) ?_
                obtain ⟨q201, eq201, h⟩ := o_bd h
                refine kV (As := [.int (5 : Int32), .int (116 : Int32), .int (101 : Int32), .int (114 : Int32)]) (rest := []) (st' := [.int q201]) ⟨hx, hb, hml, hown, hts⟩ (kX5_has3 l G eq201) (cwV 4 hts gX5_kindNamed_X5_has3 rfl rfl rfl qqX5_has3 ⟨Nat.le_of_ble_eq_true rfl, Nat.le_of_ble_eq_true rfl⟩) hw (rvMd hw) rfl hl.1 rfl (Nat.le_of_ble_eq_true rfl) dX5_kindNamed_201 ⟨Nat.zero_le _, Nat.zero_le _⟩ rfl (fun H locs hw => ?_)
                refine lv_if_eq (tgt := 209) hx hb dX5_kindNamed_204 (by decide) (fun c204 => ?_) (fun c204 => ?_)
                · replace h := o_t c204 h
                  exact J209 _ _ _ hw (lv_sub hl [0] rfl) h
                · replace h := o_f c204 h
                  refine lv_iconst (v := 4) hx hb dX5_kindNamed_207 (by decide) ?_
                  exact rI hQ hx hb hr hlk hw dX5_kindNamed_208 (o_1 h) rfl rfl
        refine lv_if_eq (tgt := 156) hx hb dX5_kindNamed_123 (by decide) (fun c123 => ?_) (fun c123 => ?_)
        · replace h := o_t c123 h
          exact J156 _ _ _ hw (lv_sub hl [0] rfl) h
        · replace h := o_f c123 h
          refine lv_aload_n hx hb dX5_kindNamed_126 rfl (lv_at hl 0 rfl) ?_
          refine lv_iconst (v := 0) hx hb dX5_kindNamed_127 (by decide) ?_
          refine lv_bipush (v := 104) hx hb dX5_kindNamed_128 (by decide) ?_
          refine lv_bipush (v := 101) hx hb dX5_kindNamed_130 (by decide) ?_
          refine lv_bipush (v := 108) hx hb dX5_kindNamed_132 (by decide) ?_
          obtain ⟨q134, eq134, h⟩ := o_bd h
          refine kV (As := [.int (0 : Int32), .int (104 : Int32), .int (101 : Int32), .int (108 : Int32)]) (rest := []) (st' := [.int q134]) ⟨hx, hb, hml, hown, hts⟩ (kX5_has3 l G eq134) (cwV 4 hts gX5_kindNamed_X5_has3 rfl rfl rfl qqX5_has3 ⟨Nat.le_of_ble_eq_true rfl, Nat.le_of_ble_eq_true rfl⟩) hw (rvMd hw) rfl hl.1 rfl (Nat.le_of_ble_eq_true rfl) dX5_kindNamed_134 ⟨Nat.zero_le _, Nat.zero_le _⟩ rfl (fun H locs hw => ?_)
          refine lv_if_eq (tgt := 156) hx hb dX5_kindNamed_137 (by decide) (fun c137 => ?_) (fun c137 => ?_)
          · replace h := o_t c137 h
            exact J156 _ _ _ hw (lv_sub hl [0] rfl) h
          · replace h := o_f c137 h
            refine lv_aload_n hx hb dX5_kindNamed_140 rfl (lv_at hl 0 rfl) ?_
            refine lv_iconst (v := 3) hx hb dX5_kindNamed_141 (by decide) ?_
            refine lv_bipush (v := 112) hx hb dX5_kindNamed_142 (by decide) ?_
            refine lv_bipush (v := 101) hx hb dX5_kindNamed_144 (by decide) ?_
            refine lv_bipush (v := 114) hx hb dX5_kindNamed_146 (by decide) ?_
            obtain ⟨q148, eq148, h⟩ := o_bd h
            refine kV (As := [.int (3 : Int32), .int (112 : Int32), .int (101 : Int32), .int (114 : Int32)]) (rest := []) (st' := [.int q148]) ⟨hx, hb, hml, hown, hts⟩ (kX5_has3 l G eq148) (cwV 4 hts gX5_kindNamed_X5_has3 rfl rfl rfl qqX5_has3 ⟨Nat.le_of_ble_eq_true rfl, Nat.le_of_ble_eq_true rfl⟩) hw (rvMd hw) rfl hl.1 rfl (Nat.le_of_ble_eq_true rfl) dX5_kindNamed_148 ⟨Nat.zero_le _, Nat.zero_le _⟩ rfl (fun H locs hw => ?_)
            refine lv_if_eq (tgt := 156) hx hb dX5_kindNamed_151 (by decide) (fun c151 => ?_) (fun c151 => ?_)
            · replace h := o_t c151 h
              exact J156 _ _ _ hw (lv_sub hl [0] rfl) h
            · replace h := o_f c151 h
              refine lv_iconst (v := 3) hx hb dX5_kindNamed_154 (by decide) ?_
              exact rI hQ hx hb hr hlk hw dX5_kindNamed_155 (o_1 h) rfl rfl
      refine lv_if_eq (tgt := 117) hx hb dX5_kindNamed_84 (by decide) (fun c84 => ?_) (fun c84 => ?_)
      · replace h := o_t c84 h
        exact J117 _ _ _ hw (lv_sub hl [0] rfl) h
      · replace h := o_f c84 h
        refine lv_aload_n hx hb dX5_kindNamed_87 rfl (lv_at hl 0 rfl) ?_
        refine lv_iconst (v := 0) hx hb dX5_kindNamed_88 (by decide) ?_
        refine lv_bipush (v := 107) hx hb dX5_kindNamed_89 (by decide) ?_
        refine lv_bipush (v := 101) hx hb dX5_kindNamed_91 (by decide) ?_
        refine lv_bipush (v := 101) hx hb dX5_kindNamed_93 (by decide) ?_
        obtain ⟨q95, eq95, h⟩ := o_bd h
        refine kV (As := [.int (0 : Int32), .int (107 : Int32), .int (101 : Int32), .int (101 : Int32)]) (rest := []) (st' := [.int q95]) ⟨hx, hb, hml, hown, hts⟩ (kX5_has3 l G eq95) (cwV 4 hts gX5_kindNamed_X5_has3 rfl rfl rfl qqX5_has3 ⟨Nat.le_of_ble_eq_true rfl, Nat.le_of_ble_eq_true rfl⟩) hw (rvMd hw) rfl hl.1 rfl (Nat.le_of_ble_eq_true rfl) dX5_kindNamed_95 ⟨Nat.zero_le _, Nat.zero_le _⟩ rfl (fun H locs hw => ?_)
        refine lv_if_eq (tgt := 117) hx hb dX5_kindNamed_98 (by decide) (fun c98 => ?_) (fun c98 => ?_)
        · replace h := o_t c98 h
          exact J117 _ _ _ hw (lv_sub hl [0] rfl) h
        · replace h := o_f c98 h
          refine lv_aload_n hx hb dX5_kindNamed_101 rfl (lv_at hl 0 rfl) ?_
          refine lv_iconst (v := 3) hx hb dX5_kindNamed_102 (by decide) ?_
          refine lv_bipush (v := 112) hx hb dX5_kindNamed_103 (by decide) ?_
          refine lv_bipush (v := 101) hx hb dX5_kindNamed_105 (by decide) ?_
          refine lv_bipush (v := 114) hx hb dX5_kindNamed_107 (by decide) ?_
          obtain ⟨q109, eq109, h⟩ := o_bd h
          refine kV (As := [.int (3 : Int32), .int (112 : Int32), .int (101 : Int32), .int (114 : Int32)]) (rest := []) (st' := [.int q109]) ⟨hx, hb, hml, hown, hts⟩ (kX5_has3 l G eq109) (cwV 4 hts gX5_kindNamed_X5_has3 rfl rfl rfl qqX5_has3 ⟨Nat.le_of_ble_eq_true rfl, Nat.le_of_ble_eq_true rfl⟩) hw (rvMd hw) rfl hl.1 rfl (Nat.le_of_ble_eq_true rfl) dX5_kindNamed_109 ⟨Nat.zero_le _, Nat.zero_le _⟩ rfl (fun H locs hw => ?_)
          refine lv_if_eq (tgt := 117) hx hb dX5_kindNamed_112 (by decide) (fun c112 => ?_) (fun c112 => ?_)
          · replace h := o_t c112 h
            exact J117 _ _ _ hw (lv_sub hl [0] rfl) h
          · replace h := o_f c112 h
            refine lv_iconst (v := 2) hx hb dX5_kindNamed_115 (by decide) ?_
            exact rI hQ hx hb hr hlk hw dX5_kindNamed_116 (o_1 h) rfl rfl
    refine lv_if_eq (tgt := 78) hx hb dX5_kindNamed_45 (by decide) (fun c45 => ?_) (fun c45 => ?_)
    · replace h := o_t c45 h
      exact J78 _ _ _ hw (lv_sub hl [0] rfl) h
    · replace h := o_f c45 h
      refine lv_aload_n hx hb dX5_kindNamed_48 rfl (lv_at hl 0 rfl) ?_
      refine lv_iconst (v := 0) hx hb dX5_kindNamed_49 (by decide) ?_
      refine lv_bipush (v := 104) hx hb dX5_kindNamed_50 (by decide) ?_
      refine lv_bipush (v := 111) hx hb dX5_kindNamed_52 (by decide) ?_
      refine lv_bipush (v := 108) hx hb dX5_kindNamed_54 (by decide) ?_
      obtain ⟨q56, eq56, h⟩ := o_bd h
      refine kV (As := [.int (0 : Int32), .int (104 : Int32), .int (111 : Int32), .int (108 : Int32)]) (rest := []) (st' := [.int q56]) ⟨hx, hb, hml, hown, hts⟩ (kX5_has3 l G eq56) (cwV 4 hts gX5_kindNamed_X5_has3 rfl rfl rfl qqX5_has3 ⟨Nat.le_of_ble_eq_true rfl, Nat.le_of_ble_eq_true rfl⟩) hw (rvMd hw) rfl hl.1 rfl (Nat.le_of_ble_eq_true rfl) dX5_kindNamed_56 ⟨Nat.zero_le _, Nat.zero_le _⟩ rfl (fun H locs hw => ?_)
      refine lv_if_eq (tgt := 78) hx hb dX5_kindNamed_59 (by decide) (fun c59 => ?_) (fun c59 => ?_)
      · replace h := o_t c59 h
        exact J78 _ _ _ hw (lv_sub hl [0] rfl) h
      · replace h := o_f c59 h
        refine lv_aload_n hx hb dX5_kindNamed_62 rfl (lv_at hl 0 rfl) ?_
        refine lv_iconst (v := 3) hx hb dX5_kindNamed_63 (by decide) ?_
        refine lv_bipush (v := 100) hx hb dX5_kindNamed_64 (by decide) ?_
        refine lv_bipush (v := 101) hx hb dX5_kindNamed_66 (by decide) ?_
        refine lv_bipush (v := 114) hx hb dX5_kindNamed_68 (by decide) ?_
        obtain ⟨q70, eq70, h⟩ := o_bd h
        refine kV (As := [.int (3 : Int32), .int (100 : Int32), .int (101 : Int32), .int (114 : Int32)]) (rest := []) (st' := [.int q70]) ⟨hx, hb, hml, hown, hts⟩ (kX5_has3 l G eq70) (cwV 4 hts gX5_kindNamed_X5_has3 rfl rfl rfl qqX5_has3 ⟨Nat.le_of_ble_eq_true rfl, Nat.le_of_ble_eq_true rfl⟩) hw (rvMd hw) rfl hl.1 rfl (Nat.le_of_ble_eq_true rfl) dX5_kindNamed_70 ⟨Nat.zero_le _, Nat.zero_le _⟩ rfl (fun H locs hw => ?_)
        refine lv_if_eq (tgt := 78) hx hb dX5_kindNamed_73 (by decide) (fun c73 => ?_) (fun c73 => ?_)
        · replace h := o_t c73 h
          exact J78 _ _ _ hw (lv_sub hl [0] rfl) h
        · replace h := o_f c73 h
          refine lv_iconst (v := 1) hx hb dX5_kindNamed_76 (by decide) ?_
          exact rI hQ hx hb hr hlk hw dX5_kindNamed_77 (o_1 h) rfl rfl
  refine lv_if_eq (tgt := 39) hx hb dX5_kindNamed_6 (by decide) (fun c6 => ?_) (fun c6 => ?_)
  · replace h := o_t c6 h
    exact J39 _ _ _ hw (lv_sub hl [0] rfl) h
  · replace h := o_f c6 h
    refine lv_aload_n hx hb dX5_kindNamed_9 rfl (lv_at hl 0 rfl) ?_
    refine lv_iconst (v := 0) hx hb dX5_kindNamed_10 (by decide) ?_
    refine lv_bipush (v := 114) hx hb dX5_kindNamed_11 (by decide) ?_
    refine lv_bipush (v := 117) hx hb dX5_kindNamed_13 (by decide) ?_
    refine lv_bipush (v := 110) hx hb dX5_kindNamed_15 (by decide) ?_
    obtain ⟨q17, eq17, h⟩ := o_bd h
    refine kV (As := [.int (0 : Int32), .int (114 : Int32), .int (117 : Int32), .int (110 : Int32)]) (rest := []) (st' := [.int q17]) ⟨hx, hb, hml, hown, hts⟩ (kX5_has3 l G eq17) (cwV 4 hts gX5_kindNamed_X5_has3 rfl rfl rfl qqX5_has3 ⟨Nat.le_of_ble_eq_true rfl, Nat.le_of_ble_eq_true rfl⟩) hw (rvMd hw) rfl hl.1 rfl (Nat.le_of_ble_eq_true rfl) dX5_kindNamed_17 ⟨Nat.zero_le _, Nat.zero_le _⟩ rfl (fun H locs hw => ?_)
    refine lv_if_eq (tgt := 39) hx hb dX5_kindNamed_20 (by decide) (fun c20 => ?_) (fun c20 => ?_)
    · replace h := o_t c20 h
      exact J39 _ _ _ hw (lv_sub hl [0] rfl) h
    · replace h := o_f c20 h
      refine lv_aload_n hx hb dX5_kindNamed_23 rfl (lv_at hl 0 rfl) ?_
      refine lv_iconst (v := 3) hx hb dX5_kindNamed_24 (by decide) ?_
      refine lv_bipush (v := 110) hx hb dX5_kindNamed_25 (by decide) ?_
      refine lv_bipush (v := 101) hx hb dX5_kindNamed_27 (by decide) ?_
      refine lv_bipush (v := 114) hx hb dX5_kindNamed_29 (by decide) ?_
      obtain ⟨q31, eq31, h⟩ := o_bd h
      refine kV (As := [.int (3 : Int32), .int (110 : Int32), .int (101 : Int32), .int (114 : Int32)]) (rest := []) (st' := [.int q31]) ⟨hx, hb, hml, hown, hts⟩ (kX5_has3 l G eq31) (cwV 4 hts gX5_kindNamed_X5_has3 rfl rfl rfl qqX5_has3 ⟨Nat.le_of_ble_eq_true rfl, Nat.le_of_ble_eq_true rfl⟩) hw (rvMd hw) rfl hl.1 rfl (Nat.le_of_ble_eq_true rfl) dX5_kindNamed_31 ⟨Nat.zero_le _, Nat.zero_le _⟩ rfl (fun H locs hw => ?_)
      refine lv_if_eq (tgt := 39) hx hb dX5_kindNamed_34 (by decide) (fun c34 => ?_) (fun c34 => ?_)
      · replace h := o_t c34 h
        exact J39 _ _ _ hw (lv_sub hl [0] rfl) h
      · replace h := o_f c34 h
        refine lv_iconst (v := 0) hx hb dX5_kindNamed_37 (by decide) ?_
        exact rI hQ hx hb hr hlk hw dX5_kindNamed_38 (o_1 h) rfl rfl
-- X5_letNamed
set_option maxRecDepth 100000 in
set_option maxHeartbeats 4000000 in
theorem kX5_letNamed (l : Launch) (G : sGl) {S : sWo} {M : sOb}  {q : Int32}  (h : fX5_letNamed M = some q) : sCt l G yX5_letNamed wsX5_letNamed rmX5_letNamed [.ref (sA G 9 0)] S M (some (.int q)) S M := by
  refine cMk (cc := cX5_letNamed) (maxL := 1) (ret := (some .int)) (by decide) rfl (Nat.le_of_ble_eq_true rfl) ?_
  intro p e s m args below meth c Q hQ hx hb hr hlk hml hown hts hw ls hl
  have hown : s.vm.findClass RX5 = some m.cls := hown
  have hl : lv_has ls 1 [(0, .ref (sA G 9 0))] := hl
  unfold fX5_letNamed at h
  refine lv_aload_n hx hb dX5_letNamed_0 rfl (lv_at hl 0 rfl) ?_
  refine lv_bipush (v := 6) hx hb dX5_letNamed_1 (by decide) ?_
  obtain ⟨q3, eq3, h⟩ := o_bd h
  refine kV (As := [.int (6 : Int32)]) (rest := []) (st' := [.int q3]) ⟨hx, hb, hml, hown, hts⟩ (kX5_isWord l G eq3) (cwV 1 hts gX5_letNamed_X5_isWord rfl rfl rfl qqX5_isWord ⟨Nat.le_of_ble_eq_true rfl, Nat.le_of_ble_eq_true rfl⟩) hw (rvMd hw) rfl hl.1 rfl (Nat.le_of_ble_eq_true rfl) dX5_letNamed_3 ⟨Nat.zero_le _, Nat.zero_le _⟩ rfl (fun H locs hw => ?_)
  obtain ⟨k39, ek39, h⟩ := o_nm h
  have J39 : ∀ (H : Heap) (locs : List Loc) (ls : Array Slot), sHw G s S M H locs → lv_has ls 1 [(0, .ref (sA G 9 0))] → k39 = some q → W p l e rmX5_letNamed s m args below meth c H locs 0 0 Q (F0 m 39 ls []) := by
    intro H locs ls hw hl h
    replace h := o_j0 ek39 h
    refine lv_aload_n hx hb dX5_letNamed_39 rfl (lv_at hl 0 rfl) ?_
    refine lv_iconst (v := 5) hx hb dX5_letNamed_40 (by decide) ?_
    obtain ⟨q41, eq41, h⟩ := o_bd h
    refine kV (As := [.int (5 : Int32)]) (rest := []) (st' := [.int q41]) ⟨hx, hb, hml, hown, hts⟩ (kX5_isWord l G eq41) (cwV 1 hts gX5_letNamed_X5_isWord rfl rfl rfl qqX5_isWord ⟨Nat.le_of_ble_eq_true rfl, Nat.le_of_ble_eq_true rfl⟩) hw (rvMd hw) rfl hl.1 rfl (Nat.le_of_ble_eq_true rfl) dX5_letNamed_41 ⟨Nat.zero_le _, Nat.zero_le _⟩ rfl (fun H locs hw => ?_)
    obtain ⟨k77, ek77, h⟩ := o_nm h
    have J77 : ∀ (H : Heap) (locs : List Loc) (ls : Array Slot), sHw G s S M H locs → lv_has ls 1 [(0, .ref (sA G 9 0))] → k77 = some q → W p l e rmX5_letNamed s m args below meth c H locs 0 0 Q (F0 m 77 ls []) := by
      intro H locs ls hw hl h
      replace h := o_j0 ek77 h
      refine lv_aload_n hx hb dX5_letNamed_77 rfl (lv_at hl 0 rfl) ?_
      refine lv_iconst (v := 3) hx hb dX5_letNamed_78 (by decide) ?_
      obtain ⟨q79, eq79, h⟩ := o_bd h
      refine kV (As := [.int (3 : Int32)]) (rest := []) (st' := [.int q79]) ⟨hx, hb, hml, hown, hts⟩ (kX5_isWord l G eq79) (cwV 1 hts gX5_letNamed_X5_isWord rfl rfl rfl qqX5_isWord ⟨Nat.le_of_ble_eq_true rfl, Nat.le_of_ble_eq_true rfl⟩) hw (rvMd hw) rfl hl.1 rfl (Nat.le_of_ble_eq_true rfl) dX5_letNamed_79 ⟨Nat.zero_le _, Nat.zero_le _⟩ rfl (fun H locs hw => ?_)
      refine lv_if_eq (tgt := 103) hx hb dX5_letNamed_82 (by decide) (fun c82 => ?_) (fun c82 => ?_)
      · replace h := o_t c82 h
        refine lv_iconst (v := -1) hx hb dX5_letNamed_103 (by decide) ?_
        exact rI hQ hx hb hr hlk hw dX5_letNamed_104 (o_1 h) rfl rfl
      · replace h := o_f c82 h
        refine lv_aload_n hx hb dX5_letNamed_85 rfl (lv_at hl 0 rfl) ?_
        refine lv_iconst (v := 0) hx hb dX5_letNamed_86 (by decide) ?_
        refine lv_bipush (v := 108) hx hb dX5_letNamed_87 (by decide) ?_
        refine lv_bipush (v := 97) hx hb dX5_letNamed_89 (by decide) ?_
        refine lv_bipush (v := 119) hx hb dX5_letNamed_91 (by decide) ?_
        obtain ⟨q93, eq93, h⟩ := o_bd h
        refine kV (As := [.int (0 : Int32), .int (108 : Int32), .int (97 : Int32), .int (119 : Int32)]) (rest := []) (st' := [.int q93]) ⟨hx, hb, hml, hown, hts⟩ (kX5_has3 l G eq93) (cwV 4 hts gX5_letNamed_X5_has3 rfl rfl rfl qqX5_has3 ⟨Nat.le_of_ble_eq_true rfl, Nat.le_of_ble_eq_true rfl⟩) hw (rvMd hw) rfl hl.1 rfl (Nat.le_of_ble_eq_true rfl) dX5_letNamed_93 ⟨Nat.zero_le _, Nat.zero_le _⟩ rfl (fun H locs hw => ?_)
        refine lv_if_eq (tgt := 103) hx hb dX5_letNamed_96 (by decide) (fun c96 => ?_) (fun c96 => ?_)
        · replace h := o_t c96 h
          refine lv_iconst (v := -1) hx hb dX5_letNamed_103 (by decide) ?_
          exact rI hQ hx hb hr hlk hw dX5_letNamed_104 (o_1 h) rfl rfl
        · replace h := o_f c96 h
          refine lv_iconst (v := 2) hx hb dX5_letNamed_99 (by decide) ?_
          refine lv_goto (tgt := 104) hx hb dX5_letNamed_100 (by decide) ?_
          exact rI hQ hx hb hr hlk hw dX5_letNamed_104 (o_1 h) rfl rfl
    refine lv_if_eq (tgt := 77) hx hb dX5_letNamed_44 (by decide) (fun c44 => ?_) (fun c44 => ?_)
    · replace h := o_t c44 h
      exact J77 _ _ _ hw (lv_sub hl [0] rfl) h
    · replace h := o_f c44 h
      refine lv_aload_n hx hb dX5_letNamed_47 rfl (lv_at hl 0 rfl) ?_
      refine lv_iconst (v := 0) hx hb dX5_letNamed_48 (by decide) ?_
      refine lv_bipush (v := 108) hx hb dX5_letNamed_49 (by decide) ?_
      refine lv_bipush (v := 101) hx hb dX5_letNamed_51 (by decide) ?_
      refine lv_bipush (v := 97) hx hb dX5_letNamed_53 (by decide) ?_
      obtain ⟨q55, eq55, h⟩ := o_bd h
      refine kV (As := [.int (0 : Int32), .int (108 : Int32), .int (101 : Int32), .int (97 : Int32)]) (rest := []) (st' := [.int q55]) ⟨hx, hb, hml, hown, hts⟩ (kX5_has3 l G eq55) (cwV 4 hts gX5_letNamed_X5_has3 rfl rfl rfl qqX5_has3 ⟨Nat.le_of_ble_eq_true rfl, Nat.le_of_ble_eq_true rfl⟩) hw (rvMd hw) rfl hl.1 rfl (Nat.le_of_ble_eq_true rfl) dX5_letNamed_55 ⟨Nat.zero_le _, Nat.zero_le _⟩ rfl (fun H locs hw => ?_)
      refine lv_if_eq (tgt := 77) hx hb dX5_letNamed_58 (by decide) (fun c58 => ?_) (fun c58 => ?_)
      · replace h := o_t c58 h
        exact J77 _ _ _ hw (lv_sub hl [0] rfl) h
      · replace h := o_f c58 h
        refine lv_aload_n hx hb dX5_letNamed_61 rfl (lv_at hl 0 rfl) ?_
        refine lv_iconst (v := 2) hx hb dX5_letNamed_62 (by decide) ?_
        refine lv_bipush (v := 97) hx hb dX5_letNamed_63 (by decide) ?_
        refine lv_bipush (v := 115) hx hb dX5_letNamed_65 (by decide) ?_
        refine lv_bipush (v := 116) hx hb dX5_letNamed_67 (by decide) ?_
        obtain ⟨q69, eq69, h⟩ := o_bd h
        refine kV (As := [.int (2 : Int32), .int (97 : Int32), .int (115 : Int32), .int (116 : Int32)]) (rest := []) (st' := [.int q69]) ⟨hx, hb, hml, hown, hts⟩ (kX5_has3 l G eq69) (cwV 4 hts gX5_letNamed_X5_has3 rfl rfl rfl qqX5_has3 ⟨Nat.le_of_ble_eq_true rfl, Nat.le_of_ble_eq_true rfl⟩) hw (rvMd hw) rfl hl.1 rfl (Nat.le_of_ble_eq_true rfl) dX5_letNamed_69 ⟨Nat.zero_le _, Nat.zero_le _⟩ rfl (fun H locs hw => ?_)
        refine lv_if_eq (tgt := 77) hx hb dX5_letNamed_72 (by decide) (fun c72 => ?_) (fun c72 => ?_)
        · replace h := o_t c72 h
          exact J77 _ _ _ hw (lv_sub hl [0] rfl) h
        · replace h := o_f c72 h
          refine lv_iconst (v := 1) hx hb dX5_letNamed_75 (by decide) ?_
          exact rI hQ hx hb hr hlk hw dX5_letNamed_76 (o_1 h) rfl rfl
  refine lv_if_eq (tgt := 39) hx hb dX5_letNamed_6 (by decide) (fun c6 => ?_) (fun c6 => ?_)
  · replace h := o_t c6 h
    exact J39 _ _ _ hw (lv_sub hl [0] rfl) h
  · replace h := o_f c6 h
    refine lv_aload_n hx hb dX5_letNamed_9 rfl (lv_at hl 0 rfl) ?_
    refine lv_iconst (v := 0) hx hb dX5_letNamed_10 (by decide) ?_
    refine lv_bipush (v := 108) hx hb dX5_letNamed_11 (by decide) ?_
    refine lv_bipush (v := 101) hx hb dX5_letNamed_13 (by decide) ?_
    refine lv_bipush (v := 110) hx hb dX5_letNamed_15 (by decide) ?_
    obtain ⟨q17, eq17, h⟩ := o_bd h
    refine kV (As := [.int (0 : Int32), .int (108 : Int32), .int (101 : Int32), .int (110 : Int32)]) (rest := []) (st' := [.int q17]) ⟨hx, hb, hml, hown, hts⟩ (kX5_has3 l G eq17) (cwV 4 hts gX5_letNamed_X5_has3 rfl rfl rfl qqX5_has3 ⟨Nat.le_of_ble_eq_true rfl, Nat.le_of_ble_eq_true rfl⟩) hw (rvMd hw) rfl hl.1 rfl (Nat.le_of_ble_eq_true rfl) dX5_letNamed_17 ⟨Nat.zero_le _, Nat.zero_le _⟩ rfl (fun H locs hw => ?_)
    refine lv_if_eq (tgt := 39) hx hb dX5_letNamed_20 (by decide) (fun c20 => ?_) (fun c20 => ?_)
    · replace h := o_t c20 h
      exact J39 _ _ _ hw (lv_sub hl [0] rfl) h
    · replace h := o_f c20 h
      refine lv_aload_n hx hb dX5_letNamed_23 rfl (lv_at hl 0 rfl) ?_
      refine lv_iconst (v := 3) hx hb dX5_letNamed_24 (by decide) ?_
      refine lv_bipush (v := 103) hx hb dX5_letNamed_25 (by decide) ?_
      refine lv_bipush (v := 116) hx hb dX5_letNamed_27 (by decide) ?_
      refine lv_bipush (v := 104) hx hb dX5_letNamed_29 (by decide) ?_
      obtain ⟨q31, eq31, h⟩ := o_bd h
      refine kV (As := [.int (3 : Int32), .int (103 : Int32), .int (116 : Int32), .int (104 : Int32)]) (rest := []) (st' := [.int q31]) ⟨hx, hb, hml, hown, hts⟩ (kX5_has3 l G eq31) (cwV 4 hts gX5_letNamed_X5_has3 rfl rfl rfl qqX5_has3 ⟨Nat.le_of_ble_eq_true rfl, Nat.le_of_ble_eq_true rfl⟩) hw (rvMd hw) rfl hl.1 rfl (Nat.le_of_ble_eq_true rfl) dX5_letNamed_31 ⟨Nat.zero_le _, Nat.zero_le _⟩ rfl (fun H locs hw => ?_)
      refine lv_if_eq (tgt := 39) hx hb dX5_letNamed_34 (by decide) (fun c34 => ?_) (fun c34 => ?_)
      · replace h := o_t c34 h
        exact J39 _ _ _ hw (lv_sub hl [0] rfl) h
      · replace h := o_f c34 h
        refine lv_iconst (v := 0) hx hb dX5_letNamed_37 (by decide) ?_
        exact rI hQ hx hb hr hlk hw dX5_letNamed_38 (o_1 h) rfl rfl
-- X5_isNumber
set_option maxRecDepth 100000 in
set_option maxHeartbeats 4000000 in
theorem kX5_isNumber (l : Launch) (G : sGl) {S : sWo} {M : sOb} {a1 : Int32} {a2 : Int32} {q : Int32}  (h : fX5_isNumber M a1 a2 = some q) : sCt l G yX5_isNumber wsX5_isNumber rmX5_isNumber [.ref (sA G 9 0), .int a1, .int a2] S M (some (.int q)) S M := by
  refine cMk (cc := cX5_isNumber) (maxL := 3) (ret := (some .boolean)) (by decide) rfl (Nat.le_of_ble_eq_true rfl) ?_
  intro p e s m args below meth c Q hQ hx hb hr hlk hml hown hts hw ls hl
  have hown : s.vm.findClass RX5 = some m.cls := hown
  have hl : lv_has ls 3 [(0, .ref (sA G 9 0)), (1, .int a1), (2, .int a2)] := hl
  have hiX5 : ∀ w ∈ u_ws RX5 TX5 15, w ∈ wsX5_isNumber := by decide +kernel
  unfold fX5_isNumber at h
  refine lv_aload_n hx hb dX5_isNumber_0 rfl (lv_at hl 0 rfl) ?_
  refine gMd (v := .int (M.1 2)) hx hb hts hiX5 hown hw 11 (by decide) (hts (.fieldLink RX5 187 "SecondHomeModel" "token" "I") (by decide +kernel)) rfl dX5_isNumber_1 ?_
  refine lv_iconst (v := 2) hx hb dX5_isNumber_4 (by decide) ?_
  refine lv_icmp_ne (tgt := 27) hx hb dX5_isNumber_5 (by decide) (fun c5 => ?_) (fun c5 => ?_)
  · replace h := o_f c5 h
    refine lv_iconst (v := 0) hx hb dX5_isNumber_27 (by decide) ?_
    exact rZ hQ hx hb hr hlk hw (Or.inl rfl) dX5_isNumber_28 (o_1 h) rfl rfl
  · replace h := o_t c5 h
    refine lv_aload_n hx hb dX5_isNumber_8 rfl (lv_at hl 0 rfl) ?_
    refine gMd (v := .int (M.1 5)) hx hb hts hiX5 hown hw 14 (by decide) (hts (.fieldLink RX5 190 "SecondHomeModel" "value" "I") (by decide +kernel)) rfl dX5_isNumber_9 ?_
    refine lv_i2l hx hb dX5_isNumber_12 rfl ?_
    refine lv_iload_n hx hb dX5_isNumber_13 rfl (lv_at hl 1 rfl) ?_
    refine lv_i2l hx hb dX5_isNumber_14 rfl ?_
    refine lv_iload_n hx hb dX5_isNumber_15 rfl (lv_at hl 2 rfl) ?_
    refine lv_i2l hx hb dX5_isNumber_16 rfl ?_
    obtain ⟨q17, eq17, h⟩ := o_bd h
    refine kS (As := [.long ((M.1 5).toInt64), .long a1.toInt64, .long a2.toInt64]) (rest := []) (st' := [.int q17]) ⟨hx, hb, hml, hown, hts⟩ (kX5_isIn l G eq17) (va_cwS 3 hts gX5_isNumber_X5_isIn rfl rfl rfl qqX5_isIn ⟨Nat.le_of_ble_eq_true rfl, Nat.le_of_ble_eq_true rfl⟩) hw rfl hl.1 rfl (Nat.le_of_ble_eq_true rfl) dX5_isNumber_17 ⟨Nat.zero_le _, Nat.zero_le _⟩ rfl (fun H locs hw => ?_)
    refine lv_if_eq (tgt := 27) hx hb dX5_isNumber_20 (by decide) (fun c20 => ?_) (fun c20 => ?_)
    · replace h := o_t c20 h
      refine lv_iconst (v := 0) hx hb dX5_isNumber_27 (by decide) ?_
      exact rZ hQ hx hb hr hlk hw (Or.inl rfl) dX5_isNumber_28 (o_1 h) rfl rfl
    · replace h := o_f c20 h
      refine lv_iconst (v := 1) hx hb dX5_isNumber_23 (by decide) ?_
      refine lv_goto (tgt := 28) hx hb dX5_isNumber_24 (by decide) ?_
      exact rZ hQ hx hb hr hlk hw (Or.inr rfl) dX5_isNumber_28 (o_1 h) rfl rfl
