-- J7_fill_d0a16
set_option maxRecDepth 100000 in
set_option maxHeartbeats 4000000 in
theorem kJ7_fill_d0a16 (l : Launch) (G : sGl) {S : sWo} {M : sOb} {o : Nat} {T : sOb} {a1 : Int64} {q : sOb} (ho : isSh o) (hT : S o = T) (h : fJ7_fill_d0a16 T a1 = some q) : sCt l G yJ7_fill_d0a16 wsJ7_fill_d0a16 rmJ7_fill_d0a16 [.ref (sA G o 1), .long a1] S M none (sUp S o q) M := by
  refine cMk (cc := cJ7_fill_d0a16) (maxL := 5) (ret := none) (by decide) rfl (Nat.le_of_ble_eq_true rfl) ?_
  intro p e s m args below meth c Q hQ hx hb hr hlk hml hown hts hw ls hl
  have hown : s.vm.findClass RJ7 = some m.cls := hown
  have hl : lv_has ls 5 [(0, .ref (sA G o 1)), (1, .long a1)] := hl
  rw [show S = sUp S o T from (by rw [← hT]; exact (sUp_i S o).symm)] at hw
  unfold fJ7_fill_d0a16 at h
  refine lv_iconst (v := 0) hx hb dJ7_fill_d0a16_0 (by decide) ?_
  refine lv_istore_n (lv' := [(3, .int (0 : Int32)), (0, .ref (sA G o 1)), (1, .long a1)]) hx hb dJ7_fill_d0a16_1 rfl hl (by decide) rfl (fun ls hl => ?_)
  refine lv_aload_n hx hb dJ7_fill_d0a16_2 rfl (lv_at hl 1 rfl) ?_
  refine lenSh hx hb hw ho dJ7_fill_d0a16_3 ?_
  refine lv_istore (lv' := [(4, .int (40 : Int32)), (3, .int (0 : Int32)), (0, .ref (sA G o 1)), (1, .long a1)]) hx hb dJ7_fill_d0a16_4 hl (by decide) rfl (fun ls hl => ?_)
  refine fx2_w (F := (bJ7_fill_d0a16_6 a1)) (P := fun x3_6 T_6 => ∀ (H : Heap) (locs : List Loc) (ls : Array Slot), sHw G s (sUp S o T_6) M H locs → lv_has ls 5 [(0, .ref (sA G o 1)), (1, .long a1), (3, .int x3_6), (4, .int (40 : Int32))] → W p l e rmJ7_fill_d0a16 s m args below meth c H locs 0 0 Q (F0 m 6 ls [])) ?_ _ _ _ h _ _ _ hw (lv_sub hl [2, 3, 1, 0] rfl)
  intro rc6 IH6 x3_6 T_6 h H locs ls hw hl
  unfold bJ7_fill_d0a16_6 at h
  refine lv_iload_n hx hb dJ7_fill_d0a16_6 rfl (lv_at hl 2 rfl) ?_
  refine lv_iload hx hb dJ7_fill_d0a16_7 (lv_at hl 3 rfl) ?_
  refine lv_icmp_ge (tgt := 22) hx hb dJ7_fill_d0a16_9 (by decide) (fun c9 => ?_) (fun c9 => ?_)
  · replace h := o_t c9 h
    exact rV hQ hx hb hr hlk hw dJ7_fill_d0a16_22 (congrArg (sUp S o) (o_1 h)) rfl
  · replace h := o_f c9 h
    refine lv_aload_n hx hb dJ7_fill_d0a16_12 rfl (lv_at hl 0 rfl) ?_
    refine lv_iload_n hx hb dJ7_fill_d0a16_13 rfl (lv_at hl 2 rfl) ?_
    refine lv_lload_n hx hb dJ7_fill_d0a16_14 rfl (lv_at hl 1 rfl) ?_
    obtain ⟨b15, h⟩ := o_in h
    refine stSh hx hb hw ho (sUp_s S o T_6) b15 dJ7_fill_d0a16_15 (sUp_u S o T_6 _) (fun H locs hw => ?_)
    obtain ⟨T15, eT15, h⟩ := o_nm h
    rw [← eT15] at hw
    obtain ⟨v16, ev16, h⟩ := o_nm h
    refine lv_iinc (v := v16) (lv' := [(3, .int v16), (0, .ref (sA G o 1)), (1, .long a1), (4, .int (40 : Int32))]) hx hb dJ7_fill_d0a16_16 hl (k := 2) rfl (by rw [ev16]; rfl) (by decide) rfl (fun ls hl => ?_)
    refine lv_goto (tgt := 6) hx hb dJ7_fill_d0a16_19 (by decide) ?_
    exact IH6 v16 T15 h _ _ _ hw (lv_sub hl [1, 2, 0, 3] rfl)
-- X1_isMissing
set_option maxRecDepth 100000 in
set_option maxHeartbeats 4000000 in
theorem kX1_isMissing (l : Launch) (G : sGl) {S : sWo} {M : sOb} {o : Nat} {T : sOb} {q : Int32} (ho : isSh o) (hT : S o = T) (h : fX1_isMissing T = some q) : sCt l G yX1_isMissing wsX1_isMissing rmX1_isMissing [.ref (sA G o 0)] S M (some (.int q)) S M := by
  refine cMk (cc := cX1_isMissing) (maxL := 1) (ret := (some .boolean)) (by decide) rfl (Nat.le_of_ble_eq_true rfl) ?_
  intro p e s m args below meth c Q hQ hx hb hr hlk hml hown hts hw ls hl
  have hown : s.vm.findClass RX1 = some m.cls := hown
  have hl : lv_has ls 1 [(0, .ref (sA G o 0))] := hl
  have hiX1 : ∀ w ∈ u_ws RX1 TX1 3, w ∈ wsX1_isMissing := by decide +kernel
  unfold fX1_isMissing at h
  refine lv_aload_n hx hb dX1_isMissing_0 rfl (lv_at hl 0 rfl) ?_
  refine gSh (v := .int (T.1 0)) hx hb hts hiX1 hown hw ho hT 0 (by decide) (hts (.fieldLink RX1 15 "SecondHome$Sheet" "bits" "I") (by decide +kernel)) rfl dX1_isMissing_1 ?_
  refine lv_if_ne (tgt := 11) hx hb dX1_isMissing_4 (by decide) (fun c4 => ?_) (fun c4 => ?_)
  · replace h := o_f c4 h
    refine lv_iconst (v := 0) hx hb dX1_isMissing_11 (by decide) ?_
    exact rZ hQ hx hb hr hlk hw (Or.inl rfl) dX1_isMissing_12 (o_1 h) rfl rfl
  · replace h := o_t c4 h
    refine lv_iconst (v := 1) hx hb dX1_isMissing_7 (by decide) ?_
    refine lv_goto (tgt := 12) hx hb dX1_isMissing_8 (by decide) ?_
    exact rZ hQ hx hb hr hlk hw (Or.inr rfl) dX1_isMissing_12 (o_1 h) rfl rfl
-- X1_has
set_option maxRecDepth 100000 in
set_option maxHeartbeats 4000000 in
theorem kX1_has (l : Launch) (G : sGl) {S : sWo} {M : sOb} {o : Nat} {T : sOb} {a1 : Int32} {q : Int32} (ho : isSh o) (hT : S o = T) (h : fX1_has T a1 = some q) : sCt l G yX1_has wsX1_has rmX1_has [.ref (sA G o 0), .int a1] S M (some (.int q)) S M := by
  refine cMk (cc := cX1_has) (maxL := 2) (ret := (some .boolean)) (by decide) rfl (Nat.le_of_ble_eq_true rfl) ?_
  intro p e s m args below meth c Q hQ hx hb hr hlk hml hown hts hw ls hl
  have hown : s.vm.findClass RX1 = some m.cls := hown
  have hl : lv_has ls 2 [(0, .ref (sA G o 0)), (1, .int a1)] := hl
  have hiX1 : ∀ w ∈ u_ws RX1 TX1 3, w ∈ wsX1_has := by decide +kernel
  unfold fX1_has at h
  refine lv_iload_n hx hb dX1_has_0 rfl (lv_at hl 1 rfl) ?_
  refine lv_if_lt (tgt := 22) hx hb dX1_has_1 (by decide) (fun c1 => ?_) (fun c1 => ?_)
  · replace h := o_t c1 h
    refine lv_iconst (v := 0) hx hb dX1_has_22 (by decide) ?_
    exact rZ hQ hx hb hr hlk hw (Or.inl rfl) dX1_has_23 (o_1 h) rfl rfl
  · replace h := o_f c1 h
    refine lv_iload_n hx hb dX1_has_4 rfl (lv_at hl 1 rfl) ?_
    refine lv_aload_n hx hb dX1_has_5 rfl (lv_at hl 0 rfl) ?_
    refine gSh (v := .int (T.1 1)) hx hb hts hiX1 hown hw ho hT 1 (by decide) (hts (.fieldLink RX1 19 "SecondHome$Sheet" "size" "I") (by decide +kernel)) rfl dX1_has_6 ?_
    refine lv_icmp_ge (tgt := 22) hx hb dX1_has_9 (by decide) (fun c9 => ?_) (fun c9 => ?_)
    · replace h := o_t c9 h
      refine lv_iconst (v := 0) hx hb dX1_has_22 (by decide) ?_
      exact rZ hQ hx hb hr hlk hw (Or.inl rfl) dX1_has_23 (o_1 h) rfl rfl
    · replace h := o_f c9 h
      refine lv_iload_n hx hb dX1_has_12 rfl (lv_at hl 1 rfl) ?_
      refine lv_bipush (v := 40) hx hb dX1_has_13 (by decide) ?_
      refine lv_icmp_ge (tgt := 22) hx hb dX1_has_15 (by decide) (fun c15 => ?_) (fun c15 => ?_)
      · replace h := o_t c15 h
        refine lv_iconst (v := 0) hx hb dX1_has_22 (by decide) ?_
        exact rZ hQ hx hb hr hlk hw (Or.inl rfl) dX1_has_23 (o_1 h) rfl rfl
      · replace h := o_f c15 h
        refine lv_iconst (v := 1) hx hb dX1_has_18 (by decide) ?_
        refine lv_goto (tgt := 23) hx hb dX1_has_19 (by decide) ?_
        exact rZ hQ hx hb hr hlk hw (Or.inr rfl) dX1_has_23 (o_1 h) rfl rfl
-- X1_hasRow
set_option maxRecDepth 100000 in
set_option maxHeartbeats 4000000 in
theorem kX1_hasRow (l : Launch) (G : sGl) {S : sWo} {M : sOb} {o : Nat} {T : sOb} {a1 : Int32} {a2 : Int32} {q : Int32} (ho : isSh o) (hT : S o = T) (h : fX1_hasRow T a1 a2 = some q) : sCt l G yX1_hasRow wsX1_hasRow rmX1_hasRow [.ref (sA G o 0), .int a1, .int a2] S M (some (.int q)) S M := by
  refine cMk (cc := cX1_hasRow) (maxL := 3) (ret := (some .boolean)) (by decide) rfl (Nat.le_of_ble_eq_true rfl) ?_
  intro p e s m args below meth c Q hQ hx hb hr hlk hml hown hts hw ls hl
  have hown : s.vm.findClass RX1 = some m.cls := hown
  have hl : lv_has ls 3 [(0, .ref (sA G o 0)), (1, .int a1), (2, .int a2)] := hl
  have hiX1 : ∀ w ∈ u_ws RX1 TX1 3, w ∈ wsX1_hasRow := by decide +kernel
  unfold fX1_hasRow at h
  refine lv_iload_n hx hb dX1_hasRow_0 rfl (lv_at hl 1 rfl) ?_
  refine lv_if_lt (tgt := 30) hx hb dX1_hasRow_1 (by decide) (fun c1 => ?_) (fun c1 => ?_)
  · replace h := o_t c1 h
    refine lv_iconst (v := 0) hx hb dX1_hasRow_30 (by decide) ?_
    exact rZ hQ hx hb hr hlk hw (Or.inl rfl) dX1_hasRow_31 (o_1 h) rfl rfl
  · replace h := o_f c1 h
    refine lv_iload_n hx hb dX1_hasRow_4 rfl (lv_at hl 2 rfl) ?_
    refine lv_if_lt (tgt := 30) hx hb dX1_hasRow_5 (by decide) (fun c5 => ?_) (fun c5 => ?_)
    · replace h := o_t c5 h
      refine lv_iconst (v := 0) hx hb dX1_hasRow_30 (by decide) ?_
      exact rZ hQ hx hb hr hlk hw (Or.inl rfl) dX1_hasRow_31 (o_1 h) rfl rfl
    · replace h := o_f c5 h
      refine lv_iload_n hx hb dX1_hasRow_8 rfl (lv_at hl 2 rfl) ?_
      refine lv_aload_n hx hb dX1_hasRow_9 rfl (lv_at hl 0 rfl) ?_
      refine gSh (v := .int (T.1 1)) hx hb hts hiX1 hown hw ho hT 1 (by decide) (hts (.fieldLink RX1 19 "SecondHome$Sheet" "size" "I") (by decide +kernel)) rfl dX1_hasRow_10 ?_
      refine lv_icmp_gt (tgt := 30) hx hb dX1_hasRow_13 (by decide) (fun c13 => ?_) (fun c13 => ?_)
      · replace h := o_t c13 h
        refine lv_iconst (v := 0) hx hb dX1_hasRow_30 (by decide) ?_
        exact rZ hQ hx hb hr hlk hw (Or.inl rfl) dX1_hasRow_31 (o_1 h) rfl rfl
      · replace h := o_f c13 h
        refine lv_iload_n hx hb dX1_hasRow_16 rfl (lv_at hl 1 rfl) ?_
        refine lv_aload_n hx hb dX1_hasRow_17 rfl (lv_at hl 0 rfl) ?_
        refine gSh (v := .int (T.1 1)) hx hb hts hiX1 hown hw ho hT 1 (by decide) (hts (.fieldLink RX1 19 "SecondHome$Sheet" "size" "I") (by decide +kernel)) rfl dX1_hasRow_18 ?_
        refine lv_iload_n hx hb dX1_hasRow_21 rfl (lv_at hl 2 rfl) ?_
        refine lv_isub hx hb dX1_hasRow_22 ?_
        refine lv_icmp_gt (tgt := 30) hx hb dX1_hasRow_23 (by decide) (fun c23 => ?_) (fun c23 => ?_)
        · replace h := o_t c23 h
          refine lv_iconst (v := 0) hx hb dX1_hasRow_30 (by decide) ?_
          exact rZ hQ hx hb hr hlk hw (Or.inl rfl) dX1_hasRow_31 (o_1 h) rfl rfl
        · replace h := o_f c23 h
          refine lv_iconst (v := 1) hx hb dX1_hasRow_26 (by decide) ?_
          refine lv_goto (tgt := 31) hx hb dX1_hasRow_27 (by decide) ?_
          exact rZ hQ hx hb hr hlk hw (Or.inr rfl) dX1_hasRow_31 (o_1 h) rfl rfl
-- X1_lay
set_option maxRecDepth 100000 in
set_option maxHeartbeats 4000000 in
theorem kX1_lay (l : Launch) (G : sGl) {S : sWo} {M : sOb} {o : Nat} {T : sOb} {a1 : Int32} {a2 : Int32} {q : (Int32 × sOb)} (ho : isSh o) (hT : S o = T) (h : fX1_lay T a1 a2 = some q) : sCt l G yX1_lay wsX1_lay rmX1_lay [.ref (sA G o 0), .int a1, .int a2] S M (some (.int q.1)) (sUp S o q.2) M := by
  refine cMk (cc := cX1_lay) (maxL := 3) (ret := (some .int)) (by decide) rfl (Nat.le_of_ble_eq_true rfl) ?_
  intro p e s m args below meth c Q hQ hx hb hr hlk hml hown hts hw ls hl
  have hown : s.vm.findClass RX1 = some m.cls := hown
  have hl : lv_has ls 3 [(0, .ref (sA G o 0)), (1, .int a1), (2, .int a2)] := hl
  have hiX1 : ∀ w ∈ u_ws RX1 TX1 3, w ∈ wsX1_lay := by decide +kernel
  rw [show S = sUp S o T from (by rw [← hT]; exact (sUp_i S o).symm)] at hw
  unfold fX1_lay at h
  refine lv_aload_n hx hb dX1_lay_0 rfl (lv_at hl 0 rfl) ?_
  refine lv_iload_n hx hb dX1_lay_1 rfl (lv_at hl 1 rfl) ?_
  refine pSh hx hb hts hiX1 hown hw ho (sUp_s S o T) 0 (by decide) (hts (.fieldLink RX1 15 "SecondHome$Sheet" "bits" "I") (by decide +kernel)) dX1_lay_2 (sUp_u S o T _) (fun H locs hw => ?_)
  obtain ⟨T2, eT2, h⟩ := o_nm h
  rw [← eT2] at hw
  refine lv_aload_n hx hb dX1_lay_5 rfl (lv_at hl 0 rfl) ?_
  refine lv_iload_n hx hb dX1_lay_6 rfl (lv_at hl 1 rfl) ?_
  obtain ⟨k15, ek15, h⟩ := o_nm h
  have J15 : ∀ (y0_15 : Int32) (H : Heap) (locs : List Loc) (ls : Array Slot), sHw G s (sUp S o T2) M H locs → lv_has ls 3 [(0, .ref (sA G o 0))] → k15 y0_15 = some q → W p l e rmX1_lay s m args below meth c H locs 0 0 Q (F0 m 15 ls [.int y0_15, .ref (sA G o 0)]) := by
    intro y0_15 H locs ls hw hl h
    replace h := o_j1 ek15 h
    refine pSh hx hb hts hiX1 hown hw ho (sUp_s S o T2) 1 (by decide) (hts (.fieldLink RX1 19 "SecondHome$Sheet" "size" "I") (by decide +kernel)) dX1_lay_15 (sUp_u S o T2 _) (fun H locs hw => ?_)
    obtain ⟨T15, eT15, h⟩ := o_nm h
    rw [← eT15] at hw
    refine lv_aload_n hx hb dX1_lay_18 rfl (lv_at hl 0 rfl) ?_
    refine gSh (v := .ref (sA G o 1)) hx hb hts hiX1 hown hw ho (sUp_s S o T15) 2 (by decide) (hts (.fieldLink RX1 9 "SecondHome$Sheet" "numbers" "[J") (by decide +kernel)) rfl dX1_lay_19 ?_
    refine lv_lconst (v := 0) hx hb dX1_lay_22 (by decide) ?_
    obtain ⟨q23, eq23, h⟩ := o_bd h
    refine kS (As := [.ref (sA G o 1), .long (0 : Int64)]) (rest := []) (st' := []) ⟨hx, hb, hml, hown, hts⟩ (kJ7_fill_d0a16 l G ho (sUp_s S o T15) eq23) (va_cwS 2 hts gX1_lay_J7_fill_d0a16 rfl rfl rfl qqJ7_fill_d0a16 ⟨Nat.le_of_ble_eq_true rfl, Nat.le_of_ble_eq_true rfl⟩) hw rfl hl.1 rfl (Nat.le_of_ble_eq_true rfl) dX1_lay_23 ⟨Nat.zero_le _, Nat.zero_le _⟩ rfl (fun H locs hw => ?_)
    rw [sUp_u] at hw
    refine lv_aload_n hx hb dX1_lay_26 rfl (lv_at hl 0 rfl) ?_
    refine gSh (v := .int (q23.1 1)) hx hb hts hiX1 hown hw ho (sUp_s S o q23) 1 (by decide) (hts (.fieldLink RX1 19 "SecondHome$Sheet" "size" "I") (by decide +kernel)) rfl dX1_lay_27 ?_
    exact rI hQ hx hb hr hlk hw dX1_lay_30 (o_2a h) (congrArg (sUp S o) (o_2b h)) rfl
  refine lv_if_ne (tgt := 14) hx hb dX1_lay_7 (by decide) (fun c7 => ?_) (fun c7 => ?_)
  · replace h := o_f c7 h
    refine lv_iload_n hx hb dX1_lay_14 rfl (lv_at hl 2 rfl) ?_
    exact J15 a2 _ _ _ hw (lv_sub hl [0] rfl) h
  · replace h := o_t c7 h
    refine lv_iconst (v := 0) hx hb dX1_lay_10 (by decide) ?_
    refine lv_goto (tgt := 15) hx hb dX1_lay_11 (by decide) ?_
    exact J15 (0 : Int32) _ _ _ hw (lv_sub hl [0] rfl) h
-- X1_lowest
set_option maxRecDepth 100000 in
set_option maxHeartbeats 4000000 in
theorem kX1_lowest (l : Launch) (G : sGl) {S : sWo} {M : sOb} {o : Nat} {T : sOb} {a1 : Int64} {q : Int64} (ho : isSh o) (hT : S o = T) (h : fX1_lowest T a1 = some q) : sCt l G yX1_lowest wsX1_lowest rmX1_lowest [.ref (sA G o 0), .long a1] S M (some (.long q)) S M := by
  refine cMk (cc := cX1_lowest) (maxL := 3) (ret := (some .long)) (by decide) rfl (Nat.le_of_ble_eq_true rfl) ?_
  intro p e s m args below meth c Q hQ hx hb hr hlk hml hown hts hw ls hl
  have hown : s.vm.findClass RX1 = some m.cls := hown
  have hl : lv_has ls 3 [(0, .ref (sA G o 0)), (1, .long a1)] := hl
  have hiX1 : ∀ w ∈ u_ws RX1 TX1 3, w ∈ wsX1_lowest := by decide +kernel
  unfold fX1_lowest at h
  refine lv_aload_n hx hb dX1_lowest_0 rfl (lv_at hl 0 rfl) ?_
  refine gSh (v := .int (T.1 0)) hx hb hts hiX1 hown hw ho hT 0 (by decide) (hts (.fieldLink RX1 15 "SecondHome$Sheet" "bits" "I") (by decide +kernel)) rfl dX1_lowest_1 ?_
  by_cases c4_8 : (T.1 0) = (8 : Int32)
  · replace h := o_t c4_8 h
    refine lv_lookup (off := 28) (tgt := 32) hx hb dX1_lowest_4 (by decide) (by rw [c4_8]; rfl) (by decide) ?_
    refine lv_lload_n hx hb dX1_lowest_32 rfl (lv_at hl 1 rfl) ?_
    refine lv_l2i hx hb dX1_lowest_33 rfl ?_
    refine lv_i2b hx hb dX1_lowest_34 rfl ?_
    refine lv_i2l hx hb dX1_lowest_35 rfl ?_
    exact rL hQ hx hb hr hlk hw dX1_lowest_36 (o_1 h) rfl rfl
  replace h := o_f c4_8 h
  by_cases c4_16 : (T.1 0) = (16 : Int32)
  · replace h := o_t c4_16 h
    refine lv_lookup (off := 33) (tgt := 37) hx hb dX1_lowest_4 (by decide) (by rw [c4_16]; rfl) (by decide) ?_
    refine lv_lload_n hx hb dX1_lowest_37 rfl (lv_at hl 1 rfl) ?_
    refine lv_l2i hx hb dX1_lowest_38 rfl ?_
    refine lv_i2s hx hb dX1_lowest_39 rfl ?_
    refine lv_i2l hx hb dX1_lowest_40 rfl ?_
    exact rL hQ hx hb hr hlk hw dX1_lowest_41 (o_1 h) rfl rfl
  replace h := o_f c4_16 h
  refine lv_lookup (off := 38) (tgt := 42) hx hb dX1_lowest_4 (by decide) (by show Op.lookupswitch.offset [(8, 28), (16, 33)] 38 _ = 38; rw [lv_osw (a := 8) c4_8 rfl]; rw [lv_osw (a := 16) c4_16 rfl]; rfl) (by decide) ?_
  refine lv_lload_n hx hb dX1_lowest_42 rfl (lv_at hl 1 rfl) ?_
  exact rL hQ hx hb hr hlk hw dX1_lowest_43 (o_1 h) rfl rfl
-- X1_put
set_option maxRecDepth 100000 in
set_option maxHeartbeats 4000000 in
theorem kX1_put (l : Launch) (G : sGl) {S : sWo} {M : sOb} {o : Nat} {T : sOb} {a1 : Int32} {a2 : Int64} {q : sOb} (ho : isSh o) (hT : S o = T) (h : fX1_put T a1 a2 = some q) : sCt l G yX1_put wsX1_put rmX1_put [.ref (sA G o 0), .int a1, .long a2] S M none (sUp S o q) M := by
  refine cMk (cc := cX1_put) (maxL := 4) (ret := none) (by decide) rfl (Nat.le_of_ble_eq_true rfl) ?_
  intro p e s m args below meth c Q hQ hx hb hr hlk hml hown hts hw ls hl
  have hown : s.vm.findClass RX1 = some m.cls := hown
  have hl : lv_has ls 4 [(0, .ref (sA G o 0)), (1, .int a1), (2, .long a2)] := hl
  have hiX1 : ∀ w ∈ u_ws RX1 TX1 3, w ∈ wsX1_put := by decide +kernel
  rw [show S = sUp S o T from (by rw [← hT]; exact (sUp_i S o).symm)] at hw
  unfold fX1_put at h
  refine lv_aload_n hx hb dX1_put_0 rfl (lv_at hl 0 rfl) ?_
  refine lv_iload_n hx hb dX1_put_1 rfl (lv_at hl 1 rfl) ?_
  obtain ⟨q2, eq2, h⟩ := o_bd h
  refine kV (As := [.int a1]) (rest := []) (st' := [.int q2]) ⟨hx, hb, hml, hown, hts⟩ (kX1_has l G ho (sUp_s S o T) eq2) (cwV 1 hts gX1_put_X1_has rfl rfl rfl qqX1_has ⟨Nat.le_of_ble_eq_true rfl, Nat.le_of_ble_eq_true rfl⟩) hw (rvSh hw ho) rfl hl.1 rfl (Nat.le_of_ble_eq_true rfl) dX1_put_2 ⟨Nat.zero_le _, Nat.zero_le _⟩ rfl (fun H locs hw => ?_)
  refine lv_if_eq (tgt := 19) hx hb dX1_put_5 (by decide) (fun c5 => ?_) (fun c5 => ?_)
  · replace h := o_t c5 h
    exact rV hQ hx hb hr hlk hw dX1_put_19 (congrArg (sUp S o) (o_1 h)) rfl
  · replace h := o_f c5 h
    refine lv_aload_n hx hb dX1_put_8 rfl (lv_at hl 0 rfl) ?_
    refine gSh (v := .ref (sA G o 1)) hx hb hts hiX1 hown hw ho (sUp_s S o T) 2 (by decide) (hts (.fieldLink RX1 9 "SecondHome$Sheet" "numbers" "[J") (by decide +kernel)) rfl dX1_put_9 ?_
    refine lv_iload_n hx hb dX1_put_12 rfl (lv_at hl 1 rfl) ?_
    refine lv_aload_n hx hb dX1_put_13 rfl (lv_at hl 0 rfl) ?_
    refine lv_lload_n hx hb dX1_put_14 rfl (lv_at hl 2 rfl) ?_
    obtain ⟨q15, eq15, h⟩ := o_bd h
    refine kV (As := [.long a2]) (rest := [.int a1, .ref (sA G o 1)]) (st' := [.long q15, .int a1, .ref (sA G o 1)]) ⟨hx, hb, hml, hown, hts⟩ (kX1_lowest l G ho (sUp_s S o T) eq15) (cwV 1 hts gX1_put_X1_lowest rfl rfl rfl qqX1_lowest ⟨Nat.le_of_ble_eq_true rfl, Nat.le_of_ble_eq_true rfl⟩) hw (rvSh hw ho) rfl hl.1 rfl (Nat.le_of_ble_eq_true rfl) dX1_put_15 ⟨Nat.zero_le _, Nat.zero_le _⟩ rfl (fun H locs hw => ?_)
    obtain ⟨b18, h⟩ := o_in h
    refine stSh hx hb hw ho (sUp_s S o T) b18 dX1_put_18 (sUp_u S o T _) (fun H locs hw => ?_)
    obtain ⟨T18, eT18, h⟩ := o_nm h
    rw [← eT18] at hw
    exact rV hQ hx hb hr hlk hw dX1_put_19 (congrArg (sUp S o) (o_1 h)) rfl
