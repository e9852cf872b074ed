-- X2_add
set_option maxRecDepth 100000 in
set_option maxHeartbeats 4000000 in
theorem kX2_add (l : Launch) (G : sGl) {S : sWo} {M : sOb} {T : sOb} {a1 : Int32} {q : sOb} (hT : S 4 = T) (h : fX2_add T a1 = some q) : sCt l G yX2_add wsX2_add rmX2_add [.ref (sA G 4 0), .int a1] S M none (sUp S 4 q) M := by
  refine cMk (cc := cX2_add) (maxL := 2) (ret := none) (by decide) rfl (Nat.le_of_ble_eq_true rfl) ?_
  intro p e s m args below meth c Q hQ hx hb hr hlk hml hown hts hw ls hl
  have hown : s.vm.findClass RX2 = some m.cls := hown
  have hl : lv_has ls 2 [(0, .ref (sA G 4 0)), (1, .int a1)] := hl
  have hiX2 : ∀ w ∈ u_ws RX2 TX2 6, w ∈ wsX2_add := by decide +kernel
  rw [show S = sUp S 4 T from (by rw [← hT]; exact (sUp_i S 4).symm)] at hw
  unfold fX2_add at h
  refine lv_aload_n hx hb dX2_add_0 rfl (lv_at hl 0 rfl) ?_
  refine gTp (v := .int (T.1 0)) hx hb hts hiX2 hown hw (sUp_s S 4 T) 0 (by decide) (hts (.fieldLink RX2 15 "SecondHome$Tape" "size" "I") (by decide +kernel)) rfl dX2_add_1 ?_
  refine lv_if_lt (tgt := 37) hx hb dX2_add_4 (by decide) (fun c4 => ?_) (fun c4 => ?_)
  · replace h := o_t c4 h
    exact rV hQ hx hb hr hlk hw dX2_add_37 (congrArg (sUp S 4) (o_1 h)) rfl
  · replace h := o_f c4 h
    refine lv_aload_n hx hb dX2_add_7 rfl (lv_at hl 0 rfl) ?_
    refine gTp (v := .int (T.1 0)) hx hb hts hiX2 hown hw (sUp_s S 4 T) 0 (by decide) (hts (.fieldLink RX2 15 "SecondHome$Tape" "size" "I") (by decide +kernel)) rfl dX2_add_8 ?_
    refine lv_bipush (v := 120) hx hb dX2_add_11 (by decide) ?_
    refine lv_icmp_ge (tgt := 37) hx hb dX2_add_13 (by decide) (fun c13 => ?_) (fun c13 => ?_)
    · replace h := o_t c13 h
      exact rV hQ hx hb hr hlk hw dX2_add_37 (congrArg (sUp S 4) (o_1 h)) rfl
    · replace h := o_f c13 h
      refine lv_aload_n hx hb dX2_add_16 rfl (lv_at hl 0 rfl) ?_
      refine gTp (v := .ref (sA G 4 1)) hx hb hts hiX2 hown hw (sUp_s S 4 T) 1 (by decide) (hts (.fieldLink RX2 9 "SecondHome$Tape" "bytes" "[B") (by decide +kernel)) rfl dX2_add_17 ?_
      refine lv_aload_n hx hb dX2_add_20 rfl (lv_at hl 0 rfl) ?_
      refine gTp (v := .int (T.1 0)) hx hb hts hiX2 hown hw (sUp_s S 4 T) 0 (by decide) (hts (.fieldLink RX2 15 "SecondHome$Tape" "size" "I") (by decide +kernel)) rfl dX2_add_21 ?_
      refine lv_iload_n hx hb dX2_add_24 rfl (lv_at hl 1 rfl) ?_
      refine lv_i2b hx hb dX2_add_25 rfl ?_
      obtain ⟨b26, h⟩ := o_in h
      refine stTp hx hb hw (sUp_s S 4 T) b26 dX2_add_26 (sUp_u S 4 T _) (fun H locs hw => ?_)
      obtain ⟨T26, eT26, h⟩ := o_nm h
      rw [← eT26] at hw
      refine lv_aload_n hx hb dX2_add_27 rfl (lv_at hl 0 rfl) ?_
      refine lv_dup hx hb dX2_add_28 rfl ?_
      refine gTp (v := .int (T26.1 0)) hx hb hts hiX2 hown hw (sUp_s S 4 T26) 0 (by decide) (hts (.fieldLink RX2 15 "SecondHome$Tape" "size" "I") (by decide +kernel)) rfl dX2_add_29 ?_
      refine lv_iconst (v := 1) hx hb dX2_add_32 (by decide) ?_
      refine lv_iadd hx hb dX2_add_33 ?_
      refine pTp hx hb hts hiX2 hown hw (sUp_s S 4 T26) 0 0 (by decide) rfl rfl rfl (hts (.fieldLink RX2 15 "SecondHome$Tape" "size" "I") (by decide +kernel)) dX2_add_34 (sUp_u S 4 T26 _) (fun H locs hw => ?_)
      obtain ⟨T34, eT34, h⟩ := o_nm h
      rw [← eT34] at hw
      exact rV hQ hx hb hr hlk hw dX2_add_37 (congrArg (sUp S 4) (o_1 h)) rfl
-- X2_empty
set_option maxRecDepth 100000 in
set_option maxHeartbeats 4000000 in
theorem kX2_empty (l : Launch) (G : sGl) {S : sWo} {M : sOb} {T : sOb} {q : (Int32 × sOb)} (hT : S 4 = T) (h : fX2_empty T = some q) : sCt l G yX2_empty wsX2_empty rmX2_empty [.ref (sA G 4 0)] S M (some (.int q.1)) (sUp S 4 q.2) M := by
  refine cMk (cc := cX2_empty) (maxL := 2) (ret := (some .int)) (by decide) rfl (Nat.le_of_ble_eq_true rfl) ?_
  intro p e s m args below meth c Q hQ hx hb hr hlk hml hown hts hw ls hl
  have hown : s.vm.findClass RX2 = some m.cls := hown
  have hl : lv_has ls 2 [(0, .ref (sA G 4 0))] := hl
  have hiX2 : ∀ w ∈ u_ws RX2 TX2 6, w ∈ wsX2_empty := by decide +kernel
  rw [show S = sUp S 4 T from (by rw [← hT]; exact (sUp_i S 4).symm)] at hw
  unfold fX2_empty at h
  refine lv_aload_n hx hb dX2_empty_0 rfl (lv_at hl 0 rfl) ?_
  refine gTp (v := .int (T.1 0)) hx hb hts hiX2 hown hw (sUp_s S 4 T) 0 (by decide) (hts (.fieldLink RX2 15 "SecondHome$Tape" "size" "I") (by decide +kernel)) rfl dX2_empty_1 ?_
  refine lv_topi (fun v4 ev4 => ?_)
  replace h := o_nx ev4 h
  refine lv_istore_n (lv' := [(1, .int v4), (0, .ref (sA G 4 0))]) hx hb dX2_empty_4 rfl hl (by decide) rfl (fun ls hl => ?_)
  refine lv_aload_n hx hb dX2_empty_5 rfl (lv_at hl 1 rfl) ?_
  refine lv_iconst (v := 0) hx hb dX2_empty_6 (by decide) ?_
  refine pTp hx hb hts hiX2 hown hw (sUp_s S 4 T) 0 0 (by decide) rfl rfl rfl (hts (.fieldLink RX2 15 "SecondHome$Tape" "size" "I") (by decide +kernel)) dX2_empty_7 (sUp_u S 4 T _) (fun H locs hw => ?_)
  obtain ⟨T7, eT7, h⟩ := o_nm h
  rw [← eT7] at hw
  refine lv_iload_n hx hb dX2_empty_10 rfl (lv_at hl 0 rfl) ?_
  exact rI hQ hx hb hr hlk hw dX2_empty_11 (o_2a h) (congrArg (sUp S 4) (o_2b h)) rfl
-- X2_byteAt
set_option maxRecDepth 100000 in
set_option maxHeartbeats 4000000 in
theorem kX2_byteAt (l : Launch) (G : sGl) {S : sWo} {M : sOb} {T : sOb} {a1 : Int32} {q : Int32} (hT : S 4 = T) (h : fX2_byteAt T a1 = some q) : sCt l G yX2_byteAt wsX2_byteAt rmX2_byteAt [.ref (sA G 4 0), .int a1] S M (some (.int q)) S M := by
  refine cMk (cc := cX2_byteAt) (maxL := 2) (ret := (some .int)) (by decide) rfl (Nat.le_of_ble_eq_true rfl) ?_
  intro p e s m args below meth c Q hQ hx hb hr hlk hml hown hts hw ls hl
  have hown : s.vm.findClass RX2 = some m.cls := hown
  have hl : lv_has ls 2 [(0, .ref (sA G 4 0)), (1, .int a1)] := hl
  have hiX2 : ∀ w ∈ u_ws RX2 TX2 6, w ∈ wsX2_byteAt := by decide +kernel
  unfold fX2_byteAt at h
  refine lv_iload_n hx hb dX2_byteAt_0 rfl (lv_at hl 1 rfl) ?_
  refine lv_if_lt (tgt := 31) hx hb dX2_byteAt_1 (by decide) (fun c1 => ?_) (fun c1 => ?_)
  · replace h := o_t c1 h
    refine lv_iconst (v := -1) hx hb dX2_byteAt_31 (by decide) ?_
    exact rI hQ hx hb hr hlk hw dX2_byteAt_32 (o_1 h) rfl rfl
  · replace h := o_f c1 h
    refine lv_iload_n hx hb dX2_byteAt_4 rfl (lv_at hl 1 rfl) ?_
    refine lv_aload_n hx hb dX2_byteAt_5 rfl (lv_at hl 0 rfl) ?_
    refine gTp (v := .int (T.1 0)) hx hb hts hiX2 hown hw hT 0 (by decide) (hts (.fieldLink RX2 15 "SecondHome$Tape" "size" "I") (by decide +kernel)) rfl dX2_byteAt_6 ?_
    refine lv_icmp_ge (tgt := 31) hx hb dX2_byteAt_9 (by decide) (fun c9 => ?_) (fun c9 => ?_)
    · replace h := o_t c9 h
      refine lv_iconst (v := -1) hx hb dX2_byteAt_31 (by decide) ?_
      exact rI hQ hx hb hr hlk hw dX2_byteAt_32 (o_1 h) rfl rfl
    · replace h := o_f c9 h
      refine lv_iload_n hx hb dX2_byteAt_12 rfl (lv_at hl 1 rfl) ?_
      refine lv_bipush (v := 120) hx hb dX2_byteAt_13 (by decide) ?_
      refine lv_icmp_ge (tgt := 31) hx hb dX2_byteAt_15 (by decide) (fun c15 => ?_) (fun c15 => ?_)
      · replace h := o_t c15 h
        refine lv_iconst (v := -1) hx hb dX2_byteAt_31 (by decide) ?_
        exact rI hQ hx hb hr hlk hw dX2_byteAt_32 (o_1 h) rfl rfl
      · replace h := o_f c15 h
        refine lv_aload_n hx hb dX2_byteAt_18 rfl (lv_at hl 0 rfl) ?_
        refine gTp (v := .ref (sA G 4 1)) hx hb hts hiX2 hown hw hT 1 (by decide) (hts (.fieldLink RX2 9 "SecondHome$Tape" "bytes" "[B") (by decide +kernel)) rfl dX2_byteAt_19 ?_
        refine lv_iload_n hx hb dX2_byteAt_22 rfl (lv_at hl 1 rfl) ?_
        obtain ⟨b23, h⟩ := o_in h
        refine ldTp hx hb hw hT b23 dX2_byteAt_23 ?_
        refine lv_sipush (v := 255) hx hb dX2_byteAt_24 (by decide) ?_
        refine lv_iand hx hb dX2_byteAt_27 ?_
        refine lv_goto (tgt := 32) hx hb dX2_byteAt_28 (by decide) ?_
        exact rI hQ hx hb hr hlk hw dX2_byteAt_32 (o_1 h) rfl rfl
-- X2_tokenBegunBy
set_option maxRecDepth 100000 in
set_option maxHeartbeats 4000000 in
theorem kX2_tokenBegunBy (l : Launch) (G : sGl) {S : sWo} {M : sOb} {a0 : Int32} {q : Int32}  (h : fX2_tokenBegunBy a0 = some q) : sCt l G yX2_tokenBegunBy wsX2_tokenBegunBy rmX2_tokenBegunBy [.int a0] S M (some (.int q)) S M := by
  refine cMk (cc := cX2_tokenBegunBy) (maxL := 1) (ret := (some .int)) (by decide) rfl (Nat.le_of_ble_eq_true rfl) ?_
  intro p e s m args below meth c Q hQ hx hb hr hlk hml hown hts hw ls hl
  have hown : s.vm.findClass RX2 = some m.cls := hown
  have hl : lv_has ls 1 [(0, .int a0)] := hl
  unfold fX2_tokenBegunBy at h
  refine lv_iload_n hx hb dX2_tokenBegunBy_0 rfl (lv_at hl 0 rfl) ?_
  refine lv_if_ge (tgt := 6) hx hb dX2_tokenBegunBy_1 (by decide) (fun c1 => ?_) (fun c1 => ?_)
  · replace h := o_t c1 h
    refine lv_iload_n hx hb dX2_tokenBegunBy_6 rfl (lv_at hl 0 rfl) ?_
    refine lv_bipush (v := 97) hx hb dX2_tokenBegunBy_7 (by decide) ?_
    obtain ⟨k20, ek20, h⟩ := o_nm h
    have J20 : ∀ (H : Heap) (locs : List Loc) (ls : Array Slot), sHw G s S M H locs → lv_has ls 1 [(0, .int a0)] → k20 = some q → W p l e rmX2_tokenBegunBy s m args below meth c H locs 0 0 Q (F0 m 20 ls []) := by
      intro H locs ls hw hl h
      replace h := o_j0 ek20 h
      refine lv_iload_n hx hb dX2_tokenBegunBy_20 rfl (lv_at hl 0 rfl) ?_
      refine lv_bipush (v := 48) hx hb dX2_tokenBegunBy_21 (by decide) ?_
      obtain ⟨k34, ek34, h⟩ := o_nm h
      have J34 : ∀ (H : Heap) (locs : List Loc) (ls : Array Slot), sHw G s S M H locs → lv_has ls 1 [(0, .int a0)] → k34 = some q → W p l e rmX2_tokenBegunBy s m args below meth c H locs 0 0 Q (F0 m 34 ls []) := by
        intro H locs ls hw hl h
        replace h := o_j0 ek34 h
        refine lv_iload_n hx hb dX2_tokenBegunBy_34 rfl (lv_at hl 0 rfl) ?_
        refine lv_bipush (v := 59) hx hb dX2_tokenBegunBy_35 (by decide) ?_
        refine lv_icmp_ne (tgt := 44) hx hb dX2_tokenBegunBy_37 (by decide) (fun c37 => ?_) (fun c37 => ?_)
        · replace h := o_f c37 h
          refine lv_iconst (v := 4) hx hb dX2_tokenBegunBy_44 (by decide) ?_
          exact rI hQ hx hb hr hlk hw dX2_tokenBegunBy_45 (o_1 h) rfl rfl
        · replace h := o_t c37 h
          refine lv_iconst (v := 3) hx hb dX2_tokenBegunBy_40 (by decide) ?_
          refine lv_goto (tgt := 45) hx hb dX2_tokenBegunBy_41 (by decide) ?_
          exact rI hQ hx hb hr hlk hw dX2_tokenBegunBy_45 (o_1 h) rfl rfl
      refine lv_icmp_lt (tgt := 34) hx hb dX2_tokenBegunBy_23 (by decide) (fun c23 => ?_) (fun c23 => ?_)
      · replace h := o_t c23 h
        exact J34 _ _ _ hw (lv_sub hl [0] rfl) h
      · replace h := o_f c23 h
        refine lv_iload_n hx hb dX2_tokenBegunBy_26 rfl (lv_at hl 0 rfl) ?_
        refine lv_bipush (v := 57) hx hb dX2_tokenBegunBy_27 (by decide) ?_
        refine lv_icmp_gt (tgt := 34) hx hb dX2_tokenBegunBy_29 (by decide) (fun c29 => ?_) (fun c29 => ?_)
        · replace h := o_t c29 h
          exact J34 _ _ _ hw (lv_sub hl [0] rfl) h
        · replace h := o_f c29 h
          refine lv_iconst (v := 2) hx hb dX2_tokenBegunBy_32 (by decide) ?_
          exact rI hQ hx hb hr hlk hw dX2_tokenBegunBy_33 (o_1 h) rfl rfl
    refine lv_icmp_lt (tgt := 20) hx hb dX2_tokenBegunBy_9 (by decide) (fun c9 => ?_) (fun c9 => ?_)
    · replace h := o_t c9 h
      exact J20 _ _ _ hw (lv_sub hl [0] rfl) h
    · replace h := o_f c9 h
      refine lv_iload_n hx hb dX2_tokenBegunBy_12 rfl (lv_at hl 0 rfl) ?_
      refine lv_bipush (v := 122) hx hb dX2_tokenBegunBy_13 (by decide) ?_
      refine lv_icmp_gt (tgt := 20) hx hb dX2_tokenBegunBy_15 (by decide) (fun c15 => ?_) (fun c15 => ?_)
      · replace h := o_t c15 h
        exact J20 _ _ _ hw (lv_sub hl [0] rfl) h
      · replace h := o_f c15 h
        refine lv_iconst (v := 1) hx hb dX2_tokenBegunBy_18 (by decide) ?_
        exact rI hQ hx hb hr hlk hw dX2_tokenBegunBy_19 (o_1 h) rfl rfl
  · replace h := o_f c1 h
    refine lv_iconst (v := 0) hx hb dX2_tokenBegunBy_4 (by decide) ?_
    exact rI hQ hx hb hr hlk hw dX2_tokenBegunBy_5 (o_1 h) rfl rfl
-- X2_next
set_option maxRecDepth 100000 in
set_option maxHeartbeats 4000000 in
theorem kX2_next (l : Launch) (G : sGl) {S : sWo} {M : sOb} {T : sOb} {q : sOb} (hT : S 4 = T) (h : fX2_next T = some q) : sCt l G yX2_next wsX2_next rmX2_next [.ref (sA G 4 0)] S M none (sUp S 4 q) M := by
  refine cMk (cc := cX2_next) (maxL := 1) (ret := none) (by decide) rfl (Nat.le_of_ble_eq_true rfl) ?_
  intro p e s m args below meth c Q hQ hx hb hr hlk hml hown hts hw ls hl
  have hown : s.vm.findClass RX2 = some m.cls := hown
  have hl : lv_has ls 1 [(0, .ref (sA G 4 0))] := hl
  have hiX2 : ∀ w ∈ u_ws RX2 TX2 6, w ∈ wsX2_next := by decide +kernel
  rw [show S = sUp S 4 T from (by rw [← hT]; exact (sUp_i S 4).symm)] at hw
  unfold fX2_next at h
  refine lv_aload_n hx hb dX2_next_0 rfl (lv_at hl 0 rfl) ?_
  refine lv_aload_n hx hb dX2_next_1 rfl (lv_at hl 0 rfl) ?_
  refine gTp (v := .int (T.1 3)) hx hb hts hiX2 hown hw (sUp_s S 4 T) 4 (by decide) (hts (.fieldLink RX2 19 "SecondHome$Tape" "behind" "I") (by decide +kernel)) rfl dX2_next_2 ?_
  refine pTp hx hb hts hiX2 hown hw (sUp_s S 4 T) 3 2 (by decide) rfl rfl rfl (hts (.fieldLink RX2 32 "SecondHome$Tape" "from" "I") (by decide +kernel)) dX2_next_5 (sUp_u S 4 T _) (fun H locs hw => ?_)
  obtain ⟨T5, eT5, h⟩ := o_nm h
  rw [← eT5] at hw
  obtain ⟨k45, ek45, h⟩ := o_nm h
  have J45 : ∀ (T_45 : sOb) (H : Heap) (locs : List Loc) (ls : Array Slot), sHw G s (sUp S 4 T_45) M H locs → lv_has ls 1 [(0, .ref (sA G 4 0))] → k45 T_45 = some q → W p l e rmX2_next s m args below meth c H locs 0 0 Q (F0 m 45 ls []) := by
    intro T_45 H locs ls hw hl h
    replace h := o_j1 ek45 h
    refine lv_aload_n hx hb dX2_next_45 rfl (lv_at hl 0 rfl) ?_
    refine lv_aload_n hx hb dX2_next_46 rfl (lv_at hl 0 rfl) ?_
    refine lv_aload_n hx hb dX2_next_47 rfl (lv_at hl 0 rfl) ?_
    refine gTp (v := .int (T_45.1 2)) hx hb hts hiX2 hown hw (sUp_s S 4 T_45) 3 (by decide) (hts (.fieldLink RX2 32 "SecondHome$Tape" "from" "I") (by decide +kernel)) rfl dX2_next_48 ?_
    obtain ⟨q51, eq51, h⟩ := o_bd h
    refine kV (As := [.int (T_45.1 2)]) (rest := [.ref (sA G 4 0)]) (st' := [.int q51, .ref (sA G 4 0)]) ⟨hx, hb, hml, hown, hts⟩ (kX2_byteAt l G (sUp_s S 4 T_45) eq51) (cwV 1 hts gX2_next_X2_byteAt rfl rfl rfl qqX2_byteAt ⟨Nat.le_of_ble_eq_true rfl, Nat.le_of_ble_eq_true rfl⟩) hw (rvTp hw) rfl hl.1 rfl (Nat.le_of_ble_eq_true rfl) dX2_next_51 ⟨Nat.zero_le _, Nat.zero_le _⟩ rfl (fun H locs hw => ?_)
    obtain ⟨q54, eq54, h⟩ := o_bd h
    refine kS (As := [.int q51]) (rest := [.ref (sA G 4 0)]) (st' := [.int q54, .ref (sA G 4 0)]) ⟨hx, hb, hml, hown, hts⟩ (kX2_tokenBegunBy l G eq54) (va_cwS 1 hts gX2_next_X2_tokenBegunBy rfl rfl rfl qqX2_tokenBegunBy ⟨Nat.le_of_ble_eq_true rfl, Nat.le_of_ble_eq_true rfl⟩) hw rfl hl.1 rfl (Nat.le_of_ble_eq_true rfl) dX2_next_54 ⟨Nat.zero_le _, Nat.zero_le _⟩ rfl (fun H locs hw => ?_)
    refine pTp hx hb hts hiX2 hown hw (sUp_s S 4 T_45) 2 1 (by decide) rfl rfl rfl (hts (.fieldLink RX2 29 "SecondHome$Tape" "token" "I") (by decide +kernel)) dX2_next_57 (sUp_u S 4 T_45 _) (fun H locs hw => ?_)
    obtain ⟨T57, eT57, h⟩ := o_nm h
    rw [← eT57] at hw
    refine lv_aload_n hx hb dX2_next_60 rfl (lv_at hl 0 rfl) ?_
    refine lv_aload_n hx hb dX2_next_61 rfl (lv_at hl 0 rfl) ?_
    refine gTp (v := .int (T57.1 2)) hx hb hts hiX2 hown hw (sUp_s S 4 T57) 3 (by decide) (hts (.fieldLink RX2 32 "SecondHome$Tape" "from" "I") (by decide +kernel)) rfl dX2_next_62 ?_
    refine lv_iconst (v := 1) hx hb dX2_next_65 (by decide) ?_
    refine lv_iadd hx hb dX2_next_66 ?_
    refine pTp hx hb hts hiX2 hown hw (sUp_s S 4 T57) 4 3 (by decide) rfl rfl rfl (hts (.fieldLink RX2 19 "SecondHome$Tape" "behind" "I") (by decide +kernel)) dX2_next_67 (sUp_u S 4 T57 _) (fun H locs hw => ?_)
    obtain ⟨T67, eT67, h⟩ := o_nm h
    rw [← eT67] at hw
    refine lv_aload_n hx hb dX2_next_70 rfl (lv_at hl 0 rfl) ?_
    refine gTp (v := .int (T67.1 1)) hx hb hts hiX2 hown hw (sUp_s S 4 T67) 2 (by decide) (hts (.fieldLink RX2 29 "SecondHome$Tape" "token" "I") (by decide +kernel)) rfl dX2_next_71 ?_
    refine lv_iconst (v := 1) hx hb dX2_next_74 (by decide) ?_
    refine lv_icmp_eq (tgt := 86) hx hb dX2_next_75 (by decide) (fun c75 => ?_) (fun c75 => ?_)
    · replace h := o_t c75 h
      refine fx1_w (F := bX2_next_86) (P := fun T_86 => ∀ (H : Heap) (locs : List Loc) (ls : Array Slot), sHw G s (sUp S 4 T_86) M H locs → lv_has ls 1 [(0, .ref (sA G 4 0))] → W p l e rmX2_next s m args below meth c H locs 0 0 Q (F0 m 86 ls [])) ?_ _ _ h _ _ _ hw (lv_sub hl [0] rfl)
      intro rc86 IH86 T_86 h H locs ls hw hl
      unfold bX2_next_86 at h
      refine lv_aload_n hx hb dX2_next_86 rfl (lv_at hl 0 rfl) ?_
      refine gTp (v := .int (T_86.1 3)) hx hb hts hiX2 hown hw (sUp_s S 4 T_86) 4 (by decide) (hts (.fieldLink RX2 19 "SecondHome$Tape" "behind" "I") (by decide +kernel)) rfl dX2_next_87 ?_
      refine lv_aload_n hx hb dX2_next_90 rfl (lv_at hl 0 rfl) ?_
      refine gTp (v := .int (T_86.1 0)) hx hb hts hiX2 hown hw (sUp_s S 4 T_86) 0 (by decide) (hts (.fieldLink RX2 15 "SecondHome$Tape" "size" "I") (by decide +kernel)) rfl dX2_next_91 ?_
      refine lv_icmp_ge (tgt := 128) hx hb dX2_next_94 (by decide) (fun c94 => ?_) (fun c94 => ?_)
      · replace h := o_t c94 h
        exact rV hQ hx hb hr hlk hw dX2_next_128 (congrArg (sUp S 4) (o_1 h)) rfl
      · replace h := o_f c94 h
        refine lv_aload_n hx hb dX2_next_97 rfl (lv_at hl 0 rfl) ?_
        refine lv_aload_n hx hb dX2_next_98 rfl (lv_at hl 0 rfl) ?_
        refine gTp (v := .int (T_86.1 3)) hx hb hts hiX2 hown hw (sUp_s S 4 T_86) 4 (by decide) (hts (.fieldLink RX2 19 "SecondHome$Tape" "behind" "I") (by decide +kernel)) rfl dX2_next_99 ?_
        obtain ⟨q102, eq102, h⟩ := o_bd h
        refine kV (As := [.int (T_86.1 3)]) (rest := []) (st' := [.int q102]) ⟨hx, hb, hml, hown, hts⟩ (kX2_byteAt l G (sUp_s S 4 T_86) eq102) (cwV 1 hts gX2_next_X2_byteAt rfl rfl rfl qqX2_byteAt ⟨Nat.le_of_ble_eq_true rfl, Nat.le_of_ble_eq_true rfl⟩) hw (rvTp hw) rfl hl.1 rfl (Nat.le_of_ble_eq_true rfl) dX2_next_102 ⟨Nat.zero_le _, Nat.zero_le _⟩ rfl (fun H locs hw => ?_)
        obtain ⟨q105, eq105, h⟩ := o_bd h
        refine kS (As := [.int q102]) (rest := []) (st' := [.int q105]) ⟨hx, hb, hml, hown, hts⟩ (kX2_tokenBegunBy l G eq105) (va_cwS 1 hts gX2_next_X2_tokenBegunBy rfl rfl rfl qqX2_tokenBegunBy ⟨Nat.le_of_ble_eq_true rfl, Nat.le_of_ble_eq_true rfl⟩) hw rfl hl.1 rfl (Nat.le_of_ble_eq_true rfl) dX2_next_105 ⟨Nat.zero_le _, Nat.zero_le _⟩ rfl (fun H locs hw => ?_)
        refine lv_aload_n hx hb dX2_next_108 rfl (lv_at hl 0 rfl) ?_
        refine gTp (v := .int (T_86.1 1)) hx hb hts hiX2 hown hw (sUp_s S 4 T_86) 2 (by decide) (hts (.fieldLink RX2 29 "SecondHome$Tape" "token" "I") (by decide +kernel)) rfl dX2_next_109 ?_
        refine lv_icmp_ne (tgt := 128) hx hb dX2_next_112 (by decide) (fun c112 => ?_) (fun c112 => ?_)
        · replace h := o_f c112 h
          exact rV hQ hx hb hr hlk hw dX2_next_128 (congrArg (sUp S 4) (o_1 h)) rfl
        · replace h := o_t c112 h
          refine lv_aload_n hx hb dX2_next_115 rfl (lv_at hl 0 rfl) ?_
          refine lv_dup hx hb dX2_next_116 rfl ?_
          refine gTp (v := .int (T_86.1 3)) hx hb hts hiX2 hown hw (sUp_s S 4 T_86) 4 (by decide) (hts (.fieldLink RX2 19 "SecondHome$Tape" "behind" "I") (by decide +kernel)) rfl dX2_next_117 ?_
          refine lv_iconst (v := 1) hx hb dX2_next_120 (by decide) ?_
          refine lv_iadd hx hb dX2_next_121 ?_
          refine pTp hx hb hts hiX2 hown hw (sUp_s S 4 T_86) 4 3 (by decide) rfl rfl rfl (hts (.fieldLink RX2 19 "SecondHome$Tape" "behind" "I") (by decide +kernel)) dX2_next_122 (sUp_u S 4 T_86 _) (fun H locs hw => ?_)
          obtain ⟨T122, eT122, h⟩ := o_nm h
          rw [← eT122] at hw
          refine lv_goto (tgt := 86) hx hb dX2_next_125 (by decide) ?_
          exact IH86 T122 h _ _ _ hw (lv_sub hl [0] rfl)
    · replace h := o_f c75 h
      refine lv_aload_n hx hb dX2_next_78 rfl (lv_at hl 0 rfl) ?_
      refine gTp (v := .int (T67.1 1)) hx hb hts hiX2 hown hw (sUp_s S 4 T67) 2 (by decide) (hts (.fieldLink RX2 29 "SecondHome$Tape" "token" "I") (by decide +kernel)) rfl dX2_next_79 ?_
      refine lv_iconst (v := 2) hx hb dX2_next_82 (by decide) ?_
      refine lv_icmp_ne (tgt := 128) hx hb dX2_next_83 (by decide) (fun c83 => ?_) (fun c83 => ?_)
      · replace h := o_f c83 h
        exact rV hQ hx hb hr hlk hw dX2_next_128 (congrArg (sUp S 4) (o_1 h)) rfl
      · replace h := o_t c83 h
        refine fx1_w (F := bX2_next_86) (P := fun T_86 => ∀ (H : Heap) (locs : List Loc) (ls : Array Slot), sHw G s (sUp S 4 T_86) M H locs → lv_has ls 1 [(0, .ref (sA G 4 0))] → W p l e rmX2_next s m args below meth c H locs 0 0 Q (F0 m 86 ls [])) ?_ _ _ h _ _ _ hw (lv_sub hl [0] rfl)
        intro rc86 IH86 T_86 h H locs ls hw hl
        unfold bX2_next_86 at h
        refine lv_aload_n hx hb dX2_next_86 rfl (lv_at hl 0 rfl) ?_
        refine gTp (v := .int (T_86.1 3)) hx hb hts hiX2 hown hw (sUp_s S 4 T_86) 4 (by decide) (hts (.fieldLink RX2 19 "SecondHome$Tape" "behind" "I") (by decide +kernel)) rfl dX2_next_87 ?_
        refine lv_aload_n hx hb dX2_next_90 rfl (lv_at hl 0 rfl) ?_
        refine gTp (v := .int (T_86.1 0)) hx hb hts hiX2 hown hw (sUp_s S 4 T_86) 0 (by decide) (hts (.fieldLink RX2 15 "SecondHome$Tape" "size" "I") (by decide +kernel)) rfl dX2_next_91 ?_
        refine lv_icmp_ge (tgt := 128) hx hb dX2_next_94 (by decide) (fun c94 => ?_) (fun c94 => ?_)
        · replace h := o_t c94 h
          exact rV hQ hx hb hr hlk hw dX2_next_128 (congrArg (sUp S 4) (o_1 h)) rfl
        · replace h := o_f c94 h
          refine lv_aload_n hx hb dX2_next_97 rfl (lv_at hl 0 rfl) ?_
          refine lv_aload_n hx hb dX2_next_98 rfl (lv_at hl 0 rfl) ?_
          refine gTp (v := .int (T_86.1 3)) hx hb hts hiX2 hown hw (sUp_s S 4 T_86) 4 (by decide) (hts (.fieldLink RX2 19 "SecondHome$Tape" "behind" "I") (by decide +kernel)) rfl dX2_next_99 ?_
          obtain ⟨q102, eq102, h⟩ := o_bd h
          refine kV (As := [.int (T_86.1 3)]) (rest := []) (st' := [.int q102]) ⟨hx, hb, hml, hown, hts⟩ (kX2_byteAt l G (sUp_s S 4 T_86) eq102) (cwV 1 hts gX2_next_X2_byteAt rfl rfl rfl qqX2_byteAt ⟨Nat.le_of_ble_eq_true rfl, Nat.le_of_ble_eq_true rfl⟩) hw (rvTp hw) rfl hl.1 rfl (Nat.le_of_ble_eq_true rfl) dX2_next_102 ⟨Nat.zero_le _, Nat.zero_le _⟩ rfl (fun H locs hw => ?_)
          obtain ⟨q105, eq105, h⟩ := o_bd h
          refine kS (As := [.int q102]) (rest := []) (st' := [.int q105]) ⟨hx, hb, hml, hown, hts⟩ (kX2_tokenBegunBy l G eq105) (va_cwS 1 hts gX2_next_X2_tokenBegunBy rfl rfl rfl qqX2_tokenBegunBy ⟨Nat.le_of_ble_eq_true rfl, Nat.le_of_ble_eq_true rfl⟩) hw rfl hl.1 rfl (Nat.le_of_ble_eq_true rfl) dX2_next_105 ⟨Nat.zero_le _, Nat.zero_le _⟩ rfl (fun H locs hw => ?_)
          refine lv_aload_n hx hb dX2_next_108 rfl (lv_at hl 0 rfl) ?_
          refine gTp (v := .int (T_86.1 1)) hx hb hts hiX2 hown hw (sUp_s S 4 T_86) 2 (by decide) (hts (.fieldLink RX2 29 "SecondHome$Tape" "token" "I") (by decide +kernel)) rfl dX2_next_109 ?_
          refine lv_icmp_ne (tgt := 128) hx hb dX2_next_112 (by decide) (fun c112 => ?_) (fun c112 => ?_)
          · replace h := o_f c112 h
            exact rV hQ hx hb hr hlk hw dX2_next_128 (congrArg (sUp S 4) (o_1 h)) rfl
          · replace h := o_t c112 h
            refine lv_aload_n hx hb dX2_next_115 rfl (lv_at hl 0 rfl) ?_
            refine lv_dup hx hb dX2_next_116 rfl ?_
            refine gTp (v := .int (T_86.1 3)) hx hb hts hiX2 hown hw (sUp_s S 4 T_86) 4 (by decide) (hts (.fieldLink RX2 19 "SecondHome$Tape" "behind" "I") (by decide +kernel)) rfl dX2_next_117 ?_
            refine lv_iconst (v := 1) hx hb dX2_next_120 (by decide) ?_
            refine lv_iadd hx hb dX2_next_121 ?_
            refine pTp hx hb hts hiX2 hown hw (sUp_s S 4 T_86) 4 3 (by decide) rfl rfl rfl (hts (.fieldLink RX2 19 "SecondHome$Tape" "behind" "I") (by decide +kernel)) dX2_next_122 (sUp_u S 4 T_86 _) (fun H locs hw => ?_)
            obtain ⟨T122, eT122, h⟩ := o_nm h
            rw [← eT122] at hw
            refine lv_goto (tgt := 86) hx hb dX2_next_125 (by decide) ?_
            exact IH86 T122 h _ _ _ hw (lv_sub hl [0] rfl)
  refine fx1_w (F := (bX2_next_8 k45)) (P := fun T_8 => ∀ (H : Heap) (locs : List Loc) (ls : Array Slot), sHw G s (sUp S 4 T_8) M H locs → lv_has ls 1 [(0, .ref (sA G 4 0))] → W p l e rmX2_next s m args below meth c H locs 0 0 Q (F0 m 8 ls [])) ?_ _ _ h _ _ _ hw (lv_sub hl [0] rfl)
  intro rc8 IH8 T_8 h H locs ls hw hl
  unfold bX2_next_8 at h
  refine lv_aload_n hx hb dX2_next_8 rfl (lv_at hl 0 rfl) ?_
  refine gTp (v := .int (T_8.1 2)) hx hb hts hiX2 hown hw (sUp_s S 4 T_8) 3 (by decide) (hts (.fieldLink RX2 32 "SecondHome$Tape" "from" "I") (by decide +kernel)) rfl dX2_next_9 ?_
  refine lv_aload_n hx hb dX2_next_12 rfl (lv_at hl 0 rfl) ?_
  refine gTp (v := .int (T_8.1 0)) hx hb hts hiX2 hown hw (sUp_s S 4 T_8) 0 (by decide) (hts (.fieldLink RX2 15 "SecondHome$Tape" "size" "I") (by decide +kernel)) rfl dX2_next_13 ?_
  refine lv_icmp_ge (tgt := 45) hx hb dX2_next_16 (by decide) (fun c16 => ?_) (fun c16 => ?_)
  · replace h := o_t c16 h
    exact J45 T_8 _ _ _ hw (lv_sub hl [0] rfl) h
  · replace h := o_f c16 h
    refine lv_aload_n hx hb dX2_next_19 rfl (lv_at hl 0 rfl) ?_
    refine lv_aload_n hx hb dX2_next_20 rfl (lv_at hl 0 rfl) ?_
    refine gTp (v := .int (T_8.1 2)) hx hb hts hiX2 hown hw (sUp_s S 4 T_8) 3 (by decide) (hts (.fieldLink RX2 32 "SecondHome$Tape" "from" "I") (by decide +kernel)) rfl dX2_next_21 ?_
    obtain ⟨q24, eq24, h⟩ := o_bd h
    refine kV (As := [.int (T_8.1 2)]) (rest := []) (st' := [.int q24]) ⟨hx, hb, hml, hown, hts⟩ (kX2_byteAt l G (sUp_s S 4 T_8) eq24) (cwV 1 hts gX2_next_X2_byteAt rfl rfl rfl qqX2_byteAt ⟨Nat.le_of_ble_eq_true rfl, Nat.le_of_ble_eq_true rfl⟩) hw (rvTp hw) rfl hl.1 rfl (Nat.le_of_ble_eq_true rfl) dX2_next_24 ⟨Nat.zero_le _, Nat.zero_le _⟩ rfl (fun H locs hw => ?_)
    refine lv_bipush (v := 32) hx hb dX2_next_27 (by decide) ?_
    refine lv_icmp_ne (tgt := 45) hx hb dX2_next_29 (by decide) (fun c29 => ?_) (fun c29 => ?_)
    · replace h := o_f c29 h
      exact J45 T_8 _ _ _ hw (lv_sub hl [0] rfl) h
    · replace h := o_t c29 h
      refine lv_aload_n hx hb dX2_next_32 rfl (lv_at hl 0 rfl) ?_
      refine lv_dup hx hb dX2_next_33 rfl ?_
      refine gTp (v := .int (T_8.1 2)) hx hb hts hiX2 hown hw (sUp_s S 4 T_8) 3 (by decide) (hts (.fieldLink RX2 32 "SecondHome$Tape" "from" "I") (by decide +kernel)) rfl dX2_next_34 ?_
      refine lv_iconst (v := 1) hx hb dX2_next_37 (by decide) ?_
      refine lv_iadd hx hb dX2_next_38 ?_
      refine pTp hx hb hts hiX2 hown hw (sUp_s S 4 T_8) 3 2 (by decide) rfl rfl rfl (hts (.fieldLink RX2 32 "SecondHome$Tape" "from" "I") (by decide +kernel)) dX2_next_39 (sUp_u S 4 T_8 _) (fun H locs hw => ?_)
      obtain ⟨T39, eT39, h⟩ := o_nm h
      rw [← eT39] at hw
      refine lv_goto (tgt := 8) hx hb dX2_next_42 (by decide) ?_
      exact IH8 T39 h _ _ _ hw (lv_sub hl [0] rfl)
-- X2_isWord
set_option maxRecDepth 100000 in
set_option maxHeartbeats 4000000 in
theorem kX2_isWord (l : Launch) (G : sGl) {S : sWo} {M : sOb} {T : sOb} {w : Nat} {q : Int32} (hT : S 4 = T) (hw13 : w < 13) (h : fX2_isWord T w = some q) : sCt l G yX2_isWord wsX2_isWord rmX2_isWord [.ref (sA G 4 0), .ref (sX G (1 + w))] S M (some (.int q)) S M := by
  refine cMk (cc := cX2_isWord) (maxL := 3) (ret := (some .boolean)) (by decide) rfl (Nat.le_of_ble_eq_true rfl) ?_
  intro p e s m args below meth c Q hQ hx hb hr hlk hml hown hts hw ls hl
  have hown : s.vm.findClass RX2 = some m.cls := hown
  have hl : lv_has ls 3 [(0, .ref (sA G 4 0)), (1, .ref (sX G (1 + w)))] := hl
  have hiX2 : ∀ w ∈ u_ws RX2 TX2 6, w ∈ wsX2_isWord := by decide +kernel
  unfold fX2_isWord at h
  refine lv_aload_n hx hb dX2_isWord_0 rfl (lv_at hl 0 rfl) ?_
  refine gTp (v := .int (T.1 1)) hx hb hts hiX2 hown hw hT 2 (by decide) (hts (.fieldLink RX2 29 "SecondHome$Tape" "token" "I") (by decide +kernel)) rfl dX2_isWord_1 ?_
  refine lv_iconst (v := 1) hx hb dX2_isWord_4 (by decide) ?_
  refine lv_icmp_ne (tgt := 24) hx hb dX2_isWord_5 (by decide) (fun c5 => ?_) (fun c5 => ?_)
  · replace h := o_f c5 h
    refine lv_iconst (v := 0) hx hb dX2_isWord_24 (by decide) ?_
    exact rZ hQ hx hb hr hlk hw (Or.inl rfl) dX2_isWord_25 (o_1 h) rfl rfl
  · replace h := o_t c5 h
    refine lv_aload_n hx hb dX2_isWord_8 rfl (lv_at hl 1 rfl) ?_
    obtain ⟨q9, eq9, h⟩ := o_bd h
    refine kV (As := []) (rest := []) (st' := [.int q9]) ⟨hx, hb, hml, hown, hts⟩ (kJ0_length_8abf5 l G hw13 eq9) (cwV 0 hts gX2_isWord_J0_length_8abf5 rfl rfl rfl qqJ0_length_8abf5 ⟨Nat.le_of_ble_eq_true rfl, Nat.le_of_ble_eq_true rfl⟩) hw (vk_recv (adK := fun i => sX G (1 + i)) (i := w) hw.2.2.2.2.2.2.2.2.1 hw13 hw.2.2.2.1) rfl hl.1 rfl (Nat.le_of_ble_eq_true rfl) dX2_isWord_9 ⟨Nat.zero_le _, Nat.zero_le _⟩ rfl (fun H locs hw => ?_)
    refine lv_aload_n hx hb dX2_isWord_12 rfl (lv_at hl 0 rfl) ?_
    refine gTp (v := .int (T.1 3)) hx hb hts hiX2 hown hw hT 4 (by decide) (hts (.fieldLink RX2 19 "SecondHome$Tape" "behind" "I") (by decide +kernel)) rfl dX2_isWord_13 ?_
    refine lv_aload_n hx hb dX2_isWord_16 rfl (lv_at hl 0 rfl) ?_
    refine gTp (v := .int (T.1 2)) hx hb hts hiX2 hown hw hT 3 (by decide) (hts (.fieldLink RX2 32 "SecondHome$Tape" "from" "I") (by decide +kernel)) rfl dX2_isWord_17 ?_
    refine lv_isub hx hb dX2_isWord_20 ?_
    refine lv_icmp_eq (tgt := 26) hx hb dX2_isWord_21 (by decide) (fun c21 => ?_) (fun c21 => ?_)
    · replace h := o_t c21 h
      refine lv_iconst (v := 0) hx hb dX2_isWord_26 (by decide) ?_
      refine lv_istore_n (lv' := [(2, .int (0 : Int32)), (0, .ref (sA G 4 0)), (1, .ref (sX G (1 + w)))]) hx hb dX2_isWord_27 rfl hl (by decide) rfl (fun ls hl => ?_)
      refine fx1_w (F := (bX2_isWord_28 T w)) (P := fun x2_28 => ∀ (H : Heap) (locs : List Loc) (ls : Array Slot), sHw G s S M H locs → lv_has ls 3 [(0, .ref (sA G 4 0)), (1, .ref (sX G (1 + w))), (2, .int x2_28)] → W p l e rmX2_isWord s m args below meth c H locs 0 0 Q (F0 m 28 ls [])) ?_ _ _ h _ _ _ hw (lv_sub hl [1, 2, 0] rfl)
      intro rc28 IH28 x2_28 h H locs ls hw hl
      unfold bX2_isWord_28 at h
      refine lv_iload_n hx hb dX2_isWord_28 rfl (lv_at hl 2 rfl) ?_
      refine lv_aload_n hx hb dX2_isWord_29 rfl (lv_at hl 1 rfl) ?_
      obtain ⟨q30, eq30, h⟩ := o_bd h
      refine kV (As := []) (rest := [.int x2_28]) (st' := [.int q30, .int x2_28]) ⟨hx, hb, hml, hown, hts⟩ (kJ0_length_8abf5 l G hw13 eq30) (cwV 0 hts gX2_isWord_J0_length_8abf5 rfl rfl rfl qqJ0_length_8abf5 ⟨Nat.le_of_ble_eq_true rfl, Nat.le_of_ble_eq_true rfl⟩) hw (vk_recv (adK := fun i => sX G (1 + i)) (i := w) hw.2.2.2.2.2.2.2.2.1 hw13 hw.2.2.2.1) rfl hl.1 rfl (Nat.le_of_ble_eq_true rfl) dX2_isWord_30 ⟨Nat.zero_le _, Nat.zero_le _⟩ rfl (fun H locs hw => ?_)
      refine lv_icmp_ge (tgt := 62) hx hb dX2_isWord_33 (by decide) (fun c33 => ?_) (fun c33 => ?_)
      · replace h := o_t c33 h
        refine lv_iconst (v := 1) hx hb dX2_isWord_62 (by decide) ?_
        exact rZ hQ hx hb hr hlk hw (Or.inr rfl) dX2_isWord_63 (o_1 h) rfl rfl
      · replace h := o_f c33 h
        refine lv_aload_n hx hb dX2_isWord_36 rfl (lv_at hl 1 rfl) ?_
        refine lv_iload_n hx hb dX2_isWord_37 rfl (lv_at hl 2 rfl) ?_
        obtain ⟨q38, eq38, h⟩ := o_bd h
        refine kV (As := [.int x2_28]) (rest := []) (st' := [.int q38]) ⟨hx, hb, hml, hown, hts⟩ (kJ0_charAt_5068e l G hw13 eq38) (cwV 1 hts gX2_isWord_J0_charAt_5068e rfl rfl rfl qqJ0_charAt_5068e ⟨Nat.le_of_ble_eq_true rfl, Nat.le_of_ble_eq_true rfl⟩) hw (vk_recv (adK := fun i => sX G (1 + i)) (i := w) hw.2.2.2.2.2.2.2.2.1 hw13 hw.2.2.2.1) rfl hl.1 rfl (Nat.le_of_ble_eq_true rfl) dX2_isWord_38 ⟨Nat.zero_le _, Nat.zero_le _⟩ rfl (fun H locs hw => ?_)
        refine lv_aload_n hx hb dX2_isWord_41 rfl (lv_at hl 0 rfl) ?_
        refine lv_aload_n hx hb dX2_isWord_42 rfl (lv_at hl 0 rfl) ?_
        refine gTp (v := .int (T.1 2)) hx hb hts hiX2 hown hw hT 3 (by decide) (hts (.fieldLink RX2 32 "SecondHome$Tape" "from" "I") (by decide +kernel)) rfl dX2_isWord_43 ?_
        refine lv_iload_n hx hb dX2_isWord_46 rfl (lv_at hl 2 rfl) ?_
        refine lv_iadd hx hb dX2_isWord_47 ?_
        obtain ⟨q48, eq48, h⟩ := o_bd h
        refine kV (As := [.int ((T.1 2) + x2_28)]) (rest := [.int q38]) (st' := [.int q48, .int q38]) ⟨hx, hb, hml, hown, hts⟩ (kX2_byteAt l G hT eq48) (cwV 1 hts gX2_isWord_X2_byteAt rfl rfl rfl qqX2_byteAt ⟨Nat.le_of_ble_eq_true rfl, Nat.le_of_ble_eq_true rfl⟩) hw (rvTp hw) rfl hl.1 rfl (Nat.le_of_ble_eq_true rfl) dX2_isWord_48 ⟨Nat.zero_le _, Nat.zero_le _⟩ rfl (fun H locs hw => ?_)
        refine lv_icmp_eq (tgt := 56) hx hb dX2_isWord_51 (by decide) (fun c51 => ?_) (fun c51 => ?_)
        · replace h := o_t c51 h
          obtain ⟨v56, ev56, h⟩ := o_nm h
          refine lv_iinc (v := v56) (lv' := [(2, .int v56), (0, .ref (sA G 4 0)), (1, .ref (sX G (1 + w)))]) hx hb dX2_isWord_56 hl (k := 2) rfl (by rw [ev56]; rfl) (by decide) rfl (fun ls hl => ?_)
          refine lv_goto (tgt := 28) hx hb dX2_isWord_59 (by decide) ?_
          exact IH28 v56 h _ _ _ hw (lv_sub hl [1, 2, 0] rfl)
        · replace h := o_f c51 h
          refine lv_iconst (v := 0) hx hb dX2_isWord_54 (by decide) ?_
          exact rZ hQ hx hb hr hlk hw (Or.inl rfl) dX2_isWord_55 (o_1 h) rfl rfl
    · replace h := o_f c21 h
      refine lv_iconst (v := 0) hx hb dX2_isWord_24 (by decide) ?_
      exact rZ hQ hx hb hr hlk hw (Or.inl rfl) dX2_isWord_25 (o_1 h) rfl rfl
-- X2_kindNamed
set_option maxRecDepth 100000 in
set_option maxHeartbeats 4000000 in
theorem kX2_kindNamed (l : Launch) (G : sGl) {S : sWo} {M : sOb} {T : sOb} {q : Int32} (hT : S 4 = T) (h : fX2_kindNamed T = some q) : sCt l G yX2_kindNamed wsX2_kindNamed rmX2_kindNamed [.ref (sA G 4 0)] S M (some (.int q)) S M := by
  refine cMk (cc := cX2_kindNamed) (maxL := 2) (ret := (some .int)) (by decide) rfl (Nat.le_of_ble_eq_true rfl) ?_
  intro p e s m args below meth c Q hQ hx hb hr hlk hml hown hts hw ls hl
  have hown : s.vm.findClass RX2 = some m.cls := hown
  have hl : lv_has ls 2 [(0, .ref (sA G 4 0))] := hl
  unfold fX2_kindNamed at h
  refine lv_iconst (v := 0) hx hb dX2_kindNamed_0 (by decide) ?_
  refine lv_istore_n (lv' := [(1, .int (0 : Int32)), (0, .ref (sA G 4 0))]) hx hb dX2_kindNamed_1 rfl hl (by decide) rfl (fun ls hl => ?_)
  refine fx1_w (F := (bX2_kindNamed_2 T)) (P := fun x1_2 => ∀ (H : Heap) (locs : List Loc) (ls : Array Slot), sHw G s S M H locs → lv_has ls 2 [(0, .ref (sA G 4 0)), (1, .int x1_2)] → W p l e rmX2_kindNamed s m args below meth c H locs 0 0 Q (F0 m 2 ls [])) ?_ _ _ h _ _ _ hw (lv_sub hl [1, 0] rfl)
  intro rc2 IH2 x1_2 h H locs ls hw hl
  unfold bX2_kindNamed_2 at h
  refine lv_iload_n hx hb dX2_kindNamed_2 rfl (lv_at hl 1 rfl) ?_
  refine lv_bipush (v := 6) hx hb dX2_kindNamed_3 (by decide) ?_
  refine lv_icmp_ge (tgt := 27) hx hb dX2_kindNamed_5 (by decide) (fun c5 => ?_) (fun c5 => ?_)
  · replace h := o_t c5 h
    refine lv_iconst (v := -1) hx hb dX2_kindNamed_27 (by decide) ?_
    exact rI hQ hx hb hr hlk hw dX2_kindNamed_28 (o_1 h) rfl rfl
  · replace h := o_f c5 h
    refine lv_aload_n hx hb dX2_kindNamed_8 rfl (lv_at hl 0 rfl) ?_
    refine lv_iload_n hx hb dX2_kindNamed_9 rfl (lv_at hl 1 rfl) ?_
    obtain ⟨q10, eq10, h⟩ := o_bd h
    refine kS (As := [.int x1_2]) (rest := [.ref (sA G 4 0)]) (st' := [.ref (sX G (1 + q10)), .ref (sA G 4 0)]) ⟨hx, hb, hml, hown, hts⟩ (kX0_name l G eq10) (va_cwS 1 hts gX2_kindNamed_X0_name rfl rfl rfl qqX0_name ⟨Nat.le_of_ble_eq_true rfl, Nat.le_of_ble_eq_true rfl⟩) hw rfl hl.1 rfl (Nat.le_of_ble_eq_true rfl) dX2_kindNamed_10 ⟨Nat.zero_le _, Nat.zero_le _⟩ rfl (fun H locs hw => ?_)
    obtain ⟨w10, h⟩ := o_in h
    obtain ⟨q13, eq13, h⟩ := o_bd h
    refine kV (As := [.ref (sX G (1 + q10))]) (rest := []) (st' := [.int q13]) ⟨hx, hb, hml, hown, hts⟩ (kX2_isWord l G hT (Nat.not_le.mp w10) eq13) (cwV 1 hts gX2_kindNamed_X2_isWord rfl rfl rfl qqX2_isWord ⟨Nat.le_of_ble_eq_true rfl, Nat.le_of_ble_eq_true rfl⟩) hw (rvTp hw) rfl hl.1 rfl (Nat.le_of_ble_eq_true rfl) dX2_kindNamed_13 ⟨Nat.zero_le _, Nat.zero_le _⟩ rfl (fun H locs hw => ?_)
    refine lv_if_eq (tgt := 21) hx hb dX2_kindNamed_16 (by decide) (fun c16 => ?_) (fun c16 => ?_)
    · replace h := o_t c16 h
      obtain ⟨v21, ev21, h⟩ := o_nm h
      refine lv_iinc (v := v21) (lv' := [(1, .int v21), (0, .ref (sA G 4 0))]) hx hb dX2_kindNamed_21 hl (k := 1) rfl (by rw [ev21]; rfl) (by decide) rfl (fun ls hl => ?_)
      refine lv_goto (tgt := 2) hx hb dX2_kindNamed_24 (by decide) ?_
      exact IH2 v21 h _ _ _ hw (lv_sub hl [1, 0] rfl)
    · replace h := o_f c16 h
      refine lv_iload_n hx hb dX2_kindNamed_19 rfl (lv_at hl 1 rfl) ?_
      exact rI hQ hx hb hr hlk hw dX2_kindNamed_20 (o_1 h) rfl rfl
-- X2_numberHere
set_option maxRecDepth 100000 in
set_option maxHeartbeats 4000000 in
theorem kX2_numberHere (l : Launch) (G : sGl) {S : sWo} {M : sOb} {T : sOb} {q : Int32} (hT : S 4 = T) (h : fX2_numberHere T = some q) : sCt l G yX2_numberHere wsX2_numberHere rmX2_numberHere [.ref (sA G 4 0)] S M (some (.int q)) S M := by
  refine cMk (cc := cX2_numberHere) (maxL := 3) (ret := (some .int)) (by decide) rfl (Nat.le_of_ble_eq_true rfl) ?_
  intro p e s m args below meth c Q hQ hx hb hr hlk hml hown hts hw ls hl
  have hown : s.vm.findClass RX2 = some m.cls := hown
  have hl : lv_has ls 3 [(0, .ref (sA G 4 0))] := hl
  have hiX2 : ∀ w ∈ u_ws RX2 TX2 6, w ∈ wsX2_numberHere := by decide +kernel
  unfold fX2_numberHere at h
  refine lv_iconst (v := 0) hx hb dX2_numberHere_0 (by decide) ?_
  refine lv_istore_n (lv' := [(1, .int (0 : Int32)), (0, .ref (sA G 4 0))]) hx hb dX2_numberHere_1 rfl hl (by decide) rfl (fun ls hl => ?_)
  refine lv_aload_n hx hb dX2_numberHere_2 rfl (lv_at hl 1 rfl) ?_
  refine gTp (v := .int (T.1 2)) hx hb hts hiX2 hown hw hT 3 (by decide) (hts (.fieldLink RX2 32 "SecondHome$Tape" "from" "I") (by decide +kernel)) rfl dX2_numberHere_3 ?_
  refine lv_topi (fun v6 ev6 => ?_)
  replace h := o_nx ev6 h
  refine lv_istore_n (lv' := [(2, .int v6), (1, .int (0 : Int32)), (0, .ref (sA G 4 0))]) hx hb dX2_numberHere_6 rfl hl (by decide) rfl (fun ls hl => ?_)
  refine fx2_w (F := (bX2_numberHere_7 T)) (P := fun x1_7 x2_7 => ∀ (H : Heap) (locs : List Loc) (ls : Array Slot), sHw G s S M H locs → lv_has ls 3 [(0, .ref (sA G 4 0)), (1, .int x1_7), (2, .int x2_7)] → W p l e rmX2_numberHere s m args below meth c H locs 0 0 Q (F0 m 7 ls [])) ?_ _ _ _ h _ _ _ hw (lv_sub hl [2, 1, 0] rfl)
  intro rc7 IH7 x1_7 x2_7 h H locs ls hw hl
  unfold bX2_numberHere_7 at h
  refine lv_iload_n hx hb dX2_numberHere_7 rfl (lv_at hl 2 rfl) ?_
  refine lv_aload_n hx hb dX2_numberHere_8 rfl (lv_at hl 0 rfl) ?_
  refine gTp (v := .int (T.1 3)) hx hb hts hiX2 hown hw hT 4 (by decide) (hts (.fieldLink RX2 19 "SecondHome$Tape" "behind" "I") (by decide +kernel)) rfl dX2_numberHere_9 ?_
  refine lv_icmp_ge (tgt := 42) hx hb dX2_numberHere_12 (by decide) (fun c12 => ?_) (fun c12 => ?_)
  · replace h := o_t c12 h
    refine lv_iload_n hx hb dX2_numberHere_42 rfl (lv_at hl 1 rfl) ?_
    exact rI hQ hx hb hr hlk hw dX2_numberHere_43 (o_1 h) rfl rfl
  · replace h := o_f c12 h
    refine lv_iload_n hx hb dX2_numberHere_15 rfl (lv_at hl 1 rfl) ?_
    refine lv_sipush (v := 9999) hx hb dX2_numberHere_16 (by decide) ?_
    refine lv_icmp_gt (tgt := 42) hx hb dX2_numberHere_19 (by decide) (fun c19 => ?_) (fun c19 => ?_)
    · replace h := o_t c19 h
      refine lv_iload_n hx hb dX2_numberHere_42 rfl (lv_at hl 1 rfl) ?_
      exact rI hQ hx hb hr hlk hw dX2_numberHere_43 (o_1 h) rfl rfl
    · replace h := o_f c19 h
      refine lv_bipush (v := 10) hx hb dX2_numberHere_22 (by decide) ?_
      refine lv_iload_n hx hb dX2_numberHere_24 rfl (lv_at hl 1 rfl) ?_
      refine lv_imul hx hb dX2_numberHere_25 ?_
      refine lv_aload_n hx hb dX2_numberHere_26 rfl (lv_at hl 0 rfl) ?_
      refine lv_iload_n hx hb dX2_numberHere_27 rfl (lv_at hl 2 rfl) ?_
      obtain ⟨q28, eq28, h⟩ := o_bd h
      refine kV (As := [.int x2_7]) (rest := [.int ((10 : Int32) * x1_7)]) (st' := [.int q28, .int ((10 : Int32) * x1_7)]) ⟨hx, hb, hml, hown, hts⟩ (kX2_byteAt l G hT eq28) (cwV 1 hts gX2_numberHere_X2_byteAt rfl rfl rfl qqX2_byteAt ⟨Nat.le_of_ble_eq_true rfl, Nat.le_of_ble_eq_true rfl⟩) hw (rvTp hw) rfl hl.1 rfl (Nat.le_of_ble_eq_true rfl) dX2_numberHere_28 ⟨Nat.zero_le _, Nat.zero_le _⟩ rfl (fun H locs hw => ?_)
      refine lv_iadd hx hb dX2_numberHere_31 ?_
      refine lv_bipush (v := 48) hx hb dX2_numberHere_32 (by decide) ?_
      refine lv_isub hx hb dX2_numberHere_34 ?_
      refine lv_topi (fun v35 ev35 => ?_)
      replace h := o_nx ev35 h
      refine lv_istore_n (lv' := [(1, .int v35), (0, .ref (sA G 4 0)), (2, .int x2_7)]) hx hb dX2_numberHere_35 rfl hl (by decide) rfl (fun ls hl => ?_)
      obtain ⟨v36, ev36, h⟩ := o_nm h
      refine lv_iinc (v := v36) (lv' := [(2, .int v36), (1, .int v35), (0, .ref (sA G 4 0))]) hx hb dX2_numberHere_36 hl (k := 2) rfl (by rw [ev36]; rfl) (by decide) rfl (fun ls hl => ?_)
      refine lv_goto (tgt := 7) hx hb dX2_numberHere_39 (by decide) ?_
      exact IH7 v35 v36 h _ _ _ hw (lv_sub hl [2, 1, 0] rfl)
-- X2_readNumberBehind
set_option maxRecDepth 100000 in
set_option maxHeartbeats 4000000 in
theorem kX2_readNumberBehind (l : Launch) (G : sGl) {S : sWo} {M : sOb} {T : sOb} {a1 : Int32} {a2 : Int32} {q : (Int32 × sOb)} (hT : S 4 = T) (h : fX2_readNumberBehind T a1 a2 = some q) : sCt l G yX2_readNumberBehind wsX2_readNumberBehind rmX2_readNumberBehind [.ref (sA G 4 0), .int a1, .int a2] S M (some (.int q.1)) (sUp S 4 q.2) M := by
  refine cMk (cc := cX2_readNumberBehind) (maxL := 3) (ret := (some .boolean)) (by decide) rfl (Nat.le_of_ble_eq_true rfl) ?_
  intro p e s m args below meth c Q hQ hx hb hr hlk hml hown hts hw ls hl
  have hown : s.vm.findClass RX2 = some m.cls := hown
  have hl : lv_has ls 3 [(0, .ref (sA G 4 0)), (1, .int a1), (2, .int a2)] := hl
  have hiX2 : ∀ w ∈ u_ws RX2 TX2 6, w ∈ wsX2_readNumberBehind := by decide +kernel
  rw [show S = sUp S 4 T from (by rw [← hT]; exact (sUp_i S 4).symm)] at hw
  unfold fX2_readNumberBehind at h
  refine lv_aload_n hx hb dX2_readNumberBehind_0 rfl (lv_at hl 0 rfl) ?_
  obtain ⟨q1, eq1, h⟩ := o_bd h
  refine kV (As := []) (rest := []) (st' := []) ⟨hx, hb, hml, hown, hts⟩ (kX2_next l G (sUp_s S 4 T) eq1) (cwV 0 hts gX2_readNumberBehind_X2_next rfl rfl rfl qqX2_next ⟨Nat.le_of_ble_eq_true rfl, Nat.le_of_ble_eq_true rfl⟩) hw (rvTp hw) rfl hl.1 rfl (Nat.le_of_ble_eq_true rfl) dX2_readNumberBehind_1 ⟨Nat.zero_le _, Nat.zero_le _⟩ rfl (fun H locs hw => ?_)
  rw [sUp_u] at hw
  refine lv_aload_n hx hb dX2_readNumberBehind_4 rfl (lv_at hl 0 rfl) ?_
  refine gTp (v := .int (q1.1 1)) hx hb hts hiX2 hown hw (sUp_s S 4 q1) 2 (by decide) (hts (.fieldLink RX2 29 "SecondHome$Tape" "token" "I") (by decide +kernel)) rfl dX2_readNumberBehind_5 ?_
  refine lv_iconst (v := 2) hx hb dX2_readNumberBehind_8 (by decide) ?_
  refine lv_icmp_eq (tgt := 14) hx hb dX2_readNumberBehind_9 (by decide) (fun c9 => ?_) (fun c9 => ?_)
  · replace h := o_t c9 h
    refine lv_aload_n hx hb dX2_readNumberBehind_14 rfl (lv_at hl 0 rfl) ?_
    refine lv_aload_n hx hb dX2_readNumberBehind_15 rfl (lv_at hl 0 rfl) ?_
    obtain ⟨q16, eq16, h⟩ := o_bd h
    refine kV (As := []) (rest := [.ref (sA G 4 0)]) (st' := [.int q16, .ref (sA G 4 0)]) ⟨hx, hb, hml, hown, hts⟩ (kX2_numberHere l G (sUp_s S 4 q1) eq16) (cwV 0 hts gX2_readNumberBehind_X2_numberHere rfl rfl rfl qqX2_numberHere ⟨Nat.le_of_ble_eq_true rfl, Nat.le_of_ble_eq_true rfl⟩) hw (rvTp hw) rfl hl.1 rfl (Nat.le_of_ble_eq_true rfl) dX2_readNumberBehind_16 ⟨Nat.zero_le _, Nat.zero_le _⟩ rfl (fun H locs hw => ?_)
    refine pTp hx hb hts hiX2 hown hw (sUp_s S 4 q1) 5 4 (by decide) rfl rfl rfl (hts (.fieldLink RX2 73 "SecondHome$Tape" "value" "I") (by decide +kernel)) dX2_readNumberBehind_19 (sUp_u S 4 q1 _) (fun H locs hw => ?_)
    obtain ⟨T19, eT19, h⟩ := o_nm h
    rw [← eT19] at hw
    refine lv_aload_n hx hb dX2_readNumberBehind_22 rfl (lv_at hl 0 rfl) ?_
    refine gTp (v := .int (T19.1 4)) hx hb hts hiX2 hown hw (sUp_s S 4 T19) 5 (by decide) (hts (.fieldLink RX2 73 "SecondHome$Tape" "value" "I") (by decide +kernel)) rfl dX2_readNumberBehind_23 ?_
    refine lv_iload_n hx hb dX2_readNumberBehind_26 rfl (lv_at hl 1 rfl) ?_
    refine lv_icmp_lt (tgt := 38) hx hb dX2_readNumberBehind_27 (by decide) (fun c27 => ?_) (fun c27 => ?_)
    · replace h := o_t c27 h
      refine lv_iconst (v := 0) hx hb dX2_readNumberBehind_38 (by decide) ?_
      exact rZ hQ hx hb hr hlk hw (Or.inl rfl) dX2_readNumberBehind_39 (o_2a h) (congrArg (sUp S 4) (o_2b h)) rfl
    · replace h := o_f c27 h
      refine lv_aload_n hx hb dX2_readNumberBehind_30 rfl (lv_at hl 0 rfl) ?_
      refine gTp (v := .int (T19.1 4)) hx hb hts hiX2 hown hw (sUp_s S 4 T19) 5 (by decide) (hts (.fieldLink RX2 73 "SecondHome$Tape" "value" "I") (by decide +kernel)) rfl dX2_readNumberBehind_31 ?_
      refine lv_iload_n hx hb dX2_readNumberBehind_34 rfl (lv_at hl 2 rfl) ?_
      refine lv_icmp_le (tgt := 40) hx hb dX2_readNumberBehind_35 (by decide) (fun c35 => ?_) (fun c35 => ?_)
      · replace h := o_t c35 h
        refine lv_aload_n hx hb dX2_readNumberBehind_40 rfl (lv_at hl 0 rfl) ?_
        obtain ⟨q41, eq41, h⟩ := o_bd h
        refine kV (As := []) (rest := []) (st' := []) ⟨hx, hb, hml, hown, hts⟩ (kX2_next l G (sUp_s S 4 T19) eq41) (cwV 0 hts gX2_readNumberBehind_X2_next rfl rfl rfl qqX2_next ⟨Nat.le_of_ble_eq_true rfl, Nat.le_of_ble_eq_true rfl⟩) hw (rvTp hw) rfl hl.1 rfl (Nat.le_of_ble_eq_true rfl) dX2_readNumberBehind_41 ⟨Nat.zero_le _, Nat.zero_le _⟩ rfl (fun H locs hw => ?_)
        rw [sUp_u] at hw
        refine lv_iconst (v := 1) hx hb dX2_readNumberBehind_44 (by decide) ?_
        exact rZ hQ hx hb hr hlk hw (Or.inr rfl) dX2_readNumberBehind_45 (o_2a h) (congrArg (sUp S 4) (o_2b h)) rfl
      · replace h := o_f c35 h
        refine lv_iconst (v := 0) hx hb dX2_readNumberBehind_38 (by decide) ?_
        exact rZ hQ hx hb hr hlk hw (Or.inl rfl) dX2_readNumberBehind_39 (o_2a h) (congrArg (sUp S 4) (o_2b h)) rfl
  · replace h := o_f c9 h
    refine lv_iconst (v := 0) hx hb dX2_readNumberBehind_12 (by decide) ?_
    exact rZ hQ hx hb hr hlk hw (Or.inl rfl) dX2_readNumberBehind_13 (o_2a h) (congrArg (sUp S 4) (o_2b h)) rfl
-- X2_readRunner
set_option maxRecDepth 100000 in
set_option maxHeartbeats 4000000 in
theorem kX2_readRunner (l : Launch) (G : sGl) {S : sWo} {M : sOb} {a2 : Int32} {q : (Int32 × sWo)}  (h : fX2_readRunner S a2 = some q) : sCt l G yX2_readRunner wsX2_readRunner rmX2_readRunner [.ref (sA G 4 0), .ref (sA G 2 0), .int a2] S M (some (.int q.1)) q.2 M := by
  refine cMk (cc := cX2_readRunner) (maxL := 7) (ret := (some .boolean)) (by decide) rfl (Nat.le_of_ble_eq_true rfl) ?_
  intro p e s m args below meth c Q hQ hx hb hr hlk hml hown hts hw ls hl
  have hown : s.vm.findClass RX2 = some m.cls := hown
  have hl : lv_has ls 7 [(0, .ref (sA G 4 0)), (1, .ref (sA G 2 0)), (2, .int a2)] := hl
  have hiX2 : ∀ w ∈ u_ws RX2 TX2 6, w ∈ wsX2_readRunner := by decide +kernel
  have hiX3 : ∀ w ∈ u_ws RX3 TX3 15, w ∈ wsX2_readRunner := by decide +kernel
  unfold fX2_readRunner at h
  refine lv_aload_n hx hb dX2_readRunner_0 rfl (lv_at hl 0 rfl) ?_
  obtain ⟨q1, eq1, h⟩ := o_bd h
  refine kV (As := []) (rest := []) (st' := []) ⟨hx, hb, hml, hown, hts⟩ (kX2_next l G rfl eq1) (cwV 0 hts gX2_readRunner_X2_next rfl rfl rfl qqX2_next ⟨Nat.le_of_ble_eq_true rfl, Nat.le_of_ble_eq_true rfl⟩) hw (rvTp hw) rfl hl.1 rfl (Nat.le_of_ble_eq_true rfl) dX2_readRunner_1 ⟨Nat.zero_le _, Nat.zero_le _⟩ rfl (fun H locs hw => ?_)
  obtain ⟨S1, eS1, h⟩ := o_nm h
  rw [← eS1] at hw
  refine lv_aload_n hx hb dX2_readRunner_4 rfl (lv_at hl 0 rfl) ?_
  refine va_ldcS hx hb hown (hw.2.2.2.2.2.2.2.2.2 9 (by decide)) dX2_readRunner_5 ?_
  obtain ⟨q7, eq7, h⟩ := o_bd h
  refine kV (As := [.ref (sX G (1 + 9))]) (rest := []) (st' := [.int q7]) ⟨hx, hb, hml, hown, hts⟩ (kX2_isWord l G rfl (by decide) eq7) (cwV 1 hts gX2_readRunner_X2_isWord rfl rfl rfl qqX2_isWord ⟨Nat.le_of_ble_eq_true rfl, Nat.le_of_ble_eq_true rfl⟩) hw (rvTp hw) rfl hl.1 rfl (Nat.le_of_ble_eq_true rfl) dX2_readRunner_7 ⟨Nat.zero_le _, Nat.zero_le _⟩ rfl (fun H locs hw => ?_)
  refine lv_if_eq (tgt := 23) hx hb dX2_readRunner_10 (by decide) (fun c10 => ?_) (fun c10 => ?_)
  · replace h := o_t c10 h
    refine lv_iconst (v := 0) hx hb dX2_readRunner_23 (by decide) ?_
    exact rZ hQ hx hb hr hlk hw (Or.inl rfl) dX2_readRunner_24 (o_2a h) (o_2b h) rfl
  · replace h := o_f c10 h
    refine lv_aload_n hx hb dX2_readRunner_13 rfl (lv_at hl 0 rfl) ?_
    refine lv_iconst (v := 1) hx hb dX2_readRunner_14 (by decide) ?_
    refine lv_bipush (v := 12) hx hb dX2_readRunner_15 (by decide) ?_
    obtain ⟨q17, eq17, h⟩ := o_bd h
    refine kV (As := [.int (1 : Int32), .int (12 : Int32)]) (rest := []) (st' := [.int q17.1]) ⟨hx, hb, hml, hown, hts⟩ (kX2_readNumberBehind l G rfl eq17) (cwV 2 hts gX2_readRunner_X2_readNumberBehind rfl rfl rfl qqX2_readNumberBehind ⟨Nat.le_of_ble_eq_true rfl, Nat.le_of_ble_eq_true rfl⟩) hw (rvTp hw) rfl hl.1 rfl (Nat.le_of_ble_eq_true rfl) dX2_readRunner_17 ⟨Nat.zero_le _, Nat.zero_le _⟩ rfl (fun H locs hw => ?_)
    obtain ⟨S17, eS17, h⟩ := o_nm h
    rw [← eS17] at hw
    refine lv_if_ne (tgt := 25) hx hb dX2_readRunner_20 (by decide) (fun c20 => ?_) (fun c20 => ?_)
    · replace h := o_f c20 h
      refine lv_aload_n hx hb dX2_readRunner_25 rfl (lv_at hl 0 rfl) ?_
      refine gTp (v := .int ((S17 4).1 4)) hx hb hts hiX2 hown hw rfl 5 (by decide) (hts (.fieldLink RX2 73 "SecondHome$Tape" "value" "I") (by decide +kernel)) rfl dX2_readRunner_26 ?_
      refine lv_topi (fun v29 ev29 => ?_)
      replace h := o_nx ev29 h
      refine lv_istore_n (lv' := [(3, .int v29), (0, .ref (sA G 4 0)), (1, .ref (sA G 2 0)), (2, .int a2)]) hx hb dX2_readRunner_29 rfl hl (by decide) rfl (fun ls hl => ?_)
      refine lv_aload_n hx hb dX2_readRunner_30 rfl (lv_at hl 1 rfl) ?_
      refine lv_bipush (v := 100) hx hb dX2_readRunner_31 (by decide) ?_
      refine pTp hx hb hts hiX2 hown hw rfl 5 4 (by decide) rfl rfl rfl (hts (.fieldLink RX2 73 "SecondHome$Tape" "value" "I") (by decide +kernel)) dX2_readRunner_33 rfl (fun H locs hw => ?_)
      obtain ⟨S33, eS33, h⟩ := o_nm h
      rw [← eS33] at hw
      refine lv_aload_n hx hb dX2_readRunner_36 rfl (lv_at hl 1 rfl) ?_
      refine va_ldcS hx hb hown (hw.2.2.2.2.2.2.2.2.2 10 (by decide)) dX2_readRunner_37 ?_
      obtain ⟨q39, eq39, h⟩ := o_bd h
      refine kV (As := [.ref (sX G (1 + 10))]) (rest := []) (st' := [.int q39]) ⟨hx, hb, hml, hown, hts⟩ (kX2_isWord l G rfl (by decide) eq39) (cwV 1 hts gX2_readRunner_X2_isWord rfl rfl rfl qqX2_isWord ⟨Nat.le_of_ble_eq_true rfl, Nat.le_of_ble_eq_true rfl⟩) hw (rvTp hw) rfl hl.1 rfl (Nat.le_of_ble_eq_true rfl) dX2_readRunner_39 ⟨Nat.zero_le _, Nat.zero_le _⟩ rfl (fun H locs hw => ?_)
      obtain ⟨k58, ek58, h⟩ := o_nm h
      have J58 : ∀ (S_58 : sWo) (H : Heap) (locs : List Loc) (ls : Array Slot), sHw G s S_58 M H locs → lv_has ls 7 [(0, .ref (sA G 4 0)), (1, .ref (sA G 2 0)), (2, .int a2), (3, .int v29)] → k58 S_58 = some q → W p l e rmX2_readRunner s m args below meth c H locs 0 0 Q (F0 m 58 ls []) := by
        intro S_58 H locs ls hw hl h
        replace h := o_j1 ek58 h
        refine lv_aload_n hx hb dX2_readRunner_58 rfl (lv_at hl 0 rfl) ?_
        refine gTp (v := .int ((S_58 4).1 4)) hx hb hts hiX2 hown hw rfl 5 (by decide) (hts (.fieldLink RX2 73 "SecondHome$Tape" "value" "I") (by decide +kernel)) rfl dX2_readRunner_59 ?_
        refine lv_topi (fun v62 ev62 => ?_)
        replace h := o_nx ev62 h
        refine lv_istore (lv' := [(4, .int v62), (0, .ref (sA G 4 0)), (1, .ref (sA G 2 0)), (2, .int a2), (3, .int v29)]) hx hb dX2_readRunner_62 hl (by decide) rfl (fun ls hl => ?_)
        refine lv_aload_n hx hb dX2_readRunner_64 rfl (lv_at hl 1 rfl) ?_
        refine lv_iconst (v := -1) hx hb dX2_readRunner_65 (by decide) ?_
        refine pTp hx hb hts hiX2 hown hw rfl 5 4 (by decide) rfl rfl rfl (hts (.fieldLink RX2 73 "SecondHome$Tape" "value" "I") (by decide +kernel)) dX2_readRunner_66 rfl (fun H locs hw => ?_)
        obtain ⟨S66, eS66, h⟩ := o_nm h
        rw [← eS66] at hw
        refine lv_aload_n hx hb dX2_readRunner_69 rfl (lv_at hl 1 rfl) ?_
        refine va_ldcS hx hb hown (hw.2.2.2.2.2.2.2.2.2 11 (by decide)) dX2_readRunner_70 ?_
        obtain ⟨q72, eq72, h⟩ := o_bd h
        refine kV (As := [.ref (sX G (1 + 11))]) (rest := []) (st' := [.int q72]) ⟨hx, hb, hml, hown, hts⟩ (kX2_isWord l G rfl (by decide) eq72) (cwV 1 hts gX2_readRunner_X2_isWord rfl rfl rfl qqX2_isWord ⟨Nat.le_of_ble_eq_true rfl, Nat.le_of_ble_eq_true rfl⟩) hw (rvTp hw) rfl hl.1 rfl (Nat.le_of_ble_eq_true rfl) dX2_readRunner_72 ⟨Nat.zero_le _, Nat.zero_le _⟩ rfl (fun H locs hw => ?_)
        obtain ⟨k94, ek94, h⟩ := o_nm h
        have J94 : ∀ (S_94 : sWo) (H : Heap) (locs : List Loc) (ls : Array Slot), sHw G s S_94 M H locs → lv_has ls 7 [(0, .ref (sA G 4 0)), (1, .ref (sA G 2 0)), (2, .int a2), (3, .int v29), (4, .int v62)] → k94 S_94 = some q → W p l e rmX2_readRunner s m args below meth c H locs 0 0 Q (F0 m 94 ls []) := by
          intro S_94 H locs ls hw hl h
          replace h := o_j1 ek94 h
          refine lv_aload_n hx hb dX2_readRunner_94 rfl (lv_at hl 0 rfl) ?_
          refine gTp (v := .int ((S_94 4).1 4)) hx hb hts hiX2 hown hw rfl 5 (by decide) (hts (.fieldLink RX2 73 "SecondHome$Tape" "value" "I") (by decide +kernel)) rfl dX2_readRunner_95 ?_
          refine lv_topi (fun v98 ev98 => ?_)
          replace h := o_nx ev98 h
          refine lv_istore (lv' := [(5, .int v98), (0, .ref (sA G 4 0)), (1, .ref (sA G 2 0)), (2, .int a2), (3, .int v29), (4, .int v62)]) hx hb dX2_readRunner_98 hl (by decide) rfl (fun ls hl => ?_)
          refine lv_aload_n hx hb dX2_readRunner_100 rfl (lv_at hl 1 rfl) ?_
          refine lv_iconst (v := 0) hx hb dX2_readRunner_101 (by decide) ?_
          refine pTp hx hb hts hiX2 hown hw rfl 5 4 (by decide) rfl rfl rfl (hts (.fieldLink RX2 73 "SecondHome$Tape" "value" "I") (by decide +kernel)) dX2_readRunner_102 rfl (fun H locs hw => ?_)
          obtain ⟨S102, eS102, h⟩ := o_nm h
          rw [← eS102] at hw
          refine lv_aload_n hx hb dX2_readRunner_105 rfl (lv_at hl 1 rfl) ?_
          refine va_ldcS hx hb hown (hw.2.2.2.2.2.2.2.2.2 12 (by decide)) dX2_readRunner_106 ?_
          obtain ⟨q108, eq108, h⟩ := o_bd h
          refine kV (As := [.ref (sX G (1 + 12))]) (rest := []) (st' := [.int q108]) ⟨hx, hb, hml, hown, hts⟩ (kX2_isWord l G rfl (by decide) eq108) (cwV 1 hts gX2_readRunner_X2_isWord rfl rfl rfl qqX2_isWord ⟨Nat.le_of_ble_eq_true rfl, Nat.le_of_ble_eq_true rfl⟩) hw (rvTp hw) rfl hl.1 rfl (Nat.le_of_ble_eq_true rfl) dX2_readRunner_108 ⟨Nat.zero_le _, Nat.zero_le _⟩ rfl (fun H locs hw => ?_)
          obtain ⟨k130, ek130, h⟩ := o_nm h
          have J130 : ∀ (S_130 : sWo) (H : Heap) (locs : List Loc) (ls : Array Slot), sHw G s S_130 M H locs → lv_has ls 7 [(0, .ref (sA G 4 0)), (1, .ref (sA G 2 0)), (2, .int a2), (3, .int v29), (4, .int v62), (5, .int v98)] → k130 S_130 = some q → W p l e rmX2_readRunner s m args below meth c H locs 0 0 Q (F0 m 130 ls []) := by
            intro S_130 H locs ls hw hl h
            replace h := o_j1 ek130 h
            refine lv_aload_n hx hb dX2_readRunner_130 rfl (lv_at hl 1 rfl) ?_
            refine lv_iload_n hx hb dX2_readRunner_131 rfl (lv_at hl 2 rfl) ?_
            refine lv_iload_n hx hb dX2_readRunner_132 rfl (lv_at hl 3 rfl) ?_
            refine lv_iload hx hb dX2_readRunner_133 (lv_at hl 4 rfl) ?_
            obtain ⟨q135, eq135, h⟩ := o_bd h
            refine kV (As := [.int a2, .int v29, .int v62]) (rest := []) (st' := [.int q135.1]) ⟨hx, hb, hml, hown, hts⟩ (kX3_add l G (Or.inr (Or.inl rfl)) rfl eq135) (cwV 3 hts gX2_readRunner_X3_add rfl rfl rfl qqX3_add ⟨Nat.le_of_ble_eq_true rfl, Nat.le_of_ble_eq_true rfl⟩) hw (rvTk hw (Or.inr (Or.inl rfl))) rfl hl.1 rfl (Nat.le_of_ble_eq_true rfl) dX2_readRunner_135 ⟨Nat.zero_le _, Nat.zero_le _⟩ rfl (fun H locs hw => ?_)
            obtain ⟨S135, eS135, h⟩ := o_nm h
            rw [← eS135] at hw
            refine lv_istore (lv' := [(6, .int q135.1), (0, .ref (sA G 4 0)), (1, .ref (sA G 2 0)), (2, .int a2), (3, .int v29), (4, .int v62), (5, .int v98)]) hx hb dX2_readRunner_138 hl (by decide) rfl (fun ls hl => ?_)
            refine lv_aload_n hx hb dX2_readRunner_140 rfl (lv_at hl 2 rfl) ?_
            refine lv_iload hx hb dX2_readRunner_141 (lv_at hl 0 rfl) ?_
            obtain ⟨q143, eq143, h⟩ := o_bd h
            refine kV (As := [.int q135.1]) (rest := []) (st' := [.int q143]) ⟨hx, hb, hml, hown, hts⟩ (kX3_has l G (Or.inr (Or.inl rfl)) rfl eq143) (cwV 1 hts gX2_readRunner_X3_has rfl rfl rfl qqX3_has ⟨Nat.le_of_ble_eq_true rfl, Nat.le_of_ble_eq_true rfl⟩) hw (rvTk hw (Or.inr (Or.inl rfl))) rfl hl.1 rfl (Nat.le_of_ble_eq_true rfl) dX2_readRunner_143 ⟨Nat.zero_le _, Nat.zero_le _⟩ rfl (fun H locs hw => ?_)
            refine lv_if_eq (tgt := 180) hx hb dX2_readRunner_146 (by decide) (fun c146 => ?_) (fun c146 => ?_)
            · replace h := o_t c146 h
              refine lv_iconst (v := 1) hx hb dX2_readRunner_180 (by decide) ?_
              exact rZ hQ hx hb hr hlk hw (Or.inr rfl) dX2_readRunner_181 (o_2a h) (o_2b h) rfl
            · replace h := o_f c146 h
              refine lv_aload_n hx hb dX2_readRunner_149 rfl (lv_at hl 2 rfl) ?_
              refine gTk (v := .ref (sA G 2 4)) hx hb hts hiX3 hown hw (Or.inr (Or.inl rfl)) rfl 9 (by decide) (hts (.fieldLink RX2 98 "SecondHome$Track" "friends" "[I") (by decide +kernel)) rfl dX2_readRunner_150 ?_
              refine lv_iload hx hb dX2_readRunner_153 (lv_at hl 0 rfl) ?_
              refine lv_iload hx hb dX2_readRunner_155 (lv_at hl 6 rfl) ?_
              obtain ⟨b157, h⟩ := o_in h
              refine stTk hx hb hw (Or.inr (Or.inl rfl)) rfl 3 (by decide) b157 dX2_readRunner_157 rfl (fun H locs hw => ?_)
              obtain ⟨S157, eS157, h⟩ := o_nm h
              rw [← eS157] at hw
              refine lv_aload_n hx hb dX2_readRunner_158 rfl (lv_at hl 2 rfl) ?_
              refine gTk (v := .ref (sA G 2 5)) hx hb hts hiX3 hown hw (Or.inr (Or.inl rfl)) rfl 10 (by decide) (hts (.fieldLink RX2 102 "SecondHome$Track" "starts" "[I") (by decide +kernel)) rfl dX2_readRunner_159 ?_
              refine lv_iload hx hb dX2_readRunner_162 (lv_at hl 0 rfl) ?_
              refine lv_aload_n hx hb dX2_readRunner_164 rfl (lv_at hl 1 rfl) ?_
              refine gTp (v := .int ((S157 4).1 4)) hx hb hts hiX2 hown hw rfl 5 (by decide) (hts (.fieldLink RX2 73 "SecondHome$Tape" "value" "I") (by decide +kernel)) rfl dX2_readRunner_165 ?_
              refine stTk hx hb hw (Or.inr (Or.inl rfl)) rfl 4 (by decide) b157 dX2_readRunner_168 rfl (fun H locs hw => ?_)
              obtain ⟨S168, eS168, h⟩ := o_nm h
              rw [← eS168] at hw
              refine lv_aload_n hx hb dX2_readRunner_169 rfl (lv_at hl 2 rfl) ?_
              refine gTk (v := .ref (sA G 2 6)) hx hb hts hiX3 hown hw (Or.inr (Or.inl rfl)) rfl 11 (by decide) (hts (.fieldLink RX2 105 "SecondHome$Track" "yards" "[I") (by decide +kernel)) rfl dX2_readRunner_170 ?_
              refine lv_iload hx hb dX2_readRunner_173 (lv_at hl 0 rfl) ?_
              refine lv_aload_n hx hb dX2_readRunner_175 rfl (lv_at hl 1 rfl) ?_
              refine gTp (v := .int ((S168 4).1 4)) hx hb hts hiX2 hown hw rfl 5 (by decide) (hts (.fieldLink RX2 73 "SecondHome$Tape" "value" "I") (by decide +kernel)) rfl dX2_readRunner_176 ?_
              refine stTk hx hb hw (Or.inr (Or.inl rfl)) rfl 5 (by decide) b157 dX2_readRunner_179 rfl (fun H locs hw => ?_)
              obtain ⟨S179, eS179, h⟩ := o_nm h
              rw [← eS179] at hw
              refine lv_iconst (v := 1) hx hb dX2_readRunner_180 (by decide) ?_
              exact rZ hQ hx hb hr hlk hw (Or.inr rfl) dX2_readRunner_181 (o_2a h) (o_2b h) rfl
          refine lv_if_eq (tgt := 130) hx hb dX2_readRunner_111 (by decide) (fun c111 => ?_) (fun c111 => ?_)
          · replace h := o_t c111 h
            exact J130 S102 _ _ _ hw (lv_sub hl [1, 2, 3, 4, 5, 0] rfl) h
          · replace h := o_f c111 h
            refine lv_aload_n hx hb dX2_readRunner_114 rfl (lv_at hl 1 rfl) ?_
            refine lv_iconst (v := 0) hx hb dX2_readRunner_115 (by decide) ?_
            refine lv_aload_n hx hb dX2_readRunner_116 rfl (lv_at hl 2 rfl) ?_
            refine gTk (v := .int ((S102 2).1 0)) hx hb hts hiX3 hown hw (Or.inr (Or.inl rfl)) rfl 0 (by decide) (hts (.fieldLink RX2 76 "SecondHome$Track" "length" "I") (by decide +kernel)) rfl dX2_readRunner_117 ?_
            refine lv_iconst (v := 1) hx hb dX2_readRunner_120 (by decide) ?_
            refine lv_isub hx hb dX2_readRunner_121 ?_
            obtain ⟨q122, eq122, h⟩ := o_bd h
            refine kV (As := [.int (0 : Int32), .int (((S102 2).1 0) - (1 : Int32))]) (rest := []) (st' := [.int q122.1]) ⟨hx, hb, hml, hown, hts⟩ (kX2_readNumberBehind l G rfl eq122) (cwV 2 hts gX2_readRunner_X2_readNumberBehind rfl rfl rfl qqX2_readNumberBehind ⟨Nat.le_of_ble_eq_true rfl, Nat.le_of_ble_eq_true rfl⟩) hw (rvTp hw) rfl hl.1 rfl (Nat.le_of_ble_eq_true rfl) dX2_readRunner_122 ⟨Nat.zero_le _, Nat.zero_le _⟩ rfl (fun H locs hw => ?_)
            obtain ⟨S122, eS122, h⟩ := o_nm h
            rw [← eS122] at hw
            refine lv_if_ne (tgt := 130) hx hb dX2_readRunner_125 (by decide) (fun c125 => ?_) (fun c125 => ?_)
            · replace h := o_f c125 h
              exact J130 S122 _ _ _ hw (lv_sub hl [1, 2, 3, 4, 5, 0] rfl) h
            · replace h := o_t c125 h
              refine lv_iconst (v := 0) hx hb dX2_readRunner_128 (by decide) ?_
              exact rZ hQ hx hb hr hlk hw (Or.inl rfl) dX2_readRunner_129 (o_2a h) (o_2b h) rfl
        refine lv_if_eq (tgt := 94) hx hb dX2_readRunner_75 (by decide) (fun c75 => ?_) (fun c75 => ?_)
        · replace h := o_t c75 h
          exact J94 S66 _ _ _ hw (lv_sub hl [1, 2, 3, 4, 0] rfl) h
        · replace h := o_f c75 h
          refine lv_aload_n hx hb dX2_readRunner_78 rfl (lv_at hl 1 rfl) ?_
          refine lv_iconst (v := 0) hx hb dX2_readRunner_79 (by decide) ?_
          refine lv_aload_n hx hb dX2_readRunner_80 rfl (lv_at hl 2 rfl) ?_
          refine gTk (v := .int ((S66 2).1 4)) hx hb hts hiX3 hown hw (Or.inr (Or.inl rfl)) rfl 4 (by decide) (hts (.fieldLink RX2 41 "SecondHome$Track" "count" "I") (by decide +kernel)) rfl dX2_readRunner_81 ?_
          refine lv_iconst (v := 1) hx hb dX2_readRunner_84 (by decide) ?_
          refine lv_isub hx hb dX2_readRunner_85 ?_
          obtain ⟨q86, eq86, h⟩ := o_bd h
          refine kV (As := [.int (0 : Int32), .int (((S66 2).1 4) - (1 : Int32))]) (rest := []) (st' := [.int q86.1]) ⟨hx, hb, hml, hown, hts⟩ (kX2_readNumberBehind l G rfl eq86) (cwV 2 hts gX2_readRunner_X2_readNumberBehind rfl rfl rfl qqX2_readNumberBehind ⟨Nat.le_of_ble_eq_true rfl, Nat.le_of_ble_eq_true rfl⟩) hw (rvTp hw) rfl hl.1 rfl (Nat.le_of_ble_eq_true rfl) dX2_readRunner_86 ⟨Nat.zero_le _, Nat.zero_le _⟩ rfl (fun H locs hw => ?_)
          obtain ⟨S86, eS86, h⟩ := o_nm h
          rw [← eS86] at hw
          refine lv_if_ne (tgt := 94) hx hb dX2_readRunner_89 (by decide) (fun c89 => ?_) (fun c89 => ?_)
          · replace h := o_f c89 h
            exact J94 S86 _ _ _ hw (lv_sub hl [1, 2, 3, 4, 0] rfl) h
          · replace h := o_t c89 h
            refine lv_iconst (v := 0) hx hb dX2_readRunner_92 (by decide) ?_
            exact rZ hQ hx hb hr hlk hw (Or.inl rfl) dX2_readRunner_93 (o_2a h) (o_2b h) rfl
      refine lv_if_eq (tgt := 58) hx hb dX2_readRunner_42 (by decide) (fun c42 => ?_) (fun c42 => ?_)
      · replace h := o_t c42 h
        exact J58 S33 _ _ _ hw (lv_sub hl [1, 2, 3, 0] rfl) h
      · replace h := o_f c42 h
        refine lv_aload_n hx hb dX2_readRunner_45 rfl (lv_at hl 1 rfl) ?_
        refine lv_iconst (v := 0) hx hb dX2_readRunner_46 (by decide) ?_
        refine lv_sipush (v := 999) hx hb dX2_readRunner_47 (by decide) ?_
        obtain ⟨q50, eq50, h⟩ := o_bd h
        refine kV (As := [.int (0 : Int32), .int (999 : Int32)]) (rest := []) (st' := [.int q50.1]) ⟨hx, hb, hml, hown, hts⟩ (kX2_readNumberBehind l G rfl eq50) (cwV 2 hts gX2_readRunner_X2_readNumberBehind rfl rfl rfl qqX2_readNumberBehind ⟨Nat.le_of_ble_eq_true rfl, Nat.le_of_ble_eq_true rfl⟩) hw (rvTp hw) rfl hl.1 rfl (Nat.le_of_ble_eq_true rfl) dX2_readRunner_50 ⟨Nat.zero_le _, Nat.zero_le _⟩ rfl (fun H locs hw => ?_)
        obtain ⟨S50, eS50, h⟩ := o_nm h
        rw [← eS50] at hw
        refine lv_if_ne (tgt := 58) hx hb dX2_readRunner_53 (by decide) (fun c53 => ?_) (fun c53 => ?_)
        · replace h := o_f c53 h
          exact J58 S50 _ _ _ hw (lv_sub hl [1, 2, 3, 0] rfl) h
        · replace h := o_t c53 h
          refine lv_iconst (v := 0) hx hb dX2_readRunner_56 (by decide) ?_
          exact rZ hQ hx hb hr hlk hw (Or.inl rfl) dX2_readRunner_57 (o_2a h) (o_2b h) rfl
    · replace h := o_t c20 h
      refine lv_iconst (v := 0) hx hb dX2_readRunner_23 (by decide) ?_
      exact rZ hQ hx hb hr hlk hw (Or.inl rfl) dX2_readRunner_24 (o_2a h) (o_2b h) rfl
-- X2_readLength
set_option maxRecDepth 100000 in
set_option maxHeartbeats 4000000 in
theorem kX2_readLength (l : Launch) (G : sGl) {S : sWo} {M : sOb}  {q : (Int32 × sWo)}  (h : fX2_readLength S = some q) : sCt l G yX2_readLength wsX2_readLength rmX2_readLength [.ref (sA G 4 0), .ref (sA G 2 0)] S M (some (.int q.1)) q.2 M := by
  refine cMk (cc := cX2_readLength) (maxL := 2) (ret := (some .boolean)) (by decide) rfl (Nat.le_of_ble_eq_true rfl) ?_
  intro p e s m args below meth c Q hQ hx hb hr hlk hml hown hts hw ls hl
  have hown : s.vm.findClass RX2 = some m.cls := hown
  have hl : lv_has ls 2 [(0, .ref (sA G 4 0)), (1, .ref (sA G 2 0))] := hl
  have hiX2 : ∀ w ∈ u_ws RX2 TX2 6, w ∈ wsX2_readLength := by decide +kernel
  have hiX3 : ∀ w ∈ u_ws RX3 TX3 15, w ∈ wsX2_readLength := by decide +kernel
  unfold fX2_readLength at h
  refine lv_aload_n hx hb dX2_readLength_0 rfl (lv_at hl 0 rfl) ?_
  refine lv_bipush (v := 10) hx hb dX2_readLength_1 (by decide) ?_
  refine lv_sipush (v := 9999) hx hb dX2_readLength_3 (by decide) ?_
  obtain ⟨q6, eq6, h⟩ := o_bd h
  refine kV (As := [.int (10 : Int32), .int (9999 : Int32)]) (rest := []) (st' := [.int q6.1]) ⟨hx, hb, hml, hown, hts⟩ (kX2_readNumberBehind l G rfl eq6) (cwV 2 hts gX2_readLength_X2_readNumberBehind rfl rfl rfl qqX2_readNumberBehind ⟨Nat.le_of_ble_eq_true rfl, Nat.le_of_ble_eq_true rfl⟩) hw (rvTp hw) rfl hl.1 rfl (Nat.le_of_ble_eq_true rfl) dX2_readLength_6 ⟨Nat.zero_le _, Nat.zero_le _⟩ rfl (fun H locs hw => ?_)
  obtain ⟨S6, eS6, h⟩ := o_nm h
  rw [← eS6] at hw
  refine lv_if_ne (tgt := 14) hx hb dX2_readLength_9 (by decide) (fun c9 => ?_) (fun c9 => ?_)
  · replace h := o_f c9 h
    refine lv_aload_n hx hb dX2_readLength_14 rfl (lv_at hl 1 rfl) ?_
    refine lv_aload_n hx hb dX2_readLength_15 rfl (lv_at hl 0 rfl) ?_
    refine gTp (v := .int ((S6 4).1 4)) hx hb hts hiX2 hown hw rfl 5 (by decide) (hts (.fieldLink RX2 73 "SecondHome$Tape" "value" "I") (by decide +kernel)) rfl dX2_readLength_16 ?_
    refine pTk hx hb hts hiX3 hown hw (Or.inr (Or.inl rfl)) rfl 0 (by decide) (hts (.fieldLink RX2 76 "SecondHome$Track" "length" "I") (by decide +kernel)) dX2_readLength_19 rfl (fun H locs hw => ?_)
    obtain ⟨S19, eS19, h⟩ := o_nm h
    rw [← eS19] at hw
    refine lv_iconst (v := 1) hx hb dX2_readLength_22 (by decide) ?_
    exact rZ hQ hx hb hr hlk hw (Or.inr rfl) dX2_readLength_23 (o_2a h) (o_2b h) rfl
  · replace h := o_t c9 h
    refine lv_iconst (v := 0) hx hb dX2_readLength_12 (by decide) ?_
    exact rZ hQ hx hb hr hlk hw (Or.inl rfl) dX2_readLength_13 (o_2a h) (o_2b h) rfl
-- X2_readLeast
set_option maxRecDepth 100000 in
set_option maxHeartbeats 4000000 in
theorem kX2_readLeast (l : Launch) (G : sGl) {S : sWo} {M : sOb}  {q : (Int32 × sWo)}  (h : fX2_readLeast S = some q) : sCt l G yX2_readLeast wsX2_readLeast rmX2_readLeast [.ref (sA G 4 0), .ref (sA G 2 0)] S M (some (.int q.1)) q.2 M := by
  refine cMk (cc := cX2_readLeast) (maxL := 2) (ret := (some .boolean)) (by decide) rfl (Nat.le_of_ble_eq_true rfl) ?_
  intro p e s m args below meth c Q hQ hx hb hr hlk hml hown hts hw ls hl
  have hown : s.vm.findClass RX2 = some m.cls := hown
  have hl : lv_has ls 2 [(0, .ref (sA G 4 0)), (1, .ref (sA G 2 0))] := hl
  have hiX2 : ∀ w ∈ u_ws RX2 TX2 6, w ∈ wsX2_readLeast := by decide +kernel
  have hiX3 : ∀ w ∈ u_ws RX3 TX3 15, w ∈ wsX2_readLeast := by decide +kernel
  unfold fX2_readLeast at h
  refine lv_aload_n hx hb dX2_readLeast_0 rfl (lv_at hl 0 rfl) ?_
  refine lv_iconst (v := 0) hx hb dX2_readLeast_1 (by decide) ?_
  refine lv_iconst (v := 5) hx hb dX2_readLeast_2 (by decide) ?_
  obtain ⟨q3, eq3, h⟩ := o_bd h
  refine kV (As := [.int (0 : Int32), .int (5 : Int32)]) (rest := []) (st' := [.int q3.1]) ⟨hx, hb, hml, hown, hts⟩ (kX2_readNumberBehind l G rfl eq3) (cwV 2 hts gX2_readLeast_X2_readNumberBehind rfl rfl rfl qqX2_readNumberBehind ⟨Nat.le_of_ble_eq_true rfl, Nat.le_of_ble_eq_true rfl⟩) hw (rvTp hw) rfl hl.1 rfl (Nat.le_of_ble_eq_true rfl) dX2_readLeast_3 ⟨Nat.zero_le _, Nat.zero_le _⟩ rfl (fun H locs hw => ?_)
  obtain ⟨S3, eS3, h⟩ := o_nm h
  rw [← eS3] at hw
  refine lv_if_ne (tgt := 11) hx hb dX2_readLeast_6 (by decide) (fun c6 => ?_) (fun c6 => ?_)
  · replace h := o_f c6 h
    refine lv_aload_n hx hb dX2_readLeast_11 rfl (lv_at hl 1 rfl) ?_
    refine lv_aload_n hx hb dX2_readLeast_12 rfl (lv_at hl 0 rfl) ?_
    refine gTp (v := .int ((S3 4).1 4)) hx hb hts hiX2 hown hw rfl 5 (by decide) (hts (.fieldLink RX2 73 "SecondHome$Tape" "value" "I") (by decide +kernel)) rfl dX2_readLeast_13 ?_
    refine pTk hx hb hts hiX3 hown hw (Or.inr (Or.inl rfl)) rfl 1 (by decide) (hts (.fieldLink RX2 78 "SecondHome$Track" "least" "I") (by decide +kernel)) dX2_readLeast_16 rfl (fun H locs hw => ?_)
    obtain ⟨S16, eS16, h⟩ := o_nm h
    rw [← eS16] at hw
    refine lv_iconst (v := 1) hx hb dX2_readLeast_19 (by decide) ?_
    exact rZ hQ hx hb hr hlk hw (Or.inr rfl) dX2_readLeast_20 (o_2a h) (o_2b h) rfl
  · replace h := o_t c6 h
    refine lv_iconst (v := 0) hx hb dX2_readLeast_9 (by decide) ?_
    exact rZ hQ hx hb hr hlk hw (Or.inl rfl) dX2_readLeast_10 (o_2a h) (o_2b h) rfl
-- X2_readLaw
set_option maxRecDepth 100000 in
set_option maxHeartbeats 4000000 in
theorem kX2_readLaw (l : Launch) (G : sGl) {S : sWo} {M : sOb}  {q : (Int32 × sWo)}  (h : fX2_readLaw S = some q) : sCt l G yX2_readLaw wsX2_readLaw rmX2_readLaw [.ref (sA G 4 0), .ref (sA G 2 0)] S M (some (.int q.1)) q.2 M := by
  refine cMk (cc := cX2_readLaw) (maxL := 2) (ret := (some .boolean)) (by decide) rfl (Nat.le_of_ble_eq_true rfl) ?_
  intro p e s m args below meth c Q hQ hx hb hr hlk hml hown hts hw ls hl
  have hown : s.vm.findClass RX2 = some m.cls := hown
  have hl : lv_has ls 2 [(0, .ref (sA G 4 0)), (1, .ref (sA G 2 0))] := hl
  have hiX2 : ∀ w ∈ u_ws RX2 TX2 6, w ∈ wsX2_readLaw := by decide +kernel
  have hiX3 : ∀ w ∈ u_ws RX3 TX3 15, w ∈ wsX2_readLaw := by decide +kernel
  unfold fX2_readLaw at h
  refine lv_aload_n hx hb dX2_readLaw_0 rfl (lv_at hl 0 rfl) ?_
  refine lv_iconst (v := 0) hx hb dX2_readLaw_1 (by decide) ?_
  refine lv_iconst (v := 3) hx hb dX2_readLaw_2 (by decide) ?_
  obtain ⟨q3, eq3, h⟩ := o_bd h
  refine kV (As := [.int (0 : Int32), .int (3 : Int32)]) (rest := []) (st' := [.int q3.1]) ⟨hx, hb, hml, hown, hts⟩ (kX2_readNumberBehind l G rfl eq3) (cwV 2 hts gX2_readLaw_X2_readNumberBehind rfl rfl rfl qqX2_readNumberBehind ⟨Nat.le_of_ble_eq_true rfl, Nat.le_of_ble_eq_true rfl⟩) hw (rvTp hw) rfl hl.1 rfl (Nat.le_of_ble_eq_true rfl) dX2_readLaw_3 ⟨Nat.zero_le _, Nat.zero_le _⟩ rfl (fun H locs hw => ?_)
  obtain ⟨S3, eS3, h⟩ := o_nm h
  rw [← eS3] at hw
  refine lv_if_ne (tgt := 11) hx hb dX2_readLaw_6 (by decide) (fun c6 => ?_) (fun c6 => ?_)
  · replace h := o_f c6 h
    refine lv_aload_n hx hb dX2_readLaw_11 rfl (lv_at hl 1 rfl) ?_
    refine lv_aload_n hx hb dX2_readLaw_12 rfl (lv_at hl 0 rfl) ?_
    refine gTp (v := .int ((S3 4).1 4)) hx hb hts hiX2 hown hw rfl 5 (by decide) (hts (.fieldLink RX2 73 "SecondHome$Tape" "value" "I") (by decide +kernel)) rfl dX2_readLaw_13 ?_
    refine pTk hx hb hts hiX3 hown hw (Or.inr (Or.inl rfl)) rfl 2 (by decide) (hts (.fieldLink RX2 80 "SecondHome$Track" "law" "I") (by decide +kernel)) dX2_readLaw_16 rfl (fun H locs hw => ?_)
    obtain ⟨S16, eS16, h⟩ := o_nm h
    rw [← eS16] at hw
    refine lv_iconst (v := 1) hx hb dX2_readLaw_19 (by decide) ?_
    exact rZ hQ hx hb hr hlk hw (Or.inr rfl) dX2_readLaw_20 (o_2a h) (o_2b h) rfl
  · replace h := o_t c6 h
    refine lv_iconst (v := 0) hx hb dX2_readLaw_9 (by decide) ?_
    exact rZ hQ hx hb hr hlk hw (Or.inl rfl) dX2_readLaw_10 (o_2a h) (o_2b h) rfl
-- X2_readItem
set_option maxRecDepth 100000 in
set_option maxHeartbeats 4000000 in
theorem kX2_readItem (l : Launch) (G : sGl) {S : sWo} {M : sOb}  {q : (Int32 × sWo)}  (h : fX2_readItem S = some q) : sCt l G yX2_readItem wsX2_readItem rmX2_readItem [.ref (sA G 4 0), .ref (sA G 2 0)] S M (some (.int q.1)) q.2 M := by
  refine cMk (cc := cX2_readItem) (maxL := 3) (ret := (some .boolean)) (by decide) rfl (Nat.le_of_ble_eq_true rfl) ?_
  intro p e s m args below meth c Q hQ hx hb hr hlk hml hown hts hw ls hl
  have hown : s.vm.findClass RX2 = some m.cls := hown
  have hl : lv_has ls 3 [(0, .ref (sA G 4 0)), (1, .ref (sA G 2 0))] := hl
  have hiX3 : ∀ w ∈ u_ws RX3 TX3 15, w ∈ wsX2_readItem := by decide +kernel
  unfold fX2_readItem at h
  refine lv_aload_n hx hb dX2_readItem_0 rfl (lv_at hl 0 rfl) ?_
  obtain ⟨q1, eq1, h⟩ := o_bd h
  refine kV (As := []) (rest := []) (st' := [.int q1]) ⟨hx, hb, hml, hown, hts⟩ (kX2_kindNamed l G rfl eq1) (cwV 0 hts gX2_readItem_X2_kindNamed rfl rfl rfl qqX2_kindNamed ⟨Nat.le_of_ble_eq_true rfl, Nat.le_of_ble_eq_true rfl⟩) hw (rvTp hw) rfl hl.1 rfl (Nat.le_of_ble_eq_true rfl) dX2_readItem_1 ⟨Nat.zero_le _, Nat.zero_le _⟩ rfl (fun H locs hw => ?_)
  refine lv_istore_n (lv' := [(2, .int q1), (0, .ref (sA G 4 0)), (1, .ref (sA G 2 0))]) hx hb dX2_readItem_4 rfl hl (by decide) rfl (fun ls hl => ?_)
  refine lv_iload_n hx hb dX2_readItem_5 rfl (lv_at hl 0 rfl) ?_
  refine lv_iconst (v := -1) hx hb dX2_readItem_6 (by decide) ?_
  refine lv_icmp_eq (tgt := 34) hx hb dX2_readItem_7 (by decide) (fun c7 => ?_) (fun c7 => ?_)
  · replace h := o_t c7 h
    refine lv_aload_n hx hb dX2_readItem_34 rfl (lv_at hl 1 rfl) ?_
    refine va_ldcS hx hb hown (hw.2.2.2.2.2.2.2.2.2 6 (by decide)) dX2_readItem_35 ?_
    obtain ⟨q37, eq37, h⟩ := o_bd h
    refine kV (As := [.ref (sX G (1 + 6))]) (rest := []) (st' := [.int q37]) ⟨hx, hb, hml, hown, hts⟩ (kX2_isWord l G rfl (by decide) eq37) (cwV 1 hts gX2_readItem_X2_isWord rfl rfl rfl qqX2_isWord ⟨Nat.le_of_ble_eq_true rfl, Nat.le_of_ble_eq_true rfl⟩) hw (rvTp hw) rfl hl.1 rfl (Nat.le_of_ble_eq_true rfl) dX2_readItem_37 ⟨Nat.zero_le _, Nat.zero_le _⟩ rfl (fun H locs hw => ?_)
    refine lv_if_eq (tgt := 64) hx hb dX2_readItem_40 (by decide) (fun c40 => ?_) (fun c40 => ?_)
    · replace h := o_t c40 h
      refine lv_aload_n hx hb dX2_readItem_64 rfl (lv_at hl 1 rfl) ?_
      refine va_ldcS hx hb hown (hw.2.2.2.2.2.2.2.2.2 7 (by decide)) dX2_readItem_65 ?_
      obtain ⟨q67, eq67, h⟩ := o_bd h
      refine kV (As := [.ref (sX G (1 + 7))]) (rest := []) (st' := [.int q67]) ⟨hx, hb, hml, hown, hts⟩ (kX2_isWord l G rfl (by decide) eq67) (cwV 1 hts gX2_readItem_X2_isWord rfl rfl rfl qqX2_isWord ⟨Nat.le_of_ble_eq_true rfl, Nat.le_of_ble_eq_true rfl⟩) hw (rvTp hw) rfl hl.1 rfl (Nat.le_of_ble_eq_true rfl) dX2_readItem_67 ⟨Nat.zero_le _, Nat.zero_le _⟩ rfl (fun H locs hw => ?_)
      refine lv_if_eq (tgt := 79) hx hb dX2_readItem_70 (by decide) (fun c70 => ?_) (fun c70 => ?_)
      · replace h := o_t c70 h
        refine lv_aload_n hx hb dX2_readItem_79 rfl (lv_at hl 1 rfl) ?_
        refine va_ldcS hx hb hown (hw.2.2.2.2.2.2.2.2.2 8 (by decide)) dX2_readItem_80 ?_
        obtain ⟨q82, eq82, h⟩ := o_bd h
        refine kV (As := [.ref (sX G (1 + 8))]) (rest := []) (st' := [.int q82]) ⟨hx, hb, hml, hown, hts⟩ (kX2_isWord l G rfl (by decide) eq82) (cwV 1 hts gX2_readItem_X2_isWord rfl rfl rfl qqX2_isWord ⟨Nat.le_of_ble_eq_true rfl, Nat.le_of_ble_eq_true rfl⟩) hw (rvTp hw) rfl hl.1 rfl (Nat.le_of_ble_eq_true rfl) dX2_readItem_82 ⟨Nat.zero_le _, Nat.zero_le _⟩ rfl (fun H locs hw => ?_)
        refine lv_if_eq (tgt := 100) hx hb dX2_readItem_85 (by decide) (fun c85 => ?_) (fun c85 => ?_)
        · replace h := o_t c85 h
          refine lv_iconst (v := 0) hx hb dX2_readItem_100 (by decide) ?_
          exact rZ hQ hx hb hr hlk hw (Or.inl rfl) dX2_readItem_101 (o_2a h) (o_2b h) rfl
        · replace h := o_f c85 h
          refine lv_aload_n hx hb dX2_readItem_88 rfl (lv_at hl 1 rfl) ?_
          refine lv_aload_n hx hb dX2_readItem_89 rfl (lv_at hl 2 rfl) ?_
          obtain ⟨q90, eq90, h⟩ := o_bd h
          refine kV (As := [.ref (sA G 2 0)]) (rest := []) (st' := [.int q90.1]) ⟨hx, hb, hml, hown, hts⟩ (kX2_readLaw l G eq90) (cwV 1 hts gX2_readItem_X2_readLaw rfl rfl rfl qqX2_readLaw ⟨Nat.le_of_ble_eq_true rfl, Nat.le_of_ble_eq_true rfl⟩) hw (rvTp hw) rfl hl.1 rfl (Nat.le_of_ble_eq_true rfl) dX2_readItem_90 ⟨Nat.zero_le _, Nat.zero_le _⟩ rfl (fun H locs hw => ?_)
          refine lv_if_eq (tgt := 100) hx hb dX2_readItem_93 (by decide) (fun c93 => ?_) (fun c93 => ?_)
          · replace h := o_t c93 h
            refine lv_iconst (v := 0) hx hb dX2_readItem_100 (by decide) ?_
            exact rZ hQ hx hb hr hlk hw (Or.inl rfl) dX2_readItem_101 (o_2a h) (o_2b h) rfl
          · replace h := o_f c93 h
            refine lv_iconst (v := 1) hx hb dX2_readItem_96 (by decide) ?_
            refine lv_goto (tgt := 101) hx hb dX2_readItem_97 (by decide) ?_
            exact rZ hQ hx hb hr hlk hw (Or.inr rfl) dX2_readItem_101 (o_2a h) (o_2b h) rfl
      · replace h := o_f c70 h
        refine lv_aload_n hx hb dX2_readItem_73 rfl (lv_at hl 1 rfl) ?_
        refine lv_aload_n hx hb dX2_readItem_74 rfl (lv_at hl 2 rfl) ?_
        obtain ⟨q75, eq75, h⟩ := o_bd h
        refine kV (As := [.ref (sA G 2 0)]) (rest := []) (st' := [.int q75.1]) ⟨hx, hb, hml, hown, hts⟩ (kX2_readLeast l G eq75) (cwV 1 hts gX2_readItem_X2_readLeast rfl rfl rfl qqX2_readLeast ⟨Nat.le_of_ble_eq_true rfl, Nat.le_of_ble_eq_true rfl⟩) hw (rvTp hw) rfl hl.1 rfl (Nat.le_of_ble_eq_true rfl) dX2_readItem_75 ⟨Nat.zero_le _, Nat.zero_le _⟩ rfl (fun H locs hw => ?_)
        obtain ⟨b78, h⟩ := o_in h
        exact rZ hQ hx hb hr hlk hw (Decidable.not_not.mp b78) dX2_readItem_78 (o_2a h) (o_2b h) rfl
    · replace h := o_f c40 h
      refine lv_aload_n hx hb dX2_readItem_43 rfl (lv_at hl 2 rfl) ?_
      refine gTk (v := .int ((S 2).1 4)) hx hb hts hiX3 hown hw (Or.inr (Or.inl rfl)) rfl 4 (by decide) (hts (.fieldLink RX2 41 "SecondHome$Track" "count" "I") (by decide +kernel)) rfl dX2_readItem_44 ?_
      refine lv_if_ne (tgt := 62) hx hb dX2_readItem_47 (by decide) (fun c47 => ?_) (fun c47 => ?_)
      · replace h := o_f c47 h
        refine lv_iconst (v := 0) hx hb dX2_readItem_62 (by decide) ?_
        exact rZ hQ hx hb hr hlk hw (Or.inl rfl) dX2_readItem_63 (o_2a h) (o_2b h) rfl
      · replace h := o_t c47 h
        refine lv_aload_n hx hb dX2_readItem_50 rfl (lv_at hl 1 rfl) ?_
        refine lv_aload_n hx hb dX2_readItem_51 rfl (lv_at hl 2 rfl) ?_
        obtain ⟨q52, eq52, h⟩ := o_bd h
        refine kV (As := [.ref (sA G 2 0)]) (rest := []) (st' := [.int q52.1]) ⟨hx, hb, hml, hown, hts⟩ (kX2_readLength l G eq52) (cwV 1 hts gX2_readItem_X2_readLength rfl rfl rfl qqX2_readLength ⟨Nat.le_of_ble_eq_true rfl, Nat.le_of_ble_eq_true rfl⟩) hw (rvTp hw) rfl hl.1 rfl (Nat.le_of_ble_eq_true rfl) dX2_readItem_52 ⟨Nat.zero_le _, Nat.zero_le _⟩ rfl (fun H locs hw => ?_)
        refine lv_if_eq (tgt := 62) hx hb dX2_readItem_55 (by decide) (fun c55 => ?_) (fun c55 => ?_)
        · replace h := o_t c55 h
          refine lv_iconst (v := 0) hx hb dX2_readItem_62 (by decide) ?_
          exact rZ hQ hx hb hr hlk hw (Or.inl rfl) dX2_readItem_63 (o_2a h) (o_2b h) rfl
        · replace h := o_f c55 h
          refine lv_iconst (v := 1) hx hb dX2_readItem_58 (by decide) ?_
          refine lv_goto (tgt := 63) hx hb dX2_readItem_59 (by decide) ?_
          exact rZ hQ hx hb hr hlk hw (Or.inr rfl) dX2_readItem_63 (o_2a h) (o_2b h) rfl
  · replace h := o_f c7 h
    refine lv_aload_n hx hb dX2_readItem_10 rfl (lv_at hl 2 rfl) ?_
    refine gTk (v := .int ((S 2).1 4)) hx hb hts hiX3 hown hw (Or.inr (Or.inl rfl)) rfl 4 (by decide) (hts (.fieldLink RX2 41 "SecondHome$Track" "count" "I") (by decide +kernel)) rfl dX2_readItem_11 ?_
    refine lv_bipush (v := 9) hx hb dX2_readItem_14 (by decide) ?_
    refine lv_icmp_ge (tgt := 32) hx hb dX2_readItem_16 (by decide) (fun c16 => ?_) (fun c16 => ?_)
    · replace h := o_t c16 h
      refine lv_iconst (v := 0) hx hb dX2_readItem_32 (by decide) ?_
      exact rZ hQ hx hb hr hlk hw (Or.inl rfl) dX2_readItem_33 (o_2a h) (o_2b h) rfl
    · replace h := o_f c16 h
      refine lv_aload_n hx hb dX2_readItem_19 rfl (lv_at hl 1 rfl) ?_
      refine lv_aload_n hx hb dX2_readItem_20 rfl (lv_at hl 2 rfl) ?_
      refine lv_iload_n hx hb dX2_readItem_21 rfl (lv_at hl 0 rfl) ?_
      obtain ⟨q22, eq22, h⟩ := o_bd h
      refine kV (As := [.ref (sA G 2 0), .int q1]) (rest := []) (st' := [.int q22.1]) ⟨hx, hb, hml, hown, hts⟩ (kX2_readRunner l G eq22) (cwV 2 hts gX2_readItem_X2_readRunner rfl rfl rfl qqX2_readRunner ⟨Nat.le_of_ble_eq_true rfl, Nat.le_of_ble_eq_true rfl⟩) hw (rvTp hw) rfl hl.1 rfl (Nat.le_of_ble_eq_true rfl) dX2_readItem_22 ⟨Nat.zero_le _, Nat.zero_le _⟩ rfl (fun H locs hw => ?_)
      refine lv_if_eq (tgt := 32) hx hb dX2_readItem_25 (by decide) (fun c25 => ?_) (fun c25 => ?_)
      · replace h := o_t c25 h
        refine lv_iconst (v := 0) hx hb dX2_readItem_32 (by decide) ?_
        exact rZ hQ hx hb hr hlk hw (Or.inl rfl) dX2_readItem_33 (o_2a h) (o_2b h) rfl
      · replace h := o_f c25 h
        refine lv_iconst (v := 1) hx hb dX2_readItem_28 (by decide) ?_
        refine lv_goto (tgt := 33) hx hb dX2_readItem_29 (by decide) ?_
        exact rZ hQ hx hb hr hlk hw (Or.inr rfl) dX2_readItem_33 (o_2a h) (o_2b h) rfl
-- X2_readRace
set_option maxRecDepth 100000 in
set_option maxHeartbeats 4000000 in
theorem kX2_readRace (l : Launch) (G : sGl) {S : sWo} {M : sOb}  {q : (Int32 × sWo)}  (h : fX2_readRace S = some q) : sCt l G yX2_readRace wsX2_readRace rmX2_readRace [.ref (sA G 4 0), .ref (sA G 2 0)] S M (some (.int q.1)) q.2 M := by
  refine cMk (cc := cX2_readRace) (maxL := 3) (ret := (some .int)) (by decide) rfl (Nat.le_of_ble_eq_true rfl) ?_
  intro p e s m args below meth c Q hQ hx hb hr hlk hml hown hts hw ls hl
  have hown : s.vm.findClass RX2 = some m.cls := hown
  have hl : lv_has ls 3 [(0, .ref (sA G 4 0)), (1, .ref (sA G 2 0))] := hl
  have hiX2 : ∀ w ∈ u_ws RX2 TX2 6, w ∈ wsX2_readRace := by decide +kernel
  unfold fX2_readRace at h
  refine lv_aload_n hx hb dX2_readRace_0 rfl (lv_at hl 0 rfl) ?_
  refine lv_iconst (v := 0) hx hb dX2_readRace_1 (by decide) ?_
  refine pTp hx hb hts hiX2 hown hw rfl 4 3 (by decide) rfl rfl rfl (hts (.fieldLink RX2 19 "SecondHome$Tape" "behind" "I") (by decide +kernel)) dX2_readRace_2 rfl (fun H locs hw => ?_)
  obtain ⟨S2, eS2, h⟩ := o_nm h
  rw [← eS2] at hw
  refine lv_aload_n hx hb dX2_readRace_5 rfl (lv_at hl 0 rfl) ?_
  obtain ⟨q6, eq6, h⟩ := o_bd h
  refine kV (As := []) (rest := []) (st' := []) ⟨hx, hb, hml, hown, hts⟩ (kX2_next l G rfl eq6) (cwV 0 hts gX2_readRace_X2_next rfl rfl rfl qqX2_next ⟨Nat.le_of_ble_eq_true rfl, Nat.le_of_ble_eq_true rfl⟩) hw (rvTp hw) rfl hl.1 rfl (Nat.le_of_ble_eq_true rfl) dX2_readRace_6 ⟨Nat.zero_le _, Nat.zero_le _⟩ rfl (fun H locs hw => ?_)
  obtain ⟨S6, eS6, h⟩ := o_nm h
  rw [← eS6] at hw
  refine lv_iconst (v := 1) hx hb dX2_readRace_9 (by decide) ?_
  refine lv_istore_n (lv' := [(2, .int (1 : Int32)), (0, .ref (sA G 4 0)), (1, .ref (sA G 2 0))]) hx hb dX2_readRace_10 rfl hl (by decide) rfl (fun ls hl => ?_)
  refine fx2_w (F := bX2_readRace_11) (P := fun x2_11 S_11 => ∀ (H : Heap) (locs : List Loc) (ls : Array Slot), sHw G s S_11 M H locs → lv_has ls 3 [(0, .ref (sA G 4 0)), (1, .ref (sA G 2 0)), (2, .int x2_11)] → W p l e rmX2_readRace s m args below meth c H locs 0 0 Q (F0 m 11 ls [])) ?_ _ _ _ h _ _ _ hw (lv_sub hl [1, 2, 0] rfl)
  intro rc11 IH11 x2_11 S_11 h H locs ls hw hl
  unfold bX2_readRace_11 at h
  refine lv_iload_n hx hb dX2_readRace_11 rfl (lv_at hl 2 rfl) ?_
  refine lv_bipush (v := 120) hx hb dX2_readRace_12 (by decide) ?_
  refine lv_icmp_gt (tgt := 58) hx hb dX2_readRace_14 (by decide) (fun c14 => ?_) (fun c14 => ?_)
  · replace h := o_t c14 h
    refine lv_iconst (v := -1) hx hb dX2_readRace_58 (by decide) ?_
    refine lv_aload_n hx hb dX2_readRace_59 rfl (lv_at hl 0 rfl) ?_
    refine gTp (v := .int ((S_11 4).1 2)) hx hb hts hiX2 hown hw rfl 3 (by decide) (hts (.fieldLink RX2 32 "SecondHome$Tape" "from" "I") (by decide +kernel)) rfl dX2_readRace_60 ?_
    refine lv_isub hx hb dX2_readRace_63 ?_
    exact rI hQ hx hb hr hlk hw dX2_readRace_64 (o_2a h) (o_2b h) rfl
  · replace h := o_f c14 h
    refine lv_aload_n hx hb dX2_readRace_17 rfl (lv_at hl 0 rfl) ?_
    refine lv_aload_n hx hb dX2_readRace_18 rfl (lv_at hl 1 rfl) ?_
    obtain ⟨q19, eq19, h⟩ := o_bd h
    refine kV (As := [.ref (sA G 2 0)]) (rest := []) (st' := [.int q19.1]) ⟨hx, hb, hml, hown, hts⟩ (kX2_readItem l G eq19) (cwV 1 hts gX2_readRace_X2_readItem rfl rfl rfl qqX2_readItem ⟨Nat.le_of_ble_eq_true rfl, Nat.le_of_ble_eq_true rfl⟩) hw (rvTp hw) rfl hl.1 rfl (Nat.le_of_ble_eq_true rfl) dX2_readRace_19 ⟨Nat.zero_le _, Nat.zero_le _⟩ rfl (fun H locs hw => ?_)
    refine lv_if_ne (tgt := 28) hx hb dX2_readRace_22 (by decide) (fun c22 => ?_) (fun c22 => ?_)
    · replace h := o_f c22 h
      refine lv_aload_n hx hb dX2_readRace_28 rfl (lv_at hl 0 rfl) ?_
      refine gTp (v := .int ((q19.2 4).1 1)) hx hb hts hiX2 hown hw rfl 2 (by decide) (hts (.fieldLink RX2 29 "SecondHome$Tape" "token" "I") (by decide +kernel)) rfl dX2_readRace_29 ?_
      refine lv_if_ne (tgt := 37) hx hb dX2_readRace_32 (by decide) (fun c32 => ?_) (fun c32 => ?_)
      · replace h := o_f c32 h
        refine lv_aload_n hx hb dX2_readRace_37 rfl (lv_at hl 0 rfl) ?_
        refine gTp (v := .int ((q19.2 4).1 1)) hx hb hts hiX2 hown hw rfl 2 (by decide) (hts (.fieldLink RX2 29 "SecondHome$Tape" "token" "I") (by decide +kernel)) rfl dX2_readRace_38 ?_
        refine lv_iconst (v := 3) hx hb dX2_readRace_41 (by decide) ?_
        refine lv_icmp_eq (tgt := 48) hx hb dX2_readRace_42 (by decide) (fun c42 => ?_) (fun c42 => ?_)
        · replace h := o_t c42 h
          refine lv_aload_n hx hb dX2_readRace_48 rfl (lv_at hl 0 rfl) ?_
          obtain ⟨q49, eq49, h⟩ := o_bd h
          refine kV (As := []) (rest := []) (st' := []) ⟨hx, hb, hml, hown, hts⟩ (kX2_next l G rfl eq49) (cwV 0 hts gX2_readRace_X2_next rfl rfl rfl qqX2_next ⟨Nat.le_of_ble_eq_true rfl, Nat.le_of_ble_eq_true rfl⟩) hw (rvTp hw) rfl hl.1 rfl (Nat.le_of_ble_eq_true rfl) dX2_readRace_49 ⟨Nat.zero_le _, Nat.zero_le _⟩ rfl (fun H locs hw => ?_)
          obtain ⟨S49, eS49, h⟩ := o_nm h
          rw [← eS49] at hw
          obtain ⟨v52, ev52, h⟩ := o_nm h
          refine lv_iinc (v := v52) (lv' := [(2, .int v52), (0, .ref (sA G 4 0)), (1, .ref (sA G 2 0))]) hx hb dX2_readRace_52 hl (k := 2) rfl (by rw [ev52]; rfl) (by decide) rfl (fun ls hl => ?_)
          refine lv_goto (tgt := 11) hx hb dX2_readRace_55 (by decide) ?_
          exact IH11 v52 S49 h _ _ _ hw (lv_sub hl [1, 2, 0] rfl)
        · replace h := o_f c42 h
          refine lv_goto (tgt := 58) hx hb dX2_readRace_45 (by decide) ?_
          refine lv_iconst (v := -1) hx hb dX2_readRace_58 (by decide) ?_
          refine lv_aload_n hx hb dX2_readRace_59 rfl (lv_at hl 0 rfl) ?_
          refine gTp (v := .int ((q19.2 4).1 2)) hx hb hts hiX2 hown hw rfl 3 (by decide) (hts (.fieldLink RX2 32 "SecondHome$Tape" "from" "I") (by decide +kernel)) rfl dX2_readRace_60 ?_
          refine lv_isub hx hb dX2_readRace_63 ?_
          exact rI hQ hx hb hr hlk hw dX2_readRace_64 (o_2a h) (o_2b h) rfl
      · replace h := o_t c32 h
        refine lv_iload_n hx hb dX2_readRace_35 rfl (lv_at hl 2 rfl) ?_
        exact rI hQ hx hb hr hlk hw dX2_readRace_36 (o_2a h) (o_2b h) rfl
    · replace h := o_t c22 h
      refine lv_goto (tgt := 58) hx hb dX2_readRace_25 (by decide) ?_
      refine lv_iconst (v := -1) hx hb dX2_readRace_58 (by decide) ?_
      refine lv_aload_n hx hb dX2_readRace_59 rfl (lv_at hl 0 rfl) ?_
      refine gTp (v := .int ((q19.2 4).1 2)) hx hb hts hiX2 hown hw rfl 3 (by decide) (hts (.fieldLink RX2 32 "SecondHome$Tape" "from" "I") (by decide +kernel)) rfl dX2_readRace_60 ?_
      refine lv_isub hx hb dX2_readRace_63 ?_
      exact rI hQ hx hb hr hlk hw dX2_readRace_64 (o_2a h) (o_2b h) rfl
