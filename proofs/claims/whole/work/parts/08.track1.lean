-- X3_goSecond
set_option maxRecDepth 100000 in
set_option maxHeartbeats 4000000 in
theorem kX3_goSecond (l : Launch) (G : sGl) {S : sWo} {M : sOb} {o : Nat} {T : sOb} {q : sOb} (ho : isTk o) (hT : S o = T) (h : fX3_goSecond T = some q) : sCt l G yX3_goSecond wsX3_goSecond rmX3_goSecond [.ref (sA G o 0)] S M none (sUp S o q) M := by
  refine cMk (cc := cX3_goSecond) (maxL := 3) (ret := none) (by decide) rfl (Nat.le_of_ble_eq_true rfl) ?_
  intro p e s m args below meth c Q hQ hx hb hr hlk hml hown hts hw ls hl
  have hown : s.vm.findClass RX3 = some m.cls := hown
  have hl : lv_has ls 3 [(0, .ref (sA G o 0))] := hl
  have hiX3 : ∀ w ∈ u_ws RX3 TX3 15, w ∈ wsX3_goSecond := by decide +kernel
  rw [show S = sUp S o T from (by rw [← hT]; exact (sUp_i S o).symm)] at hw
  unfold fX3_goSecond at h
  refine lv_aload_n hx hb dX3_goSecond_0 rfl (lv_at hl 0 rfl) ?_
  obtain ⟨q1, eq1, h⟩ := o_bd h
  refine kV (As := []) (rest := []) (st' := [.int q1]) ⟨hx, hb, hml, hown, hts⟩ (kX3_firstAlone l G ho (sUp_s S o T) eq1) (cwV 0 hts gX3_goSecond_X3_firstAlone rfl rfl rfl qqX3_firstAlone ⟨Nat.le_of_ble_eq_true rfl, Nat.le_of_ble_eq_true rfl⟩) hw (rvTk hw ho) rfl hl.1 rfl (Nat.le_of_ble_eq_true rfl) dX3_goSecond_1 ⟨Nat.zero_le _, Nat.zero_le _⟩ rfl (fun H locs hw => ?_)
  refine lv_istore_n (lv' := [(1, .int q1), (0, .ref (sA G o 0))]) hx hb dX3_goSecond_4 rfl hl (by decide) rfl (fun ls hl => ?_)
  refine lv_iconst (v := 0) hx hb dX3_goSecond_5 (by decide) ?_
  refine lv_istore_n (lv' := [(2, .int (0 : Int32)), (1, .int q1), (0, .ref (sA G o 0))]) hx hb dX3_goSecond_6 rfl hl (by decide) rfl (fun ls hl => ?_)
  obtain ⟨k58, ek58, h⟩ := o_nm h
  have J58 : ∀ (T_58 : sOb) (H : Heap) (locs : List Loc) (ls : Array Slot), sHw G s (sUp S o T_58) M H locs → lv_has ls 3 [(0, .ref (sA G o 0))] → k58 T_58 = some q → W p l e rmX3_goSecond s m args below meth c H locs 0 0 Q (F0 m 58 ls []) := by
    intro T_58 H locs ls hw hl h
    replace h := o_j1 ek58 h
    refine lv_aload_n hx hb dX3_goSecond_58 rfl (lv_at hl 0 rfl) ?_
    refine lv_dup hx hb dX3_goSecond_59 rfl ?_
    refine gTk (v := .int (T_58.1 3)) hx hb hts hiX3 hown hw ho (sUp_s S o T_58) 3 (by decide) (hts (.fieldLink RX3 49 "SecondHome$Track" "second" "I") (by decide +kernel)) rfl dX3_goSecond_60 ?_
    refine lv_iconst (v := 1) hx hb dX3_goSecond_63 (by decide) ?_
    refine lv_iadd hx hb dX3_goSecond_64 ?_
    refine pTk hx hb hts hiX3 hown hw ho (sUp_s S o T_58) 3 (by decide) (hts (.fieldLink RX3 49 "SecondHome$Track" "second" "I") (by decide +kernel)) dX3_goSecond_65 (sUp_u S o T_58 _) (fun H locs hw => ?_)
    obtain ⟨T65, eT65, h⟩ := o_nm h
    rw [← eT65] at hw
    refine lv_iconst (v := 0) hx hb dX3_goSecond_68 (by decide) ?_
    refine lv_istore_n (lv' := [(2, .int (0 : Int32)), (0, .ref (sA G o 0))]) hx hb dX3_goSecond_69 rfl hl (by decide) rfl (fun ls hl => ?_)
    refine fx2_w (F := bX3_goSecond_70) (P := fun x2_70 T_70 => ∀ (H : Heap) (locs : List Loc) (ls : Array Slot), sHw G s (sUp S o T_70) M H locs → lv_has ls 3 [(0, .ref (sA G o 0)), (2, .int x2_70)] → W p l e rmX3_goSecond s m args below meth c H locs 0 0 Q (F0 m 70 ls [])) ?_ _ _ _ h _ _ _ hw (lv_sub hl [1, 0] rfl)
    intro rc70 IH70 x2_70 T_70 h H locs ls hw hl
    unfold bX3_goSecond_70 at h
    refine lv_iload_n hx hb dX3_goSecond_70 rfl (lv_at hl 1 rfl) ?_
    refine lv_aload_n hx hb dX3_goSecond_71 rfl (lv_at hl 0 rfl) ?_
    refine gTk (v := .int (T_70.1 4)) hx hb hts hiX3 hown hw ho (sUp_s S o T_70) 4 (by decide) (hts (.fieldLink RX3 52 "SecondHome$Track" "count" "I") (by decide +kernel)) rfl dX3_goSecond_72 ?_
    refine lv_icmp_ge (tgt := 141) hx hb dX3_goSecond_75 (by decide) (fun c75 => ?_) (fun c75 => ?_)
    · replace h := o_t c75 h
      exact rV hQ hx hb hr hlk hw dX3_goSecond_141 (congrArg (sUp S o) (o_1 h)) rfl
    · replace h := o_f c75 h
      refine lv_aload_n hx hb dX3_goSecond_78 rfl (lv_at hl 0 rfl) ?_
      refine gTk (v := .ref (sA G o 6)) hx hb hts hiX3 hown hw ho (sUp_s S o T_70) 11 (by decide) (hts (.fieldLink RX3 37 "SecondHome$Track" "yards" "[I") (by decide +kernel)) rfl dX3_goSecond_79 ?_
      refine lv_iload_n hx hb dX3_goSecond_82 rfl (lv_at hl 1 rfl) ?_
      refine lv_dup2_11 hx hb dX3_goSecond_83 rfl rfl ?_
      obtain ⟨b84, h⟩ := o_in h
      refine ldTk hx hb hw ho (sUp_s S o T_70) 5 (by decide) b84 dX3_goSecond_84 ?_
      refine lv_aload_n hx hb dX3_goSecond_85 rfl (lv_at hl 0 rfl) ?_
      refine gTk (v := .ref (sA G o 9)) hx hb hts hiX3 hown hw ho (sUp_s S o T_70) 14 (by decide) (hts (.fieldLink RX3 46 "SecondHome$Track" "strides" "[I") (by decide +kernel)) rfl dX3_goSecond_86 ?_
      refine lv_iload_n hx hb dX3_goSecond_89 rfl (lv_at hl 1 rfl) ?_
      refine ldTk hx hb hw ho (sUp_s S o T_70) 8 (by decide) b84 dX3_goSecond_90 ?_
      refine lv_iadd hx hb dX3_goSecond_91 ?_
      refine stTk hx hb hw ho (sUp_s S o T_70) 5 (by decide) b84 dX3_goSecond_92 (sUp_u S o T_70 _) (fun H locs hw => ?_)
      obtain ⟨T92, eT92, h⟩ := o_nm h
      rw [← eT92] at hw
      refine lv_aload_n hx hb dX3_goSecond_93 rfl (lv_at hl 0 rfl) ?_
      refine gTk (v := .ref (sA G o 8)) hx hb hts hiX3 hown hw ho (sUp_s S o T92) 13 (by decide) (hts (.fieldLink RX3 43 "SecondHome$Track" "homes" "[I") (by decide +kernel)) rfl dX3_goSecond_94 ?_
      refine lv_iload_n hx hb dX3_goSecond_97 rfl (lv_at hl 1 rfl) ?_
      refine ldTk hx hb hw ho (sUp_s S o T92) 7 (by decide) b84 dX3_goSecond_98 ?_
      refine lv_if_ge (tgt := 135) hx hb dX3_goSecond_99 (by decide) (fun c99 => ?_) (fun c99 => ?_)
      · replace h := o_t c99 h
        obtain ⟨v135, ev135, h⟩ := o_nm h
        refine lv_iinc (v := v135) (lv' := [(2, .int v135), (0, .ref (sA G o 0))]) hx hb dX3_goSecond_135 hl (k := 1) rfl (by rw [ev135]; rfl) (by decide) rfl (fun ls hl => ?_)
        refine lv_goto (tgt := 70) hx hb dX3_goSecond_138 (by decide) ?_
        exact IH70 v135 T92 h _ _ _ hw (lv_sub hl [1, 0] rfl)
      · replace h := o_f c99 h
        refine lv_aload_n hx hb dX3_goSecond_102 rfl (lv_at hl 0 rfl) ?_
        refine gTk (v := .ref (sA G o 6)) hx hb hts hiX3 hown hw ho (sUp_s S o T92) 11 (by decide) (hts (.fieldLink RX3 37 "SecondHome$Track" "yards" "[I") (by decide +kernel)) rfl dX3_goSecond_103 ?_
        refine lv_iload_n hx hb dX3_goSecond_106 rfl (lv_at hl 1 rfl) ?_
        refine ldTk hx hb hw ho (sUp_s S o T92) 5 (by decide) b84 dX3_goSecond_107 ?_
        refine lv_aload_n hx hb dX3_goSecond_108 rfl (lv_at hl 0 rfl) ?_
        refine gTk (v := .int (T92.1 0)) hx hb hts hiX3 hown hw ho (sUp_s S o T92) 0 (by decide) (hts (.fieldLink RX3 9 "SecondHome$Track" "length" "I") (by decide +kernel)) rfl dX3_goSecond_109 ?_
        refine lv_icmp_lt (tgt := 135) hx hb dX3_goSecond_112 (by decide) (fun c112 => ?_) (fun c112 => ?_)
        · replace h := o_t c112 h
          obtain ⟨v135, ev135, h⟩ := o_nm h
          refine lv_iinc (v := v135) (lv' := [(2, .int v135), (0, .ref (sA G o 0))]) hx hb dX3_goSecond_135 hl (k := 1) rfl (by rw [ev135]; rfl) (by decide) rfl (fun ls hl => ?_)
          refine lv_goto (tgt := 70) hx hb dX3_goSecond_138 (by decide) ?_
          exact IH70 v135 T92 h _ _ _ hw (lv_sub hl [1, 0] rfl)
        · replace h := o_f c112 h
          refine lv_aload_n hx hb dX3_goSecond_115 rfl (lv_at hl 0 rfl) ?_
          refine gTk (v := .ref (sA G o 8)) hx hb hts hiX3 hown hw ho (sUp_s S o T92) 13 (by decide) (hts (.fieldLink RX3 43 "SecondHome$Track" "homes" "[I") (by decide +kernel)) rfl dX3_goSecond_116 ?_
          refine lv_iload_n hx hb dX3_goSecond_119 rfl (lv_at hl 1 rfl) ?_
          refine lv_aload_n hx hb dX3_goSecond_120 rfl (lv_at hl 0 rfl) ?_
          refine gTk (v := .int (T92.1 3)) hx hb hts hiX3 hown hw ho (sUp_s S o T92) 3 (by decide) (hts (.fieldLink RX3 49 "SecondHome$Track" "second" "I") (by decide +kernel)) rfl dX3_goSecond_121 ?_
          refine stTk hx hb hw ho (sUp_s S o T92) 7 (by decide) b84 dX3_goSecond_124 (sUp_u S o T92 _) (fun H locs hw => ?_)
          obtain ⟨T124, eT124, h⟩ := o_nm h
          rw [← eT124] at hw
          refine lv_aload_n hx hb dX3_goSecond_125 rfl (lv_at hl 0 rfl) ?_
          refine lv_dup hx hb dX3_goSecond_126 rfl ?_
          refine gTk (v := .int (T124.1 5)) hx hb hts hiX3 hown hw ho (sUp_s S o T124) 5 (by decide) (hts (.fieldLink RX3 55 "SecondHome$Track" "homeCount" "I") (by decide +kernel)) rfl dX3_goSecond_127 ?_
          refine lv_iconst (v := 1) hx hb dX3_goSecond_130 (by decide) ?_
          refine lv_iadd hx hb dX3_goSecond_131 ?_
          refine pTk hx hb hts hiX3 hown hw ho (sUp_s S o T124) 5 (by decide) (hts (.fieldLink RX3 55 "SecondHome$Track" "homeCount" "I") (by decide +kernel)) dX3_goSecond_132 (sUp_u S o T124 _) (fun H locs hw => ?_)
          obtain ⟨T132, eT132, h⟩ := o_nm h
          rw [← eT132] at hw
          obtain ⟨v135, ev135, h⟩ := o_nm h
          refine lv_iinc (v := v135) (lv' := [(2, .int v135), (0, .ref (sA G o 0))]) hx hb dX3_goSecond_135 hl (k := 1) rfl (by rw [ev135]; rfl) (by decide) rfl (fun ls hl => ?_)
          refine lv_goto (tgt := 70) hx hb dX3_goSecond_138 (by decide) ?_
          exact IH70 v135 T132 h _ _ _ hw (lv_sub hl [1, 0] rfl)
  refine fx2_w (F := (bX3_goSecond_7 q1 k58)) (P := fun x2_7 T_7 => ∀ (H : Heap) (locs : List Loc) (ls : Array Slot), sHw G s (sUp S o T_7) M H locs → lv_has ls 3 [(0, .ref (sA G o 0)), (1, .int q1), (2, .int x2_7)] → W p l e rmX3_goSecond s m args below meth c H locs 0 0 Q (F0 m 7 ls [])) ?_ _ _ _ h _ _ _ hw (lv_sub hl [2, 1, 0] rfl)
  intro rc7 IH7 x2_7 T_7 h H locs ls hw hl
  unfold bX3_goSecond_7 at h
  refine lv_iload_n hx hb dX3_goSecond_7 rfl (lv_at hl 2 rfl) ?_
  refine lv_aload_n hx hb dX3_goSecond_8 rfl (lv_at hl 0 rfl) ?_
  refine gTk (v := .int (T_7.1 4)) hx hb hts hiX3 hown hw ho (sUp_s S o T_7) 4 (by decide) (hts (.fieldLink RX3 52 "SecondHome$Track" "count" "I") (by decide +kernel)) rfl dX3_goSecond_9 ?_
  refine lv_icmp_ge (tgt := 58) hx hb dX3_goSecond_12 (by decide) (fun c12 => ?_) (fun c12 => ?_)
  · replace h := o_t c12 h
    exact J58 T_7 _ _ _ hw (lv_sub hl [0] rfl) h
  · replace h := o_f c12 h
    refine lv_aload_n hx hb dX3_goSecond_15 rfl (lv_at hl 0 rfl) ?_
    refine gTk (v := .ref (sA G o 9)) hx hb hts hiX3 hown hw ho (sUp_s S o T_7) 14 (by decide) (hts (.fieldLink RX3 46 "SecondHome$Track" "strides" "[I") (by decide +kernel)) rfl dX3_goSecond_16 ?_
    refine lv_iload_n hx hb dX3_goSecond_19 rfl (lv_at hl 2 rfl) ?_
    refine lv_aload_n hx hb dX3_goSecond_20 rfl (lv_at hl 0 rfl) ?_
    refine gTk (v := .ref (sA G o 8)) hx hb hts hiX3 hown hw ho (sUp_s S o T_7) 13 (by decide) (hts (.fieldLink RX3 43 "SecondHome$Track" "homes" "[I") (by decide +kernel)) rfl dX3_goSecond_21 ?_
    refine lv_iload_n hx hb dX3_goSecond_24 rfl (lv_at hl 2 rfl) ?_
    obtain ⟨b25, h⟩ := o_in h
    refine ldTk hx hb hw ho (sUp_s S o T_7) 7 (by decide) b25 dX3_goSecond_25 ?_
    refine lv_if_lt (tgt := 33) hx hb dX3_goSecond_26 (by decide) (fun c26 => ?_) (fun c26 => ?_)
    · replace h := o_t c26 h
      refine lv_aload_n hx hb dX3_goSecond_33 rfl (lv_at hl 0 rfl) ?_
      refine lv_iload_n hx hb dX3_goSecond_34 rfl (lv_at hl 2 rfl) ?_
      refine lv_aload_n hx hb dX3_goSecond_35 rfl (lv_at hl 0 rfl) ?_
      refine lv_iload_n hx hb dX3_goSecond_36 rfl (lv_at hl 2 rfl) ?_
      refine lv_iload_n hx hb dX3_goSecond_37 rfl (lv_at hl 1 rfl) ?_
      obtain ⟨q38, eq38, h⟩ := o_bd h
      refine kV (As := [.int x2_7, .int q1]) (rest := [.int x2_7, .ref (sA G o 0), .int x2_7, .ref (sA G o 9)]) (st' := [.int q38, .int x2_7, .ref (sA G o 0), .int x2_7, .ref (sA G o 9)]) ⟨hx, hb, hml, hown, hts⟩ (kX3_wishOf l G ho (sUp_s S o T_7) eq38) (cwV 2 hts gX3_goSecond_X3_wishOf rfl rfl rfl qqX3_wishOf ⟨Nat.le_of_ble_eq_true rfl, Nat.le_of_ble_eq_true rfl⟩) hw (rvTk hw ho) rfl hl.1 rfl (Nat.le_of_ble_eq_true rfl) dX3_goSecond_38 ⟨Nat.zero_le _, Nat.zero_le _⟩ rfl (fun H locs hw => ?_)
      refine lv_aload_n hx hb dX3_goSecond_41 rfl (lv_at hl 0 rfl) ?_
      refine gTk (v := .int (T_7.1 1)) hx hb hts hiX3 hown hw ho (sUp_s S o T_7) 1 (by decide) (hts (.fieldLink RX3 15 "SecondHome$Track" "least" "I") (by decide +kernel)) rfl dX3_goSecond_42 ?_
      refine va_mmax hx hb (hml.trans hl.1.symm) hown (hts (.methodLink RX3 81 Lib.Math.max.name) (by decide +kernel)) (hts (.static Lib.Math.max.name) (by decide +kernel)) (hts (.initialized "java/lang/Math") (by decide +kernel)) (hts (.code Lib.Math.max.name Lib.Math.max.code 2 (some .int)) (by decide +kernel)) (Nat.le_of_ble_eq_true rfl) (Nat.le_of_ble_eq_true rfl) (Nat.zero_le _) (Nat.zero_le _) dX3_goSecond_45 ?_
      obtain ⟨q48, eq48, h⟩ := o_bd h
      refine kV (As := [.int x2_7, .int (if q38 < (T_7.1 1) then (T_7.1 1) else q38)]) (rest := [.int x2_7, .ref (sA G o 9)]) (st' := [.int q48.1, .int x2_7, .ref (sA G o 9)]) ⟨hx, hb, hml, hown, hts⟩ (kX3_strideOf l G ho (sUp_s S o T_7) eq48) (cwV 2 hts gX3_goSecond_X3_strideOf rfl rfl rfl qqX3_strideOf ⟨Nat.le_of_ble_eq_true rfl, Nat.le_of_ble_eq_true rfl⟩) hw (rvTk hw ho) rfl hl.1 rfl (Nat.le_of_ble_eq_true rfl) dX3_goSecond_48 ⟨Nat.zero_le _, Nat.zero_le _⟩ rfl (fun H locs hw => ?_)
      rw [sUp_u] at hw
      refine stTk hx hb hw ho (sUp_s S o q48.2) 8 (by decide) b25 dX3_goSecond_51 (sUp_u S o q48.2 _) (fun H locs hw => ?_)
      obtain ⟨T51, eT51, h⟩ := o_nm h
      rw [← eT51] at hw
      obtain ⟨v52, ev52, h⟩ := o_nm h
      refine lv_iinc (v := v52) (lv' := [(2, .int v52), (0, .ref (sA G o 0)), (1, .int q1)]) hx hb dX3_goSecond_52 hl (k := 2) rfl (by rw [ev52]; rfl) (by decide) rfl (fun ls hl => ?_)
      refine lv_goto (tgt := 7) hx hb dX3_goSecond_55 (by decide) ?_
      exact IH7 v52 T51 h _ _ _ hw (lv_sub hl [1, 2, 0] rfl)
    · replace h := o_f c26 h
      refine lv_iconst (v := 0) hx hb dX3_goSecond_29 (by decide) ?_
      refine lv_goto (tgt := 51) hx hb dX3_goSecond_30 (by decide) ?_
      refine stTk hx hb hw ho (sUp_s S o T_7) 8 (by decide) b25 dX3_goSecond_51 (sUp_u S o T_7 _) (fun H locs hw => ?_)
      obtain ⟨T51, eT51, h⟩ := o_nm h
      rw [← eT51] at hw
      obtain ⟨v52, ev52, h⟩ := o_nm h
      refine lv_iinc (v := v52) (lv' := [(2, .int v52), (0, .ref (sA G o 0)), (1, .int q1)]) hx hb dX3_goSecond_52 hl (k := 2) rfl (by rw [ev52]; rfl) (by decide) rfl (fun ls hl => ?_)
      refine lv_goto (tgt := 7) hx hb dX3_goSecond_55 (by decide) ?_
      exact IH7 v52 T51 h _ _ _ hw (lv_sub hl [1, 2, 0] rfl)
-- X3_goOn
set_option maxRecDepth 100000 in
set_option maxHeartbeats 4000000 in
theorem kX3_goOn (l : Launch) (G : sGl) {S : sWo} {M : sOb} {o : Nat} {T : sOb} {a1 : Int32} {q : sOb} (ho : isTk o) (hT : S o = T) (h : fX3_goOn T a1 = some q) : sCt l G yX3_goOn wsX3_goOn rmX3_goOn [.ref (sA G o 0), .int a1] S M none (sUp S o q) M := by
  refine cMk (cc := cX3_goOn) (maxL := 3) (ret := none) (by decide) rfl (Nat.le_of_ble_eq_true rfl) ?_
  intro p e s m args below meth c Q hQ hx hb hr hlk hml hown hts hw ls hl
  have hown : s.vm.findClass RX3 = some m.cls := hown
  have hl : lv_has ls 3 [(0, .ref (sA G o 0)), (1, .int a1)] := hl
  rw [show S = sUp S o T from (by rw [← hT]; exact (sUp_i S o).symm)] at hw
  unfold fX3_goOn at h
  refine lv_iconst (v := 0) hx hb dX3_goOn_0 (by decide) ?_
  refine lv_istore_n (lv' := [(2, .int (0 : Int32)), (0, .ref (sA G o 0)), (1, .int a1)]) hx hb dX3_goOn_1 rfl hl (by decide) rfl (fun ls hl => ?_)
  refine fx2_w (F := (bX3_goOn_2 a1)) (P := fun x2_2 T_2 => ∀ (H : Heap) (locs : List Loc) (ls : Array Slot), sHw G s (sUp S o T_2) M H locs → lv_has ls 3 [(0, .ref (sA G o 0)), (1, .int a1), (2, .int x2_2)] → W p l e rmX3_goOn s m args below meth c H locs 0 0 Q (F0 m 2 ls [])) ?_ _ _ _ h _ _ _ hw (lv_sub hl [1, 2, 0] rfl)
  intro rc2 IH2 x2_2 T_2 h H locs ls hw hl
  unfold bX3_goOn_2 at h
  refine lv_iload_n hx hb dX3_goOn_2 rfl (lv_at hl 2 rfl) ?_
  refine lv_iload_n hx hb dX3_goOn_3 rfl (lv_at hl 1 rfl) ?_
  refine lv_icmp_ge (tgt := 24) hx hb dX3_goOn_4 (by decide) (fun c4 => ?_) (fun c4 => ?_)
  · replace h := o_t c4 h
    exact rV hQ hx hb hr hlk hw dX3_goOn_24 (congrArg (sUp S o) (o_1 h)) rfl
  · replace h := o_f c4 h
    refine lv_aload_n hx hb dX3_goOn_7 rfl (lv_at hl 0 rfl) ?_
    obtain ⟨q8, eq8, h⟩ := o_bd h
    refine kV (As := []) (rest := []) (st' := [.int q8]) ⟨hx, hb, hml, hown, hts⟩ (kX3_allHome l G ho (sUp_s S o T_2) eq8) (cwV 0 hts gX3_goOn_X3_allHome rfl rfl rfl qqX3_allHome ⟨Nat.le_of_ble_eq_true rfl, Nat.le_of_ble_eq_true rfl⟩) hw (rvTk hw ho) rfl hl.1 rfl (Nat.le_of_ble_eq_true rfl) dX3_goOn_8 ⟨Nat.zero_le _, Nat.zero_le _⟩ rfl (fun H locs hw => ?_)
    refine lv_if_ne (tgt := 24) hx hb dX3_goOn_11 (by decide) (fun c11 => ?_) (fun c11 => ?_)
    · replace h := o_f c11 h
      exact rV hQ hx hb hr hlk hw dX3_goOn_24 (congrArg (sUp S o) (o_1 h)) rfl
    · replace h := o_t c11 h
      refine lv_aload_n hx hb dX3_goOn_14 rfl (lv_at hl 0 rfl) ?_
      obtain ⟨q15, eq15, h⟩ := o_bd h
      refine kV (As := []) (rest := []) (st' := []) ⟨hx, hb, hml, hown, hts⟩ (kX3_goSecond l G ho (sUp_s S o T_2) eq15) (cwV 0 hts gX3_goOn_X3_goSecond rfl rfl rfl qqX3_goSecond ⟨Nat.le_of_ble_eq_true rfl, Nat.le_of_ble_eq_true rfl⟩) hw (rvTk hw ho) rfl hl.1 rfl (Nat.le_of_ble_eq_true rfl) dX3_goOn_15 ⟨Nat.zero_le _, Nat.zero_le _⟩ rfl (fun H locs hw => ?_)
      rw [sUp_u] at hw
      obtain ⟨v18, ev18, h⟩ := o_nm h
      refine lv_iinc (v := v18) (lv' := [(2, .int v18), (0, .ref (sA G o 0)), (1, .int a1)]) hx hb dX3_goOn_18 hl (k := 2) rfl (by rw [ev18]; rfl) (by decide) rfl (fun ls hl => ?_)
      refine lv_goto (tgt := 2) hx hb dX3_goOn_21 (by decide) ?_
      exact IH2 v18 q15 h _ _ _ hw (lv_sub hl [1, 2, 0] rfl)
-- X3_isAhead
set_option maxRecDepth 100000 in
set_option maxHeartbeats 4000000 in
theorem kX3_isAhead (l : Launch) (G : sGl) {S : sWo} {M : sOb} {o : Nat} {T : sOb} {a1 : Int32} {a2 : Int32} {q : Int32} (ho : isTk o) (hT : S o = T) (h : fX3_isAhead T a1 a2 = some q) : sCt l G yX3_isAhead wsX3_isAhead rmX3_isAhead [.ref (sA G o 0), .int a1, .int a2] S M (some (.int q)) S M := by
  refine cMk (cc := cX3_isAhead) (maxL := 4) (ret := (some .boolean)) (by decide) rfl (Nat.le_of_ble_eq_true rfl) ?_
  intro p e s m args below meth c Q hQ hx hb hr hlk hml hown hts hw ls hl
  have hown : s.vm.findClass RX3 = some m.cls := hown
  have hl : lv_has ls 4 [(0, .ref (sA G o 0)), (1, .int a1), (2, .int a2)] := hl
  have hiX3 : ∀ w ∈ u_ws RX3 TX3 15, w ∈ wsX3_isAhead := by decide +kernel
  unfold fX3_isAhead at h
  refine lv_aload_n hx hb dX3_isAhead_0 rfl (lv_at hl 0 rfl) ?_
  refine gTk (v := .ref (sA G o 8)) hx hb hts hiX3 hown hw ho hT 13 (by decide) (hts (.fieldLink RX3 43 "SecondHome$Track" "homes" "[I") (by decide +kernel)) rfl dX3_isAhead_1 ?_
  refine lv_iload_n hx hb dX3_isAhead_4 rfl (lv_at hl 1 rfl) ?_
  obtain ⟨b5, h⟩ := o_in h
  refine ldTk hx hb hw ho hT 7 (by decide) b5 dX3_isAhead_5 ?_
  obtain ⟨k14, ek14, h⟩ := o_nm h
  have J14 : ∀ (y0_14 : Int32) (H : Heap) (locs : List Loc) (ls : Array Slot), sHw G s S M H locs → lv_has ls 4 [(0, .ref (sA G o 0)), (1, .int a1), (2, .int a2)] → k14 y0_14 = some q → W p l e rmX3_isAhead s m args below meth c H locs 0 0 Q (F0 m 14 ls [.int y0_14]) := by
    intro y0_14 H locs ls hw hl h
    replace h := o_j1 ek14 h
    refine lv_istore_n (lv' := [(3, .int y0_14), (0, .ref (sA G o 0)), (1, .int a1), (2, .int a2)]) hx hb dX3_isAhead_14 rfl hl (by decide) rfl (fun ls hl => ?_)
    refine lv_iload_n hx hb dX3_isAhead_15 rfl (lv_at hl 0 rfl) ?_
    refine lv_aload_n hx hb dX3_isAhead_16 rfl (lv_at hl 1 rfl) ?_
    refine gTk (v := .ref (sA G o 8)) hx hb hts hiX3 hown hw ho hT 13 (by decide) (hts (.fieldLink RX3 43 "SecondHome$Track" "homes" "[I") (by decide +kernel)) rfl dX3_isAhead_17 ?_
    refine lv_iload_n hx hb dX3_isAhead_20 rfl (lv_at hl 3 rfl) ?_
    obtain ⟨b21, h⟩ := o_in h
    refine ldTk hx hb hw ho hT 7 (by decide) b21 dX3_isAhead_21 ?_
    obtain ⟨k30, ek30, h⟩ := o_nm h
    have J30 : ∀ (y0_30 : Int32) (H : Heap) (locs : List Loc) (ls : Array Slot), sHw G s S M H locs → lv_has ls 4 [(0, .ref (sA G o 0)), (1, .int a1), (2, .int a2), (3, .int y0_14)] → k30 y0_30 = some q → W p l e rmX3_isAhead s m args below meth c H locs 0 0 Q (F0 m 30 ls [.int y0_30, .int y0_14]) := by
      intro y0_30 H locs ls hw hl h
      replace h := o_j1 ek30 h
      refine lv_icmp_eq (tgt := 35) hx hb dX3_isAhead_30 (by decide) (fun c30 => ?_) (fun c30 => ?_)
      · replace h := o_t c30 h
        refine lv_aload_n hx hb dX3_isAhead_35 rfl (lv_at hl 0 rfl) ?_
        refine gTk (v := .ref (sA G o 8)) hx hb hts hiX3 hown hw ho hT 13 (by decide) (hts (.fieldLink RX3 43 "SecondHome$Track" "homes" "[I") (by decide +kernel)) rfl dX3_isAhead_36 ?_
        refine lv_iload_n hx hb dX3_isAhead_39 rfl (lv_at hl 1 rfl) ?_
        refine ldTk hx hb hw ho hT 7 (by decide) b5 dX3_isAhead_40 ?_
        refine lv_aload_n hx hb dX3_isAhead_41 rfl (lv_at hl 0 rfl) ?_
        refine gTk (v := .ref (sA G o 8)) hx hb hts hiX3 hown hw ho hT 13 (by decide) (hts (.fieldLink RX3 43 "SecondHome$Track" "homes" "[I") (by decide +kernel)) rfl dX3_isAhead_42 ?_
        refine lv_iload_n hx hb dX3_isAhead_45 rfl (lv_at hl 2 rfl) ?_
        refine ldTk hx hb hw ho hT 7 (by decide) b21 dX3_isAhead_46 ?_
        refine lv_icmp_eq (tgt := 71) hx hb dX3_isAhead_47 (by decide) (fun c47 => ?_) (fun c47 => ?_)
        · replace h := o_t c47 h
          refine lv_aload_n hx hb dX3_isAhead_71 rfl (lv_at hl 0 rfl) ?_
          refine gTk (v := .ref (sA G o 6)) hx hb hts hiX3 hown hw ho hT 11 (by decide) (hts (.fieldLink RX3 37 "SecondHome$Track" "yards" "[I") (by decide +kernel)) rfl dX3_isAhead_72 ?_
          refine lv_iload_n hx hb dX3_isAhead_75 rfl (lv_at hl 1 rfl) ?_
          refine ldTk hx hb hw ho hT 5 (by decide) b5 dX3_isAhead_76 ?_
          refine lv_aload_n hx hb dX3_isAhead_77 rfl (lv_at hl 0 rfl) ?_
          refine gTk (v := .ref (sA G o 6)) hx hb hts hiX3 hown hw ho hT 11 (by decide) (hts (.fieldLink RX3 37 "SecondHome$Track" "yards" "[I") (by decide +kernel)) rfl dX3_isAhead_78 ?_
          refine lv_iload_n hx hb dX3_isAhead_81 rfl (lv_at hl 2 rfl) ?_
          refine ldTk hx hb hw ho hT 5 (by decide) b21 dX3_isAhead_82 ?_
          refine lv_icmp_eq (tgt := 107) hx hb dX3_isAhead_83 (by decide) (fun c83 => ?_) (fun c83 => ?_)
          · replace h := o_t c83 h
            refine lv_iload_n hx hb dX3_isAhead_107 rfl (lv_at hl 1 rfl) ?_
            refine lv_iload_n hx hb dX3_isAhead_108 rfl (lv_at hl 2 rfl) ?_
            refine lv_icmp_ge (tgt := 116) hx hb dX3_isAhead_109 (by decide) (fun c109 => ?_) (fun c109 => ?_)
            · replace h := o_t c109 h
              refine lv_iconst (v := 0) hx hb dX3_isAhead_116 (by decide) ?_
              exact rZ hQ hx hb hr hlk hw (Or.inl rfl) dX3_isAhead_117 (o_1 h) rfl rfl
            · replace h := o_f c109 h
              refine lv_iconst (v := 1) hx hb dX3_isAhead_112 (by decide) ?_
              refine lv_goto (tgt := 117) hx hb dX3_isAhead_113 (by decide) ?_
              exact rZ hQ hx hb hr hlk hw (Or.inr rfl) dX3_isAhead_117 (o_1 h) rfl rfl
          · replace h := o_f c83 h
            refine lv_aload_n hx hb dX3_isAhead_86 rfl (lv_at hl 0 rfl) ?_
            refine gTk (v := .ref (sA G o 6)) hx hb hts hiX3 hown hw ho hT 11 (by decide) (hts (.fieldLink RX3 37 "SecondHome$Track" "yards" "[I") (by decide +kernel)) rfl dX3_isAhead_87 ?_
            refine lv_iload_n hx hb dX3_isAhead_90 rfl (lv_at hl 1 rfl) ?_
            refine ldTk hx hb hw ho hT 5 (by decide) b5 dX3_isAhead_91 ?_
            refine lv_aload_n hx hb dX3_isAhead_92 rfl (lv_at hl 0 rfl) ?_
            refine gTk (v := .ref (sA G o 6)) hx hb hts hiX3 hown hw ho hT 11 (by decide) (hts (.fieldLink RX3 37 "SecondHome$Track" "yards" "[I") (by decide +kernel)) rfl dX3_isAhead_93 ?_
            refine lv_iload_n hx hb dX3_isAhead_96 rfl (lv_at hl 2 rfl) ?_
            refine ldTk hx hb hw ho hT 5 (by decide) b21 dX3_isAhead_97 ?_
            refine lv_icmp_le (tgt := 105) hx hb dX3_isAhead_98 (by decide) (fun c98 => ?_) (fun c98 => ?_)
            · replace h := o_t c98 h
              refine lv_iconst (v := 0) hx hb dX3_isAhead_105 (by decide) ?_
              exact rZ hQ hx hb hr hlk hw (Or.inl rfl) dX3_isAhead_106 (o_1 h) rfl rfl
            · replace h := o_f c98 h
              refine lv_iconst (v := 1) hx hb dX3_isAhead_101 (by decide) ?_
              refine lv_goto (tgt := 106) hx hb dX3_isAhead_102 (by decide) ?_
              exact rZ hQ hx hb hr hlk hw (Or.inr rfl) dX3_isAhead_106 (o_1 h) rfl rfl
        · replace h := o_f c47 h
          refine lv_aload_n hx hb dX3_isAhead_50 rfl (lv_at hl 0 rfl) ?_
          refine gTk (v := .ref (sA G o 8)) hx hb hts hiX3 hown hw ho hT 13 (by decide) (hts (.fieldLink RX3 43 "SecondHome$Track" "homes" "[I") (by decide +kernel)) rfl dX3_isAhead_51 ?_
          refine lv_iload_n hx hb dX3_isAhead_54 rfl (lv_at hl 1 rfl) ?_
          refine ldTk hx hb hw ho hT 7 (by decide) b5 dX3_isAhead_55 ?_
          refine lv_aload_n hx hb dX3_isAhead_56 rfl (lv_at hl 0 rfl) ?_
          refine gTk (v := .ref (sA G o 8)) hx hb hts hiX3 hown hw ho hT 13 (by decide) (hts (.fieldLink RX3 43 "SecondHome$Track" "homes" "[I") (by decide +kernel)) rfl dX3_isAhead_57 ?_
          refine lv_iload_n hx hb dX3_isAhead_60 rfl (lv_at hl 2 rfl) ?_
          refine ldTk hx hb hw ho hT 7 (by decide) b21 dX3_isAhead_61 ?_
          refine lv_icmp_ge (tgt := 69) hx hb dX3_isAhead_62 (by decide) (fun c62 => ?_) (fun c62 => ?_)
          · replace h := o_t c62 h
            refine lv_iconst (v := 0) hx hb dX3_isAhead_69 (by decide) ?_
            exact rZ hQ hx hb hr hlk hw (Or.inl rfl) dX3_isAhead_70 (o_1 h) rfl rfl
          · replace h := o_f c62 h
            refine lv_iconst (v := 1) hx hb dX3_isAhead_65 (by decide) ?_
            refine lv_goto (tgt := 70) hx hb dX3_isAhead_66 (by decide) ?_
            exact rZ hQ hx hb hr hlk hw (Or.inr rfl) dX3_isAhead_70 (o_1 h) rfl rfl
      · replace h := o_f c30 h
        refine lv_iload_n hx hb dX3_isAhead_33 rfl (lv_at hl 3 rfl) ?_
        obtain ⟨b34, h⟩ := o_in h
        exact rZ hQ hx hb hr hlk hw (Decidable.not_not.mp b34) dX3_isAhead_34 (o_1 h) rfl rfl
    refine lv_if_lt (tgt := 29) hx hb dX3_isAhead_22 (by decide) (fun c22 => ?_) (fun c22 => ?_)
    · replace h := o_t c22 h
      refine lv_iconst (v := 0) hx hb dX3_isAhead_29 (by decide) ?_
      exact J30 (0 : Int32) _ _ _ hw (lv_sub hl [1, 2, 3, 0] rfl) h
    · replace h := o_f c22 h
      refine lv_iconst (v := 1) hx hb dX3_isAhead_25 (by decide) ?_
      refine lv_goto (tgt := 30) hx hb dX3_isAhead_26 (by decide) ?_
      exact J30 (1 : Int32) _ _ _ hw (lv_sub hl [1, 2, 3, 0] rfl) h
  refine lv_if_lt (tgt := 13) hx hb dX3_isAhead_6 (by decide) (fun c6 => ?_) (fun c6 => ?_)
  · replace h := o_t c6 h
    refine lv_iconst (v := 0) hx hb dX3_isAhead_13 (by decide) ?_
    exact J14 (0 : Int32) _ _ _ hw (lv_sub hl [0, 1, 2] rfl) h
  · replace h := o_f c6 h
    refine lv_iconst (v := 1) hx hb dX3_isAhead_9 (by decide) ?_
    refine lv_goto (tgt := 14) hx hb dX3_isAhead_10 (by decide) ?_
    exact J14 (1 : Int32) _ _ _ hw (lv_sub hl [0, 1, 2] rfl) h
-- X3_placeOf
set_option maxRecDepth 100000 in
set_option maxHeartbeats 4000000 in
theorem kX3_placeOf (l : Launch) (G : sGl) {S : sWo} {M : sOb} {o : Nat} {T : sOb} {a1 : Int32} {q : Int32} (ho : isTk o) (hT : S o = T) (h : fX3_placeOf T a1 = some q) : sCt l G yX3_placeOf wsX3_placeOf rmX3_placeOf [.ref (sA G o 0), .int a1] S M (some (.int q)) S M := by
  refine cMk (cc := cX3_placeOf) (maxL := 4) (ret := (some .int)) (by decide) rfl (Nat.le_of_ble_eq_true rfl) ?_
  intro p e s m args below meth c Q hQ hx hb hr hlk hml hown hts hw ls hl
  have hown : s.vm.findClass RX3 = some m.cls := hown
  have hl : lv_has ls 4 [(0, .ref (sA G o 0)), (1, .int a1)] := hl
  have hiX3 : ∀ w ∈ u_ws RX3 TX3 15, w ∈ wsX3_placeOf := by decide +kernel
  unfold fX3_placeOf at h
  refine lv_iconst (v := 0) hx hb dX3_placeOf_0 (by decide) ?_
  refine lv_istore_n (lv' := [(2, .int (0 : Int32)), (0, .ref (sA G o 0)), (1, .int a1)]) hx hb dX3_placeOf_1 rfl hl (by decide) rfl (fun ls hl => ?_)
  refine lv_aload_n hx hb dX3_placeOf_2 rfl (lv_at hl 1 rfl) ?_
  refine lv_iload_n hx hb dX3_placeOf_3 rfl (lv_at hl 2 rfl) ?_
  obtain ⟨q4, eq4, h⟩ := o_bd h
  refine kV (As := [.int a1]) (rest := []) (st' := [.int q4]) ⟨hx, hb, hml, hown, hts⟩ (kX3_has l G ho hT eq4) (cwV 1 hts gX3_placeOf_X3_has rfl rfl rfl qqX3_has ⟨Nat.le_of_ble_eq_true rfl, Nat.le_of_ble_eq_true rfl⟩) hw (rvTk hw ho) rfl hl.1 rfl (Nat.le_of_ble_eq_true rfl) dX3_placeOf_4 ⟨Nat.zero_le _, Nat.zero_le _⟩ rfl (fun H locs hw => ?_)
  refine lv_if_eq (tgt := 43) hx hb dX3_placeOf_7 (by decide) (fun c7 => ?_) (fun c7 => ?_)
  · replace h := o_t c7 h
    refine lv_iload_n hx hb dX3_placeOf_43 rfl (lv_at hl 0 rfl) ?_
    exact rI hQ hx hb hr hlk hw dX3_placeOf_44 (o_1 h) rfl rfl
  · replace h := o_f c7 h
    refine lv_iconst (v := 0) hx hb dX3_placeOf_10 (by decide) ?_
    refine lv_istore_n (lv' := [(3, .int (0 : Int32)), (2, .int (0 : Int32)), (0, .ref (sA G o 0)), (1, .int a1)]) hx hb dX3_placeOf_11 rfl hl (by decide) rfl (fun ls hl => ?_)
    refine fx2_w (F := (bX3_placeOf_12 T a1)) (P := fun x2_12 x3_12 => ∀ (H : Heap) (locs : List Loc) (ls : Array Slot), sHw G s S M H locs → lv_has ls 4 [(0, .ref (sA G o 0)), (1, .int a1), (2, .int x2_12), (3, .int x3_12)] → W p l e rmX3_placeOf s m args below meth c H locs 0 0 Q (F0 m 12 ls [])) ?_ _ _ _ h _ _ _ hw (lv_sub hl [2, 3, 1, 0] rfl)
    intro rc12 IH12 x2_12 x3_12 h H locs ls hw hl
    unfold bX3_placeOf_12 at h
    refine lv_iload_n hx hb dX3_placeOf_12 rfl (lv_at hl 3 rfl) ?_
    refine lv_aload_n hx hb dX3_placeOf_13 rfl (lv_at hl 0 rfl) ?_
    refine gTk (v := .int (T.1 4)) hx hb hts hiX3 hown hw ho hT 4 (by decide) (hts (.fieldLink RX3 52 "SecondHome$Track" "count" "I") (by decide +kernel)) rfl dX3_placeOf_14 ?_
    refine lv_icmp_ge (tgt := 43) hx hb dX3_placeOf_17 (by decide) (fun c17 => ?_) (fun c17 => ?_)
    · replace h := o_t c17 h
      refine lv_iload_n hx hb dX3_placeOf_43 rfl (lv_at hl 2 rfl) ?_
      exact rI hQ hx hb hr hlk hw dX3_placeOf_44 (o_1 h) rfl rfl
    · replace h := o_f c17 h
      refine lv_iload_n hx hb dX3_placeOf_20 rfl (lv_at hl 3 rfl) ?_
      refine lv_iload_n hx hb dX3_placeOf_21 rfl (lv_at hl 1 rfl) ?_
      refine lv_icmp_eq (tgt := 37) hx hb dX3_placeOf_22 (by decide) (fun c22 => ?_) (fun c22 => ?_)
      · replace h := o_t c22 h
        obtain ⟨v37, ev37, h⟩ := o_nm h
        refine lv_iinc (v := v37) (lv' := [(3, .int v37), (0, .ref (sA G o 0)), (1, .int a1), (2, .int x2_12)]) hx hb dX3_placeOf_37 hl (k := 3) rfl (by rw [ev37]; rfl) (by decide) rfl (fun ls hl => ?_)
        refine lv_goto (tgt := 12) hx hb dX3_placeOf_40 (by decide) ?_
        exact IH12 x2_12 v37 h _ _ _ hw (lv_sub hl [1, 2, 3, 0] rfl)
      · replace h := o_f c22 h
        refine lv_aload_n hx hb dX3_placeOf_25 rfl (lv_at hl 0 rfl) ?_
        refine lv_iload_n hx hb dX3_placeOf_26 rfl (lv_at hl 3 rfl) ?_
        refine lv_iload_n hx hb dX3_placeOf_27 rfl (lv_at hl 1 rfl) ?_
        obtain ⟨q28, eq28, h⟩ := o_bd h
        refine kV (As := [.int x3_12, .int a1]) (rest := []) (st' := [.int q28]) ⟨hx, hb, hml, hown, hts⟩ (kX3_isAhead l G ho hT eq28) (cwV 2 hts gX3_placeOf_X3_isAhead rfl rfl rfl qqX3_isAhead ⟨Nat.le_of_ble_eq_true rfl, Nat.le_of_ble_eq_true rfl⟩) hw (rvTk hw ho) rfl hl.1 rfl (Nat.le_of_ble_eq_true rfl) dX3_placeOf_28 ⟨Nat.zero_le _, Nat.zero_le _⟩ rfl (fun H locs hw => ?_)
        refine lv_if_eq (tgt := 37) hx hb dX3_placeOf_31 (by decide) (fun c31 => ?_) (fun c31 => ?_)
        · replace h := o_t c31 h
          obtain ⟨v37, ev37, h⟩ := o_nm h
          refine lv_iinc (v := v37) (lv' := [(3, .int v37), (0, .ref (sA G o 0)), (1, .int a1), (2, .int x2_12)]) hx hb dX3_placeOf_37 hl (k := 3) rfl (by rw [ev37]; rfl) (by decide) rfl (fun ls hl => ?_)
          refine lv_goto (tgt := 12) hx hb dX3_placeOf_40 (by decide) ?_
          exact IH12 x2_12 v37 h _ _ _ hw (lv_sub hl [1, 2, 3, 0] rfl)
        · replace h := o_f c31 h
          obtain ⟨v34, ev34, h⟩ := o_nm h
          refine lv_iinc (v := v34) (lv' := [(2, .int v34), (0, .ref (sA G o 0)), (1, .int a1), (3, .int x3_12)]) hx hb dX3_placeOf_34 hl (k := 2) rfl (by rw [ev34]; rfl) (by decide) rfl (fun ls hl => ?_)
          obtain ⟨v37, ev37, h⟩ := o_nm h
          refine lv_iinc (v := v37) (lv' := [(3, .int v37), (2, .int v34), (0, .ref (sA G o 0)), (1, .int a1)]) hx hb dX3_placeOf_37 hl (k := 3) rfl (by rw [ev37]; rfl) (by decide) rfl (fun ls hl => ?_)
          refine lv_goto (tgt := 12) hx hb dX3_placeOf_40 (by decide) ?_
          exact IH12 v34 v37 h _ _ _ hw (lv_sub hl [2, 3, 1, 0] rfl)
-- X3_whoseAt
set_option maxRecDepth 100000 in
set_option maxHeartbeats 4000000 in
theorem kX3_whoseAt (l : Launch) (G : sGl) {S : sWo} {M : sOb} {o : Nat} {T : sOb} {a1 : Int32} {q : Int32} (ho : isTk o) (hT : S o = T) (h : fX3_whoseAt T a1 = some q) : sCt l G yX3_whoseAt wsX3_whoseAt rmX3_whoseAt [.ref (sA G o 0), .int a1] S M (some (.int q)) S M := by
  refine cMk (cc := cX3_whoseAt) (maxL := 3) (ret := (some .int)) (by decide) rfl (Nat.le_of_ble_eq_true rfl) ?_
  intro p e s m args below meth c Q hQ hx hb hr hlk hml hown hts hw ls hl
  have hown : s.vm.findClass RX3 = some m.cls := hown
  have hl : lv_has ls 3 [(0, .ref (sA G o 0)), (1, .int a1)] := hl
  have hiX3 : ∀ w ∈ u_ws RX3 TX3 15, w ∈ wsX3_whoseAt := by decide +kernel
  unfold fX3_whoseAt at h
  refine lv_iconst (v := 0) hx hb dX3_whoseAt_0 (by decide) ?_
  refine lv_istore_n (lv' := [(2, .int (0 : Int32)), (0, .ref (sA G o 0)), (1, .int a1)]) hx hb dX3_whoseAt_1 rfl hl (by decide) rfl (fun ls hl => ?_)
  refine fx1_w (F := (bX3_whoseAt_2 T a1)) (P := fun x2_2 => ∀ (H : Heap) (locs : List Loc) (ls : Array Slot), sHw G s S M H locs → lv_has ls 3 [(0, .ref (sA G o 0)), (1, .int a1), (2, .int x2_2)] → W p l e rmX3_whoseAt s m args below meth c H locs 0 0 Q (F0 m 2 ls [])) ?_ _ _ h _ _ _ hw (lv_sub hl [1, 2, 0] rfl)
  intro rc2 IH2 x2_2 h H locs ls hw hl
  unfold bX3_whoseAt_2 at h
  refine lv_iload_n hx hb dX3_whoseAt_2 rfl (lv_at hl 2 rfl) ?_
  refine lv_aload_n hx hb dX3_whoseAt_3 rfl (lv_at hl 0 rfl) ?_
  refine gTk (v := .int (T.1 4)) hx hb hts hiX3 hown hw ho hT 4 (by decide) (hts (.fieldLink RX3 52 "SecondHome$Track" "count" "I") (by decide +kernel)) rfl dX3_whoseAt_4 ?_
  refine lv_icmp_ge (tgt := 27) hx hb dX3_whoseAt_7 (by decide) (fun c7 => ?_) (fun c7 => ?_)
  · replace h := o_t c7 h
    refine lv_iconst (v := -1) hx hb dX3_whoseAt_27 (by decide) ?_
    exact rI hQ hx hb hr hlk hw dX3_whoseAt_28 (o_1 h) rfl rfl
  · replace h := o_f c7 h
    refine lv_aload_n hx hb dX3_whoseAt_10 rfl (lv_at hl 0 rfl) ?_
    refine lv_iload_n hx hb dX3_whoseAt_11 rfl (lv_at hl 2 rfl) ?_
    obtain ⟨q12, eq12, h⟩ := o_bd h
    refine kV (As := [.int x2_2]) (rest := []) (st' := [.int q12]) ⟨hx, hb, hml, hown, hts⟩ (kX3_placeOf l G ho hT eq12) (cwV 1 hts gX3_whoseAt_X3_placeOf rfl rfl rfl qqX3_placeOf ⟨Nat.le_of_ble_eq_true rfl, Nat.le_of_ble_eq_true rfl⟩) hw (rvTk hw ho) rfl hl.1 rfl (Nat.le_of_ble_eq_true rfl) dX3_whoseAt_12 ⟨Nat.zero_le _, Nat.zero_le _⟩ rfl (fun H locs hw => ?_)
    refine lv_iload_n hx hb dX3_whoseAt_15 rfl (lv_at hl 1 rfl) ?_
    refine lv_icmp_ne (tgt := 21) hx hb dX3_whoseAt_16 (by decide) (fun c16 => ?_) (fun c16 => ?_)
    · replace h := o_f c16 h
      obtain ⟨v21, ev21, h⟩ := o_nm h
      refine lv_iinc (v := v21) (lv' := [(2, .int v21), (0, .ref (sA G o 0)), (1, .int a1)]) hx hb dX3_whoseAt_21 hl (k := 2) rfl (by rw [ev21]; rfl) (by decide) rfl (fun ls hl => ?_)
      refine lv_goto (tgt := 2) hx hb dX3_whoseAt_24 (by decide) ?_
      exact IH2 v21 h _ _ _ hw (lv_sub hl [1, 2, 0] rfl)
    · replace h := o_t c16 h
      refine lv_iload_n hx hb dX3_whoseAt_19 rfl (lv_at hl 2 rfl) ?_
      exact rI hQ hx hb hr hlk hw dX3_whoseAt_20 (o_1 h) rfl rfl
-- X3_prizeOwner
set_option maxRecDepth 100000 in
set_option maxHeartbeats 4000000 in
theorem kX3_prizeOwner (l : Launch) (G : sGl) {S : sWo} {M : sOb} {o : Nat} {T : sOb} {a1 : Int32} {q : Int32} (ho : isTk o) (hT : S o = T) (h : fX3_prizeOwner T a1 = some q) : sCt l G yX3_prizeOwner wsX3_prizeOwner rmX3_prizeOwner [.ref (sA G o 0), .int a1] S M (some (.int q)) S M := by
  refine cMk (cc := cX3_prizeOwner) (maxL := 2) (ret := (some .int)) (by decide) rfl (Nat.le_of_ble_eq_true rfl) ?_
  intro p e s m args below meth c Q hQ hx hb hr hlk hml hown hts hw ls hl
  have hown : s.vm.findClass RX3 = some m.cls := hown
  have hl : lv_has ls 2 [(0, .ref (sA G o 0)), (1, .int a1)] := hl
  have hiX3 : ∀ w ∈ u_ws RX3 TX3 15, w ∈ wsX3_prizeOwner := by decide +kernel
  unfold fX3_prizeOwner at h
  refine lv_iload_n hx hb dX3_prizeOwner_0 rfl (lv_at hl 1 rfl) ?_
  by_cases c1_0 : a1 = (0 : Int32)
  · replace h := o_t c1_0 h
    refine lv_tableIn (tgt := 28) hx hb dX3_prizeOwner_1 (by rw [c1_0]; decide) (by rw [c1_0]; decide) (by rw [c1_0]; rfl) (by decide) ?_
    refine lv_aload_n hx hb dX3_prizeOwner_28 rfl (lv_at hl 0 rfl) ?_
    refine lv_iconst (v := 0) hx hb dX3_prizeOwner_29 (by decide) ?_
    obtain ⟨q30, eq30, h⟩ := o_bd h
    refine kV (As := [.int (0 : Int32)]) (rest := []) (st' := [.int q30]) ⟨hx, hb, hml, hown, hts⟩ (kX3_whoseAt l G ho hT eq30) (cwV 1 hts gX3_prizeOwner_X3_whoseAt rfl rfl rfl qqX3_whoseAt ⟨Nat.le_of_ble_eq_true rfl, Nat.le_of_ble_eq_true rfl⟩) hw (rvTk hw ho) rfl hl.1 rfl (Nat.le_of_ble_eq_true rfl) dX3_prizeOwner_30 ⟨Nat.zero_le _, Nat.zero_le _⟩ rfl (fun H locs hw => ?_)
    exact rI hQ hx hb hr hlk hw dX3_prizeOwner_33 (o_1 h) rfl rfl
  replace h := o_f c1_0 h
  by_cases c1_1 : a1 = (1 : Int32)
  · replace h := o_t c1_1 h
    refine lv_tableIn (tgt := 34) hx hb dX3_prizeOwner_1 (by rw [c1_1]; decide) (by rw [c1_1]; decide) (by rw [c1_1]; rfl) (by decide) ?_
    refine lv_aload_n hx hb dX3_prizeOwner_34 rfl (lv_at hl 0 rfl) ?_
    refine lv_iconst (v := 1) hx hb dX3_prizeOwner_35 (by decide) ?_
    obtain ⟨q36, eq36, h⟩ := o_bd h
    refine kV (As := [.int (1 : Int32)]) (rest := []) (st' := [.int q36]) ⟨hx, hb, hml, hown, hts⟩ (kX3_whoseAt l G ho hT eq36) (cwV 1 hts gX3_prizeOwner_X3_whoseAt rfl rfl rfl qqX3_whoseAt ⟨Nat.le_of_ble_eq_true rfl, Nat.le_of_ble_eq_true rfl⟩) hw (rvTk hw ho) rfl hl.1 rfl (Nat.le_of_ble_eq_true rfl) dX3_prizeOwner_36 ⟨Nat.zero_le _, Nat.zero_le _⟩ rfl (fun H locs hw => ?_)
    exact rI hQ hx hb hr hlk hw dX3_prizeOwner_39 (o_1 h) rfl rfl
  replace h := o_f c1_1 h
  by_cases c1_2 : a1 = (2 : Int32)
  · replace h := o_t c1_2 h
    refine lv_tableIn (tgt := 40) hx hb dX3_prizeOwner_1 (by rw [c1_2]; decide) (by rw [c1_2]; decide) (by rw [c1_2]; rfl) (by decide) ?_
    refine lv_aload_n hx hb dX3_prizeOwner_40 rfl (lv_at hl 0 rfl) ?_
    refine lv_aload_n hx hb dX3_prizeOwner_41 rfl (lv_at hl 0 rfl) ?_
    refine gTk (v := .int (T.1 4)) hx hb hts hiX3 hown hw ho hT 4 (by decide) (hts (.fieldLink RX3 52 "SecondHome$Track" "count" "I") (by decide +kernel)) rfl dX3_prizeOwner_42 ?_
    refine lv_iconst (v := 2) hx hb dX3_prizeOwner_45 (by decide) ?_
    refine lv_isub hx hb dX3_prizeOwner_46 ?_
    obtain ⟨q47, eq47, h⟩ := o_bd h
    refine kV (As := [.int ((T.1 4) - (2 : Int32))]) (rest := []) (st' := [.int q47]) ⟨hx, hb, hml, hown, hts⟩ (kX3_whoseAt l G ho hT eq47) (cwV 1 hts gX3_prizeOwner_X3_whoseAt rfl rfl rfl qqX3_whoseAt ⟨Nat.le_of_ble_eq_true rfl, Nat.le_of_ble_eq_true rfl⟩) hw (rvTk hw ho) rfl hl.1 rfl (Nat.le_of_ble_eq_true rfl) dX3_prizeOwner_47 ⟨Nat.zero_le _, Nat.zero_le _⟩ rfl (fun H locs hw => ?_)
    exact rI hQ hx hb hr hlk hw dX3_prizeOwner_50 (o_1 h) rfl rfl
  replace h := o_f c1_2 h
  have sw1 : a1.toInt < 0 ∨ 2 < a1.toInt := by
    have z0 := sw_ne c1_0
    have z1 := sw_ne c1_1
    have z2 := sw_ne c1_2
    rw [show ((0 : Int32)).toInt = 0 from rfl] at z0
    rw [show ((1 : Int32)).toInt = 1 from rfl] at z1
    rw [show ((2 : Int32)).toInt = 2 from rfl] at z2
    omega
  refine lv_tableOut (tgt := 51) hx hb dX3_prizeOwner_1 sw1 (by decide) ?_
  refine lv_aload_n hx hb dX3_prizeOwner_51 rfl (lv_at hl 0 rfl) ?_
  refine lv_aload_n hx hb dX3_prizeOwner_52 rfl (lv_at hl 0 rfl) ?_
  refine gTk (v := .int (T.1 4)) hx hb hts hiX3 hown hw ho hT 4 (by decide) (hts (.fieldLink RX3 52 "SecondHome$Track" "count" "I") (by decide +kernel)) rfl dX3_prizeOwner_53 ?_
  refine lv_iconst (v := 1) hx hb dX3_prizeOwner_56 (by decide) ?_
  refine lv_isub hx hb dX3_prizeOwner_57 ?_
  refine lv_iconst (v := 2) hx hb dX3_prizeOwner_58 (by decide) ?_
  refine lv_idiv hx hb dX3_prizeOwner_59 (by decide) ?_
  obtain ⟨q60, eq60, h⟩ := o_bd h
  refine kV (As := [.int (((T.1 4) - (1 : Int32)) / (2 : Int32))]) (rest := []) (st' := [.int q60]) ⟨hx, hb, hml, hown, hts⟩ (kX3_whoseAt l G ho hT eq60) (cwV 1 hts gX3_prizeOwner_X3_whoseAt rfl rfl rfl qqX3_whoseAt ⟨Nat.le_of_ble_eq_true rfl, Nat.le_of_ble_eq_true rfl⟩) hw (rvTk hw ho) rfl hl.1 rfl (Nat.le_of_ble_eq_true rfl) dX3_prizeOwner_60 ⟨Nat.zero_le _, Nat.zero_le _⟩ rfl (fun H locs hw => ?_)
  exact rI hQ hx hb hr hlk hw dX3_prizeOwner_63 (o_1 h) rfl rfl
-- X3_raceOwner
set_option maxRecDepth 100000 in
set_option maxHeartbeats 4000000 in
theorem kX3_raceOwner (l : Launch) (G : sGl) {S : sWo} {M : sOb} {o : Nat} {T : sOb} {q : (Int32 × sOb)} (ho : isTk o) (hT : S o = T) (h : fX3_raceOwner T = some q) : sCt l G yX3_raceOwner wsX3_raceOwner rmX3_raceOwner [.ref (sA G o 0)] S M (some (.int q.1)) (sUp S o q.2) M := by
  refine cMk (cc := cX3_raceOwner) (maxL := 1) (ret := (some .int)) (by decide) rfl (Nat.le_of_ble_eq_true rfl) ?_
  intro p e s m args below meth c Q hQ hx hb hr hlk hml hown hts hw ls hl
  have hown : s.vm.findClass RX3 = some m.cls := hown
  have hl : lv_has ls 1 [(0, .ref (sA G o 0))] := hl
  have hiX3 : ∀ w ∈ u_ws RX3 TX3 15, w ∈ wsX3_raceOwner := by decide +kernel
  rw [show S = sUp S o T from (by rw [← hT]; exact (sUp_i S o).symm)] at hw
  unfold fX3_raceOwner at h
  refine lv_aload_n hx hb dX3_raceOwner_0 rfl (lv_at hl 0 rfl) ?_
  obtain ⟨q1, eq1, h⟩ := o_bd h
  refine kV (As := []) (rest := []) (st' := []) ⟨hx, hb, hml, hown, hts⟩ (kX3_lineUp l G ho (sUp_s S o T) eq1) (cwV 0 hts gX3_raceOwner_X3_lineUp rfl rfl rfl qqX3_lineUp ⟨Nat.le_of_ble_eq_true rfl, Nat.le_of_ble_eq_true rfl⟩) hw (rvTk hw ho) rfl hl.1 rfl (Nat.le_of_ble_eq_true rfl) dX3_raceOwner_1 ⟨Nat.zero_le _, Nat.zero_le _⟩ rfl (fun H locs hw => ?_)
  rw [sUp_u] at hw
  refine lv_aload_n hx hb dX3_raceOwner_4 rfl (lv_at hl 0 rfl) ?_
  refine lv_sipush (v := 2000) hx hb dX3_raceOwner_5 (by decide) ?_
  obtain ⟨q8, eq8, h⟩ := o_bd h
  refine kV (As := [.int (2000 : Int32)]) (rest := []) (st' := []) ⟨hx, hb, hml, hown, hts⟩ (kX3_goOn l G ho (sUp_s S o q1) eq8) (cwV 1 hts gX3_raceOwner_X3_goOn rfl rfl rfl qqX3_goOn ⟨Nat.le_of_ble_eq_true rfl, Nat.le_of_ble_eq_true rfl⟩) hw (rvTk hw ho) rfl hl.1 rfl (Nat.le_of_ble_eq_true rfl) dX3_raceOwner_8 ⟨Nat.zero_le _, Nat.zero_le _⟩ rfl (fun H locs hw => ?_)
  rw [sUp_u] at hw
  refine lv_aload_n hx hb dX3_raceOwner_11 rfl (lv_at hl 0 rfl) ?_
  obtain ⟨q12, eq12, h⟩ := o_bd h
  refine kV (As := []) (rest := []) (st' := [.int q12]) ⟨hx, hb, hml, hown, hts⟩ (kX3_allHome l G ho (sUp_s S o q8) eq12) (cwV 0 hts gX3_raceOwner_X3_allHome rfl rfl rfl qqX3_allHome ⟨Nat.le_of_ble_eq_true rfl, Nat.le_of_ble_eq_true rfl⟩) hw (rvTk hw ho) rfl hl.1 rfl (Nat.le_of_ble_eq_true rfl) dX3_raceOwner_12 ⟨Nat.zero_le _, Nat.zero_le _⟩ rfl (fun H locs hw => ?_)
  refine lv_if_eq (tgt := 29) hx hb dX3_raceOwner_15 (by decide) (fun c15 => ?_) (fun c15 => ?_)
  · replace h := o_t c15 h
    refine lv_iconst (v := -1) hx hb dX3_raceOwner_29 (by decide) ?_
    exact rI hQ hx hb hr hlk hw dX3_raceOwner_30 (o_2a h) (congrArg (sUp S o) (o_2b h)) rfl
  · replace h := o_f c15 h
    refine lv_aload_n hx hb dX3_raceOwner_18 rfl (lv_at hl 0 rfl) ?_
    refine lv_aload_n hx hb dX3_raceOwner_19 rfl (lv_at hl 0 rfl) ?_
    refine gTk (v := .int (q8.1 2)) hx hb hts hiX3 hown hw ho (sUp_s S o q8) 2 (by decide) (hts (.fieldLink RX3 18 "SecondHome$Track" "law" "I") (by decide +kernel)) rfl dX3_raceOwner_20 ?_
    obtain ⟨q23, eq23, h⟩ := o_bd h
    refine kV (As := [.int (q8.1 2)]) (rest := []) (st' := [.int q23]) ⟨hx, hb, hml, hown, hts⟩ (kX3_prizeOwner l G ho (sUp_s S o q8) eq23) (cwV 1 hts gX3_raceOwner_X3_prizeOwner rfl rfl rfl qqX3_prizeOwner ⟨Nat.le_of_ble_eq_true rfl, Nat.le_of_ble_eq_true rfl⟩) hw (rvTk hw ho) rfl hl.1 rfl (Nat.le_of_ble_eq_true rfl) dX3_raceOwner_23 ⟨Nat.zero_le _, Nat.zero_le _⟩ rfl (fun H locs hw => ?_)
    refine lv_goto (tgt := 30) hx hb dX3_raceOwner_26 (by decide) ?_
    exact rI hQ hx hb hr hlk hw dX3_raceOwner_30 (o_2a h) (congrArg (sUp S o) (o_2b h)) rfl
-- X3_givePoints
set_option maxRecDepth 100000 in
set_option maxHeartbeats 4000000 in
theorem kX3_givePoints (l : Launch) (G : sGl) {S : sWo} {M : sOb} {o : Nat} {T : sOb} {q : (Int32 × sOb)} (ho : isTk o) (hT : S o = T) (h : fX3_givePoints T = some q) : sCt l G yX3_givePoints wsX3_givePoints rmX3_givePoints [.ref (sA G o 0)] S M (some (.int q.1)) (sUp S o q.2) M := by
  refine cMk (cc := cX3_givePoints) (maxL := 5) (ret := (some .int)) (by decide) rfl (Nat.le_of_ble_eq_true rfl) ?_
  intro p e s m args below meth c Q hQ hx hb hr hlk hml hown hts hw ls hl
  have hown : s.vm.findClass RX3 = some m.cls := hown
  have hl : lv_has ls 5 [(0, .ref (sA G o 0))] := hl
  have hiX3 : ∀ w ∈ u_ws RX3 TX3 15, w ∈ wsX3_givePoints := by decide +kernel
  rw [show S = sUp S o T from (by rw [← hT]; exact (sUp_i S o).symm)] at hw
  unfold fX3_givePoints at h
  refine lv_iconst (v := 0) hx hb dX3_givePoints_0 (by decide) ?_
  refine lv_istore_n (lv' := [(1, .int (0 : Int32)), (0, .ref (sA G o 0))]) hx hb dX3_givePoints_1 rfl hl (by decide) rfl (fun ls hl => ?_)
  refine lv_aload_n hx hb dX3_givePoints_2 rfl (lv_at hl 1 rfl) ?_
  refine lv_aload_n hx hb dX3_givePoints_3 rfl (lv_at hl 1 rfl) ?_
  refine gTk (v := .int (T.1 2)) hx hb hts hiX3 hown hw ho (sUp_s S o T) 2 (by decide) (hts (.fieldLink RX3 18 "SecondHome$Track" "law" "I") (by decide +kernel)) rfl dX3_givePoints_4 ?_
  obtain ⟨q7, eq7, h⟩ := o_bd h
  refine kV (As := [.int (T.1 2)]) (rest := []) (st' := [.int q7]) ⟨hx, hb, hml, hown, hts⟩ (kX3_prizeOwner l G ho (sUp_s S o T) eq7) (cwV 1 hts gX3_givePoints_X3_prizeOwner rfl rfl rfl qqX3_prizeOwner ⟨Nat.le_of_ble_eq_true rfl, Nat.le_of_ble_eq_true rfl⟩) hw (rvTk hw ho) rfl hl.1 rfl (Nat.le_of_ble_eq_true rfl) dX3_givePoints_7 ⟨Nat.zero_le _, Nat.zero_le _⟩ rfl (fun H locs hw => ?_)
  refine lv_istore_n (lv' := [(2, .int q7), (1, .int (0 : Int32)), (0, .ref (sA G o 0))]) hx hb dX3_givePoints_10 rfl hl (by decide) rfl (fun ls hl => ?_)
  refine lv_iconst (v := 0) hx hb dX3_givePoints_11 (by decide) ?_
  refine lv_istore_n (lv' := [(3, .int (0 : Int32)), (2, .int q7), (1, .int (0 : Int32)), (0, .ref (sA G o 0))]) hx hb dX3_givePoints_12 rfl hl (by decide) rfl (fun ls hl => ?_)
  refine fx3_w (F := (bX3_givePoints_13 q7)) (P := fun x1_13 x3_13 T_13 => ∀ (H : Heap) (locs : List Loc) (ls : Array Slot), sHw G s (sUp S o T_13) M H locs → lv_has ls 5 [(0, .ref (sA G o 0)), (1, .int x1_13), (2, .int q7), (3, .int x3_13)] → W p l e rmX3_givePoints s m args below meth c H locs 0 0 Q (F0 m 13 ls [])) ?_ _ _ _ _ h _ _ _ hw (lv_sub hl [3, 2, 1, 0] rfl)
  intro rc13 IH13 x1_13 x3_13 T_13 h H locs ls hw hl
  unfold bX3_givePoints_13 at h
  refine lv_iload_n hx hb dX3_givePoints_13 rfl (lv_at hl 3 rfl) ?_
  refine lv_aload_n hx hb dX3_givePoints_14 rfl (lv_at hl 0 rfl) ?_
  refine gTk (v := .int (T_13.1 4)) hx hb hts hiX3 hown hw ho (sUp_s S o T_13) 4 (by decide) (hts (.fieldLink RX3 52 "SecondHome$Track" "count" "I") (by decide +kernel)) rfl dX3_givePoints_15 ?_
  refine lv_icmp_ge (tgt := 69) hx hb dX3_givePoints_18 (by decide) (fun c18 => ?_) (fun c18 => ?_)
  · replace h := o_t c18 h
    refine lv_iload_n hx hb dX3_givePoints_69 rfl (lv_at hl 1 rfl) ?_
    exact rI hQ hx hb hr hlk hw dX3_givePoints_70 (o_2a h) (congrArg (sUp S o) (o_2b h)) rfl
  · replace h := o_f c18 h
    refine lv_aload_n hx hb dX3_givePoints_21 rfl (lv_at hl 0 rfl) ?_
    refine gTk (v := .int (T_13.1 4)) hx hb hts hiX3 hown hw ho (sUp_s S o T_13) 4 (by decide) (hts (.fieldLink RX3 52 "SecondHome$Track" "count" "I") (by decide +kernel)) rfl dX3_givePoints_22 ?_
    refine lv_iconst (v := 1) hx hb dX3_givePoints_25 (by decide) ?_
    refine lv_isub hx hb dX3_givePoints_26 ?_
    refine lv_aload_n hx hb dX3_givePoints_27 rfl (lv_at hl 0 rfl) ?_
    refine lv_iload_n hx hb dX3_givePoints_28 rfl (lv_at hl 3 rfl) ?_
    obtain ⟨q29, eq29, h⟩ := o_bd h
    refine kV (As := [.int x3_13]) (rest := [.int ((T_13.1 4) - (1 : Int32))]) (st' := [.int q29, .int ((T_13.1 4) - (1 : Int32))]) ⟨hx, hb, hml, hown, hts⟩ (kX3_placeOf l G ho (sUp_s S o T_13) eq29) (cwV 1 hts gX3_givePoints_X3_placeOf rfl rfl rfl qqX3_placeOf ⟨Nat.le_of_ble_eq_true rfl, Nat.le_of_ble_eq_true rfl⟩) hw (rvTk hw ho) rfl hl.1 rfl (Nat.le_of_ble_eq_true rfl) dX3_givePoints_29 ⟨Nat.zero_le _, Nat.zero_le _⟩ rfl (fun H locs hw => ?_)
    refine lv_isub hx hb dX3_givePoints_32 ?_
    refine lv_iload_n hx hb dX3_givePoints_33 rfl (lv_at hl 3 rfl) ?_
    refine lv_iload_n hx hb dX3_givePoints_34 rfl (lv_at hl 2 rfl) ?_
    obtain ⟨k44, ek44, h⟩ := o_nm h
    have J44 : ∀ (y0_44 : Int32) (H : Heap) (locs : List Loc) (ls : Array Slot), sHw G s (sUp S o T_13) M H locs → lv_has ls 5 [(0, .ref (sA G o 0)), (1, .int x1_13), (2, .int q7), (3, .int x3_13)] → k44 y0_44 = some q → W p l e rmX3_givePoints s m args below meth c H locs 0 0 Q (F0 m 44 ls [.int y0_44, .int (((T_13.1 4) - (1 : Int32)) - q29)]) := by
      intro y0_44 H locs ls hw hl h
      replace h := o_j1 ek44 h
      refine lv_iadd hx hb dX3_givePoints_44 ?_
      refine lv_topi (fun v45 ev45 => ?_)
      replace h := o_nx ev45 h
      refine lv_istore (lv' := [(4, .int v45), (0, .ref (sA G o 0)), (1, .int x1_13), (2, .int q7), (3, .int x3_13)]) hx hb dX3_givePoints_45 hl (by decide) rfl (fun ls hl => ?_)
      refine lv_aload_n hx hb dX3_givePoints_47 rfl (lv_at hl 1 rfl) ?_
      refine gTk (v := .ref (sA G o 7)) hx hb hts hiX3 hown hw ho (sUp_s S o T_13) 12 (by decide) (hts (.fieldLink RX3 40 "SecondHome$Track" "points" "[I") (by decide +kernel)) rfl dX3_givePoints_48 ?_
      refine lv_iload_n hx hb dX3_givePoints_51 rfl (lv_at hl 4 rfl) ?_
      refine lv_dup2_11 hx hb dX3_givePoints_52 rfl rfl ?_
      obtain ⟨b53, h⟩ := o_in h
      refine ldTk hx hb hw ho (sUp_s S o T_13) 6 (by decide) b53 dX3_givePoints_53 ?_
      refine lv_iload hx hb dX3_givePoints_54 (lv_at hl 0 rfl) ?_
      refine lv_iadd hx hb dX3_givePoints_56 ?_
      refine stTk hx hb hw ho (sUp_s S o T_13) 6 (by decide) b53 dX3_givePoints_57 (sUp_u S o T_13 _) (fun H locs hw => ?_)
      obtain ⟨T57, eT57, h⟩ := o_nm h
      rw [← eT57] at hw
      refine lv_iload_n hx hb dX3_givePoints_58 rfl (lv_at hl 2 rfl) ?_
      refine lv_iload hx hb dX3_givePoints_59 (lv_at hl 0 rfl) ?_
      refine lv_iadd hx hb dX3_givePoints_61 ?_
      refine lv_topi (fun v62 ev62 => ?_)
      replace h := o_nx ev62 h
      refine lv_istore_n (lv' := [(1, .int v62), (4, .int v45), (0, .ref (sA G o 0)), (2, .int q7), (3, .int x3_13)]) hx hb dX3_givePoints_62 rfl hl (by decide) rfl (fun ls hl => ?_)
      obtain ⟨v63, ev63, h⟩ := o_nm h
      refine lv_iinc (v := v63) (lv' := [(3, .int v63), (1, .int v62), (4, .int v45), (0, .ref (sA G o 0)), (2, .int q7)]) hx hb dX3_givePoints_63 hl (k := 4) rfl (by rw [ev63]; rfl) (by decide) rfl (fun ls hl => ?_)
      refine lv_goto (tgt := 13) hx hb dX3_givePoints_66 (by decide) ?_
      exact IH13 v62 v63 T57 h _ _ _ hw (lv_sub hl [3, 1, 4, 0] rfl)
    refine lv_icmp_ne (tgt := 43) hx hb dX3_givePoints_35 (by decide) (fun c35 => ?_) (fun c35 => ?_)
    · replace h := o_f c35 h
      refine lv_iconst (v := 0) hx hb dX3_givePoints_43 (by decide) ?_
      exact J44 (0 : Int32) _ _ _ hw (lv_sub hl [0, 1, 2, 3] rfl) h
    · replace h := o_t c35 h
      refine lv_bipush (v := 10) hx hb dX3_givePoints_38 (by decide) ?_
      refine lv_goto (tgt := 44) hx hb dX3_givePoints_40 (by decide) ?_
      exact J44 (10 : Int32) _ _ _ hw (lv_sub hl [0, 1, 2, 3] rfl) h
