-- X5_mayCome
set_option maxRecDepth 100000 in
set_option maxHeartbeats 4000000 in
theorem kX5_mayCome (l : Launch) (G : sGl) {S : sWo} {M : sOb} {a1 : Int32} {a2 : Int32} {a3 : Int32} {q : (Int32 × sOb)}  (h : fX5_mayCome M a1 a2 a3 = some q) : sCt l G yX5_mayCome wsX5_mayCome rmX5_mayCome [.ref (sA G 9 0), .int a1, .int a2, .int a3] S M (some (.int q.1)) S q.2 := by
  refine cMk (cc := cX5_mayCome) (maxL := 4) (ret := (some .int)) (by decide) rfl (Nat.le_of_ble_eq_true rfl) ?_
  intro p e s m args below meth c Q hQ hx hb hr hlk hml hown hts hw ls hl
  have hown : s.vm.findClass RX5 = some m.cls := hown
  have hl : lv_has ls 4 [(0, .ref (sA G 9 0)), (1, .int a1), (2, .int a2), (3, .int a3)] := hl
  unfold fX5_mayCome at h
  refine lv_iload_n hx hb dX5_mayCome_0 rfl (lv_at hl 1 rfl) ?_
  refine lv_if_ne (tgt := 6) hx hb dX5_mayCome_1 (by decide) (fun c1 => ?_) (fun c1 => ?_)
  · replace h := o_f c1 h
    refine lv_aload_n hx hb dX5_mayCome_6 rfl (lv_at hl 0 rfl) ?_
    obtain ⟨q7, eq7, h⟩ := o_bd h
    refine kV (As := []) (rest := []) (st' := []) ⟨hx, hb, hml, hown, hts⟩ (kX5_nextToken l G eq7) (cwV 0 hts gX5_mayCome_X5_nextToken rfl rfl rfl qqX5_nextToken ⟨Nat.le_of_ble_eq_true rfl, Nat.le_of_ble_eq_true rfl⟩) hw (rvMd hw) rfl hl.1 rfl (Nat.le_of_ble_eq_true rfl) dX5_mayCome_7 ⟨Nat.zero_le _, Nat.zero_le _⟩ rfl (fun H locs hw => ?_)
    refine lv_aload_n hx hb dX5_mayCome_10 rfl (lv_at hl 0 rfl) ?_
    refine lv_iload_n hx hb dX5_mayCome_11 rfl (lv_at hl 2 rfl) ?_
    refine lv_iload_n hx hb dX5_mayCome_12 rfl (lv_at hl 3 rfl) ?_
    obtain ⟨q13, eq13, h⟩ := o_bd h
    refine kV (As := [.int a2, .int a3]) (rest := []) (st' := [.int q13]) ⟨hx, hb, hml, hown, hts⟩ (kX5_isNumber l G eq13) (cwV 2 hts gX5_mayCome_X5_isNumber rfl rfl rfl qqX5_isNumber ⟨Nat.le_of_ble_eq_true rfl, Nat.le_of_ble_eq_true rfl⟩) hw (rvMd hw) rfl hl.1 rfl (Nat.le_of_ble_eq_true rfl) dX5_mayCome_13 ⟨Nat.zero_le _, Nat.zero_le _⟩ rfl (fun H locs hw => ?_)
    refine lv_if_eq (tgt := 23) hx hb dX5_mayCome_16 (by decide) (fun c16 => ?_) (fun c16 => ?_)
    · replace h := o_t c16 h
      refine lv_iconst (v := -1) hx hb dX5_mayCome_23 (by decide) ?_
      exact rI hQ hx hb hr hlk hw dX5_mayCome_24 (o_2a h) rfl (o_2b h)
    · replace h := o_f c16 h
      refine lv_iconst (v := 1) hx hb dX5_mayCome_19 (by decide) ?_
      refine lv_goto (tgt := 24) hx hb dX5_mayCome_20 (by decide) ?_
      exact rI hQ hx hb hr hlk hw dX5_mayCome_24 (o_2a h) rfl (o_2b h)
  · replace h := o_t c1 h
    refine lv_iconst (v := 0) hx hb dX5_mayCome_4 (by decide) ?_
    exact rI hQ hx hb hr hlk hw dX5_mayCome_5 (o_2a h) rfl (o_2b h)
-- X5_goesRunner
set_option maxRecDepth 100000 in
set_option maxHeartbeats 4000000 in
theorem kX5_goesRunner (l : Launch) (G : sGl) {S : sWo} {M : sOb} {a1 : Int32} {q : (Int32 × sOb)}  (h : fX5_goesRunner M a1 = some q) : sCt l G yX5_goesRunner wsX5_goesRunner rmX5_goesRunner [.ref (sA G 9 0), .int a1] S M (some (.int q.1)) S q.2 := by
  refine cMk (cc := cX5_goesRunner) (maxL := 4) (ret := (some .boolean)) (by decide) rfl (Nat.le_of_ble_eq_true rfl) ?_
  intro p e s m args below meth c Q hQ hx hb hr hlk hml hown hts hw ls hl
  have hown : s.vm.findClass RX5 = some m.cls := hown
  have hl : lv_has ls 4 [(0, .ref (sA G 9 0)), (1, .int a1)] := hl
  have hiX5 : ∀ w ∈ u_ws RX5 TX5 15, w ∈ wsX5_goesRunner := by decide +kernel
  unfold fX5_goesRunner at h
  refine lv_aload_n hx hb dX5_goesRunner_0 rfl (lv_at hl 0 rfl) ?_
  refine gMd (v := .ref (sA G 9 1)) hx hb hts hiX5 hown hw 0 (by decide) (hts (.fieldLink RX5 7 "SecondHomeModel" "s" "[I") (by decide +kernel)) rfl dX5_goesRunner_1 ?_
  refine lv_iconst (v := 0) hx hb dX5_goesRunner_4 (by decide) ?_
  refine ldMd hx hb hw 0 (by decide) (n := 77) rfl (by decide) dX5_goesRunner_5 ?_
  refine lv_bipush (v := 9) hx hb dX5_goesRunner_6 (by decide) ?_
  refine lv_icmp_ne (tgt := 13) hx hb dX5_goesRunner_8 (by decide) (fun c8 => ?_) (fun c8 => ?_)
  · replace h := o_f c8 h
    refine lv_aload_n hx hb dX5_goesRunner_13 rfl (lv_at hl 0 rfl) ?_
    obtain ⟨q14, eq14, h⟩ := o_bd h
    refine kV (As := []) (rest := []) (st' := []) ⟨hx, hb, hml, hown, hts⟩ (kX5_nextToken l G eq14) (cwV 0 hts gX5_goesRunner_X5_nextToken rfl rfl rfl qqX5_nextToken ⟨Nat.le_of_ble_eq_true rfl, Nat.le_of_ble_eq_true rfl⟩) hw (rvMd hw) rfl hl.1 rfl (Nat.le_of_ble_eq_true rfl) dX5_goesRunner_14 ⟨Nat.zero_le _, Nat.zero_le _⟩ rfl (fun H locs hw => ?_)
    refine lv_aload_n hx hb dX5_goesRunner_17 rfl (lv_at hl 0 rfl) ?_
    refine lv_iconst (v := 4) hx hb dX5_goesRunner_18 (by decide) ?_
    obtain ⟨q19, eq19, h⟩ := o_bd h
    refine kV (As := [.int (4 : Int32)]) (rest := []) (st' := [.int q19]) ⟨hx, hb, hml, hown, hts⟩ (kX5_isWord l G eq19) (cwV 1 hts gX5_goesRunner_X5_isWord rfl rfl rfl qqX5_isWord ⟨Nat.le_of_ble_eq_true rfl, Nat.le_of_ble_eq_true rfl⟩) hw (rvMd hw) rfl hl.1 rfl (Nat.le_of_ble_eq_true rfl) dX5_goesRunner_19 ⟨Nat.zero_le _, Nat.zero_le _⟩ rfl (fun H locs hw => ?_)
    refine lv_if_eq (tgt := 53) hx hb dX5_goesRunner_22 (by decide) (fun c22 => ?_) (fun c22 => ?_)
    · replace h := o_t c22 h
      refine lv_iconst (v := 0) hx hb dX5_goesRunner_53 (by decide) ?_
      exact rZ hQ hx hb hr hlk hw (Or.inl rfl) dX5_goesRunner_54 (o_2a h) rfl (o_2b h)
    · replace h := o_f c22 h
      refine lv_aload_n hx hb dX5_goesRunner_25 rfl (lv_at hl 0 rfl) ?_
      refine lv_iconst (v := 0) hx hb dX5_goesRunner_26 (by decide) ?_
      refine lv_bipush (v := 112) hx hb dX5_goesRunner_27 (by decide) ?_
      refine lv_bipush (v := 97) hx hb dX5_goesRunner_29 (by decide) ?_
      refine lv_bipush (v := 99) hx hb dX5_goesRunner_31 (by decide) ?_
      obtain ⟨q33, eq33, h⟩ := o_bd h
      refine kV (As := [.int (0 : Int32), .int (112 : Int32), .int (97 : Int32), .int (99 : Int32)]) (rest := []) (st' := [.int q33]) ⟨hx, hb, hml, hown, hts⟩ (kX5_has3 l G eq33) (cwV 4 hts gX5_goesRunner_X5_has3 rfl rfl rfl qqX5_has3 ⟨Nat.le_of_ble_eq_true rfl, Nat.le_of_ble_eq_true rfl⟩) hw (rvMd hw) rfl hl.1 rfl (Nat.le_of_ble_eq_true rfl) dX5_goesRunner_33 ⟨Nat.zero_le _, Nat.zero_le _⟩ rfl (fun H locs hw => ?_)
      refine lv_if_eq (tgt := 53) hx hb dX5_goesRunner_36 (by decide) (fun c36 => ?_) (fun c36 => ?_)
      · replace h := o_t c36 h
        refine lv_iconst (v := 0) hx hb dX5_goesRunner_53 (by decide) ?_
        exact rZ hQ hx hb hr hlk hw (Or.inl rfl) dX5_goesRunner_54 (o_2a h) rfl (o_2b h)
      · replace h := o_f c36 h
        refine lv_aload_n hx hb dX5_goesRunner_39 rfl (lv_at hl 0 rfl) ?_
        refine lv_iconst (v := 1) hx hb dX5_goesRunner_40 (by decide) ?_
        refine lv_bipush (v := 97) hx hb dX5_goesRunner_41 (by decide) ?_
        refine lv_bipush (v := 99) hx hb dX5_goesRunner_43 (by decide) ?_
        refine lv_bipush (v := 101) hx hb dX5_goesRunner_45 (by decide) ?_
        obtain ⟨q47, eq47, h⟩ := o_bd h
        refine kV (As := [.int (1 : Int32), .int (97 : Int32), .int (99 : Int32), .int (101 : Int32)]) (rest := []) (st' := [.int q47]) ⟨hx, hb, hml, hown, hts⟩ (kX5_has3 l G eq47) (cwV 4 hts gX5_goesRunner_X5_has3 rfl rfl rfl qqX5_has3 ⟨Nat.le_of_ble_eq_true rfl, Nat.le_of_ble_eq_true rfl⟩) hw (rvMd hw) rfl hl.1 rfl (Nat.le_of_ble_eq_true rfl) dX5_goesRunner_47 ⟨Nat.zero_le _, Nat.zero_le _⟩ rfl (fun H locs hw => ?_)
        refine lv_if_ne (tgt := 55) hx hb dX5_goesRunner_50 (by decide) (fun c50 => ?_) (fun c50 => ?_)
        · replace h := o_f c50 h
          refine lv_aload_n hx hb dX5_goesRunner_55 rfl (lv_at hl 0 rfl) ?_
          obtain ⟨q56, eq56, h⟩ := o_bd h
          refine kV (As := []) (rest := []) (st' := []) ⟨hx, hb, hml, hown, hts⟩ (kX5_nextToken l G eq56) (cwV 0 hts gX5_goesRunner_X5_nextToken rfl rfl rfl qqX5_nextToken ⟨Nat.le_of_ble_eq_true rfl, Nat.le_of_ble_eq_true rfl⟩) hw (rvMd hw) rfl hl.1 rfl (Nat.le_of_ble_eq_true rfl) dX5_goesRunner_56 ⟨Nat.zero_le _, Nat.zero_le _⟩ rfl (fun H locs hw => ?_)
          refine lv_aload_n hx hb dX5_goesRunner_59 rfl (lv_at hl 0 rfl) ?_
          refine lv_iconst (v := 1) hx hb dX5_goesRunner_60 (by decide) ?_
          refine lv_bipush (v := 12) hx hb dX5_goesRunner_61 (by decide) ?_
          obtain ⟨q63, eq63, h⟩ := o_bd h
          refine kV (As := [.int (1 : Int32), .int (12 : Int32)]) (rest := []) (st' := [.int q63]) ⟨hx, hb, hml, hown, hts⟩ (kX5_isNumber l G eq63) (cwV 2 hts gX5_goesRunner_X5_isNumber rfl rfl rfl qqX5_isNumber ⟨Nat.le_of_ble_eq_true rfl, Nat.le_of_ble_eq_true rfl⟩) hw (rvMd hw) rfl hl.1 rfl (Nat.le_of_ble_eq_true rfl) dX5_goesRunner_63 ⟨Nat.zero_le _, Nat.zero_le _⟩ rfl (fun H locs hw => ?_)
          refine lv_if_ne (tgt := 71) hx hb dX5_goesRunner_66 (by decide) (fun c66 => ?_) (fun c66 => ?_)
          · replace h := o_f c66 h
            refine lv_aload_n hx hb dX5_goesRunner_71 rfl (lv_at hl 0 rfl) ?_
            refine lv_iload_n hx hb dX5_goesRunner_72 rfl (lv_at hl 1 rfl) ?_
            refine lv_aload_n hx hb dX5_goesRunner_73 rfl (lv_at hl 0 rfl) ?_
            refine gMd (v := .int (q56.1 5)) hx hb hts hiX5 hown hw 14 (by decide) (hts (.fieldLink RX5 190 "SecondHomeModel" "value" "I") (by decide +kernel)) rfl dX5_goesRunner_74 ?_
            obtain ⟨q77, eq77, h⟩ := o_bd h
            refine kV (As := [.int a1, .int (q56.1 5)]) (rest := []) (st' := [.int q77.1]) ⟨hx, hb, hml, hown, hts⟩ (kX5_comes l G eq77) (cwV 2 hts gX5_goesRunner_X5_comes rfl rfl rfl qqX5_comes ⟨Nat.le_of_ble_eq_true rfl, Nat.le_of_ble_eq_true rfl⟩) hw (rvMd hw) rfl hl.1 rfl (Nat.le_of_ble_eq_true rfl) dX5_goesRunner_77 ⟨Nat.zero_le _, Nat.zero_le _⟩ rfl (fun H locs hw => ?_)
            refine lv_istore_n (lv' := [(2, .int q77.1), (0, .ref (sA G 9 0)), (1, .int a1)]) hx hb dX5_goesRunner_80 rfl hl (by decide) rfl (fun ls hl => ?_)
            refine lv_aload_n hx hb dX5_goesRunner_81 rfl (lv_at hl 1 rfl) ?_
            obtain ⟨q82, eq82, h⟩ := o_bd h
            refine kV (As := []) (rest := []) (st' := []) ⟨hx, hb, hml, hown, hts⟩ (kX5_nextToken l G eq82) (cwV 0 hts gX5_goesRunner_X5_nextToken rfl rfl rfl qqX5_nextToken ⟨Nat.le_of_ble_eq_true rfl, Nat.le_of_ble_eq_true rfl⟩) hw (rvMd hw) rfl hl.1 rfl (Nat.le_of_ble_eq_true rfl) dX5_goesRunner_82 ⟨Nat.zero_le _, Nat.zero_le _⟩ rfl (fun H locs hw => ?_)
            refine lv_aload_n hx hb dX5_goesRunner_85 rfl (lv_at hl 1 rfl) ?_
            refine lv_aload_n hx hb dX5_goesRunner_86 rfl (lv_at hl 1 rfl) ?_
            refine lv_bipush (v := 6) hx hb dX5_goesRunner_87 (by decide) ?_
            obtain ⟨q89, eq89, h⟩ := o_bd h
            refine kV (As := [.int (6 : Int32)]) (rest := [.ref (sA G 9 0)]) (st' := [.int q89, .ref (sA G 9 0)]) ⟨hx, hb, hml, hown, hts⟩ (kX5_isWord l G eq89) (cwV 1 hts gX5_goesRunner_X5_isWord rfl rfl rfl qqX5_isWord ⟨Nat.le_of_ble_eq_true rfl, Nat.le_of_ble_eq_true rfl⟩) hw (rvMd hw) rfl hl.1 rfl (Nat.le_of_ble_eq_true rfl) dX5_goesRunner_89 ⟨Nat.zero_le _, Nat.zero_le _⟩ rfl (fun H locs hw => ?_)
            obtain ⟨k128, ek128, h⟩ := o_nm h
            have J128 : ∀ (y0_128 : Int32) (H : Heap) (locs : List Loc) (ls : Array Slot), sHw G s S q82 H locs → lv_has ls 4 [(0, .ref (sA G 9 0)), (2, .int q77.1)] → k128 y0_128 = some q → W p l e rmX5_goesRunner s m args below meth c H locs 0 0 Q (F0 m 128 ls [.int y0_128, .ref (sA G 9 0)]) := by
              intro y0_128 H locs ls hw hl h
              replace h := o_j1 ek128 h
              refine lv_iconst (v := 0) hx hb dX5_goesRunner_128 (by decide) ?_
              refine lv_sipush (v := 999) hx hb dX5_goesRunner_129 (by decide) ?_
              obtain ⟨q132, eq132, h⟩ := o_bd h
              refine kV (As := [.int y0_128, .int (0 : Int32), .int (999 : Int32)]) (rest := []) (st' := [.int q132.1]) ⟨hx, hb, hml, hown, hts⟩ (kX5_mayCome l G eq132) (cwV 3 hts gX5_goesRunner_X5_mayCome rfl rfl rfl qqX5_mayCome ⟨Nat.le_of_ble_eq_true rfl, Nat.le_of_ble_eq_true rfl⟩) hw (rvMd hw) rfl hl.1 rfl (Nat.le_of_ble_eq_true rfl) dX5_goesRunner_132 ⟨Nat.zero_le _, Nat.zero_le _⟩ rfl (fun H locs hw => ?_)
              refine lv_istore_n (lv' := [(3, .int q132.1), (0, .ref (sA G 9 0)), (2, .int q77.1)]) hx hb dX5_goesRunner_135 rfl hl (by decide) rfl (fun ls hl => ?_)
              refine lv_iload_n hx hb dX5_goesRunner_136 rfl (lv_at hl 0 rfl) ?_
              obtain ⟨k154, ek154, h⟩ := o_nm h
              have J154 : ∀ (T_154 : sOb) (H : Heap) (locs : List Loc) (ls : Array Slot), sHw G s S T_154 H locs → lv_has ls 4 [(0, .ref (sA G 9 0)), (2, .int q77.1), (3, .int q132.1)] → k154 T_154 = some q → W p l e rmX5_goesRunner s m args below meth c H locs 0 0 Q (F0 m 154 ls []) := by
                intro T_154 H locs ls hw hl h
                replace h := o_j1 ek154 h
                refine lv_iload_n hx hb dX5_goesRunner_154 rfl (lv_at hl 2 rfl) ?_
                obtain ⟨k212, ek212, h⟩ := o_nm h
                have J212 : ∀ (y0_212 : Int32) (T_212 : sOb) (H : Heap) (locs : List Loc) (ls : Array Slot), sHw G s S T_212 H locs → lv_has ls 4 [(0, .ref (sA G 9 0)), (2, .int q77.1)] → k212 y0_212 T_212 = some q → W p l e rmX5_goesRunner s m args below meth c H locs 0 0 Q (F0 m 212 ls [.int y0_212]) := by
                  intro y0_212 T_212 H locs ls hw hl h
                  replace h := o_j2 ek212 h
                  refine lv_istore_n (lv' := [(3, .int y0_212), (0, .ref (sA G 9 0)), (2, .int q77.1)]) hx hb dX5_goesRunner_212 rfl hl (by decide) rfl (fun ls hl => ?_)
                  refine lv_iload_n hx hb dX5_goesRunner_213 rfl (lv_at hl 0 rfl) ?_
                  obtain ⟨k231, ek231, h⟩ := o_nm h
                  have J231 : ∀ (T_231 : sOb) (H : Heap) (locs : List Loc) (ls : Array Slot), sHw G s S T_231 H locs → lv_has ls 4 [(0, .ref (sA G 9 0)), (2, .int q77.1), (3, .int y0_212)] → k231 T_231 = some q → W p l e rmX5_goesRunner s m args below meth c H locs 0 0 Q (F0 m 231 ls []) := by
                    intro T_231 H locs ls hw hl h
                    replace h := o_j1 ek231 h
                    refine lv_iload_n hx hb dX5_goesRunner_231 rfl (lv_at hl 2 rfl) ?_
                    obtain ⟨k293, ek293, h⟩ := o_nm h
                    have J293 : ∀ (y0_293 : Int32) (T_293 : sOb) (H : Heap) (locs : List Loc) (ls : Array Slot), sHw G s S T_293 H locs → lv_has ls 4 [(0, .ref (sA G 9 0)), (2, .int q77.1)] → k293 y0_293 T_293 = some q → W p l e rmX5_goesRunner s m args below meth c H locs 0 0 Q (F0 m 293 ls [.int y0_293]) := by
                      intro y0_293 T_293 H locs ls hw hl h
                      replace h := o_j2 ek293 h
                      refine lv_istore_n (lv' := [(3, .int y0_293), (0, .ref (sA G 9 0)), (2, .int q77.1)]) hx hb dX5_goesRunner_293 rfl hl (by decide) rfl (fun ls hl => ?_)
                      refine lv_iload_n hx hb dX5_goesRunner_294 rfl (lv_at hl 0 rfl) ?_
                      obtain ⟨k322, ek322, h⟩ := o_nm h
                      have J322 : ∀ (T_322 : sOb) (H : Heap) (locs : List Loc) (ls : Array Slot), sHw G s S T_322 H locs → lv_has ls 4 [(3, .int y0_293)] → k322 T_322 = some q → W p l e rmX5_goesRunner s m args below meth c H locs 0 0 Q (F0 m 322 ls []) := by
                        intro T_322 H locs ls hw hl h
                        replace h := o_j1 ek322 h
                        refine lv_iload_n hx hb dX5_goesRunner_322 rfl (lv_at hl 0 rfl) ?_
                        refine lv_if_lt (tgt := 330) hx hb dX5_goesRunner_323 (by decide) (fun c323 => ?_) (fun c323 => ?_)
                        · replace h := o_t c323 h
                          refine lv_iconst (v := 0) hx hb dX5_goesRunner_330 (by decide) ?_
                          exact rZ hQ hx hb hr hlk hw (Or.inl rfl) dX5_goesRunner_331 (o_2a h) rfl (o_2b h)
                        · replace h := o_f c323 h
                          refine lv_iconst (v := 1) hx hb dX5_goesRunner_326 (by decide) ?_
                          refine lv_goto (tgt := 331) hx hb dX5_goesRunner_327 (by decide) ?_
                          exact rZ hQ hx hb hr hlk hw (Or.inr rfl) dX5_goesRunner_331 (o_2a h) rfl (o_2b h)
                      refine lv_if_le (tgt := 322) hx hb dX5_goesRunner_295 (by decide) (fun c295 => ?_) (fun c295 => ?_)
                      · replace h := o_t c295 h
                        exact J322 T_293 _ _ _ hw (lv_sub hl [0] rfl) h
                      · replace h := o_f c295 h
                        refine lv_aload_n hx hb dX5_goesRunner_298 rfl (lv_at hl 1 rfl) ?_
                        refine lv_iload_n hx hb dX5_goesRunner_299 rfl (lv_at hl 2 rfl) ?_
                        refine lv_iconst (v := 4) hx hb dX5_goesRunner_300 (by decide) ?_
                        refine lv_aload_n hx hb dX5_goesRunner_301 rfl (lv_at hl 1 rfl) ?_
                        refine gMd (v := .int (T_293.1 5)) hx hb hts hiX5 hown hw 14 (by decide) (hts (.fieldLink RX5 190 "SecondHomeModel" "value" "I") (by decide +kernel)) rfl dX5_goesRunner_302 ?_
                        obtain ⟨q305, eq305, h⟩ := o_bd h
                        refine kV (As := [.int q77.1, .int (4 : Int32), .int (T_293.1 5)]) (rest := []) (st' := []) ⟨hx, hb, hml, hown, hts⟩ (kX5_puts l G eq305) (cwV 3 hts gX5_goesRunner_X5_puts rfl rfl rfl qqX5_puts ⟨Nat.le_of_ble_eq_true rfl, Nat.le_of_ble_eq_true rfl⟩) hw (rvMd hw) rfl hl.1 rfl (Nat.le_of_ble_eq_true rfl) dX5_goesRunner_305 ⟨Nat.zero_le _, Nat.zero_le _⟩ rfl (fun H locs hw => ?_)
                        refine lv_aload_n hx hb dX5_goesRunner_308 rfl (lv_at hl 1 rfl) ?_
                        refine lv_iload_n hx hb dX5_goesRunner_309 rfl (lv_at hl 2 rfl) ?_
                        refine lv_iconst (v := 5) hx hb dX5_goesRunner_310 (by decide) ?_
                        refine lv_aload_n hx hb dX5_goesRunner_311 rfl (lv_at hl 1 rfl) ?_
                        refine gMd (v := .int (q305.1 5)) hx hb hts hiX5 hown hw 14 (by decide) (hts (.fieldLink RX5 190 "SecondHomeModel" "value" "I") (by decide +kernel)) rfl dX5_goesRunner_312 ?_
                        obtain ⟨q315, eq315, h⟩ := o_bd h
                        refine kV (As := [.int q77.1, .int (5 : Int32), .int (q305.1 5)]) (rest := []) (st' := []) ⟨hx, hb, hml, hown, hts⟩ (kX5_puts l G eq315) (cwV 3 hts gX5_goesRunner_X5_puts rfl rfl rfl qqX5_puts ⟨Nat.le_of_ble_eq_true rfl, Nat.le_of_ble_eq_true rfl⟩) hw (rvMd hw) rfl hl.1 rfl (Nat.le_of_ble_eq_true rfl) dX5_goesRunner_315 ⟨Nat.zero_le _, Nat.zero_le _⟩ rfl (fun H locs hw => ?_)
                        refine lv_aload_n hx hb dX5_goesRunner_318 rfl (lv_at hl 1 rfl) ?_
                        obtain ⟨q319, eq319, h⟩ := o_bd h
                        refine kV (As := []) (rest := []) (st' := []) ⟨hx, hb, hml, hown, hts⟩ (kX5_nextToken l G eq319) (cwV 0 hts gX5_goesRunner_X5_nextToken rfl rfl rfl qqX5_nextToken ⟨Nat.le_of_ble_eq_true rfl, Nat.le_of_ble_eq_true rfl⟩) hw (rvMd hw) rfl hl.1 rfl (Nat.le_of_ble_eq_true rfl) dX5_goesRunner_319 ⟨Nat.zero_le _, Nat.zero_le _⟩ rfl (fun H locs hw => ?_)
                        exact J322 q319 _ _ _ hw (lv_sub hl [0] rfl) h
                    refine lv_if_ge (tgt := 239) hx hb dX5_goesRunner_232 (by decide) (fun c232 => ?_) (fun c232 => ?_)
                    · replace h := o_t c232 h
                      refine lv_aload_n hx hb dX5_goesRunner_239 rfl (lv_at hl 0 rfl) ?_
                      refine lv_aload_n hx hb dX5_goesRunner_240 rfl (lv_at hl 0 rfl) ?_
                      refine lv_iconst (v := 5) hx hb dX5_goesRunner_241 (by decide) ?_
                      obtain ⟨q242, eq242, h⟩ := o_bd h
                      refine kV (As := [.int (5 : Int32)]) (rest := [.ref (sA G 9 0)]) (st' := [.int q242, .ref (sA G 9 0)]) ⟨hx, hb, hml, hown, hts⟩ (kX5_isWord l G eq242) (cwV 1 hts gX5_goesRunner_X5_isWord rfl rfl rfl qqX5_isWord ⟨Nat.le_of_ble_eq_true rfl, Nat.le_of_ble_eq_true rfl⟩) hw (rvMd hw) rfl hl.1 rfl (Nat.le_of_ble_eq_true rfl) dX5_goesRunner_242 ⟨Nat.zero_le _, Nat.zero_le _⟩ rfl (fun H locs hw => ?_)
                      obtain ⟨k281, ek281, h⟩ := o_nm h
                      have J281 : ∀ (y0_281 : Int32) (H : Heap) (locs : List Loc) (ls : Array Slot), sHw G s S T_231 H locs → lv_has ls 4 [(0, .ref (sA G 9 0)), (2, .int q77.1)] → k281 y0_281 = some q → W p l e rmX5_goesRunner s m args below meth c H locs 0 0 Q (F0 m 281 ls [.int y0_281, .ref (sA G 9 0)]) := by
                        intro y0_281 H locs ls hw hl h
                        replace h := o_j1 ek281 h
                        refine lv_iconst (v := 0) hx hb dX5_goesRunner_281 (by decide) ?_
                        refine lv_aload_n hx hb dX5_goesRunner_282 rfl (lv_at hl 0 rfl) ?_
                        refine gMd (v := .ref (sA G 9 1)) hx hb hts hiX5 hown hw 0 (by decide) (hts (.fieldLink RX5 7 "SecondHomeModel" "s" "[I") (by decide +kernel)) rfl dX5_goesRunner_283 ?_
                        refine lv_iconst (v := 1) hx hb dX5_goesRunner_286 (by decide) ?_
                        refine ldMd hx hb hw 0 (by decide) (n := 77) rfl (by decide) dX5_goesRunner_287 ?_
                        refine lv_iconst (v := 1) hx hb dX5_goesRunner_288 (by decide) ?_
                        refine lv_isub hx hb dX5_goesRunner_289 ?_
                        obtain ⟨q290, eq290, h⟩ := o_bd h
                        refine kV (As := [.int y0_281, .int (0 : Int32), .int ((T_231.2.1 0 (1 : Int32).toNatClampNeg) - (1 : Int32))]) (rest := []) (st' := [.int q290.1]) ⟨hx, hb, hml, hown, hts⟩ (kX5_mayCome l G eq290) (cwV 3 hts gX5_goesRunner_X5_mayCome rfl rfl rfl qqX5_mayCome ⟨Nat.le_of_ble_eq_true rfl, Nat.le_of_ble_eq_true rfl⟩) hw (rvMd hw) rfl hl.1 rfl (Nat.le_of_ble_eq_true rfl) dX5_goesRunner_290 ⟨Nat.zero_le _, Nat.zero_le _⟩ rfl (fun H locs hw => ?_)
                        exact J293 q290.1 q290.2 _ _ _ hw (lv_sub hl [0, 1] rfl) h
                      obtain ⟨k280, ek280, h⟩ := o_nm h
                      have J280 : ∀ (H : Heap) (locs : List Loc) (ls : Array Slot), sHw G s S T_231 H locs → lv_has ls 4 [(0, .ref (sA G 9 0)), (2, .int q77.1)] → k280 = some q → W p l e rmX5_goesRunner s m args below meth c H locs 0 0 Q (F0 m 280 ls [.ref (sA G 9 0)]) := by
                        intro H locs ls hw hl h
                        replace h := o_j0 ek280 h
                        refine lv_iconst (v := 0) hx hb dX5_goesRunner_280 (by decide) ?_
                        exact J281 (0 : Int32) _ _ _ hw (lv_sub hl [0, 1] rfl) h
                      refine lv_if_eq (tgt := 280) hx hb dX5_goesRunner_245 (by decide) (fun c245 => ?_) (fun c245 => ?_)
                      · replace h := o_t c245 h
                        exact J280 _ _ _ hw (lv_sub hl [0, 1] rfl) h
                      · replace h := o_f c245 h
                        refine lv_aload_n hx hb dX5_goesRunner_248 rfl (lv_at hl 0 rfl) ?_
                        refine lv_iconst (v := 0) hx hb dX5_goesRunner_249 (by decide) ?_
                        refine lv_bipush (v := 115) hx hb dX5_goesRunner_250 (by decide) ?_
                        refine lv_bipush (v := 116) hx hb dX5_goesRunner_252 (by decide) ?_
                        refine lv_bipush (v := 97) hx hb dX5_goesRunner_254 (by decide) ?_
                        obtain ⟨q256, eq256, h⟩ := o_bd h
                        refine kV (As := [.int (0 : Int32), .int (115 : Int32), .int (116 : Int32), .int (97 : Int32)]) (rest := [.ref (sA G 9 0)]) (st' := [.int q256, .ref (sA G 9 0)]) ⟨hx, hb, hml, hown, hts⟩ (kX5_has3 l G eq256) (cwV 4 hts gX5_goesRunner_X5_has3 rfl rfl rfl qqX5_has3 ⟨Nat.le_of_ble_eq_true rfl, Nat.le_of_ble_eq_true rfl⟩) hw (rvMd hw) rfl hl.1 rfl (Nat.le_of_ble_eq_true rfl) dX5_goesRunner_256 ⟨Nat.zero_le _, Nat.zero_le _⟩ rfl (fun H locs hw => ?_)
                        refine lv_if_eq (tgt := 280) hx hb dX5_goesRunner_259 (by decide) (fun c259 => ?_) (fun c259 => ?_)
                        · replace h := o_t c259 h
                          exact J280 _ _ _ hw (lv_sub hl [0, 1] rfl) h
                        · replace h := o_f c259 h
                          refine lv_aload_n hx hb dX5_goesRunner_262 rfl (lv_at hl 0 rfl) ?_
                          refine lv_iconst (v := 2) hx hb dX5_goesRunner_263 (by decide) ?_
                          refine lv_bipush (v := 97) hx hb dX5_goesRunner_264 (by decide) ?_
                          refine lv_bipush (v := 114) hx hb dX5_goesRunner_266 (by decide) ?_
                          refine lv_bipush (v := 116) hx hb dX5_goesRunner_268 (by decide) ?_
                          obtain ⟨q270, eq270, h⟩ := o_bd h
                          refine kV (As := [.int (2 : Int32), .int (97 : Int32), .int (114 : Int32), .int (116 : Int32)]) (rest := [.ref (sA G 9 0)]) (st' := [.int q270, .ref (sA G 9 0)]) ⟨hx, hb, hml, hown, hts⟩ (kX5_has3 l G eq270) (cwV 4 hts gX5_goesRunner_X5_has3 rfl rfl rfl qqX5_has3 ⟨Nat.le_of_ble_eq_true rfl, Nat.le_of_ble_eq_true rfl⟩) hw (rvMd hw) rfl hl.1 rfl (Nat.le_of_ble_eq_true rfl) dX5_goesRunner_270 ⟨Nat.zero_le _, Nat.zero_le _⟩ rfl (fun H locs hw => ?_)
                          refine lv_if_eq (tgt := 280) hx hb dX5_goesRunner_273 (by decide) (fun c273 => ?_) (fun c273 => ?_)
                          · replace h := o_t c273 h
                            exact J280 _ _ _ hw (lv_sub hl [0, 1] rfl) h
                          · replace h := o_f c273 h
                            refine lv_iconst (v := 1) hx hb dX5_goesRunner_276 (by decide) ?_
                            refine lv_goto (tgt := 281) hx hb dX5_goesRunner_277 (by decide) ?_
                            exact J281 (1 : Int32) _ _ _ hw (lv_sub hl [0, 1] rfl) h
                    · replace h := o_f c232 h
                      refine lv_iconst (v := -1) hx hb dX5_goesRunner_235 (by decide) ?_
                      refine lv_goto (tgt := 293) hx hb dX5_goesRunner_236 (by decide) ?_
                      exact J293 (-1 : Int32) T_231 _ _ _ hw (lv_sub hl [0, 1] rfl) h
                  refine lv_if_le (tgt := 231) hx hb dX5_goesRunner_214 (by decide) (fun c214 => ?_) (fun c214 => ?_)
                  · replace h := o_t c214 h
                    exact J231 T_212 _ _ _ hw (lv_sub hl [1, 2, 0] rfl) h
                  · replace h := o_f c214 h
                    refine lv_aload_n hx hb dX5_goesRunner_217 rfl (lv_at hl 1 rfl) ?_
                    refine lv_iload_n hx hb dX5_goesRunner_218 rfl (lv_at hl 2 rfl) ?_
                    refine lv_iconst (v := 3) hx hb dX5_goesRunner_219 (by decide) ?_
                    refine lv_aload_n hx hb dX5_goesRunner_220 rfl (lv_at hl 1 rfl) ?_
                    refine gMd (v := .int (T_212.1 5)) hx hb hts hiX5 hown hw 14 (by decide) (hts (.fieldLink RX5 190 "SecondHomeModel" "value" "I") (by decide +kernel)) rfl dX5_goesRunner_221 ?_
                    obtain ⟨q224, eq224, h⟩ := o_bd h
                    refine kV (As := [.int q77.1, .int (3 : Int32), .int (T_212.1 5)]) (rest := []) (st' := []) ⟨hx, hb, hml, hown, hts⟩ (kX5_puts l G eq224) (cwV 3 hts gX5_goesRunner_X5_puts rfl rfl rfl qqX5_puts ⟨Nat.le_of_ble_eq_true rfl, Nat.le_of_ble_eq_true rfl⟩) hw (rvMd hw) rfl hl.1 rfl (Nat.le_of_ble_eq_true rfl) dX5_goesRunner_224 ⟨Nat.zero_le _, Nat.zero_le _⟩ rfl (fun H locs hw => ?_)
                    refine lv_aload_n hx hb dX5_goesRunner_227 rfl (lv_at hl 1 rfl) ?_
                    obtain ⟨q228, eq228, h⟩ := o_bd h
                    refine kV (As := []) (rest := []) (st' := []) ⟨hx, hb, hml, hown, hts⟩ (kX5_nextToken l G eq228) (cwV 0 hts gX5_goesRunner_X5_nextToken rfl rfl rfl qqX5_nextToken ⟨Nat.le_of_ble_eq_true rfl, Nat.le_of_ble_eq_true rfl⟩) hw (rvMd hw) rfl hl.1 rfl (Nat.le_of_ble_eq_true rfl) dX5_goesRunner_228 ⟨Nat.zero_le _, Nat.zero_le _⟩ rfl (fun H locs hw => ?_)
                    exact J231 q228 _ _ _ hw (lv_sub hl [1, 2, 0] rfl) h
                refine lv_if_ge (tgt := 162) hx hb dX5_goesRunner_155 (by decide) (fun c155 => ?_) (fun c155 => ?_)
                · replace h := o_t c155 h
                  refine lv_aload_n hx hb dX5_goesRunner_162 rfl (lv_at hl 0 rfl) ?_
                  refine lv_aload_n hx hb dX5_goesRunner_163 rfl (lv_at hl 0 rfl) ?_
                  refine lv_bipush (v := 6) hx hb dX5_goesRunner_164 (by decide) ?_
                  obtain ⟨q166, eq166, h⟩ := o_bd h
                  refine kV (As := [.int (6 : Int32)]) (rest := [.ref (sA G 9 0)]) (st' := [.int q166, .ref (sA G 9 0)]) ⟨hx, hb, hml, hown, hts⟩ (kX5_isWord l G eq166) (cwV 1 hts gX5_goesRunner_X5_isWord rfl rfl rfl qqX5_isWord ⟨Nat.le_of_ble_eq_true rfl, Nat.le_of_ble_eq_true rfl⟩) hw (rvMd hw) rfl hl.1 rfl (Nat.le_of_ble_eq_true rfl) dX5_goesRunner_166 ⟨Nat.zero_le _, Nat.zero_le _⟩ rfl (fun H locs hw => ?_)
                  obtain ⟨k205, ek205, h⟩ := o_nm h
                  have J205 : ∀ (y0_205 : Int32) (H : Heap) (locs : List Loc) (ls : Array Slot), sHw G s S T_154 H locs → lv_has ls 4 [(0, .ref (sA G 9 0)), (2, .int q77.1)] → k205 y0_205 = some q → W p l e rmX5_goesRunner s m args below meth c H locs 0 0 Q (F0 m 205 ls [.int y0_205, .ref (sA G 9 0)]) := by
                    intro y0_205 H locs ls hw hl h
                    replace h := o_j1 ek205 h
                    refine lv_iconst (v := 0) hx hb dX5_goesRunner_205 (by decide) ?_
                    refine lv_iload_n hx hb dX5_goesRunner_206 rfl (lv_at hl 1 rfl) ?_
                    refine lv_iconst (v := 1) hx hb dX5_goesRunner_207 (by decide) ?_
                    refine lv_isub hx hb dX5_goesRunner_208 ?_
                    obtain ⟨q209, eq209, h⟩ := o_bd h
                    refine kV (As := [.int y0_205, .int (0 : Int32), .int (q77.1 - (1 : Int32))]) (rest := []) (st' := [.int q209.1]) ⟨hx, hb, hml, hown, hts⟩ (kX5_mayCome l G eq209) (cwV 3 hts gX5_goesRunner_X5_mayCome rfl rfl rfl qqX5_mayCome ⟨Nat.le_of_ble_eq_true rfl, Nat.le_of_ble_eq_true rfl⟩) hw (rvMd hw) rfl hl.1 rfl (Nat.le_of_ble_eq_true rfl) dX5_goesRunner_209 ⟨Nat.zero_le _, Nat.zero_le _⟩ rfl (fun H locs hw => ?_)
                    exact J212 q209.1 q209.2 _ _ _ hw (lv_sub hl [0, 1] rfl) h
                  obtain ⟨k204, ek204, h⟩ := o_nm h
                  have J204 : ∀ (H : Heap) (locs : List Loc) (ls : Array Slot), sHw G s S T_154 H locs → lv_has ls 4 [(0, .ref (sA G 9 0)), (2, .int q77.1)] → k204 = some q → W p l e rmX5_goesRunner s m args below meth c H locs 0 0 Q (F0 m 204 ls [.ref (sA G 9 0)]) := by
                    intro H locs ls hw hl h
                    replace h := o_j0 ek204 h
                    refine lv_iconst (v := 0) hx hb dX5_goesRunner_204 (by decide) ?_
                    exact J205 (0 : Int32) _ _ _ hw (lv_sub hl [0, 1] rfl) h
                  refine lv_if_eq (tgt := 204) hx hb dX5_goesRunner_169 (by decide) (fun c169 => ?_) (fun c169 => ?_)
                  · replace h := o_t c169 h
                    exact J204 _ _ _ hw (lv_sub hl [0, 1] rfl) h
                  · replace h := o_f c169 h
                    refine lv_aload_n hx hb dX5_goesRunner_172 rfl (lv_at hl 0 rfl) ?_
                    refine lv_iconst (v := 0) hx hb dX5_goesRunner_173 (by decide) ?_
                    refine lv_bipush (v := 102) hx hb dX5_goesRunner_174 (by decide) ?_
                    refine lv_bipush (v := 114) hx hb dX5_goesRunner_176 (by decide) ?_
                    refine lv_bipush (v := 105) hx hb dX5_goesRunner_178 (by decide) ?_
                    obtain ⟨q180, eq180, h⟩ := o_bd h
                    refine kV (As := [.int (0 : Int32), .int (102 : Int32), .int (114 : Int32), .int (105 : Int32)]) (rest := [.ref (sA G 9 0)]) (st' := [.int q180, .ref (sA G 9 0)]) ⟨hx, hb, hml, hown, hts⟩ (kX5_has3 l G eq180) (cwV 4 hts gX5_goesRunner_X5_has3 rfl rfl rfl qqX5_has3 ⟨Nat.le_of_ble_eq_true rfl, Nat.le_of_ble_eq_true rfl⟩) hw (rvMd hw) rfl hl.1 rfl (Nat.le_of_ble_eq_true rfl) dX5_goesRunner_180 ⟨Nat.zero_le _, Nat.zero_le _⟩ rfl (fun H locs hw => ?_)
                    refine lv_if_eq (tgt := 204) hx hb dX5_goesRunner_183 (by decide) (fun c183 => ?_) (fun c183 => ?_)
                    · replace h := o_t c183 h
                      exact J204 _ _ _ hw (lv_sub hl [0, 1] rfl) h
                    · replace h := o_f c183 h
                      refine lv_aload_n hx hb dX5_goesRunner_186 rfl (lv_at hl 0 rfl) ?_
                      refine lv_iconst (v := 3) hx hb dX5_goesRunner_187 (by decide) ?_
                      refine lv_bipush (v := 101) hx hb dX5_goesRunner_188 (by decide) ?_
                      refine lv_bipush (v := 110) hx hb dX5_goesRunner_190 (by decide) ?_
                      refine lv_bipush (v := 100) hx hb dX5_goesRunner_192 (by decide) ?_
                      obtain ⟨q194, eq194, h⟩ := o_bd h
                      refine kV (As := [.int (3 : Int32), .int (101 : Int32), .int (110 : Int32), .int (100 : Int32)]) (rest := [.ref (sA G 9 0)]) (st' := [.int q194, .ref (sA G 9 0)]) ⟨hx, hb, hml, hown, hts⟩ (kX5_has3 l G eq194) (cwV 4 hts gX5_goesRunner_X5_has3 rfl rfl rfl qqX5_has3 ⟨Nat.le_of_ble_eq_true rfl, Nat.le_of_ble_eq_true rfl⟩) hw (rvMd hw) rfl hl.1 rfl (Nat.le_of_ble_eq_true rfl) dX5_goesRunner_194 ⟨Nat.zero_le _, Nat.zero_le _⟩ rfl (fun H locs hw => ?_)
                      refine lv_if_eq (tgt := 204) hx hb dX5_goesRunner_197 (by decide) (fun c197 => ?_) (fun c197 => ?_)
                      · replace h := o_t c197 h
                        exact J204 _ _ _ hw (lv_sub hl [0, 1] rfl) h
                      · replace h := o_f c197 h
                        refine lv_iconst (v := 1) hx hb dX5_goesRunner_200 (by decide) ?_
                        refine lv_goto (tgt := 205) hx hb dX5_goesRunner_201 (by decide) ?_
                        exact J205 (1 : Int32) _ _ _ hw (lv_sub hl [0, 1] rfl) h
                · replace h := o_f c155 h
                  refine lv_iconst (v := -1) hx hb dX5_goesRunner_158 (by decide) ?_
                  refine lv_goto (tgt := 212) hx hb dX5_goesRunner_159 (by decide) ?_
                  exact J212 (-1 : Int32) T_154 _ _ _ hw (lv_sub hl [0, 1] rfl) h
              refine lv_if_le (tgt := 154) hx hb dX5_goesRunner_137 (by decide) (fun c137 => ?_) (fun c137 => ?_)
              · replace h := o_t c137 h
                exact J154 q132.2 _ _ _ hw (lv_sub hl [1, 2, 0] rfl) h
              · replace h := o_f c137 h
                refine lv_aload_n hx hb dX5_goesRunner_140 rfl (lv_at hl 1 rfl) ?_
                refine lv_iload_n hx hb dX5_goesRunner_141 rfl (lv_at hl 2 rfl) ?_
                refine lv_iconst (v := 2) hx hb dX5_goesRunner_142 (by decide) ?_
                refine lv_aload_n hx hb dX5_goesRunner_143 rfl (lv_at hl 1 rfl) ?_
                refine gMd (v := .int (q132.2.1 5)) hx hb hts hiX5 hown hw 14 (by decide) (hts (.fieldLink RX5 190 "SecondHomeModel" "value" "I") (by decide +kernel)) rfl dX5_goesRunner_144 ?_
                obtain ⟨q147, eq147, h⟩ := o_bd h
                refine kV (As := [.int q77.1, .int (2 : Int32), .int (q132.2.1 5)]) (rest := []) (st' := []) ⟨hx, hb, hml, hown, hts⟩ (kX5_puts l G eq147) (cwV 3 hts gX5_goesRunner_X5_puts rfl rfl rfl qqX5_puts ⟨Nat.le_of_ble_eq_true rfl, Nat.le_of_ble_eq_true rfl⟩) hw (rvMd hw) rfl hl.1 rfl (Nat.le_of_ble_eq_true rfl) dX5_goesRunner_147 ⟨Nat.zero_le _, Nat.zero_le _⟩ rfl (fun H locs hw => ?_)
                refine lv_aload_n hx hb dX5_goesRunner_150 rfl (lv_at hl 1 rfl) ?_
                obtain ⟨q151, eq151, h⟩ := o_bd h
                refine kV (As := []) (rest := []) (st' := []) ⟨hx, hb, hml, hown, hts⟩ (kX5_nextToken l G eq151) (cwV 0 hts gX5_goesRunner_X5_nextToken rfl rfl rfl qqX5_nextToken ⟨Nat.le_of_ble_eq_true rfl, Nat.le_of_ble_eq_true rfl⟩) hw (rvMd hw) rfl hl.1 rfl (Nat.le_of_ble_eq_true rfl) dX5_goesRunner_151 ⟨Nat.zero_le _, Nat.zero_le _⟩ rfl (fun H locs hw => ?_)
                exact J154 q151 _ _ _ hw (lv_sub hl [1, 2, 0] rfl) h
            obtain ⟨k127, ek127, h⟩ := o_nm h
            have J127 : ∀ (H : Heap) (locs : List Loc) (ls : Array Slot), sHw G s S q82 H locs → lv_has ls 4 [(0, .ref (sA G 9 0)), (2, .int q77.1)] → k127 = some q → W p l e rmX5_goesRunner s m args below meth c H locs 0 0 Q (F0 m 127 ls [.ref (sA G 9 0)]) := by
              intro H locs ls hw hl h
              replace h := o_j0 ek127 h
              refine lv_iconst (v := 0) hx hb dX5_goesRunner_127 (by decide) ?_
              exact J128 (0 : Int32) _ _ _ hw (lv_sub hl [0, 1] rfl) h
            refine lv_if_eq (tgt := 127) hx hb dX5_goesRunner_92 (by decide) (fun c92 => ?_) (fun c92 => ?_)
            · replace h := o_t c92 h
              exact J127 _ _ _ hw (lv_sub hl [1, 0] rfl) h
            · replace h := o_f c92 h
              refine lv_aload_n hx hb dX5_goesRunner_95 rfl (lv_at hl 1 rfl) ?_
              refine lv_iconst (v := 0) hx hb dX5_goesRunner_96 (by decide) ?_
              refine lv_bipush (v := 98) hx hb dX5_goesRunner_97 (by decide) ?_
              refine lv_bipush (v := 114) hx hb dX5_goesRunner_99 (by decide) ?_
              refine lv_bipush (v := 101) hx hb dX5_goesRunner_101 (by decide) ?_
              obtain ⟨q103, eq103, h⟩ := o_bd h
              refine kV (As := [.int (0 : Int32), .int (98 : Int32), .int (114 : Int32), .int (101 : Int32)]) (rest := [.ref (sA G 9 0)]) (st' := [.int q103, .ref (sA G 9 0)]) ⟨hx, hb, hml, hown, hts⟩ (kX5_has3 l G eq103) (cwV 4 hts gX5_goesRunner_X5_has3 rfl rfl rfl qqX5_has3 ⟨Nat.le_of_ble_eq_true rfl, Nat.le_of_ble_eq_true rfl⟩) hw (rvMd hw) rfl hl.1 rfl (Nat.le_of_ble_eq_true rfl) dX5_goesRunner_103 ⟨Nat.zero_le _, Nat.zero_le _⟩ rfl (fun H locs hw => ?_)
              refine lv_if_eq (tgt := 127) hx hb dX5_goesRunner_106 (by decide) (fun c106 => ?_) (fun c106 => ?_)
              · replace h := o_t c106 h
                exact J127 _ _ _ hw (lv_sub hl [1, 0] rfl) h
              · replace h := o_f c106 h
                refine lv_aload_n hx hb dX5_goesRunner_109 rfl (lv_at hl 1 rfl) ?_
                refine lv_iconst (v := 3) hx hb dX5_goesRunner_110 (by decide) ?_
                refine lv_bipush (v := 97) hx hb dX5_goesRunner_111 (by decide) ?_
                refine lv_bipush (v := 116) hx hb dX5_goesRunner_113 (by decide) ?_
                refine lv_bipush (v := 104) hx hb dX5_goesRunner_115 (by decide) ?_
                obtain ⟨q117, eq117, h⟩ := o_bd h
                refine kV (As := [.int (3 : Int32), .int (97 : Int32), .int (116 : Int32), .int (104 : Int32)]) (rest := [.ref (sA G 9 0)]) (st' := [.int q117, .ref (sA G 9 0)]) ⟨hx, hb, hml, hown, hts⟩ (kX5_has3 l G eq117) (cwV 4 hts gX5_goesRunner_X5_has3 rfl rfl rfl qqX5_has3 ⟨Nat.le_of_ble_eq_true rfl, Nat.le_of_ble_eq_true rfl⟩) hw (rvMd hw) rfl hl.1 rfl (Nat.le_of_ble_eq_true rfl) dX5_goesRunner_117 ⟨Nat.zero_le _, Nat.zero_le _⟩ rfl (fun H locs hw => ?_)
                refine lv_if_eq (tgt := 127) hx hb dX5_goesRunner_120 (by decide) (fun c120 => ?_) (fun c120 => ?_)
                · replace h := o_t c120 h
                  exact J127 _ _ _ hw (lv_sub hl [1, 0] rfl) h
                · replace h := o_f c120 h
                  refine lv_iconst (v := 1) hx hb dX5_goesRunner_123 (by decide) ?_
                  refine lv_goto (tgt := 128) hx hb dX5_goesRunner_124 (by decide) ?_
                  exact J128 (1 : Int32) _ _ _ hw (lv_sub hl [1, 0] rfl) h
          · replace h := o_t c66 h
            refine lv_iconst (v := 0) hx hb dX5_goesRunner_69 (by decide) ?_
            exact rZ hQ hx hb hr hlk hw (Or.inl rfl) dX5_goesRunner_70 (o_2a h) rfl (o_2b h)
        · replace h := o_t c50 h
          refine lv_iconst (v := 0) hx hb dX5_goesRunner_53 (by decide) ?_
          exact rZ hQ hx hb hr hlk hw (Or.inl rfl) dX5_goesRunner_54 (o_2a h) rfl (o_2b h)
  · replace h := o_t c8 h
    refine lv_iconst (v := 0) hx hb dX5_goesRunner_11 (by decide) ?_
    exact rZ hQ hx hb hr hlk hw (Or.inl rfl) dX5_goesRunner_12 (o_2a h) rfl (o_2b h)
-- X5_goesLet
set_option maxRecDepth 100000 in
set_option maxHeartbeats 4000000 in
theorem kX5_goesLet (l : Launch) (G : sGl) {S : sWo} {M : sOb} {a1 : Int32} {q : (Int32 × sOb)}  (h : fX5_goesLet M a1 = some q) : sCt l G yX5_goesLet wsX5_goesLet rmX5_goesLet [.ref (sA G 9 0), .int a1] S M (some (.int q.1)) S q.2 := by
  refine cMk (cc := cX5_goesLet) (maxL := 2) (ret := (some .boolean)) (by decide) rfl (Nat.le_of_ble_eq_true rfl) ?_
  intro p e s m args below meth c Q hQ hx hb hr hlk hml hown hts hw ls hl
  have hown : s.vm.findClass RX5 = some m.cls := hown
  have hl : lv_has ls 2 [(0, .ref (sA G 9 0)), (1, .int a1)] := hl
  have hiX5 : ∀ w ∈ u_ws RX5 TX5 15, w ∈ wsX5_goesLet := by decide +kernel
  unfold fX5_goesLet at h
  refine lv_iload_n hx hb dX5_goesLet_0 rfl (lv_at hl 1 rfl) ?_
  obtain ⟨k15, ek15, h⟩ := o_nm h
  have J15 : ∀ (H : Heap) (locs : List Loc) (ls : Array Slot), sHw G s S M H locs → lv_has ls 2 [(0, .ref (sA G 9 0)), (1, .int a1)] → k15 = some q → W p l e rmX5_goesLet s m args below meth c H locs 0 0 Q (F0 m 15 ls []) := by
    intro H locs ls hw hl h
    replace h := o_j0 ek15 h
    refine lv_aload_n hx hb dX5_goesLet_15 rfl (lv_at hl 0 rfl) ?_
    obtain ⟨q16, eq16, h⟩ := o_bd h
    refine kV (As := []) (rest := []) (st' := []) ⟨hx, hb, hml, hown, hts⟩ (kX5_nextToken l G eq16) (cwV 0 hts gX5_goesLet_X5_nextToken rfl rfl rfl qqX5_nextToken ⟨Nat.le_of_ble_eq_true rfl, Nat.le_of_ble_eq_true rfl⟩) hw (rvMd hw) rfl hl.1 rfl (Nat.le_of_ble_eq_true rfl) dX5_goesLet_16 ⟨Nat.zero_le _, Nat.zero_le _⟩ rfl (fun H locs hw => ?_)
    refine lv_aload_n hx hb dX5_goesLet_19 rfl (lv_at hl 0 rfl) ?_
    refine lv_iload_n hx hb dX5_goesLet_20 rfl (lv_at hl 1 rfl) ?_
    obtain ⟨q21, eq21, h⟩ := o_bd h
    refine kS (As := [.int a1]) (rest := [.ref (sA G 9 0)]) (st' := [.int q21, .ref (sA G 9 0)]) ⟨hx, hb, hml, hown, hts⟩ (kX5_leastOf l G eq21) (va_cwS 1 hts gX5_goesLet_X5_leastOf rfl rfl rfl qqX5_leastOf ⟨Nat.le_of_ble_eq_true rfl, Nat.le_of_ble_eq_true rfl⟩) hw rfl hl.1 rfl (Nat.le_of_ble_eq_true rfl) dX5_goesLet_21 ⟨Nat.zero_le _, Nat.zero_le _⟩ rfl (fun H locs hw => ?_)
    refine lv_iload_n hx hb dX5_goesLet_24 rfl (lv_at hl 1 rfl) ?_
    obtain ⟨q25, eq25, h⟩ := o_bd h
    refine kS (As := [.int a1]) (rest := [.int q21, .ref (sA G 9 0)]) (st' := [.int q25, .int q21, .ref (sA G 9 0)]) ⟨hx, hb, hml, hown, hts⟩ (kX5_mostOf l G eq25) (va_cwS 1 hts gX5_goesLet_X5_mostOf rfl rfl rfl qqX5_mostOf ⟨Nat.le_of_ble_eq_true rfl, Nat.le_of_ble_eq_true rfl⟩) hw rfl hl.1 rfl (Nat.le_of_ble_eq_true rfl) dX5_goesLet_25 ⟨Nat.zero_le _, Nat.zero_le _⟩ rfl (fun H locs hw => ?_)
    obtain ⟨q28, eq28, h⟩ := o_bd h
    refine kV (As := [.int q21, .int q25]) (rest := []) (st' := [.int q28]) ⟨hx, hb, hml, hown, hts⟩ (kX5_isNumber l G eq28) (cwV 2 hts gX5_goesLet_X5_isNumber rfl rfl rfl qqX5_isNumber ⟨Nat.le_of_ble_eq_true rfl, Nat.le_of_ble_eq_true rfl⟩) hw (rvMd hw) rfl hl.1 rfl (Nat.le_of_ble_eq_true rfl) dX5_goesLet_28 ⟨Nat.zero_le _, Nat.zero_le _⟩ rfl (fun H locs hw => ?_)
    refine lv_if_ne (tgt := 36) hx hb dX5_goesLet_31 (by decide) (fun c31 => ?_) (fun c31 => ?_)
    · replace h := o_f c31 h
      refine lv_aload_n hx hb dX5_goesLet_36 rfl (lv_at hl 0 rfl) ?_
      refine gMd (v := .ref (sA G 9 1)) hx hb hts hiX5 hown hw 0 (by decide) (hts (.fieldLink RX5 7 "SecondHomeModel" "s" "[I") (by decide +kernel)) rfl dX5_goesLet_37 ?_
      refine lv_iconst (v := 1) hx hb dX5_goesLet_40 (by decide) ?_
      refine lv_iload_n hx hb dX5_goesLet_41 rfl (lv_at hl 1 rfl) ?_
      refine lv_iadd hx hb dX5_goesLet_42 ?_
      refine lv_aload_n hx hb dX5_goesLet_43 rfl (lv_at hl 0 rfl) ?_
      refine gMd (v := .int (q16.1 5)) hx hb hts hiX5 hown hw 14 (by decide) (hts (.fieldLink RX5 190 "SecondHomeModel" "value" "I") (by decide +kernel)) rfl dX5_goesLet_44 ?_
      obtain ⟨b47, h⟩ := o_in h
      refine stMd hx hb hw 0 (by decide) (n := 77) rfl b47 dX5_goesLet_47 rfl (fun H locs hw => ?_)
      obtain ⟨M47, eM47, h⟩ := o_nm h
      rw [← eM47] at hw
      refine lv_aload_n hx hb dX5_goesLet_48 rfl (lv_at hl 0 rfl) ?_
      obtain ⟨q49, eq49, h⟩ := o_bd h
      refine kV (As := []) (rest := []) (st' := []) ⟨hx, hb, hml, hown, hts⟩ (kX5_nextToken l G eq49) (cwV 0 hts gX5_goesLet_X5_nextToken rfl rfl rfl qqX5_nextToken ⟨Nat.le_of_ble_eq_true rfl, Nat.le_of_ble_eq_true rfl⟩) hw (rvMd hw) rfl hl.1 rfl (Nat.le_of_ble_eq_true rfl) dX5_goesLet_49 ⟨Nat.zero_le _, Nat.zero_le _⟩ rfl (fun H locs hw => ?_)
      refine lv_iconst (v := 1) hx hb dX5_goesLet_52 (by decide) ?_
      exact rZ hQ hx hb hr hlk hw (Or.inr rfl) dX5_goesLet_53 (o_2a h) rfl (o_2b h)
    · replace h := o_t c31 h
      refine lv_iconst (v := 0) hx hb dX5_goesLet_34 (by decide) ?_
      exact rZ hQ hx hb hr hlk hw (Or.inl rfl) dX5_goesLet_35 (o_2a h) rfl (o_2b h)
  refine lv_if_ne (tgt := 15) hx hb dX5_goesLet_1 (by decide) (fun c1 => ?_) (fun c1 => ?_)
  · replace h := o_f c1 h
    exact J15 _ _ _ hw (lv_sub hl [0, 1] rfl) h
  · replace h := o_t c1 h
    refine lv_aload_n hx hb dX5_goesLet_4 rfl (lv_at hl 0 rfl) ?_
    refine gMd (v := .ref (sA G 9 1)) hx hb hts hiX5 hown hw 0 (by decide) (hts (.fieldLink RX5 7 "SecondHomeModel" "s" "[I") (by decide +kernel)) rfl dX5_goesLet_5 ?_
    refine lv_iconst (v := 0) hx hb dX5_goesLet_8 (by decide) ?_
    refine ldMd hx hb hw 0 (by decide) (n := 77) rfl (by decide) dX5_goesLet_9 ?_
    refine lv_if_le (tgt := 15) hx hb dX5_goesLet_10 (by decide) (fun c10 => ?_) (fun c10 => ?_)
    · replace h := o_t c10 h
      exact J15 _ _ _ hw (lv_sub hl [0, 1] rfl) h
    · replace h := o_f c10 h
      refine lv_iconst (v := 0) hx hb dX5_goesLet_13 (by decide) ?_
      exact rZ hQ hx hb hr hlk hw (Or.inl rfl) dX5_goesLet_14 (o_2a h) rfl (o_2b h)
-- X5_goesItem
set_option maxRecDepth 100000 in
set_option maxHeartbeats 4000000 in
theorem kX5_goesItem (l : Launch) (G : sGl) {S : sWo} {M : sOb}  {q : (Int32 × sOb)}  (h : fX5_goesItem M = some q) : sCt l G yX5_goesItem wsX5_goesItem rmX5_goesItem [.ref (sA G 9 0)] S M (some (.int q.1)) S q.2 := by
  refine cMk (cc := cX5_goesItem) (maxL := 3) (ret := (some .boolean)) (by decide) rfl (Nat.le_of_ble_eq_true rfl) ?_
  intro p e s m args below meth c Q hQ hx hb hr hlk hml hown hts hw ls hl
  have hown : s.vm.findClass RX5 = some m.cls := hown
  have hl : lv_has ls 3 [(0, .ref (sA G 9 0))] := hl
  unfold fX5_goesItem at h
  refine lv_aload_n hx hb dX5_goesItem_0 rfl (lv_at hl 0 rfl) ?_
  obtain ⟨q1, eq1, h⟩ := o_bd h
  refine kV (As := []) (rest := []) (st' := [.int q1]) ⟨hx, hb, hml, hown, hts⟩ (kX5_kindNamed l G eq1) (cwV 0 hts gX5_goesItem_X5_kindNamed rfl rfl rfl qqX5_kindNamed ⟨Nat.le_of_ble_eq_true rfl, Nat.le_of_ble_eq_true rfl⟩) hw (rvMd hw) rfl hl.1 rfl (Nat.le_of_ble_eq_true rfl) dX5_goesItem_1 ⟨Nat.zero_le _, Nat.zero_le _⟩ rfl (fun H locs hw => ?_)
  refine lv_istore_n (lv' := [(1, .int q1), (0, .ref (sA G 9 0))]) hx hb dX5_goesItem_4 rfl hl (by decide) rfl (fun ls hl => ?_)
  refine lv_iload_n hx hb dX5_goesItem_5 rfl (lv_at hl 0 rfl) ?_
  refine lv_if_lt (tgt := 15) hx hb dX5_goesItem_6 (by decide) (fun c6 => ?_) (fun c6 => ?_)
  · replace h := o_t c6 h
    refine lv_aload_n hx hb dX5_goesItem_15 rfl (lv_at hl 1 rfl) ?_
    obtain ⟨q16, eq16, h⟩ := o_bd h
    refine kV (As := []) (rest := []) (st' := [.int q16]) ⟨hx, hb, hml, hown, hts⟩ (kX5_letNamed l G eq16) (cwV 0 hts gX5_goesItem_X5_letNamed rfl rfl rfl qqX5_letNamed ⟨Nat.le_of_ble_eq_true rfl, Nat.le_of_ble_eq_true rfl⟩) hw (rvMd hw) rfl hl.1 rfl (Nat.le_of_ble_eq_true rfl) dX5_goesItem_16 ⟨Nat.zero_le _, Nat.zero_le _⟩ rfl (fun H locs hw => ?_)
    refine lv_istore_n (lv' := [(2, .int q16), (1, .int q1), (0, .ref (sA G 9 0))]) hx hb dX5_goesItem_19 rfl hl (by decide) rfl (fun ls hl => ?_)
    refine lv_iload_n hx hb dX5_goesItem_20 rfl (lv_at hl 0 rfl) ?_
    refine lv_if_lt (tgt := 36) hx hb dX5_goesItem_21 (by decide) (fun c21 => ?_) (fun c21 => ?_)
    · replace h := o_t c21 h
      refine lv_iconst (v := 0) hx hb dX5_goesItem_36 (by decide) ?_
      exact rZ hQ hx hb hr hlk hw (Or.inl rfl) dX5_goesItem_37 (o_2a h) rfl (o_2b h)
    · replace h := o_f c21 h
      refine lv_aload_n hx hb dX5_goesItem_24 rfl (lv_at hl 2 rfl) ?_
      refine lv_iload_n hx hb dX5_goesItem_25 rfl (lv_at hl 0 rfl) ?_
      obtain ⟨q26, eq26, h⟩ := o_bd h
      refine kV (As := [.int q16]) (rest := []) (st' := [.int q26.1]) ⟨hx, hb, hml, hown, hts⟩ (kX5_goesLet l G eq26) (cwV 1 hts gX5_goesItem_X5_goesLet rfl rfl rfl qqX5_goesLet ⟨Nat.le_of_ble_eq_true rfl, Nat.le_of_ble_eq_true rfl⟩) hw (rvMd hw) rfl hl.1 rfl (Nat.le_of_ble_eq_true rfl) dX5_goesItem_26 ⟨Nat.zero_le _, Nat.zero_le _⟩ rfl (fun H locs hw => ?_)
      refine lv_if_eq (tgt := 36) hx hb dX5_goesItem_29 (by decide) (fun c29 => ?_) (fun c29 => ?_)
      · replace h := o_t c29 h
        refine lv_iconst (v := 0) hx hb dX5_goesItem_36 (by decide) ?_
        exact rZ hQ hx hb hr hlk hw (Or.inl rfl) dX5_goesItem_37 (o_2a h) rfl (o_2b h)
      · replace h := o_f c29 h
        refine lv_iconst (v := 1) hx hb dX5_goesItem_32 (by decide) ?_
        refine lv_goto (tgt := 37) hx hb dX5_goesItem_33 (by decide) ?_
        exact rZ hQ hx hb hr hlk hw (Or.inr rfl) dX5_goesItem_37 (o_2a h) rfl (o_2b h)
  · replace h := o_f c6 h
    refine lv_aload_n hx hb dX5_goesItem_9 rfl (lv_at hl 1 rfl) ?_
    refine lv_iload_n hx hb dX5_goesItem_10 rfl (lv_at hl 0 rfl) ?_
    obtain ⟨q11, eq11, h⟩ := o_bd h
    refine kV (As := [.int q1]) (rest := []) (st' := [.int q11.1]) ⟨hx, hb, hml, hown, hts⟩ (kX5_goesRunner l G eq11) (cwV 1 hts gX5_goesItem_X5_goesRunner rfl rfl rfl qqX5_goesRunner ⟨Nat.le_of_ble_eq_true rfl, Nat.le_of_ble_eq_true rfl⟩) hw (rvMd hw) rfl hl.1 rfl (Nat.le_of_ble_eq_true rfl) dX5_goesItem_11 ⟨Nat.zero_le _, Nat.zero_le _⟩ rfl (fun H locs hw => ?_)
    obtain ⟨b14, h⟩ := o_in h
    exact rZ hQ hx hb hr hlk hw (Decidable.not_not.mp b14) dX5_goesItem_14 (o_2a h) rfl (o_2b h)
-- X5_text
set_option maxRecDepth 100000 in
set_option maxHeartbeats 4000000 in
theorem kX5_text (l : Launch) (G : sGl) {S : sWo} {M : sOb}  {q : (Int32 × sOb)}  (h : fX5_text M = some q) : sCt l G yX5_text wsX5_text rmX5_text [.ref (sA G 9 0)] S M (some (.int q.1)) S q.2 := by
  refine cMk (cc := cX5_text) (maxL := 3) (ret := (some .int)) (by decide) rfl (Nat.le_of_ble_eq_true rfl) ?_
  intro p e s m args below meth c Q hQ hx hb hr hlk hml hown hts hw ls hl
  have hown : s.vm.findClass RX5 = some m.cls := hown
  have hl : lv_has ls 3 [(0, .ref (sA G 9 0))] := hl
  have hiX5 : ∀ w ∈ u_ws RX5 TX5 15, w ∈ wsX5_text := by decide +kernel
  unfold fX5_text at h
  refine lv_aload_n hx hb dX5_text_0 rfl (lv_at hl 0 rfl) ?_
  obtain ⟨q1, eq1, h⟩ := o_bd h
  refine kV (As := []) (rest := []) (st' := []) ⟨hx, hb, hml, hown, hts⟩ (kX5_laysBy l G eq1) (cwV 0 hts gX5_text_X5_laysBy rfl rfl rfl qqX5_laysBy ⟨Nat.le_of_ble_eq_true rfl, Nat.le_of_ble_eq_true rfl⟩) hw (rvMd hw) rfl hl.1 rfl (Nat.le_of_ble_eq_true rfl) dX5_text_1 ⟨Nat.zero_le _, Nat.zero_le _⟩ rfl (fun H locs hw => ?_)
  refine lv_aload_n hx hb dX5_text_4 rfl (lv_at hl 0 rfl) ?_
  refine lv_iconst (v := 0) hx hb dX5_text_5 (by decide) ?_
  refine pMd (ty := .int) hx hb hts hiX5 hown hw 13 4 (by decide) rfl rfl (by decide +kernel) rfl rfl (hts (.fieldLink RX5 172 "SecondHomeModel" "to" "I") (by decide +kernel)) dX5_text_6 rfl (fun H locs hw => ?_)
  obtain ⟨M6, eM6, h⟩ := o_nm h
  rw [← eM6] at hw
  refine lv_iconst (v := 0) hx hb dX5_text_9 (by decide) ?_
  refine lv_istore_n (lv' := [(1, .int (0 : Int32)), (0, .ref (sA G 9 0))]) hx hb dX5_text_10 rfl hl (by decide) rfl (fun ls hl => ?_)
  refine lv_iconst (v := 1) hx hb dX5_text_11 (by decide) ?_
  refine lv_istore_n (lv' := [(2, .int (1 : Int32)), (1, .int (0 : Int32)), (0, .ref (sA G 9 0))]) hx hb dX5_text_12 rfl hl (by decide) rfl (fun ls hl => ?_)
  obtain ⟨k82, ek82, h⟩ := o_nm h
  have J82 : ∀ (x1_82 : Int32) (T_82 : sOb) (H : Heap) (locs : List Loc) (ls : Array Slot), sHw G s S T_82 H locs → lv_has ls 3 [(0, .ref (sA G 9 0)), (1, .int x1_82)] → k82 x1_82 T_82 = some q → W p l e rmX5_text s m args below meth c H locs 0 0 Q (F0 m 82 ls []) := by
    intro x1_82 T_82 H locs ls hw hl h
    replace h := o_j2 ek82 h
    refine lv_iload_n hx hb dX5_text_82 rfl (lv_at hl 1 rfl) ?_
    refine lv_if_ge (tgt := 90) hx hb dX5_text_83 (by decide) (fun c83 => ?_) (fun c83 => ?_)
    · replace h := o_t c83 h
      refine lv_aload_n hx hb dX5_text_90 rfl (lv_at hl 0 rfl) ?_
      refine lv_iconst (v := 0) hx hb dX5_text_91 (by decide) ?_
      refine pMd (ty := .int) hx hb hts hiX5 hown hw 6 1 (by decide) rfl rfl (by decide +kernel) rfl rfl (hts (.fieldLink RX5 168 "SecondHomeModel" "taped" "I") (by decide +kernel)) dX5_text_92 rfl (fun H locs hw => ?_)
      obtain ⟨M92, eM92, h⟩ := o_nm h
      rw [← eM92] at hw
      refine lv_iload_n hx hb dX5_text_95 rfl (lv_at hl 1 rfl) ?_
      exact rI hQ hx hb hr hlk hw dX5_text_96 (o_2a h) rfl (o_2b h)
    · replace h := o_f c83 h
      refine lv_aload_n hx hb dX5_text_86 rfl (lv_at hl 0 rfl) ?_
      obtain ⟨q87, eq87, h⟩ := o_bd h
      refine kV (As := []) (rest := []) (st' := []) ⟨hx, hb, hml, hown, hts⟩ (kX5_laysBack l G eq87) (cwV 0 hts gX5_text_X5_laysBack rfl rfl rfl qqX5_laysBack ⟨Nat.le_of_ble_eq_true rfl, Nat.le_of_ble_eq_true rfl⟩) hw (rvMd hw) rfl hl.1 rfl (Nat.le_of_ble_eq_true rfl) dX5_text_87 ⟨Nat.zero_le _, Nat.zero_le _⟩ rfl (fun H locs hw => ?_)
      refine lv_aload_n hx hb dX5_text_90 rfl (lv_at hl 0 rfl) ?_
      refine lv_iconst (v := 0) hx hb dX5_text_91 (by decide) ?_
      refine pMd (ty := .int) hx hb hts hiX5 hown hw 6 1 (by decide) rfl rfl (by decide +kernel) rfl rfl (hts (.fieldLink RX5 168 "SecondHomeModel" "taped" "I") (by decide +kernel)) dX5_text_92 rfl (fun H locs hw => ?_)
      obtain ⟨M92, eM92, h⟩ := o_nm h
      rw [← eM92] at hw
      refine lv_iload_n hx hb dX5_text_95 rfl (lv_at hl 1 rfl) ?_
      exact rI hQ hx hb hr hlk hw dX5_text_96 (o_2a h) rfl (o_2b h)
  refine fx3_w (F := (bX5_text_13 k82)) (P := fun x1_13 x2_13 T_13 => ∀ (H : Heap) (locs : List Loc) (ls : Array Slot), sHw G s S T_13 H locs → lv_has ls 3 [(0, .ref (sA G 9 0)), (1, .int x1_13), (2, .int x2_13)] → W p l e rmX5_text s m args below meth c H locs 0 0 Q (F0 m 13 ls [])) ?_ _ _ _ _ h _ _ _ hw (lv_sub hl [2, 1, 0] rfl)
  intro rc13 IH13 x1_13 x2_13 T_13 h H locs ls hw hl
  unfold bX5_text_13 at h
  refine lv_iload_n hx hb dX5_text_13 rfl (lv_at hl 2 rfl) ?_
  refine lv_if_eq (tgt := 82) hx hb dX5_text_14 (by decide) (fun c14 => ?_) (fun c14 => ?_)
  · replace h := o_t c14 h
    exact J82 x1_13 T_13 _ _ _ hw (lv_sub hl [0, 1] rfl) h
  · replace h := o_f c14 h
    refine lv_aload_n hx hb dX5_text_17 rfl (lv_at hl 0 rfl) ?_
    obtain ⟨q18, eq18, h⟩ := o_bd h
    refine kV (As := []) (rest := []) (st' := []) ⟨hx, hb, hml, hown, hts⟩ (kX5_nextToken l G eq18) (cwV 0 hts gX5_text_X5_nextToken rfl rfl rfl qqX5_nextToken ⟨Nat.le_of_ble_eq_true rfl, Nat.le_of_ble_eq_true rfl⟩) hw (rvMd hw) rfl hl.1 rfl (Nat.le_of_ble_eq_true rfl) dX5_text_18 ⟨Nat.zero_le _, Nat.zero_le _⟩ rfl (fun H locs hw => ?_)
    refine lv_aload_n hx hb dX5_text_21 rfl (lv_at hl 0 rfl) ?_
    obtain ⟨q22, eq22, h⟩ := o_bd h
    refine kV (As := []) (rest := []) (st' := [.int q22.1]) ⟨hx, hb, hml, hown, hts⟩ (kX5_goesItem l G eq22) (cwV 0 hts gX5_text_X5_goesItem rfl rfl rfl qqX5_goesItem ⟨Nat.le_of_ble_eq_true rfl, Nat.le_of_ble_eq_true rfl⟩) hw (rvMd hw) rfl hl.1 rfl (Nat.le_of_ble_eq_true rfl) dX5_text_22 ⟨Nat.zero_le _, Nat.zero_le _⟩ rfl (fun H locs hw => ?_)
    refine lv_if_ne (tgt := 40) hx hb dX5_text_25 (by decide) (fun c25 => ?_) (fun c25 => ?_)
    · replace h := o_f c25 h
      obtain ⟨v40, ev40, h⟩ := o_nm h
      refine lv_iinc (v := v40) (lv' := [(1, .int v40), (0, .ref (sA G 9 0)), (2, .int x2_13)]) hx hb dX5_text_40 hl (k := 1) rfl (by rw [ev40]; rfl) (by decide) rfl (fun ls hl => ?_)
      refine lv_aload_n hx hb dX5_text_43 rfl (lv_at hl 1 rfl) ?_
      refine gMd (v := .int (q22.2.1 2)) hx hb hts hiX5 hown hw 11 (by decide) (hts (.fieldLink RX5 187 "SecondHomeModel" "token" "I") (by decide +kernel)) rfl dX5_text_44 ?_
      refine lv_iconst (v := 3) hx hb dX5_text_47 (by decide) ?_
      obtain ⟨k56, ek56, h⟩ := o_nm h
      have J56 : ∀ (y0_56 : Int32) (H : Heap) (locs : List Loc) (ls : Array Slot), sHw G s S q22.2 H locs → lv_has ls 3 [(0, .ref (sA G 9 0)), (1, .int v40)] → k56 y0_56 = some q → W p l e rmX5_text s m args below meth c H locs 0 0 Q (F0 m 56 ls [.int y0_56]) := by
        intro y0_56 H locs ls hw hl h
        replace h := o_j1 ek56 h
        refine lv_istore_n (lv' := [(2, .int y0_56), (0, .ref (sA G 9 0)), (1, .int v40)]) hx hb dX5_text_56 rfl hl (by decide) rfl (fun ls hl => ?_)
        refine lv_iload_n hx hb dX5_text_57 rfl (lv_at hl 0 rfl) ?_
        refine lv_if_ne (tgt := 68) hx hb dX5_text_58 (by decide) (fun c58 => ?_) (fun c58 => ?_)
        · replace h := o_f c58 h
          refine lv_iload_n hx hb dX5_text_68 rfl (lv_at hl 2 rfl) ?_
          refine lv_goto (tgt := 78) hx hb dX5_text_69 (by decide) ?_
          refine lv_istore_n (lv' := [(1, .int v40), (2, .int y0_56), (0, .ref (sA G 9 0))]) hx hb dX5_text_78 rfl hl (by decide) rfl (fun ls hl => ?_)
          refine lv_goto (tgt := 13) hx hb dX5_text_79 (by decide) ?_
          exact IH13 v40 y0_56 q22.2 h _ _ _ hw (lv_sub hl [2, 0, 1] rfl)
        · replace h := o_t c58 h
          refine lv_aload_n hx hb dX5_text_61 rfl (lv_at hl 1 rfl) ?_
          refine gMd (v := .int (q22.2.1 2)) hx hb hts hiX5 hown hw 11 (by decide) (hts (.fieldLink RX5 187 "SecondHomeModel" "token" "I") (by decide +kernel)) rfl dX5_text_62 ?_
          refine lv_if_ne (tgt := 72) hx hb dX5_text_65 (by decide) (fun c65 => ?_) (fun c65 => ?_)
          · replace h := o_f c65 h
            refine lv_iconst (v := -1) hx hb dX5_text_72 (by decide) ?_
            refine lv_aload_n hx hb dX5_text_73 rfl (lv_at hl 1 rfl) ?_
            refine gMd (v := .int (q22.2.1 3)) hx hb hts hiX5 hown hw 12 (by decide) (hts (.fieldLink RX5 175 "SecondHomeModel" "from" "I") (by decide +kernel)) rfl dX5_text_74 ?_
            refine lv_isub hx hb dX5_text_77 ?_
            refine lv_topi (fun v78 ev78 => ?_)
            replace h := o_nx ev78 h
            refine lv_istore_n (lv' := [(1, .int v78), (2, .int y0_56), (0, .ref (sA G 9 0))]) hx hb dX5_text_78 rfl hl (by decide) rfl (fun ls hl => ?_)
            refine lv_goto (tgt := 13) hx hb dX5_text_79 (by decide) ?_
            exact IH13 v78 y0_56 q22.2 h _ _ _ hw (lv_sub hl [2, 0, 1] rfl)
          · replace h := o_t c65 h
            refine lv_iload_n hx hb dX5_text_68 rfl (lv_at hl 2 rfl) ?_
            refine lv_goto (tgt := 78) hx hb dX5_text_69 (by decide) ?_
            refine lv_istore_n (lv' := [(1, .int v40), (2, .int y0_56), (0, .ref (sA G 9 0))]) hx hb dX5_text_78 rfl hl (by decide) rfl (fun ls hl => ?_)
            refine lv_goto (tgt := 13) hx hb dX5_text_79 (by decide) ?_
            exact IH13 v40 y0_56 q22.2 h _ _ _ hw (lv_sub hl [2, 0, 1] rfl)
      refine lv_icmp_ne (tgt := 55) hx hb dX5_text_48 (by decide) (fun c48 => ?_) (fun c48 => ?_)
      · replace h := o_f c48 h
        refine lv_iconst (v := 0) hx hb dX5_text_55 (by decide) ?_
        exact J56 (0 : Int32) _ _ _ hw (lv_sub hl [1, 0] rfl) h
      · replace h := o_t c48 h
        refine lv_iconst (v := 1) hx hb dX5_text_51 (by decide) ?_
        refine lv_goto (tgt := 56) hx hb dX5_text_52 (by decide) ?_
        exact J56 (1 : Int32) _ _ _ hw (lv_sub hl [1, 0] rfl) h
    · replace h := o_t c25 h
      refine lv_iconst (v := -1) hx hb dX5_text_28 (by decide) ?_
      refine lv_aload_n hx hb dX5_text_29 rfl (lv_at hl 0 rfl) ?_
      refine gMd (v := .int (q22.2.1 3)) hx hb hts hiX5 hown hw 12 (by decide) (hts (.fieldLink RX5 175 "SecondHomeModel" "from" "I") (by decide +kernel)) rfl dX5_text_30 ?_
      refine lv_isub hx hb dX5_text_33 ?_
      refine lv_topi (fun v34 ev34 => ?_)
      replace h := o_nx ev34 h
      refine lv_istore_n (lv' := [(1, .int v34), (0, .ref (sA G 9 0)), (2, .int x2_13)]) hx hb dX5_text_34 rfl hl (by decide) rfl (fun ls hl => ?_)
      refine lv_iconst (v := 0) hx hb dX5_text_35 (by decide) ?_
      refine lv_istore_n (lv' := [(2, .int (0 : Int32)), (1, .int v34), (0, .ref (sA G 9 0))]) hx hb dX5_text_36 rfl hl (by decide) rfl (fun ls hl => ?_)
      refine lv_goto (tgt := 13) hx hb dX5_text_37 (by decide) ?_
      exact IH13 v34 (0 : Int32) q22.2 h _ _ _ hw (lv_sub hl [2, 1, 0] rfl)
-- X5_isSheet
set_option maxRecDepth 100000 in
set_option maxHeartbeats 4000000 in
theorem kX5_isSheet (l : Launch) (G : sGl) {S : sWo} {M : sOb} {a0 : Int32} {q : Int32}  (h : fX5_isSheet a0 = some q) : sCt l G yX5_isSheet wsX5_isSheet rmX5_isSheet [.int a0] S M (some (.int q)) S M := by
  refine cMk (cc := cX5_isSheet) (maxL := 1) (ret := (some .boolean)) (by decide) rfl (Nat.le_of_ble_eq_true rfl) ?_
  intro p e s m args below meth c Q hQ hx hb hr hlk hml hown hts hw ls hl
  have hown : s.vm.findClass RX5 = some m.cls := hown
  have hl : lv_has ls 1 [(0, .int a0)] := hl
  unfold fX5_isSheet at h
  refine lv_iload_n hx hb dX5_isSheet_0 rfl (lv_at hl 0 rfl) ?_
  refine lv_if_lt (tgt := 13) hx hb dX5_isSheet_1 (by decide) (fun c1 => ?_) (fun c1 => ?_)
  · replace h := o_t c1 h
    refine lv_iconst (v := 0) hx hb dX5_isSheet_13 (by decide) ?_
    exact rZ hQ hx hb hr hlk hw (Or.inl rfl) dX5_isSheet_14 (o_1 h) rfl rfl
  · replace h := o_f c1 h
    refine lv_iload_n hx hb dX5_isSheet_4 rfl (lv_at hl 0 rfl) ?_
    refine lv_iconst (v := 4) hx hb dX5_isSheet_5 (by decide) ?_
    refine lv_icmp_ge (tgt := 13) hx hb dX5_isSheet_6 (by decide) (fun c6 => ?_) (fun c6 => ?_)
    · replace h := o_t c6 h
      refine lv_iconst (v := 0) hx hb dX5_isSheet_13 (by decide) ?_
      exact rZ hQ hx hb hr hlk hw (Or.inl rfl) dX5_isSheet_14 (o_1 h) rfl rfl
    · replace h := o_f c6 h
      refine lv_iconst (v := 1) hx hb dX5_isSheet_9 (by decide) ?_
      refine lv_goto (tgt := 14) hx hb dX5_isSheet_10 (by decide) ?_
      exact rZ hQ hx hb hr hlk hw (Or.inr rfl) dX5_isSheet_14 (o_1 h) rfl rfl
-- X5_narrow
set_option maxRecDepth 100000 in
set_option maxHeartbeats 4000000 in
theorem kX5_narrow (l : Launch) (G : sGl) {S : sWo} {M : sOb} {a0 : Int32} {a1 : Int64} {q : Int64}  (h : fX5_narrow a0 a1 = some q) : sCt l G yX5_narrow wsX5_narrow rmX5_narrow [.int a0, .long a1] S M (some (.long q)) S M := by
  refine cMk (cc := cX5_narrow) (maxL := 3) (ret := (some .long)) (by decide) rfl (Nat.le_of_ble_eq_true rfl) ?_
  intro p e s m args below meth c Q hQ hx hb hr hlk hml hown hts hw ls hl
  have hown : s.vm.findClass RX5 = some m.cls := hown
  have hl : lv_has ls 3 [(0, .int a0), (1, .long a1)] := hl
  unfold fX5_narrow at h
  refine lv_iload_n hx hb dX5_narrow_0 rfl (lv_at hl 0 rfl) ?_
  refine lv_bipush (v := 8) hx hb dX5_narrow_1 (by decide) ?_
  refine lv_icmp_ne (tgt := 13) hx hb dX5_narrow_3 (by decide) (fun c3 => ?_) (fun c3 => ?_)
  · replace h := o_f c3 h
    refine lv_iload_n hx hb dX5_narrow_13 rfl (lv_at hl 0 rfl) ?_
    refine lv_bipush (v := 16) hx hb dX5_narrow_14 (by decide) ?_
    refine lv_icmp_ne (tgt := 26) hx hb dX5_narrow_16 (by decide) (fun c16 => ?_) (fun c16 => ?_)
    · replace h := o_f c16 h
      refine lv_lload_n hx hb dX5_narrow_26 rfl (lv_at hl 1 rfl) ?_
      exact rL hQ hx hb hr hlk hw dX5_narrow_27 (o_1 h) rfl rfl
    · replace h := o_t c16 h
      refine lv_lload_n hx hb dX5_narrow_19 rfl (lv_at hl 1 rfl) ?_
      refine lv_l2i hx hb dX5_narrow_20 rfl ?_
      refine lv_i2s hx hb dX5_narrow_21 rfl ?_
      refine lv_i2l hx hb dX5_narrow_22 rfl ?_
      refine lv_goto (tgt := 27) hx hb dX5_narrow_23 (by decide) ?_
      exact rL hQ hx hb hr hlk hw dX5_narrow_27 (o_1 h) rfl rfl
  · replace h := o_t c3 h
    refine lv_lload_n hx hb dX5_narrow_6 rfl (lv_at hl 1 rfl) ?_
    refine lv_l2i hx hb dX5_narrow_7 rfl ?_
    refine lv_i2b hx hb dX5_narrow_8 rfl ?_
    refine lv_i2l hx hb dX5_narrow_9 rfl ?_
    refine lv_goto (tgt := 27) hx hb dX5_narrow_10 (by decide) ?_
    exact rL hQ hx hb hr hlk hw dX5_narrow_27 (o_1 h) rfl rfl
-- X5_sheet
set_option maxRecDepth 100000 in
set_option maxHeartbeats 4000000 in
theorem kX5_sheet (l : Launch) (G : sGl) {S : sWo} {M : sOb} {a1 : Int32} {a2 : Int32} {a3 : Int32} {q : (Int32 × sOb)}  (h : fX5_sheet M a1 a2 a3 = some q) : sCt l G yX5_sheet wsX5_sheet rmX5_sheet [.ref (sA G 9 0), .int a1, .int a2, .int a3] S M (some (.int q.1)) S q.2 := by
  refine cMk (cc := cX5_sheet) (maxL := 5) (ret := (some .int)) (by decide) rfl (Nat.le_of_ble_eq_true rfl) ?_
  intro p e s m args below meth c Q hQ hx hb hr hlk hml hown hts hw ls hl
  have hown : s.vm.findClass RX5 = some m.cls := hown
  have hl : lv_has ls 5 [(0, .ref (sA G 9 0)), (1, .int a1), (2, .int a2), (3, .int a3)] := hl
  have hiX5 : ∀ w ∈ u_ws RX5 TX5 15, w ∈ wsX5_sheet := by decide +kernel
  unfold fX5_sheet at h
  refine lv_iload_n hx hb dX5_sheet_0 rfl (lv_at hl 1 rfl) ?_
  obtain ⟨q1, eq1, h⟩ := o_bd h
  refine kS (As := [.int a1]) (rest := []) (st' := [.int q1]) ⟨hx, hb, hml, hown, hts⟩ (kX5_isSheet l G eq1) (va_cwS 1 hts gX5_sheet_X5_isSheet rfl rfl rfl qqX5_isSheet ⟨Nat.le_of_ble_eq_true rfl, Nat.le_of_ble_eq_true rfl⟩) hw rfl hl.1 rfl (Nat.le_of_ble_eq_true rfl) dX5_sheet_1 ⟨Nat.zero_le _, Nat.zero_le _⟩ rfl (fun H locs hw => ?_)
  refine lv_if_eq (tgt := 29) hx hb dX5_sheet_4 (by decide) (fun c4 => ?_) (fun c4 => ?_)
  · replace h := o_t c4 h
    refine lv_aload_n hx hb dX5_sheet_29 rfl (lv_at hl 0 rfl) ?_
    refine lv_ldc (v := -1000000001) hx hb hown (hts (.constant RX5 38 (-1000000001)) (by decide +kernel)) dX5_sheet_30 ?_
    obtain ⟨q32, eq32, h⟩ := o_bd h
    refine kV (As := [.int (-1000000001 : Int32)]) (rest := []) (st' := [.int q32.1]) ⟨hx, hb, hml, hown, hts⟩ (kX5_finds l G eq32) (cwV 1 hts gX5_sheet_X5_finds rfl rfl rfl qqX5_finds ⟨Nat.le_of_ble_eq_true rfl, Nat.le_of_ble_eq_true rfl⟩) hw (rvMd hw) rfl hl.1 rfl (Nat.le_of_ble_eq_true rfl) dX5_sheet_32 ⟨Nat.zero_le _, Nat.zero_le _⟩ rfl (fun H locs hw => ?_)
    exact rI hQ hx hb hr hlk hw dX5_sheet_35 (o_2a h) rfl (o_2b h)
  · replace h := o_f c4 h
    refine lv_iload_n hx hb dX5_sheet_7 rfl (lv_at hl 2 rfl) ?_
    obtain ⟨k36, ek36, h⟩ := o_nm h
    have J36 : ∀ (H : Heap) (locs : List Loc) (ls : Array Slot), sHw G s S M H locs → lv_has ls 5 [(0, .ref (sA G 9 0)), (1, .int a1), (2, .int a2), (3, .int a3)] → k36 = some q → W p l e rmX5_sheet s m args below meth c H locs 0 0 Q (F0 m 36 ls []) := by
      intro H locs ls hw hl h
      replace h := o_j0 ek36 h
      refine lv_iload_n hx hb dX5_sheet_36 rfl (lv_at hl 3 rfl) ?_
      refine lv_if_ge (tgt := 47) hx hb dX5_sheet_37 (by decide) (fun c37 => ?_) (fun c37 => ?_)
      · replace h := o_t c37 h
        refine lv_iload_n hx hb dX5_sheet_47 rfl (lv_at hl 3 rfl) ?_
        refine lv_bipush (v := 40) hx hb dX5_sheet_48 (by decide) ?_
        refine lv_icmp_le (tgt := 60) hx hb dX5_sheet_50 (by decide) (fun c50 => ?_) (fun c50 => ?_)
        · replace h := o_t c50 h
          refine lv_aload_n hx hb dX5_sheet_60 rfl (lv_at hl 0 rfl) ?_
          refine gMd (v := .ref (sA G 9 6)) hx hb hts hiX5 hown hw 7 (by decide) (hts (.fieldLink RX5 25 "SecondHomeModel" "bitsOf" "[I") (by decide +kernel)) rfl dX5_sheet_61 ?_
          refine lv_iload_n hx hb dX5_sheet_64 rfl (lv_at hl 1 rfl) ?_
          refine lv_iload_n hx hb dX5_sheet_65 rfl (lv_at hl 2 rfl) ?_
          obtain ⟨k74, ek74, h⟩ := o_nm h
          have J74 : ∀ (y0_74 : Int32) (H : Heap) (locs : List Loc) (ls : Array Slot), sHw G s S M H locs → lv_has ls 5 [(0, .ref (sA G 9 0)), (1, .int a1), (2, .int a2), (3, .int a3)] → k74 y0_74 = some q → W p l e rmX5_sheet s m args below meth c H locs 0 0 Q (F0 m 74 ls [.int y0_74, .int a1, .ref (sA G 9 6)]) := by
            intro y0_74 H locs ls hw hl h
            replace h := o_j1 ek74 h
            obtain ⟨b74, h⟩ := o_in h
            refine stMd hx hb hw 5 (by decide) (n := 4) rfl b74 dX5_sheet_74 rfl (fun H locs hw => ?_)
            obtain ⟨M74, eM74, h⟩ := o_nm h
            rw [← eM74] at hw
            refine lv_aload_n hx hb dX5_sheet_75 rfl (lv_at hl 0 rfl) ?_
            refine gMd (v := .ref (sA G 9 7)) hx hb hts hiX5 hown hw 8 (by decide) (hts (.fieldLink RX5 28 "SecondHomeModel" "sizes" "[I") (by decide +kernel)) rfl dX5_sheet_76 ?_
            refine lv_iload_n hx hb dX5_sheet_79 rfl (lv_at hl 1 rfl) ?_
            refine lv_iload_n hx hb dX5_sheet_80 rfl (lv_at hl 2 rfl) ?_
            obtain ⟨k89, ek89, h⟩ := o_nm h
            have J89 : ∀ (y0_89 : Int32) (H : Heap) (locs : List Loc) (ls : Array Slot), sHw G s S M74 H locs → lv_has ls 5 [(0, .ref (sA G 9 0)), (1, .int a1)] → k89 y0_89 = some q → W p l e rmX5_sheet s m args below meth c H locs 0 0 Q (F0 m 89 ls [.int y0_89, .int a1, .ref (sA G 9 7)]) := by
              intro y0_89 H locs ls hw hl h
              replace h := o_j1 ek89 h
              refine stMd hx hb hw 6 (by decide) (n := 4) rfl b74 dX5_sheet_89 rfl (fun H locs hw => ?_)
              obtain ⟨M89, eM89, h⟩ := o_nm h
              rw [← eM89] at hw
              refine lv_iconst (v := 0) hx hb dX5_sheet_90 (by decide) ?_
              refine lv_istore (lv' := [(4, .int (0 : Int32)), (0, .ref (sA G 9 0)), (1, .int a1)]) hx hb dX5_sheet_91 hl (by decide) rfl (fun ls hl => ?_)
              refine fx2_w (F := (bX5_sheet_93 a1)) (P := fun x4_93 T_93 => ∀ (H : Heap) (locs : List Loc) (ls : Array Slot), sHw G s S T_93 H locs → lv_has ls 5 [(0, .ref (sA G 9 0)), (1, .int a1), (4, .int x4_93)] → W p l e rmX5_sheet s m args below meth c H locs 0 0 Q (F0 m 93 ls [])) ?_ _ _ _ h _ _ _ hw (lv_sub hl [1, 2, 0] rfl)
              intro rc93 IH93 x4_93 T_93 h H locs ls hw hl
              unfold bX5_sheet_93 at h
              refine lv_iload hx hb dX5_sheet_93 (lv_at hl 2 rfl) ?_
              refine lv_bipush (v := 40) hx hb dX5_sheet_95 (by decide) ?_
              refine lv_icmp_ge (tgt := 119) hx hb dX5_sheet_97 (by decide) (fun c97 => ?_) (fun c97 => ?_)
              · replace h := o_t c97 h
                refine lv_aload_n hx hb dX5_sheet_119 rfl (lv_at hl 0 rfl) ?_
                refine gMd (v := .ref (sA G 9 7)) hx hb hts hiX5 hown hw 8 (by decide) (hts (.fieldLink RX5 28 "SecondHomeModel" "sizes" "[I") (by decide +kernel)) rfl dX5_sheet_120 ?_
                refine lv_iload_n hx hb dX5_sheet_123 rfl (lv_at hl 1 rfl) ?_
                refine ldMd hx hb hw 6 (by decide) (n := 4) rfl b74 dX5_sheet_124 ?_
                exact rI hQ hx hb hr hlk hw dX5_sheet_125 (o_2a h) rfl (o_2b h)
              · replace h := o_f c97 h
                refine lv_aload_n hx hb dX5_sheet_100 rfl (lv_at hl 0 rfl) ?_
                refine gMd (v := .ref (sA G 9 9)) hx hb hts hiX5 hown hw 9 (by decide) (hts (.fieldLink RX5 31 "SecondHomeModel" "numbers" "[J") (by decide +kernel)) rfl dX5_sheet_101 ?_
                refine lv_bipush (v := 40) hx hb dX5_sheet_104 (by decide) ?_
                refine lv_iload_n hx hb dX5_sheet_106 rfl (lv_at hl 1 rfl) ?_
                refine lv_imul hx hb dX5_sheet_107 ?_
                refine lv_iload hx hb dX5_sheet_108 (lv_at hl 2 rfl) ?_
                refine lv_iadd hx hb dX5_sheet_110 ?_
                refine lv_lconst (v := 0) hx hb dX5_sheet_111 (by decide) ?_
                obtain ⟨b112, h⟩ := o_in h
                refine stMl hx hb hw b112 dX5_sheet_112 rfl (fun H locs hw => ?_)
                obtain ⟨M112, eM112, h⟩ := o_nm h
                rw [← eM112] at hw
                obtain ⟨v113, ev113, h⟩ := o_nm h
                refine lv_iinc (v := v113) (lv' := [(4, .int v113), (0, .ref (sA G 9 0)), (1, .int a1)]) hx hb dX5_sheet_113 hl (k := 2) rfl (by rw [ev113]; rfl) (by decide) rfl (fun ls hl => ?_)
                refine lv_goto (tgt := 93) hx hb dX5_sheet_116 (by decide) ?_
                exact IH93 v113 M112 h _ _ _ hw (lv_sub hl [1, 2, 0] rfl)
            refine lv_if_ne (tgt := 88) hx hb dX5_sheet_81 (by decide) (fun c81 => ?_) (fun c81 => ?_)
            · replace h := o_f c81 h
              refine lv_iload_n hx hb dX5_sheet_88 rfl (lv_at hl 3 rfl) ?_
              exact J89 a3 _ _ _ hw (lv_sub hl [0, 1] rfl) h
            · replace h := o_t c81 h
              refine lv_iconst (v := 0) hx hb dX5_sheet_84 (by decide) ?_
              refine lv_goto (tgt := 89) hx hb dX5_sheet_85 (by decide) ?_
              exact J89 (0 : Int32) _ _ _ hw (lv_sub hl [0, 1] rfl) h
          refine lv_if_ne (tgt := 73) hx hb dX5_sheet_66 (by decide) (fun c66 => ?_) (fun c66 => ?_)
          · replace h := o_f c66 h
            refine lv_iload_n hx hb dX5_sheet_73 rfl (lv_at hl 2 rfl) ?_
            exact J74 a2 _ _ _ hw (lv_sub hl [0, 1, 2, 3] rfl) h
          · replace h := o_t c66 h
            refine lv_iconst (v := -1) hx hb dX5_sheet_69 (by decide) ?_
            refine lv_goto (tgt := 74) hx hb dX5_sheet_70 (by decide) ?_
            exact J74 (-1 : Int32) _ _ _ hw (lv_sub hl [0, 1, 2, 3] rfl) h
        · replace h := o_f c50 h
          refine lv_aload_n hx hb dX5_sheet_53 rfl (lv_at hl 0 rfl) ?_
          refine lv_ldc (v := -1000000001) hx hb hown (hts (.constant RX5 38 (-1000000001)) (by decide +kernel)) dX5_sheet_54 ?_
          obtain ⟨q56, eq56, h⟩ := o_bd h
          refine kV (As := [.int (-1000000001 : Int32)]) (rest := []) (st' := [.int q56.1]) ⟨hx, hb, hml, hown, hts⟩ (kX5_finds l G eq56) (cwV 1 hts gX5_sheet_X5_finds rfl rfl rfl qqX5_finds ⟨Nat.le_of_ble_eq_true rfl, Nat.le_of_ble_eq_true rfl⟩) hw (rvMd hw) rfl hl.1 rfl (Nat.le_of_ble_eq_true rfl) dX5_sheet_56 ⟨Nat.zero_le _, Nat.zero_le _⟩ rfl (fun H locs hw => ?_)
          exact rI hQ hx hb hr hlk hw dX5_sheet_59 (o_2a h) rfl (o_2b h)
      · replace h := o_f c37 h
        refine lv_aload_n hx hb dX5_sheet_40 rfl (lv_at hl 0 rfl) ?_
        refine lv_ldc (v := -1000000007) hx hb hown (hts (.constant RX5 228 (-1000000007)) (by decide +kernel)) dX5_sheet_41 ?_
        obtain ⟨q43, eq43, h⟩ := o_bd h
        refine kV (As := [.int (-1000000007 : Int32)]) (rest := []) (st' := [.int q43.1]) ⟨hx, hb, hml, hown, hts⟩ (kX5_finds l G eq43) (cwV 1 hts gX5_sheet_X5_finds rfl rfl rfl qqX5_finds ⟨Nat.le_of_ble_eq_true rfl, Nat.le_of_ble_eq_true rfl⟩) hw (rvMd hw) rfl hl.1 rfl (Nat.le_of_ble_eq_true rfl) dX5_sheet_43 ⟨Nat.zero_le _, Nat.zero_le _⟩ rfl (fun H locs hw => ?_)
        exact rI hQ hx hb hr hlk hw dX5_sheet_46 (o_2a h) rfl (o_2b h)
    refine lv_if_eq (tgt := 36) hx hb dX5_sheet_8 (by decide) (fun c8 => ?_) (fun c8 => ?_)
    · replace h := o_t c8 h
      exact J36 _ _ _ hw (lv_sub hl [0, 1, 2, 3] rfl) h
    · replace h := o_f c8 h
      refine lv_iload_n hx hb dX5_sheet_11 rfl (lv_at hl 2 rfl) ?_
      refine lv_bipush (v := 8) hx hb dX5_sheet_12 (by decide) ?_
      refine lv_icmp_eq (tgt := 36) hx hb dX5_sheet_14 (by decide) (fun c14 => ?_) (fun c14 => ?_)
      · replace h := o_t c14 h
        exact J36 _ _ _ hw (lv_sub hl [0, 1, 2, 3] rfl) h
      · replace h := o_f c14 h
        refine lv_iload_n hx hb dX5_sheet_17 rfl (lv_at hl 2 rfl) ?_
        refine lv_bipush (v := 16) hx hb dX5_sheet_18 (by decide) ?_
        refine lv_icmp_eq (tgt := 36) hx hb dX5_sheet_20 (by decide) (fun c20 => ?_) (fun c20 => ?_)
        · replace h := o_t c20 h
          exact J36 _ _ _ hw (lv_sub hl [0, 1, 2, 3] rfl) h
        · replace h := o_f c20 h
          refine lv_iload_n hx hb dX5_sheet_23 rfl (lv_at hl 2 rfl) ?_
          refine lv_bipush (v := 64) hx hb dX5_sheet_24 (by decide) ?_
          refine lv_icmp_eq (tgt := 36) hx hb dX5_sheet_26 (by decide) (fun c26 => ?_) (fun c26 => ?_)
          · replace h := o_t c26 h
            exact J36 _ _ _ hw (lv_sub hl [0, 1, 2, 3] rfl) h
          · replace h := o_f c26 h
            refine lv_aload_n hx hb dX5_sheet_29 rfl (lv_at hl 0 rfl) ?_
            refine lv_ldc (v := -1000000001) hx hb hown (hts (.constant RX5 38 (-1000000001)) (by decide +kernel)) dX5_sheet_30 ?_
            obtain ⟨q32, eq32, h⟩ := o_bd h
            refine kV (As := [.int (-1000000001 : Int32)]) (rest := []) (st' := [.int q32.1]) ⟨hx, hb, hml, hown, hts⟩ (kX5_finds l G eq32) (cwV 1 hts gX5_sheet_X5_finds rfl rfl rfl qqX5_finds ⟨Nat.le_of_ble_eq_true rfl, Nat.le_of_ble_eq_true rfl⟩) hw (rvMd hw) rfl hl.1 rfl (Nat.le_of_ble_eq_true rfl) dX5_sheet_32 ⟨Nat.zero_le _, Nat.zero_le _⟩ rfl (fun H locs hw => ?_)
            exact rI hQ hx hb hr hlk hw dX5_sheet_35 (o_2a h) rfl (o_2b h)
-- X5_write
set_option maxRecDepth 100000 in
set_option maxHeartbeats 4000000 in
theorem kX5_write (l : Launch) (G : sGl) {S : sWo} {M : sOb} {a1 : Int32} {a2 : Int32} {a3 : Int64} {q : (Int64 × sOb)}  (h : fX5_write M a1 a2 a3 = some q) : sCt l G yX5_write wsX5_write rmX5_write [.ref (sA G 9 0), .int a1, .int a2, .long a3] S M (some (.long q.1)) S q.2 := by
  refine cMk (cc := cX5_write) (maxL := 7) (ret := (some .long)) (by decide) rfl (Nat.le_of_ble_eq_true rfl) ?_
  intro p e s m args below meth c Q hQ hx hb hr hlk hml hown hts hw ls hl
  have hown : s.vm.findClass RX5 = some m.cls := hown
  have hl : lv_has ls 7 [(0, .ref (sA G 9 0)), (1, .int a1), (2, .int a2), (3, .long a3)] := hl
  have hiX5 : ∀ w ∈ u_ws RX5 TX5 15, w ∈ wsX5_write := by decide +kernel
  unfold fX5_write at h
  refine lv_iload_n hx hb dX5_write_0 rfl (lv_at hl 1 rfl) ?_
  obtain ⟨q1, eq1, h⟩ := o_bd h
  refine kS (As := [.int a1]) (rest := []) (st' := [.int q1]) ⟨hx, hb, hml, hown, hts⟩ (kX5_isSheet l G eq1) (va_cwS 1 hts gX5_write_X5_isSheet rfl rfl rfl qqX5_isSheet ⟨Nat.le_of_ble_eq_true rfl, Nat.le_of_ble_eq_true rfl⟩) hw rfl hl.1 rfl (Nat.le_of_ble_eq_true rfl) dX5_write_1 ⟨Nat.zero_le _, Nat.zero_le _⟩ rfl (fun H locs hw => ?_)
  refine lv_if_ne (tgt := 15) hx hb dX5_write_4 (by decide) (fun c4 => ?_) (fun c4 => ?_)
  · replace h := o_f c4 h
    refine lv_aload_n hx hb dX5_write_15 rfl (lv_at hl 0 rfl) ?_
    refine gMd (v := .ref (sA G 9 6)) hx hb hts hiX5 hown hw 7 (by decide) (hts (.fieldLink RX5 25 "SecondHomeModel" "bitsOf" "[I") (by decide +kernel)) rfl dX5_write_16 ?_
    refine lv_iload_n hx hb dX5_write_19 rfl (lv_at hl 1 rfl) ?_
    obtain ⟨b20, h⟩ := o_in h
    refine ldMd hx hb hw 5 (by decide) (n := 4) rfl b20 dX5_write_20 ?_
    refine lv_if_ge (tgt := 32) hx hb dX5_write_21 (by decide) (fun c21 => ?_) (fun c21 => ?_)
    · replace h := o_t c21 h
      refine lv_iload_n hx hb dX5_write_32 rfl (lv_at hl 2 rfl) ?_
      refine lv_i2l hx hb dX5_write_33 rfl ?_
      refine lv_lconst (v := 0) hx hb dX5_write_34 (by decide) ?_
      refine lv_aload_n hx hb dX5_write_35 rfl (lv_at hl 0 rfl) ?_
      refine gMd (v := .ref (sA G 9 7)) hx hb hts hiX5 hown hw 8 (by decide) (hts (.fieldLink RX5 28 "SecondHomeModel" "sizes" "[I") (by decide +kernel)) rfl dX5_write_36 ?_
      refine lv_iload_n hx hb dX5_write_39 rfl (lv_at hl 1 rfl) ?_
      refine ldMd hx hb hw 6 (by decide) (n := 4) rfl b20 dX5_write_40 ?_
      refine lv_iconst (v := 1) hx hb dX5_write_41 (by decide) ?_
      refine lv_isub hx hb dX5_write_42 ?_
      refine lv_i2l hx hb dX5_write_43 rfl ?_
      obtain ⟨q44, eq44, h⟩ := o_bd h
      refine kS (As := [.long a2.toInt64, .long (0 : Int64), .long (((M.2.1 6 a1.toNatClampNeg) - (1 : Int32)).toInt64)]) (rest := []) (st' := [.int q44]) ⟨hx, hb, hml, hown, hts⟩ (kX5_isIn l G eq44) (va_cwS 3 hts gX5_write_X5_isIn rfl rfl rfl qqX5_isIn ⟨Nat.le_of_ble_eq_true rfl, Nat.le_of_ble_eq_true rfl⟩) hw rfl hl.1 rfl (Nat.le_of_ble_eq_true rfl) dX5_write_44 ⟨Nat.zero_le _, Nat.zero_le _⟩ rfl (fun H locs hw => ?_)
      refine lv_if_ne (tgt := 58) hx hb dX5_write_47 (by decide) (fun c47 => ?_) (fun c47 => ?_)
      · replace h := o_f c47 h
        refine lv_aload_n hx hb dX5_write_58 rfl (lv_at hl 0 rfl) ?_
        refine gMd (v := .ref (sA G 9 9)) hx hb hts hiX5 hown hw 9 (by decide) (hts (.fieldLink RX5 31 "SecondHomeModel" "numbers" "[J") (by decide +kernel)) rfl dX5_write_59 ?_
        refine lv_bipush (v := 40) hx hb dX5_write_62 (by decide) ?_
        refine lv_iload_n hx hb dX5_write_64 rfl (lv_at hl 1 rfl) ?_
        refine lv_imul hx hb dX5_write_65 ?_
        refine lv_iload_n hx hb dX5_write_66 rfl (lv_at hl 2 rfl) ?_
        refine lv_iadd hx hb dX5_write_67 ?_
        obtain ⟨b68, h⟩ := o_in h
        refine ldMl hx hb hw b68 dX5_write_68 ?_
        refine lv_topl (fun v69 ev69 => ?_)
        replace h := o_nx ev69 h
        refine lv_lstore (lv' := [(5, .long v69), (0, .ref (sA G 9 0)), (1, .int a1), (2, .int a2), (3, .long a3)]) hx hb dX5_write_69 hl (by decide) rfl (fun ls hl => ?_)
        refine lv_aload_n hx hb dX5_write_71 rfl (lv_at hl 1 rfl) ?_
        refine gMd (v := .ref (sA G 9 9)) hx hb hts hiX5 hown hw 9 (by decide) (hts (.fieldLink RX5 31 "SecondHomeModel" "numbers" "[J") (by decide +kernel)) rfl dX5_write_72 ?_
        refine lv_bipush (v := 40) hx hb dX5_write_75 (by decide) ?_
        refine lv_iload_n hx hb dX5_write_77 rfl (lv_at hl 2 rfl) ?_
        refine lv_imul hx hb dX5_write_78 ?_
        refine lv_iload_n hx hb dX5_write_79 rfl (lv_at hl 3 rfl) ?_
        refine lv_iadd hx hb dX5_write_80 ?_
        refine lv_aload_n hx hb dX5_write_81 rfl (lv_at hl 1 rfl) ?_
        refine gMd (v := .ref (sA G 9 6)) hx hb hts hiX5 hown hw 7 (by decide) (hts (.fieldLink RX5 25 "SecondHomeModel" "bitsOf" "[I") (by decide +kernel)) rfl dX5_write_82 ?_
        refine lv_iload_n hx hb dX5_write_85 rfl (lv_at hl 2 rfl) ?_
        refine ldMd hx hb hw 5 (by decide) (n := 4) rfl b20 dX5_write_86 ?_
        refine lv_lload_n hx hb dX5_write_87 rfl (lv_at hl 4 rfl) ?_
        obtain ⟨q88, eq88, h⟩ := o_bd h
        refine kS (As := [.int (M.2.1 5 a1.toNatClampNeg), .long a3]) (rest := [.int (((40 : Int32) * a1) + a2), .ref (sA G 9 9)]) (st' := [.long q88, .int (((40 : Int32) * a1) + a2), .ref (sA G 9 9)]) ⟨hx, hb, hml, hown, hts⟩ (kX5_narrow l G eq88) (va_cwS 2 hts gX5_write_X5_narrow rfl rfl rfl qqX5_narrow ⟨Nat.le_of_ble_eq_true rfl, Nat.le_of_ble_eq_true rfl⟩) hw rfl hl.1 rfl (Nat.le_of_ble_eq_true rfl) dX5_write_88 ⟨Nat.zero_le _, Nat.zero_le _⟩ rfl (fun H locs hw => ?_)
        refine stMl hx hb hw b68 dX5_write_91 rfl (fun H locs hw => ?_)
        obtain ⟨M91, eM91, h⟩ := o_nm h
        rw [← eM91] at hw
        refine lv_lload hx hb dX5_write_92 (lv_at hl 0 rfl) ?_
        exact rL hQ hx hb hr hlk hw dX5_write_94 (o_2a h) rfl (o_2b h)
      · replace h := o_t c47 h
        refine lv_aload_n hx hb dX5_write_50 rfl (lv_at hl 0 rfl) ?_
        refine lv_ldc (v := -1000000001) hx hb hown (hts (.constant RX5 38 (-1000000001)) (by decide +kernel)) dX5_write_51 ?_
        obtain ⟨q53, eq53, h⟩ := o_bd h
        refine kV (As := [.int (-1000000001 : Int32)]) (rest := []) (st' := [.int q53.1]) ⟨hx, hb, hml, hown, hts⟩ (kX5_finds l G eq53) (cwV 1 hts gX5_write_X5_finds rfl rfl rfl qqX5_finds ⟨Nat.le_of_ble_eq_true rfl, Nat.le_of_ble_eq_true rfl⟩) hw (rvMd hw) rfl hl.1 rfl (Nat.le_of_ble_eq_true rfl) dX5_write_53 ⟨Nat.zero_le _, Nat.zero_le _⟩ rfl (fun H locs hw => ?_)
        refine lv_i2l hx hb dX5_write_56 rfl ?_
        exact rL hQ hx hb hr hlk hw dX5_write_57 (o_2a h) rfl (o_2b h)
    · replace h := o_f c21 h
      refine lv_aload_n hx hb dX5_write_24 rfl (lv_at hl 0 rfl) ?_
      refine lv_ldc (v := -1000000006) hx hb hown (hts (.constant RX5 229 (-1000000006)) (by decide +kernel)) dX5_write_25 ?_
      obtain ⟨q27, eq27, h⟩ := o_bd h
      refine kV (As := [.int (-1000000006 : Int32)]) (rest := []) (st' := [.int q27.1]) ⟨hx, hb, hml, hown, hts⟩ (kX5_finds l G eq27) (cwV 1 hts gX5_write_X5_finds rfl rfl rfl qqX5_finds ⟨Nat.le_of_ble_eq_true rfl, Nat.le_of_ble_eq_true rfl⟩) hw (rvMd hw) rfl hl.1 rfl (Nat.le_of_ble_eq_true rfl) dX5_write_27 ⟨Nat.zero_le _, Nat.zero_le _⟩ rfl (fun H locs hw => ?_)
      refine lv_i2l hx hb dX5_write_30 rfl ?_
      exact rL hQ hx hb hr hlk hw dX5_write_31 (o_2a h) rfl (o_2b h)
  · replace h := o_t c4 h
    refine lv_aload_n hx hb dX5_write_7 rfl (lv_at hl 0 rfl) ?_
    refine lv_ldc (v := -1000000001) hx hb hown (hts (.constant RX5 38 (-1000000001)) (by decide +kernel)) dX5_write_8 ?_
    obtain ⟨q10, eq10, h⟩ := o_bd h
    refine kV (As := [.int (-1000000001 : Int32)]) (rest := []) (st' := [.int q10.1]) ⟨hx, hb, hml, hown, hts⟩ (kX5_finds l G eq10) (cwV 1 hts gX5_write_X5_finds rfl rfl rfl qqX5_finds ⟨Nat.le_of_ble_eq_true rfl, Nat.le_of_ble_eq_true rfl⟩) hw (rvMd hw) rfl hl.1 rfl (Nat.le_of_ble_eq_true rfl) dX5_write_10 ⟨Nat.zero_le _, Nat.zero_le _⟩ rfl (fun H locs hw => ?_)
    refine lv_i2l hx hb dX5_write_13 rfl ?_
    exact rL hQ hx hb hr hlk hw dX5_write_14 (o_2a h) rfl (o_2b h)
