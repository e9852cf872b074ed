-- X5_turn
set_option maxRecDepth 100000 in
set_option maxHeartbeats 4000000 in
theorem kX5_turn (l : Launch) (G : sGl) {S : sWo} {M : sOb} {a1 : Int32} {a2 : Int32} {q : (Int32 × sOb)}  (h : fX5_turn M a1 a2 = some q) : sCt l G yX5_turn wsX5_turn rmX5_turn [.ref (sA G 9 0), .int a1, .int a2] S M (some (.int q.1)) S q.2 := by
  refine cMk (cc := cX5_turn) (maxL := 3) (ret := (some .int)) (by decide) rfl (Nat.le_of_ble_eq_true rfl) ?_
  intro p e s m args below meth c Q hQ hx hb hr hlk hml hown hts hw ls hl
  have hown : s.vm.findClass RX5 = some m.cls := hown
  have hl : lv_has ls 3 [(0, .ref (sA G 9 0)), (1, .int a1), (2, .int a2)] := hl
  unfold fX5_turn at h
  refine lv_aload_n hx hb dX5_turn_0 rfl (lv_at hl 0 rfl) ?_
  refine lv_iload_n hx hb dX5_turn_1 rfl (lv_at hl 1 rfl) ?_
  obtain ⟨q2, eq2, h⟩ := o_bd h
  refine kV (As := [.int a1]) (rest := []) (st' := [.int q2]) ⟨hx, hb, hml, hown, hts⟩ (kX5_isRunner l G eq2) (cwV 1 hts gX5_turn_X5_isRunner rfl rfl rfl qqX5_isRunner ⟨Nat.le_of_ble_eq_true rfl, Nat.le_of_ble_eq_true rfl⟩) hw (rvMd hw) rfl hl.1 rfl (Nat.le_of_ble_eq_true rfl) dX5_turn_2 ⟨Nat.zero_le _, Nat.zero_le _⟩ rfl (fun H locs hw => ?_)
  refine lv_if_eq (tgt := 34) hx hb dX5_turn_5 (by decide) (fun c5 => ?_) (fun c5 => ?_)
  · replace h := o_t c5 h
    refine lv_aload_n hx hb dX5_turn_34 rfl (lv_at hl 0 rfl) ?_
    refine lv_ldc (v := -1000000001) hx hb hown (hts (.constant RX5 38 (-1000000001)) (by decide +kernel)) dX5_turn_35 ?_
    obtain ⟨q37, eq37, h⟩ := o_bd h
    refine kV (As := [.int (-1000000001 : Int32)]) (rest := []) (st' := [.int q37.1]) ⟨hx, hb, hml, hown, hts⟩ (kX5_finds l G eq37) (cwV 1 hts gX5_turn_X5_finds rfl rfl rfl qqX5_finds ⟨Nat.le_of_ble_eq_true rfl, Nat.le_of_ble_eq_true rfl⟩) hw (rvMd hw) rfl hl.1 rfl (Nat.le_of_ble_eq_true rfl) dX5_turn_37 ⟨Nat.zero_le _, Nat.zero_le _⟩ rfl (fun H locs hw => ?_)
    exact rI hQ hx hb hr hlk hw dX5_turn_40 (o_2a h) rfl (o_2b h)
  · replace h := o_f c5 h
    refine lv_iload_n hx hb dX5_turn_8 rfl (lv_at hl 2 rfl) ?_
    refine lv_i2l hx hb dX5_turn_9 rfl ?_
    refine lv_lconst (v := 0) hx hb dX5_turn_10 (by decide) ?_
    refine lv_ldc2 (v := 5) hx hb hown (hts (.constantLong RX5 68 (5)) (by decide +kernel)) dX5_turn_11 ?_
    obtain ⟨q14, eq14, h⟩ := o_bd h
    refine kS (As := [.long a2.toInt64, .long (0 : Int64), .long (5 : Int64)]) (rest := []) (st' := [.int q14]) ⟨hx, hb, hml, hown, hts⟩ (kX5_isIn l G eq14) (va_cwS 3 hts gX5_turn_X5_isIn rfl rfl rfl qqX5_isIn ⟨Nat.le_of_ble_eq_true rfl, Nat.le_of_ble_eq_true rfl⟩) hw rfl hl.1 rfl (Nat.le_of_ble_eq_true rfl) dX5_turn_14 ⟨Nat.zero_le _, Nat.zero_le _⟩ rfl (fun H locs hw => ?_)
    refine lv_if_eq (tgt := 34) hx hb dX5_turn_17 (by decide) (fun c17 => ?_) (fun c17 => ?_)
    · replace h := o_t c17 h
      refine lv_aload_n hx hb dX5_turn_34 rfl (lv_at hl 0 rfl) ?_
      refine lv_ldc (v := -1000000001) hx hb hown (hts (.constant RX5 38 (-1000000001)) (by decide +kernel)) dX5_turn_35 ?_
      obtain ⟨q37, eq37, h⟩ := o_bd h
      refine kV (As := [.int (-1000000001 : Int32)]) (rest := []) (st' := [.int q37.1]) ⟨hx, hb, hml, hown, hts⟩ (kX5_finds l G eq37) (cwV 1 hts gX5_turn_X5_finds rfl rfl rfl qqX5_finds ⟨Nat.le_of_ble_eq_true rfl, Nat.le_of_ble_eq_true rfl⟩) hw (rvMd hw) rfl hl.1 rfl (Nat.le_of_ble_eq_true rfl) dX5_turn_37 ⟨Nat.zero_le _, Nat.zero_le _⟩ rfl (fun H locs hw => ?_)
      exact rI hQ hx hb hr hlk hw dX5_turn_40 (o_2a h) rfl (o_2b h)
    · replace h := o_f c17 h
      refine lv_aload_n hx hb dX5_turn_20 rfl (lv_at hl 0 rfl) ?_
      refine lv_iconst (v := 5) hx hb dX5_turn_21 (by decide) ?_
      refine lv_bipush (v := 8) hx hb dX5_turn_22 (by decide) ?_
      refine lv_iload_n hx hb dX5_turn_24 rfl (lv_at hl 1 rfl) ?_
      refine lv_imul hx hb dX5_turn_25 ?_
      refine lv_iadd hx hb dX5_turn_26 ?_
      refine lv_iload_n hx hb dX5_turn_27 rfl (lv_at hl 2 rfl) ?_
      obtain ⟨q28, eq28, h⟩ := o_bd h
      refine kV (As := [.int ((5 : Int32) + ((8 : Int32) * a1)), .int a2]) (rest := []) (st' := [.int q28.1]) ⟨hx, hb, hml, hown, hts⟩ (kX5_becomes l G eq28) (cwV 2 hts gX5_turn_X5_becomes rfl rfl rfl qqX5_becomes ⟨Nat.le_of_ble_eq_true rfl, Nat.le_of_ble_eq_true rfl⟩) hw (rvMd hw) rfl hl.1 rfl (Nat.le_of_ble_eq_true rfl) dX5_turn_28 ⟨Nat.zero_le _, Nat.zero_le _⟩ rfl (fun H locs hw => ?_)
      refine lv_goto (tgt := 40) hx hb dX5_turn_31 (by decide) ?_
      exact rI hQ hx hb hr hlk hw dX5_turn_40 (o_2a h) rfl (o_2b h)
-- X5_isUnder
set_option maxRecDepth 100000 in
set_option maxHeartbeats 4000000 in
theorem kX5_isUnder (l : Launch) (G : sGl) {S : sWo} {M : sOb} {a0 : Int32} {a1 : Int32} {q : Int32}  (h : fX5_isUnder a0 a1 = some q) : sCt l G yX5_isUnder wsX5_isUnder rmX5_isUnder [.int a0, .int a1] S M (some (.int q)) S M := by
  refine cMk (cc := cX5_isUnder) (maxL := 2) (ret := (some .boolean)) (by decide) rfl (Nat.le_of_ble_eq_true rfl) ?_
  intro p e s m args below meth c Q hQ hx hb hr hlk hml hown hts hw ls hl
  have hown : s.vm.findClass RX5 = some m.cls := hown
  have hl : lv_has ls 2 [(0, .int a0), (1, .int a1)] := hl
  unfold fX5_isUnder at h
  refine lv_iload_n hx hb dX5_isUnder_0 rfl (lv_at hl 0 rfl) ?_
  refine lv_iload_n hx hb dX5_isUnder_1 rfl (lv_at hl 1 rfl) ?_
  refine lv_icmp_eq (tgt := 29) hx hb dX5_isUnder_2 (by decide) (fun c2 => ?_) (fun c2 => ?_)
  · replace h := o_t c2 h
    refine lv_iconst (v := 1) hx hb dX5_isUnder_29 (by decide) ?_
    refine lv_goto (tgt := 34) hx hb dX5_isUnder_30 (by decide) ?_
    exact rZ hQ hx hb hr hlk hw (Or.inr rfl) dX5_isUnder_34 (o_1 h) rfl rfl
  · replace h := o_f c2 h
    refine lv_iload_n hx hb dX5_isUnder_5 rfl (lv_at hl 1 rfl) ?_
    refine lv_if_eq (tgt := 29) hx hb dX5_isUnder_6 (by decide) (fun c6 => ?_) (fun c6 => ?_)
    · replace h := o_t c6 h
      refine lv_iconst (v := 1) hx hb dX5_isUnder_29 (by decide) ?_
      refine lv_goto (tgt := 34) hx hb dX5_isUnder_30 (by decide) ?_
      exact rZ hQ hx hb hr hlk hw (Or.inr rfl) dX5_isUnder_34 (o_1 h) rfl rfl
    · replace h := o_f c6 h
      refine lv_iload_n hx hb dX5_isUnder_9 rfl (lv_at hl 1 rfl) ?_
      refine lv_iconst (v := 1) hx hb dX5_isUnder_10 (by decide) ?_
      obtain ⟨k19, ek19, h⟩ := o_nm h
      have J19 : ∀ (H : Heap) (locs : List Loc) (ls : Array Slot), sHw G s S M H locs → lv_has ls 2 [(0, .int a0), (1, .int a1)] → k19 = some q → W p l e rmX5_isUnder s m args below meth c H locs 0 0 Q (F0 m 19 ls []) := by
        intro H locs ls hw hl h
        replace h := o_j0 ek19 h
        refine lv_iload_n hx hb dX5_isUnder_19 rfl (lv_at hl 1 rfl) ?_
        refine lv_iconst (v := 2) hx hb dX5_isUnder_20 (by decide) ?_
        refine lv_icmp_ne (tgt := 33) hx hb dX5_isUnder_21 (by decide) (fun c21 => ?_) (fun c21 => ?_)
        · replace h := o_f c21 h
          refine lv_iconst (v := 0) hx hb dX5_isUnder_33 (by decide) ?_
          exact rZ hQ hx hb hr hlk hw (Or.inl rfl) dX5_isUnder_34 (o_1 h) rfl rfl
        · replace h := o_t c21 h
          refine lv_iload_n hx hb dX5_isUnder_24 rfl (lv_at hl 0 rfl) ?_
          refine lv_iconst (v := 3) hx hb dX5_isUnder_25 (by decide) ?_
          refine lv_icmp_ne (tgt := 33) hx hb dX5_isUnder_26 (by decide) (fun c26 => ?_) (fun c26 => ?_)
          · replace h := o_f c26 h
            refine lv_iconst (v := 0) hx hb dX5_isUnder_33 (by decide) ?_
            exact rZ hQ hx hb hr hlk hw (Or.inl rfl) dX5_isUnder_34 (o_1 h) rfl rfl
          · replace h := o_t c26 h
            refine lv_iconst (v := 1) hx hb dX5_isUnder_29 (by decide) ?_
            refine lv_goto (tgt := 34) hx hb dX5_isUnder_30 (by decide) ?_
            exact rZ hQ hx hb hr hlk hw (Or.inr rfl) dX5_isUnder_34 (o_1 h) rfl rfl
      refine lv_icmp_ne (tgt := 19) hx hb dX5_isUnder_11 (by decide) (fun c11 => ?_) (fun c11 => ?_)
      · replace h := o_f c11 h
        exact J19 _ _ _ hw (lv_sub hl [0, 1] rfl) h
      · replace h := o_t c11 h
        refine lv_iload_n hx hb dX5_isUnder_14 rfl (lv_at hl 0 rfl) ?_
        refine lv_iconst (v := 3) hx hb dX5_isUnder_15 (by decide) ?_
        refine lv_icmp_gt (tgt := 29) hx hb dX5_isUnder_16 (by decide) (fun c16 => ?_) (fun c16 => ?_)
        · replace h := o_t c16 h
          refine lv_iconst (v := 1) hx hb dX5_isUnder_29 (by decide) ?_
          refine lv_goto (tgt := 34) hx hb dX5_isUnder_30 (by decide) ?_
          exact rZ hQ hx hb hr hlk hw (Or.inr rfl) dX5_isUnder_34 (o_1 h) rfl rfl
        · replace h := o_f c16 h
          exact J19 _ _ _ hw (lv_sub hl [0, 1] rfl) h
-- X5_as
set_option maxRecDepth 100000 in
set_option maxHeartbeats 4000000 in
theorem kX5_as (l : Launch) (G : sGl) {S : sWo} {M : sOb} {a1 : Int32} {a2 : Int32} {q : (Int32 × sOb)}  (h : fX5_as M a1 a2 = some q) : sCt l G yX5_as wsX5_as rmX5_as [.ref (sA G 9 0), .int a1, .int a2] S M (some (.int q.1)) S q.2 := by
  refine cMk (cc := cX5_as) (maxL := 3) (ret := (some .int)) (by decide) rfl (Nat.le_of_ble_eq_true rfl) ?_
  intro p e s m args below meth c Q hQ hx hb hr hlk hml hown hts hw ls hl
  have hown : s.vm.findClass RX5 = some m.cls := hown
  have hl : lv_has ls 3 [(0, .ref (sA G 9 0)), (1, .int a1), (2, .int a2)] := hl
  unfold fX5_as at h
  refine lv_aload_n hx hb dX5_as_0 rfl (lv_at hl 0 rfl) ?_
  refine lv_iload_n hx hb dX5_as_1 rfl (lv_at hl 1 rfl) ?_
  obtain ⟨q2, eq2, h⟩ := o_bd h
  refine kV (As := [.int a1]) (rest := []) (st' := [.int q2]) ⟨hx, hb, hml, hown, hts⟩ (kX5_isRunner l G eq2) (cwV 1 hts gX5_as_X5_isRunner rfl rfl rfl qqX5_isRunner ⟨Nat.le_of_ble_eq_true rfl, Nat.le_of_ble_eq_true rfl⟩) hw (rvMd hw) rfl hl.1 rfl (Nat.le_of_ble_eq_true rfl) dX5_as_2 ⟨Nat.zero_le _, Nat.zero_le _⟩ rfl (fun H locs hw => ?_)
  refine lv_if_eq (tgt := 20) hx hb dX5_as_5 (by decide) (fun c5 => ?_) (fun c5 => ?_)
  · replace h := o_t c5 h
    refine lv_aload_n hx hb dX5_as_20 rfl (lv_at hl 0 rfl) ?_
    refine lv_ldc (v := -1000000001) hx hb hown (hts (.constant RX5 38 (-1000000001)) (by decide +kernel)) dX5_as_21 ?_
    obtain ⟨q23, eq23, h⟩ := o_bd h
    refine kV (As := [.int (-1000000001 : Int32)]) (rest := []) (st' := [.int q23.1]) ⟨hx, hb, hml, hown, hts⟩ (kX5_finds l G eq23) (cwV 1 hts gX5_as_X5_finds rfl rfl rfl qqX5_finds ⟨Nat.le_of_ble_eq_true rfl, Nat.le_of_ble_eq_true rfl⟩) hw (rvMd hw) rfl hl.1 rfl (Nat.le_of_ble_eq_true rfl) dX5_as_23 ⟨Nat.zero_le _, Nat.zero_le _⟩ rfl (fun H locs hw => ?_)
    exact rI hQ hx hb hr hlk hw dX5_as_26 (o_2a h) rfl (o_2b h)
  · replace h := o_f c5 h
    refine lv_iload_n hx hb dX5_as_8 rfl (lv_at hl 2 rfl) ?_
    refine lv_i2l hx hb dX5_as_9 rfl ?_
    refine lv_lconst (v := 0) hx hb dX5_as_10 (by decide) ?_
    refine lv_ldc2 (v := 5) hx hb hown (hts (.constantLong RX5 68 (5)) (by decide +kernel)) dX5_as_11 ?_
    obtain ⟨q14, eq14, h⟩ := o_bd h
    refine kS (As := [.long a2.toInt64, .long (0 : Int64), .long (5 : Int64)]) (rest := []) (st' := [.int q14]) ⟨hx, hb, hml, hown, hts⟩ (kX5_isIn l G eq14) (va_cwS 3 hts gX5_as_X5_isIn rfl rfl rfl qqX5_isIn ⟨Nat.le_of_ble_eq_true rfl, Nat.le_of_ble_eq_true rfl⟩) hw rfl hl.1 rfl (Nat.le_of_ble_eq_true rfl) dX5_as_14 ⟨Nat.zero_le _, Nat.zero_le _⟩ rfl (fun H locs hw => ?_)
    refine lv_if_ne (tgt := 27) hx hb dX5_as_17 (by decide) (fun c17 => ?_) (fun c17 => ?_)
    · replace h := o_f c17 h
      refine lv_aload_n hx hb dX5_as_27 rfl (lv_at hl 0 rfl) ?_
      refine lv_iload_n hx hb dX5_as_28 rfl (lv_at hl 1 rfl) ?_
      refine lv_iconst (v := 0) hx hb dX5_as_29 (by decide) ?_
      obtain ⟨q30, eq30, h⟩ := o_bd h
      refine kV (As := [.int a1, .int (0 : Int32)]) (rest := []) (st' := [.int q30]) ⟨hx, hb, hml, hown, hts⟩ (kX5_is l G eq30) (cwV 2 hts gX5_as_X5_is rfl rfl rfl qqX5_is ⟨Nat.le_of_ble_eq_true rfl, Nat.le_of_ble_eq_true rfl⟩) hw (rvMd hw) rfl hl.1 rfl (Nat.le_of_ble_eq_true rfl) dX5_as_30 ⟨Nat.zero_le _, Nat.zero_le _⟩ rfl (fun H locs hw => ?_)
      refine lv_iload_n hx hb dX5_as_33 rfl (lv_at hl 2 rfl) ?_
      obtain ⟨q34, eq34, h⟩ := o_bd h
      refine kS (As := [.int q30, .int a2]) (rest := []) (st' := [.int q34]) ⟨hx, hb, hml, hown, hts⟩ (kX5_isUnder l G eq34) (va_cwS 2 hts gX5_as_X5_isUnder rfl rfl rfl qqX5_isUnder ⟨Nat.le_of_ble_eq_true rfl, Nat.le_of_ble_eq_true rfl⟩) hw rfl hl.1 rfl (Nat.le_of_ble_eq_true rfl) dX5_as_34 ⟨Nat.zero_le _, Nat.zero_le _⟩ rfl (fun H locs hw => ?_)
      refine lv_if_eq (tgt := 49) hx hb dX5_as_37 (by decide) (fun c37 => ?_) (fun c37 => ?_)
      · replace h := o_t c37 h
        refine lv_aload_n hx hb dX5_as_49 rfl (lv_at hl 0 rfl) ?_
        refine lv_ldc (v := -1000000003) hx hb hown (hts (.constant RX5 101 (-1000000003)) (by decide +kernel)) dX5_as_50 ?_
        obtain ⟨q52, eq52, h⟩ := o_bd h
        refine kV (As := [.int (-1000000003 : Int32)]) (rest := []) (st' := [.int q52.1]) ⟨hx, hb, hml, hown, hts⟩ (kX5_finds l G eq52) (cwV 1 hts gX5_as_X5_finds rfl rfl rfl qqX5_finds ⟨Nat.le_of_ble_eq_true rfl, Nat.le_of_ble_eq_true rfl⟩) hw (rvMd hw) rfl hl.1 rfl (Nat.le_of_ble_eq_true rfl) dX5_as_52 ⟨Nat.zero_le _, Nat.zero_le _⟩ rfl (fun H locs hw => ?_)
        exact rI hQ hx hb hr hlk hw dX5_as_55 (o_2a h) rfl (o_2b h)
      · replace h := o_f c37 h
        refine lv_aload_n hx hb dX5_as_40 rfl (lv_at hl 0 rfl) ?_
        refine lv_iload_n hx hb dX5_as_41 rfl (lv_at hl 1 rfl) ?_
        refine lv_iconst (v := 1) hx hb dX5_as_42 (by decide) ?_
        obtain ⟨q43, eq43, h⟩ := o_bd h
        refine kV (As := [.int a1, .int (1 : Int32)]) (rest := []) (st' := [.int q43]) ⟨hx, hb, hml, hown, hts⟩ (kX5_is l G eq43) (cwV 2 hts gX5_as_X5_is rfl rfl rfl qqX5_is ⟨Nat.le_of_ble_eq_true rfl, Nat.le_of_ble_eq_true rfl⟩) hw (rvMd hw) rfl hl.1 rfl (Nat.le_of_ble_eq_true rfl) dX5_as_43 ⟨Nat.zero_le _, Nat.zero_le _⟩ rfl (fun H locs hw => ?_)
        refine lv_goto (tgt := 55) hx hb dX5_as_46 (by decide) ?_
        exact rI hQ hx hb hr hlk hw dX5_as_55 (o_2a h) rfl (o_2b h)
    · replace h := o_t c17 h
      refine lv_aload_n hx hb dX5_as_20 rfl (lv_at hl 0 rfl) ?_
      refine lv_ldc (v := -1000000001) hx hb hown (hts (.constant RX5 38 (-1000000001)) (by decide +kernel)) dX5_as_21 ?_
      obtain ⟨q23, eq23, h⟩ := o_bd h
      refine kV (As := [.int (-1000000001 : Int32)]) (rest := []) (st' := [.int q23.1]) ⟨hx, hb, hml, hown, hts⟩ (kX5_finds l G eq23) (cwV 1 hts gX5_as_X5_finds rfl rfl rfl qqX5_finds ⟨Nat.le_of_ble_eq_true rfl, Nat.le_of_ble_eq_true rfl⟩) hw (rvMd hw) rfl hl.1 rfl (Nat.le_of_ble_eq_true rfl) dX5_as_23 ⟨Nat.zero_le _, Nat.zero_le _⟩ rfl (fun H locs hw => ?_)
      exact rI hQ hx hb hr hlk hw dX5_as_26 (o_2a h) rfl (o_2b h)
-- X5_firstAlone
set_option maxRecDepth 100000 in
set_option maxHeartbeats 4000000 in
theorem kX5_firstAlone (l : Launch) (G : sGl) {S : sWo} {M : sOb}  {q : Int32}  (h : fX5_firstAlone M = some q) : sCt l G yX5_firstAlone wsX5_firstAlone rmX5_firstAlone [.ref (sA G 9 0)] S M (some (.int q)) S M := by
  refine cMk (cc := cX5_firstAlone) (maxL := 4) (ret := (some .int)) (by decide) rfl (Nat.le_of_ble_eq_true rfl) ?_
  intro p e s m args below meth c Q hQ hx hb hr hlk hml hown hts hw ls hl
  have hown : s.vm.findClass RX5 = some m.cls := hown
  have hl : lv_has ls 4 [(0, .ref (sA G 9 0))] := hl
  have hiX5 : ∀ w ∈ u_ws RX5 TX5 15, w ∈ wsX5_firstAlone := by decide +kernel
  unfold fX5_firstAlone at h
  refine lv_iconst (v := -1) hx hb dX5_firstAlone_0 (by decide) ?_
  refine lv_istore_n (lv' := [(1, .int (-1 : Int32)), (0, .ref (sA G 9 0))]) hx hb dX5_firstAlone_1 rfl hl (by decide) rfl (fun ls hl => ?_)
  refine lv_iconst (v := 0) hx hb dX5_firstAlone_2 (by decide) ?_
  refine lv_istore_n (lv' := [(2, .int (0 : Int32)), (1, .int (-1 : Int32)), (0, .ref (sA G 9 0))]) hx hb dX5_firstAlone_3 rfl hl (by decide) rfl (fun ls hl => ?_)
  refine lv_iconst (v := 0) hx hb dX5_firstAlone_4 (by decide) ?_
  refine lv_istore_n (lv' := [(3, .int (0 : Int32)), (2, .int (0 : Int32)), (1, .int (-1 : Int32)), (0, .ref (sA G 9 0))]) hx hb dX5_firstAlone_5 rfl hl (by decide) rfl (fun ls hl => ?_)
  obtain ⟨k76, ek76, h⟩ := o_nm h
  have J76 : ∀ (x1_76 : Int32) (x2_76 : Int32) (H : Heap) (locs : List Loc) (ls : Array Slot), sHw G s S M H locs → lv_has ls 4 [(1, .int x1_76), (2, .int x2_76)] → k76 x1_76 x2_76 = some q → W p l e rmX5_firstAlone s m args below meth c H locs 0 0 Q (F0 m 76 ls []) := by
    intro x1_76 x2_76 H locs ls hw hl h
    replace h := o_j2 ek76 h
    refine lv_iload_n hx hb dX5_firstAlone_76 rfl (lv_at hl 1 rfl) ?_
    refine lv_if_eq (tgt := 84) hx hb dX5_firstAlone_77 (by decide) (fun c77 => ?_) (fun c77 => ?_)
    · replace h := o_t c77 h
      refine lv_iconst (v := -1) hx hb dX5_firstAlone_84 (by decide) ?_
      exact rI hQ hx hb hr hlk hw dX5_firstAlone_85 (o_1 h) rfl rfl
    · replace h := o_f c77 h
      refine lv_iload_n hx hb dX5_firstAlone_80 rfl (lv_at hl 0 rfl) ?_
      refine lv_goto (tgt := 85) hx hb dX5_firstAlone_81 (by decide) ?_
      exact rI hQ hx hb hr hlk hw dX5_firstAlone_85 (o_1 h) rfl rfl
  refine fx3_w (F := (bX5_firstAlone_6 M k76)) (P := fun x1_6 x2_6 x3_6 => ∀ (H : Heap) (locs : List Loc) (ls : Array Slot), sHw G s S M H locs → lv_has ls 4 [(0, .ref (sA G 9 0)), (1, .int x1_6), (2, .int x2_6), (3, .int x3_6)] → W p l e rmX5_firstAlone s m args below meth c H locs 0 0 Q (F0 m 6 ls [])) ?_ _ _ _ _ h _ _ _ hw (lv_sub hl [3, 2, 1, 0] rfl)
  intro rc6 IH6 x1_6 x2_6 x3_6 h H locs ls hw hl
  unfold bX5_firstAlone_6 at h
  refine lv_iload_n hx hb dX5_firstAlone_6 rfl (lv_at hl 3 rfl) ?_
  refine lv_aload_n hx hb dX5_firstAlone_7 rfl (lv_at hl 0 rfl) ?_
  refine gMd (v := .ref (sA G 9 1)) hx hb hts hiX5 hown hw 0 (by decide) (hts (.fieldLink RX5 7 "SecondHomeModel" "s" "[I") (by decide +kernel)) rfl dX5_firstAlone_8 ?_
  refine lv_iconst (v := 0) hx hb dX5_firstAlone_11 (by decide) ?_
  refine ldMd hx hb hw 0 (by decide) (n := 77) rfl (by decide) dX5_firstAlone_12 ?_
  refine lv_icmp_ge (tgt := 76) hx hb dX5_firstAlone_13 (by decide) (fun c13 => ?_) (fun c13 => ?_)
  · replace h := o_t c13 h
    exact J76 x1_6 x2_6 _ _ _ hw (lv_sub hl [1, 2] rfl) h
  · replace h := o_f c13 h
    refine lv_aload_n hx hb dX5_firstAlone_16 rfl (lv_at hl 0 rfl) ?_
    refine lv_iload_n hx hb dX5_firstAlone_17 rfl (lv_at hl 3 rfl) ?_
    obtain ⟨q18, eq18, h⟩ := o_bd h
    refine kV (As := [.int x3_6]) (rest := []) (st' := [.int q18]) ⟨hx, hb, hml, hown, hts⟩ (kX5_isHome l G eq18) (cwV 1 hts gX5_firstAlone_X5_isHome rfl rfl rfl qqX5_isHome ⟨Nat.le_of_ble_eq_true rfl, Nat.le_of_ble_eq_true rfl⟩) hw (rvMd hw) rfl hl.1 rfl (Nat.le_of_ble_eq_true rfl) dX5_firstAlone_18 ⟨Nat.zero_le _, Nat.zero_le _⟩ rfl (fun H locs hw => ?_)
    refine lv_if_eq (tgt := 27) hx hb dX5_firstAlone_21 (by decide) (fun c21 => ?_) (fun c21 => ?_)
    · replace h := o_t c21 h
      refine lv_iload_n hx hb dX5_firstAlone_27 rfl (lv_at hl 1 rfl) ?_
      refine lv_if_lt (tgt := 46) hx hb dX5_firstAlone_28 (by decide) (fun c28 => ?_) (fun c28 => ?_)
      · replace h := o_t c28 h
        refine lv_iload_n hx hb dX5_firstAlone_46 rfl (lv_at hl 3 rfl) ?_
        refine lv_istore_n (lv' := [(1, .int x3_6), (0, .ref (sA G 9 0)), (2, .int x2_6), (3, .int x3_6)]) hx hb dX5_firstAlone_47 rfl hl (by decide) rfl (fun ls hl => ?_)
        refine lv_iconst (v := 1) hx hb dX5_firstAlone_48 (by decide) ?_
        refine lv_istore_n (lv' := [(2, .int (1 : Int32)), (1, .int x3_6), (0, .ref (sA G 9 0)), (3, .int x3_6)]) hx hb dX5_firstAlone_49 rfl hl (by decide) rfl (fun ls hl => ?_)
        refine lv_goto (tgt := 70) hx hb dX5_firstAlone_50 (by decide) ?_
        obtain ⟨v70, ev70, h⟩ := o_nm h
        refine lv_iinc (v := v70) (lv' := [(3, .int v70), (2, .int (1 : Int32)), (1, .int x3_6), (0, .ref (sA G 9 0))]) hx hb dX5_firstAlone_70 hl (k := 3) rfl (by rw [ev70]; rfl) (by decide) rfl (fun ls hl => ?_)
        refine lv_goto (tgt := 6) hx hb dX5_firstAlone_73 (by decide) ?_
        exact IH6 x3_6 (1 : Int32) v70 h _ _ _ hw (lv_sub hl [3, 2, 1, 0] rfl)
      · replace h := o_f c28 h
        refine lv_aload_n hx hb dX5_firstAlone_31 rfl (lv_at hl 0 rfl) ?_
        refine lv_iload_n hx hb dX5_firstAlone_32 rfl (lv_at hl 3 rfl) ?_
        refine lv_iconst (v := 5) hx hb dX5_firstAlone_33 (by decide) ?_
        obtain ⟨q34, eq34, h⟩ := o_bd h
        refine kV (As := [.int x3_6, .int (5 : Int32)]) (rest := []) (st' := [.int q34]) ⟨hx, hb, hml, hown, hts⟩ (kX5_is l G eq34) (cwV 2 hts gX5_firstAlone_X5_is rfl rfl rfl qqX5_is ⟨Nat.le_of_ble_eq_true rfl, Nat.le_of_ble_eq_true rfl⟩) hw (rvMd hw) rfl hl.1 rfl (Nat.le_of_ble_eq_true rfl) dX5_firstAlone_34 ⟨Nat.zero_le _, Nat.zero_le _⟩ rfl (fun H locs hw => ?_)
        refine lv_aload_n hx hb dX5_firstAlone_37 rfl (lv_at hl 0 rfl) ?_
        refine lv_iload_n hx hb dX5_firstAlone_38 rfl (lv_at hl 1 rfl) ?_
        refine lv_iconst (v := 5) hx hb dX5_firstAlone_39 (by decide) ?_
        obtain ⟨q40, eq40, h⟩ := o_bd h
        refine kV (As := [.int x1_6, .int (5 : Int32)]) (rest := [.int q34]) (st' := [.int q40, .int q34]) ⟨hx, hb, hml, hown, hts⟩ (kX5_is l G eq40) (cwV 2 hts gX5_firstAlone_X5_is rfl rfl rfl qqX5_is ⟨Nat.le_of_ble_eq_true rfl, Nat.le_of_ble_eq_true rfl⟩) hw (rvMd hw) rfl hl.1 rfl (Nat.le_of_ble_eq_true rfl) dX5_firstAlone_40 ⟨Nat.zero_le _, Nat.zero_le _⟩ rfl (fun H locs hw => ?_)
        refine lv_icmp_le (tgt := 53) hx hb dX5_firstAlone_43 (by decide) (fun c43 => ?_) (fun c43 => ?_)
        · replace h := o_t c43 h
          refine lv_aload_n hx hb dX5_firstAlone_53 rfl (lv_at hl 0 rfl) ?_
          refine lv_iload_n hx hb dX5_firstAlone_54 rfl (lv_at hl 3 rfl) ?_
          refine lv_iconst (v := 5) hx hb dX5_firstAlone_55 (by decide) ?_
          obtain ⟨q56, eq56, h⟩ := o_bd h
          refine kV (As := [.int x3_6, .int (5 : Int32)]) (rest := []) (st' := [.int q56]) ⟨hx, hb, hml, hown, hts⟩ (kX5_is l G eq56) (cwV 2 hts gX5_firstAlone_X5_is rfl rfl rfl qqX5_is ⟨Nat.le_of_ble_eq_true rfl, Nat.le_of_ble_eq_true rfl⟩) hw (rvMd hw) rfl hl.1 rfl (Nat.le_of_ble_eq_true rfl) dX5_firstAlone_56 ⟨Nat.zero_le _, Nat.zero_le _⟩ rfl (fun H locs hw => ?_)
          refine lv_aload_n hx hb dX5_firstAlone_59 rfl (lv_at hl 0 rfl) ?_
          refine lv_iload_n hx hb dX5_firstAlone_60 rfl (lv_at hl 1 rfl) ?_
          refine lv_iconst (v := 5) hx hb dX5_firstAlone_61 (by decide) ?_
          obtain ⟨q62, eq62, h⟩ := o_bd h
          refine kV (As := [.int x1_6, .int (5 : Int32)]) (rest := [.int q56]) (st' := [.int q62, .int q56]) ⟨hx, hb, hml, hown, hts⟩ (kX5_is l G eq62) (cwV 2 hts gX5_firstAlone_X5_is rfl rfl rfl qqX5_is ⟨Nat.le_of_ble_eq_true rfl, Nat.le_of_ble_eq_true rfl⟩) hw (rvMd hw) rfl hl.1 rfl (Nat.le_of_ble_eq_true rfl) dX5_firstAlone_62 ⟨Nat.zero_le _, Nat.zero_le _⟩ rfl (fun H locs hw => ?_)
          refine lv_icmp_ne (tgt := 70) hx hb dX5_firstAlone_65 (by decide) (fun c65 => ?_) (fun c65 => ?_)
          · replace h := o_f c65 h
            obtain ⟨v70, ev70, h⟩ := o_nm h
            refine lv_iinc (v := v70) (lv' := [(3, .int v70), (0, .ref (sA G 9 0)), (1, .int x1_6), (2, .int x2_6)]) hx hb dX5_firstAlone_70 hl (k := 3) rfl (by rw [ev70]; rfl) (by decide) rfl (fun ls hl => ?_)
            refine lv_goto (tgt := 6) hx hb dX5_firstAlone_73 (by decide) ?_
            exact IH6 x1_6 x2_6 v70 h _ _ _ hw (lv_sub hl [1, 2, 3, 0] rfl)
          · replace h := o_t c65 h
            refine lv_iconst (v := 0) hx hb dX5_firstAlone_68 (by decide) ?_
            refine lv_istore_n (lv' := [(2, .int (0 : Int32)), (0, .ref (sA G 9 0)), (1, .int x1_6), (3, .int x3_6)]) hx hb dX5_firstAlone_69 rfl hl (by decide) rfl (fun ls hl => ?_)
            obtain ⟨v70, ev70, h⟩ := o_nm h
            refine lv_iinc (v := v70) (lv' := [(3, .int v70), (2, .int (0 : Int32)), (0, .ref (sA G 9 0)), (1, .int x1_6)]) hx hb dX5_firstAlone_70 hl (k := 3) rfl (by rw [ev70]; rfl) (by decide) rfl (fun ls hl => ?_)
            refine lv_goto (tgt := 6) hx hb dX5_firstAlone_73 (by decide) ?_
            exact IH6 x1_6 (0 : Int32) v70 h _ _ _ hw (lv_sub hl [2, 3, 1, 0] rfl)
        · replace h := o_f c43 h
          refine lv_iload_n hx hb dX5_firstAlone_46 rfl (lv_at hl 3 rfl) ?_
          refine lv_istore_n (lv' := [(1, .int x3_6), (0, .ref (sA G 9 0)), (2, .int x2_6), (3, .int x3_6)]) hx hb dX5_firstAlone_47 rfl hl (by decide) rfl (fun ls hl => ?_)
          refine lv_iconst (v := 1) hx hb dX5_firstAlone_48 (by decide) ?_
          refine lv_istore_n (lv' := [(2, .int (1 : Int32)), (1, .int x3_6), (0, .ref (sA G 9 0)), (3, .int x3_6)]) hx hb dX5_firstAlone_49 rfl hl (by decide) rfl (fun ls hl => ?_)
          refine lv_goto (tgt := 70) hx hb dX5_firstAlone_50 (by decide) ?_
          obtain ⟨v70, ev70, h⟩ := o_nm h
          refine lv_iinc (v := v70) (lv' := [(3, .int v70), (2, .int (1 : Int32)), (1, .int x3_6), (0, .ref (sA G 9 0))]) hx hb dX5_firstAlone_70 hl (k := 3) rfl (by rw [ev70]; rfl) (by decide) rfl (fun ls hl => ?_)
          refine lv_goto (tgt := 6) hx hb dX5_firstAlone_73 (by decide) ?_
          exact IH6 x3_6 (1 : Int32) v70 h _ _ _ hw (lv_sub hl [3, 2, 1, 0] rfl)
    · replace h := o_f c21 h
      refine lv_goto (tgt := 70) hx hb dX5_firstAlone_24 (by decide) ?_
      obtain ⟨v70, ev70, h⟩ := o_nm h
      refine lv_iinc (v := v70) (lv' := [(3, .int v70), (0, .ref (sA G 9 0)), (1, .int x1_6), (2, .int x2_6)]) hx hb dX5_firstAlone_70 hl (k := 3) rfl (by rw [ev70]; rfl) (by decide) rfl (fun ls hl => ?_)
      refine lv_goto (tgt := 6) hx hb dX5_firstAlone_73 (by decide) ?_
      exact IH6 x1_6 x2_6 v70 h _ _ _ hw (lv_sub hl [1, 2, 3, 0] rfl)
-- X5_homeMany
set_option maxRecDepth 100000 in
set_option maxHeartbeats 4000000 in
theorem kX5_homeMany (l : Launch) (G : sGl) {S : sWo} {M : sOb}  {q : Int32}  (h : fX5_homeMany M = some q) : sCt l G yX5_homeMany wsX5_homeMany rmX5_homeMany [.ref (sA G 9 0)] S M (some (.int q)) S M := by
  refine cMk (cc := cX5_homeMany) (maxL := 3) (ret := (some .int)) (by decide) rfl (Nat.le_of_ble_eq_true rfl) ?_
  intro p e s m args below meth c Q hQ hx hb hr hlk hml hown hts hw ls hl
  have hown : s.vm.findClass RX5 = some m.cls := hown
  have hl : lv_has ls 3 [(0, .ref (sA G 9 0))] := hl
  have hiX5 : ∀ w ∈ u_ws RX5 TX5 15, w ∈ wsX5_homeMany := by decide +kernel
  unfold fX5_homeMany at h
  refine lv_iconst (v := 0) hx hb dX5_homeMany_0 (by decide) ?_
  refine lv_istore_n (lv' := [(1, .int (0 : Int32)), (0, .ref (sA G 9 0))]) hx hb dX5_homeMany_1 rfl hl (by decide) rfl (fun ls hl => ?_)
  refine lv_iconst (v := 0) hx hb dX5_homeMany_2 (by decide) ?_
  refine lv_istore_n (lv' := [(2, .int (0 : Int32)), (1, .int (0 : Int32)), (0, .ref (sA G 9 0))]) hx hb dX5_homeMany_3 rfl hl (by decide) rfl (fun ls hl => ?_)
  refine fx2_w (F := (bX5_homeMany_4 M)) (P := fun x1_4 x2_4 => ∀ (H : Heap) (locs : List Loc) (ls : Array Slot), sHw G s S M H locs → lv_has ls 3 [(0, .ref (sA G 9 0)), (1, .int x1_4), (2, .int x2_4)] → W p l e rmX5_homeMany s m args below meth c H locs 0 0 Q (F0 m 4 ls [])) ?_ _ _ _ h _ _ _ hw (lv_sub hl [2, 1, 0] rfl)
  intro rc4 IH4 x1_4 x2_4 h H locs ls hw hl
  unfold bX5_homeMany_4 at h
  refine lv_iload_n hx hb dX5_homeMany_4 rfl (lv_at hl 2 rfl) ?_
  refine lv_aload_n hx hb dX5_homeMany_5 rfl (lv_at hl 0 rfl) ?_
  refine gMd (v := .ref (sA G 9 1)) hx hb hts hiX5 hown hw 0 (by decide) (hts (.fieldLink RX5 7 "SecondHomeModel" "s" "[I") (by decide +kernel)) rfl dX5_homeMany_6 ?_
  refine lv_iconst (v := 0) hx hb dX5_homeMany_9 (by decide) ?_
  refine ldMd hx hb hw 0 (by decide) (n := 77) rfl (by decide) dX5_homeMany_10 ?_
  refine lv_icmp_ge (tgt := 36) hx hb dX5_homeMany_11 (by decide) (fun c11 => ?_) (fun c11 => ?_)
  · replace h := o_t c11 h
    refine lv_iload_n hx hb dX5_homeMany_36 rfl (lv_at hl 1 rfl) ?_
    exact rI hQ hx hb hr hlk hw dX5_homeMany_37 (o_1 h) rfl rfl
  · replace h := o_f c11 h
    refine lv_iload_n hx hb dX5_homeMany_14 rfl (lv_at hl 1 rfl) ?_
    refine lv_aload_n hx hb dX5_homeMany_15 rfl (lv_at hl 0 rfl) ?_
    refine lv_iload_n hx hb dX5_homeMany_16 rfl (lv_at hl 2 rfl) ?_
    obtain ⟨q17, eq17, h⟩ := o_bd h
    refine kV (As := [.int x2_4]) (rest := [.int x1_4]) (st' := [.int q17, .int x1_4]) ⟨hx, hb, hml, hown, hts⟩ (kX5_isHome l G eq17) (cwV 1 hts gX5_homeMany_X5_isHome rfl rfl rfl qqX5_isHome ⟨Nat.le_of_ble_eq_true rfl, Nat.le_of_ble_eq_true rfl⟩) hw (rvMd hw) rfl hl.1 rfl (Nat.le_of_ble_eq_true rfl) dX5_homeMany_17 ⟨Nat.zero_le _, Nat.zero_le _⟩ rfl (fun H locs hw => ?_)
    refine lv_if_eq (tgt := 27) hx hb dX5_homeMany_20 (by decide) (fun c20 => ?_) (fun c20 => ?_)
    · replace h := o_t c20 h
      refine lv_iconst (v := 0) hx hb dX5_homeMany_27 (by decide) ?_
      refine lv_iadd hx hb dX5_homeMany_28 ?_
      refine lv_topi (fun v29 ev29 => ?_)
      replace h := o_nx ev29 h
      refine lv_istore_n (lv' := [(1, .int v29), (0, .ref (sA G 9 0)), (2, .int x2_4)]) hx hb dX5_homeMany_29 rfl hl (by decide) rfl (fun ls hl => ?_)
      obtain ⟨v30, ev30, h⟩ := o_nm h
      refine lv_iinc (v := v30) (lv' := [(2, .int v30), (1, .int v29), (0, .ref (sA G 9 0))]) hx hb dX5_homeMany_30 hl (k := 2) rfl (by rw [ev30]; rfl) (by decide) rfl (fun ls hl => ?_)
      refine lv_goto (tgt := 4) hx hb dX5_homeMany_33 (by decide) ?_
      exact IH4 v29 v30 h _ _ _ hw (lv_sub hl [2, 1, 0] rfl)
    · replace h := o_f c20 h
      refine lv_iconst (v := 1) hx hb dX5_homeMany_23 (by decide) ?_
      refine lv_goto (tgt := 28) hx hb dX5_homeMany_24 (by decide) ?_
      refine lv_iadd hx hb dX5_homeMany_28 ?_
      refine lv_topi (fun v29 ev29 => ?_)
      replace h := o_nx ev29 h
      refine lv_istore_n (lv' := [(1, .int v29), (0, .ref (sA G 9 0)), (2, .int x2_4)]) hx hb dX5_homeMany_29 rfl hl (by decide) rfl (fun ls hl => ?_)
      obtain ⟨v30, ev30, h⟩ := o_nm h
      refine lv_iinc (v := v30) (lv' := [(2, .int v30), (1, .int v29), (0, .ref (sA G 9 0))]) hx hb dX5_homeMany_30 hl (k := 2) rfl (by rw [ev30]; rfl) (by decide) rfl (fun ls hl => ?_)
      refine lv_goto (tgt := 4) hx hb dX5_homeMany_33 (by decide) ?_
      exact IH4 v29 v30 h _ _ _ hw (lv_sub hl [2, 1, 0] rfl)
-- X5_asHolder
set_option maxRecDepth 100000 in
set_option maxHeartbeats 4000000 in
theorem kX5_asHolder (l : Launch) (G : sGl) {S : sWo} {M : sOb} {a1 : Int32} {a2 : Int32} {q : Int32}  (h : fX5_asHolder M a1 a2 = some q) : sCt l G yX5_asHolder wsX5_asHolder rmX5_asHolder [.ref (sA G 9 0), .int a1, .int a2] S M (some (.int q)) S M := by
  refine cMk (cc := cX5_asHolder) (maxL := 3) (ret := (some .int)) (by decide) rfl (Nat.le_of_ble_eq_true rfl) ?_
  intro p e s m args below meth c Q hQ hx hb hr hlk hml hown hts hw ls hl
  have hown : s.vm.findClass RX5 = some m.cls := hown
  have hl : lv_has ls 3 [(0, .ref (sA G 9 0)), (1, .int a1), (2, .int a2)] := hl
  have hiX5 : ∀ w ∈ u_ws RX5 TX5 15, w ∈ wsX5_asHolder := by decide +kernel
  unfold fX5_asHolder at h
  refine lv_iload_n hx hb dX5_asHolder_0 rfl (lv_at hl 1 rfl) ?_
  refine lv_iload_n hx hb dX5_asHolder_1 rfl (lv_at hl 2 rfl) ?_
  obtain ⟨k33, ek33, h⟩ := o_nm h
  have J33 : ∀ (H : Heap) (locs : List Loc) (ls : Array Slot), sHw G s S M H locs → lv_has ls 3 [(0, .ref (sA G 9 0)), (1, .int a1)] → k33 = some q → W p l e rmX5_asHolder s m args below meth c H locs 0 0 Q (F0 m 33 ls []) := by
    intro H locs ls hw hl h
    replace h := o_j0 ek33 h
    refine lv_aload_n hx hb dX5_asHolder_33 rfl (lv_at hl 0 rfl) ?_
    refine lv_iload_n hx hb dX5_asHolder_34 rfl (lv_at hl 1 rfl) ?_
    refine lv_iconst (v := 1) hx hb dX5_asHolder_35 (by decide) ?_
    obtain ⟨q36, eq36, h⟩ := o_bd h
    refine kV (As := [.int a1, .int (1 : Int32)]) (rest := []) (st' := [.int q36]) ⟨hx, hb, hml, hown, hts⟩ (kX5_is l G eq36) (cwV 2 hts gX5_asHolder_X5_is rfl rfl rfl qqX5_is ⟨Nat.le_of_ble_eq_true rfl, Nat.le_of_ble_eq_true rfl⟩) hw (rvMd hw) rfl hl.1 rfl (Nat.le_of_ble_eq_true rfl) dX5_asHolder_36 ⟨Nat.zero_le _, Nat.zero_le _⟩ rfl (fun H locs hw => ?_)
    exact rI hQ hx hb hr hlk hw dX5_asHolder_39 (o_1 h) rfl rfl
  refine lv_icmp_ne (tgt := 33) hx hb dX5_asHolder_2 (by decide) (fun c2 => ?_) (fun c2 => ?_)
  · replace h := o_f c2 h
    exact J33 _ _ _ hw (lv_sub hl [0, 1] rfl) h
  · replace h := o_t c2 h
    refine lv_iconst (v := 4) hx hb dX5_asHolder_5 (by decide) ?_
    refine lv_aload_n hx hb dX5_asHolder_6 rfl (lv_at hl 0 rfl) ?_
    refine lv_iload_n hx hb dX5_asHolder_7 rfl (lv_at hl 1 rfl) ?_
    refine lv_iconst (v := 5) hx hb dX5_asHolder_8 (by decide) ?_
    obtain ⟨q9, eq9, h⟩ := o_bd h
    refine kV (As := [.int a1, .int (5 : Int32)]) (rest := [.int (4 : Int32)]) (st' := [.int q9, .int (4 : Int32)]) ⟨hx, hb, hml, hown, hts⟩ (kX5_is l G eq9) (cwV 2 hts gX5_asHolder_X5_is rfl rfl rfl qqX5_is ⟨Nat.le_of_ble_eq_true rfl, Nat.le_of_ble_eq_true rfl⟩) hw (rvMd hw) rfl hl.1 rfl (Nat.le_of_ble_eq_true rfl) dX5_asHolder_9 ⟨Nat.zero_le _, Nat.zero_le _⟩ rfl (fun H locs hw => ?_)
    refine lv_imul hx hb dX5_asHolder_12 ?_
    refine lv_iconst (v := 3) hx hb dX5_asHolder_13 (by decide) ?_
    refine lv_aload_n hx hb dX5_asHolder_14 rfl (lv_at hl 0 rfl) ?_
    refine gMd (v := .ref (sA G 9 1)) hx hb hts hiX5 hown hw 0 (by decide) (hts (.fieldLink RX5 7 "SecondHomeModel" "s" "[I") (by decide +kernel)) rfl dX5_asHolder_15 ?_
    refine lv_iconst (v := 1) hx hb dX5_asHolder_18 (by decide) ?_
    refine ldMd hx hb hw 0 (by decide) (n := 77) rfl (by decide) dX5_asHolder_19 ?_
    refine lv_imul hx hb dX5_asHolder_20 ?_
    refine lv_icmp_lt (tgt := 33) hx hb dX5_asHolder_21 (by decide) (fun c21 => ?_) (fun c21 => ?_)
    · replace h := o_t c21 h
      exact J33 _ _ _ hw (lv_sub hl [0, 1] rfl) h
    · replace h := o_f c21 h
      refine lv_aload_n hx hb dX5_asHolder_24 rfl (lv_at hl 0 rfl) ?_
      refine gMd (v := .ref (sA G 9 1)) hx hb hts hiX5 hown hw 0 (by decide) (hts (.fieldLink RX5 7 "SecondHomeModel" "s" "[I") (by decide +kernel)) rfl dX5_asHolder_25 ?_
      refine lv_iconst (v := 2) hx hb dX5_asHolder_28 (by decide) ?_
      refine ldMd hx hb hw 0 (by decide) (n := 77) rfl (by decide) dX5_asHolder_29 ?_
      refine lv_goto (tgt := 39) hx hb dX5_asHolder_30 (by decide) ?_
      exact rI hQ hx hb hr hlk hw dX5_asHolder_39 (o_1 h) rfl rfl
-- X5_asKeeper
set_option maxRecDepth 100000 in
set_option maxHeartbeats 4000000 in
theorem kX5_asKeeper (l : Launch) (G : sGl) {S : sWo} {M : sOb} {a1 : Int32} {q : Int32}  (h : fX5_asKeeper M a1 = some q) : sCt l G yX5_asKeeper wsX5_asKeeper rmX5_asKeeper [.ref (sA G 9 0), .int a1] S M (some (.int q)) S M := by
  refine cMk (cc := cX5_asKeeper) (maxL := 5) (ret := (some .int)) (by decide) rfl (Nat.le_of_ble_eq_true rfl) ?_
  intro p e s m args below meth c Q hQ hx hb hr hlk hml hown hts hw ls hl
  have hown : s.vm.findClass RX5 = some m.cls := hown
  have hl : lv_has ls 5 [(0, .ref (sA G 9 0)), (1, .int a1)] := hl
  unfold fX5_asKeeper at h
  refine lv_aload_n hx hb dX5_asKeeper_0 rfl (lv_at hl 0 rfl) ?_
  refine lv_iload_n hx hb dX5_asKeeper_1 rfl (lv_at hl 1 rfl) ?_
  refine lv_iconst (v := 3) hx hb dX5_asKeeper_2 (by decide) ?_
  obtain ⟨q3, eq3, h⟩ := o_bd h
  refine kV (As := [.int a1, .int (3 : Int32)]) (rest := []) (st' := [.int q3]) ⟨hx, hb, hml, hown, hts⟩ (kX5_is l G eq3) (cwV 2 hts gX5_asKeeper_X5_is rfl rfl rfl qqX5_is ⟨Nat.le_of_ble_eq_true rfl, Nat.le_of_ble_eq_true rfl⟩) hw (rvMd hw) rfl hl.1 rfl (Nat.le_of_ble_eq_true rfl) dX5_asKeeper_3 ⟨Nat.zero_le _, Nat.zero_le _⟩ rfl (fun H locs hw => ?_)
  refine lv_istore_n (lv' := [(2, .int q3), (0, .ref (sA G 9 0)), (1, .int a1)]) hx hb dX5_asKeeper_6 rfl hl (by decide) rfl (fun ls hl => ?_)
  refine lv_iload_n hx hb dX5_asKeeper_7 rfl (lv_at hl 0 rfl) ?_
  obtain ⟨k19, ek19, h⟩ := o_nm h
  have J19 : ∀ (H : Heap) (locs : List Loc) (ls : Array Slot), sHw G s S M H locs → lv_has ls 5 [(0, .ref (sA G 9 0)), (1, .int a1)] → k19 = some q → W p l e rmX5_asKeeper s m args below meth c H locs 0 0 Q (F0 m 19 ls []) := by
    intro H locs ls hw hl h
    replace h := o_j0 ek19 h
    refine lv_aload_n hx hb dX5_asKeeper_19 rfl (lv_at hl 0 rfl) ?_
    refine lv_iload_n hx hb dX5_asKeeper_20 rfl (lv_at hl 1 rfl) ?_
    refine lv_iconst (v := 1) hx hb dX5_asKeeper_21 (by decide) ?_
    obtain ⟨q22, eq22, h⟩ := o_bd h
    refine kV (As := [.int a1, .int (1 : Int32)]) (rest := []) (st' := [.int q22]) ⟨hx, hb, hml, hown, hts⟩ (kX5_is l G eq22) (cwV 2 hts gX5_asKeeper_X5_is rfl rfl rfl qqX5_is ⟨Nat.le_of_ble_eq_true rfl, Nat.le_of_ble_eq_true rfl⟩) hw (rvMd hw) rfl hl.1 rfl (Nat.le_of_ble_eq_true rfl) dX5_asKeeper_22 ⟨Nat.zero_le _, Nat.zero_le _⟩ rfl (fun H locs hw => ?_)
    exact rI hQ hx hb hr hlk hw dX5_asKeeper_25 (o_1 h) rfl rfl
  refine lv_if_lt (tgt := 19) hx hb dX5_asKeeper_8 (by decide) (fun c8 => ?_) (fun c8 => ?_)
  · replace h := o_t c8 h
    exact J19 _ _ _ hw (lv_sub hl [1, 2] rfl) h
  · replace h := o_f c8 h
    refine lv_aload_n hx hb dX5_asKeeper_11 rfl (lv_at hl 1 rfl) ?_
    refine lv_iload_n hx hb dX5_asKeeper_12 rfl (lv_at hl 0 rfl) ?_
    obtain ⟨q13, eq13, h⟩ := o_bd h
    refine kV (As := [.int q3]) (rest := []) (st' := [.int q13]) ⟨hx, hb, hml, hown, hts⟩ (kX5_isHome l G eq13) (cwV 1 hts gX5_asKeeper_X5_isHome rfl rfl rfl qqX5_isHome ⟨Nat.le_of_ble_eq_true rfl, Nat.le_of_ble_eq_true rfl⟩) hw (rvMd hw) rfl hl.1 rfl (Nat.le_of_ble_eq_true rfl) dX5_asKeeper_13 ⟨Nat.zero_le _, Nat.zero_le _⟩ rfl (fun H locs hw => ?_)
    refine lv_if_eq (tgt := 26) hx hb dX5_asKeeper_16 (by decide) (fun c16 => ?_) (fun c16 => ?_)
    · replace h := o_t c16 h
      refine lv_aload_n hx hb dX5_asKeeper_26 rfl (lv_at hl 1 rfl) ?_
      refine lv_iload_n hx hb dX5_asKeeper_27 rfl (lv_at hl 0 rfl) ?_
      refine lv_iconst (v := 5) hx hb dX5_asKeeper_28 (by decide) ?_
      obtain ⟨q29, eq29, h⟩ := o_bd h
      refine kV (As := [.int q3, .int (5 : Int32)]) (rest := []) (st' := [.int q29]) ⟨hx, hb, hml, hown, hts⟩ (kX5_is l G eq29) (cwV 2 hts gX5_asKeeper_X5_is rfl rfl rfl qqX5_is ⟨Nat.le_of_ble_eq_true rfl, Nat.le_of_ble_eq_true rfl⟩) hw (rvMd hw) rfl hl.1 rfl (Nat.le_of_ble_eq_true rfl) dX5_asKeeper_29 ⟨Nat.zero_le _, Nat.zero_le _⟩ rfl (fun H locs hw => ?_)
      refine lv_aload_n hx hb dX5_asKeeper_32 rfl (lv_at hl 1 rfl) ?_
      refine lv_iload_n hx hb dX5_asKeeper_33 rfl (lv_at hl 2 rfl) ?_
      refine lv_iconst (v := 5) hx hb dX5_asKeeper_34 (by decide) ?_
      obtain ⟨q35, eq35, h⟩ := o_bd h
      refine kV (As := [.int a1, .int (5 : Int32)]) (rest := [.int q29]) (st' := [.int q35, .int q29]) ⟨hx, hb, hml, hown, hts⟩ (kX5_is l G eq35) (cwV 2 hts gX5_asKeeper_X5_is rfl rfl rfl qqX5_is ⟨Nat.le_of_ble_eq_true rfl, Nat.le_of_ble_eq_true rfl⟩) hw (rvMd hw) rfl hl.1 rfl (Nat.le_of_ble_eq_true rfl) dX5_asKeeper_35 ⟨Nat.zero_le _, Nat.zero_le _⟩ rfl (fun H locs hw => ?_)
      refine lv_isub hx hb dX5_asKeeper_38 ?_
      refine lv_topi (fun v39 ev39 => ?_)
      replace h := o_nx ev39 h
      refine lv_istore_n (lv' := [(3, .int v39), (2, .int q3), (0, .ref (sA G 9 0)), (1, .int a1)]) hx hb dX5_asKeeper_39 rfl hl (by decide) rfl (fun ls hl => ?_)
      refine lv_iload_n hx hb dX5_asKeeper_40 rfl (lv_at hl 0 rfl) ?_
      refine lv_aload_n hx hb dX5_asKeeper_41 rfl (lv_at hl 2 rfl) ?_
      refine lv_iload_n hx hb dX5_asKeeper_42 rfl (lv_at hl 3 rfl) ?_
      refine lv_iconst (v := 1) hx hb dX5_asKeeper_43 (by decide) ?_
      obtain ⟨q44, eq44, h⟩ := o_bd h
      refine kV (As := [.int a1, .int (1 : Int32)]) (rest := [.int v39]) (st' := [.int q44, .int v39]) ⟨hx, hb, hml, hown, hts⟩ (kX5_is l G eq44) (cwV 2 hts gX5_asKeeper_X5_is rfl rfl rfl qqX5_is ⟨Nat.le_of_ble_eq_true rfl, Nat.le_of_ble_eq_true rfl⟩) hw (rvMd hw) rfl hl.1 rfl (Nat.le_of_ble_eq_true rfl) dX5_asKeeper_44 ⟨Nat.zero_le _, Nat.zero_le _⟩ rfl (fun H locs hw => ?_)
      obtain ⟨k60, ek60, h⟩ := o_nm h
      have J60 : ∀ (y0_60 : Int32) (H : Heap) (locs : List Loc) (ls : Array Slot), sHw G s S M H locs → lv_has ls 5 [] → k60 y0_60 = some q → W p l e rmX5_asKeeper s m args below meth c H locs 0 0 Q (F0 m 60 ls [.int y0_60]) := by
        intro y0_60 H locs ls hw hl h
        replace h := o_j1 ek60 h
        refine lv_istore (lv' := [(4, .int y0_60)]) hx hb dX5_asKeeper_60 hl (by decide) rfl (fun ls hl => ?_)
        refine lv_iload hx hb dX5_asKeeper_62 (lv_at hl 0 rfl) ?_
        refine lv_iconst (v := 1) hx hb dX5_asKeeper_64 (by decide) ?_
        refine lv_icmp_ge (tgt := 72) hx hb dX5_asKeeper_65 (by decide) (fun c65 => ?_) (fun c65 => ?_)
        · replace h := o_t c65 h
          refine lv_iload hx hb dX5_asKeeper_72 (lv_at hl 0 rfl) ?_
          exact rI hQ hx hb hr hlk hw dX5_asKeeper_74 (o_1 h) rfl rfl
        · replace h := o_f c65 h
          refine lv_iconst (v := 1) hx hb dX5_asKeeper_68 (by decide) ?_
          refine lv_goto (tgt := 74) hx hb dX5_asKeeper_69 (by decide) ?_
          exact rI hQ hx hb hr hlk hw dX5_asKeeper_74 (o_1 h) rfl rfl
      refine lv_icmp_ge (tgt := 54) hx hb dX5_asKeeper_47 (by decide) (fun c47 => ?_) (fun c47 => ?_)
      · replace h := o_t c47 h
        refine lv_aload_n hx hb dX5_asKeeper_54 rfl (lv_at hl 2 rfl) ?_
        refine lv_iload_n hx hb dX5_asKeeper_55 rfl (lv_at hl 3 rfl) ?_
        refine lv_iconst (v := 1) hx hb dX5_asKeeper_56 (by decide) ?_
        obtain ⟨q57, eq57, h⟩ := o_bd h
        refine kV (As := [.int a1, .int (1 : Int32)]) (rest := []) (st' := [.int q57]) ⟨hx, hb, hml, hown, hts⟩ (kX5_is l G eq57) (cwV 2 hts gX5_asKeeper_X5_is rfl rfl rfl qqX5_is ⟨Nat.le_of_ble_eq_true rfl, Nat.le_of_ble_eq_true rfl⟩) hw (rvMd hw) rfl hl.1 rfl (Nat.le_of_ble_eq_true rfl) dX5_asKeeper_57 ⟨Nat.zero_le _, Nat.zero_le _⟩ rfl (fun H locs hw => ?_)
        exact J60 q57 _ _ _ hw (lv_sub hl [] rfl) h
      · replace h := o_f c47 h
        refine lv_iload_n hx hb dX5_asKeeper_50 rfl (lv_at hl 0 rfl) ?_
        refine lv_goto (tgt := 60) hx hb dX5_asKeeper_51 (by decide) ?_
        exact J60 v39 _ _ _ hw (lv_sub hl [] rfl) h
    · replace h := o_f c16 h
      exact J19 _ _ _ hw (lv_sub hl [1, 2] rfl) h
-- X5_wishOf
set_option maxRecDepth 100000 in
set_option maxHeartbeats 4000000 in
theorem kX5_wishOf (l : Launch) (G : sGl) {S : sWo} {M : sOb} {a1 : Int32} {a2 : Int32} {a3 : Int32} {q : Int32}  (h : fX5_wishOf M a1 a2 a3 = some q) : sCt l G yX5_wishOf wsX5_wishOf rmX5_wishOf [.ref (sA G 9 0), .int a1, .int a2, .int a3] S M (some (.int q)) S M := by
  refine cMk (cc := cX5_wishOf) (maxL := 4) (ret := (some .int)) (by decide) rfl (Nat.le_of_ble_eq_true rfl) ?_
  intro p e s m args below meth c Q hQ hx hb hr hlk hml hown hts hw ls hl
  have hown : s.vm.findClass RX5 = some m.cls := hown
  have hl : lv_has ls 4 [(0, .ref (sA G 9 0)), (1, .int a1), (2, .int a2), (3, .int a3)] := hl
  have hiX5 : ∀ w ∈ u_ws RX5 TX5 15, w ∈ wsX5_wishOf := by decide +kernel
  unfold fX5_wishOf at h
  refine lv_aload_n hx hb dX5_wishOf_0 rfl (lv_at hl 0 rfl) ?_
  refine lv_iload_n hx hb dX5_wishOf_1 rfl (lv_at hl 1 rfl) ?_
  refine lv_iconst (v := 0) hx hb dX5_wishOf_2 (by decide) ?_
  obtain ⟨q3, eq3, h⟩ := o_bd h
  refine kV (As := [.int a1, .int (0 : Int32)]) (rest := []) (st' := [.int q3]) ⟨hx, hb, hml, hown, hts⟩ (kX5_is l G eq3) (cwV 2 hts gX5_wishOf_X5_is rfl rfl rfl qqX5_is ⟨Nat.le_of_ble_eq_true rfl, Nat.le_of_ble_eq_true rfl⟩) hw (rvMd hw) rfl hl.1 rfl (Nat.le_of_ble_eq_true rfl) dX5_wishOf_3 ⟨Nat.zero_le _, Nat.zero_le _⟩ rfl (fun H locs hw => ?_)
  by_cases c6_1 : q3 = (1 : Int32)
  · replace h := o_t c6_1 h
    refine lv_tableIn (tgt := 40) hx hb dX5_wishOf_6 (by rw [c6_1]; decide) (by rw [c6_1]; decide) (by rw [c6_1]; rfl) (by decide) ?_
    refine lv_aload_n hx hb dX5_wishOf_40 rfl (lv_at hl 0 rfl) ?_
    refine lv_iload_n hx hb dX5_wishOf_41 rfl (lv_at hl 1 rfl) ?_
    refine lv_iload_n hx hb dX5_wishOf_42 rfl (lv_at hl 2 rfl) ?_
    obtain ⟨q43, eq43, h⟩ := o_bd h
    refine kV (As := [.int a1, .int a2]) (rest := []) (st' := [.int q43]) ⟨hx, hb, hml, hown, hts⟩ (kX5_asHolder l G eq43) (cwV 2 hts gX5_wishOf_X5_asHolder rfl rfl rfl qqX5_asHolder ⟨Nat.le_of_ble_eq_true rfl, Nat.le_of_ble_eq_true rfl⟩) hw (rvMd hw) rfl hl.1 rfl (Nat.le_of_ble_eq_true rfl) dX5_wishOf_43 ⟨Nat.zero_le _, Nat.zero_le _⟩ rfl (fun H locs hw => ?_)
    exact rI hQ hx hb hr hlk hw dX5_wishOf_46 (o_1 h) rfl rfl
  replace h := o_f c6_1 h
  by_cases c6_2 : q3 = (2 : Int32)
  · replace h := o_t c6_2 h
    refine lv_tableIn (tgt := 47) hx hb dX5_wishOf_6 (by rw [c6_2]; decide) (by rw [c6_2]; decide) (by rw [c6_2]; rfl) (by decide) ?_
    refine lv_aload_n hx hb dX5_wishOf_47 rfl (lv_at hl 0 rfl) ?_
    refine lv_iload_n hx hb dX5_wishOf_48 rfl (lv_at hl 1 rfl) ?_
    obtain ⟨q49, eq49, h⟩ := o_bd h
    refine kV (As := [.int a1]) (rest := []) (st' := [.int q49]) ⟨hx, hb, hml, hown, hts⟩ (kX5_asKeeper l G eq49) (cwV 1 hts gX5_wishOf_X5_asKeeper rfl rfl rfl qqX5_asKeeper ⟨Nat.le_of_ble_eq_true rfl, Nat.le_of_ble_eq_true rfl⟩) hw (rvMd hw) rfl hl.1 rfl (Nat.le_of_ble_eq_true rfl) dX5_wishOf_49 ⟨Nat.zero_le _, Nat.zero_le _⟩ rfl (fun H locs hw => ?_)
    exact rI hQ hx hb hr hlk hw dX5_wishOf_52 (o_1 h) rfl rfl
  replace h := o_f c6_2 h
  by_cases c6_3 : q3 = (3 : Int32)
  · replace h := o_t c6_3 h
    refine lv_tableIn (tgt := 53) hx hb dX5_wishOf_6 (by rw [c6_3]; decide) (by rw [c6_3]; decide) (by rw [c6_3]; rfl) (by decide) ?_
    refine lv_aload_n hx hb dX5_wishOf_53 rfl (lv_at hl 0 rfl) ?_
    refine lv_iload_n hx hb dX5_wishOf_54 rfl (lv_at hl 1 rfl) ?_
    refine lv_iconst (v := 3) hx hb dX5_wishOf_55 (by decide) ?_
    obtain ⟨q56, eq56, h⟩ := o_bd h
    refine kV (As := [.int a1, .int (3 : Int32)]) (rest := []) (st' := [.int q56]) ⟨hx, hb, hml, hown, hts⟩ (kX5_is l G eq56) (cwV 2 hts gX5_wishOf_X5_is rfl rfl rfl qqX5_is ⟨Nat.le_of_ble_eq_true rfl, Nat.le_of_ble_eq_true rfl⟩) hw (rvMd hw) rfl hl.1 rfl (Nat.le_of_ble_eq_true rfl) dX5_wishOf_56 ⟨Nat.zero_le _, Nat.zero_le _⟩ rfl (fun H locs hw => ?_)
    refine lv_if_lt (tgt := 84) hx hb dX5_wishOf_59 (by decide) (fun c59 => ?_) (fun c59 => ?_)
    · replace h := o_t c59 h
      refine lv_aload_n hx hb dX5_wishOf_84 rfl (lv_at hl 0 rfl) ?_
      refine lv_iload_n hx hb dX5_wishOf_85 rfl (lv_at hl 1 rfl) ?_
      obtain ⟨q86, eq86, h⟩ := o_bd h
      refine kV (As := [.int a1]) (rest := []) (st' := [.int q86]) ⟨hx, hb, hml, hown, hts⟩ (kX5_asKeeper l G eq86) (cwV 1 hts gX5_wishOf_X5_asKeeper rfl rfl rfl qqX5_asKeeper ⟨Nat.le_of_ble_eq_true rfl, Nat.le_of_ble_eq_true rfl⟩) hw (rvMd hw) rfl hl.1 rfl (Nat.le_of_ble_eq_true rfl) dX5_wishOf_86 ⟨Nat.zero_le _, Nat.zero_le _⟩ rfl (fun H locs hw => ?_)
      exact rI hQ hx hb hr hlk hw dX5_wishOf_89 (o_1 h) rfl rfl
    · replace h := o_f c59 h
      refine lv_aload_n hx hb dX5_wishOf_62 rfl (lv_at hl 0 rfl) ?_
      refine lv_aload_n hx hb dX5_wishOf_63 rfl (lv_at hl 0 rfl) ?_
      refine lv_iload_n hx hb dX5_wishOf_64 rfl (lv_at hl 1 rfl) ?_
      refine lv_iconst (v := 3) hx hb dX5_wishOf_65 (by decide) ?_
      obtain ⟨q66, eq66, h⟩ := o_bd h
      refine kV (As := [.int a1, .int (3 : Int32)]) (rest := [.ref (sA G 9 0)]) (st' := [.int q66, .ref (sA G 9 0)]) ⟨hx, hb, hml, hown, hts⟩ (kX5_is l G eq66) (cwV 2 hts gX5_wishOf_X5_is rfl rfl rfl qqX5_is ⟨Nat.le_of_ble_eq_true rfl, Nat.le_of_ble_eq_true rfl⟩) hw (rvMd hw) rfl hl.1 rfl (Nat.le_of_ble_eq_true rfl) dX5_wishOf_66 ⟨Nat.zero_le _, Nat.zero_le _⟩ rfl (fun H locs hw => ?_)
      obtain ⟨q69, eq69, h⟩ := o_bd h
      refine kV (As := [.int q66]) (rest := []) (st' := [.int q69]) ⟨hx, hb, hml, hown, hts⟩ (kX5_isHome l G eq69) (cwV 1 hts gX5_wishOf_X5_isHome rfl rfl rfl qqX5_isHome ⟨Nat.le_of_ble_eq_true rfl, Nat.le_of_ble_eq_true rfl⟩) hw (rvMd hw) rfl hl.1 rfl (Nat.le_of_ble_eq_true rfl) dX5_wishOf_69 ⟨Nat.zero_le _, Nat.zero_le _⟩ rfl (fun H locs hw => ?_)
      refine lv_if_eq (tgt := 84) hx hb dX5_wishOf_72 (by decide) (fun c72 => ?_) (fun c72 => ?_)
      · replace h := o_t c72 h
        refine lv_aload_n hx hb dX5_wishOf_84 rfl (lv_at hl 0 rfl) ?_
        refine lv_iload_n hx hb dX5_wishOf_85 rfl (lv_at hl 1 rfl) ?_
        obtain ⟨q86, eq86, h⟩ := o_bd h
        refine kV (As := [.int a1]) (rest := []) (st' := [.int q86]) ⟨hx, hb, hml, hown, hts⟩ (kX5_asKeeper l G eq86) (cwV 1 hts gX5_wishOf_X5_asKeeper rfl rfl rfl qqX5_asKeeper ⟨Nat.le_of_ble_eq_true rfl, Nat.le_of_ble_eq_true rfl⟩) hw (rvMd hw) rfl hl.1 rfl (Nat.le_of_ble_eq_true rfl) dX5_wishOf_86 ⟨Nat.zero_le _, Nat.zero_le _⟩ rfl (fun H locs hw => ?_)
        exact rI hQ hx hb hr hlk hw dX5_wishOf_89 (o_1 h) rfl rfl
      · replace h := o_f c72 h
        refine lv_aload_n hx hb dX5_wishOf_75 rfl (lv_at hl 0 rfl) ?_
        refine gMd (v := .ref (sA G 9 1)) hx hb hts hiX5 hown hw 0 (by decide) (hts (.fieldLink RX5 7 "SecondHomeModel" "s" "[I") (by decide +kernel)) rfl dX5_wishOf_76 ?_
        refine lv_iconst (v := 2) hx hb dX5_wishOf_79 (by decide) ?_
        refine ldMd hx hb hw 0 (by decide) (n := 77) rfl (by decide) dX5_wishOf_80 ?_
        refine lv_goto (tgt := 89) hx hb dX5_wishOf_81 (by decide) ?_
        exact rI hQ hx hb hr hlk hw dX5_wishOf_89 (o_1 h) rfl rfl
  replace h := o_f c6_3 h
  by_cases c6_4 : q3 = (4 : Int32)
  · replace h := o_t c6_4 h
    refine lv_tableIn (tgt := 90) hx hb dX5_wishOf_6 (by rw [c6_4]; decide) (by rw [c6_4]; decide) (by rw [c6_4]; rfl) (by decide) ?_
    refine lv_aload_n hx hb dX5_wishOf_90 rfl (lv_at hl 0 rfl) ?_
    refine lv_iload_n hx hb dX5_wishOf_91 rfl (lv_at hl 1 rfl) ?_
    refine lv_iconst (v := 5) hx hb dX5_wishOf_92 (by decide) ?_
    obtain ⟨q93, eq93, h⟩ := o_bd h
    refine kV (As := [.int a1, .int (5 : Int32)]) (rest := []) (st' := [.int q93]) ⟨hx, hb, hml, hown, hts⟩ (kX5_is l G eq93) (cwV 2 hts gX5_wishOf_X5_is rfl rfl rfl qqX5_is ⟨Nat.le_of_ble_eq_true rfl, Nat.le_of_ble_eq_true rfl⟩) hw (rvMd hw) rfl hl.1 rfl (Nat.le_of_ble_eq_true rfl) dX5_wishOf_93 ⟨Nat.zero_le _, Nat.zero_le _⟩ rfl (fun H locs hw => ?_)
    refine lv_aload_n hx hb dX5_wishOf_96 rfl (lv_at hl 0 rfl) ?_
    refine gMd (v := .ref (sA G 9 1)) hx hb hts hiX5 hown hw 0 (by decide) (hts (.fieldLink RX5 7 "SecondHomeModel" "s" "[I") (by decide +kernel)) rfl dX5_wishOf_97 ?_
    refine lv_iconst (v := 1) hx hb dX5_wishOf_100 (by decide) ?_
    refine ldMd hx hb hw 0 (by decide) (n := 77) rfl (by decide) dX5_wishOf_101 ?_
    refine lv_bipush (v := 40) hx hb dX5_wishOf_102 (by decide) ?_
    refine lv_isub hx hb dX5_wishOf_104 ?_
    obtain ⟨k128, ek128, h⟩ := o_nm h
    have J128 : ∀ (H : Heap) (locs : List Loc) (ls : Array Slot), sHw G s S M H locs → lv_has ls 4 [(0, .ref (sA G 9 0)), (1, .int a1), (2, .int a2)] → k128 = some q → W p l e rmX5_wishOf s m args below meth c H locs 0 0 Q (F0 m 128 ls []) := by
      intro H locs ls hw hl h
      replace h := o_j0 ek128 h
      refine lv_aload_n hx hb dX5_wishOf_128 rfl (lv_at hl 0 rfl) ?_
      refine lv_iload_n hx hb dX5_wishOf_129 rfl (lv_at hl 1 rfl) ?_
      refine lv_iload_n hx hb dX5_wishOf_130 rfl (lv_at hl 2 rfl) ?_
      obtain ⟨q131, eq131, h⟩ := o_bd h
      refine kV (As := [.int a1, .int a2]) (rest := []) (st' := [.int q131]) ⟨hx, hb, hml, hown, hts⟩ (kX5_asHolder l G eq131) (cwV 2 hts gX5_wishOf_X5_asHolder rfl rfl rfl qqX5_asHolder ⟨Nat.le_of_ble_eq_true rfl, Nat.le_of_ble_eq_true rfl⟩) hw (rvMd hw) rfl hl.1 rfl (Nat.le_of_ble_eq_true rfl) dX5_wishOf_131 ⟨Nat.zero_le _, Nat.zero_le _⟩ rfl (fun H locs hw => ?_)
      exact rI hQ hx hb hr hlk hw dX5_wishOf_134 (o_1 h) rfl rfl
    refine lv_icmp_lt (tgt := 128) hx hb dX5_wishOf_105 (by decide) (fun c105 => ?_) (fun c105 => ?_)
    · replace h := o_t c105 h
      exact J128 _ _ _ hw (lv_sub hl [0, 1, 2] rfl) h
    · replace h := o_f c105 h
      refine lv_iload_n hx hb dX5_wishOf_108 rfl (lv_at hl 3 rfl) ?_
      obtain ⟨k117, ek117, h⟩ := o_nm h
      have J117 : ∀ (H : Heap) (locs : List Loc) (ls : Array Slot), sHw G s S M H locs → lv_has ls 4 [(0, .ref (sA G 9 0)), (1, .int a1), (2, .int a2)] → k117 = some q → W p l e rmX5_wishOf s m args below meth c H locs 0 0 Q (F0 m 117 ls []) := by
        intro H locs ls hw hl h
        replace h := o_j0 ek117 h
        refine lv_iconst (v := 2) hx hb dX5_wishOf_117 (by decide) ?_
        refine lv_aload_n hx hb dX5_wishOf_118 rfl (lv_at hl 0 rfl) ?_
        refine lv_iload_n hx hb dX5_wishOf_119 rfl (lv_at hl 1 rfl) ?_
        refine lv_iload_n hx hb dX5_wishOf_120 rfl (lv_at hl 2 rfl) ?_
        obtain ⟨q121, eq121, h⟩ := o_bd h
        refine kV (As := [.int a1, .int a2]) (rest := [.int (2 : Int32)]) (st' := [.int q121, .int (2 : Int32)]) ⟨hx, hb, hml, hown, hts⟩ (kX5_asHolder l G eq121) (cwV 2 hts gX5_wishOf_X5_asHolder rfl rfl rfl qqX5_asHolder ⟨Nat.le_of_ble_eq_true rfl, Nat.le_of_ble_eq_true rfl⟩) hw (rvMd hw) rfl hl.1 rfl (Nat.le_of_ble_eq_true rfl) dX5_wishOf_121 ⟨Nat.zero_le _, Nat.zero_le _⟩ rfl (fun H locs hw => ?_)
        refine lv_imul hx hb dX5_wishOf_124 ?_
        refine lv_goto (tgt := 134) hx hb dX5_wishOf_125 (by decide) ?_
        exact rI hQ hx hb hr hlk hw dX5_wishOf_134 (o_1 h) rfl rfl
      refine lv_if_gt (tgt := 117) hx hb dX5_wishOf_109 (by decide) (fun c109 => ?_) (fun c109 => ?_)
      · replace h := o_t c109 h
        exact J117 _ _ _ hw (lv_sub hl [0, 1, 2] rfl) h
      · replace h := o_f c109 h
        refine lv_iload_n hx hb dX5_wishOf_112 rfl (lv_at hl 1 rfl) ?_
        refine lv_iload_n hx hb dX5_wishOf_113 rfl (lv_at hl 2 rfl) ?_
        refine lv_icmp_eq (tgt := 128) hx hb dX5_wishOf_114 (by decide) (fun c114 => ?_) (fun c114 => ?_)
        · replace h := o_t c114 h
          exact J128 _ _ _ hw (lv_sub hl [0, 1, 2] rfl) h
        · replace h := o_f c114 h
          exact J117 _ _ _ hw (lv_sub hl [0, 1, 2] rfl) h
  replace h := o_f c6_4 h
  by_cases c6_5 : q3 = (5 : Int32)
  · replace h := o_t c6_5 h
    refine lv_tableIn (tgt := 135) hx hb dX5_wishOf_6 (by rw [c6_5]; decide) (by rw [c6_5]; decide) (by rw [c6_5]; rfl) (by decide) ?_
    refine lv_aload_n hx hb dX5_wishOf_135 rfl (lv_at hl 0 rfl) ?_
    refine lv_iload_n hx hb dX5_wishOf_136 rfl (lv_at hl 1 rfl) ?_
    refine lv_iload_n hx hb dX5_wishOf_137 rfl (lv_at hl 2 rfl) ?_
    obtain ⟨q138, eq138, h⟩ := o_bd h
    refine kV (As := [.int a1, .int a2]) (rest := []) (st' := [.int q138]) ⟨hx, hb, hml, hown, hts⟩ (kX5_asHolder l G eq138) (cwV 2 hts gX5_wishOf_X5_asHolder rfl rfl rfl qqX5_asHolder ⟨Nat.le_of_ble_eq_true rfl, Nat.le_of_ble_eq_true rfl⟩) hw (rvMd hw) rfl hl.1 rfl (Nat.le_of_ble_eq_true rfl) dX5_wishOf_138 ⟨Nat.zero_le _, Nat.zero_le _⟩ rfl (fun H locs hw => ?_)
    refine lv_aload_n hx hb dX5_wishOf_141 rfl (lv_at hl 0 rfl) ?_
    refine gMd (v := .ref (sA G 9 1)) hx hb hts hiX5 hown hw 0 (by decide) (hts (.fieldLink RX5 7 "SecondHomeModel" "s" "[I") (by decide +kernel)) rfl dX5_wishOf_142 ?_
    refine lv_iconst (v := 2) hx hb dX5_wishOf_145 (by decide) ?_
    refine ldMd hx hb hw 0 (by decide) (n := 77) rfl (by decide) dX5_wishOf_146 ?_
    refine lv_iconst (v := 2) hx hb dX5_wishOf_147 (by decide) ?_
    refine lv_iadd hx hb dX5_wishOf_148 ?_
    refine lv_icmp_ge (tgt := 161) hx hb dX5_wishOf_149 (by decide) (fun c149 => ?_) (fun c149 => ?_)
    · replace h := o_t c149 h
      refine lv_aload_n hx hb dX5_wishOf_161 rfl (lv_at hl 0 rfl) ?_
      refine gMd (v := .ref (sA G 9 1)) hx hb hts hiX5 hown hw 0 (by decide) (hts (.fieldLink RX5 7 "SecondHomeModel" "s" "[I") (by decide +kernel)) rfl dX5_wishOf_162 ?_
      refine lv_iconst (v := 2) hx hb dX5_wishOf_165 (by decide) ?_
      refine ldMd hx hb hw 0 (by decide) (n := 77) rfl (by decide) dX5_wishOf_166 ?_
      refine lv_iconst (v := 2) hx hb dX5_wishOf_167 (by decide) ?_
      refine lv_iadd hx hb dX5_wishOf_168 ?_
      exact rI hQ hx hb hr hlk hw dX5_wishOf_169 (o_1 h) rfl rfl
    · replace h := o_f c149 h
      refine lv_aload_n hx hb dX5_wishOf_152 rfl (lv_at hl 0 rfl) ?_
      refine lv_iload_n hx hb dX5_wishOf_153 rfl (lv_at hl 1 rfl) ?_
      refine lv_iload_n hx hb dX5_wishOf_154 rfl (lv_at hl 2 rfl) ?_
      obtain ⟨q155, eq155, h⟩ := o_bd h
      refine kV (As := [.int a1, .int a2]) (rest := []) (st' := [.int q155]) ⟨hx, hb, hml, hown, hts⟩ (kX5_asHolder l G eq155) (cwV 2 hts gX5_wishOf_X5_asHolder rfl rfl rfl qqX5_asHolder ⟨Nat.le_of_ble_eq_true rfl, Nat.le_of_ble_eq_true rfl⟩) hw (rvMd hw) rfl hl.1 rfl (Nat.le_of_ble_eq_true rfl) dX5_wishOf_155 ⟨Nat.zero_le _, Nat.zero_le _⟩ rfl (fun H locs hw => ?_)
      refine lv_goto (tgt := 169) hx hb dX5_wishOf_158 (by decide) ?_
      exact rI hQ hx hb hr hlk hw dX5_wishOf_169 (o_1 h) rfl rfl
  replace h := o_f c6_5 h
  have sw6 : q3.toInt < 1 ∨ 5 < q3.toInt := by
    have z1 := sw_ne c6_1
    have z2 := sw_ne c6_2
    have z3 := sw_ne c6_3
    have z4 := sw_ne c6_4
    have z5 := sw_ne c6_5
    rw [show ((1 : Int32)).toInt = 1 from rfl] at z1
    rw [show ((2 : Int32)).toInt = 2 from rfl] at z2
    rw [show ((3 : Int32)).toInt = 3 from rfl] at z3
    rw [show ((4 : Int32)).toInt = 4 from rfl] at z4
    rw [show ((5 : Int32)).toInt = 5 from rfl] at z5
    omega
  refine lv_tableOut (tgt := 170) hx hb dX5_wishOf_6 sw6 (by decide) ?_
  refine lv_aload_n hx hb dX5_wishOf_170 rfl (lv_at hl 0 rfl) ?_
  refine lv_iload_n hx hb dX5_wishOf_171 rfl (lv_at hl 1 rfl) ?_
  refine lv_iconst (v := 1) hx hb dX5_wishOf_172 (by decide) ?_
  obtain ⟨q173, eq173, h⟩ := o_bd h
  refine kV (As := [.int a1, .int (1 : Int32)]) (rest := []) (st' := [.int q173]) ⟨hx, hb, hml, hown, hts⟩ (kX5_is l G eq173) (cwV 2 hts gX5_wishOf_X5_is rfl rfl rfl qqX5_is ⟨Nat.le_of_ble_eq_true rfl, Nat.le_of_ble_eq_true rfl⟩) hw (rvMd hw) rfl hl.1 rfl (Nat.le_of_ble_eq_true rfl) dX5_wishOf_173 ⟨Nat.zero_le _, Nat.zero_le _⟩ rfl (fun H locs hw => ?_)
  exact rI hQ hx hb hr hlk hw dX5_wishOf_176 (o_1 h) rfl rfl
-- X5_wish
set_option maxRecDepth 100000 in
set_option maxHeartbeats 4000000 in
theorem kX5_wish (l : Launch) (G : sGl) {S : sWo} {M : sOb} {a1 : Int32} {q : (Int32 × sOb)}  (h : fX5_wish M a1 = some q) : sCt l G yX5_wish wsX5_wish rmX5_wish [.ref (sA G 9 0), .int a1] S M (some (.int q.1)) S q.2 := by
  refine cMk (cc := cX5_wish) (maxL := 2) (ret := (some .int)) (by decide) rfl (Nat.le_of_ble_eq_true rfl) ?_
  intro p e s m args below meth c Q hQ hx hb hr hlk hml hown hts hw ls hl
  have hown : s.vm.findClass RX5 = some m.cls := hown
  have hl : lv_has ls 2 [(0, .ref (sA G 9 0)), (1, .int a1)] := hl
  unfold fX5_wish at h
  refine lv_aload_n hx hb dX5_wish_0 rfl (lv_at hl 0 rfl) ?_
  refine lv_iload_n hx hb dX5_wish_1 rfl (lv_at hl 1 rfl) ?_
  obtain ⟨q2, eq2, h⟩ := o_bd h
  refine kV (As := [.int a1]) (rest := []) (st' := [.int q2]) ⟨hx, hb, hml, hown, hts⟩ (kX5_isRunner l G eq2) (cwV 1 hts gX5_wish_X5_isRunner rfl rfl rfl qqX5_isRunner ⟨Nat.le_of_ble_eq_true rfl, Nat.le_of_ble_eq_true rfl⟩) hw (rvMd hw) rfl hl.1 rfl (Nat.le_of_ble_eq_true rfl) dX5_wish_2 ⟨Nat.zero_le _, Nat.zero_le _⟩ rfl (fun H locs hw => ?_)
  refine lv_if_ne (tgt := 15) hx hb dX5_wish_5 (by decide) (fun c5 => ?_) (fun c5 => ?_)
  · replace h := o_f c5 h
    refine lv_aload_n hx hb dX5_wish_15 rfl (lv_at hl 0 rfl) ?_
    refine lv_iload_n hx hb dX5_wish_16 rfl (lv_at hl 1 rfl) ?_
    obtain ⟨q17, eq17, h⟩ := o_bd h
    refine kV (As := [.int a1]) (rest := []) (st' := [.int q17]) ⟨hx, hb, hml, hown, hts⟩ (kX5_isHome l G eq17) (cwV 1 hts gX5_wish_X5_isHome rfl rfl rfl qqX5_isHome ⟨Nat.le_of_ble_eq_true rfl, Nat.le_of_ble_eq_true rfl⟩) hw (rvMd hw) rfl hl.1 rfl (Nat.le_of_ble_eq_true rfl) dX5_wish_17 ⟨Nat.zero_le _, Nat.zero_le _⟩ rfl (fun H locs hw => ?_)
    refine lv_if_eq (tgt := 32) hx hb dX5_wish_20 (by decide) (fun c20 => ?_) (fun c20 => ?_)
    · replace h := o_t c20 h
      refine lv_aload_n hx hb dX5_wish_32 rfl (lv_at hl 0 rfl) ?_
      refine lv_iload_n hx hb dX5_wish_33 rfl (lv_at hl 1 rfl) ?_
      refine lv_aload_n hx hb dX5_wish_34 rfl (lv_at hl 0 rfl) ?_
      obtain ⟨q35, eq35, h⟩ := o_bd h
      refine kV (As := []) (rest := [.int a1, .ref (sA G 9 0)]) (st' := [.int q35, .int a1, .ref (sA G 9 0)]) ⟨hx, hb, hml, hown, hts⟩ (kX5_firstAlone l G eq35) (cwV 0 hts gX5_wish_X5_firstAlone rfl rfl rfl qqX5_firstAlone ⟨Nat.le_of_ble_eq_true rfl, Nat.le_of_ble_eq_true rfl⟩) hw (rvMd hw) rfl hl.1 rfl (Nat.le_of_ble_eq_true rfl) dX5_wish_35 ⟨Nat.zero_le _, Nat.zero_le _⟩ rfl (fun H locs hw => ?_)
      refine lv_aload_n hx hb dX5_wish_38 rfl (lv_at hl 0 rfl) ?_
      obtain ⟨q39, eq39, h⟩ := o_bd h
      refine kV (As := []) (rest := [.int q35, .int a1, .ref (sA G 9 0)]) (st' := [.int q39, .int q35, .int a1, .ref (sA G 9 0)]) ⟨hx, hb, hml, hown, hts⟩ (kX5_homeMany l G eq39) (cwV 0 hts gX5_wish_X5_homeMany rfl rfl rfl qqX5_homeMany ⟨Nat.le_of_ble_eq_true rfl, Nat.le_of_ble_eq_true rfl⟩) hw (rvMd hw) rfl hl.1 rfl (Nat.le_of_ble_eq_true rfl) dX5_wish_39 ⟨Nat.zero_le _, Nat.zero_le _⟩ rfl (fun H locs hw => ?_)
      obtain ⟨q42, eq42, h⟩ := o_bd h
      refine kV (As := [.int a1, .int q35, .int q39]) (rest := []) (st' := [.int q42]) ⟨hx, hb, hml, hown, hts⟩ (kX5_wishOf l G eq42) (cwV 3 hts gX5_wish_X5_wishOf rfl rfl rfl qqX5_wishOf ⟨Nat.le_of_ble_eq_true rfl, Nat.le_of_ble_eq_true rfl⟩) hw (rvMd hw) rfl hl.1 rfl (Nat.le_of_ble_eq_true rfl) dX5_wish_42 ⟨Nat.zero_le _, Nat.zero_le _⟩ rfl (fun H locs hw => ?_)
      exact rI hQ hx hb hr hlk hw dX5_wish_45 (o_2a h) rfl (o_2b h)
    · replace h := o_f c20 h
      refine lv_aload_n hx hb dX5_wish_23 rfl (lv_at hl 0 rfl) ?_
      refine lv_ldc (v := -1000000005) hx hb hown (hts (.constant RX5 60 (-1000000005)) (by decide +kernel)) dX5_wish_24 ?_
      obtain ⟨q26, eq26, h⟩ := o_bd h
      refine kV (As := [.int (-1000000005 : Int32)]) (rest := []) (st' := [.int q26.1]) ⟨hx, hb, hml, hown, hts⟩ (kX5_finds l G eq26) (cwV 1 hts gX5_wish_X5_finds rfl rfl rfl qqX5_finds ⟨Nat.le_of_ble_eq_true rfl, Nat.le_of_ble_eq_true rfl⟩) hw (rvMd hw) rfl hl.1 rfl (Nat.le_of_ble_eq_true rfl) dX5_wish_26 ⟨Nat.zero_le _, Nat.zero_le _⟩ rfl (fun H locs hw => ?_)
      refine lv_goto (tgt := 45) hx hb dX5_wish_29 (by decide) ?_
      exact rI hQ hx hb hr hlk hw dX5_wish_45 (o_2a h) rfl (o_2b h)
  · replace h := o_t c5 h
    refine lv_aload_n hx hb dX5_wish_8 rfl (lv_at hl 0 rfl) ?_
    refine lv_ldc (v := -1000000001) hx hb hown (hts (.constant RX5 38 (-1000000001)) (by decide +kernel)) dX5_wish_9 ?_
    obtain ⟨q11, eq11, h⟩ := o_bd h
    refine kV (As := [.int (-1000000001 : Int32)]) (rest := []) (st' := [.int q11.1]) ⟨hx, hb, hml, hown, hts⟩ (kX5_finds l G eq11) (cwV 1 hts gX5_wish_X5_finds rfl rfl rfl qqX5_finds ⟨Nat.le_of_ble_eq_true rfl, Nat.le_of_ble_eq_true rfl⟩) hw (rvMd hw) rfl hl.1 rfl (Nat.le_of_ble_eq_true rfl) dX5_wish_11 ⟨Nat.zero_le _, Nat.zero_le _⟩ rfl (fun H locs hw => ?_)
    exact rI hQ hx hb hr hlk hw dX5_wish_14 (o_2a h) rfl (o_2b h)
-- X5_lines
set_option maxRecDepth 100000 in
set_option maxHeartbeats 4000000 in
theorem kX5_lines (l : Launch) (G : sGl) {S : sWo} {M : sOb}  {q : sOb}  (h : fX5_lines M = some q) : sCt l G yX5_lines wsX5_lines rmX5_lines [.ref (sA G 9 0)] S M none S q := by
  refine cMk (cc := cX5_lines) (maxL := 2) (ret := none) (by decide) rfl (Nat.le_of_ble_eq_true rfl) ?_
  intro p e s m args below meth c Q hQ hx hb hr hlk hml hown hts hw ls hl
  have hown : s.vm.findClass RX5 = some m.cls := hown
  have hl : lv_has ls 2 [(0, .ref (sA G 9 0))] := hl
  have hiX5 : ∀ w ∈ u_ws RX5 TX5 15, w ∈ wsX5_lines := by decide +kernel
  unfold fX5_lines at h
  refine lv_iconst (v := 0) hx hb dX5_lines_0 (by decide) ?_
  refine lv_istore_n (lv' := [(1, .int (0 : Int32)), (0, .ref (sA G 9 0))]) hx hb dX5_lines_1 rfl hl (by decide) rfl (fun ls hl => ?_)
  refine fx2_w (F := bX5_lines_2) (P := fun x1_2 T_2 => ∀ (H : Heap) (locs : List Loc) (ls : Array Slot), sHw G s S T_2 H locs → lv_has ls 2 [(0, .ref (sA G 9 0)), (1, .int x1_2)] → W p l e rmX5_lines s m args below meth c H locs 0 0 Q (F0 m 2 ls [])) ?_ _ _ _ h _ _ _ hw (lv_sub hl [1, 0] rfl)
  intro rc2 IH2 x1_2 T_2 h H locs ls hw hl
  unfold bX5_lines_2 at h
  refine lv_iload_n hx hb dX5_lines_2 rfl (lv_at hl 1 rfl) ?_
  refine lv_aload_n hx hb dX5_lines_3 rfl (lv_at hl 0 rfl) ?_
  refine gMd (v := .ref (sA G 9 1)) hx hb hts hiX5 hown hw 0 (by decide) (hts (.fieldLink RX5 7 "SecondHomeModel" "s" "[I") (by decide +kernel)) rfl dX5_lines_4 ?_
  refine lv_iconst (v := 0) hx hb dX5_lines_7 (by decide) ?_
  refine ldMd hx hb hw 0 (by decide) (n := 77) rfl (by decide) dX5_lines_8 ?_
  refine lv_icmp_ge (tgt := 38) hx hb dX5_lines_9 (by decide) (fun c9 => ?_) (fun c9 => ?_)
  · replace h := o_t c9 h
    refine lv_aload_n hx hb dX5_lines_38 rfl (lv_at hl 0 rfl) ?_
    refine gMd (v := .ref (sA G 9 1)) hx hb hts hiX5 hown hw 0 (by decide) (hts (.fieldLink RX5 7 "SecondHomeModel" "s" "[I") (by decide +kernel)) rfl dX5_lines_39 ?_
    refine lv_iconst (v := 4) hx hb dX5_lines_42 (by decide) ?_
    refine lv_iconst (v := 0) hx hb dX5_lines_43 (by decide) ?_
    refine stMd hx hb hw 0 (by decide) (n := 77) rfl (by decide) dX5_lines_44 rfl (fun H locs hw => ?_)
    obtain ⟨M44, eM44, h⟩ := o_nm h
    rw [← eM44] at hw
    exact rV hQ hx hb hr hlk hw dX5_lines_45 rfl (o_1 h)
  · replace h := o_f c9 h
    refine lv_aload_n hx hb dX5_lines_12 rfl (lv_at hl 0 rfl) ?_
    refine lv_iload_n hx hb dX5_lines_13 rfl (lv_at hl 1 rfl) ?_
    refine lv_iconst (v := 5) hx hb dX5_lines_14 (by decide) ?_
    refine lv_aload_n hx hb dX5_lines_15 rfl (lv_at hl 0 rfl) ?_
    refine lv_iload_n hx hb dX5_lines_16 rfl (lv_at hl 1 rfl) ?_
    refine lv_iconst (v := 4) hx hb dX5_lines_17 (by decide) ?_
    obtain ⟨q18, eq18, h⟩ := o_bd h
    refine kV (As := [.int x1_2, .int (4 : Int32)]) (rest := [.int (5 : Int32), .int x1_2, .ref (sA G 9 0)]) (st' := [.int q18, .int (5 : Int32), .int x1_2, .ref (sA G 9 0)]) ⟨hx, hb, hml, hown, hts⟩ (kX5_is l G eq18) (cwV 2 hts gX5_lines_X5_is rfl rfl rfl qqX5_is ⟨Nat.le_of_ble_eq_true rfl, Nat.le_of_ble_eq_true rfl⟩) hw (rvMd hw) rfl hl.1 rfl (Nat.le_of_ble_eq_true rfl) dX5_lines_18 ⟨Nat.zero_le _, Nat.zero_le _⟩ rfl (fun H locs hw => ?_)
    obtain ⟨q21, eq21, h⟩ := o_bd h
    refine kV (As := [.int x1_2, .int (5 : Int32), .int q18]) (rest := []) (st' := []) ⟨hx, hb, hml, hown, hts⟩ (kX5_puts l G eq21) (cwV 3 hts gX5_lines_X5_puts rfl rfl rfl qqX5_puts ⟨Nat.le_of_ble_eq_true rfl, Nat.le_of_ble_eq_true rfl⟩) hw (rvMd hw) rfl hl.1 rfl (Nat.le_of_ble_eq_true rfl) dX5_lines_21 ⟨Nat.zero_le _, Nat.zero_le _⟩ rfl (fun H locs hw => ?_)
    refine lv_aload_n hx hb dX5_lines_24 rfl (lv_at hl 0 rfl) ?_
    refine lv_iload_n hx hb dX5_lines_25 rfl (lv_at hl 1 rfl) ?_
    refine lv_bipush (v := 7) hx hb dX5_lines_26 (by decide) ?_
    refine lv_iconst (v := -1) hx hb dX5_lines_28 (by decide) ?_
    obtain ⟨q29, eq29, h⟩ := o_bd h
    refine kV (As := [.int x1_2, .int (7 : Int32), .int (-1 : Int32)]) (rest := []) (st' := []) ⟨hx, hb, hml, hown, hts⟩ (kX5_puts l G eq29) (cwV 3 hts gX5_lines_X5_puts rfl rfl rfl qqX5_puts ⟨Nat.le_of_ble_eq_true rfl, Nat.le_of_ble_eq_true rfl⟩) hw (rvMd hw) rfl hl.1 rfl (Nat.le_of_ble_eq_true rfl) dX5_lines_29 ⟨Nat.zero_le _, Nat.zero_le _⟩ rfl (fun H locs hw => ?_)
    obtain ⟨v32, ev32, h⟩ := o_nm h
    refine lv_iinc (v := v32) (lv' := [(1, .int v32), (0, .ref (sA G 9 0))]) hx hb dX5_lines_32 hl (k := 1) rfl (by rw [ev32]; rfl) (by decide) rfl (fun ls hl => ?_)
    refine lv_goto (tgt := 2) hx hb dX5_lines_35 (by decide) ?_
    exact IH2 v32 q29 h _ _ _ hw (lv_sub hl [1, 0] rfl)
-- X5_line
set_option maxRecDepth 100000 in
set_option maxHeartbeats 4000000 in
theorem kX5_line (l : Launch) (G : sGl) {S : sWo} {M : sOb}  {q : (Int32 × sOb)}  (h : fX5_line M = some q) : sCt l G yX5_line wsX5_line rmX5_line [.ref (sA G 9 0)] S M (some (.int q.1)) S q.2 := by
  refine cMk (cc := cX5_line) (maxL := 2) (ret := (some .int)) (by decide) rfl (Nat.le_of_ble_eq_true rfl) ?_
  intro p e s m args below meth c Q hQ hx hb hr hlk hml hown hts hw ls hl
  have hown : s.vm.findClass RX5 = some m.cls := hown
  have hl : lv_has ls 2 [(0, .ref (sA G 9 0))] := hl
  unfold fX5_line at h
  refine lv_aload_n hx hb dX5_line_0 rfl (lv_at hl 0 rfl) ?_
  obtain ⟨q1, eq1, h⟩ := o_bd h
  refine kV (As := []) (rest := []) (st' := [.int q1]) ⟨hx, hb, hml, hown, hts⟩ (kX5_homeMany l G eq1) (cwV 0 hts gX5_line_X5_homeMany rfl rfl rfl qqX5_homeMany ⟨Nat.le_of_ble_eq_true rfl, Nat.le_of_ble_eq_true rfl⟩) hw (rvMd hw) rfl hl.1 rfl (Nat.le_of_ble_eq_true rfl) dX5_line_1 ⟨Nat.zero_le _, Nat.zero_le _⟩ rfl (fun H locs hw => ?_)
  refine lv_istore_n (lv' := [(1, .int q1), (0, .ref (sA G 9 0))]) hx hb dX5_line_4 rfl hl (by decide) rfl (fun ls hl => ?_)
  refine lv_aload_n hx hb dX5_line_5 rfl (lv_at hl 1 rfl) ?_
  obtain ⟨q6, eq6, h⟩ := o_bd h
  refine kV (As := []) (rest := []) (st' := []) ⟨hx, hb, hml, hown, hts⟩ (kX5_lines l G eq6) (cwV 0 hts gX5_line_X5_lines rfl rfl rfl qqX5_lines ⟨Nat.le_of_ble_eq_true rfl, Nat.le_of_ble_eq_true rfl⟩) hw (rvMd hw) rfl hl.1 rfl (Nat.le_of_ble_eq_true rfl) dX5_line_6 ⟨Nat.zero_le _, Nat.zero_le _⟩ rfl (fun H locs hw => ?_)
  refine lv_iload_n hx hb dX5_line_9 rfl (lv_at hl 0 rfl) ?_
  exact rI hQ hx hb hr hlk hw dX5_line_10 (o_2a h) rfl (o_2b h)
-- X5_goesOn
set_option maxRecDepth 100000 in
set_option maxHeartbeats 4000000 in
theorem kX5_goesOn (l : Launch) (G : sGl) {S : sWo} {M : sOb}  {q : (Int32 × sOb)}  (h : fX5_goesOn M = some q) : sCt l G yX5_goesOn wsX5_goesOn rmX5_goesOn [.ref (sA G 9 0)] S M (some (.int q.1)) S q.2 := by
  refine cMk (cc := cX5_goesOn) (maxL := 7) (ret := (some .int)) (by decide) rfl (Nat.le_of_ble_eq_true rfl) ?_
  intro p e s m args below meth c Q hQ hx hb hr hlk hml hown hts hw ls hl
  have hown : s.vm.findClass RX5 = some m.cls := hown
  have hl : lv_has ls 7 [(0, .ref (sA G 9 0))] := hl
  have hiX5 : ∀ w ∈ u_ws RX5 TX5 15, w ∈ wsX5_goesOn := by decide +kernel
  unfold fX5_goesOn at h
  refine lv_aload_n hx hb dX5_goesOn_0 rfl (lv_at hl 0 rfl) ?_
  obtain ⟨q1, eq1, h⟩ := o_bd h
  refine kV (As := []) (rest := []) (st' := [.int q1]) ⟨hx, hb, hml, hown, hts⟩ (kX5_homeMany l G eq1) (cwV 0 hts gX5_goesOn_X5_homeMany rfl rfl rfl qqX5_homeMany ⟨Nat.le_of_ble_eq_true rfl, Nat.le_of_ble_eq_true rfl⟩) hw (rvMd hw) rfl hl.1 rfl (Nat.le_of_ble_eq_true rfl) dX5_goesOn_1 ⟨Nat.zero_le _, Nat.zero_le _⟩ rfl (fun H locs hw => ?_)
  refine lv_istore_n (lv' := [(1, .int q1), (0, .ref (sA G 9 0))]) hx hb dX5_goesOn_4 rfl hl (by decide) rfl (fun ls hl => ?_)
  refine lv_iload_n hx hb dX5_goesOn_5 rfl (lv_at hl 0 rfl) ?_
  refine lv_aload_n hx hb dX5_goesOn_6 rfl (lv_at hl 1 rfl) ?_
  refine gMd (v := .ref (sA G 9 1)) hx hb hts hiX5 hown hw 0 (by decide) (hts (.fieldLink RX5 7 "SecondHomeModel" "s" "[I") (by decide +kernel)) rfl dX5_goesOn_7 ?_
  refine lv_iconst (v := 0) hx hb dX5_goesOn_10 (by decide) ?_
  refine ldMd hx hb hw 0 (by decide) (n := 77) rfl (by decide) dX5_goesOn_11 ?_
  refine lv_icmp_ne (tgt := 17) hx hb dX5_goesOn_12 (by decide) (fun c12 => ?_) (fun c12 => ?_)
  · replace h := o_f c12 h
    refine lv_aload_n hx hb dX5_goesOn_17 rfl (lv_at hl 1 rfl) ?_
    obtain ⟨q18, eq18, h⟩ := o_bd h
    refine kV (As := []) (rest := []) (st' := [.int q18]) ⟨hx, hb, hml, hown, hts⟩ (kX5_firstAlone l G eq18) (cwV 0 hts gX5_goesOn_X5_firstAlone rfl rfl rfl qqX5_firstAlone ⟨Nat.le_of_ble_eq_true rfl, Nat.le_of_ble_eq_true rfl⟩) hw (rvMd hw) rfl hl.1 rfl (Nat.le_of_ble_eq_true rfl) dX5_goesOn_18 ⟨Nat.zero_le _, Nat.zero_le _⟩ rfl (fun H locs hw => ?_)
    refine lv_istore_n (lv' := [(2, .int q18), (1, .int q1), (0, .ref (sA G 9 0))]) hx hb dX5_goesOn_21 rfl hl (by decide) rfl (fun ls hl => ?_)
    refine lv_iconst (v := 0) hx hb dX5_goesOn_22 (by decide) ?_
    refine lv_istore_n (lv' := [(3, .int (0 : Int32)), (2, .int q18), (1, .int q1), (0, .ref (sA G 9 0))]) hx hb dX5_goesOn_23 rfl hl (by decide) rfl (fun ls hl => ?_)
    obtain ⟨k101, ek101, h⟩ := o_nm h
    have J101 : ∀ (T_101 : sOb) (H : Heap) (locs : List Loc) (ls : Array Slot), sHw G s S T_101 H locs → lv_has ls 7 [(0, .ref (sA G 9 0))] → k101 T_101 = some q → W p l e rmX5_goesOn s m args below meth c H locs 0 0 Q (F0 m 101 ls []) := by
      intro T_101 H locs ls hw hl h
      replace h := o_j1 ek101 h
      refine lv_aload_n hx hb dX5_goesOn_101 rfl (lv_at hl 0 rfl) ?_
      refine gMd (v := .ref (sA G 9 1)) hx hb hts hiX5 hown hw 0 (by decide) (hts (.fieldLink RX5 7 "SecondHomeModel" "s" "[I") (by decide +kernel)) rfl dX5_goesOn_102 ?_
      refine lv_iconst (v := 4) hx hb dX5_goesOn_105 (by decide) ?_
      refine lv_dup2_11 hx hb dX5_goesOn_106 rfl rfl ?_
      refine ldMd hx hb hw 0 (by decide) (n := 77) rfl (by decide) dX5_goesOn_107 ?_
      refine lv_iconst (v := 1) hx hb dX5_goesOn_108 (by decide) ?_
      refine lv_iadd hx hb dX5_goesOn_109 ?_
      refine stMd hx hb hw 0 (by decide) (n := 77) rfl (by decide) dX5_goesOn_110 rfl (fun H locs hw => ?_)
      obtain ⟨M110, eM110, h⟩ := o_nm h
      rw [← eM110] at hw
      refine lv_iconst (v := 0) hx hb dX5_goesOn_111 (by decide) ?_
      refine lv_istore_n (lv' := [(3, .int (0 : Int32)), (0, .ref (sA G 9 0))]) hx hb dX5_goesOn_112 rfl hl (by decide) rfl (fun ls hl => ?_)
      refine lv_iconst (v := 0) hx hb dX5_goesOn_113 (by decide) ?_
      refine lv_istore (lv' := [(4, .int (0 : Int32)), (3, .int (0 : Int32)), (0, .ref (sA G 9 0))]) hx hb dX5_goesOn_114 hl (by decide) rfl (fun ls hl => ?_)
      refine fx3_w (F := bX5_goesOn_116) (P := fun x3_116 x4_116 T_116 => ∀ (H : Heap) (locs : List Loc) (ls : Array Slot), sHw G s S T_116 H locs → lv_has ls 7 [(0, .ref (sA G 9 0)), (3, .int x3_116), (4, .int x4_116)] → W p l e rmX5_goesOn s m args below meth c H locs 0 0 Q (F0 m 116 ls [])) ?_ _ _ _ _ h _ _ _ hw (lv_sub hl [2, 1, 0] rfl)
      intro rc116 IH116 x3_116 x4_116 T_116 h H locs ls hw hl
      unfold bX5_goesOn_116 at h
      refine lv_iload hx hb dX5_goesOn_116 (lv_at hl 2 rfl) ?_
      refine lv_aload_n hx hb dX5_goesOn_118 rfl (lv_at hl 0 rfl) ?_
      refine gMd (v := .ref (sA G 9 1)) hx hb hts hiX5 hown hw 0 (by decide) (hts (.fieldLink RX5 7 "SecondHomeModel" "s" "[I") (by decide +kernel)) rfl dX5_goesOn_119 ?_
      refine lv_iconst (v := 0) hx hb dX5_goesOn_122 (by decide) ?_
      refine ldMd hx hb hw 0 (by decide) (n := 77) rfl (by decide) dX5_goesOn_123 ?_
      refine lv_icmp_ge (tgt := 320) hx hb dX5_goesOn_124 (by decide) (fun c124 => ?_) (fun c124 => ?_)
      · replace h := o_t c124 h
        refine lv_iload_n hx hb dX5_goesOn_320 rfl (lv_at hl 1 rfl) ?_
        exact rI hQ hx hb hr hlk hw dX5_goesOn_321 (o_2a h) rfl (o_2b h)
      · replace h := o_f c124 h
        refine lv_aload_n hx hb dX5_goesOn_127 rfl (lv_at hl 0 rfl) ?_
        refine lv_iload hx hb dX5_goesOn_128 (lv_at hl 2 rfl) ?_
        obtain ⟨q130, eq130, h⟩ := o_bd h
        refine kV (As := [.int x4_116]) (rest := []) (st' := [.int q130]) ⟨hx, hb, hml, hown, hts⟩ (kX5_isHome l G eq130) (cwV 1 hts gX5_goesOn_X5_isHome rfl rfl rfl qqX5_isHome ⟨Nat.le_of_ble_eq_true rfl, Nat.le_of_ble_eq_true rfl⟩) hw (rvMd hw) rfl hl.1 rfl (Nat.le_of_ble_eq_true rfl) dX5_goesOn_130 ⟨Nat.zero_le _, Nat.zero_le _⟩ rfl (fun H locs hw => ?_)
        refine lv_if_eq (tgt := 139) hx hb dX5_goesOn_133 (by decide) (fun c133 => ?_) (fun c133 => ?_)
        · replace h := o_t c133 h
          refine lv_aload_n hx hb dX5_goesOn_139 rfl (lv_at hl 0 rfl) ?_
          refine gMd (v := .ref (sA G 9 8)) hx hb hts hiX5 hown hw 10 (by decide) (hts (.fieldLink RX5 35 "SecondHomeModel" "runs" "[I") (by decide +kernel)) rfl dX5_goesOn_140 ?_
          refine lv_iload hx hb dX5_goesOn_143 (lv_at hl 2 rfl) ?_
          obtain ⟨b145, h⟩ := o_in h
          refine ldMd hx hb hw 7 (by decide) (n := 9) rfl b145 dX5_goesOn_145 ?_
          refine lv_iconst (v := 4) hx hb dX5_goesOn_146 (by decide) ?_
          obtain ⟨k163, ek163, h⟩ := o_nm h
          have J163 : ∀ (y0_163 : Int32) (H : Heap) (locs : List Loc) (ls : Array Slot), sHw G s S T_116 H locs → lv_has ls 7 [(0, .ref (sA G 9 0)), (3, .int x3_116), (4, .int x4_116)] → k163 y0_163 = some q → W p l e rmX5_goesOn s m args below meth c H locs 0 0 Q (F0 m 163 ls [.int y0_163]) := by
            intro y0_163 H locs ls hw hl h
            replace h := o_j1 ek163 h
            refine lv_istore (lv' := [(5, .int y0_163), (0, .ref (sA G 9 0)), (3, .int x3_116), (4, .int x4_116)]) hx hb dX5_goesOn_163 hl (by decide) rfl (fun ls hl => ?_)
            refine lv_aload_n hx hb dX5_goesOn_165 rfl (lv_at hl 1 rfl) ?_
            refine lv_iload hx hb dX5_goesOn_166 (lv_at hl 3 rfl) ?_
            refine lv_iconst (v := 2) hx hb dX5_goesOn_168 (by decide) ?_
            obtain ⟨q169, eq169, h⟩ := o_bd h
            refine kV (As := [.int x4_116, .int (2 : Int32)]) (rest := []) (st' := [.int q169]) ⟨hx, hb, hml, hown, hts⟩ (kX5_is l G eq169) (cwV 2 hts gX5_goesOn_X5_is rfl rfl rfl qqX5_is ⟨Nat.le_of_ble_eq_true rfl, Nat.le_of_ble_eq_true rfl⟩) hw (rvMd hw) rfl hl.1 rfl (Nat.le_of_ble_eq_true rfl) dX5_goesOn_169 ⟨Nat.zero_le _, Nat.zero_le _⟩ rfl (fun H locs hw => ?_)
            refine lv_iload hx hb dX5_goesOn_172 (lv_at hl 0 rfl) ?_
            obtain ⟨k259, ek259, h⟩ := o_nm h
            have J259 : ∀ (T_259 : sOb) (H : Heap) (locs : List Loc) (ls : Array Slot), sHw G s S T_259 H locs → lv_has ls 7 [(0, .ref (sA G 9 0)), (3, .int x3_116), (4, .int x4_116)] → k259 T_259 = some q → W p l e rmX5_goesOn s m args below meth c H locs 0 0 Q (F0 m 259 ls []) := by
              intro T_259 H locs ls hw hl h
              replace h := o_j1 ek259 h
              refine lv_aload_n hx hb dX5_goesOn_259 rfl (lv_at hl 0 rfl) ?_
              refine lv_iload hx hb dX5_goesOn_260 (lv_at hl 2 rfl) ?_
              refine lv_iconst (v := 5) hx hb dX5_goesOn_262 (by decide) ?_
              refine lv_aload_n hx hb dX5_goesOn_263 rfl (lv_at hl 0 rfl) ?_
              refine lv_iload hx hb dX5_goesOn_264 (lv_at hl 2 rfl) ?_
              refine lv_iconst (v := 5) hx hb dX5_goesOn_266 (by decide) ?_
              obtain ⟨q267, eq267, h⟩ := o_bd h
              refine kV (As := [.int x4_116, .int (5 : Int32)]) (rest := [.int (5 : Int32), .int x4_116, .ref (sA G 9 0)]) (st' := [.int q267, .int (5 : Int32), .int x4_116, .ref (sA G 9 0)]) ⟨hx, hb, hml, hown, hts⟩ (kX5_is l G eq267) (cwV 2 hts gX5_goesOn_X5_is rfl rfl rfl qqX5_is ⟨Nat.le_of_ble_eq_true rfl, Nat.le_of_ble_eq_true rfl⟩) hw (rvMd hw) rfl hl.1 rfl (Nat.le_of_ble_eq_true rfl) dX5_goesOn_267 ⟨Nat.zero_le _, Nat.zero_le _⟩ rfl (fun H locs hw => ?_)
              refine lv_aload_n hx hb dX5_goesOn_270 rfl (lv_at hl 0 rfl) ?_
              refine gMd (v := .ref (sA G 9 8)) hx hb hts hiX5 hown hw 10 (by decide) (hts (.fieldLink RX5 35 "SecondHomeModel" "runs" "[I") (by decide +kernel)) rfl dX5_goesOn_271 ?_
              refine lv_iload hx hb dX5_goesOn_274 (lv_at hl 2 rfl) ?_
              refine ldMd hx hb hw 7 (by decide) (n := 9) rfl b145 dX5_goesOn_276 ?_
              refine lv_iadd hx hb dX5_goesOn_277 ?_
              obtain ⟨q278, eq278, h⟩ := o_bd h
              refine kV (As := [.int x4_116, .int (5 : Int32), .int (q267 + (T_259.2.1 7 x4_116.toNatClampNeg))]) (rest := []) (st' := []) ⟨hx, hb, hml, hown, hts⟩ (kX5_puts l G eq278) (cwV 3 hts gX5_goesOn_X5_puts rfl rfl rfl qqX5_puts ⟨Nat.le_of_ble_eq_true rfl, Nat.le_of_ble_eq_true rfl⟩) hw (rvMd hw) rfl hl.1 rfl (Nat.le_of_ble_eq_true rfl) dX5_goesOn_278 ⟨Nat.zero_le _, Nat.zero_le _⟩ rfl (fun H locs hw => ?_)
              refine lv_aload_n hx hb dX5_goesOn_281 rfl (lv_at hl 0 rfl) ?_
              refine lv_iload hx hb dX5_goesOn_282 (lv_at hl 2 rfl) ?_
              refine lv_iconst (v := 5) hx hb dX5_goesOn_284 (by decide) ?_
              obtain ⟨q285, eq285, h⟩ := o_bd h
              refine kV (As := [.int x4_116, .int (5 : Int32)]) (rest := []) (st' := [.int q285]) ⟨hx, hb, hml, hown, hts⟩ (kX5_is l G eq285) (cwV 2 hts gX5_goesOn_X5_is rfl rfl rfl qqX5_is ⟨Nat.le_of_ble_eq_true rfl, Nat.le_of_ble_eq_true rfl⟩) hw (rvMd hw) rfl hl.1 rfl (Nat.le_of_ble_eq_true rfl) dX5_goesOn_285 ⟨Nat.zero_le _, Nat.zero_le _⟩ rfl (fun H locs hw => ?_)
              refine lv_aload_n hx hb dX5_goesOn_288 rfl (lv_at hl 0 rfl) ?_
              refine gMd (v := .ref (sA G 9 1)) hx hb hts hiX5 hown hw 0 (by decide) (hts (.fieldLink RX5 7 "SecondHomeModel" "s" "[I") (by decide +kernel)) rfl dX5_goesOn_289 ?_
              refine lv_iconst (v := 1) hx hb dX5_goesOn_292 (by decide) ?_
              refine ldMd hx hb hw 0 (by decide) (n := 77) rfl (by decide) dX5_goesOn_293 ?_
              refine lv_icmp_lt (tgt := 314) hx hb dX5_goesOn_294 (by decide) (fun c294 => ?_) (fun c294 => ?_)
              · replace h := o_t c294 h
                obtain ⟨v314, ev314, h⟩ := o_nm h
                refine lv_iinc (v := v314) (lv' := [(4, .int v314), (0, .ref (sA G 9 0)), (3, .int x3_116)]) hx hb dX5_goesOn_314 hl (k := 2) rfl (by rw [ev314]; rfl) (by decide) rfl (fun ls hl => ?_)
                refine lv_goto (tgt := 116) hx hb dX5_goesOn_317 (by decide) ?_
                exact IH116 x3_116 v314 q278 h _ _ _ hw (lv_sub hl [1, 2, 0] rfl)
              · replace h := o_f c294 h
                refine lv_aload_n hx hb dX5_goesOn_297 rfl (lv_at hl 0 rfl) ?_
                refine lv_iload hx hb dX5_goesOn_298 (lv_at hl 2 rfl) ?_
                refine lv_bipush (v := 7) hx hb dX5_goesOn_300 (by decide) ?_
                refine lv_aload_n hx hb dX5_goesOn_302 rfl (lv_at hl 0 rfl) ?_
                refine gMd (v := .ref (sA G 9 1)) hx hb hts hiX5 hown hw 0 (by decide) (hts (.fieldLink RX5 7 "SecondHomeModel" "s" "[I") (by decide +kernel)) rfl dX5_goesOn_303 ?_
                refine lv_iconst (v := 4) hx hb dX5_goesOn_306 (by decide) ?_
                refine ldMd hx hb hw 0 (by decide) (n := 77) rfl (by decide) dX5_goesOn_307 ?_
                obtain ⟨q308, eq308, h⟩ := o_bd h
                refine kV (As := [.int x4_116, .int (7 : Int32), .int (q278.2.1 0 (4 : Int32).toNatClampNeg)]) (rest := []) (st' := []) ⟨hx, hb, hml, hown, hts⟩ (kX5_puts l G eq308) (cwV 3 hts gX5_goesOn_X5_puts rfl rfl rfl qqX5_puts ⟨Nat.le_of_ble_eq_true rfl, Nat.le_of_ble_eq_true rfl⟩) hw (rvMd hw) rfl hl.1 rfl (Nat.le_of_ble_eq_true rfl) dX5_goesOn_308 ⟨Nat.zero_le _, Nat.zero_le _⟩ rfl (fun H locs hw => ?_)
                obtain ⟨v311, ev311, h⟩ := o_nm h
                refine lv_iinc (v := v311) (lv' := [(3, .int v311), (0, .ref (sA G 9 0)), (4, .int x4_116)]) hx hb dX5_goesOn_311 hl (k := 1) rfl (by rw [ev311]; rfl) (by decide) rfl (fun ls hl => ?_)
                obtain ⟨v314, ev314, h⟩ := o_nm h
                refine lv_iinc (v := v314) (lv' := [(4, .int v314), (3, .int v311), (0, .ref (sA G 9 0))]) hx hb dX5_goesOn_314 hl (k := 2) rfl (by rw [ev314]; rfl) (by decide) rfl (fun ls hl => ?_)
                refine lv_goto (tgt := 116) hx hb dX5_goesOn_317 (by decide) ?_
                exact IH116 v311 v314 q308 h _ _ _ hw (lv_sub hl [2, 1, 0] rfl)
            refine lv_icmp_ge (tgt := 207) hx hb dX5_goesOn_174 (by decide) (fun c174 => ?_) (fun c174 => ?_)
            · replace h := o_t c174 h
              refine lv_aload_n hx hb dX5_goesOn_207 rfl (lv_at hl 1 rfl) ?_
              refine lv_iload hx hb dX5_goesOn_208 (lv_at hl 3 rfl) ?_
              refine lv_iconst (v := 2) hx hb dX5_goesOn_210 (by decide) ?_
              obtain ⟨q211, eq211, h⟩ := o_bd h
              refine kV (As := [.int x4_116, .int (2 : Int32)]) (rest := []) (st' := [.int q211]) ⟨hx, hb, hml, hown, hts⟩ (kX5_is l G eq211) (cwV 2 hts gX5_goesOn_X5_is rfl rfl rfl qqX5_is ⟨Nat.le_of_ble_eq_true rfl, Nat.le_of_ble_eq_true rfl⟩) hw (rvMd hw) rfl hl.1 rfl (Nat.le_of_ble_eq_true rfl) dX5_goesOn_211 ⟨Nat.zero_le _, Nat.zero_le _⟩ rfl (fun H locs hw => ?_)
              refine lv_iload hx hb dX5_goesOn_214 (lv_at hl 0 rfl) ?_
              refine lv_isub hx hb dX5_goesOn_216 ?_
              refine lv_aload_n hx hb dX5_goesOn_217 rfl (lv_at hl 1 rfl) ?_
              refine gMd (v := .ref (sA G 9 8)) hx hb hts hiX5 hown hw 10 (by decide) (hts (.fieldLink RX5 35 "SecondHomeModel" "runs" "[I") (by decide +kernel)) rfl dX5_goesOn_218 ?_
              refine lv_iload hx hb dX5_goesOn_221 (lv_at hl 3 rfl) ?_
              refine ldMd hx hb hw 7 (by decide) (n := 9) rfl b145 dX5_goesOn_223 ?_
              refine lv_iconst (v := 4) hx hb dX5_goesOn_224 (by decide) ?_
              obtain ⟨k233, ek233, h⟩ := o_nm h
              have J233 : ∀ (y0_233 : Int32) (H : Heap) (locs : List Loc) (ls : Array Slot), sHw G s S T_116 H locs → lv_has ls 7 [(0, .ref (sA G 9 0)), (3, .int x3_116), (4, .int x4_116)] → k233 y0_233 = some q → W p l e rmX5_goesOn s m args below meth c H locs 0 0 Q (F0 m 233 ls [.int y0_233, .int (q211 - y0_163)]) := by
                intro y0_233 H locs ls hw hl h
                replace h := o_j1 ek233 h
                refine lv_iadd hx hb dX5_goesOn_233 ?_
                refine lv_topi (fun v234 ev234 => ?_)
                replace h := o_nx ev234 h
                refine lv_istore (lv' := [(6, .int v234), (0, .ref (sA G 9 0)), (3, .int x3_116), (4, .int x4_116)]) hx hb dX5_goesOn_234 hl (by decide) rfl (fun ls hl => ?_)
                refine lv_aload_n hx hb dX5_goesOn_236 rfl (lv_at hl 1 rfl) ?_
                refine lv_iload hx hb dX5_goesOn_237 (lv_at hl 3 rfl) ?_
                refine lv_iconst (v := 2) hx hb dX5_goesOn_239 (by decide) ?_
                refine lv_iload hx hb dX5_goesOn_240 (lv_at hl 0 rfl) ?_
                refine lv_sipush (v := 999) hx hb dX5_goesOn_242 (by decide) ?_
                obtain ⟨k256, ek256, h⟩ := o_nm h
                have J256 : ∀ (y0_256 : Int32) (H : Heap) (locs : List Loc) (ls : Array Slot), sHw G s S T_116 H locs → lv_has ls 7 [(0, .ref (sA G 9 0)), (3, .int x3_116), (4, .int x4_116)] → k256 y0_256 = some q → W p l e rmX5_goesOn s m args below meth c H locs 0 0 Q (F0 m 256 ls [.int y0_256, .int (2 : Int32), .int x4_116, .ref (sA G 9 0)]) := by
                  intro y0_256 H locs ls hw hl h
                  replace h := o_j1 ek256 h
                  obtain ⟨q256, eq256, h⟩ := o_bd h
                  refine kV (As := [.int x4_116, .int (2 : Int32), .int y0_256]) (rest := []) (st' := []) ⟨hx, hb, hml, hown, hts⟩ (kX5_puts l G eq256) (cwV 3 hts gX5_goesOn_X5_puts rfl rfl rfl qqX5_puts ⟨Nat.le_of_ble_eq_true rfl, Nat.le_of_ble_eq_true rfl⟩) hw (rvMd hw) rfl hl.1 rfl (Nat.le_of_ble_eq_true rfl) dX5_goesOn_256 ⟨Nat.zero_le _, Nat.zero_le _⟩ rfl (fun H locs hw => ?_)
                  exact J259 q256 _ _ _ hw (lv_sub hl [0, 1, 2] rfl) h
                refine lv_icmp_le (tgt := 254) hx hb dX5_goesOn_245 (by decide) (fun c245 => ?_) (fun c245 => ?_)
                · replace h := o_t c245 h
                  refine lv_iload hx hb dX5_goesOn_254 (lv_at hl 0 rfl) ?_
                  exact J256 v234 _ _ _ hw (lv_sub hl [1, 2, 3] rfl) h
                · replace h := o_f c245 h
                  refine lv_sipush (v := 999) hx hb dX5_goesOn_248 (by decide) ?_
                  refine lv_goto (tgt := 256) hx hb dX5_goesOn_251 (by decide) ?_
                  exact J256 (999 : Int32) _ _ _ hw (lv_sub hl [1, 2, 3] rfl) h
              refine lv_icmp_ge (tgt := 232) hx hb dX5_goesOn_225 (by decide) (fun c225 => ?_) (fun c225 => ?_)
              · replace h := o_t c225 h
                refine lv_iconst (v := 0) hx hb dX5_goesOn_232 (by decide) ?_
                exact J233 (0 : Int32) _ _ _ hw (lv_sub hl [1, 2, 3] rfl) h
              · replace h := o_f c225 h
                refine lv_iconst (v := 1) hx hb dX5_goesOn_228 (by decide) ?_
                refine lv_goto (tgt := 233) hx hb dX5_goesOn_229 (by decide) ?_
                exact J233 (1 : Int32) _ _ _ hw (lv_sub hl [1, 2, 3] rfl) h
            · replace h := o_f c174 h
              refine lv_aload_n hx hb dX5_goesOn_177 rfl (lv_at hl 1 rfl) ?_
              refine gMd (v := .ref (sA G 9 8)) hx hb hts hiX5 hown hw 10 (by decide) (hts (.fieldLink RX5 35 "SecondHomeModel" "runs" "[I") (by decide +kernel)) rfl dX5_goesOn_178 ?_
              refine lv_iload hx hb dX5_goesOn_181 (lv_at hl 3 rfl) ?_
              refine lv_aload_n hx hb dX5_goesOn_183 rfl (lv_at hl 1 rfl) ?_
              refine gMd (v := .ref (sA G 9 1)) hx hb hts hiX5 hown hw 0 (by decide) (hts (.fieldLink RX5 7 "SecondHomeModel" "s" "[I") (by decide +kernel)) rfl dX5_goesOn_184 ?_
              refine lv_iconst (v := 2) hx hb dX5_goesOn_187 (by decide) ?_
              refine ldMd hx hb hw 0 (by decide) (n := 77) rfl (by decide) dX5_goesOn_188 ?_
              refine lv_iconst (v := 4) hx hb dX5_goesOn_189 (by decide) ?_
              obtain ⟨k203, ek203, h⟩ := o_nm h
              have J203 : ∀ (y0_203 : Int32) (H : Heap) (locs : List Loc) (ls : Array Slot), sHw G s S T_116 H locs → lv_has ls 7 [(0, .ref (sA G 9 0)), (3, .int x3_116), (4, .int x4_116)] → k203 y0_203 = some q → W p l e rmX5_goesOn s m args below meth c H locs 0 0 Q (F0 m 203 ls [.int y0_203, .int x4_116, .ref (sA G 9 8)]) := by
                intro y0_203 H locs ls hw hl h
                replace h := o_j1 ek203 h
                refine stMd hx hb hw 7 (by decide) (n := 9) rfl b145 dX5_goesOn_203 rfl (fun H locs hw => ?_)
                obtain ⟨M203, eM203, h⟩ := o_nm h
                rw [← eM203] at hw
                refine lv_goto (tgt := 259) hx hb dX5_goesOn_204 (by decide) ?_
                exact J259 M203 _ _ _ hw (lv_sub hl [0, 1, 2] rfl) h
              refine lv_icmp_le (tgt := 202) hx hb dX5_goesOn_190 (by decide) (fun c190 => ?_) (fun c190 => ?_)
              · replace h := o_t c190 h
                refine lv_iconst (v := 4) hx hb dX5_goesOn_202 (by decide) ?_
                exact J203 (4 : Int32) _ _ _ hw (lv_sub hl [1, 2, 3] rfl) h
              · replace h := o_f c190 h
                refine lv_aload_n hx hb dX5_goesOn_193 rfl (lv_at hl 1 rfl) ?_
                refine gMd (v := .ref (sA G 9 1)) hx hb hts hiX5 hown hw 0 (by decide) (hts (.fieldLink RX5 7 "SecondHomeModel" "s" "[I") (by decide +kernel)) rfl dX5_goesOn_194 ?_
                refine lv_iconst (v := 2) hx hb dX5_goesOn_197 (by decide) ?_
                refine ldMd hx hb hw 0 (by decide) (n := 77) rfl (by decide) dX5_goesOn_198 ?_
                refine lv_goto (tgt := 203) hx hb dX5_goesOn_199 (by decide) ?_
                exact J203 (T_116.2.1 0 (2 : Int32).toNatClampNeg) _ _ _ hw (lv_sub hl [1, 2, 3] rfl) h
          refine lv_icmp_le (tgt := 162) hx hb dX5_goesOn_147 (by decide) (fun c147 => ?_) (fun c147 => ?_)
          · replace h := o_t c147 h
            refine lv_iconst (v := 0) hx hb dX5_goesOn_162 (by decide) ?_
            exact J163 (0 : Int32) _ _ _ hw (lv_sub hl [0, 1, 2] rfl) h
          · replace h := o_f c147 h
            refine lv_aload_n hx hb dX5_goesOn_150 rfl (lv_at hl 0 rfl) ?_
            refine gMd (v := .ref (sA G 9 8)) hx hb hts hiX5 hown hw 10 (by decide) (hts (.fieldLink RX5 35 "SecondHomeModel" "runs" "[I") (by decide +kernel)) rfl dX5_goesOn_151 ?_
            refine lv_iload hx hb dX5_goesOn_154 (lv_at hl 2 rfl) ?_
            refine ldMd hx hb hw 7 (by decide) (n := 9) rfl b145 dX5_goesOn_156 ?_
            refine lv_iconst (v := 4) hx hb dX5_goesOn_157 (by decide) ?_
            refine lv_isub hx hb dX5_goesOn_158 ?_
            refine lv_goto (tgt := 163) hx hb dX5_goesOn_159 (by decide) ?_
            exact J163 ((T_116.2.1 7 x4_116.toNatClampNeg) - (4 : Int32)) _ _ _ hw (lv_sub hl [0, 1, 2] rfl) h
        · replace h := o_f c133 h
          refine lv_goto (tgt := 314) hx hb dX5_goesOn_136 (by decide) ?_
          obtain ⟨v314, ev314, h⟩ := o_nm h
          refine lv_iinc (v := v314) (lv' := [(4, .int v314), (0, .ref (sA G 9 0)), (3, .int x3_116)]) hx hb dX5_goesOn_314 hl (k := 2) rfl (by rw [ev314]; rfl) (by decide) rfl (fun ls hl => ?_)
          refine lv_goto (tgt := 116) hx hb dX5_goesOn_317 (by decide) ?_
          exact IH116 x3_116 v314 T_116 h _ _ _ hw (lv_sub hl [1, 2, 0] rfl)
    refine fx2_w (F := (bX5_goesOn_24 q1 q18 k101)) (P := fun x3_24 T_24 => ∀ (H : Heap) (locs : List Loc) (ls : Array Slot), sHw G s S T_24 H locs → lv_has ls 7 [(0, .ref (sA G 9 0)), (1, .int q1), (2, .int q18), (3, .int x3_24)] → W p l e rmX5_goesOn s m args below meth c H locs 0 0 Q (F0 m 24 ls [])) ?_ _ _ _ h _ _ _ hw (lv_sub hl [3, 2, 1, 0] rfl)
    intro rc24 IH24 x3_24 T_24 h H locs ls hw hl
    unfold bX5_goesOn_24 at h
    refine lv_iload_n hx hb dX5_goesOn_24 rfl (lv_at hl 3 rfl) ?_
    refine lv_aload_n hx hb dX5_goesOn_25 rfl (lv_at hl 0 rfl) ?_
    refine gMd (v := .ref (sA G 9 1)) hx hb hts hiX5 hown hw 0 (by decide) (hts (.fieldLink RX5 7 "SecondHomeModel" "s" "[I") (by decide +kernel)) rfl dX5_goesOn_26 ?_
    refine lv_iconst (v := 0) hx hb dX5_goesOn_29 (by decide) ?_
    refine ldMd hx hb hw 0 (by decide) (n := 77) rfl (by decide) dX5_goesOn_30 ?_
    refine lv_icmp_ge (tgt := 101) hx hb dX5_goesOn_31 (by decide) (fun c31 => ?_) (fun c31 => ?_)
    · replace h := o_t c31 h
      exact J101 T_24 _ _ _ hw (lv_sub hl [0] rfl) h
    · replace h := o_f c31 h
      refine lv_aload_n hx hb dX5_goesOn_34 rfl (lv_at hl 0 rfl) ?_
      refine lv_iload_n hx hb dX5_goesOn_35 rfl (lv_at hl 3 rfl) ?_
      obtain ⟨q36, eq36, h⟩ := o_bd h
      refine kV (As := [.int x3_24]) (rest := []) (st' := [.int q36]) ⟨hx, hb, hml, hown, hts⟩ (kX5_isHome l G eq36) (cwV 1 hts gX5_goesOn_X5_isHome rfl rfl rfl qqX5_isHome ⟨Nat.le_of_ble_eq_true rfl, Nat.le_of_ble_eq_true rfl⟩) hw (rvMd hw) rfl hl.1 rfl (Nat.le_of_ble_eq_true rfl) dX5_goesOn_36 ⟨Nat.zero_le _, Nat.zero_le _⟩ rfl (fun H locs hw => ?_)
      obtain ⟨k53, ek53, h⟩ := o_nm h
      have J53 : ∀ (y0_53 : Int32) (H : Heap) (locs : List Loc) (ls : Array Slot), sHw G s S T_24 H locs → lv_has ls 7 [(0, .ref (sA G 9 0)), (1, .int q1), (2, .int q18), (3, .int x3_24)] → k53 y0_53 = some q → W p l e rmX5_goesOn s m args below meth c H locs 0 0 Q (F0 m 53 ls [.int y0_53]) := by
        intro y0_53 H locs ls hw hl h
        replace h := o_j1 ek53 h
        refine lv_istore (lv' := [(4, .int y0_53), (0, .ref (sA G 9 0)), (1, .int q1), (2, .int q18), (3, .int x3_24)]) hx hb dX5_goesOn_53 hl (by decide) rfl (fun ls hl => ?_)
        refine lv_aload_n hx hb dX5_goesOn_55 rfl (lv_at hl 1 rfl) ?_
        refine gMd (v := .ref (sA G 9 8)) hx hb hts hiX5 hown hw 10 (by decide) (hts (.fieldLink RX5 35 "SecondHomeModel" "runs" "[I") (by decide +kernel)) rfl dX5_goesOn_56 ?_
        refine lv_iload_n hx hb dX5_goesOn_59 rfl (lv_at hl 4 rfl) ?_
        refine lv_aload_n hx hb dX5_goesOn_60 rfl (lv_at hl 1 rfl) ?_
        refine lv_iload_n hx hb dX5_goesOn_61 rfl (lv_at hl 4 rfl) ?_
        obtain ⟨q62, eq62, h⟩ := o_bd h
        refine kV (As := [.int x3_24]) (rest := [.int x3_24, .ref (sA G 9 8)]) (st' := [.int q62, .int x3_24, .ref (sA G 9 8)]) ⟨hx, hb, hml, hown, hts⟩ (kX5_isHome l G eq62) (cwV 1 hts gX5_goesOn_X5_isHome rfl rfl rfl qqX5_isHome ⟨Nat.le_of_ble_eq_true rfl, Nat.le_of_ble_eq_true rfl⟩) hw (rvMd hw) rfl hl.1 rfl (Nat.le_of_ble_eq_true rfl) dX5_goesOn_62 ⟨Nat.zero_le _, Nat.zero_le _⟩ rfl (fun H locs hw => ?_)
        refine lv_if_eq (tgt := 72) hx hb dX5_goesOn_65 (by decide) (fun c65 => ?_) (fun c65 => ?_)
        · replace h := o_t c65 h
          refine lv_iload hx hb dX5_goesOn_72 (lv_at hl 0 rfl) ?_
          refine lv_aload_n hx hb dX5_goesOn_74 rfl (lv_at hl 1 rfl) ?_
          refine gMd (v := .ref (sA G 9 1)) hx hb hts hiX5 hown hw 0 (by decide) (hts (.fieldLink RX5 7 "SecondHomeModel" "s" "[I") (by decide +kernel)) rfl dX5_goesOn_75 ?_
          refine lv_iconst (v := 2) hx hb dX5_goesOn_78 (by decide) ?_
          refine ldMd hx hb hw 0 (by decide) (n := 77) rfl (by decide) dX5_goesOn_79 ?_
          refine lv_icmp_ge (tgt := 92) hx hb dX5_goesOn_80 (by decide) (fun c80 => ?_) (fun c80 => ?_)
          · replace h := o_t c80 h
            refine lv_iload hx hb dX5_goesOn_92 (lv_at hl 0 rfl) ?_
            obtain ⟨b94, h⟩ := o_in h
            refine stMd hx hb hw 7 (by decide) (n := 9) rfl b94 dX5_goesOn_94 rfl (fun H locs hw => ?_)
            obtain ⟨M94, eM94, h⟩ := o_nm h
            rw [← eM94] at hw
            obtain ⟨v95, ev95, h⟩ := o_nm h
            refine lv_iinc (v := v95) (lv' := [(3, .int v95), (4, .int y0_53), (0, .ref (sA G 9 0)), (1, .int q1), (2, .int q18)]) hx hb dX5_goesOn_95 hl (k := 4) rfl (by rw [ev95]; rfl) (by decide) rfl (fun ls hl => ?_)
            refine lv_goto (tgt := 24) hx hb dX5_goesOn_98 (by decide) ?_
            exact IH24 v95 M94 h _ _ _ hw (lv_sub hl [2, 3, 4, 0] rfl)
          · replace h := o_f c80 h
            refine lv_aload_n hx hb dX5_goesOn_83 rfl (lv_at hl 1 rfl) ?_
            refine gMd (v := .ref (sA G 9 1)) hx hb hts hiX5 hown hw 0 (by decide) (hts (.fieldLink RX5 7 "SecondHomeModel" "s" "[I") (by decide +kernel)) rfl dX5_goesOn_84 ?_
            refine lv_iconst (v := 2) hx hb dX5_goesOn_87 (by decide) ?_
            refine ldMd hx hb hw 0 (by decide) (n := 77) rfl (by decide) dX5_goesOn_88 ?_
            refine lv_goto (tgt := 94) hx hb dX5_goesOn_89 (by decide) ?_
            obtain ⟨b94, h⟩ := o_in h
            refine stMd hx hb hw 7 (by decide) (n := 9) rfl b94 dX5_goesOn_94 rfl (fun H locs hw => ?_)
            obtain ⟨M94, eM94, h⟩ := o_nm h
            rw [← eM94] at hw
            obtain ⟨v95, ev95, h⟩ := o_nm h
            refine lv_iinc (v := v95) (lv' := [(3, .int v95), (4, .int y0_53), (0, .ref (sA G 9 0)), (1, .int q1), (2, .int q18)]) hx hb dX5_goesOn_95 hl (k := 4) rfl (by rw [ev95]; rfl) (by decide) rfl (fun ls hl => ?_)
            refine lv_goto (tgt := 24) hx hb dX5_goesOn_98 (by decide) ?_
            exact IH24 v95 M94 h _ _ _ hw (lv_sub hl [2, 3, 4, 0] rfl)
        · replace h := o_f c65 h
          refine lv_iconst (v := 0) hx hb dX5_goesOn_68 (by decide) ?_
          refine lv_goto (tgt := 94) hx hb dX5_goesOn_69 (by decide) ?_
          obtain ⟨b94, h⟩ := o_in h
          refine stMd hx hb hw 7 (by decide) (n := 9) rfl b94 dX5_goesOn_94 rfl (fun H locs hw => ?_)
          obtain ⟨M94, eM94, h⟩ := o_nm h
          rw [← eM94] at hw
          obtain ⟨v95, ev95, h⟩ := o_nm h
          refine lv_iinc (v := v95) (lv' := [(3, .int v95), (4, .int y0_53), (0, .ref (sA G 9 0)), (1, .int q1), (2, .int q18)]) hx hb dX5_goesOn_95 hl (k := 4) rfl (by rw [ev95]; rfl) (by decide) rfl (fun ls hl => ?_)
          refine lv_goto (tgt := 24) hx hb dX5_goesOn_98 (by decide) ?_
          exact IH24 v95 M94 h _ _ _ hw (lv_sub hl [2, 3, 4, 0] rfl)
      refine lv_if_eq (tgt := 46) hx hb dX5_goesOn_39 (by decide) (fun c39 => ?_) (fun c39 => ?_)
      · replace h := o_t c39 h
        refine lv_aload_n hx hb dX5_goesOn_46 rfl (lv_at hl 0 rfl) ?_
        refine lv_iload_n hx hb dX5_goesOn_47 rfl (lv_at hl 3 rfl) ?_
        refine lv_iload_n hx hb dX5_goesOn_48 rfl (lv_at hl 2 rfl) ?_
        refine lv_iload_n hx hb dX5_goesOn_49 rfl (lv_at hl 1 rfl) ?_
        obtain ⟨q50, eq50, h⟩ := o_bd h
        refine kV (As := [.int x3_24, .int q18, .int q1]) (rest := []) (st' := [.int q50]) ⟨hx, hb, hml, hown, hts⟩ (kX5_wishOf l G eq50) (cwV 3 hts gX5_goesOn_X5_wishOf rfl rfl rfl qqX5_wishOf ⟨Nat.le_of_ble_eq_true rfl, Nat.le_of_ble_eq_true rfl⟩) hw (rvMd hw) rfl hl.1 rfl (Nat.le_of_ble_eq_true rfl) dX5_goesOn_50 ⟨Nat.zero_le _, Nat.zero_le _⟩ rfl (fun H locs hw => ?_)
        exact J53 q50 _ _ _ hw (lv_sub hl [0, 1, 2, 3] rfl) h
      · replace h := o_f c39 h
        refine lv_iconst (v := 0) hx hb dX5_goesOn_42 (by decide) ?_
        refine lv_goto (tgt := 53) hx hb dX5_goesOn_43 (by decide) ?_
        exact J53 (0 : Int32) _ _ _ hw (lv_sub hl [0, 1, 2, 3] rfl) h
  · replace h := o_t c12 h
    refine lv_iconst (v := 0) hx hb dX5_goesOn_15 (by decide) ?_
    exact rI hQ hx hb hr hlk hw dX5_goesOn_16 (o_2a h) rfl (o_2b h)
