-- X5_hasIf
set_option maxRecDepth 100000 in
set_option maxHeartbeats 4000000 in
theorem kX5_hasIf (l : Launch) (G : sGl) {S : sWo} {M : sOb} {a1 : Int32} {a2 : Int32} {a3 : Int32} {q : (Int32 × sOb)}  (h : fX5_hasIf M a1 a2 a3 = some q) : sCt l G yX5_hasIf wsX5_hasIf rmX5_hasIf [.ref (sA G 9 0), .int a1, .int a2, .int a3] S M (some (.int q.1)) S q.2 := by
  refine cMk (cc := cX5_hasIf) (maxL := 5) (ret := (some .boolean)) (by decide) rfl (Nat.le_of_ble_eq_true rfl) ?_
  intro p e s m args below meth c Q hQ hx hb hr hlk hml hown hts hw ls hl
  have hown : s.vm.findClass RX5 = some m.cls := hown
  have hl : lv_has ls 5 [(0, .ref (sA G 9 0)), (1, .int a1), (2, .int a2), (3, .int a3)] := hl
  unfold fX5_hasIf at h
  refine lv_aload_n hx hb dX5_hasIf_0 rfl (lv_at hl 0 rfl) ?_
  obtain ⟨q1, eq1, h⟩ := o_bd h
  refine kV (As := []) (rest := []) (st' := []) ⟨hx, hb, hml, hown, hts⟩ (kX5_laysBy l G eq1) (cwV 0 hts gX5_hasIf_X5_laysBy rfl rfl rfl qqX5_laysBy ⟨Nat.le_of_ble_eq_true rfl, Nat.le_of_ble_eq_true rfl⟩) hw (rvMd hw) rfl hl.1 rfl (Nat.le_of_ble_eq_true rfl) dX5_hasIf_1 ⟨Nat.zero_le _, Nat.zero_le _⟩ rfl (fun H locs hw => ?_)
  refine lv_aload_n hx hb dX5_hasIf_4 rfl (lv_at hl 0 rfl) ?_
  refine lv_iload_n hx hb dX5_hasIf_5 rfl (lv_at hl 1 rfl) ?_
  refine lv_iload_n hx hb dX5_hasIf_6 rfl (lv_at hl 2 rfl) ?_
  refine lv_iload_n hx hb dX5_hasIf_7 rfl (lv_at hl 3 rfl) ?_
  obtain ⟨q8, eq8, h⟩ := o_bd h
  refine kV (As := [.int a1, .int a2, .int a3]) (rest := []) (st' := []) ⟨hx, hb, hml, hown, hts⟩ (kX5_puts l G eq8) (cwV 3 hts gX5_hasIf_X5_puts rfl rfl rfl qqX5_puts ⟨Nat.le_of_ble_eq_true rfl, Nat.le_of_ble_eq_true rfl⟩) hw (rvMd hw) rfl hl.1 rfl (Nat.le_of_ble_eq_true rfl) dX5_hasIf_8 ⟨Nat.zero_le _, Nat.zero_le _⟩ rfl (fun H locs hw => ?_)
  refine lv_aload_n hx hb dX5_hasIf_11 rfl (lv_at hl 0 rfl) ?_
  obtain ⟨q12, eq12, h⟩ := o_bd h
  refine kV (As := []) (rest := []) (st' := [.int q12.1]) ⟨hx, hb, hml, hown, hts⟩ (kX5_races l G eq12) (cwV 0 hts gX5_hasIf_X5_races rfl rfl rfl qqX5_races ⟨Nat.le_of_ble_eq_true rfl, Nat.le_of_ble_eq_true rfl⟩) hw (rvMd hw) rfl hl.1 rfl (Nat.le_of_ble_eq_true rfl) dX5_hasIf_12 ⟨Nat.zero_le _, Nat.zero_le _⟩ rfl (fun H locs hw => ?_)
  refine lv_iload_n hx hb dX5_hasIf_15 rfl (lv_at hl 1 rfl) ?_
  obtain ⟨k24, ek24, h⟩ := o_nm h
  have J24 : ∀ (y0_24 : Int32) (H : Heap) (locs : List Loc) (ls : Array Slot), sHw G s S q12.2 H locs → lv_has ls 5 [(0, .ref (sA G 9 0))] → k24 y0_24 = some q → W p l e rmX5_hasIf s m args below meth c H locs 0 0 Q (F0 m 24 ls [.int y0_24]) := by
    intro y0_24 H locs ls hw hl h
    replace h := o_j1 ek24 h
    refine lv_istore (lv' := [(4, .int y0_24), (0, .ref (sA G 9 0))]) hx hb dX5_hasIf_24 hl (by decide) rfl (fun ls hl => ?_)
    refine lv_aload_n hx hb dX5_hasIf_26 rfl (lv_at hl 1 rfl) ?_
    obtain ⟨q27, eq27, h⟩ := o_bd h
    refine kV (As := []) (rest := []) (st' := []) ⟨hx, hb, hml, hown, hts⟩ (kX5_laysBack l G eq27) (cwV 0 hts gX5_hasIf_X5_laysBack rfl rfl rfl qqX5_laysBack ⟨Nat.le_of_ble_eq_true rfl, Nat.le_of_ble_eq_true rfl⟩) hw (rvMd hw) rfl hl.1 rfl (Nat.le_of_ble_eq_true rfl) dX5_hasIf_27 ⟨Nat.zero_le _, Nat.zero_le _⟩ rfl (fun H locs hw => ?_)
    refine lv_iload hx hb dX5_hasIf_30 (lv_at hl 0 rfl) ?_
    obtain ⟨b32, h⟩ := o_in h
    exact rZ hQ hx hb hr hlk hw (Decidable.not_not.mp b32) dX5_hasIf_32 (o_2a h) rfl (o_2b h)
  refine lv_icmp_ne (tgt := 23) hx hb dX5_hasIf_16 (by decide) (fun c16 => ?_) (fun c16 => ?_)
  · replace h := o_f c16 h
    refine lv_iconst (v := 0) hx hb dX5_hasIf_23 (by decide) ?_
    exact J24 (0 : Int32) _ _ _ hw (lv_sub hl [0] rfl) h
  · replace h := o_t c16 h
    refine lv_iconst (v := 1) hx hb dX5_hasIf_19 (by decide) ?_
    refine lv_goto (tgt := 24) hx hb dX5_hasIf_20 (by decide) ?_
    exact J24 (1 : Int32) _ _ _ hw (lv_sub hl [0] rfl) h
-- X5_pace
set_option maxRecDepth 100000 in
set_option maxHeartbeats 4000000 in
theorem kX5_pace (l : Launch) (G : sGl) {S : sWo} {M : sOb} {a1 : Int32} {q : (Int32 × sOb)}  (h : fX5_pace M a1 = some q) : sCt l G yX5_pace wsX5_pace rmX5_pace [.ref (sA G 9 0), .int a1] S M (some (.int q.1)) S q.2 := by
  refine cMk (cc := cX5_pace) (maxL := 3) (ret := (some .int)) (by decide) rfl (Nat.le_of_ble_eq_true rfl) ?_
  intro p e s m args below meth c Q hQ hx hb hr hlk hml hown hts hw ls hl
  have hown : s.vm.findClass RX5 = some m.cls := hown
  have hl : lv_has ls 3 [(0, .ref (sA G 9 0)), (1, .int a1)] := hl
  unfold fX5_pace at h
  refine lv_aload_n hx hb dX5_pace_0 rfl (lv_at hl 0 rfl) ?_
  refine lv_iload_n hx hb dX5_pace_1 rfl (lv_at hl 1 rfl) ?_
  obtain ⟨q2, eq2, h⟩ := o_bd h
  refine kV (As := [.int a1]) (rest := []) (st' := [.int q2]) ⟨hx, hb, hml, hown, hts⟩ (kX5_isRunner l G eq2) (cwV 1 hts gX5_pace_X5_isRunner rfl rfl rfl qqX5_isRunner ⟨Nat.le_of_ble_eq_true rfl, Nat.le_of_ble_eq_true rfl⟩) hw (rvMd hw) rfl hl.1 rfl (Nat.le_of_ble_eq_true rfl) dX5_pace_2 ⟨Nat.zero_le _, Nat.zero_le _⟩ rfl (fun H locs hw => ?_)
  refine lv_if_ne (tgt := 15) hx hb dX5_pace_5 (by decide) (fun c5 => ?_) (fun c5 => ?_)
  · replace h := o_f c5 h
    refine lv_iconst (v := 1) hx hb dX5_pace_15 (by decide) ?_
    refine lv_istore_n (lv' := [(2, .int (1 : Int32)), (0, .ref (sA G 9 0)), (1, .int a1)]) hx hb dX5_pace_16 rfl hl (by decide) rfl (fun ls hl => ?_)
    refine fx2_w (F := (bX5_pace_17 a1)) (P := fun x2_17 T_17 => ∀ (H : Heap) (locs : List Loc) (ls : Array Slot), sHw G s S T_17 H locs → lv_has ls 3 [(0, .ref (sA G 9 0)), (1, .int a1), (2, .int x2_17)] → W p l e rmX5_pace s m args below meth c H locs 0 0 Q (F0 m 17 ls [])) ?_ _ _ _ h _ _ _ hw (lv_sub hl [1, 2, 0] rfl)
    intro rc17 IH17 x2_17 T_17 h H locs ls hw hl
    unfold bX5_pace_17 at h
    refine lv_iload_n hx hb dX5_pace_17 rfl (lv_at hl 2 rfl) ?_
    refine lv_bipush (v := 12) hx hb dX5_pace_18 (by decide) ?_
    refine lv_icmp_gt (tgt := 41) hx hb dX5_pace_20 (by decide) (fun c20 => ?_) (fun c20 => ?_)
    · replace h := o_t c20 h
      refine lv_aload_n hx hb dX5_pace_41 rfl (lv_at hl 0 rfl) ?_
      refine lv_ldc (v := -1000000004) hx hb hown (hts (.constant RX5 39 (-1000000004)) (by decide +kernel)) dX5_pace_42 ?_
      obtain ⟨q44, eq44, h⟩ := o_bd h
      refine kV (As := [.int (-1000000004 : Int32)]) (rest := []) (st' := [.int q44.1]) ⟨hx, hb, hml, hown, hts⟩ (kX5_finds l G eq44) (cwV 1 hts gX5_pace_X5_finds rfl rfl rfl qqX5_finds ⟨Nat.le_of_ble_eq_true rfl, Nat.le_of_ble_eq_true rfl⟩) hw (rvMd hw) rfl hl.1 rfl (Nat.le_of_ble_eq_true rfl) dX5_pace_44 ⟨Nat.zero_le _, Nat.zero_le _⟩ rfl (fun H locs hw => ?_)
      exact rI hQ hx hb hr hlk hw dX5_pace_47 (o_2a h) rfl (o_2b h)
    · replace h := o_f c20 h
      refine lv_aload_n hx hb dX5_pace_23 rfl (lv_at hl 0 rfl) ?_
      refine lv_iload_n hx hb dX5_pace_24 rfl (lv_at hl 1 rfl) ?_
      refine lv_iconst (v := 1) hx hb dX5_pace_25 (by decide) ?_
      refine lv_iload_n hx hb dX5_pace_26 rfl (lv_at hl 2 rfl) ?_
      obtain ⟨q27, eq27, h⟩ := o_bd h
      refine kV (As := [.int a1, .int (1 : Int32), .int x2_17]) (rest := []) (st' := [.int q27.1]) ⟨hx, hb, hml, hown, hts⟩ (kX5_hasIf l G eq27) (cwV 3 hts gX5_pace_X5_hasIf rfl rfl rfl qqX5_hasIf ⟨Nat.le_of_ble_eq_true rfl, Nat.le_of_ble_eq_true rfl⟩) hw (rvMd hw) rfl hl.1 rfl (Nat.le_of_ble_eq_true rfl) dX5_pace_27 ⟨Nat.zero_le _, Nat.zero_le _⟩ rfl (fun H locs hw => ?_)
      refine lv_if_eq (tgt := 35) hx hb dX5_pace_30 (by decide) (fun c30 => ?_) (fun c30 => ?_)
      · replace h := o_t c30 h
        obtain ⟨v35, ev35, h⟩ := o_nm h
        refine lv_iinc (v := v35) (lv' := [(2, .int v35), (0, .ref (sA G 9 0)), (1, .int a1)]) hx hb dX5_pace_35 hl (k := 2) rfl (by rw [ev35]; rfl) (by decide) rfl (fun ls hl => ?_)
        refine lv_goto (tgt := 17) hx hb dX5_pace_38 (by decide) ?_
        exact IH17 v35 q27.2 h _ _ _ hw (lv_sub hl [1, 2, 0] rfl)
      · replace h := o_f c30 h
        refine lv_iload_n hx hb dX5_pace_33 rfl (lv_at hl 2 rfl) ?_
        exact rI hQ hx hb hr hlk hw dX5_pace_34 (o_2a h) rfl (o_2b h)
  · replace h := o_t c5 h
    refine lv_aload_n hx hb dX5_pace_8 rfl (lv_at hl 0 rfl) ?_
    refine lv_ldc (v := -1000000001) hx hb hown (hts (.constant RX5 38 (-1000000001)) (by decide +kernel)) dX5_pace_9 ?_
    obtain ⟨q11, eq11, h⟩ := o_bd h
    refine kV (As := [.int (-1000000001 : Int32)]) (rest := []) (st' := [.int q11.1]) ⟨hx, hb, hml, hown, hts⟩ (kX5_finds l G eq11) (cwV 1 hts gX5_pace_X5_finds rfl rfl rfl qqX5_finds ⟨Nat.le_of_ble_eq_true rfl, Nat.le_of_ble_eq_true rfl⟩) hw (rvMd hw) rfl hl.1 rfl (Nat.le_of_ble_eq_true rfl) dX5_pace_11 ⟨Nat.zero_le _, Nat.zero_le _⟩ rfl (fun H locs hw => ?_)
    exact rI hQ hx hb hr hlk hw dX5_pace_14 (o_2a h) rfl (o_2b h)
-- X5_kind
set_option maxRecDepth 100000 in
set_option maxHeartbeats 4000000 in
theorem kX5_kind (l : Launch) (G : sGl) {S : sWo} {M : sOb} {a1 : Int32} {q : (Int32 × sOb)}  (h : fX5_kind M a1 = some q) : sCt l G yX5_kind wsX5_kind rmX5_kind [.ref (sA G 9 0), .int a1] S M (some (.int q.1)) S q.2 := by
  refine cMk (cc := cX5_kind) (maxL := 3) (ret := (some .int)) (by decide) rfl (Nat.le_of_ble_eq_true rfl) ?_
  intro p e s m args below meth c Q hQ hx hb hr hlk hml hown hts hw ls hl
  have hown : s.vm.findClass RX5 = some m.cls := hown
  have hl : lv_has ls 3 [(0, .ref (sA G 9 0)), (1, .int a1)] := hl
  unfold fX5_kind at h
  refine lv_aload_n hx hb dX5_kind_0 rfl (lv_at hl 0 rfl) ?_
  refine lv_iload_n hx hb dX5_kind_1 rfl (lv_at hl 1 rfl) ?_
  obtain ⟨q2, eq2, h⟩ := o_bd h
  refine kV (As := [.int a1]) (rest := []) (st' := [.int q2]) ⟨hx, hb, hml, hown, hts⟩ (kX5_isRunner l G eq2) (cwV 1 hts gX5_kind_X5_isRunner rfl rfl rfl qqX5_isRunner ⟨Nat.le_of_ble_eq_true rfl, Nat.le_of_ble_eq_true rfl⟩) hw (rvMd hw) rfl hl.1 rfl (Nat.le_of_ble_eq_true rfl) dX5_kind_2 ⟨Nat.zero_le _, Nat.zero_le _⟩ rfl (fun H locs hw => ?_)
  refine lv_if_ne (tgt := 15) hx hb dX5_kind_5 (by decide) (fun c5 => ?_) (fun c5 => ?_)
  · replace h := o_f c5 h
    refine lv_iconst (v := 0) hx hb dX5_kind_15 (by decide) ?_
    refine lv_istore_n (lv' := [(2, .int (0 : Int32)), (0, .ref (sA G 9 0)), (1, .int a1)]) hx hb dX5_kind_16 rfl hl (by decide) rfl (fun ls hl => ?_)
    refine fx2_w (F := (bX5_kind_17 a1)) (P := fun x2_17 T_17 => ∀ (H : Heap) (locs : List Loc) (ls : Array Slot), sHw G s S T_17 H locs → lv_has ls 3 [(0, .ref (sA G 9 0)), (1, .int a1), (2, .int x2_17)] → W p l e rmX5_kind s m args below meth c H locs 0 0 Q (F0 m 17 ls [])) ?_ _ _ _ h _ _ _ hw (lv_sub hl [1, 2, 0] rfl)
    intro rc17 IH17 x2_17 T_17 h H locs ls hw hl
    unfold bX5_kind_17 at h
    refine lv_iload_n hx hb dX5_kind_17 rfl (lv_at hl 2 rfl) ?_
    refine lv_iconst (v := 5) hx hb dX5_kind_18 (by decide) ?_
    refine lv_icmp_gt (tgt := 40) hx hb dX5_kind_19 (by decide) (fun c19 => ?_) (fun c19 => ?_)
    · replace h := o_t c19 h
      refine lv_aload_n hx hb dX5_kind_40 rfl (lv_at hl 0 rfl) ?_
      refine lv_ldc (v := -1000000004) hx hb hown (hts (.constant RX5 39 (-1000000004)) (by decide +kernel)) dX5_kind_41 ?_
      obtain ⟨q43, eq43, h⟩ := o_bd h
      refine kV (As := [.int (-1000000004 : Int32)]) (rest := []) (st' := [.int q43.1]) ⟨hx, hb, hml, hown, hts⟩ (kX5_finds l G eq43) (cwV 1 hts gX5_kind_X5_finds rfl rfl rfl qqX5_finds ⟨Nat.le_of_ble_eq_true rfl, Nat.le_of_ble_eq_true rfl⟩) hw (rvMd hw) rfl hl.1 rfl (Nat.le_of_ble_eq_true rfl) dX5_kind_43 ⟨Nat.zero_le _, Nat.zero_le _⟩ rfl (fun H locs hw => ?_)
      exact rI hQ hx hb hr hlk hw dX5_kind_46 (o_2a h) rfl (o_2b h)
    · replace h := o_f c19 h
      refine lv_aload_n hx hb dX5_kind_22 rfl (lv_at hl 0 rfl) ?_
      refine lv_iload_n hx hb dX5_kind_23 rfl (lv_at hl 1 rfl) ?_
      refine lv_iconst (v := 0) hx hb dX5_kind_24 (by decide) ?_
      refine lv_iload_n hx hb dX5_kind_25 rfl (lv_at hl 2 rfl) ?_
      obtain ⟨q26, eq26, h⟩ := o_bd h
      refine kV (As := [.int a1, .int (0 : Int32), .int x2_17]) (rest := []) (st' := [.int q26.1]) ⟨hx, hb, hml, hown, hts⟩ (kX5_hasIf l G eq26) (cwV 3 hts gX5_kind_X5_hasIf rfl rfl rfl qqX5_hasIf ⟨Nat.le_of_ble_eq_true rfl, Nat.le_of_ble_eq_true rfl⟩) hw (rvMd hw) rfl hl.1 rfl (Nat.le_of_ble_eq_true rfl) dX5_kind_26 ⟨Nat.zero_le _, Nat.zero_le _⟩ rfl (fun H locs hw => ?_)
      refine lv_if_eq (tgt := 34) hx hb dX5_kind_29 (by decide) (fun c29 => ?_) (fun c29 => ?_)
      · replace h := o_t c29 h
        obtain ⟨v34, ev34, h⟩ := o_nm h
        refine lv_iinc (v := v34) (lv' := [(2, .int v34), (0, .ref (sA G 9 0)), (1, .int a1)]) hx hb dX5_kind_34 hl (k := 2) rfl (by rw [ev34]; rfl) (by decide) rfl (fun ls hl => ?_)
        refine lv_goto (tgt := 17) hx hb dX5_kind_37 (by decide) ?_
        exact IH17 v34 q26.2 h _ _ _ hw (lv_sub hl [1, 2, 0] rfl)
      · replace h := o_f c29 h
        refine lv_iload_n hx hb dX5_kind_32 rfl (lv_at hl 2 rfl) ?_
        exact rI hQ hx hb hr hlk hw dX5_kind_33 (o_2a h) rfl (o_2b h)
  · replace h := o_t c5 h
    refine lv_aload_n hx hb dX5_kind_8 rfl (lv_at hl 0 rfl) ?_
    refine lv_ldc (v := -1000000001) hx hb hown (hts (.constant RX5 38 (-1000000001)) (by decide +kernel)) dX5_kind_9 ?_
    obtain ⟨q11, eq11, h⟩ := o_bd h
    refine kV (As := [.int (-1000000001 : Int32)]) (rest := []) (st' := [.int q11.1]) ⟨hx, hb, hml, hown, hts⟩ (kX5_finds l G eq11) (cwV 1 hts gX5_kind_X5_finds rfl rfl rfl qqX5_finds ⟨Nat.le_of_ble_eq_true rfl, Nat.le_of_ble_eq_true rfl⟩) hw (rvMd hw) rfl hl.1 rfl (Nat.le_of_ble_eq_true rfl) dX5_kind_11 ⟨Nat.zero_le _, Nat.zero_le _⟩ rfl (fun H locs hw => ?_)
    exact rI hQ hx hb hr hlk hw dX5_kind_14 (o_2a h) rfl (o_2b h)
-- X5_start
set_option maxRecDepth 100000 in
set_option maxHeartbeats 4000000 in
theorem kX5_start (l : Launch) (G : sGl) {S : sWo} {M : sOb} {a1 : Int32} {q : (Int32 × sOb)}  (h : fX5_start M a1 = some q) : sCt l G yX5_start wsX5_start rmX5_start [.ref (sA G 9 0), .int a1] S M (some (.int q.1)) S q.2 := by
  refine cMk (cc := cX5_start) (maxL := 3) (ret := (some .int)) (by decide) rfl (Nat.le_of_ble_eq_true rfl) ?_
  intro p e s m args below meth c Q hQ hx hb hr hlk hml hown hts hw ls hl
  have hown : s.vm.findClass RX5 = some m.cls := hown
  have hl : lv_has ls 3 [(0, .ref (sA G 9 0)), (1, .int a1)] := hl
  have hiX5 : ∀ w ∈ u_ws RX5 TX5 15, w ∈ wsX5_start := by decide +kernel
  unfold fX5_start at h
  refine lv_aload_n hx hb dX5_start_0 rfl (lv_at hl 0 rfl) ?_
  refine lv_iload_n hx hb dX5_start_1 rfl (lv_at hl 1 rfl) ?_
  obtain ⟨q2, eq2, h⟩ := o_bd h
  refine kV (As := [.int a1]) (rest := []) (st' := [.int q2]) ⟨hx, hb, hml, hown, hts⟩ (kX5_isRunner l G eq2) (cwV 1 hts gX5_start_X5_isRunner rfl rfl rfl qqX5_isRunner ⟨Nat.le_of_ble_eq_true rfl, Nat.le_of_ble_eq_true rfl⟩) hw (rvMd hw) rfl hl.1 rfl (Nat.le_of_ble_eq_true rfl) dX5_start_2 ⟨Nat.zero_le _, Nat.zero_le _⟩ rfl (fun H locs hw => ?_)
  refine lv_if_ne (tgt := 15) hx hb dX5_start_5 (by decide) (fun c5 => ?_) (fun c5 => ?_)
  · replace h := o_f c5 h
    refine lv_iconst (v := 0) hx hb dX5_start_15 (by decide) ?_
    refine lv_istore_n (lv' := [(2, .int (0 : Int32)), (0, .ref (sA G 9 0)), (1, .int a1)]) hx hb dX5_start_16 rfl hl (by decide) rfl (fun ls hl => ?_)
    refine fx2_w (F := (bX5_start_17 a1)) (P := fun x2_17 T_17 => ∀ (H : Heap) (locs : List Loc) (ls : Array Slot), sHw G s S T_17 H locs → lv_has ls 3 [(0, .ref (sA G 9 0)), (1, .int a1), (2, .int x2_17)] → W p l e rmX5_start s m args below meth c H locs 0 0 Q (F0 m 17 ls [])) ?_ _ _ _ h _ _ _ hw (lv_sub hl [1, 2, 0] rfl)
    intro rc17 IH17 x2_17 T_17 h H locs ls hw hl
    unfold bX5_start_17 at h
    refine lv_iload_n hx hb dX5_start_17 rfl (lv_at hl 2 rfl) ?_
    refine lv_sipush (v := 200) hx hb dX5_start_18 (by decide) ?_
    refine lv_icmp_gt (tgt := 52) hx hb dX5_start_21 (by decide) (fun c21 => ?_) (fun c21 => ?_)
    · replace h := o_t c21 h
      refine lv_aload_n hx hb dX5_start_52 rfl (lv_at hl 0 rfl) ?_
      refine lv_ldc (v := -1000000004) hx hb hown (hts (.constant RX5 39 (-1000000004)) (by decide +kernel)) dX5_start_53 ?_
      obtain ⟨q55, eq55, h⟩ := o_bd h
      refine kV (As := [.int (-1000000004 : Int32)]) (rest := []) (st' := [.int q55.1]) ⟨hx, hb, hml, hown, hts⟩ (kX5_finds l G eq55) (cwV 1 hts gX5_start_X5_finds rfl rfl rfl qqX5_finds ⟨Nat.le_of_ble_eq_true rfl, Nat.le_of_ble_eq_true rfl⟩) hw (rvMd hw) rfl hl.1 rfl (Nat.le_of_ble_eq_true rfl) dX5_start_55 ⟨Nat.zero_le _, Nat.zero_le _⟩ rfl (fun H locs hw => ?_)
      exact rI hQ hx hb hr hlk hw dX5_start_58 (o_2a h) rfl (o_2b h)
    · replace h := o_f c21 h
      refine lv_iload_n hx hb dX5_start_24 rfl (lv_at hl 2 rfl) ?_
      refine lv_aload_n hx hb dX5_start_25 rfl (lv_at hl 0 rfl) ?_
      refine gMd (v := .ref (sA G 9 1)) hx hb hts hiX5 hown hw 0 (by decide) (hts (.fieldLink RX5 7 "SecondHomeModel" "s" "[I") (by decide +kernel)) rfl dX5_start_26 ?_
      refine lv_iconst (v := 1) hx hb dX5_start_29 (by decide) ?_
      refine ldMd hx hb hw 0 (by decide) (n := 77) rfl (by decide) dX5_start_30 ?_
      refine lv_icmp_ge (tgt := 52) hx hb dX5_start_31 (by decide) (fun c31 => ?_) (fun c31 => ?_)
      · replace h := o_t c31 h
        refine lv_aload_n hx hb dX5_start_52 rfl (lv_at hl 0 rfl) ?_
        refine lv_ldc (v := -1000000004) hx hb hown (hts (.constant RX5 39 (-1000000004)) (by decide +kernel)) dX5_start_53 ?_
        obtain ⟨q55, eq55, h⟩ := o_bd h
        refine kV (As := [.int (-1000000004 : Int32)]) (rest := []) (st' := [.int q55.1]) ⟨hx, hb, hml, hown, hts⟩ (kX5_finds l G eq55) (cwV 1 hts gX5_start_X5_finds rfl rfl rfl qqX5_finds ⟨Nat.le_of_ble_eq_true rfl, Nat.le_of_ble_eq_true rfl⟩) hw (rvMd hw) rfl hl.1 rfl (Nat.le_of_ble_eq_true rfl) dX5_start_55 ⟨Nat.zero_le _, Nat.zero_le _⟩ rfl (fun H locs hw => ?_)
        exact rI hQ hx hb hr hlk hw dX5_start_58 (o_2a h) rfl (o_2b h)
      · replace h := o_f c31 h
        refine lv_aload_n hx hb dX5_start_34 rfl (lv_at hl 0 rfl) ?_
        refine lv_iload_n hx hb dX5_start_35 rfl (lv_at hl 1 rfl) ?_
        refine lv_iconst (v := 4) hx hb dX5_start_36 (by decide) ?_
        refine lv_iload_n hx hb dX5_start_37 rfl (lv_at hl 2 rfl) ?_
        obtain ⟨q38, eq38, h⟩ := o_bd h
        refine kV (As := [.int a1, .int (4 : Int32), .int x2_17]) (rest := []) (st' := [.int q38.1]) ⟨hx, hb, hml, hown, hts⟩ (kX5_hasIf l G eq38) (cwV 3 hts gX5_start_X5_hasIf rfl rfl rfl qqX5_hasIf ⟨Nat.le_of_ble_eq_true rfl, Nat.le_of_ble_eq_true rfl⟩) hw (rvMd hw) rfl hl.1 rfl (Nat.le_of_ble_eq_true rfl) dX5_start_38 ⟨Nat.zero_le _, Nat.zero_le _⟩ rfl (fun H locs hw => ?_)
        refine lv_if_eq (tgt := 46) hx hb dX5_start_41 (by decide) (fun c41 => ?_) (fun c41 => ?_)
        · replace h := o_t c41 h
          obtain ⟨v46, ev46, h⟩ := o_nm h
          refine lv_iinc (v := v46) (lv' := [(2, .int v46), (0, .ref (sA G 9 0)), (1, .int a1)]) hx hb dX5_start_46 hl (k := 2) rfl (by rw [ev46]; rfl) (by decide) rfl (fun ls hl => ?_)
          refine lv_goto (tgt := 17) hx hb dX5_start_49 (by decide) ?_
          exact IH17 v46 q38.2 h _ _ _ hw (lv_sub hl [1, 2, 0] rfl)
        · replace h := o_f c41 h
          refine lv_iload_n hx hb dX5_start_44 rfl (lv_at hl 2 rfl) ?_
          exact rI hQ hx hb hr hlk hw dX5_start_45 (o_2a h) rfl (o_2b h)
  · replace h := o_t c5 h
    refine lv_aload_n hx hb dX5_start_8 rfl (lv_at hl 0 rfl) ?_
    refine lv_ldc (v := -1000000001) hx hb hown (hts (.constant RX5 38 (-1000000001)) (by decide +kernel)) dX5_start_9 ?_
    obtain ⟨q11, eq11, h⟩ := o_bd h
    refine kV (As := [.int (-1000000001 : Int32)]) (rest := []) (st' := [.int q11.1]) ⟨hx, hb, hml, hown, hts⟩ (kX5_finds l G eq11) (cwV 1 hts gX5_start_X5_finds rfl rfl rfl qqX5_finds ⟨Nat.le_of_ble_eq_true rfl, Nat.le_of_ble_eq_true rfl⟩) hw (rvMd hw) rfl hl.1 rfl (Nat.le_of_ble_eq_true rfl) dX5_start_11 ⟨Nat.zero_le _, Nat.zero_le _⟩ rfl (fun H locs hw => ?_)
    exact rI hQ hx hb hr hlk hw dX5_start_14 (o_2a h) rfl (o_2b h)
-- X5_favours
set_option maxRecDepth 100000 in
set_option maxHeartbeats 4000000 in
theorem kX5_favours (l : Launch) (G : sGl) {S : sWo} {M : sOb} {a1 : Int32} {q : (Int32 × sOb)}  (h : fX5_favours M a1 = some q) : sCt l G yX5_favours wsX5_favours rmX5_favours [.ref (sA G 9 0), .int a1] S M (some (.int q.1)) S q.2 := by
  refine cMk (cc := cX5_favours) (maxL := 4) (ret := (some .int)) (by decide) rfl (Nat.le_of_ble_eq_true rfl) ?_
  intro p e s m args below meth c Q hQ hx hb hr hlk hml hown hts hw ls hl
  have hown : s.vm.findClass RX5 = some m.cls := hown
  have hl : lv_has ls 4 [(0, .ref (sA G 9 0)), (1, .int a1)] := hl
  unfold fX5_favours at h
  refine lv_aload_n hx hb dX5_favours_0 rfl (lv_at hl 0 rfl) ?_
  refine lv_iload_n hx hb dX5_favours_1 rfl (lv_at hl 1 rfl) ?_
  obtain ⟨q2, eq2, h⟩ := o_bd h
  refine kV (As := [.int a1]) (rest := []) (st' := [.int q2]) ⟨hx, hb, hml, hown, hts⟩ (kX5_isRunner l G eq2) (cwV 1 hts gX5_favours_X5_isRunner rfl rfl rfl qqX5_isRunner ⟨Nat.le_of_ble_eq_true rfl, Nat.le_of_ble_eq_true rfl⟩) hw (rvMd hw) rfl hl.1 rfl (Nat.le_of_ble_eq_true rfl) dX5_favours_2 ⟨Nat.zero_le _, Nat.zero_le _⟩ rfl (fun H locs hw => ?_)
  refine lv_if_ne (tgt := 15) hx hb dX5_favours_5 (by decide) (fun c5 => ?_) (fun c5 => ?_)
  · replace h := o_f c5 h
    refine lv_aload_n hx hb dX5_favours_15 rfl (lv_at hl 0 rfl) ?_
    obtain ⟨q16, eq16, h⟩ := o_bd h
    refine kV (As := []) (rest := []) (st' := []) ⟨hx, hb, hml, hown, hts⟩ (kX5_laysBy l G eq16) (cwV 0 hts gX5_favours_X5_laysBy rfl rfl rfl qqX5_laysBy ⟨Nat.le_of_ble_eq_true rfl, Nat.le_of_ble_eq_true rfl⟩) hw (rvMd hw) rfl hl.1 rfl (Nat.le_of_ble_eq_true rfl) dX5_favours_16 ⟨Nat.zero_le _, Nat.zero_le _⟩ rfl (fun H locs hw => ?_)
    refine lv_aload_n hx hb dX5_favours_19 rfl (lv_at hl 0 rfl) ?_
    obtain ⟨q20, eq20, h⟩ := o_bd h
    refine kV (As := []) (rest := []) (st' := []) ⟨hx, hb, hml, hown, hts⟩ (kX5_lines l G eq20) (cwV 0 hts gX5_favours_X5_lines rfl rfl rfl qqX5_lines ⟨Nat.le_of_ble_eq_true rfl, Nat.le_of_ble_eq_true rfl⟩) hw (rvMd hw) rfl hl.1 rfl (Nat.le_of_ble_eq_true rfl) dX5_favours_20 ⟨Nat.zero_le _, Nat.zero_le _⟩ rfl (fun H locs hw => ?_)
    refine lv_aload_n hx hb dX5_favours_23 rfl (lv_at hl 0 rfl) ?_
    obtain ⟨q24, eq24, h⟩ := o_bd h
    refine kV (As := []) (rest := []) (st' := [.int q24.1]) ⟨hx, hb, hml, hown, hts⟩ (kX5_goesToEnd l G eq24) (cwV 0 hts gX5_favours_X5_goesToEnd rfl rfl rfl qqX5_goesToEnd ⟨Nat.le_of_ble_eq_true rfl, Nat.le_of_ble_eq_true rfl⟩) hw (rvMd hw) rfl hl.1 rfl (Nat.le_of_ble_eq_true rfl) dX5_favours_24 ⟨Nat.zero_le _, Nat.zero_le _⟩ rfl (fun H locs hw => ?_)
    obtain ⟨k35, ek35, h⟩ := o_nm h
    have J35 : ∀ (y0_35 : Int32) (H : Heap) (locs : List Loc) (ls : Array Slot), sHw G s S q24.2 H locs → lv_has ls 4 [(0, .ref (sA G 9 0)), (1, .int a1)] → k35 y0_35 = some q → W p l e rmX5_favours s m args below meth c H locs 0 0 Q (F0 m 35 ls [.int y0_35]) := by
      intro y0_35 H locs ls hw hl h
      replace h := o_j1 ek35 h
      refine lv_istore_n (lv' := [(2, .int y0_35), (0, .ref (sA G 9 0)), (1, .int a1)]) hx hb dX5_favours_35 rfl hl (by decide) rfl (fun ls hl => ?_)
      refine lv_iconst (v := 0) hx hb dX5_favours_36 (by decide) ?_
      refine lv_istore_n (lv' := [(3, .int (0 : Int32)), (2, .int y0_35), (0, .ref (sA G 9 0)), (1, .int a1)]) hx hb dX5_favours_37 rfl hl (by decide) rfl (fun ls hl => ?_)
      obtain ⟨k72, ek72, h⟩ := o_nm h
      have J72 : ∀ (x2_72 : Int32) (H : Heap) (locs : List Loc) (ls : Array Slot), sHw G s S q24.2 H locs → lv_has ls 4 [(0, .ref (sA G 9 0)), (2, .int x2_72)] → k72 x2_72 = some q → W p l e rmX5_favours s m args below meth c H locs 0 0 Q (F0 m 72 ls []) := by
        intro x2_72 H locs ls hw hl h
        replace h := o_j1 ek72 h
        refine lv_aload_n hx hb dX5_favours_72 rfl (lv_at hl 0 rfl) ?_
        obtain ⟨q73, eq73, h⟩ := o_bd h
        refine kV (As := []) (rest := []) (st' := []) ⟨hx, hb, hml, hown, hts⟩ (kX5_laysBack l G eq73) (cwV 0 hts gX5_favours_X5_laysBack rfl rfl rfl qqX5_laysBack ⟨Nat.le_of_ble_eq_true rfl, Nat.le_of_ble_eq_true rfl⟩) hw (rvMd hw) rfl hl.1 rfl (Nat.le_of_ble_eq_true rfl) dX5_favours_73 ⟨Nat.zero_le _, Nat.zero_le _⟩ rfl (fun H locs hw => ?_)
        refine lv_aload_n hx hb dX5_favours_76 rfl (lv_at hl 0 rfl) ?_
        refine lv_iload_n hx hb dX5_favours_77 rfl (lv_at hl 1 rfl) ?_
        obtain ⟨q78, eq78, h⟩ := o_bd h
        refine kV (As := [.int x2_72]) (rest := []) (st' := [.int q78.1]) ⟨hx, hb, hml, hown, hts⟩ (kX5_orNone l G eq78) (cwV 1 hts gX5_favours_X5_orNone rfl rfl rfl qqX5_orNone ⟨Nat.le_of_ble_eq_true rfl, Nat.le_of_ble_eq_true rfl⟩) hw (rvMd hw) rfl hl.1 rfl (Nat.le_of_ble_eq_true rfl) dX5_favours_78 ⟨Nat.zero_le _, Nat.zero_le _⟩ rfl (fun H locs hw => ?_)
        exact rI hQ hx hb hr hlk hw dX5_favours_81 (o_2a h) rfl (o_2b h)
      refine fx2_w (F := (bX5_favours_38 a1 q24 k72)) (P := fun x2_38 x3_38 => ∀ (H : Heap) (locs : List Loc) (ls : Array Slot), sHw G s S q24.2 H locs → lv_has ls 4 [(0, .ref (sA G 9 0)), (1, .int a1), (2, .int x2_38), (3, .int x3_38)] → W p l e rmX5_favours s m args below meth c H locs 0 0 Q (F0 m 38 ls [])) ?_ _ _ _ h _ _ _ hw (lv_sub hl [2, 3, 1, 0] rfl)
      intro rc38 IH38 x2_38 x3_38 h H locs ls hw hl
      unfold bX5_favours_38 at h
      refine lv_iload_n hx hb dX5_favours_38 rfl (lv_at hl 3 rfl) ?_
      refine lv_iconst (v := 4) hx hb dX5_favours_39 (by decide) ?_
      refine lv_icmp_ge (tgt := 72) hx hb dX5_favours_40 (by decide) (fun c40 => ?_) (fun c40 => ?_)
      · replace h := o_t c40 h
        exact J72 x2_38 _ _ _ hw (lv_sub hl [0, 2] rfl) h
      · replace h := o_f c40 h
        refine lv_iload_n hx hb dX5_favours_43 rfl (lv_at hl 2 rfl) ?_
        refine lv_if_lt (tgt := 72) hx hb dX5_favours_44 (by decide) (fun c44 => ?_) (fun c44 => ?_)
        · replace h := o_t c44 h
          exact J72 x2_38 _ _ _ hw (lv_sub hl [0, 2] rfl) h
        · replace h := o_f c44 h
          refine lv_iload_n hx hb dX5_favours_47 rfl (lv_at hl 2 rfl) ?_
          refine lv_aload_n hx hb dX5_favours_48 rfl (lv_at hl 0 rfl) ?_
          refine lv_iload_n hx hb dX5_favours_49 rfl (lv_at hl 3 rfl) ?_
          obtain ⟨q50, eq50, h⟩ := o_bd h
          refine kV (As := [.int x3_38]) (rest := [.int x2_38]) (st' := [.int q50, .int x2_38]) ⟨hx, hb, hml, hown, hts⟩ (kX5_prizeOf l G eq50) (cwV 1 hts gX5_favours_X5_prizeOf rfl rfl rfl qqX5_prizeOf ⟨Nat.le_of_ble_eq_true rfl, Nat.le_of_ble_eq_true rfl⟩) hw (rvMd hw) rfl hl.1 rfl (Nat.le_of_ble_eq_true rfl) dX5_favours_50 ⟨Nat.zero_le _, Nat.zero_le _⟩ rfl (fun H locs hw => ?_)
          refine lv_iload_n hx hb dX5_favours_53 rfl (lv_at hl 1 rfl) ?_
          refine lv_icmp_ne (tgt := 63) hx hb dX5_favours_54 (by decide) (fun c54 => ?_) (fun c54 => ?_)
          · replace h := o_f c54 h
            refine lv_iconst (v := 0) hx hb dX5_favours_63 (by decide) ?_
            refine lv_ior hx hb dX5_favours_64 ?_
            refine lv_topi (fun v65 ev65 => ?_)
            replace h := o_nx ev65 h
            refine lv_istore_n (lv' := [(2, .int v65), (0, .ref (sA G 9 0)), (1, .int a1), (3, .int x3_38)]) hx hb dX5_favours_65 rfl hl (by decide) rfl (fun ls hl => ?_)
            obtain ⟨v66, ev66, h⟩ := o_nm h
            refine lv_iinc (v := v66) (lv' := [(3, .int v66), (2, .int v65), (0, .ref (sA G 9 0)), (1, .int a1)]) hx hb dX5_favours_66 hl (k := 3) rfl (by rw [ev66]; rfl) (by decide) rfl (fun ls hl => ?_)
            refine lv_goto (tgt := 38) hx hb dX5_favours_69 (by decide) ?_
            exact IH38 v65 v66 h _ _ _ hw (lv_sub hl [2, 3, 1, 0] rfl)
          · replace h := o_t c54 h
            refine lv_iconst (v := 1) hx hb dX5_favours_57 (by decide) ?_
            refine lv_iload_n hx hb dX5_favours_58 rfl (lv_at hl 3 rfl) ?_
            refine lv_ishl hx hb dX5_favours_59 ?_
            refine lv_goto (tgt := 64) hx hb dX5_favours_60 (by decide) ?_
            refine lv_ior hx hb dX5_favours_64 ?_
            refine lv_topi (fun v65 ev65 => ?_)
            replace h := o_nx ev65 h
            refine lv_istore_n (lv' := [(2, .int v65), (0, .ref (sA G 9 0)), (1, .int a1), (3, .int x3_38)]) hx hb dX5_favours_65 rfl hl (by decide) rfl (fun ls hl => ?_)
            obtain ⟨v66, ev66, h⟩ := o_nm h
            refine lv_iinc (v := v66) (lv' := [(3, .int v66), (2, .int v65), (0, .ref (sA G 9 0)), (1, .int a1)]) hx hb dX5_favours_66 hl (k := 3) rfl (by rw [ev66]; rfl) (by decide) rfl (fun ls hl => ?_)
            refine lv_goto (tgt := 38) hx hb dX5_favours_69 (by decide) ?_
            exact IH38 v65 v66 h _ _ _ hw (lv_sub hl [2, 3, 1, 0] rfl)
    refine lv_if_eq (tgt := 34) hx hb dX5_favours_27 (by decide) (fun c27 => ?_) (fun c27 => ?_)
    · replace h := o_t c27 h
      refine lv_iconst (v := -1) hx hb dX5_favours_34 (by decide) ?_
      exact J35 (-1 : Int32) _ _ _ hw (lv_sub hl [0, 1] rfl) h
    · replace h := o_f c27 h
      refine lv_iconst (v := 0) hx hb dX5_favours_30 (by decide) ?_
      refine lv_goto (tgt := 35) hx hb dX5_favours_31 (by decide) ?_
      exact J35 (0 : Int32) _ _ _ hw (lv_sub hl [0, 1] rfl) h
  · replace h := o_t c5 h
    refine lv_aload_n hx hb dX5_favours_8 rfl (lv_at hl 0 rfl) ?_
    refine lv_ldc (v := -1000000001) hx hb hown (hts (.constant RX5 38 (-1000000001)) (by decide +kernel)) dX5_favours_9 ?_
    obtain ⟨q11, eq11, h⟩ := o_bd h
    refine kV (As := [.int (-1000000001 : Int32)]) (rest := []) (st' := [.int q11.1]) ⟨hx, hb, hml, hown, hts⟩ (kX5_finds l G eq11) (cwV 1 hts gX5_favours_X5_finds rfl rfl rfl qqX5_finds ⟨Nat.le_of_ble_eq_true rfl, Nat.le_of_ble_eq_true rfl⟩) hw (rvMd hw) rfl hl.1 rfl (Nat.le_of_ble_eq_true rfl) dX5_favours_11 ⟨Nat.zero_le _, Nat.zero_le _⟩ rfl (fun H locs hw => ?_)
    exact rI hQ hx hb hr hlk hw dX5_favours_14 (o_2a h) rfl (o_2b h)
-- X5_friend
set_option maxRecDepth 100000 in
set_option maxHeartbeats 4000000 in
theorem kX5_friend (l : Launch) (G : sGl) {S : sWo} {M : sOb} {a1 : Int32} {q : (Int32 × sOb)}  (h : fX5_friend M a1 = some q) : sCt l G yX5_friend wsX5_friend rmX5_friend [.ref (sA G 9 0), .int a1] S M (some (.int q.1)) S q.2 := by
  refine cMk (cc := cX5_friend) (maxL := 3) (ret := (some .int)) (by decide) rfl (Nat.le_of_ble_eq_true rfl) ?_
  intro p e s m args below meth c Q hQ hx hb hr hlk hml hown hts hw ls hl
  have hown : s.vm.findClass RX5 = some m.cls := hown
  have hl : lv_has ls 3 [(0, .ref (sA G 9 0)), (1, .int a1)] := hl
  have hiX5 : ∀ w ∈ u_ws RX5 TX5 15, w ∈ wsX5_friend := by decide +kernel
  unfold fX5_friend at h
  refine lv_aload_n hx hb dX5_friend_0 rfl (lv_at hl 0 rfl) ?_
  refine lv_iload_n hx hb dX5_friend_1 rfl (lv_at hl 1 rfl) ?_
  obtain ⟨q2, eq2, h⟩ := o_bd h
  refine kV (As := [.int a1]) (rest := []) (st' := [.int q2]) ⟨hx, hb, hml, hown, hts⟩ (kX5_isRunner l G eq2) (cwV 1 hts gX5_friend_X5_isRunner rfl rfl rfl qqX5_isRunner ⟨Nat.le_of_ble_eq_true rfl, Nat.le_of_ble_eq_true rfl⟩) hw (rvMd hw) rfl hl.1 rfl (Nat.le_of_ble_eq_true rfl) dX5_friend_2 ⟨Nat.zero_le _, Nat.zero_le _⟩ rfl (fun H locs hw => ?_)
  refine lv_if_ne (tgt := 15) hx hb dX5_friend_5 (by decide) (fun c5 => ?_) (fun c5 => ?_)
  · replace h := o_f c5 h
    refine lv_iconst (v := -1) hx hb dX5_friend_15 (by decide) ?_
    refine lv_istore_n (lv' := [(2, .int (-1 : Int32)), (0, .ref (sA G 9 0)), (1, .int a1)]) hx hb dX5_friend_16 rfl hl (by decide) rfl (fun ls hl => ?_)
    refine fx2_w (F := (bX5_friend_17 a1)) (P := fun x2_17 T_17 => ∀ (H : Heap) (locs : List Loc) (ls : Array Slot), sHw G s S T_17 H locs → lv_has ls 3 [(0, .ref (sA G 9 0)), (1, .int a1), (2, .int x2_17)] → W p l e rmX5_friend s m args below meth c H locs 0 0 Q (F0 m 17 ls [])) ?_ _ _ _ h _ _ _ hw (lv_sub hl [1, 2, 0] rfl)
    intro rc17 IH17 x2_17 T_17 h H locs ls hw hl
    unfold bX5_friend_17 at h
    refine lv_iload_n hx hb dX5_friend_17 rfl (lv_at hl 2 rfl) ?_
    refine lv_aload_n hx hb dX5_friend_18 rfl (lv_at hl 0 rfl) ?_
    refine gMd (v := .ref (sA G 9 1)) hx hb hts hiX5 hown hw 0 (by decide) (hts (.fieldLink RX5 7 "SecondHomeModel" "s" "[I") (by decide +kernel)) rfl dX5_friend_19 ?_
    refine lv_iconst (v := 0) hx hb dX5_friend_22 (by decide) ?_
    refine ldMd hx hb hw 0 (by decide) (n := 77) rfl (by decide) dX5_friend_23 ?_
    refine lv_icmp_ge (tgt := 50) hx hb dX5_friend_24 (by decide) (fun c24 => ?_) (fun c24 => ?_)
    · replace h := o_t c24 h
      refine lv_aload_n hx hb dX5_friend_50 rfl (lv_at hl 0 rfl) ?_
      refine lv_ldc (v := -1000000004) hx hb hown (hts (.constant RX5 39 (-1000000004)) (by decide +kernel)) dX5_friend_51 ?_
      obtain ⟨q53, eq53, h⟩ := o_bd h
      refine kV (As := [.int (-1000000004 : Int32)]) (rest := []) (st' := [.int q53.1]) ⟨hx, hb, hml, hown, hts⟩ (kX5_finds l G eq53) (cwV 1 hts gX5_friend_X5_finds rfl rfl rfl qqX5_finds ⟨Nat.le_of_ble_eq_true rfl, Nat.le_of_ble_eq_true rfl⟩) hw (rvMd hw) rfl hl.1 rfl (Nat.le_of_ble_eq_true rfl) dX5_friend_53 ⟨Nat.zero_le _, Nat.zero_le _⟩ rfl (fun H locs hw => ?_)
      exact rI hQ hx hb hr hlk hw dX5_friend_56 (o_2a h) rfl (o_2b h)
    · replace h := o_f c24 h
      refine lv_iload_n hx hb dX5_friend_27 rfl (lv_at hl 2 rfl) ?_
      refine lv_iload_n hx hb dX5_friend_28 rfl (lv_at hl 1 rfl) ?_
      refine lv_icmp_eq (tgt := 44) hx hb dX5_friend_29 (by decide) (fun c29 => ?_) (fun c29 => ?_)
      · replace h := o_t c29 h
        obtain ⟨v44, ev44, h⟩ := o_nm h
        refine lv_iinc (v := v44) (lv' := [(2, .int v44), (0, .ref (sA G 9 0)), (1, .int a1)]) hx hb dX5_friend_44 hl (k := 2) rfl (by rw [ev44]; rfl) (by decide) rfl (fun ls hl => ?_)
        refine lv_goto (tgt := 17) hx hb dX5_friend_47 (by decide) ?_
        exact IH17 v44 T_17 h _ _ _ hw (lv_sub hl [1, 2, 0] rfl)
      · replace h := o_f c29 h
        refine lv_aload_n hx hb dX5_friend_32 rfl (lv_at hl 0 rfl) ?_
        refine lv_iload_n hx hb dX5_friend_33 rfl (lv_at hl 1 rfl) ?_
        refine lv_iconst (v := 3) hx hb dX5_friend_34 (by decide) ?_
        refine lv_iload_n hx hb dX5_friend_35 rfl (lv_at hl 2 rfl) ?_
        obtain ⟨q36, eq36, h⟩ := o_bd h
        refine kV (As := [.int a1, .int (3 : Int32), .int x2_17]) (rest := []) (st' := [.int q36.1]) ⟨hx, hb, hml, hown, hts⟩ (kX5_hasIf l G eq36) (cwV 3 hts gX5_friend_X5_hasIf rfl rfl rfl qqX5_hasIf ⟨Nat.le_of_ble_eq_true rfl, Nat.le_of_ble_eq_true rfl⟩) hw (rvMd hw) rfl hl.1 rfl (Nat.le_of_ble_eq_true rfl) dX5_friend_36 ⟨Nat.zero_le _, Nat.zero_le _⟩ rfl (fun H locs hw => ?_)
        refine lv_if_eq (tgt := 44) hx hb dX5_friend_39 (by decide) (fun c39 => ?_) (fun c39 => ?_)
        · replace h := o_t c39 h
          obtain ⟨v44, ev44, h⟩ := o_nm h
          refine lv_iinc (v := v44) (lv' := [(2, .int v44), (0, .ref (sA G 9 0)), (1, .int a1)]) hx hb dX5_friend_44 hl (k := 2) rfl (by rw [ev44]; rfl) (by decide) rfl (fun ls hl => ?_)
          refine lv_goto (tgt := 17) hx hb dX5_friend_47 (by decide) ?_
          exact IH17 v44 q36.2 h _ _ _ hw (lv_sub hl [1, 2, 0] rfl)
        · replace h := o_f c39 h
          refine lv_iload_n hx hb dX5_friend_42 rfl (lv_at hl 2 rfl) ?_
          exact rI hQ hx hb hr hlk hw dX5_friend_43 (o_2a h) rfl (o_2b h)
  · replace h := o_t c5 h
    refine lv_aload_n hx hb dX5_friend_8 rfl (lv_at hl 0 rfl) ?_
    refine lv_ldc (v := -1000000001) hx hb hown (hts (.constant RX5 38 (-1000000001)) (by decide +kernel)) dX5_friend_9 ?_
    obtain ⟨q11, eq11, h⟩ := o_bd h
    refine kV (As := [.int (-1000000001 : Int32)]) (rest := []) (st' := [.int q11.1]) ⟨hx, hb, hml, hown, hts⟩ (kX5_finds l G eq11) (cwV 1 hts gX5_friend_X5_finds rfl rfl rfl qqX5_finds ⟨Nat.le_of_ble_eq_true rfl, Nat.le_of_ble_eq_true rfl⟩) hw (rvMd hw) rfl hl.1 rfl (Nat.le_of_ble_eq_true rfl) dX5_friend_11 ⟨Nat.zero_le _, Nat.zero_le _⟩ rfl (fun H locs hw => ?_)
    exact rI hQ hx hb hr hlk hw dX5_friend_14 (o_2a h) rfl (o_2b h)
-- X5_prizeIf
set_option maxRecDepth 100000 in
set_option maxHeartbeats 4000000 in
theorem kX5_prizeIf (l : Launch) (G : sGl) {S : sWo} {M : sOb} {a1 : Int32} {a2 : Int32} {q : (Int32 × sOb)}  (h : fX5_prizeIf M a1 a2 = some q) : sCt l G yX5_prizeIf wsX5_prizeIf rmX5_prizeIf [.ref (sA G 9 0), .int a1, .int a2] S M (some (.int q.1)) S q.2 := by
  refine cMk (cc := cX5_prizeIf) (maxL := 4) (ret := (some .int)) (by decide) rfl (Nat.le_of_ble_eq_true rfl) ?_
  intro p e s m args below meth c Q hQ hx hb hr hlk hml hown hts hw ls hl
  have hown : s.vm.findClass RX5 = some m.cls := hown
  have hl : lv_has ls 4 [(0, .ref (sA G 9 0)), (1, .int a1), (2, .int a2)] := hl
  have hiX5 : ∀ w ∈ u_ws RX5 TX5 15, w ∈ wsX5_prizeIf := by decide +kernel
  unfold fX5_prizeIf at h
  refine lv_aload_n hx hb dX5_prizeIf_0 rfl (lv_at hl 0 rfl) ?_
  obtain ⟨q1, eq1, h⟩ := o_bd h
  refine kV (As := []) (rest := []) (st' := []) ⟨hx, hb, hml, hown, hts⟩ (kX5_laysBy l G eq1) (cwV 0 hts gX5_prizeIf_X5_laysBy rfl rfl rfl qqX5_laysBy ⟨Nat.le_of_ble_eq_true rfl, Nat.le_of_ble_eq_true rfl⟩) hw (rvMd hw) rfl hl.1 rfl (Nat.le_of_ble_eq_true rfl) dX5_prizeIf_1 ⟨Nat.zero_le _, Nat.zero_le _⟩ rfl (fun H locs hw => ?_)
  refine lv_aload_n hx hb dX5_prizeIf_4 rfl (lv_at hl 0 rfl) ?_
  refine lv_iload_n hx hb dX5_prizeIf_5 rfl (lv_at hl 1 rfl) ?_
  refine lv_iconst (v := 1) hx hb dX5_prizeIf_6 (by decide) ?_
  refine lv_aload_n hx hb dX5_prizeIf_7 rfl (lv_at hl 0 rfl) ?_
  refine gMd (v := .ref (sA G 9 3)) hx hb hts hiX5 hown hw 2 (by decide) (hts (.fieldLink RX5 16 "SecondHomeModel" "close" "[I") (by decide +kernel)) rfl dX5_prizeIf_8 ?_
  refine lv_iconst (v := 5) hx hb dX5_prizeIf_11 (by decide) ?_
  refine lv_bipush (v := 8) hx hb dX5_prizeIf_12 (by decide) ?_
  refine lv_iload_n hx hb dX5_prizeIf_14 rfl (lv_at hl 2 rfl) ?_
  refine lv_imul hx hb dX5_prizeIf_15 ?_
  refine lv_iadd hx hb dX5_prizeIf_16 ?_
  refine lv_iconst (v := 1) hx hb dX5_prizeIf_17 (by decide) ?_
  refine lv_iadd hx hb dX5_prizeIf_18 ?_
  obtain ⟨b19, h⟩ := o_in h
  refine ldMd hx hb hw 2 (by decide) (n := 77) rfl b19 dX5_prizeIf_19 ?_
  obtain ⟨q20, eq20, h⟩ := o_bd h
  refine kV (As := [.int a1, .int (1 : Int32), .int (q1.2.1 2 (((5 : Int32) + ((8 : Int32) * a2)) + (1 : Int32)).toNatClampNeg)]) (rest := []) (st' := []) ⟨hx, hb, hml, hown, hts⟩ (kX5_puts l G eq20) (cwV 3 hts gX5_prizeIf_X5_puts rfl rfl rfl qqX5_puts ⟨Nat.le_of_ble_eq_true rfl, Nat.le_of_ble_eq_true rfl⟩) hw (rvMd hw) rfl hl.1 rfl (Nat.le_of_ble_eq_true rfl) dX5_prizeIf_20 ⟨Nat.zero_le _, Nat.zero_le _⟩ rfl (fun H locs hw => ?_)
  refine lv_aload_n hx hb dX5_prizeIf_23 rfl (lv_at hl 0 rfl) ?_
  refine lv_iload_n hx hb dX5_prizeIf_24 rfl (lv_at hl 2 rfl) ?_
  refine lv_iconst (v := 1) hx hb dX5_prizeIf_25 (by decide) ?_
  refine lv_aload_n hx hb dX5_prizeIf_26 rfl (lv_at hl 0 rfl) ?_
  refine gMd (v := .ref (sA G 9 3)) hx hb hts hiX5 hown hw 2 (by decide) (hts (.fieldLink RX5 16 "SecondHomeModel" "close" "[I") (by decide +kernel)) rfl dX5_prizeIf_27 ?_
  refine lv_iconst (v := 5) hx hb dX5_prizeIf_30 (by decide) ?_
  refine lv_bipush (v := 8) hx hb dX5_prizeIf_31 (by decide) ?_
  refine lv_iload_n hx hb dX5_prizeIf_33 rfl (lv_at hl 1 rfl) ?_
  refine lv_imul hx hb dX5_prizeIf_34 ?_
  refine lv_iadd hx hb dX5_prizeIf_35 ?_
  refine lv_iconst (v := 1) hx hb dX5_prizeIf_36 (by decide) ?_
  refine lv_iadd hx hb dX5_prizeIf_37 ?_
  obtain ⟨b38, h⟩ := o_in h
  refine ldMd hx hb hw 2 (by decide) (n := 77) rfl b38 dX5_prizeIf_38 ?_
  obtain ⟨q39, eq39, h⟩ := o_bd h
  refine kV (As := [.int a2, .int (1 : Int32), .int (q20.2.1 2 (((5 : Int32) + ((8 : Int32) * a1)) + (1 : Int32)).toNatClampNeg)]) (rest := []) (st' := []) ⟨hx, hb, hml, hown, hts⟩ (kX5_puts l G eq39) (cwV 3 hts gX5_prizeIf_X5_puts rfl rfl rfl qqX5_puts ⟨Nat.le_of_ble_eq_true rfl, Nat.le_of_ble_eq_true rfl⟩) hw (rvMd hw) rfl hl.1 rfl (Nat.le_of_ble_eq_true rfl) dX5_prizeIf_39 ⟨Nat.zero_le _, Nat.zero_le _⟩ rfl (fun H locs hw => ?_)
  refine lv_aload_n hx hb dX5_prizeIf_42 rfl (lv_at hl 0 rfl) ?_
  obtain ⟨q43, eq43, h⟩ := o_bd h
  refine kV (As := []) (rest := []) (st' := [.int q43.1]) ⟨hx, hb, hml, hown, hts⟩ (kX5_races l G eq43) (cwV 0 hts gX5_prizeIf_X5_races rfl rfl rfl qqX5_races ⟨Nat.le_of_ble_eq_true rfl, Nat.le_of_ble_eq_true rfl⟩) hw (rvMd hw) rfl hl.1 rfl (Nat.le_of_ble_eq_true rfl) dX5_prizeIf_43 ⟨Nat.zero_le _, Nat.zero_le _⟩ rfl (fun H locs hw => ?_)
  refine lv_istore_n (lv' := [(3, .int q43.1), (0, .ref (sA G 9 0)), (1, .int a1), (2, .int a2)]) hx hb dX5_prizeIf_46 rfl hl (by decide) rfl (fun ls hl => ?_)
  refine lv_aload_n hx hb dX5_prizeIf_47 rfl (lv_at hl 1 rfl) ?_
  obtain ⟨q48, eq48, h⟩ := o_bd h
  refine kV (As := []) (rest := []) (st' := []) ⟨hx, hb, hml, hown, hts⟩ (kX5_laysBack l G eq48) (cwV 0 hts gX5_prizeIf_X5_laysBack rfl rfl rfl qqX5_laysBack ⟨Nat.le_of_ble_eq_true rfl, Nat.le_of_ble_eq_true rfl⟩) hw (rvMd hw) rfl hl.1 rfl (Nat.le_of_ble_eq_true rfl) dX5_prizeIf_48 ⟨Nat.zero_le _, Nat.zero_le _⟩ rfl (fun H locs hw => ?_)
  refine lv_iload_n hx hb dX5_prizeIf_51 rfl (lv_at hl 0 rfl) ?_
  exact rI hQ hx hb hr hlk hw dX5_prizeIf_52 (o_2a h) rfl (o_2b h)
-- X5_deal
set_option maxRecDepth 100000 in
set_option maxHeartbeats 4000000 in
theorem kX5_deal (l : Launch) (G : sGl) {S : sWo} {M : sOb}  {q : (Int32 × sOb)}  (h : fX5_deal M = some q) : sCt l G yX5_deal wsX5_deal rmX5_deal [.ref (sA G 9 0)] S M (some (.int q.1)) S q.2 := by
  refine cMk (cc := cX5_deal) (maxL := 5) (ret := (some .int)) (by decide) rfl (Nat.le_of_ble_eq_true rfl) ?_
  intro p e s m args below meth c Q hQ hx hb hr hlk hml hown hts hw ls hl
  have hown : s.vm.findClass RX5 = some m.cls := hown
  have hl : lv_has ls 5 [(0, .ref (sA G 9 0))] := hl
  have hiX5 : ∀ w ∈ u_ws RX5 TX5 15, w ∈ wsX5_deal := by decide +kernel
  unfold fX5_deal at h
  refine lv_aload_n hx hb dX5_deal_0 rfl (lv_at hl 0 rfl) ?_
  obtain ⟨q1, eq1, h⟩ := o_bd h
  refine kV (As := []) (rest := []) (st' := []) ⟨hx, hb, hml, hown, hts⟩ (kX5_laysBy l G eq1) (cwV 0 hts gX5_deal_X5_laysBy rfl rfl rfl qqX5_laysBy ⟨Nat.le_of_ble_eq_true rfl, Nat.le_of_ble_eq_true rfl⟩) hw (rvMd hw) rfl hl.1 rfl (Nat.le_of_ble_eq_true rfl) dX5_deal_1 ⟨Nat.zero_le _, Nat.zero_le _⟩ rfl (fun H locs hw => ?_)
  refine lv_aload_n hx hb dX5_deal_4 rfl (lv_at hl 0 rfl) ?_
  obtain ⟨q5, eq5, h⟩ := o_bd h
  refine kV (As := []) (rest := []) (st' := [.int q5.1]) ⟨hx, hb, hml, hown, hts⟩ (kX5_races l G eq5) (cwV 0 hts gX5_deal_X5_races rfl rfl rfl qqX5_races ⟨Nat.le_of_ble_eq_true rfl, Nat.le_of_ble_eq_true rfl⟩) hw (rvMd hw) rfl hl.1 rfl (Nat.le_of_ble_eq_true rfl) dX5_deal_5 ⟨Nat.zero_le _, Nat.zero_le _⟩ rfl (fun H locs hw => ?_)
  refine lv_istore_n (lv' := [(1, .int q5.1), (0, .ref (sA G 9 0))]) hx hb dX5_deal_8 rfl hl (by decide) rfl (fun ls hl => ?_)
  refine lv_aload_n hx hb dX5_deal_9 rfl (lv_at hl 1 rfl) ?_
  obtain ⟨q10, eq10, h⟩ := o_bd h
  refine kV (As := []) (rest := []) (st' := []) ⟨hx, hb, hml, hown, hts⟩ (kX5_laysBack l G eq10) (cwV 0 hts gX5_deal_X5_laysBack rfl rfl rfl qqX5_laysBack ⟨Nat.le_of_ble_eq_true rfl, Nat.le_of_ble_eq_true rfl⟩) hw (rvMd hw) rfl hl.1 rfl (Nat.le_of_ble_eq_true rfl) dX5_deal_10 ⟨Nat.zero_le _, Nat.zero_le _⟩ rfl (fun H locs hw => ?_)
  refine lv_iconst (v := 0) hx hb dX5_deal_13 (by decide) ?_
  refine lv_istore_n (lv' := [(2, .int (0 : Int32)), (1, .int q5.1), (0, .ref (sA G 9 0))]) hx hb dX5_deal_14 rfl hl (by decide) rfl (fun ls hl => ?_)
  refine fx2_w (F := (bX5_deal_15 q5)) (P := fun x2_15 T_15 => ∀ (H : Heap) (locs : List Loc) (ls : Array Slot), sHw G s S T_15 H locs → lv_has ls 5 [(0, .ref (sA G 9 0)), (1, .int q5.1), (2, .int x2_15)] → W p l e rmX5_deal s m args below meth c H locs 0 0 Q (F0 m 15 ls [])) ?_ _ _ _ h _ _ _ hw (lv_sub hl [2, 1, 0] rfl)
  intro rc15 IH15 x2_15 T_15 h H locs ls hw hl
  unfold bX5_deal_15 at h
  refine lv_iload_n hx hb dX5_deal_15 rfl (lv_at hl 2 rfl) ?_
  refine lv_aload_n hx hb dX5_deal_16 rfl (lv_at hl 0 rfl) ?_
  refine gMd (v := .ref (sA G 9 1)) hx hb hts hiX5 hown hw 0 (by decide) (hts (.fieldLink RX5 7 "SecondHomeModel" "s" "[I") (by decide +kernel)) rfl dX5_deal_17 ?_
  refine lv_iconst (v := 0) hx hb dX5_deal_20 (by decide) ?_
  refine ldMd hx hb hw 0 (by decide) (n := 77) rfl (by decide) dX5_deal_21 ?_
  refine lv_icmp_ge (tgt := 81) hx hb dX5_deal_22 (by decide) (fun c22 => ?_) (fun c22 => ?_)
  · replace h := o_t c22 h
    refine lv_aload_n hx hb dX5_deal_81 rfl (lv_at hl 0 rfl) ?_
    refine lv_ldc (v := -1000000004) hx hb hown (hts (.constant RX5 39 (-1000000004)) (by decide +kernel)) dX5_deal_82 ?_
    obtain ⟨q84, eq84, h⟩ := o_bd h
    refine kV (As := [.int (-1000000004 : Int32)]) (rest := []) (st' := [.int q84.1]) ⟨hx, hb, hml, hown, hts⟩ (kX5_finds l G eq84) (cwV 1 hts gX5_deal_X5_finds rfl rfl rfl qqX5_finds ⟨Nat.le_of_ble_eq_true rfl, Nat.le_of_ble_eq_true rfl⟩) hw (rvMd hw) rfl hl.1 rfl (Nat.le_of_ble_eq_true rfl) dX5_deal_84 ⟨Nat.zero_le _, Nat.zero_le _⟩ rfl (fun H locs hw => ?_)
    exact rI hQ hx hb hr hlk hw dX5_deal_87 (o_2a h) rfl (o_2b h)
  · replace h := o_f c22 h
    refine lv_iload_n hx hb dX5_deal_25 rfl (lv_at hl 1 rfl) ?_
    refine lv_if_lt (tgt := 81) hx hb dX5_deal_26 (by decide) (fun c26 => ?_) (fun c26 => ?_)
    · replace h := o_t c26 h
      refine lv_aload_n hx hb dX5_deal_81 rfl (lv_at hl 0 rfl) ?_
      refine lv_ldc (v := -1000000004) hx hb hown (hts (.constant RX5 39 (-1000000004)) (by decide +kernel)) dX5_deal_82 ?_
      obtain ⟨q84, eq84, h⟩ := o_bd h
      refine kV (As := [.int (-1000000004 : Int32)]) (rest := []) (st' := [.int q84.1]) ⟨hx, hb, hml, hown, hts⟩ (kX5_finds l G eq84) (cwV 1 hts gX5_deal_X5_finds rfl rfl rfl qqX5_finds ⟨Nat.le_of_ble_eq_true rfl, Nat.le_of_ble_eq_true rfl⟩) hw (rvMd hw) rfl hl.1 rfl (Nat.le_of_ble_eq_true rfl) dX5_deal_84 ⟨Nat.zero_le _, Nat.zero_le _⟩ rfl (fun H locs hw => ?_)
      exact rI hQ hx hb hr hlk hw dX5_deal_87 (o_2a h) rfl (o_2b h)
    · replace h := o_f c26 h
      refine lv_iload_n hx hb dX5_deal_29 rfl (lv_at hl 2 rfl) ?_
      refine lv_iconst (v := 1) hx hb dX5_deal_30 (by decide) ?_
      refine lv_iadd hx hb dX5_deal_31 ?_
      refine lv_topi (fun v32 ev32 => ?_)
      replace h := o_nx ev32 h
      refine lv_istore_n (lv' := [(3, .int v32), (0, .ref (sA G 9 0)), (1, .int q5.1), (2, .int x2_15)]) hx hb dX5_deal_32 rfl hl (by decide) rfl (fun ls hl => ?_)
      refine fx2_w (F := (bX5_deal_33 q5 rc15 x2_15)) (P := fun x3_33 T_33 => ∀ (H : Heap) (locs : List Loc) (ls : Array Slot), sHw G s S T_33 H locs → lv_has ls 5 [(0, .ref (sA G 9 0)), (1, .int q5.1), (2, .int x2_15), (3, .int x3_33)] → W p l e rmX5_deal s m args below meth c H locs 0 0 Q (F0 m 33 ls [])) ?_ _ _ _ h _ _ _ hw (lv_sub hl [1, 2, 3, 0] rfl)
      intro rc33 IH33 x3_33 T_33 h H locs ls hw hl
      unfold bX5_deal_33 at h
      refine lv_iload_n hx hb dX5_deal_33 rfl (lv_at hl 3 rfl) ?_
      refine lv_aload_n hx hb dX5_deal_34 rfl (lv_at hl 0 rfl) ?_
      refine gMd (v := .ref (sA G 9 1)) hx hb hts hiX5 hown hw 0 (by decide) (hts (.fieldLink RX5 7 "SecondHomeModel" "s" "[I") (by decide +kernel)) rfl dX5_deal_35 ?_
      refine lv_iconst (v := 0) hx hb dX5_deal_38 (by decide) ?_
      refine ldMd hx hb hw 0 (by decide) (n := 77) rfl (by decide) dX5_deal_39 ?_
      refine lv_icmp_ge (tgt := 75) hx hb dX5_deal_40 (by decide) (fun c40 => ?_) (fun c40 => ?_)
      · replace h := o_t c40 h
        obtain ⟨v75, ev75, h⟩ := o_nm h
        refine lv_iinc (v := v75) (lv' := [(2, .int v75), (0, .ref (sA G 9 0)), (1, .int q5.1), (3, .int x3_33)]) hx hb dX5_deal_75 hl (k := 2) rfl (by rw [ev75]; rfl) (by decide) rfl (fun ls hl => ?_)
        refine lv_goto (tgt := 15) hx hb dX5_deal_78 (by decide) ?_
        exact IH15 v75 T_33 h _ _ _ hw (lv_sub hl [1, 2, 0] rfl)
      · replace h := o_f c40 h
        refine lv_aload_n hx hb dX5_deal_43 rfl (lv_at hl 0 rfl) ?_
        refine lv_iload_n hx hb dX5_deal_44 rfl (lv_at hl 2 rfl) ?_
        refine lv_iload_n hx hb dX5_deal_45 rfl (lv_at hl 3 rfl) ?_
        obtain ⟨q46, eq46, h⟩ := o_bd h
        refine kV (As := [.int x2_15, .int x3_33]) (rest := []) (st' := [.int q46.1]) ⟨hx, hb, hml, hown, hts⟩ (kX5_prizeIf l G eq46) (cwV 2 hts gX5_deal_X5_prizeIf rfl rfl rfl qqX5_prizeIf ⟨Nat.le_of_ble_eq_true rfl, Nat.le_of_ble_eq_true rfl⟩) hw (rvMd hw) rfl hl.1 rfl (Nat.le_of_ble_eq_true rfl) dX5_deal_46 ⟨Nat.zero_le _, Nat.zero_le _⟩ rfl (fun H locs hw => ?_)
        refine lv_istore (lv' := [(4, .int q46.1), (0, .ref (sA G 9 0)), (1, .int q5.1), (2, .int x2_15), (3, .int x3_33)]) hx hb dX5_deal_49 hl (by decide) rfl (fun ls hl => ?_)
        refine lv_iload hx hb dX5_deal_51 (lv_at hl 0 rfl) ?_
        refine lv_if_lt (tgt := 69) hx hb dX5_deal_53 (by decide) (fun c53 => ?_) (fun c53 => ?_)
        · replace h := o_t c53 h
          obtain ⟨v69, ev69, h⟩ := o_nm h
          refine lv_iinc (v := v69) (lv' := [(3, .int v69), (4, .int q46.1), (0, .ref (sA G 9 0)), (1, .int q5.1), (2, .int x2_15)]) hx hb dX5_deal_69 hl (k := 4) rfl (by rw [ev69]; rfl) (by decide) rfl (fun ls hl => ?_)
          refine lv_goto (tgt := 33) hx hb dX5_deal_72 (by decide) ?_
          exact IH33 v69 q46.2 h _ _ _ hw (lv_sub hl [2, 3, 4, 0] rfl)
        · replace h := o_f c53 h
          refine lv_iload hx hb dX5_deal_56 (lv_at hl 0 rfl) ?_
          refine lv_iload_n hx hb dX5_deal_58 rfl (lv_at hl 2 rfl) ?_
          refine lv_icmp_eq (tgt := 69) hx hb dX5_deal_59 (by decide) (fun c59 => ?_) (fun c59 => ?_)
          · replace h := o_t c59 h
            obtain ⟨v69, ev69, h⟩ := o_nm h
            refine lv_iinc (v := v69) (lv' := [(3, .int v69), (4, .int q46.1), (0, .ref (sA G 9 0)), (1, .int q5.1), (2, .int x2_15)]) hx hb dX5_deal_69 hl (k := 4) rfl (by rw [ev69]; rfl) (by decide) rfl (fun ls hl => ?_)
            refine lv_goto (tgt := 33) hx hb dX5_deal_72 (by decide) ?_
            exact IH33 v69 q46.2 h _ _ _ hw (lv_sub hl [2, 3, 4, 0] rfl)
          · replace h := o_f c59 h
            refine lv_bipush (v := 10) hx hb dX5_deal_62 (by decide) ?_
            refine lv_iload_n hx hb dX5_deal_64 rfl (lv_at hl 3 rfl) ?_
            refine lv_imul hx hb dX5_deal_65 ?_
            refine lv_iload_n hx hb dX5_deal_66 rfl (lv_at hl 4 rfl) ?_
            refine lv_iadd hx hb dX5_deal_67 ?_
            exact rI hQ hx hb hr hlk hw dX5_deal_68 (o_2a h) rfl (o_2b h)
-- X5_fair
set_option maxRecDepth 100000 in
set_option maxHeartbeats 4000000 in
theorem kX5_fair (l : Launch) (G : sGl) {S : sWo} {M : sOb}  {q : (Int32 × sOb)}  (h : fX5_fair M = some q) : sCt l G yX5_fair wsX5_fair rmX5_fair [.ref (sA G 9 0)] S M (some (.int q.1)) S q.2 := by
  refine cMk (cc := cX5_fair) (maxL := 4) (ret := (some .int)) (by decide) rfl (Nat.le_of_ble_eq_true rfl) ?_
  intro p e s m args below meth c Q hQ hx hb hr hlk hml hown hts hw ls hl
  have hown : s.vm.findClass RX5 = some m.cls := hown
  have hl : lv_has ls 4 [(0, .ref (sA G 9 0))] := hl
  have hiX5 : ∀ w ∈ u_ws RX5 TX5 15, w ∈ wsX5_fair := by decide +kernel
  unfold fX5_fair at h
  refine lv_iconst (v := -1) hx hb dX5_fair_0 (by decide) ?_
  refine lv_istore_n (lv' := [(1, .int (-1 : Int32)), (0, .ref (sA G 9 0))]) hx hb dX5_fair_1 rfl hl (by decide) rfl (fun ls hl => ?_)
  refine lv_iconst (v := 0) hx hb dX5_fair_2 (by decide) ?_
  refine lv_istore_n (lv' := [(2, .int (0 : Int32)), (1, .int (-1 : Int32)), (0, .ref (sA G 9 0))]) hx hb dX5_fair_3 rfl hl (by decide) rfl (fun ls hl => ?_)
  obtain ⟨k45, ek45, h⟩ := o_nm h
  have J45 : ∀ (x1_45 : Int32) (H : Heap) (locs : List Loc) (ls : Array Slot), sHw G s S M H locs → lv_has ls 4 [(0, .ref (sA G 9 0)), (1, .int x1_45)] → k45 x1_45 = some q → W p l e rmX5_fair s m args below meth c H locs 0 0 Q (F0 m 45 ls []) := by
    intro x1_45 H locs ls hw hl h
    replace h := o_j1 ek45 h
    refine lv_iconst (v := 0) hx hb dX5_fair_45 (by decide) ?_
    refine lv_istore_n (lv' := [(2, .int (0 : Int32)), (0, .ref (sA G 9 0)), (1, .int x1_45)]) hx hb dX5_fair_46 rfl hl (by decide) rfl (fun ls hl => ?_)
    refine fx2_w (F := (bX5_fair_47 x1_45)) (P := fun x2_47 T_47 => ∀ (H : Heap) (locs : List Loc) (ls : Array Slot), sHw G s S T_47 H locs → lv_has ls 4 [(0, .ref (sA G 9 0)), (1, .int x1_45), (2, .int x2_47)] → W p l e rmX5_fair s m args below meth c H locs 0 0 Q (F0 m 47 ls [])) ?_ _ _ _ h _ _ _ hw (lv_sub hl [1, 2, 0] rfl)
    intro rc47 IH47 x2_47 T_47 h H locs ls hw hl
    unfold bX5_fair_47 at h
    refine lv_iload_n hx hb dX5_fair_47 rfl (lv_at hl 2 rfl) ?_
    refine lv_iconst (v := 5) hx hb dX5_fair_48 (by decide) ?_
    refine lv_icmp_gt (tgt := 97) hx hb dX5_fair_49 (by decide) (fun c49 => ?_) (fun c49 => ?_)
    · replace h := o_t c49 h
      refine lv_aload_n hx hb dX5_fair_97 rfl (lv_at hl 0 rfl) ?_
      refine lv_ldc (v := -1000000004) hx hb hown (hts (.constant RX5 39 (-1000000004)) (by decide +kernel)) dX5_fair_98 ?_
      obtain ⟨q100, eq100, h⟩ := o_bd h
      refine kV (As := [.int (-1000000004 : Int32)]) (rest := []) (st' := [.int q100.1]) ⟨hx, hb, hml, hown, hts⟩ (kX5_finds l G eq100) (cwV 1 hts gX5_fair_X5_finds rfl rfl rfl qqX5_finds ⟨Nat.le_of_ble_eq_true rfl, Nat.le_of_ble_eq_true rfl⟩) hw (rvMd hw) rfl hl.1 rfl (Nat.le_of_ble_eq_true rfl) dX5_fair_100 ⟨Nat.zero_le _, Nat.zero_le _⟩ rfl (fun H locs hw => ?_)
      exact rI hQ hx hb hr hlk hw dX5_fair_103 (o_2a h) rfl (o_2b h)
    · replace h := o_f c49 h
      refine lv_iload_n hx hb dX5_fair_52 rfl (lv_at hl 1 rfl) ?_
      refine lv_if_lt (tgt := 97) hx hb dX5_fair_53 (by decide) (fun c53 => ?_) (fun c53 => ?_)
      · replace h := o_t c53 h
        refine lv_aload_n hx hb dX5_fair_97 rfl (lv_at hl 0 rfl) ?_
        refine lv_ldc (v := -1000000004) hx hb hown (hts (.constant RX5 39 (-1000000004)) (by decide +kernel)) dX5_fair_98 ?_
        obtain ⟨q100, eq100, h⟩ := o_bd h
        refine kV (As := [.int (-1000000004 : Int32)]) (rest := []) (st' := [.int q100.1]) ⟨hx, hb, hml, hown, hts⟩ (kX5_finds l G eq100) (cwV 1 hts gX5_fair_X5_finds rfl rfl rfl qqX5_finds ⟨Nat.le_of_ble_eq_true rfl, Nat.le_of_ble_eq_true rfl⟩) hw (rvMd hw) rfl hl.1 rfl (Nat.le_of_ble_eq_true rfl) dX5_fair_100 ⟨Nat.zero_le _, Nat.zero_le _⟩ rfl (fun H locs hw => ?_)
        exact rI hQ hx hb hr hlk hw dX5_fair_103 (o_2a h) rfl (o_2b h)
      · replace h := o_f c53 h
        refine lv_aload_n hx hb dX5_fair_56 rfl (lv_at hl 0 rfl) ?_
        obtain ⟨q57, eq57, h⟩ := o_bd h
        refine kV (As := []) (rest := []) (st' := []) ⟨hx, hb, hml, hown, hts⟩ (kX5_laysBy l G eq57) (cwV 0 hts gX5_fair_X5_laysBy rfl rfl rfl qqX5_laysBy ⟨Nat.le_of_ble_eq_true rfl, Nat.le_of_ble_eq_true rfl⟩) hw (rvMd hw) rfl hl.1 rfl (Nat.le_of_ble_eq_true rfl) dX5_fair_57 ⟨Nat.zero_le _, Nat.zero_le _⟩ rfl (fun H locs hw => ?_)
        refine lv_aload_n hx hb dX5_fair_60 rfl (lv_at hl 0 rfl) ?_
        refine gMd (v := .ref (sA G 9 1)) hx hb hts hiX5 hown hw 0 (by decide) (hts (.fieldLink RX5 7 "SecondHomeModel" "s" "[I") (by decide +kernel)) rfl dX5_fair_61 ?_
        refine lv_iconst (v := 2) hx hb dX5_fair_64 (by decide) ?_
        refine lv_iload_n hx hb dX5_fair_65 rfl (lv_at hl 2 rfl) ?_
        refine stMd hx hb hw 0 (by decide) (n := 77) rfl (by decide) dX5_fair_66 rfl (fun H locs hw => ?_)
        obtain ⟨M66, eM66, h⟩ := o_nm h
        rw [← eM66] at hw
        refine lv_aload_n hx hb dX5_fair_67 rfl (lv_at hl 0 rfl) ?_
        obtain ⟨q68, eq68, h⟩ := o_bd h
        refine kV (As := []) (rest := []) (st' := [.int q68.1]) ⟨hx, hb, hml, hown, hts⟩ (kX5_races l G eq68) (cwV 0 hts gX5_fair_X5_races rfl rfl rfl qqX5_races ⟨Nat.le_of_ble_eq_true rfl, Nat.le_of_ble_eq_true rfl⟩) hw (rvMd hw) rfl hl.1 rfl (Nat.le_of_ble_eq_true rfl) dX5_fair_68 ⟨Nat.zero_le _, Nat.zero_le _⟩ rfl (fun H locs hw => ?_)
        refine lv_iload_n hx hb dX5_fair_71 rfl (lv_at hl 1 rfl) ?_
        obtain ⟨k80, ek80, h⟩ := o_nm h
        have J80 : ∀ (y0_80 : Int32) (H : Heap) (locs : List Loc) (ls : Array Slot), sHw G s S q68.2 H locs → lv_has ls 4 [(0, .ref (sA G 9 0)), (1, .int x1_45), (2, .int x2_47)] → k80 y0_80 = some q → W p l e rmX5_fair s m args below meth c H locs 0 0 Q (F0 m 80 ls [.int y0_80]) := by
          intro y0_80 H locs ls hw hl h
          replace h := o_j1 ek80 h
          refine lv_istore_n (lv' := [(3, .int y0_80), (0, .ref (sA G 9 0)), (1, .int x1_45), (2, .int x2_47)]) hx hb dX5_fair_80 rfl hl (by decide) rfl (fun ls hl => ?_)
          refine lv_aload_n hx hb dX5_fair_81 rfl (lv_at hl 1 rfl) ?_
          obtain ⟨q82, eq82, h⟩ := o_bd h
          refine kV (As := []) (rest := []) (st' := []) ⟨hx, hb, hml, hown, hts⟩ (kX5_laysBack l G eq82) (cwV 0 hts gX5_fair_X5_laysBack rfl rfl rfl qqX5_laysBack ⟨Nat.le_of_ble_eq_true rfl, Nat.le_of_ble_eq_true rfl⟩) hw (rvMd hw) rfl hl.1 rfl (Nat.le_of_ble_eq_true rfl) dX5_fair_82 ⟨Nat.zero_le _, Nat.zero_le _⟩ rfl (fun H locs hw => ?_)
          refine lv_iload_n hx hb dX5_fair_85 rfl (lv_at hl 0 rfl) ?_
          refine lv_if_eq (tgt := 91) hx hb dX5_fair_86 (by decide) (fun c86 => ?_) (fun c86 => ?_)
          · replace h := o_t c86 h
            obtain ⟨v91, ev91, h⟩ := o_nm h
            refine lv_iinc (v := v91) (lv' := [(2, .int v91), (3, .int y0_80), (0, .ref (sA G 9 0)), (1, .int x1_45)]) hx hb dX5_fair_91 hl (k := 3) rfl (by rw [ev91]; rfl) (by decide) rfl (fun ls hl => ?_)
            refine lv_goto (tgt := 47) hx hb dX5_fair_94 (by decide) ?_
            exact IH47 v91 q82 h _ _ _ hw (lv_sub hl [2, 3, 0] rfl)
          · replace h := o_f c86 h
            refine lv_iload_n hx hb dX5_fair_89 rfl (lv_at hl 3 rfl) ?_
            exact rI hQ hx hb hr hlk hw dX5_fair_90 (o_2a h) rfl (o_2b h)
        refine lv_icmp_ne (tgt := 79) hx hb dX5_fair_72 (by decide) (fun c72 => ?_) (fun c72 => ?_)
        · replace h := o_f c72 h
          refine lv_iconst (v := 0) hx hb dX5_fair_79 (by decide) ?_
          exact J80 (0 : Int32) _ _ _ hw (lv_sub hl [0, 1, 2] rfl) h
        · replace h := o_t c72 h
          refine lv_iconst (v := 1) hx hb dX5_fair_75 (by decide) ?_
          refine lv_goto (tgt := 80) hx hb dX5_fair_76 (by decide) ?_
          exact J80 (1 : Int32) _ _ _ hw (lv_sub hl [0, 1, 2] rfl) h
  refine fx2_w (F := (bX5_fair_4 M k45)) (P := fun x1_4 x2_4 => ∀ (H : Heap) (locs : List Loc) (ls : Array Slot), sHw G s S M H locs → lv_has ls 4 [(0, .ref (sA G 9 0)), (1, .int x1_4), (2, .int x2_4)] → W p l e rmX5_fair s m args below meth c H locs 0 0 Q (F0 m 4 ls [])) ?_ _ _ _ h _ _ _ hw (lv_sub hl [2, 1, 0] rfl)
  intro rc4 IH4 x1_4 x2_4 h H locs ls hw hl
  unfold bX5_fair_4 at h
  refine lv_iload_n hx hb dX5_fair_4 rfl (lv_at hl 2 rfl) ?_
  refine lv_aload_n hx hb dX5_fair_5 rfl (lv_at hl 0 rfl) ?_
  refine gMd (v := .ref (sA G 9 1)) hx hb hts hiX5 hown hw 0 (by decide) (hts (.fieldLink RX5 7 "SecondHomeModel" "s" "[I") (by decide +kernel)) rfl dX5_fair_6 ?_
  refine lv_iconst (v := 0) hx hb dX5_fair_9 (by decide) ?_
  refine ldMd hx hb hw 0 (by decide) (n := 77) rfl (by decide) dX5_fair_10 ?_
  refine lv_icmp_ge (tgt := 45) hx hb dX5_fair_11 (by decide) (fun c11 => ?_) (fun c11 => ?_)
  · replace h := o_t c11 h
    exact J45 x1_4 _ _ _ hw (lv_sub hl [0, 1] rfl) h
  · replace h := o_f c11 h
    refine lv_iload_n hx hb dX5_fair_14 rfl (lv_at hl 1 rfl) ?_
    refine lv_if_lt (tgt := 33) hx hb dX5_fair_15 (by decide) (fun c15 => ?_) (fun c15 => ?_)
    · replace h := o_t c15 h
      refine lv_iload_n hx hb dX5_fair_33 rfl (lv_at hl 2 rfl) ?_
      refine lv_goto (tgt := 38) hx hb dX5_fair_34 (by decide) ?_
      refine lv_istore_n (lv' := [(1, .int x2_4), (0, .ref (sA G 9 0)), (2, .int x2_4)]) hx hb dX5_fair_38 rfl hl (by decide) rfl (fun ls hl => ?_)
      obtain ⟨v39, ev39, h⟩ := o_nm h
      refine lv_iinc (v := v39) (lv' := [(2, .int v39), (1, .int x2_4), (0, .ref (sA G 9 0))]) hx hb dX5_fair_39 hl (k := 2) rfl (by rw [ev39]; rfl) (by decide) rfl (fun ls hl => ?_)
      refine lv_goto (tgt := 4) hx hb dX5_fair_42 (by decide) ?_
      exact IH4 x2_4 v39 h _ _ _ hw (lv_sub hl [2, 1, 0] rfl)
    · replace h := o_f c15 h
      refine lv_aload_n hx hb dX5_fair_18 rfl (lv_at hl 0 rfl) ?_
      refine lv_iload_n hx hb dX5_fair_19 rfl (lv_at hl 2 rfl) ?_
      refine lv_iconst (v := 1) hx hb dX5_fair_20 (by decide) ?_
      obtain ⟨q21, eq21, h⟩ := o_bd h
      refine kV (As := [.int x2_4, .int (1 : Int32)]) (rest := []) (st' := [.int q21]) ⟨hx, hb, hml, hown, hts⟩ (kX5_is l G eq21) (cwV 2 hts gX5_fair_X5_is rfl rfl rfl qqX5_is ⟨Nat.le_of_ble_eq_true rfl, Nat.le_of_ble_eq_true rfl⟩) hw (rvMd hw) rfl hl.1 rfl (Nat.le_of_ble_eq_true rfl) dX5_fair_21 ⟨Nat.zero_le _, Nat.zero_le _⟩ rfl (fun H locs hw => ?_)
      refine lv_aload_n hx hb dX5_fair_24 rfl (lv_at hl 0 rfl) ?_
      refine lv_iload_n hx hb dX5_fair_25 rfl (lv_at hl 1 rfl) ?_
      refine lv_iconst (v := 1) hx hb dX5_fair_26 (by decide) ?_
      obtain ⟨q27, eq27, h⟩ := o_bd h
      refine kV (As := [.int x1_4, .int (1 : Int32)]) (rest := [.int q21]) (st' := [.int q27, .int q21]) ⟨hx, hb, hml, hown, hts⟩ (kX5_is l G eq27) (cwV 2 hts gX5_fair_X5_is rfl rfl rfl qqX5_is ⟨Nat.le_of_ble_eq_true rfl, Nat.le_of_ble_eq_true rfl⟩) hw (rvMd hw) rfl hl.1 rfl (Nat.le_of_ble_eq_true rfl) dX5_fair_27 ⟨Nat.zero_le _, Nat.zero_le _⟩ rfl (fun H locs hw => ?_)
      refine lv_icmp_le (tgt := 37) hx hb dX5_fair_30 (by decide) (fun c30 => ?_) (fun c30 => ?_)
      · replace h := o_t c30 h
        refine lv_iload_n hx hb dX5_fair_37 rfl (lv_at hl 1 rfl) ?_
        refine lv_istore_n (lv' := [(1, .int x1_4), (0, .ref (sA G 9 0)), (2, .int x2_4)]) hx hb dX5_fair_38 rfl hl (by decide) rfl (fun ls hl => ?_)
        obtain ⟨v39, ev39, h⟩ := o_nm h
        refine lv_iinc (v := v39) (lv' := [(2, .int v39), (1, .int x1_4), (0, .ref (sA G 9 0))]) hx hb dX5_fair_39 hl (k := 2) rfl (by rw [ev39]; rfl) (by decide) rfl (fun ls hl => ?_)
        refine lv_goto (tgt := 4) hx hb dX5_fair_42 (by decide) ?_
        exact IH4 x1_4 v39 h _ _ _ hw (lv_sub hl [2, 1, 0] rfl)
      · replace h := o_f c30 h
        refine lv_iload_n hx hb dX5_fair_33 rfl (lv_at hl 2 rfl) ?_
        refine lv_goto (tgt := 38) hx hb dX5_fair_34 (by decide) ?_
        refine lv_istore_n (lv' := [(1, .int x2_4), (0, .ref (sA G 9 0)), (2, .int x2_4)]) hx hb dX5_fair_38 rfl hl (by decide) rfl (fun ls hl => ?_)
        obtain ⟨v39, ev39, h⟩ := o_nm h
        refine lv_iinc (v := v39) (lv' := [(2, .int v39), (1, .int x2_4), (0, .ref (sA G 9 0))]) hx hb dX5_fair_39 hl (k := 2) rfl (by rw [ev39]; rfl) (by decide) rfl (fun ls hl => ?_)
        refine lv_goto (tgt := 4) hx hb dX5_fair_42 (by decide) ?_
        exact IH4 x2_4 v39 h _ _ _ hw (lv_sub hl [2, 1, 0] rfl)
-- X5_odds
set_option maxRecDepth 100000 in
set_option maxHeartbeats 4000000 in
theorem kX5_odds (l : Launch) (G : sGl) {S : sWo} {M : sOb} {a1 : Int32} {a2 : Int32} {a3 : Int32} {q : (Int32 × sOb)}  (h : fX5_odds M a1 a2 a3 = some q) : sCt l G yX5_odds wsX5_odds rmX5_odds [.ref (sA G 9 0), .int a1, .int a2, .int a3] S M (some (.int q.1)) S q.2 := by
  refine cMk (cc := cX5_odds) (maxL := 8) (ret := (some .int)) (by decide) rfl (Nat.le_of_ble_eq_true rfl) ?_
  intro p e s m args below meth c Q hQ hx hb hr hlk hml hown hts hw ls hl
  have hown : s.vm.findClass RX5 = some m.cls := hown
  have hl : lv_has ls 8 [(0, .ref (sA G 9 0)), (1, .int a1), (2, .int a2), (3, .int a3)] := hl
  have hiX5 : ∀ w ∈ u_ws RX5 TX5 15, w ∈ wsX5_odds := by decide +kernel
  unfold fX5_odds at h
  refine lv_aload_n hx hb dX5_odds_0 rfl (lv_at hl 0 rfl) ?_
  refine lv_iload_n hx hb dX5_odds_1 rfl (lv_at hl 1 rfl) ?_
  obtain ⟨q2, eq2, h⟩ := o_bd h
  refine kV (As := [.int a1]) (rest := []) (st' := [.int q2]) ⟨hx, hb, hml, hown, hts⟩ (kX5_isRunner l G eq2) (cwV 1 hts gX5_odds_X5_isRunner rfl rfl rfl qqX5_isRunner ⟨Nat.le_of_ble_eq_true rfl, Nat.le_of_ble_eq_true rfl⟩) hw (rvMd hw) rfl hl.1 rfl (Nat.le_of_ble_eq_true rfl) dX5_odds_2 ⟨Nat.zero_le _, Nat.zero_le _⟩ rfl (fun H locs hw => ?_)
  refine lv_if_eq (tgt := 20) hx hb dX5_odds_5 (by decide) (fun c5 => ?_) (fun c5 => ?_)
  · replace h := o_t c5 h
    refine lv_aload_n hx hb dX5_odds_20 rfl (lv_at hl 0 rfl) ?_
    refine lv_ldc (v := -1000000001) hx hb hown (hts (.constant RX5 38 (-1000000001)) (by decide +kernel)) dX5_odds_21 ?_
    obtain ⟨q23, eq23, h⟩ := o_bd h
    refine kV (As := [.int (-1000000001 : Int32)]) (rest := []) (st' := [.int q23.1]) ⟨hx, hb, hml, hown, hts⟩ (kX5_finds l G eq23) (cwV 1 hts gX5_odds_X5_finds rfl rfl rfl qqX5_finds ⟨Nat.le_of_ble_eq_true rfl, Nat.le_of_ble_eq_true rfl⟩) hw (rvMd hw) rfl hl.1 rfl (Nat.le_of_ble_eq_true rfl) dX5_odds_23 ⟨Nat.zero_le _, Nat.zero_le _⟩ rfl (fun H locs hw => ?_)
    exact rI hQ hx hb hr hlk hw dX5_odds_26 (o_2a h) rfl (o_2b h)
  · replace h := o_f c5 h
    refine lv_iload_n hx hb dX5_odds_8 rfl (lv_at hl 2 rfl) ?_
    refine lv_i2l hx hb dX5_odds_9 rfl ?_
    refine lv_lconst (v := 1) hx hb dX5_odds_10 (by decide) ?_
    refine lv_ldc2 (v := 20) hx hb hown (hts (.constantLong RX5 163 (20)) (by decide +kernel)) dX5_odds_11 ?_
    obtain ⟨q14, eq14, h⟩ := o_bd h
    refine kS (As := [.long a2.toInt64, .long (1 : Int64), .long (20 : Int64)]) (rest := []) (st' := [.int q14]) ⟨hx, hb, hml, hown, hts⟩ (kX5_isIn l G eq14) (va_cwS 3 hts gX5_odds_X5_isIn rfl rfl rfl qqX5_isIn ⟨Nat.le_of_ble_eq_true rfl, Nat.le_of_ble_eq_true rfl⟩) hw rfl hl.1 rfl (Nat.le_of_ble_eq_true rfl) dX5_odds_14 ⟨Nat.zero_le _, Nat.zero_le _⟩ rfl (fun H locs hw => ?_)
    refine lv_if_ne (tgt := 27) hx hb dX5_odds_17 (by decide) (fun c17 => ?_) (fun c17 => ?_)
    · replace h := o_f c17 h
      refine lv_iload_n hx hb dX5_odds_27 rfl (lv_at hl 3 rfl) ?_
      refine lv_istore (lv' := [(4, .int a3), (0, .ref (sA G 9 0)), (1, .int a1), (2, .int a2), (3, .int a3)]) hx hb dX5_odds_28 hl (by decide) rfl (fun ls hl => ?_)
      refine lv_iconst (v := 0) hx hb dX5_odds_30 (by decide) ?_
      refine lv_istore (lv' := [(5, .int (0 : Int32)), (4, .int a3), (0, .ref (sA G 9 0)), (1, .int a1), (2, .int a2), (3, .int a3)]) hx hb dX5_odds_31 hl (by decide) rfl (fun ls hl => ?_)
      refine lv_aload_n hx hb dX5_odds_33 rfl (lv_at hl 2 rfl) ?_
      obtain ⟨q34, eq34, h⟩ := o_bd h
      refine kV (As := []) (rest := []) (st' := []) ⟨hx, hb, hml, hown, hts⟩ (kX5_laysBy l G eq34) (cwV 0 hts gX5_odds_X5_laysBy rfl rfl rfl qqX5_laysBy ⟨Nat.le_of_ble_eq_true rfl, Nat.le_of_ble_eq_true rfl⟩) hw (rvMd hw) rfl hl.1 rfl (Nat.le_of_ble_eq_true rfl) dX5_odds_34 ⟨Nat.zero_le _, Nat.zero_le _⟩ rfl (fun H locs hw => ?_)
      refine lv_iconst (v := 0) hx hb dX5_odds_37 (by decide) ?_
      refine lv_istore (lv' := [(6, .int (0 : Int32)), (5, .int (0 : Int32)), (4, .int a3), (0, .ref (sA G 9 0)), (1, .int a1), (2, .int a2), (3, .int a3)]) hx hb dX5_odds_38 hl (by decide) rfl (fun ls hl => ?_)
      refine fx4_w (F := (bX5_odds_40 a1 a2)) (P := fun x4_40 x5_40 x6_40 T_40 => ∀ (H : Heap) (locs : List Loc) (ls : Array Slot), sHw G s S T_40 H locs → lv_has ls 8 [(0, .ref (sA G 9 0)), (1, .int a1), (2, .int a2), (4, .int x4_40), (5, .int x5_40), (6, .int x6_40)] → W p l e rmX5_odds s m args below meth c H locs 0 0 Q (F0 m 40 ls [])) ?_ _ _ _ _ _ h _ _ _ hw (lv_sub hl [3, 4, 5, 2, 1, 0] rfl)
      intro rc40 IH40 x4_40 x5_40 x6_40 T_40 h H locs ls hw hl
      unfold bX5_odds_40 at h
      refine lv_iload hx hb dX5_odds_40 (lv_at hl 5 rfl) ?_
      refine lv_iload_n hx hb dX5_odds_42 rfl (lv_at hl 2 rfl) ?_
      refine lv_icmp_ge (tgt := 122) hx hb dX5_odds_43 (by decide) (fun c43 => ?_) (fun c43 => ?_)
      · replace h := o_t c43 h
        refine lv_iload hx hb dX5_odds_122 (lv_at hl 4 rfl) ?_
        exact rI hQ hx hb hr hlk hw dX5_odds_124 (o_2a h) rfl (o_2b h)
      · replace h := o_f c43 h
        refine lv_iconst (v := 0) hx hb dX5_odds_46 (by decide) ?_
        refine lv_istore (lv' := [(7, .int (0 : Int32)), (0, .ref (sA G 9 0)), (1, .int a1), (2, .int a2), (4, .int x4_40), (5, .int x5_40), (6, .int x6_40)]) hx hb dX5_odds_47 hl (by decide) rfl (fun ls hl => ?_)
        obtain ⟨k94, ek94, h⟩ := o_nm h
        have J94 : ∀ (x4_94 : Int32) (T_94 : sOb) (H : Heap) (locs : List Loc) (ls : Array Slot), sHw G s S T_94 H locs → lv_has ls 8 [(0, .ref (sA G 9 0)), (1, .int a1), (2, .int a2), (4, .int x4_94), (5, .int x5_40), (6, .int x6_40)] → k94 x4_94 T_94 = some q → W p l e rmX5_odds s m args below meth c H locs 0 0 Q (F0 m 94 ls []) := by
          intro x4_94 T_94 H locs ls hw hl h
          replace h := o_j2 ek94 h
          refine lv_iload hx hb dX5_odds_94 (lv_at hl 4 rfl) ?_
          refine lv_aload_n hx hb dX5_odds_96 rfl (lv_at hl 0 rfl) ?_
          obtain ⟨q97, eq97, h⟩ := o_bd h
          refine kV (As := []) (rest := [.int x5_40]) (st' := [.int q97.1, .int x5_40]) ⟨hx, hb, hml, hown, hts⟩ (kX5_races l G eq97) (cwV 0 hts gX5_odds_X5_races rfl rfl rfl qqX5_races ⟨Nat.le_of_ble_eq_true rfl, Nat.le_of_ble_eq_true rfl⟩) hw (rvMd hw) rfl hl.1 rfl (Nat.le_of_ble_eq_true rfl) dX5_odds_97 ⟨Nat.zero_le _, Nat.zero_le _⟩ rfl (fun H locs hw => ?_)
          refine lv_iload_n hx hb dX5_odds_100 rfl (lv_at hl 1 rfl) ?_
          obtain ⟨k109, ek109, h⟩ := o_nm h
          have J109 : ∀ (y0_109 : Int32) (H : Heap) (locs : List Loc) (ls : Array Slot), sHw G s S q97.2 H locs → lv_has ls 8 [(0, .ref (sA G 9 0)), (1, .int a1), (2, .int a2), (4, .int x4_94), (6, .int x6_40)] → k109 y0_109 = some q → W p l e rmX5_odds s m args below meth c H locs 0 0 Q (F0 m 109 ls [.int y0_109, .int x5_40]) := by
            intro y0_109 H locs ls hw hl h
            replace h := o_j1 ek109 h
            refine lv_iadd hx hb dX5_odds_109 ?_
            refine lv_topi (fun v110 ev110 => ?_)
            replace h := o_nx ev110 h
            refine lv_istore (lv' := [(5, .int v110), (0, .ref (sA G 9 0)), (1, .int a1), (2, .int a2), (4, .int x4_94), (6, .int x6_40)]) hx hb dX5_odds_110 hl (by decide) rfl (fun ls hl => ?_)
            refine lv_aload_n hx hb dX5_odds_112 rfl (lv_at hl 1 rfl) ?_
            obtain ⟨q113, eq113, h⟩ := o_bd h
            refine kV (As := []) (rest := []) (st' := []) ⟨hx, hb, hml, hown, hts⟩ (kX5_laysBack l G eq113) (cwV 0 hts gX5_odds_X5_laysBack rfl rfl rfl qqX5_laysBack ⟨Nat.le_of_ble_eq_true rfl, Nat.le_of_ble_eq_true rfl⟩) hw (rvMd hw) rfl hl.1 rfl (Nat.le_of_ble_eq_true rfl) dX5_odds_113 ⟨Nat.zero_le _, Nat.zero_le _⟩ rfl (fun H locs hw => ?_)
            obtain ⟨v116, ev116, h⟩ := o_nm h
            refine lv_iinc (v := v116) (lv' := [(6, .int v116), (5, .int v110), (0, .ref (sA G 9 0)), (1, .int a1), (2, .int a2), (4, .int x4_94)]) hx hb dX5_odds_116 hl (k := 5) rfl (by rw [ev116]; rfl) (by decide) rfl (fun ls hl => ?_)
            refine lv_goto (tgt := 40) hx hb dX5_odds_119 (by decide) ?_
            exact IH40 x4_94 v110 v116 q113 h _ _ _ hw (lv_sub hl [2, 3, 4, 5, 1, 0] rfl)
          refine lv_icmp_ne (tgt := 108) hx hb dX5_odds_101 (by decide) (fun c101 => ?_) (fun c101 => ?_)
          · replace h := o_f c101 h
            refine lv_iconst (v := 0) hx hb dX5_odds_108 (by decide) ?_
            exact J109 (0 : Int32) _ _ _ hw (lv_sub hl [0, 1, 2, 3, 5] rfl) h
          · replace h := o_t c101 h
            refine lv_iconst (v := 1) hx hb dX5_odds_104 (by decide) ?_
            refine lv_goto (tgt := 109) hx hb dX5_odds_105 (by decide) ?_
            exact J109 (1 : Int32) _ _ _ hw (lv_sub hl [0, 1, 2, 3, 5] rfl) h
        refine fx3_w (F := (bX5_odds_49 k94)) (P := fun x4_49 x7_49 T_49 => ∀ (H : Heap) (locs : List Loc) (ls : Array Slot), sHw G s S T_49 H locs → lv_has ls 8 [(0, .ref (sA G 9 0)), (1, .int a1), (2, .int a2), (4, .int x4_49), (5, .int x5_40), (6, .int x6_40), (7, .int x7_49)] → W p l e rmX5_odds s m args below meth c H locs 0 0 Q (F0 m 49 ls [])) ?_ _ _ _ _ h _ _ _ hw (lv_sub hl [1, 2, 3, 4, 5, 6, 0] rfl)
        intro rc49 IH49 x4_49 x7_49 T_49 h H locs ls hw hl
        unfold bX5_odds_49 at h
        refine lv_iload hx hb dX5_odds_49 (lv_at hl 6 rfl) ?_
        refine lv_aload_n hx hb dX5_odds_51 rfl (lv_at hl 0 rfl) ?_
        refine gMd (v := .ref (sA G 9 1)) hx hb hts hiX5 hown hw 0 (by decide) (hts (.fieldLink RX5 7 "SecondHomeModel" "s" "[I") (by decide +kernel)) rfl dX5_odds_52 ?_
        refine lv_iconst (v := 0) hx hb dX5_odds_55 (by decide) ?_
        refine ldMd hx hb hw 0 (by decide) (n := 77) rfl (by decide) dX5_odds_56 ?_
        refine lv_icmp_ge (tgt := 94) hx hb dX5_odds_57 (by decide) (fun c57 => ?_) (fun c57 => ?_)
        · replace h := o_t c57 h
          exact J94 x4_49 T_49 _ _ _ hw (lv_sub hl [0, 1, 2, 3, 4, 5] rfl) h
        · replace h := o_f c57 h
          refine lv_iload hx hb dX5_odds_60 (lv_at hl 3 rfl) ?_
          refine lv_ldc (v := 1103515245) hx hb hown (hts (.constant RX5 165 (1103515245)) (by decide +kernel)) dX5_odds_62 ?_
          refine lv_imul hx hb dX5_odds_64 ?_
          refine lv_sipush (v := 12345) hx hb dX5_odds_65 (by decide) ?_
          refine lv_iadd hx hb dX5_odds_68 ?_
          refine lv_topi (fun v69 ev69 => ?_)
          replace h := o_nx ev69 h
          refine lv_istore (lv' := [(4, .int v69), (0, .ref (sA G 9 0)), (1, .int a1), (2, .int a2), (5, .int x5_40), (6, .int x6_40), (7, .int x7_49)]) hx hb dX5_odds_69 hl (by decide) rfl (fun ls hl => ?_)
          refine lv_aload_n hx hb dX5_odds_71 rfl (lv_at hl 1 rfl) ?_
          refine lv_iload hx hb dX5_odds_72 (lv_at hl 6 rfl) ?_
          refine lv_iconst (v := 1) hx hb dX5_odds_74 (by decide) ?_
          refine lv_iconst (v := 1) hx hb dX5_odds_75 (by decide) ?_
          refine lv_iload hx hb dX5_odds_76 (lv_at hl 0 rfl) ?_
          refine lv_bipush (v := 8) hx hb dX5_odds_78 (by decide) ?_
          refine lv_iushr hx hb dX5_odds_80 rfl ?_
          refine lv_bipush (v := 12) hx hb dX5_odds_81 (by decide) ?_
          refine lv_irem hx hb dX5_odds_83 (by decide) ?_
          refine lv_iadd hx hb dX5_odds_84 ?_
          obtain ⟨q85, eq85, h⟩ := o_bd h
          refine kV (As := [.int x7_49, .int (1 : Int32), .int ((1 : Int32) + ((v69.toUInt32 >>> ((8 : Int32).toUInt32 &&& Int32.toUInt32 31)).toInt32 - (v69.toUInt32 >>> ((8 : Int32).toUInt32 &&& Int32.toUInt32 31)).toInt32 / (12 : Int32) * (12 : Int32)))]) (rest := []) (st' := []) ⟨hx, hb, hml, hown, hts⟩ (kX5_puts l G eq85) (cwV 3 hts gX5_odds_X5_puts rfl rfl rfl qqX5_puts ⟨Nat.le_of_ble_eq_true rfl, Nat.le_of_ble_eq_true rfl⟩) hw (rvMd hw) rfl hl.1 rfl (Nat.le_of_ble_eq_true rfl) dX5_odds_85 ⟨Nat.zero_le _, Nat.zero_le _⟩ rfl (fun H locs hw => ?_)
          obtain ⟨v88, ev88, h⟩ := o_nm h
          refine lv_iinc (v := v88) (lv' := [(7, .int v88), (4, .int v69), (0, .ref (sA G 9 0)), (1, .int a1), (2, .int a2), (5, .int x5_40), (6, .int x6_40)]) hx hb dX5_odds_88 hl (k := 6) rfl (by rw [ev88]; rfl) (by decide) rfl (fun ls hl => ?_)
          refine lv_goto (tgt := 49) hx hb dX5_odds_91 (by decide) ?_
          exact IH49 v69 v88 q85 h _ _ _ hw (lv_sub hl [2, 3, 4, 1, 5, 6, 0] rfl)
    · replace h := o_t c17 h
      refine lv_aload_n hx hb dX5_odds_20 rfl (lv_at hl 0 rfl) ?_
      refine lv_ldc (v := -1000000001) hx hb hown (hts (.constant RX5 38 (-1000000001)) (by decide +kernel)) dX5_odds_21 ?_
      obtain ⟨q23, eq23, h⟩ := o_bd h
      refine kV (As := [.int (-1000000001 : Int32)]) (rest := []) (st' := [.int q23.1]) ⟨hx, hb, hml, hown, hts⟩ (kX5_finds l G eq23) (cwV 1 hts gX5_odds_X5_finds rfl rfl rfl qqX5_finds ⟨Nat.le_of_ble_eq_true rfl, Nat.le_of_ble_eq_true rfl⟩) hw (rvMd hw) rfl hl.1 rfl (Nat.le_of_ble_eq_true rfl) dX5_odds_23 ⟨Nat.zero_le _, Nat.zero_le _⟩ rfl (fun H locs hw => ?_)
      exact rI hQ hx hb hr hlk hw dX5_odds_26 (o_2a h) rfl (o_2b h)
-- X5_unwilling
set_option maxRecDepth 100000 in
set_option maxHeartbeats 4000000 in
theorem kX5_unwilling (l : Launch) (G : sGl) {S : sWo} {M : sOb}  {q : (Int32 × sOb)}  (h : fX5_unwilling M = some q) : sCt l G yX5_unwilling wsX5_unwilling rmX5_unwilling [.ref (sA G 9 0)] S M (some (.int q.1)) S q.2 := by
  refine cMk (cc := cX5_unwilling) (maxL := 6) (ret := (some .int)) (by decide) rfl (Nat.le_of_ble_eq_true rfl) ?_
  intro p e s m args below meth c Q hQ hx hb hr hlk hml hown hts hw ls hl
  have hown : s.vm.findClass RX5 = some m.cls := hown
  have hl : lv_has ls 6 [(0, .ref (sA G 9 0))] := hl
  have hiX5 : ∀ w ∈ u_ws RX5 TX5 15, w ∈ wsX5_unwilling := by decide +kernel
  unfold fX5_unwilling at h
  refine lv_aload_n hx hb dX5_unwilling_0 rfl (lv_at hl 0 rfl) ?_
  obtain ⟨q1, eq1, h⟩ := o_bd h
  refine kV (As := []) (rest := []) (st' := []) ⟨hx, hb, hml, hown, hts⟩ (kX5_laysBy l G eq1) (cwV 0 hts gX5_unwilling_X5_laysBy rfl rfl rfl qqX5_laysBy ⟨Nat.le_of_ble_eq_true rfl, Nat.le_of_ble_eq_true rfl⟩) hw (rvMd hw) rfl hl.1 rfl (Nat.le_of_ble_eq_true rfl) dX5_unwilling_1 ⟨Nat.zero_le _, Nat.zero_le _⟩ rfl (fun H locs hw => ?_)
  refine lv_aload_n hx hb dX5_unwilling_4 rfl (lv_at hl 0 rfl) ?_
  obtain ⟨q5, eq5, h⟩ := o_bd h
  refine kV (As := []) (rest := []) (st' := []) ⟨hx, hb, hml, hown, hts⟩ (kX5_lines l G eq5) (cwV 0 hts gX5_unwilling_X5_lines rfl rfl rfl qqX5_lines ⟨Nat.le_of_ble_eq_true rfl, Nat.le_of_ble_eq_true rfl⟩) hw (rvMd hw) rfl hl.1 rfl (Nat.le_of_ble_eq_true rfl) dX5_unwilling_5 ⟨Nat.zero_le _, Nat.zero_le _⟩ rfl (fun H locs hw => ?_)
  refine lv_iconst (v := 0) hx hb dX5_unwilling_8 (by decide) ?_
  refine lv_istore_n (lv' := [(1, .int (0 : Int32)), (0, .ref (sA G 9 0))]) hx hb dX5_unwilling_9 rfl hl (by decide) rfl (fun ls hl => ?_)
  refine lv_iconst (v := 0) hx hb dX5_unwilling_10 (by decide) ?_
  refine lv_istore_n (lv' := [(2, .int (0 : Int32)), (1, .int (0 : Int32)), (0, .ref (sA G 9 0))]) hx hb dX5_unwilling_11 rfl hl (by decide) rfl (fun ls hl => ?_)
  refine fx3_w (F := bX5_unwilling_12) (P := fun x1_12 x2_12 T_12 => ∀ (H : Heap) (locs : List Loc) (ls : Array Slot), sHw G s S T_12 H locs → lv_has ls 6 [(0, .ref (sA G 9 0)), (1, .int x1_12), (2, .int x2_12)] → W p l e rmX5_unwilling s m args below meth c H locs 0 0 Q (F0 m 12 ls [])) ?_ _ _ _ _ h _ _ _ hw (lv_sub hl [2, 1, 0] rfl)
  intro rc12 IH12 x1_12 x2_12 T_12 h H locs ls hw hl
  unfold bX5_unwilling_12 at h
  refine lv_iload_n hx hb dX5_unwilling_12 rfl (lv_at hl 2 rfl) ?_
  refine lv_sipush (v := 2000) hx hb dX5_unwilling_13 (by decide) ?_
  refine lv_icmp_ge (tgt := 107) hx hb dX5_unwilling_16 (by decide) (fun c16 => ?_) (fun c16 => ?_)
  · replace h := o_t c16 h
    refine lv_aload_n hx hb dX5_unwilling_107 rfl (lv_at hl 0 rfl) ?_
    obtain ⟨q108, eq108, h⟩ := o_bd h
    refine kV (As := []) (rest := []) (st' := []) ⟨hx, hb, hml, hown, hts⟩ (kX5_laysBack l G eq108) (cwV 0 hts gX5_unwilling_X5_laysBack rfl rfl rfl qqX5_laysBack ⟨Nat.le_of_ble_eq_true rfl, Nat.le_of_ble_eq_true rfl⟩) hw (rvMd hw) rfl hl.1 rfl (Nat.le_of_ble_eq_true rfl) dX5_unwilling_108 ⟨Nat.zero_le _, Nat.zero_le _⟩ rfl (fun H locs hw => ?_)
    refine lv_iload_n hx hb dX5_unwilling_111 rfl (lv_at hl 1 rfl) ?_
    exact rI hQ hx hb hr hlk hw dX5_unwilling_112 (o_2a h) rfl (o_2b h)
  · replace h := o_f c16 h
    refine lv_aload_n hx hb dX5_unwilling_19 rfl (lv_at hl 0 rfl) ?_
    obtain ⟨q20, eq20, h⟩ := o_bd h
    refine kV (As := []) (rest := []) (st' := [.int q20]) ⟨hx, hb, hml, hown, hts⟩ (kX5_homeMany l G eq20) (cwV 0 hts gX5_unwilling_X5_homeMany rfl rfl rfl qqX5_homeMany ⟨Nat.le_of_ble_eq_true rfl, Nat.le_of_ble_eq_true rfl⟩) hw (rvMd hw) rfl hl.1 rfl (Nat.le_of_ble_eq_true rfl) dX5_unwilling_20 ⟨Nat.zero_le _, Nat.zero_le _⟩ rfl (fun H locs hw => ?_)
    refine lv_aload_n hx hb dX5_unwilling_23 rfl (lv_at hl 0 rfl) ?_
    refine gMd (v := .ref (sA G 9 1)) hx hb hts hiX5 hown hw 0 (by decide) (hts (.fieldLink RX5 7 "SecondHomeModel" "s" "[I") (by decide +kernel)) rfl dX5_unwilling_24 ?_
    refine lv_iconst (v := 0) hx hb dX5_unwilling_27 (by decide) ?_
    refine ldMd hx hb hw 0 (by decide) (n := 77) rfl (by decide) dX5_unwilling_28 ?_
    refine lv_icmp_ge (tgt := 107) hx hb dX5_unwilling_29 (by decide) (fun c29 => ?_) (fun c29 => ?_)
    · replace h := o_t c29 h
      refine lv_aload_n hx hb dX5_unwilling_107 rfl (lv_at hl 0 rfl) ?_
      obtain ⟨q108, eq108, h⟩ := o_bd h
      refine kV (As := []) (rest := []) (st' := []) ⟨hx, hb, hml, hown, hts⟩ (kX5_laysBack l G eq108) (cwV 0 hts gX5_unwilling_X5_laysBack rfl rfl rfl qqX5_laysBack ⟨Nat.le_of_ble_eq_true rfl, Nat.le_of_ble_eq_true rfl⟩) hw (rvMd hw) rfl hl.1 rfl (Nat.le_of_ble_eq_true rfl) dX5_unwilling_108 ⟨Nat.zero_le _, Nat.zero_le _⟩ rfl (fun H locs hw => ?_)
      refine lv_iload_n hx hb dX5_unwilling_111 rfl (lv_at hl 1 rfl) ?_
      exact rI hQ hx hb hr hlk hw dX5_unwilling_112 (o_2a h) rfl (o_2b h)
    · replace h := o_f c29 h
      refine lv_aload_n hx hb dX5_unwilling_32 rfl (lv_at hl 0 rfl) ?_
      obtain ⟨q33, eq33, h⟩ := o_bd h
      refine kV (As := []) (rest := []) (st' := [.int q33]) ⟨hx, hb, hml, hown, hts⟩ (kX5_firstAlone l G eq33) (cwV 0 hts gX5_unwilling_X5_firstAlone rfl rfl rfl qqX5_firstAlone ⟨Nat.le_of_ble_eq_true rfl, Nat.le_of_ble_eq_true rfl⟩) hw (rvMd hw) rfl hl.1 rfl (Nat.le_of_ble_eq_true rfl) dX5_unwilling_33 ⟨Nat.zero_le _, Nat.zero_le _⟩ rfl (fun H locs hw => ?_)
      refine lv_istore_n (lv' := [(3, .int q33), (0, .ref (sA G 9 0)), (1, .int x1_12), (2, .int x2_12)]) hx hb dX5_unwilling_36 rfl hl (by decide) rfl (fun ls hl => ?_)
      refine lv_iload_n hx hb dX5_unwilling_37 rfl (lv_at hl 0 rfl) ?_
      obtain ⟨k63, ek63, h⟩ := o_nm h
      have J63 : ∀ (y0_63 : Int32) (H : Heap) (locs : List Loc) (ls : Array Slot), sHw G s S T_12 H locs → lv_has ls 6 [(0, .ref (sA G 9 0)), (1, .int x1_12), (2, .int x2_12), (3, .int q33)] → k63 y0_63 = some q → W p l e rmX5_unwilling s m args below meth c H locs 0 0 Q (F0 m 63 ls [.int y0_63]) := by
        intro y0_63 H locs ls hw hl h
        replace h := o_j1 ek63 h
        refine lv_istore (lv' := [(4, .int y0_63), (0, .ref (sA G 9 0)), (1, .int x1_12), (2, .int x2_12), (3, .int q33)]) hx hb dX5_unwilling_63 hl (by decide) rfl (fun ls hl => ?_)
        refine lv_aload_n hx hb dX5_unwilling_65 rfl (lv_at hl 1 rfl) ?_
        obtain ⟨q66, eq66, h⟩ := o_bd h
        refine kV (As := []) (rest := []) (st' := [.int q66.1]) ⟨hx, hb, hml, hown, hts⟩ (kX5_goesOn l G eq66) (cwV 0 hts gX5_unwilling_X5_goesOn rfl rfl rfl qqX5_goesOn ⟨Nat.le_of_ble_eq_true rfl, Nat.le_of_ble_eq_true rfl⟩) hw (rvMd hw) rfl hl.1 rfl (Nat.le_of_ble_eq_true rfl) dX5_unwilling_66 ⟨Nat.zero_le _, Nat.zero_le _⟩ rfl (fun H locs hw => ?_)
        refine lv_istore (lv' := [(5, .int q66.1), (4, .int y0_63), (0, .ref (sA G 9 0)), (1, .int x1_12), (2, .int x2_12), (3, .int q33)]) hx hb dX5_unwilling_69 hl (by decide) rfl (fun ls hl => ?_)
        refine lv_iload_n hx hb dX5_unwilling_71 rfl (lv_at hl 3 rfl) ?_
        refine lv_iload hx hb dX5_unwilling_72 (lv_at hl 1 rfl) ?_
        refine lv_if_eq (tgt := 98) hx hb dX5_unwilling_74 (by decide) (fun c74 => ?_) (fun c74 => ?_)
        · replace h := o_t c74 h
          refine lv_iconst (v := 0) hx hb dX5_unwilling_98 (by decide) ?_
          refine lv_ior hx hb dX5_unwilling_99 ?_
          refine lv_topi (fun v100 ev100 => ?_)
          replace h := o_nx ev100 h
          refine lv_istore_n (lv' := [(1, .int v100), (5, .int q66.1), (4, .int y0_63), (0, .ref (sA G 9 0)), (2, .int x2_12), (3, .int q33)]) hx hb dX5_unwilling_100 rfl hl (by decide) rfl (fun ls hl => ?_)
          obtain ⟨v101, ev101, h⟩ := o_nm h
          refine lv_iinc (v := v101) (lv' := [(2, .int v101), (1, .int v100), (5, .int q66.1), (4, .int y0_63), (0, .ref (sA G 9 0)), (3, .int q33)]) hx hb dX5_unwilling_101 hl (k := 4) rfl (by rw [ev101]; rfl) (by decide) rfl (fun ls hl => ?_)
          refine lv_goto (tgt := 12) hx hb dX5_unwilling_104 (by decide) ?_
          exact IH12 v100 v101 q66.2 h _ _ _ hw (lv_sub hl [4, 1, 0] rfl)
        · replace h := o_f c74 h
          refine lv_aload_n hx hb dX5_unwilling_77 rfl (lv_at hl 2 rfl) ?_
          refine gMd (v := .ref (sA G 9 8)) hx hb hts hiX5 hown hw 10 (by decide) (hts (.fieldLink RX5 35 "SecondHomeModel" "runs" "[I") (by decide +kernel)) rfl dX5_unwilling_78 ?_
          refine lv_iload_n hx hb dX5_unwilling_81 rfl (lv_at hl 5 rfl) ?_
          obtain ⟨b82, h⟩ := o_in h
          refine ldMd hx hb hw 7 (by decide) (n := 9) rfl b82 dX5_unwilling_82 ?_
          refine lv_aload_n hx hb dX5_unwilling_83 rfl (lv_at hl 2 rfl) ?_
          refine lv_iload_n hx hb dX5_unwilling_84 rfl (lv_at hl 5 rfl) ?_
          refine lv_iconst (v := 1) hx hb dX5_unwilling_85 (by decide) ?_
          obtain ⟨q86, eq86, h⟩ := o_bd h
          refine kV (As := [.int q33, .int (1 : Int32)]) (rest := [.int (q66.2.2.1 7 q33.toNatClampNeg), .int x1_12]) (st' := [.int q86, .int (q66.2.2.1 7 q33.toNatClampNeg), .int x1_12]) ⟨hx, hb, hml, hown, hts⟩ (kX5_is l G eq86) (cwV 2 hts gX5_unwilling_X5_is rfl rfl rfl qqX5_is ⟨Nat.le_of_ble_eq_true rfl, Nat.le_of_ble_eq_true rfl⟩) hw (rvMd hw) rfl hl.1 rfl (Nat.le_of_ble_eq_true rfl) dX5_unwilling_86 ⟨Nat.zero_le _, Nat.zero_le _⟩ rfl (fun H locs hw => ?_)
          refine lv_icmp_ge (tgt := 98) hx hb dX5_unwilling_89 (by decide) (fun c89 => ?_) (fun c89 => ?_)
          · replace h := o_t c89 h
            refine lv_iconst (v := 0) hx hb dX5_unwilling_98 (by decide) ?_
            refine lv_ior hx hb dX5_unwilling_99 ?_
            refine lv_topi (fun v100 ev100 => ?_)
            replace h := o_nx ev100 h
            refine lv_istore_n (lv' := [(1, .int v100), (5, .int q66.1), (4, .int y0_63), (0, .ref (sA G 9 0)), (2, .int x2_12), (3, .int q33)]) hx hb dX5_unwilling_100 rfl hl (by decide) rfl (fun ls hl => ?_)
            obtain ⟨v101, ev101, h⟩ := o_nm h
            refine lv_iinc (v := v101) (lv' := [(2, .int v101), (1, .int v100), (5, .int q66.1), (4, .int y0_63), (0, .ref (sA G 9 0)), (3, .int q33)]) hx hb dX5_unwilling_101 hl (k := 4) rfl (by rw [ev101]; rfl) (by decide) rfl (fun ls hl => ?_)
            refine lv_goto (tgt := 12) hx hb dX5_unwilling_104 (by decide) ?_
            exact IH12 v100 v101 q66.2 h _ _ _ hw (lv_sub hl [4, 1, 0] rfl)
          · replace h := o_f c89 h
            refine lv_iconst (v := 1) hx hb dX5_unwilling_92 (by decide) ?_
            refine lv_iload_n hx hb dX5_unwilling_93 rfl (lv_at hl 5 rfl) ?_
            refine lv_ishl hx hb dX5_unwilling_94 ?_
            refine lv_goto (tgt := 99) hx hb dX5_unwilling_95 (by decide) ?_
            refine lv_ior hx hb dX5_unwilling_99 ?_
            refine lv_topi (fun v100 ev100 => ?_)
            replace h := o_nx ev100 h
            refine lv_istore_n (lv' := [(1, .int v100), (5, .int q66.1), (4, .int y0_63), (0, .ref (sA G 9 0)), (2, .int x2_12), (3, .int q33)]) hx hb dX5_unwilling_100 rfl hl (by decide) rfl (fun ls hl => ?_)
            obtain ⟨v101, ev101, h⟩ := o_nm h
            refine lv_iinc (v := v101) (lv' := [(2, .int v101), (1, .int v100), (5, .int q66.1), (4, .int y0_63), (0, .ref (sA G 9 0)), (3, .int q33)]) hx hb dX5_unwilling_101 hl (k := 4) rfl (by rw [ev101]; rfl) (by decide) rfl (fun ls hl => ?_)
            refine lv_goto (tgt := 12) hx hb dX5_unwilling_104 (by decide) ?_
            exact IH12 v100 v101 q66.2 h _ _ _ hw (lv_sub hl [4, 1, 0] rfl)
      obtain ⟨k62, ek62, h⟩ := o_nm h
      have J62 : ∀ (H : Heap) (locs : List Loc) (ls : Array Slot), sHw G s S T_12 H locs → lv_has ls 6 [(0, .ref (sA G 9 0)), (1, .int x1_12), (2, .int x2_12), (3, .int q33)] → k62 = some q → W p l e rmX5_unwilling s m args below meth c H locs 0 0 Q (F0 m 62 ls []) := by
        intro H locs ls hw hl h
        replace h := o_j0 ek62 h
        refine lv_iconst (v := 0) hx hb dX5_unwilling_62 (by decide) ?_
        exact J63 (0 : Int32) _ _ _ hw (lv_sub hl [0, 1, 2, 3] rfl) h
      refine lv_if_lt (tgt := 62) hx hb dX5_unwilling_38 (by decide) (fun c38 => ?_) (fun c38 => ?_)
      · replace h := o_t c38 h
        exact J62 _ _ _ hw (lv_sub hl [1, 2, 3, 0] rfl) h
      · replace h := o_f c38 h
        refine lv_aload_n hx hb dX5_unwilling_41 rfl (lv_at hl 1 rfl) ?_
        refine lv_iload_n hx hb dX5_unwilling_42 rfl (lv_at hl 0 rfl) ?_
        refine lv_iconst (v := 2) hx hb dX5_unwilling_43 (by decide) ?_
        obtain ⟨q44, eq44, h⟩ := o_bd h
        refine kV (As := [.int q33, .int (2 : Int32)]) (rest := []) (st' := [.int q44]) ⟨hx, hb, hml, hown, hts⟩ (kX5_is l G eq44) (cwV 2 hts gX5_unwilling_X5_is rfl rfl rfl qqX5_is ⟨Nat.le_of_ble_eq_true rfl, Nat.le_of_ble_eq_true rfl⟩) hw (rvMd hw) rfl hl.1 rfl (Nat.le_of_ble_eq_true rfl) dX5_unwilling_44 ⟨Nat.zero_le _, Nat.zero_le _⟩ rfl (fun H locs hw => ?_)
        refine lv_aload_n hx hb dX5_unwilling_47 rfl (lv_at hl 1 rfl) ?_
        refine lv_iload_n hx hb dX5_unwilling_48 rfl (lv_at hl 0 rfl) ?_
        refine lv_iconst (v := 1) hx hb dX5_unwilling_49 (by decide) ?_
        obtain ⟨q50, eq50, h⟩ := o_bd h
        refine kV (As := [.int q33, .int (1 : Int32)]) (rest := [.int q44]) (st' := [.int q50, .int q44]) ⟨hx, hb, hml, hown, hts⟩ (kX5_is l G eq50) (cwV 2 hts gX5_unwilling_X5_is rfl rfl rfl qqX5_is ⟨Nat.le_of_ble_eq_true rfl, Nat.le_of_ble_eq_true rfl⟩) hw (rvMd hw) rfl hl.1 rfl (Nat.le_of_ble_eq_true rfl) dX5_unwilling_50 ⟨Nat.zero_le _, Nat.zero_le _⟩ rfl (fun H locs hw => ?_)
        refine lv_iconst (v := 4) hx hb dX5_unwilling_53 (by decide) ?_
        refine lv_isub hx hb dX5_unwilling_54 ?_
        refine lv_icmp_lt (tgt := 62) hx hb dX5_unwilling_55 (by decide) (fun c55 => ?_) (fun c55 => ?_)
        · replace h := o_t c55 h
          exact J62 _ _ _ hw (lv_sub hl [1, 2, 3, 0] rfl) h
        · replace h := o_f c55 h
          refine lv_iconst (v := 1) hx hb dX5_unwilling_58 (by decide) ?_
          refine lv_goto (tgt := 63) hx hb dX5_unwilling_59 (by decide) ?_
          exact J63 (1 : Int32) _ _ _ hw (lv_sub hl [1, 2, 3, 0] rfl) h
