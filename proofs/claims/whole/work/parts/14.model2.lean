-- X5_seconds
set_option maxRecDepth 100000 in
set_option maxHeartbeats 4000000 in
theorem kX5_seconds (l : Launch) (G : sGl) {S : sWo} {M : sOb} {a1 : Int32} {q : (Int32 × sOb)}  (h : fX5_seconds M a1 = some q) : sCt l G yX5_seconds wsX5_seconds rmX5_seconds [.ref (sA G 9 0), .int a1] S M (some (.int q.1)) S q.2 := by
  refine cMk (cc := cX5_seconds) (maxL := 4) (ret := (some .int)) (by decide) rfl (Nat.le_of_ble_eq_true rfl) ?_
  intro p e s m args below meth c Q hQ hx hb hr hlk hml hown hts hw ls hl
  have hown : s.vm.findClass RX5 = some m.cls := hown
  have hl : lv_has ls 4 [(0, .ref (sA G 9 0)), (1, .int a1)] := hl
  unfold fX5_seconds at h
  refine lv_iload_n hx hb dX5_seconds_0 rfl (lv_at hl 1 rfl) ?_
  refine lv_i2l hx hb dX5_seconds_1 rfl ?_
  refine lv_lconst (v := 1) hx hb dX5_seconds_2 (by decide) ?_
  refine lv_ldc2 (v := 600) hx hb hown (hts (.constantLong RX5 122 (600)) (by decide +kernel)) dX5_seconds_3 ?_
  obtain ⟨q6, eq6, h⟩ := o_bd h
  refine kS (As := [.long a1.toInt64, .long (1 : Int64), .long (600 : Int64)]) (rest := []) (st' := [.int q6]) ⟨hx, hb, hml, hown, hts⟩ (kX5_isIn l G eq6) (va_cwS 3 hts gX5_seconds_X5_isIn rfl rfl rfl qqX5_isIn ⟨Nat.le_of_ble_eq_true rfl, Nat.le_of_ble_eq_true rfl⟩) hw rfl hl.1 rfl (Nat.le_of_ble_eq_true rfl) dX5_seconds_6 ⟨Nat.zero_le _, Nat.zero_le _⟩ rfl (fun H locs hw => ?_)
  refine lv_if_ne (tgt := 19) hx hb dX5_seconds_9 (by decide) (fun c9 => ?_) (fun c9 => ?_)
  · replace h := o_f c9 h
    refine lv_iconst (v := 0) hx hb dX5_seconds_19 (by decide) ?_
    refine lv_istore_n (lv' := [(2, .int (0 : Int32)), (0, .ref (sA G 9 0)), (1, .int a1)]) hx hb dX5_seconds_20 rfl hl (by decide) rfl (fun ls hl => ?_)
    refine lv_iconst (v := 0) hx hb dX5_seconds_21 (by decide) ?_
    refine lv_istore_n (lv' := [(3, .int (0 : Int32)), (2, .int (0 : Int32)), (0, .ref (sA G 9 0)), (1, .int a1)]) hx hb dX5_seconds_22 rfl hl (by decide) rfl (fun ls hl => ?_)
    refine fx3_w (F := (bX5_seconds_23 a1)) (P := fun x2_23 x3_23 T_23 => ∀ (H : Heap) (locs : List Loc) (ls : Array Slot), sHw G s S T_23 H locs → lv_has ls 4 [(0, .ref (sA G 9 0)), (1, .int a1), (2, .int x2_23), (3, .int x3_23)] → W p l e rmX5_seconds s m args below meth c H locs 0 0 Q (F0 m 23 ls [])) ?_ _ _ _ _ h _ _ _ hw (lv_sub hl [2, 3, 1, 0] rfl)
    intro rc23 IH23 x2_23 x3_23 T_23 h H locs ls hw hl
    unfold bX5_seconds_23 at h
    refine lv_iload_n hx hb dX5_seconds_23 rfl (lv_at hl 3 rfl) ?_
    refine lv_iload_n hx hb dX5_seconds_24 rfl (lv_at hl 1 rfl) ?_
    refine lv_icmp_ge (tgt := 41) hx hb dX5_seconds_25 (by decide) (fun c25 => ?_) (fun c25 => ?_)
    · replace h := o_t c25 h
      refine lv_iload_n hx hb dX5_seconds_41 rfl (lv_at hl 2 rfl) ?_
      exact rI hQ hx hb hr hlk hw dX5_seconds_42 (o_2a h) rfl (o_2b h)
    · replace h := o_f c25 h
      refine lv_iload_n hx hb dX5_seconds_28 rfl (lv_at hl 2 rfl) ?_
      refine lv_aload_n hx hb dX5_seconds_29 rfl (lv_at hl 0 rfl) ?_
      obtain ⟨q30, eq30, h⟩ := o_bd h
      refine kV (As := []) (rest := [.int x2_23]) (st' := [.int q30.1, .int x2_23]) ⟨hx, hb, hml, hown, hts⟩ (kX5_goesOn l G eq30) (cwV 0 hts gX5_seconds_X5_goesOn rfl rfl rfl qqX5_goesOn ⟨Nat.le_of_ble_eq_true rfl, Nat.le_of_ble_eq_true rfl⟩) hw (rvMd hw) rfl hl.1 rfl (Nat.le_of_ble_eq_true rfl) dX5_seconds_30 ⟨Nat.zero_le _, Nat.zero_le _⟩ rfl (fun H locs hw => ?_)
      refine lv_iadd hx hb dX5_seconds_33 ?_
      refine lv_topi (fun v34 ev34 => ?_)
      replace h := o_nx ev34 h
      refine lv_istore_n (lv' := [(2, .int v34), (0, .ref (sA G 9 0)), (1, .int a1), (3, .int x3_23)]) hx hb dX5_seconds_34 rfl hl (by decide) rfl (fun ls hl => ?_)
      obtain ⟨v35, ev35, h⟩ := o_nm h
      refine lv_iinc (v := v35) (lv' := [(3, .int v35), (2, .int v34), (0, .ref (sA G 9 0)), (1, .int a1)]) hx hb dX5_seconds_35 hl (k := 3) rfl (by rw [ev35]; rfl) (by decide) rfl (fun ls hl => ?_)
      refine lv_goto (tgt := 23) hx hb dX5_seconds_38 (by decide) ?_
      exact IH23 v34 v35 q30.2 h _ _ _ hw (lv_sub hl [2, 3, 1, 0] rfl)
  · replace h := o_t c9 h
    refine lv_aload_n hx hb dX5_seconds_12 rfl (lv_at hl 0 rfl) ?_
    refine lv_ldc (v := -1000000001) hx hb hown (hts (.constant RX5 38 (-1000000001)) (by decide +kernel)) dX5_seconds_13 ?_
    obtain ⟨q15, eq15, h⟩ := o_bd h
    refine kV (As := [.int (-1000000001 : Int32)]) (rest := []) (st' := [.int q15.1]) ⟨hx, hb, hml, hown, hts⟩ (kX5_finds l G eq15) (cwV 1 hts gX5_seconds_X5_finds rfl rfl rfl qqX5_finds ⟨Nat.le_of_ble_eq_true rfl, Nat.le_of_ble_eq_true rfl⟩) hw (rvMd hw) rfl hl.1 rfl (Nat.le_of_ble_eq_true rfl) dX5_seconds_15 ⟨Nat.zero_le _, Nat.zero_le _⟩ rfl (fun H locs hw => ?_)
    exact rI hQ hx hb hr hlk hw dX5_seconds_18 (o_2a h) rfl (o_2b h)
-- X5_now
set_option maxRecDepth 100000 in
set_option maxHeartbeats 4000000 in
theorem kX5_now (l : Launch) (G : sGl) {S : sWo} {M : sOb} {a1 : Int32} {q : (Int32 × sOb)}  (h : fX5_now M a1 = some q) : sCt l G yX5_now wsX5_now rmX5_now [.ref (sA G 9 0), .int a1] S M (some (.int q.1)) S q.2 := by
  refine cMk (cc := cX5_now) (maxL := 2) (ret := (some .int)) (by decide) rfl (Nat.le_of_ble_eq_true rfl) ?_
  intro p e s m args below meth c Q hQ hx hb hr hlk hml hown hts hw ls hl
  have hown : s.vm.findClass RX5 = some m.cls := hown
  have hl : lv_has ls 2 [(0, .ref (sA G 9 0)), (1, .int a1)] := hl
  have hiX5 : ∀ w ∈ u_ws RX5 TX5 15, w ∈ wsX5_now := by decide +kernel
  unfold fX5_now at h
  refine lv_iload_n hx hb dX5_now_0 rfl (lv_at hl 1 rfl) ?_
  by_cases c1_0 : a1 = (0 : Int32)
  · replace h := o_t c1_0 h
    refine lv_tableIn (tgt := 36) hx hb dX5_now_1 (by rw [c1_0]; decide) (by rw [c1_0]; decide) (by rw [c1_0]; rfl) (by decide) ?_
    refine lv_aload_n hx hb dX5_now_36 rfl (lv_at hl 0 rfl) ?_
    refine gMd (v := .ref (sA G 9 1)) hx hb hts hiX5 hown hw 0 (by decide) (hts (.fieldLink RX5 7 "SecondHomeModel" "s" "[I") (by decide +kernel)) rfl dX5_now_37 ?_
    refine lv_iconst (v := 4) hx hb dX5_now_40 (by decide) ?_
    refine ldMd hx hb hw 0 (by decide) (n := 77) rfl (by decide) dX5_now_41 ?_
    exact rI hQ hx hb hr hlk hw dX5_now_42 (o_2a h) rfl (o_2b h)
  replace h := o_f c1_0 h
  by_cases c1_1 : a1 = (1 : Int32)
  · replace h := o_t c1_1 h
    refine lv_tableIn (tgt := 43) hx hb dX5_now_1 (by rw [c1_1]; decide) (by rw [c1_1]; decide) (by rw [c1_1]; rfl) (by decide) ?_
    refine lv_aload_n hx hb dX5_now_43 rfl (lv_at hl 0 rfl) ?_
    refine gMd (v := .ref (sA G 9 1)) hx hb hts hiX5 hown hw 0 (by decide) (hts (.fieldLink RX5 7 "SecondHomeModel" "s" "[I") (by decide +kernel)) rfl dX5_now_44 ?_
    refine lv_iconst (v := 1) hx hb dX5_now_47 (by decide) ?_
    refine ldMd hx hb hw 0 (by decide) (n := 77) rfl (by decide) dX5_now_48 ?_
    exact rI hQ hx hb hr hlk hw dX5_now_49 (o_2a h) rfl (o_2b h)
  replace h := o_f c1_1 h
  by_cases c1_2 : a1 = (2 : Int32)
  · replace h := o_t c1_2 h
    refine lv_tableIn (tgt := 50) hx hb dX5_now_1 (by rw [c1_2]; decide) (by rw [c1_2]; decide) (by rw [c1_2]; rfl) (by decide) ?_
    refine lv_aload_n hx hb dX5_now_50 rfl (lv_at hl 0 rfl) ?_
    refine gMd (v := .ref (sA G 9 1)) hx hb hts hiX5 hown hw 0 (by decide) (hts (.fieldLink RX5 7 "SecondHomeModel" "s" "[I") (by decide +kernel)) rfl dX5_now_51 ?_
    refine lv_iconst (v := 2) hx hb dX5_now_54 (by decide) ?_
    refine ldMd hx hb hw 0 (by decide) (n := 77) rfl (by decide) dX5_now_55 ?_
    exact rI hQ hx hb hr hlk hw dX5_now_56 (o_2a h) rfl (o_2b h)
  replace h := o_f c1_2 h
  by_cases c1_3 : a1 = (3 : Int32)
  · replace h := o_t c1_3 h
    refine lv_tableIn (tgt := 57) hx hb dX5_now_1 (by rw [c1_3]; decide) (by rw [c1_3]; decide) (by rw [c1_3]; rfl) (by decide) ?_
    refine lv_aload_n hx hb dX5_now_57 rfl (lv_at hl 0 rfl) ?_
    refine gMd (v := .ref (sA G 9 1)) hx hb hts hiX5 hown hw 0 (by decide) (hts (.fieldLink RX5 7 "SecondHomeModel" "s" "[I") (by decide +kernel)) rfl dX5_now_58 ?_
    refine lv_iconst (v := 3) hx hb dX5_now_61 (by decide) ?_
    refine ldMd hx hb hw 0 (by decide) (n := 77) rfl (by decide) dX5_now_62 ?_
    exact rI hQ hx hb hr hlk hw dX5_now_63 (o_2a h) rfl (o_2b h)
  replace h := o_f c1_3 h
  by_cases c1_4 : a1 = (4 : Int32)
  · replace h := o_t c1_4 h
    refine lv_tableIn (tgt := 64) hx hb dX5_now_1 (by rw [c1_4]; decide) (by rw [c1_4]; decide) (by rw [c1_4]; rfl) (by decide) ?_
    refine lv_aload_n hx hb dX5_now_64 rfl (lv_at hl 0 rfl) ?_
    obtain ⟨q65, eq65, h⟩ := o_bd h
    refine kV (As := []) (rest := []) (st' := [.int q65]) ⟨hx, hb, hml, hown, hts⟩ (kX5_homeMany l G eq65) (cwV 0 hts gX5_now_X5_homeMany rfl rfl rfl qqX5_homeMany ⟨Nat.le_of_ble_eq_true rfl, Nat.le_of_ble_eq_true rfl⟩) hw (rvMd hw) rfl hl.1 rfl (Nat.le_of_ble_eq_true rfl) dX5_now_65 ⟨Nat.zero_le _, Nat.zero_le _⟩ rfl (fun H locs hw => ?_)
    exact rI hQ hx hb hr hlk hw dX5_now_68 (o_2a h) rfl (o_2b h)
  replace h := o_f c1_4 h
  have sw1 : a1.toInt < 0 ∨ 4 < a1.toInt := by
    have z0 := sw_ne c1_0
    have z1 := sw_ne c1_1
    have z2 := sw_ne c1_2
    have z3 := sw_ne c1_3
    have z4 := sw_ne c1_4
    rw [show ((0 : Int32)).toInt = 0 from rfl] at z0
    rw [show ((1 : Int32)).toInt = 1 from rfl] at z1
    rw [show ((2 : Int32)).toInt = 2 from rfl] at z2
    rw [show ((3 : Int32)).toInt = 3 from rfl] at z3
    rw [show ((4 : Int32)).toInt = 4 from rfl] at z4
    omega
  refine lv_tableOut (tgt := 69) hx hb dX5_now_1 sw1 (by decide) ?_
  refine lv_aload_n hx hb dX5_now_69 rfl (lv_at hl 0 rfl) ?_
  refine lv_ldc (v := -1000000001) hx hb hown (hts (.constant RX5 38 (-1000000001)) (by decide +kernel)) dX5_now_70 ?_
  obtain ⟨q72, eq72, h⟩ := o_bd h
  refine kV (As := [.int (-1000000001 : Int32)]) (rest := []) (st' := [.int q72.1]) ⟨hx, hb, hml, hown, hts⟩ (kX5_finds l G eq72) (cwV 1 hts gX5_now_X5_finds rfl rfl rfl qqX5_finds ⟨Nat.le_of_ble_eq_true rfl, Nat.le_of_ble_eq_true rfl⟩) hw (rvMd hw) rfl hl.1 rfl (Nat.le_of_ble_eq_true rfl) dX5_now_72 ⟨Nat.zero_le _, Nat.zero_le _⟩ rfl (fun H locs hw => ?_)
  exact rI hQ hx hb hr hlk hw dX5_now_75 (o_2a h) rfl (o_2b h)
-- X5_whoIs
set_option maxRecDepth 100000 in
set_option maxHeartbeats 4000000 in
theorem kX5_whoIs (l : Launch) (G : sGl) {S : sWo} {M : sOb} {a1 : Int32} {q : Int32}  (h : fX5_whoIs M a1 = some q) : sCt l G yX5_whoIs wsX5_whoIs rmX5_whoIs [.ref (sA G 9 0), .int a1] S M (some (.int q)) S M := by
  refine cMk (cc := cX5_whoIs) (maxL := 3) (ret := (some .int)) (by decide) rfl (Nat.le_of_ble_eq_true rfl) ?_
  intro p e s m args below meth c Q hQ hx hb hr hlk hml hown hts hw ls hl
  have hown : s.vm.findClass RX5 = some m.cls := hown
  have hl : lv_has ls 3 [(0, .ref (sA G 9 0)), (1, .int a1)] := hl
  have hiX5 : ∀ w ∈ u_ws RX5 TX5 15, w ∈ wsX5_whoIs := by decide +kernel
  unfold fX5_whoIs at h
  refine lv_iconst (v := 0) hx hb dX5_whoIs_0 (by decide) ?_
  refine lv_istore_n (lv' := [(2, .int (0 : Int32)), (0, .ref (sA G 9 0)), (1, .int a1)]) hx hb dX5_whoIs_1 rfl hl (by decide) rfl (fun ls hl => ?_)
  refine fx1_w (F := (bX5_whoIs_2 M a1)) (P := fun x2_2 => ∀ (H : Heap) (locs : List Loc) (ls : Array Slot), sHw G s S M H locs → lv_has ls 3 [(0, .ref (sA G 9 0)), (1, .int a1), (2, .int x2_2)] → W p l e rmX5_whoIs s m args below meth c H locs 0 0 Q (F0 m 2 ls [])) ?_ _ _ h _ _ _ hw (lv_sub hl [1, 2, 0] rfl)
  intro rc2 IH2 x2_2 h H locs ls hw hl
  unfold bX5_whoIs_2 at h
  refine lv_iload_n hx hb dX5_whoIs_2 rfl (lv_at hl 2 rfl) ?_
  refine lv_aload_n hx hb dX5_whoIs_3 rfl (lv_at hl 0 rfl) ?_
  refine gMd (v := .ref (sA G 9 1)) hx hb hts hiX5 hown hw 0 (by decide) (hts (.fieldLink RX5 7 "SecondHomeModel" "s" "[I") (by decide +kernel)) rfl dX5_whoIs_4 ?_
  refine lv_iconst (v := 0) hx hb dX5_whoIs_7 (by decide) ?_
  refine ldMd hx hb hw 0 (by decide) (n := 77) rfl (by decide) dX5_whoIs_8 ?_
  refine lv_icmp_ge (tgt := 29) hx hb dX5_whoIs_9 (by decide) (fun c9 => ?_) (fun c9 => ?_)
  · replace h := o_t c9 h
    refine lv_iconst (v := -1) hx hb dX5_whoIs_29 (by decide) ?_
    exact rI hQ hx hb hr hlk hw dX5_whoIs_30 (o_1 h) rfl rfl
  · replace h := o_f c9 h
    refine lv_aload_n hx hb dX5_whoIs_12 rfl (lv_at hl 0 rfl) ?_
    refine lv_iload_n hx hb dX5_whoIs_13 rfl (lv_at hl 2 rfl) ?_
    obtain ⟨q14, eq14, h⟩ := o_bd h
    refine kV (As := [.int x2_2]) (rest := []) (st' := [.int q14]) ⟨hx, hb, hml, hown, hts⟩ (kX5_placeOf l G eq14) (cwV 1 hts gX5_whoIs_X5_placeOf rfl rfl rfl qqX5_placeOf ⟨Nat.le_of_ble_eq_true rfl, Nat.le_of_ble_eq_true rfl⟩) hw (rvMd hw) rfl hl.1 rfl (Nat.le_of_ble_eq_true rfl) dX5_whoIs_14 ⟨Nat.zero_le _, Nat.zero_le _⟩ rfl (fun H locs hw => ?_)
    refine lv_iload_n hx hb dX5_whoIs_17 rfl (lv_at hl 1 rfl) ?_
    refine lv_icmp_ne (tgt := 23) hx hb dX5_whoIs_18 (by decide) (fun c18 => ?_) (fun c18 => ?_)
    · replace h := o_f c18 h
      obtain ⟨v23, ev23, h⟩ := o_nm h
      refine lv_iinc (v := v23) (lv' := [(2, .int v23), (0, .ref (sA G 9 0)), (1, .int a1)]) hx hb dX5_whoIs_23 hl (k := 2) rfl (by rw [ev23]; rfl) (by decide) rfl (fun ls hl => ?_)
      refine lv_goto (tgt := 2) hx hb dX5_whoIs_26 (by decide) ?_
      exact IH2 v23 h _ _ _ hw (lv_sub hl [1, 2, 0] rfl)
    · replace h := o_t c18 h
      refine lv_iload_n hx hb dX5_whoIs_21 rfl (lv_at hl 2 rfl) ?_
      exact rI hQ hx hb hr hlk hw dX5_whoIs_22 (o_1 h) rfl rfl
-- X5_place
set_option maxRecDepth 100000 in
set_option maxHeartbeats 4000000 in
theorem kX5_place (l : Launch) (G : sGl) {S : sWo} {M : sOb} {a1 : Int32} {q : (Int32 × sOb)}  (h : fX5_place M a1 = some q) : sCt l G yX5_place wsX5_place rmX5_place [.ref (sA G 9 0), .int a1] S M (some (.int q.1)) S q.2 := by
  refine cMk (cc := cX5_place) (maxL := 2) (ret := (some .int)) (by decide) rfl (Nat.le_of_ble_eq_true rfl) ?_
  intro p e s m args below meth c Q hQ hx hb hr hlk hml hown hts hw ls hl
  have hown : s.vm.findClass RX5 = some m.cls := hown
  have hl : lv_has ls 2 [(0, .ref (sA G 9 0)), (1, .int a1)] := hl
  unfold fX5_place at h
  refine lv_aload_n hx hb dX5_place_0 rfl (lv_at hl 0 rfl) ?_
  refine lv_iload_n hx hb dX5_place_1 rfl (lv_at hl 1 rfl) ?_
  obtain ⟨q2, eq2, h⟩ := o_bd h
  refine kV (As := [.int a1]) (rest := []) (st' := [.int q2]) ⟨hx, hb, hml, hown, hts⟩ (kX5_isRunner l G eq2) (cwV 1 hts gX5_place_X5_isRunner rfl rfl rfl qqX5_isRunner ⟨Nat.le_of_ble_eq_true rfl, Nat.le_of_ble_eq_true rfl⟩) hw (rvMd hw) rfl hl.1 rfl (Nat.le_of_ble_eq_true rfl) dX5_place_2 ⟨Nat.zero_le _, Nat.zero_le _⟩ rfl (fun H locs hw => ?_)
  refine lv_if_eq (tgt := 16) hx hb dX5_place_5 (by decide) (fun c5 => ?_) (fun c5 => ?_)
  · replace h := o_t c5 h
    refine lv_aload_n hx hb dX5_place_16 rfl (lv_at hl 0 rfl) ?_
    refine lv_ldc (v := -1000000001) hx hb hown (hts (.constant RX5 38 (-1000000001)) (by decide +kernel)) dX5_place_17 ?_
    obtain ⟨q19, eq19, h⟩ := o_bd h
    refine kV (As := [.int (-1000000001 : Int32)]) (rest := []) (st' := [.int q19.1]) ⟨hx, hb, hml, hown, hts⟩ (kX5_finds l G eq19) (cwV 1 hts gX5_place_X5_finds rfl rfl rfl qqX5_finds ⟨Nat.le_of_ble_eq_true rfl, Nat.le_of_ble_eq_true rfl⟩) hw (rvMd hw) rfl hl.1 rfl (Nat.le_of_ble_eq_true rfl) dX5_place_19 ⟨Nat.zero_le _, Nat.zero_le _⟩ rfl (fun H locs hw => ?_)
    exact rI hQ hx hb hr hlk hw dX5_place_22 (o_2a h) rfl (o_2b h)
  · replace h := o_f c5 h
    refine lv_aload_n hx hb dX5_place_8 rfl (lv_at hl 0 rfl) ?_
    refine lv_iload_n hx hb dX5_place_9 rfl (lv_at hl 1 rfl) ?_
    obtain ⟨q10, eq10, h⟩ := o_bd h
    refine kV (As := [.int a1]) (rest := []) (st' := [.int q10]) ⟨hx, hb, hml, hown, hts⟩ (kX5_whoIs l G eq10) (cwV 1 hts gX5_place_X5_whoIs rfl rfl rfl qqX5_whoIs ⟨Nat.le_of_ble_eq_true rfl, Nat.le_of_ble_eq_true rfl⟩) hw (rvMd hw) rfl hl.1 rfl (Nat.le_of_ble_eq_true rfl) dX5_place_10 ⟨Nat.zero_le _, Nat.zero_le _⟩ rfl (fun H locs hw => ?_)
    refine lv_goto (tgt := 22) hx hb dX5_place_13 (by decide) ?_
    exact rI hQ hx hb hr hlk hw dX5_place_22 (o_2a h) rfl (o_2b h)
-- X5_prizeOf
set_option maxRecDepth 100000 in
set_option maxHeartbeats 4000000 in
theorem kX5_prizeOf (l : Launch) (G : sGl) {S : sWo} {M : sOb} {a1 : Int32} {q : Int32}  (h : fX5_prizeOf M a1 = some q) : sCt l G yX5_prizeOf wsX5_prizeOf rmX5_prizeOf [.ref (sA G 9 0), .int a1] S M (some (.int q)) S M := by
  refine cMk (cc := cX5_prizeOf) (maxL := 2) (ret := (some .int)) (by decide) rfl (Nat.le_of_ble_eq_true rfl) ?_
  intro p e s m args below meth c Q hQ hx hb hr hlk hml hown hts hw ls hl
  have hown : s.vm.findClass RX5 = some m.cls := hown
  have hl : lv_has ls 2 [(0, .ref (sA G 9 0)), (1, .int a1)] := hl
  have hiX5 : ∀ w ∈ u_ws RX5 TX5 15, w ∈ wsX5_prizeOf := by decide +kernel
  unfold fX5_prizeOf at h
  refine lv_aload_n hx hb dX5_prizeOf_0 rfl (lv_at hl 0 rfl) ?_
  refine lv_iload_n hx hb dX5_prizeOf_1 rfl (lv_at hl 1 rfl) ?_
  refine lv_if_ne (tgt := 9) hx hb dX5_prizeOf_2 (by decide) (fun c2 => ?_) (fun c2 => ?_)
  · replace h := o_f c2 h
    refine lv_iload_n hx hb dX5_prizeOf_9 rfl (lv_at hl 1 rfl) ?_
    refine lv_iconst (v := 1) hx hb dX5_prizeOf_10 (by decide) ?_
    refine lv_icmp_ne (tgt := 18) hx hb dX5_prizeOf_11 (by decide) (fun c11 => ?_) (fun c11 => ?_)
    · replace h := o_f c11 h
      refine lv_iload_n hx hb dX5_prizeOf_18 rfl (lv_at hl 1 rfl) ?_
      refine lv_iconst (v := 2) hx hb dX5_prizeOf_19 (by decide) ?_
      refine lv_icmp_ne (tgt := 34) hx hb dX5_prizeOf_20 (by decide) (fun c20 => ?_) (fun c20 => ?_)
      · replace h := o_f c20 h
        refine lv_aload_n hx hb dX5_prizeOf_34 rfl (lv_at hl 0 rfl) ?_
        refine gMd (v := .ref (sA G 9 1)) hx hb hts hiX5 hown hw 0 (by decide) (hts (.fieldLink RX5 7 "SecondHomeModel" "s" "[I") (by decide +kernel)) rfl dX5_prizeOf_35 ?_
        refine lv_iconst (v := 0) hx hb dX5_prizeOf_38 (by decide) ?_
        refine ldMd hx hb hw 0 (by decide) (n := 77) rfl (by decide) dX5_prizeOf_39 ?_
        refine lv_iconst (v := 1) hx hb dX5_prizeOf_40 (by decide) ?_
        refine lv_isub hx hb dX5_prizeOf_41 ?_
        refine lv_iconst (v := 2) hx hb dX5_prizeOf_42 (by decide) ?_
        refine lv_idiv hx hb dX5_prizeOf_43 (by decide) ?_
        obtain ⟨q44, eq44, h⟩ := o_bd h
        refine kV (As := [.int (((M.2.1 0 (0 : Int32).toNatClampNeg) - (1 : Int32)) / (2 : Int32))]) (rest := []) (st' := [.int q44]) ⟨hx, hb, hml, hown, hts⟩ (kX5_whoIs l G eq44) (cwV 1 hts gX5_prizeOf_X5_whoIs rfl rfl rfl qqX5_whoIs ⟨Nat.le_of_ble_eq_true rfl, Nat.le_of_ble_eq_true rfl⟩) hw (rvMd hw) rfl hl.1 rfl (Nat.le_of_ble_eq_true rfl) dX5_prizeOf_44 ⟨Nat.zero_le _, Nat.zero_le _⟩ rfl (fun H locs hw => ?_)
        exact rI hQ hx hb hr hlk hw dX5_prizeOf_47 (o_1 h) rfl rfl
      · replace h := o_t c20 h
        refine lv_aload_n hx hb dX5_prizeOf_23 rfl (lv_at hl 0 rfl) ?_
        refine gMd (v := .ref (sA G 9 1)) hx hb hts hiX5 hown hw 0 (by decide) (hts (.fieldLink RX5 7 "SecondHomeModel" "s" "[I") (by decide +kernel)) rfl dX5_prizeOf_24 ?_
        refine lv_iconst (v := 0) hx hb dX5_prizeOf_27 (by decide) ?_
        refine ldMd hx hb hw 0 (by decide) (n := 77) rfl (by decide) dX5_prizeOf_28 ?_
        refine lv_iconst (v := 2) hx hb dX5_prizeOf_29 (by decide) ?_
        refine lv_isub hx hb dX5_prizeOf_30 ?_
        refine lv_goto (tgt := 44) hx hb dX5_prizeOf_31 (by decide) ?_
        obtain ⟨q44, eq44, h⟩ := o_bd h
        refine kV (As := [.int ((M.2.1 0 (0 : Int32).toNatClampNeg) - (2 : Int32))]) (rest := []) (st' := [.int q44]) ⟨hx, hb, hml, hown, hts⟩ (kX5_whoIs l G eq44) (cwV 1 hts gX5_prizeOf_X5_whoIs rfl rfl rfl qqX5_whoIs ⟨Nat.le_of_ble_eq_true rfl, Nat.le_of_ble_eq_true rfl⟩) hw (rvMd hw) rfl hl.1 rfl (Nat.le_of_ble_eq_true rfl) dX5_prizeOf_44 ⟨Nat.zero_le _, Nat.zero_le _⟩ rfl (fun H locs hw => ?_)
        exact rI hQ hx hb hr hlk hw dX5_prizeOf_47 (o_1 h) rfl rfl
    · replace h := o_t c11 h
      refine lv_iconst (v := 1) hx hb dX5_prizeOf_14 (by decide) ?_
      refine lv_goto (tgt := 44) hx hb dX5_prizeOf_15 (by decide) ?_
      obtain ⟨q44, eq44, h⟩ := o_bd h
      refine kV (As := [.int (1 : Int32)]) (rest := []) (st' := [.int q44]) ⟨hx, hb, hml, hown, hts⟩ (kX5_whoIs l G eq44) (cwV 1 hts gX5_prizeOf_X5_whoIs rfl rfl rfl qqX5_whoIs ⟨Nat.le_of_ble_eq_true rfl, Nat.le_of_ble_eq_true rfl⟩) hw (rvMd hw) rfl hl.1 rfl (Nat.le_of_ble_eq_true rfl) dX5_prizeOf_44 ⟨Nat.zero_le _, Nat.zero_le _⟩ rfl (fun H locs hw => ?_)
      exact rI hQ hx hb hr hlk hw dX5_prizeOf_47 (o_1 h) rfl rfl
  · replace h := o_t c2 h
    refine lv_iconst (v := 0) hx hb dX5_prizeOf_5 (by decide) ?_
    refine lv_goto (tgt := 44) hx hb dX5_prizeOf_6 (by decide) ?_
    obtain ⟨q44, eq44, h⟩ := o_bd h
    refine kV (As := [.int (0 : Int32)]) (rest := []) (st' := [.int q44]) ⟨hx, hb, hml, hown, hts⟩ (kX5_whoIs l G eq44) (cwV 1 hts gX5_prizeOf_X5_whoIs rfl rfl rfl qqX5_whoIs ⟨Nat.le_of_ble_eq_true rfl, Nat.le_of_ble_eq_true rfl⟩) hw (rvMd hw) rfl hl.1 rfl (Nat.le_of_ble_eq_true rfl) dX5_prizeOf_44 ⟨Nat.zero_le _, Nat.zero_le _⟩ rfl (fun H locs hw => ?_)
    exact rI hQ hx hb hr hlk hw dX5_prizeOf_47 (o_1 h) rfl rfl
-- X5_prize
set_option maxRecDepth 100000 in
set_option maxHeartbeats 4000000 in
theorem kX5_prize (l : Launch) (G : sGl) {S : sWo} {M : sOb}  {q : (Int32 × sOb)}  (h : fX5_prize M = some q) : sCt l G yX5_prize wsX5_prize rmX5_prize [.ref (sA G 9 0)] S M (some (.int q.1)) S q.2 := by
  refine cMk (cc := cX5_prize) (maxL := 1) (ret := (some .int)) (by decide) rfl (Nat.le_of_ble_eq_true rfl) ?_
  intro p e s m args below meth c Q hQ hx hb hr hlk hml hown hts hw ls hl
  have hown : s.vm.findClass RX5 = some m.cls := hown
  have hl : lv_has ls 1 [(0, .ref (sA G 9 0))] := hl
  have hiX5 : ∀ w ∈ u_ws RX5 TX5 15, w ∈ wsX5_prize := by decide +kernel
  unfold fX5_prize at h
  refine lv_aload_n hx hb dX5_prize_0 rfl (lv_at hl 0 rfl) ?_
  refine lv_aload_n hx hb dX5_prize_1 rfl (lv_at hl 0 rfl) ?_
  refine lv_aload_n hx hb dX5_prize_2 rfl (lv_at hl 0 rfl) ?_
  refine gMd (v := .ref (sA G 9 1)) hx hb hts hiX5 hown hw 0 (by decide) (hts (.fieldLink RX5 7 "SecondHomeModel" "s" "[I") (by decide +kernel)) rfl dX5_prize_3 ?_
  refine lv_iconst (v := 3) hx hb dX5_prize_6 (by decide) ?_
  refine ldMd hx hb hw 0 (by decide) (n := 77) rfl (by decide) dX5_prize_7 ?_
  obtain ⟨q8, eq8, h⟩ := o_bd h
  refine kV (As := [.int (M.2.1 0 (3 : Int32).toNatClampNeg)]) (rest := [.ref (sA G 9 0)]) (st' := [.int q8, .ref (sA G 9 0)]) ⟨hx, hb, hml, hown, hts⟩ (kX5_prizeOf l G eq8) (cwV 1 hts gX5_prize_X5_prizeOf rfl rfl rfl qqX5_prizeOf ⟨Nat.le_of_ble_eq_true rfl, Nat.le_of_ble_eq_true rfl⟩) hw (rvMd hw) rfl hl.1 rfl (Nat.le_of_ble_eq_true rfl) dX5_prize_8 ⟨Nat.zero_le _, Nat.zero_le _⟩ rfl (fun H locs hw => ?_)
  obtain ⟨q11, eq11, h⟩ := o_bd h
  refine kV (As := [.int q8]) (rest := []) (st' := [.int q11.1]) ⟨hx, hb, hml, hown, hts⟩ (kX5_orNone l G eq11) (cwV 1 hts gX5_prize_X5_orNone rfl rfl rfl qqX5_orNone ⟨Nat.le_of_ble_eq_true rfl, Nat.le_of_ble_eq_true rfl⟩) hw (rvMd hw) rfl hl.1 rfl (Nat.le_of_ble_eq_true rfl) dX5_prize_11 ⟨Nat.zero_le _, Nat.zero_le _⟩ rfl (fun H locs hw => ?_)
  exact rI hQ hx hb hr hlk hw dX5_prize_14 (o_2a h) rfl (o_2b h)
-- X5_score
set_option maxRecDepth 100000 in
set_option maxHeartbeats 4000000 in
theorem kX5_score (l : Launch) (G : sGl) {S : sWo} {M : sOb}  {q : (Int32 × sOb)}  (h : fX5_score M = some q) : sCt l G yX5_score wsX5_score rmX5_score [.ref (sA G 9 0)] S M (some (.int q.1)) S q.2 := by
  refine cMk (cc := cX5_score) (maxL := 5) (ret := (some .int)) (by decide) rfl (Nat.le_of_ble_eq_true rfl) ?_
  intro p e s m args below meth c Q hQ hx hb hr hlk hml hown hts hw ls hl
  have hown : s.vm.findClass RX5 = some m.cls := hown
  have hl : lv_has ls 5 [(0, .ref (sA G 9 0))] := hl
  have hiX5 : ∀ w ∈ u_ws RX5 TX5 15, w ∈ wsX5_score := by decide +kernel
  unfold fX5_score at h
  refine lv_aload_n hx hb dX5_score_0 rfl (lv_at hl 0 rfl) ?_
  refine gMd (v := .ref (sA G 9 1)) hx hb hts hiX5 hown hw 0 (by decide) (hts (.fieldLink RX5 7 "SecondHomeModel" "s" "[I") (by decide +kernel)) rfl dX5_score_1 ?_
  refine lv_iconst (v := 0) hx hb dX5_score_4 (by decide) ?_
  refine ldMd hx hb hw 0 (by decide) (n := 77) rfl (by decide) dX5_score_5 ?_
  refine lv_if_eq (tgt := 22) hx hb dX5_score_6 (by decide) (fun c6 => ?_) (fun c6 => ?_)
  · replace h := o_t c6 h
    refine lv_aload_n hx hb dX5_score_22 rfl (lv_at hl 0 rfl) ?_
    refine lv_ldc (v := -1000000005) hx hb hown (hts (.constant RX5 60 (-1000000005)) (by decide +kernel)) dX5_score_23 ?_
    obtain ⟨q25, eq25, h⟩ := o_bd h
    refine kV (As := [.int (-1000000005 : Int32)]) (rest := []) (st' := [.int q25.1]) ⟨hx, hb, hml, hown, hts⟩ (kX5_finds l G eq25) (cwV 1 hts gX5_score_X5_finds rfl rfl rfl qqX5_finds ⟨Nat.le_of_ble_eq_true rfl, Nat.le_of_ble_eq_true rfl⟩) hw (rvMd hw) rfl hl.1 rfl (Nat.le_of_ble_eq_true rfl) dX5_score_25 ⟨Nat.zero_le _, Nat.zero_le _⟩ rfl (fun H locs hw => ?_)
    exact rI hQ hx hb hr hlk hw dX5_score_28 (o_2a h) rfl (o_2b h)
  · replace h := o_f c6 h
    refine lv_aload_n hx hb dX5_score_9 rfl (lv_at hl 0 rfl) ?_
    obtain ⟨q10, eq10, h⟩ := o_bd h
    refine kV (As := []) (rest := []) (st' := [.int q10]) ⟨hx, hb, hml, hown, hts⟩ (kX5_homeMany l G eq10) (cwV 0 hts gX5_score_X5_homeMany rfl rfl rfl qqX5_homeMany ⟨Nat.le_of_ble_eq_true rfl, Nat.le_of_ble_eq_true rfl⟩) hw (rvMd hw) rfl hl.1 rfl (Nat.le_of_ble_eq_true rfl) dX5_score_10 ⟨Nat.zero_le _, Nat.zero_le _⟩ rfl (fun H locs hw => ?_)
    refine lv_aload_n hx hb dX5_score_13 rfl (lv_at hl 0 rfl) ?_
    refine gMd (v := .ref (sA G 9 1)) hx hb hts hiX5 hown hw 0 (by decide) (hts (.fieldLink RX5 7 "SecondHomeModel" "s" "[I") (by decide +kernel)) rfl dX5_score_14 ?_
    refine lv_iconst (v := 0) hx hb dX5_score_17 (by decide) ?_
    refine ldMd hx hb hw 0 (by decide) (n := 77) rfl (by decide) dX5_score_18 ?_
    refine lv_icmp_ge (tgt := 29) hx hb dX5_score_19 (by decide) (fun c19 => ?_) (fun c19 => ?_)
    · replace h := o_t c19 h
      refine lv_iconst (v := 0) hx hb dX5_score_29 (by decide) ?_
      refine lv_istore_n (lv' := [(1, .int (0 : Int32)), (0, .ref (sA G 9 0))]) hx hb dX5_score_30 rfl hl (by decide) rfl (fun ls hl => ?_)
      refine lv_aload_n hx hb dX5_score_31 rfl (lv_at hl 1 rfl) ?_
      refine lv_aload_n hx hb dX5_score_32 rfl (lv_at hl 1 rfl) ?_
      refine gMd (v := .ref (sA G 9 1)) hx hb hts hiX5 hown hw 0 (by decide) (hts (.fieldLink RX5 7 "SecondHomeModel" "s" "[I") (by decide +kernel)) rfl dX5_score_33 ?_
      refine lv_iconst (v := 3) hx hb dX5_score_36 (by decide) ?_
      refine ldMd hx hb hw 0 (by decide) (n := 77) rfl (by decide) dX5_score_37 ?_
      obtain ⟨q38, eq38, h⟩ := o_bd h
      refine kV (As := [.int (M.2.1 0 (3 : Int32).toNatClampNeg)]) (rest := []) (st' := [.int q38]) ⟨hx, hb, hml, hown, hts⟩ (kX5_prizeOf l G eq38) (cwV 1 hts gX5_score_X5_prizeOf rfl rfl rfl qqX5_prizeOf ⟨Nat.le_of_ble_eq_true rfl, Nat.le_of_ble_eq_true rfl⟩) hw (rvMd hw) rfl hl.1 rfl (Nat.le_of_ble_eq_true rfl) dX5_score_38 ⟨Nat.zero_le _, Nat.zero_le _⟩ rfl (fun H locs hw => ?_)
      refine lv_istore_n (lv' := [(2, .int q38), (1, .int (0 : Int32)), (0, .ref (sA G 9 0))]) hx hb dX5_score_41 rfl hl (by decide) rfl (fun ls hl => ?_)
      refine lv_iconst (v := 0) hx hb dX5_score_42 (by decide) ?_
      refine lv_istore_n (lv' := [(3, .int (0 : Int32)), (2, .int q38), (1, .int (0 : Int32)), (0, .ref (sA G 9 0))]) hx hb dX5_score_43 rfl hl (by decide) rfl (fun ls hl => ?_)
      refine fx3_w (F := (bX5_score_44 q38)) (P := fun x1_44 x3_44 T_44 => ∀ (H : Heap) (locs : List Loc) (ls : Array Slot), sHw G s S T_44 H locs → lv_has ls 5 [(0, .ref (sA G 9 0)), (1, .int x1_44), (2, .int q38), (3, .int x3_44)] → W p l e rmX5_score s m args below meth c H locs 0 0 Q (F0 m 44 ls [])) ?_ _ _ _ _ h _ _ _ hw (lv_sub hl [3, 2, 1, 0] rfl)
      intro rc44 IH44 x1_44 x3_44 T_44 h H locs ls hw hl
      unfold bX5_score_44 at h
      refine lv_iload_n hx hb dX5_score_44 rfl (lv_at hl 3 rfl) ?_
      refine lv_aload_n hx hb dX5_score_45 rfl (lv_at hl 0 rfl) ?_
      refine gMd (v := .ref (sA G 9 1)) hx hb hts hiX5 hown hw 0 (by decide) (hts (.fieldLink RX5 7 "SecondHomeModel" "s" "[I") (by decide +kernel)) rfl dX5_score_46 ?_
      refine lv_iconst (v := 0) hx hb dX5_score_49 (by decide) ?_
      refine ldMd hx hb hw 0 (by decide) (n := 77) rfl (by decide) dX5_score_50 ?_
      refine lv_icmp_ge (tgt := 110) hx hb dX5_score_51 (by decide) (fun c51 => ?_) (fun c51 => ?_)
      · replace h := o_t c51 h
        refine lv_iload_n hx hb dX5_score_110 rfl (lv_at hl 1 rfl) ?_
        exact rI hQ hx hb hr hlk hw dX5_score_111 (o_2a h) rfl (o_2b h)
      · replace h := o_f c51 h
        refine lv_aload_n hx hb dX5_score_54 rfl (lv_at hl 0 rfl) ?_
        refine gMd (v := .ref (sA G 9 1)) hx hb hts hiX5 hown hw 0 (by decide) (hts (.fieldLink RX5 7 "SecondHomeModel" "s" "[I") (by decide +kernel)) rfl dX5_score_55 ?_
        refine lv_iconst (v := 0) hx hb dX5_score_58 (by decide) ?_
        refine ldMd hx hb hw 0 (by decide) (n := 77) rfl (by decide) dX5_score_59 ?_
        refine lv_iconst (v := 1) hx hb dX5_score_60 (by decide) ?_
        refine lv_isub hx hb dX5_score_61 ?_
        refine lv_aload_n hx hb dX5_score_62 rfl (lv_at hl 0 rfl) ?_
        refine lv_iload_n hx hb dX5_score_63 rfl (lv_at hl 3 rfl) ?_
        obtain ⟨q64, eq64, h⟩ := o_bd h
        refine kV (As := [.int x3_44]) (rest := [.int ((T_44.2.1 0 (0 : Int32).toNatClampNeg) - (1 : Int32))]) (st' := [.int q64, .int ((T_44.2.1 0 (0 : Int32).toNatClampNeg) - (1 : Int32))]) ⟨hx, hb, hml, hown, hts⟩ (kX5_placeOf l G eq64) (cwV 1 hts gX5_score_X5_placeOf rfl rfl rfl qqX5_placeOf ⟨Nat.le_of_ble_eq_true rfl, Nat.le_of_ble_eq_true rfl⟩) hw (rvMd hw) rfl hl.1 rfl (Nat.le_of_ble_eq_true rfl) dX5_score_64 ⟨Nat.zero_le _, Nat.zero_le _⟩ rfl (fun H locs hw => ?_)
        refine lv_isub hx hb dX5_score_67 ?_
        refine lv_iload_n hx hb dX5_score_68 rfl (lv_at hl 3 rfl) ?_
        refine lv_iload_n hx hb dX5_score_69 rfl (lv_at hl 2 rfl) ?_
        obtain ⟨k79, ek79, h⟩ := o_nm h
        have J79 : ∀ (y0_79 : Int32) (H : Heap) (locs : List Loc) (ls : Array Slot), sHw G s S T_44 H locs → lv_has ls 5 [(0, .ref (sA G 9 0)), (1, .int x1_44), (2, .int q38), (3, .int x3_44)] → k79 y0_79 = some q → W p l e rmX5_score s m args below meth c H locs 0 0 Q (F0 m 79 ls [.int y0_79, .int (((T_44.2.1 0 (0 : Int32).toNatClampNeg) - (1 : Int32)) - q64)]) := by
          intro y0_79 H locs ls hw hl h
          replace h := o_j1 ek79 h
          refine lv_iadd hx hb dX5_score_79 ?_
          refine lv_topi (fun v80 ev80 => ?_)
          replace h := o_nx ev80 h
          refine lv_istore (lv' := [(4, .int v80), (0, .ref (sA G 9 0)), (1, .int x1_44), (2, .int q38), (3, .int x3_44)]) hx hb dX5_score_80 hl (by decide) rfl (fun ls hl => ?_)
          refine lv_aload_n hx hb dX5_score_82 rfl (lv_at hl 1 rfl) ?_
          refine lv_iload_n hx hb dX5_score_83 rfl (lv_at hl 4 rfl) ?_
          refine lv_bipush (v := 6) hx hb dX5_score_84 (by decide) ?_
          refine lv_aload_n hx hb dX5_score_86 rfl (lv_at hl 1 rfl) ?_
          refine lv_iload_n hx hb dX5_score_87 rfl (lv_at hl 4 rfl) ?_
          refine lv_bipush (v := 6) hx hb dX5_score_88 (by decide) ?_
          obtain ⟨q90, eq90, h⟩ := o_bd h
          refine kV (As := [.int x3_44, .int (6 : Int32)]) (rest := [.int (6 : Int32), .int x3_44, .ref (sA G 9 0)]) (st' := [.int q90, .int (6 : Int32), .int x3_44, .ref (sA G 9 0)]) ⟨hx, hb, hml, hown, hts⟩ (kX5_is l G eq90) (cwV 2 hts gX5_score_X5_is rfl rfl rfl qqX5_is ⟨Nat.le_of_ble_eq_true rfl, Nat.le_of_ble_eq_true rfl⟩) hw (rvMd hw) rfl hl.1 rfl (Nat.le_of_ble_eq_true rfl) dX5_score_90 ⟨Nat.zero_le _, Nat.zero_le _⟩ rfl (fun H locs hw => ?_)
          refine lv_iload hx hb dX5_score_93 (lv_at hl 0 rfl) ?_
          refine lv_iadd hx hb dX5_score_95 ?_
          obtain ⟨q96, eq96, h⟩ := o_bd h
          refine kV (As := [.int x3_44, .int (6 : Int32), .int (q90 + v80)]) (rest := []) (st' := []) ⟨hx, hb, hml, hown, hts⟩ (kX5_puts l G eq96) (cwV 3 hts gX5_score_X5_puts rfl rfl rfl qqX5_puts ⟨Nat.le_of_ble_eq_true rfl, Nat.le_of_ble_eq_true rfl⟩) hw (rvMd hw) rfl hl.1 rfl (Nat.le_of_ble_eq_true rfl) dX5_score_96 ⟨Nat.zero_le _, Nat.zero_le _⟩ rfl (fun H locs hw => ?_)
          refine lv_iload_n hx hb dX5_score_99 rfl (lv_at hl 2 rfl) ?_
          refine lv_iload hx hb dX5_score_100 (lv_at hl 0 rfl) ?_
          refine lv_iadd hx hb dX5_score_102 ?_
          refine lv_topi (fun v103 ev103 => ?_)
          replace h := o_nx ev103 h
          refine lv_istore_n (lv' := [(1, .int v103), (4, .int v80), (0, .ref (sA G 9 0)), (2, .int q38), (3, .int x3_44)]) hx hb dX5_score_103 rfl hl (by decide) rfl (fun ls hl => ?_)
          obtain ⟨v104, ev104, h⟩ := o_nm h
          refine lv_iinc (v := v104) (lv' := [(3, .int v104), (1, .int v103), (4, .int v80), (0, .ref (sA G 9 0)), (2, .int q38)]) hx hb dX5_score_104 hl (k := 4) rfl (by rw [ev104]; rfl) (by decide) rfl (fun ls hl => ?_)
          refine lv_goto (tgt := 44) hx hb dX5_score_107 (by decide) ?_
          exact IH44 v103 v104 q96 h _ _ _ hw (lv_sub hl [3, 1, 4, 0] rfl)
        refine lv_icmp_ne (tgt := 78) hx hb dX5_score_70 (by decide) (fun c70 => ?_) (fun c70 => ?_)
        · replace h := o_f c70 h
          refine lv_iconst (v := 0) hx hb dX5_score_78 (by decide) ?_
          exact J79 (0 : Int32) _ _ _ hw (lv_sub hl [0, 1, 2, 3] rfl) h
        · replace h := o_t c70 h
          refine lv_bipush (v := 10) hx hb dX5_score_73 (by decide) ?_
          refine lv_goto (tgt := 79) hx hb dX5_score_75 (by decide) ?_
          exact J79 (10 : Int32) _ _ _ hw (lv_sub hl [0, 1, 2, 3] rfl) h
    · replace h := o_f c19 h
      refine lv_aload_n hx hb dX5_score_22 rfl (lv_at hl 0 rfl) ?_
      refine lv_ldc (v := -1000000005) hx hb hown (hts (.constant RX5 60 (-1000000005)) (by decide +kernel)) dX5_score_23 ?_
      obtain ⟨q25, eq25, h⟩ := o_bd h
      refine kV (As := [.int (-1000000005 : Int32)]) (rest := []) (st' := [.int q25.1]) ⟨hx, hb, hml, hown, hts⟩ (kX5_finds l G eq25) (cwV 1 hts gX5_score_X5_finds rfl rfl rfl qqX5_finds ⟨Nat.le_of_ble_eq_true rfl, Nat.le_of_ble_eq_true rfl⟩) hw (rvMd hw) rfl hl.1 rfl (Nat.le_of_ble_eq_true rfl) dX5_score_25 ⟨Nat.zero_le _, Nat.zero_le _⟩ rfl (fun H locs hw => ?_)
      exact rI hQ hx hb hr hlk hw dX5_score_28 (o_2a h) rfl (o_2b h)
-- X5_leads
set_option maxRecDepth 100000 in
set_option maxHeartbeats 4000000 in
theorem kX5_leads (l : Launch) (G : sGl) {S : sWo} {M : sOb}  {q : (Int32 × sOb)}  (h : fX5_leads M = some q) : sCt l G yX5_leads wsX5_leads rmX5_leads [.ref (sA G 9 0)] S M (some (.int q.1)) S q.2 := by
  refine cMk (cc := cX5_leads) (maxL := 3) (ret := (some .int)) (by decide) rfl (Nat.le_of_ble_eq_true rfl) ?_
  intro p e s m args below meth c Q hQ hx hb hr hlk hml hown hts hw ls hl
  have hown : s.vm.findClass RX5 = some m.cls := hown
  have hl : lv_has ls 3 [(0, .ref (sA G 9 0))] := hl
  have hiX5 : ∀ w ∈ u_ws RX5 TX5 15, w ∈ wsX5_leads := by decide +kernel
  unfold fX5_leads at h
  refine lv_iconst (v := -1) hx hb dX5_leads_0 (by decide) ?_
  refine lv_istore_n (lv' := [(1, .int (-1 : Int32)), (0, .ref (sA G 9 0))]) hx hb dX5_leads_1 rfl hl (by decide) rfl (fun ls hl => ?_)
  refine lv_iconst (v := 0) hx hb dX5_leads_2 (by decide) ?_
  refine lv_istore_n (lv' := [(2, .int (0 : Int32)), (1, .int (-1 : Int32)), (0, .ref (sA G 9 0))]) hx hb dX5_leads_3 rfl hl (by decide) rfl (fun ls hl => ?_)
  refine fx2_w (F := (bX5_leads_4 M)) (P := fun x1_4 x2_4 => ∀ (H : Heap) (locs : List Loc) (ls : Array Slot), sHw G s S M H locs → lv_has ls 3 [(0, .ref (sA G 9 0)), (1, .int x1_4), (2, .int x2_4)] → W p l e rmX5_leads s m args below meth c H locs 0 0 Q (F0 m 4 ls [])) ?_ _ _ _ h _ _ _ hw (lv_sub hl [2, 1, 0] rfl)
  intro rc4 IH4 x1_4 x2_4 h H locs ls hw hl
  unfold bX5_leads_4 at h
  refine lv_iload_n hx hb dX5_leads_4 rfl (lv_at hl 2 rfl) ?_
  refine lv_aload_n hx hb dX5_leads_5 rfl (lv_at hl 0 rfl) ?_
  refine gMd (v := .ref (sA G 9 1)) hx hb hts hiX5 hown hw 0 (by decide) (hts (.fieldLink RX5 7 "SecondHomeModel" "s" "[I") (by decide +kernel)) rfl dX5_leads_6 ?_
  refine lv_iconst (v := 0) hx hb dX5_leads_9 (by decide) ?_
  refine ldMd hx hb hw 0 (by decide) (n := 77) rfl (by decide) dX5_leads_10 ?_
  refine lv_icmp_ge (tgt := 47) hx hb dX5_leads_11 (by decide) (fun c11 => ?_) (fun c11 => ?_)
  · replace h := o_t c11 h
    refine lv_aload_n hx hb dX5_leads_47 rfl (lv_at hl 0 rfl) ?_
    refine lv_iload_n hx hb dX5_leads_48 rfl (lv_at hl 1 rfl) ?_
    obtain ⟨q49, eq49, h⟩ := o_bd h
    refine kV (As := [.int x1_4]) (rest := []) (st' := [.int q49.1]) ⟨hx, hb, hml, hown, hts⟩ (kX5_orNone l G eq49) (cwV 1 hts gX5_leads_X5_orNone rfl rfl rfl qqX5_orNone ⟨Nat.le_of_ble_eq_true rfl, Nat.le_of_ble_eq_true rfl⟩) hw (rvMd hw) rfl hl.1 rfl (Nat.le_of_ble_eq_true rfl) dX5_leads_49 ⟨Nat.zero_le _, Nat.zero_le _⟩ rfl (fun H locs hw => ?_)
    exact rI hQ hx hb hr hlk hw dX5_leads_52 (o_2a h) rfl (o_2b h)
  · replace h := o_f c11 h
    refine lv_iload_n hx hb dX5_leads_14 rfl (lv_at hl 1 rfl) ?_
    refine lv_if_lt (tgt := 35) hx hb dX5_leads_15 (by decide) (fun c15 => ?_) (fun c15 => ?_)
    · replace h := o_t c15 h
      refine lv_iload_n hx hb dX5_leads_35 rfl (lv_at hl 2 rfl) ?_
      refine lv_goto (tgt := 40) hx hb dX5_leads_36 (by decide) ?_
      refine lv_istore_n (lv' := [(1, .int x2_4), (0, .ref (sA G 9 0)), (2, .int x2_4)]) hx hb dX5_leads_40 rfl hl (by decide) rfl (fun ls hl => ?_)
      obtain ⟨v41, ev41, h⟩ := o_nm h
      refine lv_iinc (v := v41) (lv' := [(2, .int v41), (1, .int x2_4), (0, .ref (sA G 9 0))]) hx hb dX5_leads_41 hl (k := 2) rfl (by rw [ev41]; rfl) (by decide) rfl (fun ls hl => ?_)
      refine lv_goto (tgt := 4) hx hb dX5_leads_44 (by decide) ?_
      exact IH4 x2_4 v41 h _ _ _ hw (lv_sub hl [2, 1, 0] rfl)
    · replace h := o_f c15 h
      refine lv_aload_n hx hb dX5_leads_18 rfl (lv_at hl 0 rfl) ?_
      refine lv_iload_n hx hb dX5_leads_19 rfl (lv_at hl 2 rfl) ?_
      refine lv_bipush (v := 6) hx hb dX5_leads_20 (by decide) ?_
      obtain ⟨q22, eq22, h⟩ := o_bd h
      refine kV (As := [.int x2_4, .int (6 : Int32)]) (rest := []) (st' := [.int q22]) ⟨hx, hb, hml, hown, hts⟩ (kX5_is l G eq22) (cwV 2 hts gX5_leads_X5_is rfl rfl rfl qqX5_is ⟨Nat.le_of_ble_eq_true rfl, Nat.le_of_ble_eq_true rfl⟩) hw (rvMd hw) rfl hl.1 rfl (Nat.le_of_ble_eq_true rfl) dX5_leads_22 ⟨Nat.zero_le _, Nat.zero_le _⟩ rfl (fun H locs hw => ?_)
      refine lv_aload_n hx hb dX5_leads_25 rfl (lv_at hl 0 rfl) ?_
      refine lv_iload_n hx hb dX5_leads_26 rfl (lv_at hl 1 rfl) ?_
      refine lv_bipush (v := 6) hx hb dX5_leads_27 (by decide) ?_
      obtain ⟨q29, eq29, h⟩ := o_bd h
      refine kV (As := [.int x1_4, .int (6 : Int32)]) (rest := [.int q22]) (st' := [.int q29, .int q22]) ⟨hx, hb, hml, hown, hts⟩ (kX5_is l G eq29) (cwV 2 hts gX5_leads_X5_is rfl rfl rfl qqX5_is ⟨Nat.le_of_ble_eq_true rfl, Nat.le_of_ble_eq_true rfl⟩) hw (rvMd hw) rfl hl.1 rfl (Nat.le_of_ble_eq_true rfl) dX5_leads_29 ⟨Nat.zero_le _, Nat.zero_le _⟩ rfl (fun H locs hw => ?_)
      refine lv_icmp_le (tgt := 39) hx hb dX5_leads_32 (by decide) (fun c32 => ?_) (fun c32 => ?_)
      · replace h := o_t c32 h
        refine lv_iload_n hx hb dX5_leads_39 rfl (lv_at hl 1 rfl) ?_
        refine lv_istore_n (lv' := [(1, .int x1_4), (0, .ref (sA G 9 0)), (2, .int x2_4)]) hx hb dX5_leads_40 rfl hl (by decide) rfl (fun ls hl => ?_)
        obtain ⟨v41, ev41, h⟩ := o_nm h
        refine lv_iinc (v := v41) (lv' := [(2, .int v41), (1, .int x1_4), (0, .ref (sA G 9 0))]) hx hb dX5_leads_41 hl (k := 2) rfl (by rw [ev41]; rfl) (by decide) rfl (fun ls hl => ?_)
        refine lv_goto (tgt := 4) hx hb dX5_leads_44 (by decide) ?_
        exact IH4 x1_4 v41 h _ _ _ hw (lv_sub hl [2, 1, 0] rfl)
      · replace h := o_f c32 h
        refine lv_iload_n hx hb dX5_leads_35 rfl (lv_at hl 2 rfl) ?_
        refine lv_goto (tgt := 40) hx hb dX5_leads_36 (by decide) ?_
        refine lv_istore_n (lv' := [(1, .int x2_4), (0, .ref (sA G 9 0)), (2, .int x2_4)]) hx hb dX5_leads_40 rfl hl (by decide) rfl (fun ls hl => ?_)
        obtain ⟨v41, ev41, h⟩ := o_nm h
        refine lv_iinc (v := v41) (lv' := [(2, .int v41), (1, .int x2_4), (0, .ref (sA G 9 0))]) hx hb dX5_leads_41 hl (k := 2) rfl (by rw [ev41]; rfl) (by decide) rfl (fun ls hl => ?_)
        refine lv_goto (tgt := 4) hx hb dX5_leads_44 (by decide) ?_
        exact IH4 x2_4 v41 h _ _ _ hw (lv_sub hl [2, 1, 0] rfl)
-- X5_goesOnMany
set_option maxRecDepth 100000 in
set_option maxHeartbeats 4000000 in
theorem kX5_goesOnMany (l : Launch) (G : sGl) {S : sWo} {M : sOb} {a1 : Int32} {q : sOb}  (h : fX5_goesOnMany M a1 = some q) : sCt l G yX5_goesOnMany wsX5_goesOnMany rmX5_goesOnMany [.ref (sA G 9 0), .int a1] S M none S q := by
  refine cMk (cc := cX5_goesOnMany) (maxL := 4) (ret := none) (by decide) rfl (Nat.le_of_ble_eq_true rfl) ?_
  intro p e s m args below meth c Q hQ hx hb hr hlk hml hown hts hw ls hl
  have hown : s.vm.findClass RX5 = some m.cls := hown
  have hl : lv_has ls 4 [(0, .ref (sA G 9 0)), (1, .int a1)] := hl
  unfold fX5_goesOnMany at h
  refine lv_iconst (v := 0) hx hb dX5_goesOnMany_0 (by decide) ?_
  refine lv_istore_n (lv' := [(2, .int (0 : Int32)), (0, .ref (sA G 9 0)), (1, .int a1)]) hx hb dX5_goesOnMany_1 rfl hl (by decide) rfl (fun ls hl => ?_)
  refine fx2_w (F := (bX5_goesOnMany_2 a1)) (P := fun x2_2 T_2 => ∀ (H : Heap) (locs : List Loc) (ls : Array Slot), sHw G s S T_2 H locs → lv_has ls 4 [(0, .ref (sA G 9 0)), (1, .int a1), (2, .int x2_2)] → W p l e rmX5_goesOnMany s m args below meth c H locs 0 0 Q (F0 m 2 ls [])) ?_ _ _ _ h _ _ _ hw (lv_sub hl [1, 2, 0] rfl)
  intro rc2 IH2 x2_2 T_2 h H locs ls hw hl
  unfold bX5_goesOnMany_2 at h
  refine lv_iload_n hx hb dX5_goesOnMany_2 rfl (lv_at hl 2 rfl) ?_
  refine lv_iload_n hx hb dX5_goesOnMany_3 rfl (lv_at hl 1 rfl) ?_
  refine lv_icmp_ge (tgt := 18) hx hb dX5_goesOnMany_4 (by decide) (fun c4 => ?_) (fun c4 => ?_)
  · replace h := o_t c4 h
    exact rV hQ hx hb hr hlk hw dX5_goesOnMany_18 rfl (o_1 h)
  · replace h := o_f c4 h
    refine lv_aload_n hx hb dX5_goesOnMany_7 rfl (lv_at hl 0 rfl) ?_
    obtain ⟨q8, eq8, h⟩ := o_bd h
    refine kV (As := []) (rest := []) (st' := [.int q8.1]) ⟨hx, hb, hml, hown, hts⟩ (kX5_goesOn l G eq8) (cwV 0 hts gX5_goesOnMany_X5_goesOn rfl rfl rfl qqX5_goesOn ⟨Nat.le_of_ble_eq_true rfl, Nat.le_of_ble_eq_true rfl⟩) hw (rvMd hw) rfl hl.1 rfl (Nat.le_of_ble_eq_true rfl) dX5_goesOnMany_8 ⟨Nat.zero_le _, Nat.zero_le _⟩ rfl (fun H locs hw => ?_)
    refine lv_istore_n (lv' := [(3, .int q8.1), (0, .ref (sA G 9 0)), (1, .int a1), (2, .int x2_2)]) hx hb dX5_goesOnMany_11 rfl hl (by decide) rfl (fun ls hl => ?_)
    obtain ⟨v12, ev12, h⟩ := o_nm h
    refine lv_iinc (v := v12) (lv' := [(2, .int v12), (3, .int q8.1), (0, .ref (sA G 9 0)), (1, .int a1)]) hx hb dX5_goesOnMany_12 hl (k := 3) rfl (by rw [ev12]; rfl) (by decide) rfl (fun ls hl => ?_)
    refine lv_goto (tgt := 2) hx hb dX5_goesOnMany_15 (by decide) ?_
    exact IH2 v12 q8.2 h _ _ _ hw (lv_sub hl [2, 3, 0] rfl)
-- X5_on
set_option maxRecDepth 100000 in
set_option maxHeartbeats 4000000 in
theorem kX5_on (l : Launch) (G : sGl) {S : sWo} {M : sOb} {a1 : Int32} {a2 : Int32} {q : (Int32 × sOb)}  (h : fX5_on M a1 a2 = some q) : sCt l G yX5_on wsX5_on rmX5_on [.ref (sA G 9 0), .int a1, .int a2] S M (some (.int q.1)) S q.2 := by
  refine cMk (cc := cX5_on) (maxL := 4) (ret := (some .int)) (by decide) rfl (Nat.le_of_ble_eq_true rfl) ?_
  intro p e s m args below meth c Q hQ hx hb hr hlk hml hown hts hw ls hl
  have hown : s.vm.findClass RX5 = some m.cls := hown
  have hl : lv_has ls 4 [(0, .ref (sA G 9 0)), (1, .int a1), (2, .int a2)] := hl
  unfold fX5_on at h
  refine lv_aload_n hx hb dX5_on_0 rfl (lv_at hl 0 rfl) ?_
  refine lv_iload_n hx hb dX5_on_1 rfl (lv_at hl 1 rfl) ?_
  obtain ⟨q2, eq2, h⟩ := o_bd h
  refine kV (As := [.int a1]) (rest := []) (st' := [.int q2]) ⟨hx, hb, hml, hown, hts⟩ (kX5_isRunner l G eq2) (cwV 1 hts gX5_on_X5_isRunner rfl rfl rfl qqX5_isRunner ⟨Nat.le_of_ble_eq_true rfl, Nat.le_of_ble_eq_true rfl⟩) hw (rvMd hw) rfl hl.1 rfl (Nat.le_of_ble_eq_true rfl) dX5_on_2 ⟨Nat.zero_le _, Nat.zero_le _⟩ rfl (fun H locs hw => ?_)
  refine lv_if_eq (tgt := 20) hx hb dX5_on_5 (by decide) (fun c5 => ?_) (fun c5 => ?_)
  · replace h := o_t c5 h
    refine lv_aload_n hx hb dX5_on_20 rfl (lv_at hl 0 rfl) ?_
    refine lv_ldc (v := -1000000001) hx hb hown (hts (.constant RX5 38 (-1000000001)) (by decide +kernel)) dX5_on_21 ?_
    obtain ⟨q23, eq23, h⟩ := o_bd h
    refine kV (As := [.int (-1000000001 : Int32)]) (rest := []) (st' := [.int q23.1]) ⟨hx, hb, hml, hown, hts⟩ (kX5_finds l G eq23) (cwV 1 hts gX5_on_X5_finds rfl rfl rfl qqX5_finds ⟨Nat.le_of_ble_eq_true rfl, Nat.le_of_ble_eq_true rfl⟩) hw (rvMd hw) rfl hl.1 rfl (Nat.le_of_ble_eq_true rfl) dX5_on_23 ⟨Nat.zero_le _, Nat.zero_le _⟩ rfl (fun H locs hw => ?_)
    exact rI hQ hx hb hr hlk hw dX5_on_26 (o_2a h) rfl (o_2b h)
  · replace h := o_f c5 h
    refine lv_iload_n hx hb dX5_on_8 rfl (lv_at hl 2 rfl) ?_
    refine lv_i2l hx hb dX5_on_9 rfl ?_
    refine lv_lconst (v := 0) hx hb dX5_on_10 (by decide) ?_
    refine lv_ldc2 (v := 2000) hx hb hown (hts (.constantLong RX5 136 (2000)) (by decide +kernel)) dX5_on_11 ?_
    obtain ⟨q14, eq14, h⟩ := o_bd h
    refine kS (As := [.long a2.toInt64, .long (0 : Int64), .long (2000 : Int64)]) (rest := []) (st' := [.int q14]) ⟨hx, hb, hml, hown, hts⟩ (kX5_isIn l G eq14) (va_cwS 3 hts gX5_on_X5_isIn rfl rfl rfl qqX5_isIn ⟨Nat.le_of_ble_eq_true rfl, Nat.le_of_ble_eq_true rfl⟩) hw rfl hl.1 rfl (Nat.le_of_ble_eq_true rfl) dX5_on_14 ⟨Nat.zero_le _, Nat.zero_le _⟩ rfl (fun H locs hw => ?_)
    refine lv_if_ne (tgt := 27) hx hb dX5_on_17 (by decide) (fun c17 => ?_) (fun c17 => ?_)
    · replace h := o_f c17 h
      refine lv_aload_n hx hb dX5_on_27 rfl (lv_at hl 0 rfl) ?_
      obtain ⟨q28, eq28, h⟩ := o_bd h
      refine kV (As := []) (rest := []) (st' := []) ⟨hx, hb, hml, hown, hts⟩ (kX5_laysBy l G eq28) (cwV 0 hts gX5_on_X5_laysBy rfl rfl rfl qqX5_laysBy ⟨Nat.le_of_ble_eq_true rfl, Nat.le_of_ble_eq_true rfl⟩) hw (rvMd hw) rfl hl.1 rfl (Nat.le_of_ble_eq_true rfl) dX5_on_28 ⟨Nat.zero_le _, Nat.zero_le _⟩ rfl (fun H locs hw => ?_)
      refine lv_aload_n hx hb dX5_on_31 rfl (lv_at hl 0 rfl) ?_
      refine lv_iload_n hx hb dX5_on_32 rfl (lv_at hl 2 rfl) ?_
      obtain ⟨q33, eq33, h⟩ := o_bd h
      refine kV (As := [.int a2]) (rest := []) (st' := []) ⟨hx, hb, hml, hown, hts⟩ (kX5_goesOnMany l G eq33) (cwV 1 hts gX5_on_X5_goesOnMany rfl rfl rfl qqX5_goesOnMany ⟨Nat.le_of_ble_eq_true rfl, Nat.le_of_ble_eq_true rfl⟩) hw (rvMd hw) rfl hl.1 rfl (Nat.le_of_ble_eq_true rfl) dX5_on_33 ⟨Nat.zero_le _, Nat.zero_le _⟩ rfl (fun H locs hw => ?_)
      refine lv_aload_n hx hb dX5_on_36 rfl (lv_at hl 0 rfl) ?_
      refine lv_iload_n hx hb dX5_on_37 rfl (lv_at hl 1 rfl) ?_
      refine lv_iconst (v := 5) hx hb dX5_on_38 (by decide) ?_
      obtain ⟨q39, eq39, h⟩ := o_bd h
      refine kV (As := [.int a1, .int (5 : Int32)]) (rest := []) (st' := [.int q39]) ⟨hx, hb, hml, hown, hts⟩ (kX5_is l G eq39) (cwV 2 hts gX5_on_X5_is rfl rfl rfl qqX5_is ⟨Nat.le_of_ble_eq_true rfl, Nat.le_of_ble_eq_true rfl⟩) hw (rvMd hw) rfl hl.1 rfl (Nat.le_of_ble_eq_true rfl) dX5_on_39 ⟨Nat.zero_le _, Nat.zero_le _⟩ rfl (fun H locs hw => ?_)
      refine lv_istore_n (lv' := [(3, .int q39), (0, .ref (sA G 9 0)), (1, .int a1), (2, .int a2)]) hx hb dX5_on_42 rfl hl (by decide) rfl (fun ls hl => ?_)
      refine lv_aload_n hx hb dX5_on_43 rfl (lv_at hl 1 rfl) ?_
      obtain ⟨q44, eq44, h⟩ := o_bd h
      refine kV (As := []) (rest := []) (st' := []) ⟨hx, hb, hml, hown, hts⟩ (kX5_laysBack l G eq44) (cwV 0 hts gX5_on_X5_laysBack rfl rfl rfl qqX5_laysBack ⟨Nat.le_of_ble_eq_true rfl, Nat.le_of_ble_eq_true rfl⟩) hw (rvMd hw) rfl hl.1 rfl (Nat.le_of_ble_eq_true rfl) dX5_on_44 ⟨Nat.zero_le _, Nat.zero_le _⟩ rfl (fun H locs hw => ?_)
      refine lv_iload_n hx hb dX5_on_47 rfl (lv_at hl 0 rfl) ?_
      exact rI hQ hx hb hr hlk hw dX5_on_48 (o_2a h) rfl (o_2b h)
    · replace h := o_t c17 h
      refine lv_aload_n hx hb dX5_on_20 rfl (lv_at hl 0 rfl) ?_
      refine lv_ldc (v := -1000000001) hx hb hown (hts (.constant RX5 38 (-1000000001)) (by decide +kernel)) dX5_on_21 ?_
      obtain ⟨q23, eq23, h⟩ := o_bd h
      refine kV (As := [.int (-1000000001 : Int32)]) (rest := []) (st' := [.int q23.1]) ⟨hx, hb, hml, hown, hts⟩ (kX5_finds l G eq23) (cwV 1 hts gX5_on_X5_finds rfl rfl rfl qqX5_finds ⟨Nat.le_of_ble_eq_true rfl, Nat.le_of_ble_eq_true rfl⟩) hw (rvMd hw) rfl hl.1 rfl (Nat.le_of_ble_eq_true rfl) dX5_on_23 ⟨Nat.zero_le _, Nat.zero_le _⟩ rfl (fun H locs hw => ?_)
      exact rI hQ hx hb hr hlk hw dX5_on_26 (o_2a h) rfl (o_2b h)
-- X5_goesToEnd
set_option maxRecDepth 100000 in
set_option maxHeartbeats 4000000 in
theorem kX5_goesToEnd (l : Launch) (G : sGl) {S : sWo} {M : sOb}  {q : (Int32 × sOb)}  (h : fX5_goesToEnd M = some q) : sCt l G yX5_goesToEnd wsX5_goesToEnd rmX5_goesToEnd [.ref (sA G 9 0)] S M (some (.int q.1)) S q.2 := by
  refine cMk (cc := cX5_goesToEnd) (maxL := 3) (ret := (some .boolean)) (by decide) rfl (Nat.le_of_ble_eq_true rfl) ?_
  intro p e s m args below meth c Q hQ hx hb hr hlk hml hown hts hw ls hl
  have hown : s.vm.findClass RX5 = some m.cls := hown
  have hl : lv_has ls 3 [(0, .ref (sA G 9 0))] := hl
  have hiX5 : ∀ w ∈ u_ws RX5 TX5 15, w ∈ wsX5_goesToEnd := by decide +kernel
  unfold fX5_goesToEnd at h
  refine lv_iconst (v := 0) hx hb dX5_goesToEnd_0 (by decide) ?_
  refine lv_istore_n (lv' := [(1, .int (0 : Int32)), (0, .ref (sA G 9 0))]) hx hb dX5_goesToEnd_1 rfl hl (by decide) rfl (fun ls hl => ?_)
  obtain ⟨k33, ek33, h⟩ := o_nm h
  have J33 : ∀ (T_33 : sOb) (H : Heap) (locs : List Loc) (ls : Array Slot), sHw G s S T_33 H locs → lv_has ls 3 [(0, .ref (sA G 9 0))] → k33 T_33 = some q → W p l e rmX5_goesToEnd s m args below meth c H locs 0 0 Q (F0 m 33 ls []) := by
    intro T_33 H locs ls hw hl h
    replace h := o_j1 ek33 h
    refine lv_aload_n hx hb dX5_goesToEnd_33 rfl (lv_at hl 0 rfl) ?_
    obtain ⟨q34, eq34, h⟩ := o_bd h
    refine kV (As := []) (rest := []) (st' := [.int q34]) ⟨hx, hb, hml, hown, hts⟩ (kX5_homeMany l G eq34) (cwV 0 hts gX5_goesToEnd_X5_homeMany rfl rfl rfl qqX5_homeMany ⟨Nat.le_of_ble_eq_true rfl, Nat.le_of_ble_eq_true rfl⟩) hw (rvMd hw) rfl hl.1 rfl (Nat.le_of_ble_eq_true rfl) dX5_goesToEnd_34 ⟨Nat.zero_le _, Nat.zero_le _⟩ rfl (fun H locs hw => ?_)
    refine lv_aload_n hx hb dX5_goesToEnd_37 rfl (lv_at hl 0 rfl) ?_
    refine gMd (v := .ref (sA G 9 1)) hx hb hts hiX5 hown hw 0 (by decide) (hts (.fieldLink RX5 7 "SecondHomeModel" "s" "[I") (by decide +kernel)) rfl dX5_goesToEnd_38 ?_
    refine lv_iconst (v := 0) hx hb dX5_goesToEnd_41 (by decide) ?_
    refine ldMd hx hb hw 0 (by decide) (n := 77) rfl (by decide) dX5_goesToEnd_42 ?_
    refine lv_icmp_ne (tgt := 50) hx hb dX5_goesToEnd_43 (by decide) (fun c43 => ?_) (fun c43 => ?_)
    · replace h := o_f c43 h
      refine lv_iconst (v := 0) hx hb dX5_goesToEnd_50 (by decide) ?_
      exact rZ hQ hx hb hr hlk hw (Or.inl rfl) dX5_goesToEnd_51 (o_2a h) rfl (o_2b h)
    · replace h := o_t c43 h
      refine lv_iconst (v := 1) hx hb dX5_goesToEnd_46 (by decide) ?_
      refine lv_goto (tgt := 51) hx hb dX5_goesToEnd_47 (by decide) ?_
      exact rZ hQ hx hb hr hlk hw (Or.inr rfl) dX5_goesToEnd_51 (o_2a h) rfl (o_2b h)
  refine fx2_w (F := (bX5_goesToEnd_2 k33)) (P := fun x1_2 T_2 => ∀ (H : Heap) (locs : List Loc) (ls : Array Slot), sHw G s S T_2 H locs → lv_has ls 3 [(0, .ref (sA G 9 0)), (1, .int x1_2)] → W p l e rmX5_goesToEnd s m args below meth c H locs 0 0 Q (F0 m 2 ls [])) ?_ _ _ _ h _ _ _ hw (lv_sub hl [1, 0] rfl)
  intro rc2 IH2 x1_2 T_2 h H locs ls hw hl
  unfold bX5_goesToEnd_2 at h
  refine lv_iload_n hx hb dX5_goesToEnd_2 rfl (lv_at hl 1 rfl) ?_
  refine lv_sipush (v := 2000) hx hb dX5_goesToEnd_3 (by decide) ?_
  refine lv_icmp_ge (tgt := 33) hx hb dX5_goesToEnd_6 (by decide) (fun c6 => ?_) (fun c6 => ?_)
  · replace h := o_t c6 h
    exact J33 T_2 _ _ _ hw (lv_sub hl [0] rfl) h
  · replace h := o_f c6 h
    refine lv_aload_n hx hb dX5_goesToEnd_9 rfl (lv_at hl 0 rfl) ?_
    obtain ⟨q10, eq10, h⟩ := o_bd h
    refine kV (As := []) (rest := []) (st' := [.int q10]) ⟨hx, hb, hml, hown, hts⟩ (kX5_homeMany l G eq10) (cwV 0 hts gX5_goesToEnd_X5_homeMany rfl rfl rfl qqX5_homeMany ⟨Nat.le_of_ble_eq_true rfl, Nat.le_of_ble_eq_true rfl⟩) hw (rvMd hw) rfl hl.1 rfl (Nat.le_of_ble_eq_true rfl) dX5_goesToEnd_10 ⟨Nat.zero_le _, Nat.zero_le _⟩ rfl (fun H locs hw => ?_)
    refine lv_aload_n hx hb dX5_goesToEnd_13 rfl (lv_at hl 0 rfl) ?_
    refine gMd (v := .ref (sA G 9 1)) hx hb hts hiX5 hown hw 0 (by decide) (hts (.fieldLink RX5 7 "SecondHomeModel" "s" "[I") (by decide +kernel)) rfl dX5_goesToEnd_14 ?_
    refine lv_iconst (v := 0) hx hb dX5_goesToEnd_17 (by decide) ?_
    refine ldMd hx hb hw 0 (by decide) (n := 77) rfl (by decide) dX5_goesToEnd_18 ?_
    refine lv_icmp_ge (tgt := 33) hx hb dX5_goesToEnd_19 (by decide) (fun c19 => ?_) (fun c19 => ?_)
    · replace h := o_t c19 h
      exact J33 T_2 _ _ _ hw (lv_sub hl [0] rfl) h
    · replace h := o_f c19 h
      refine lv_aload_n hx hb dX5_goesToEnd_22 rfl (lv_at hl 0 rfl) ?_
      obtain ⟨q23, eq23, h⟩ := o_bd h
      refine kV (As := []) (rest := []) (st' := [.int q23.1]) ⟨hx, hb, hml, hown, hts⟩ (kX5_goesOn l G eq23) (cwV 0 hts gX5_goesToEnd_X5_goesOn rfl rfl rfl qqX5_goesOn ⟨Nat.le_of_ble_eq_true rfl, Nat.le_of_ble_eq_true rfl⟩) hw (rvMd hw) rfl hl.1 rfl (Nat.le_of_ble_eq_true rfl) dX5_goesToEnd_23 ⟨Nat.zero_le _, Nat.zero_le _⟩ rfl (fun H locs hw => ?_)
      refine lv_istore_n (lv' := [(2, .int q23.1), (0, .ref (sA G 9 0)), (1, .int x1_2)]) hx hb dX5_goesToEnd_26 rfl hl (by decide) rfl (fun ls hl => ?_)
      obtain ⟨v27, ev27, h⟩ := o_nm h
      refine lv_iinc (v := v27) (lv' := [(1, .int v27), (2, .int q23.1), (0, .ref (sA G 9 0))]) hx hb dX5_goesToEnd_27 hl (k := 2) rfl (by rw [ev27]; rfl) (by decide) rfl (fun ls hl => ?_)
      refine lv_goto (tgt := 2) hx hb dX5_goesToEnd_30 (by decide) ?_
      exact IH2 v27 q23.2 h _ _ _ hw (lv_sub hl [2, 0] rfl)
-- X5_home
set_option maxRecDepth 100000 in
set_option maxHeartbeats 4000000 in
theorem kX5_home (l : Launch) (G : sGl) {S : sWo} {M : sOb} {a1 : Int32} {q : (Int32 × sOb)}  (h : fX5_home M a1 = some q) : sCt l G yX5_home wsX5_home rmX5_home [.ref (sA G 9 0), .int a1] S M (some (.int q.1)) S q.2 := by
  refine cMk (cc := cX5_home) (maxL := 4) (ret := (some .int)) (by decide) rfl (Nat.le_of_ble_eq_true rfl) ?_
  intro p e s m args below meth c Q hQ hx hb hr hlk hml hown hts hw ls hl
  have hown : s.vm.findClass RX5 = some m.cls := hown
  have hl : lv_has ls 4 [(0, .ref (sA G 9 0)), (1, .int a1)] := hl
  unfold fX5_home at h
  refine lv_aload_n hx hb dX5_home_0 rfl (lv_at hl 0 rfl) ?_
  refine lv_iload_n hx hb dX5_home_1 rfl (lv_at hl 1 rfl) ?_
  obtain ⟨q2, eq2, h⟩ := o_bd h
  refine kV (As := [.int a1]) (rest := []) (st' := [.int q2]) ⟨hx, hb, hml, hown, hts⟩ (kX5_isRunner l G eq2) (cwV 1 hts gX5_home_X5_isRunner rfl rfl rfl qqX5_isRunner ⟨Nat.le_of_ble_eq_true rfl, Nat.le_of_ble_eq_true rfl⟩) hw (rvMd hw) rfl hl.1 rfl (Nat.le_of_ble_eq_true rfl) dX5_home_2 ⟨Nat.zero_le _, Nat.zero_le _⟩ rfl (fun H locs hw => ?_)
  refine lv_if_ne (tgt := 15) hx hb dX5_home_5 (by decide) (fun c5 => ?_) (fun c5 => ?_)
  · replace h := o_f c5 h
    refine lv_aload_n hx hb dX5_home_15 rfl (lv_at hl 0 rfl) ?_
    obtain ⟨q16, eq16, h⟩ := o_bd h
    refine kV (As := []) (rest := []) (st' := []) ⟨hx, hb, hml, hown, hts⟩ (kX5_laysBy l G eq16) (cwV 0 hts gX5_home_X5_laysBy rfl rfl rfl qqX5_laysBy ⟨Nat.le_of_ble_eq_true rfl, Nat.le_of_ble_eq_true rfl⟩) hw (rvMd hw) rfl hl.1 rfl (Nat.le_of_ble_eq_true rfl) dX5_home_16 ⟨Nat.zero_le _, Nat.zero_le _⟩ rfl (fun H locs hw => ?_)
    refine lv_aload_n hx hb dX5_home_19 rfl (lv_at hl 0 rfl) ?_
    obtain ⟨q20, eq20, h⟩ := o_bd h
    refine kV (As := []) (rest := []) (st' := [.int q20.1]) ⟨hx, hb, hml, hown, hts⟩ (kX5_goesToEnd l G eq20) (cwV 0 hts gX5_home_X5_goesToEnd rfl rfl rfl qqX5_goesToEnd ⟨Nat.le_of_ble_eq_true rfl, Nat.le_of_ble_eq_true rfl⟩) hw (rvMd hw) rfl hl.1 rfl (Nat.le_of_ble_eq_true rfl) dX5_home_20 ⟨Nat.zero_le _, Nat.zero_le _⟩ rfl (fun H locs hw => ?_)
    refine lv_istore_n (lv' := [(2, .int q20.1), (0, .ref (sA G 9 0)), (1, .int a1)]) hx hb dX5_home_23 rfl hl (by decide) rfl (fun ls hl => ?_)
    refine lv_aload_n hx hb dX5_home_24 rfl (lv_at hl 1 rfl) ?_
    refine lv_iload_n hx hb dX5_home_25 rfl (lv_at hl 2 rfl) ?_
    refine lv_bipush (v := 7) hx hb dX5_home_26 (by decide) ?_
    obtain ⟨q28, eq28, h⟩ := o_bd h
    refine kV (As := [.int a1, .int (7 : Int32)]) (rest := []) (st' := [.int q28]) ⟨hx, hb, hml, hown, hts⟩ (kX5_is l G eq28) (cwV 2 hts gX5_home_X5_is rfl rfl rfl qqX5_is ⟨Nat.le_of_ble_eq_true rfl, Nat.le_of_ble_eq_true rfl⟩) hw (rvMd hw) rfl hl.1 rfl (Nat.le_of_ble_eq_true rfl) dX5_home_28 ⟨Nat.zero_le _, Nat.zero_le _⟩ rfl (fun H locs hw => ?_)
    refine lv_istore_n (lv' := [(3, .int q28), (2, .int q20.1), (0, .ref (sA G 9 0)), (1, .int a1)]) hx hb dX5_home_31 rfl hl (by decide) rfl (fun ls hl => ?_)
    refine lv_aload_n hx hb dX5_home_32 rfl (lv_at hl 2 rfl) ?_
    obtain ⟨q33, eq33, h⟩ := o_bd h
    refine kV (As := []) (rest := []) (st' := []) ⟨hx, hb, hml, hown, hts⟩ (kX5_laysBack l G eq33) (cwV 0 hts gX5_home_X5_laysBack rfl rfl rfl qqX5_laysBack ⟨Nat.le_of_ble_eq_true rfl, Nat.le_of_ble_eq_true rfl⟩) hw (rvMd hw) rfl hl.1 rfl (Nat.le_of_ble_eq_true rfl) dX5_home_33 ⟨Nat.zero_le _, Nat.zero_le _⟩ rfl (fun H locs hw => ?_)
    refine lv_aload_n hx hb dX5_home_36 rfl (lv_at hl 2 rfl) ?_
    refine lv_iload_n hx hb dX5_home_37 rfl (lv_at hl 0 rfl) ?_
    obtain ⟨q38, eq38, h⟩ := o_bd h
    refine kV (As := [.int q28]) (rest := []) (st' := [.int q38.1]) ⟨hx, hb, hml, hown, hts⟩ (kX5_orNone l G eq38) (cwV 1 hts gX5_home_X5_orNone rfl rfl rfl qqX5_orNone ⟨Nat.le_of_ble_eq_true rfl, Nat.le_of_ble_eq_true rfl⟩) hw (rvMd hw) rfl hl.1 rfl (Nat.le_of_ble_eq_true rfl) dX5_home_38 ⟨Nat.zero_le _, Nat.zero_le _⟩ rfl (fun H locs hw => ?_)
    exact rI hQ hx hb hr hlk hw dX5_home_41 (o_2a h) rfl (o_2b h)
  · replace h := o_t c5 h
    refine lv_aload_n hx hb dX5_home_8 rfl (lv_at hl 0 rfl) ?_
    refine lv_ldc (v := -1000000001) hx hb hown (hts (.constant RX5 38 (-1000000001)) (by decide +kernel)) dX5_home_9 ?_
    obtain ⟨q11, eq11, h⟩ := o_bd h
    refine kV (As := [.int (-1000000001 : Int32)]) (rest := []) (st' := [.int q11.1]) ⟨hx, hb, hml, hown, hts⟩ (kX5_finds l G eq11) (cwV 1 hts gX5_home_X5_finds rfl rfl rfl qqX5_finds ⟨Nat.le_of_ble_eq_true rfl, Nat.le_of_ble_eq_true rfl⟩) hw (rvMd hw) rfl hl.1 rfl (Nat.le_of_ble_eq_true rfl) dX5_home_11 ⟨Nat.zero_le _, Nat.zero_le _⟩ rfl (fun H locs hw => ?_)
    exact rI hQ hx hb hr hlk hw dX5_home_14 (o_2a h) rfl (o_2b h)
-- X5_prizeBy
set_option maxRecDepth 100000 in
set_option maxHeartbeats 4000000 in
theorem kX5_prizeBy (l : Launch) (G : sGl) {S : sWo} {M : sOb} {a1 : Int32} {q : (Int32 × sOb)}  (h : fX5_prizeBy M a1 = some q) : sCt l G yX5_prizeBy wsX5_prizeBy rmX5_prizeBy [.ref (sA G 9 0), .int a1] S M (some (.int q.1)) S q.2 := by
  refine cMk (cc := cX5_prizeBy) (maxL := 3) (ret := (some .int)) (by decide) rfl (Nat.le_of_ble_eq_true rfl) ?_
  intro p e s m args below meth c Q hQ hx hb hr hlk hml hown hts hw ls hl
  have hown : s.vm.findClass RX5 = some m.cls := hown
  have hl : lv_has ls 3 [(0, .ref (sA G 9 0)), (1, .int a1)] := hl
  unfold fX5_prizeBy at h
  refine lv_iload_n hx hb dX5_prizeBy_0 rfl (lv_at hl 1 rfl) ?_
  refine lv_i2l hx hb dX5_prizeBy_1 rfl ?_
  refine lv_lconst (v := 0) hx hb dX5_prizeBy_2 (by decide) ?_
  refine lv_ldc2 (v := 3) hx hb hown (hts (.constantLong RX5 152 (3)) (by decide +kernel)) dX5_prizeBy_3 ?_
  obtain ⟨q6, eq6, h⟩ := o_bd h
  refine kS (As := [.long a1.toInt64, .long (0 : Int64), .long (3 : Int64)]) (rest := []) (st' := [.int q6]) ⟨hx, hb, hml, hown, hts⟩ (kX5_isIn l G eq6) (va_cwS 3 hts gX5_prizeBy_X5_isIn rfl rfl rfl qqX5_isIn ⟨Nat.le_of_ble_eq_true rfl, Nat.le_of_ble_eq_true rfl⟩) hw rfl hl.1 rfl (Nat.le_of_ble_eq_true rfl) dX5_prizeBy_6 ⟨Nat.zero_le _, Nat.zero_le _⟩ rfl (fun H locs hw => ?_)
  refine lv_if_ne (tgt := 19) hx hb dX5_prizeBy_9 (by decide) (fun c9 => ?_) (fun c9 => ?_)
  · replace h := o_f c9 h
    refine lv_aload_n hx hb dX5_prizeBy_19 rfl (lv_at hl 0 rfl) ?_
    obtain ⟨q20, eq20, h⟩ := o_bd h
    refine kV (As := []) (rest := []) (st' := []) ⟨hx, hb, hml, hown, hts⟩ (kX5_laysBy l G eq20) (cwV 0 hts gX5_prizeBy_X5_laysBy rfl rfl rfl qqX5_laysBy ⟨Nat.le_of_ble_eq_true rfl, Nat.le_of_ble_eq_true rfl⟩) hw (rvMd hw) rfl hl.1 rfl (Nat.le_of_ble_eq_true rfl) dX5_prizeBy_20 ⟨Nat.zero_le _, Nat.zero_le _⟩ rfl (fun H locs hw => ?_)
    refine lv_aload_n hx hb dX5_prizeBy_23 rfl (lv_at hl 0 rfl) ?_
    obtain ⟨q24, eq24, h⟩ := o_bd h
    refine kV (As := []) (rest := []) (st' := [.int q24.1]) ⟨hx, hb, hml, hown, hts⟩ (kX5_goesToEnd l G eq24) (cwV 0 hts gX5_prizeBy_X5_goesToEnd rfl rfl rfl qqX5_goesToEnd ⟨Nat.le_of_ble_eq_true rfl, Nat.le_of_ble_eq_true rfl⟩) hw (rvMd hw) rfl hl.1 rfl (Nat.le_of_ble_eq_true rfl) dX5_prizeBy_24 ⟨Nat.zero_le _, Nat.zero_le _⟩ rfl (fun H locs hw => ?_)
    obtain ⟨k39, ek39, h⟩ := o_nm h
    have J39 : ∀ (y0_39 : Int32) (H : Heap) (locs : List Loc) (ls : Array Slot), sHw G s S q24.2 H locs → lv_has ls 3 [(0, .ref (sA G 9 0))] → k39 y0_39 = some q → W p l e rmX5_prizeBy s m args below meth c H locs 0 0 Q (F0 m 39 ls [.int y0_39]) := by
      intro y0_39 H locs ls hw hl h
      replace h := o_j1 ek39 h
      refine lv_istore_n (lv' := [(2, .int y0_39), (0, .ref (sA G 9 0))]) hx hb dX5_prizeBy_39 rfl hl (by decide) rfl (fun ls hl => ?_)
      refine lv_aload_n hx hb dX5_prizeBy_40 rfl (lv_at hl 1 rfl) ?_
      obtain ⟨q41, eq41, h⟩ := o_bd h
      refine kV (As := []) (rest := []) (st' := []) ⟨hx, hb, hml, hown, hts⟩ (kX5_laysBack l G eq41) (cwV 0 hts gX5_prizeBy_X5_laysBack rfl rfl rfl qqX5_laysBack ⟨Nat.le_of_ble_eq_true rfl, Nat.le_of_ble_eq_true rfl⟩) hw (rvMd hw) rfl hl.1 rfl (Nat.le_of_ble_eq_true rfl) dX5_prizeBy_41 ⟨Nat.zero_le _, Nat.zero_le _⟩ rfl (fun H locs hw => ?_)
      refine lv_aload_n hx hb dX5_prizeBy_44 rfl (lv_at hl 1 rfl) ?_
      refine lv_iload_n hx hb dX5_prizeBy_45 rfl (lv_at hl 0 rfl) ?_
      obtain ⟨q46, eq46, h⟩ := o_bd h
      refine kV (As := [.int y0_39]) (rest := []) (st' := [.int q46.1]) ⟨hx, hb, hml, hown, hts⟩ (kX5_orNone l G eq46) (cwV 1 hts gX5_prizeBy_X5_orNone rfl rfl rfl qqX5_orNone ⟨Nat.le_of_ble_eq_true rfl, Nat.le_of_ble_eq_true rfl⟩) hw (rvMd hw) rfl hl.1 rfl (Nat.le_of_ble_eq_true rfl) dX5_prizeBy_46 ⟨Nat.zero_le _, Nat.zero_le _⟩ rfl (fun H locs hw => ?_)
      exact rI hQ hx hb hr hlk hw dX5_prizeBy_49 (o_2a h) rfl (o_2b h)
    refine lv_if_eq (tgt := 38) hx hb dX5_prizeBy_27 (by decide) (fun c27 => ?_) (fun c27 => ?_)
    · replace h := o_t c27 h
      refine lv_iconst (v := -1) hx hb dX5_prizeBy_38 (by decide) ?_
      exact J39 (-1 : Int32) _ _ _ hw (lv_sub hl [0] rfl) h
    · replace h := o_f c27 h
      refine lv_aload_n hx hb dX5_prizeBy_30 rfl (lv_at hl 0 rfl) ?_
      refine lv_iload_n hx hb dX5_prizeBy_31 rfl (lv_at hl 1 rfl) ?_
      obtain ⟨q32, eq32, h⟩ := o_bd h
      refine kV (As := [.int a1]) (rest := []) (st' := [.int q32]) ⟨hx, hb, hml, hown, hts⟩ (kX5_prizeOf l G eq32) (cwV 1 hts gX5_prizeBy_X5_prizeOf rfl rfl rfl qqX5_prizeOf ⟨Nat.le_of_ble_eq_true rfl, Nat.le_of_ble_eq_true rfl⟩) hw (rvMd hw) rfl hl.1 rfl (Nat.le_of_ble_eq_true rfl) dX5_prizeBy_32 ⟨Nat.zero_le _, Nat.zero_le _⟩ rfl (fun H locs hw => ?_)
      refine lv_goto (tgt := 39) hx hb dX5_prizeBy_35 (by decide) ?_
      exact J39 q32 _ _ _ hw (lv_sub hl [0] rfl) h
  · replace h := o_t c9 h
    refine lv_aload_n hx hb dX5_prizeBy_12 rfl (lv_at hl 0 rfl) ?_
    refine lv_ldc (v := -1000000001) hx hb hown (hts (.constant RX5 38 (-1000000001)) (by decide +kernel)) dX5_prizeBy_13 ?_
    obtain ⟨q15, eq15, h⟩ := o_bd h
    refine kV (As := [.int (-1000000001 : Int32)]) (rest := []) (st' := [.int q15.1]) ⟨hx, hb, hml, hown, hts⟩ (kX5_finds l G eq15) (cwV 1 hts gX5_prizeBy_X5_finds rfl rfl rfl qqX5_finds ⟨Nat.le_of_ble_eq_true rfl, Nat.le_of_ble_eq_true rfl⟩) hw (rvMd hw) rfl hl.1 rfl (Nat.le_of_ble_eq_true rfl) dX5_prizeBy_15 ⟨Nat.zero_le _, Nat.zero_le _⟩ rfl (fun H locs hw => ?_)
    exact rI hQ hx hb hr hlk hw dX5_prizeBy_18 (o_2a h) rfl (o_2b h)
-- X5_leaders
set_option maxRecDepth 100000 in
set_option maxHeartbeats 4000000 in
theorem kX5_leaders (l : Launch) (G : sGl) {S : sWo} {M : sOb}  {q : (Int32 × sOb)}  (h : fX5_leaders M = some q) : sCt l G yX5_leaders wsX5_leaders rmX5_leaders [.ref (sA G 9 0)] S M (some (.int q.1)) S q.2 := by
  refine cMk (cc := cX5_leaders) (maxL := 6) (ret := (some .int)) (by decide) rfl (Nat.le_of_ble_eq_true rfl) ?_
  intro p e s m args below meth c Q hQ hx hb hr hlk hml hown hts hw ls hl
  have hown : s.vm.findClass RX5 = some m.cls := hown
  have hl : lv_has ls 6 [(0, .ref (sA G 9 0))] := hl
  unfold fX5_leaders at h
  refine lv_aload_n hx hb dX5_leaders_0 rfl (lv_at hl 0 rfl) ?_
  obtain ⟨q1, eq1, h⟩ := o_bd h
  refine kV (As := []) (rest := []) (st' := []) ⟨hx, hb, hml, hown, hts⟩ (kX5_laysBy l G eq1) (cwV 0 hts gX5_leaders_X5_laysBy rfl rfl rfl qqX5_laysBy ⟨Nat.le_of_ble_eq_true rfl, Nat.le_of_ble_eq_true rfl⟩) hw (rvMd hw) rfl hl.1 rfl (Nat.le_of_ble_eq_true rfl) dX5_leaders_1 ⟨Nat.zero_le _, Nat.zero_le _⟩ rfl (fun H locs hw => ?_)
  refine lv_iconst (v := -1) hx hb dX5_leaders_4 (by decide) ?_
  refine lv_istore_n (lv' := [(1, .int (-1 : Int32)), (0, .ref (sA G 9 0))]) hx hb dX5_leaders_5 rfl hl (by decide) rfl (fun ls hl => ?_)
  refine lv_iconst (v := 0) hx hb dX5_leaders_6 (by decide) ?_
  refine lv_istore_n (lv' := [(2, .int (0 : Int32)), (1, .int (-1 : Int32)), (0, .ref (sA G 9 0))]) hx hb dX5_leaders_7 rfl hl (by decide) rfl (fun ls hl => ?_)
  refine lv_iconst (v := 0) hx hb dX5_leaders_8 (by decide) ?_
  refine lv_istore_n (lv' := [(3, .int (0 : Int32)), (2, .int (0 : Int32)), (1, .int (-1 : Int32)), (0, .ref (sA G 9 0))]) hx hb dX5_leaders_9 rfl hl (by decide) rfl (fun ls hl => ?_)
  refine fx4_w (F := bX5_leaders_10) (P := fun x1_10 x2_10 x3_10 T_10 => ∀ (H : Heap) (locs : List Loc) (ls : Array Slot), sHw G s S T_10 H locs → lv_has ls 6 [(0, .ref (sA G 9 0)), (1, .int x1_10), (2, .int x2_10), (3, .int x3_10)] → W p l e rmX5_leaders s m args below meth c H locs 0 0 Q (F0 m 10 ls [])) ?_ _ _ _ _ _ h _ _ _ hw (lv_sub hl [3, 2, 1, 0] rfl)
  intro rc10 IH10 x1_10 x2_10 x3_10 T_10 h H locs ls hw hl
  unfold bX5_leaders_10 at h
  refine lv_iload_n hx hb dX5_leaders_10 rfl (lv_at hl 3 rfl) ?_
  refine lv_sipush (v := 2000) hx hb dX5_leaders_11 (by decide) ?_
  refine lv_icmp_gt (tgt := 66) hx hb dX5_leaders_14 (by decide) (fun c14 => ?_) (fun c14 => ?_)
  · replace h := o_t c14 h
    refine lv_aload_n hx hb dX5_leaders_66 rfl (lv_at hl 0 rfl) ?_
    obtain ⟨q67, eq67, h⟩ := o_bd h
    refine kV (As := []) (rest := []) (st' := []) ⟨hx, hb, hml, hown, hts⟩ (kX5_laysBack l G eq67) (cwV 0 hts gX5_leaders_X5_laysBack rfl rfl rfl qqX5_laysBack ⟨Nat.le_of_ble_eq_true rfl, Nat.le_of_ble_eq_true rfl⟩) hw (rvMd hw) rfl hl.1 rfl (Nat.le_of_ble_eq_true rfl) dX5_leaders_67 ⟨Nat.zero_le _, Nat.zero_le _⟩ rfl (fun H locs hw => ?_)
    refine lv_iload_n hx hb dX5_leaders_70 rfl (lv_at hl 2 rfl) ?_
    exact rI hQ hx hb hr hlk hw dX5_leaders_71 (o_2a h) rfl (o_2b h)
  · replace h := o_f c14 h
    refine lv_aload_n hx hb dX5_leaders_17 rfl (lv_at hl 0 rfl) ?_
    obtain ⟨q18, eq18, h⟩ := o_bd h
    refine kV (As := []) (rest := []) (st' := [.int q18]) ⟨hx, hb, hml, hown, hts⟩ (kX5_firstAlone l G eq18) (cwV 0 hts gX5_leaders_X5_firstAlone rfl rfl rfl qqX5_firstAlone ⟨Nat.le_of_ble_eq_true rfl, Nat.le_of_ble_eq_true rfl⟩) hw (rvMd hw) rfl hl.1 rfl (Nat.le_of_ble_eq_true rfl) dX5_leaders_18 ⟨Nat.zero_le _, Nat.zero_le _⟩ rfl (fun H locs hw => ?_)
    refine lv_istore (lv' := [(4, .int q18), (0, .ref (sA G 9 0)), (1, .int x1_10), (2, .int x2_10), (3, .int x3_10)]) hx hb dX5_leaders_21 hl (by decide) rfl (fun ls hl => ?_)
    refine lv_iload_n hx hb dX5_leaders_23 rfl (lv_at hl 3 rfl) ?_
    refine lv_iload hx hb dX5_leaders_24 (lv_at hl 0 rfl) ?_
    obtain ⟨k40, ek40, h⟩ := o_nm h
    have J40 : ∀ (y0_40 : Int32) (H : Heap) (locs : List Loc) (ls : Array Slot), sHw G s S T_10 H locs → lv_has ls 6 [(0, .ref (sA G 9 0)), (1, .int x1_10), (3, .int x3_10), (4, .int q18)] → k40 y0_40 = some q → W p l e rmX5_leaders s m args below meth c H locs 0 0 Q (F0 m 40 ls [.int y0_40, .int x2_10]) := by
      intro y0_40 H locs ls hw hl h
      replace h := o_j1 ek40 h
      refine lv_iadd hx hb dX5_leaders_40 ?_
      refine lv_topi (fun v41 ev41 => ?_)
      replace h := o_nx ev41 h
      refine lv_istore_n (lv' := [(2, .int v41), (0, .ref (sA G 9 0)), (1, .int x1_10), (3, .int x3_10), (4, .int q18)]) hx hb dX5_leaders_41 rfl hl (by decide) rfl (fun ls hl => ?_)
      refine lv_iload hx hb dX5_leaders_42 (lv_at hl 4 rfl) ?_
      obtain ⟨k53, ek53, h⟩ := o_nm h
      have J53 : ∀ (y0_53 : Int32) (H : Heap) (locs : List Loc) (ls : Array Slot), sHw G s S T_10 H locs → lv_has ls 6 [(0, .ref (sA G 9 0)), (2, .int v41), (3, .int x3_10)] → k53 y0_53 = some q → W p l e rmX5_leaders s m args below meth c H locs 0 0 Q (F0 m 53 ls [.int y0_53]) := by
        intro y0_53 H locs ls hw hl h
        replace h := o_j1 ek53 h
        refine lv_istore_n (lv' := [(1, .int y0_53), (0, .ref (sA G 9 0)), (2, .int v41), (3, .int x3_10)]) hx hb dX5_leaders_53 rfl hl (by decide) rfl (fun ls hl => ?_)
        refine lv_aload_n hx hb dX5_leaders_54 rfl (lv_at hl 1 rfl) ?_
        obtain ⟨q55, eq55, h⟩ := o_bd h
        refine kV (As := []) (rest := []) (st' := [.int q55.1]) ⟨hx, hb, hml, hown, hts⟩ (kX5_goesOn l G eq55) (cwV 0 hts gX5_leaders_X5_goesOn rfl rfl rfl qqX5_goesOn ⟨Nat.le_of_ble_eq_true rfl, Nat.le_of_ble_eq_true rfl⟩) hw (rvMd hw) rfl hl.1 rfl (Nat.le_of_ble_eq_true rfl) dX5_leaders_55 ⟨Nat.zero_le _, Nat.zero_le _⟩ rfl (fun H locs hw => ?_)
        refine lv_istore (lv' := [(5, .int q55.1), (1, .int y0_53), (0, .ref (sA G 9 0)), (2, .int v41), (3, .int x3_10)]) hx hb dX5_leaders_58 hl (by decide) rfl (fun ls hl => ?_)
        obtain ⟨v60, ev60, h⟩ := o_nm h
        refine lv_iinc (v := v60) (lv' := [(3, .int v60), (5, .int q55.1), (1, .int y0_53), (0, .ref (sA G 9 0)), (2, .int v41)]) hx hb dX5_leaders_60 hl (k := 4) rfl (by rw [ev60]; rfl) (by decide) rfl (fun ls hl => ?_)
        refine lv_goto (tgt := 10) hx hb dX5_leaders_63 (by decide) ?_
        exact IH10 y0_53 v41 v60 q55.2 h _ _ _ hw (lv_sub hl [3, 2, 4, 0] rfl)
      refine lv_if_lt (tgt := 52) hx hb dX5_leaders_44 (by decide) (fun c44 => ?_) (fun c44 => ?_)
      · replace h := o_t c44 h
        refine lv_iload_n hx hb dX5_leaders_52 rfl (lv_at hl 2 rfl) ?_
        exact J53 x1_10 _ _ _ hw (lv_sub hl [1, 0, 3] rfl) h
      · replace h := o_f c44 h
        refine lv_iload hx hb dX5_leaders_47 (lv_at hl 4 rfl) ?_
        refine lv_goto (tgt := 53) hx hb dX5_leaders_49 (by decide) ?_
        exact J53 q18 _ _ _ hw (lv_sub hl [1, 0, 3] rfl) h
    obtain ⟨k39, ek39, h⟩ := o_nm h
    have J39 : ∀ (H : Heap) (locs : List Loc) (ls : Array Slot), sHw G s S T_10 H locs → lv_has ls 6 [(0, .ref (sA G 9 0)), (1, .int x1_10), (3, .int x3_10), (4, .int q18)] → k39 = some q → W p l e rmX5_leaders s m args below meth c H locs 0 0 Q (F0 m 39 ls [.int x2_10]) := by
      intro H locs ls hw hl h
      replace h := o_j0 ek39 h
      refine lv_iconst (v := 0) hx hb dX5_leaders_39 (by decide) ?_
      exact J40 (0 : Int32) _ _ _ hw (lv_sub hl [0, 1, 2, 3] rfl) h
    refine lv_if_lt (tgt := 39) hx hb dX5_leaders_26 (by decide) (fun c26 => ?_) (fun c26 => ?_)
    · replace h := o_t c26 h
      exact J39 _ _ _ hw (lv_sub hl [1, 2, 4, 0] rfl) h
    · replace h := o_f c26 h
      refine lv_iload hx hb dX5_leaders_29 (lv_at hl 0 rfl) ?_
      refine lv_iload_n hx hb dX5_leaders_31 rfl (lv_at hl 2 rfl) ?_
      refine lv_icmp_eq (tgt := 39) hx hb dX5_leaders_32 (by decide) (fun c32 => ?_) (fun c32 => ?_)
      · replace h := o_t c32 h
        exact J39 _ _ _ hw (lv_sub hl [1, 2, 4, 0] rfl) h
      · replace h := o_f c32 h
        refine lv_iconst (v := 1) hx hb dX5_leaders_35 (by decide) ?_
        refine lv_goto (tgt := 40) hx hb dX5_leaders_36 (by decide) ?_
        exact J40 (1 : Int32) _ _ _ hw (lv_sub hl [1, 2, 4, 0] rfl) h
-- X5_passes
set_option maxRecDepth 100000 in
set_option maxHeartbeats 4000000 in
theorem kX5_passes (l : Launch) (G : sGl) {S : sWo} {M : sOb} {a1 : Int32} {a2 : Int32} {q : (Int32 × sOb)}  (h : fX5_passes M a1 a2 = some q) : sCt l G yX5_passes wsX5_passes rmX5_passes [.ref (sA G 9 0), .int a1, .int a2] S M (some (.int q.1)) S q.2 := by
  refine cMk (cc := cX5_passes) (maxL := 6) (ret := (some .int)) (by decide) rfl (Nat.le_of_ble_eq_true rfl) ?_
  intro p e s m args below meth c Q hQ hx hb hr hlk hml hown hts hw ls hl
  have hown : s.vm.findClass RX5 = some m.cls := hown
  have hl : lv_has ls 6 [(0, .ref (sA G 9 0)), (1, .int a1), (2, .int a2)] := hl
  unfold fX5_passes at h
  refine lv_aload_n hx hb dX5_passes_0 rfl (lv_at hl 0 rfl) ?_
  refine lv_iload_n hx hb dX5_passes_1 rfl (lv_at hl 1 rfl) ?_
  obtain ⟨q2, eq2, h⟩ := o_bd h
  refine kV (As := [.int a1]) (rest := []) (st' := [.int q2]) ⟨hx, hb, hml, hown, hts⟩ (kX5_isRunner l G eq2) (cwV 1 hts gX5_passes_X5_isRunner rfl rfl rfl qqX5_isRunner ⟨Nat.le_of_ble_eq_true rfl, Nat.le_of_ble_eq_true rfl⟩) hw (rvMd hw) rfl hl.1 rfl (Nat.le_of_ble_eq_true rfl) dX5_passes_2 ⟨Nat.zero_le _, Nat.zero_le _⟩ rfl (fun H locs hw => ?_)
  refine lv_if_eq (tgt := 21) hx hb dX5_passes_5 (by decide) (fun c5 => ?_) (fun c5 => ?_)
  · replace h := o_t c5 h
    refine lv_aload_n hx hb dX5_passes_21 rfl (lv_at hl 0 rfl) ?_
    refine lv_ldc (v := -1000000001) hx hb hown (hts (.constant RX5 38 (-1000000001)) (by decide +kernel)) dX5_passes_22 ?_
    obtain ⟨q24, eq24, h⟩ := o_bd h
    refine kV (As := [.int (-1000000001 : Int32)]) (rest := []) (st' := [.int q24.1]) ⟨hx, hb, hml, hown, hts⟩ (kX5_finds l G eq24) (cwV 1 hts gX5_passes_X5_finds rfl rfl rfl qqX5_finds ⟨Nat.le_of_ble_eq_true rfl, Nat.le_of_ble_eq_true rfl⟩) hw (rvMd hw) rfl hl.1 rfl (Nat.le_of_ble_eq_true rfl) dX5_passes_24 ⟨Nat.zero_le _, Nat.zero_le _⟩ rfl (fun H locs hw => ?_)
    exact rI hQ hx hb hr hlk hw dX5_passes_27 (o_2a h) rfl (o_2b h)
  · replace h := o_f c5 h
    refine lv_aload_n hx hb dX5_passes_8 rfl (lv_at hl 0 rfl) ?_
    refine lv_iload_n hx hb dX5_passes_9 rfl (lv_at hl 2 rfl) ?_
    obtain ⟨q10, eq10, h⟩ := o_bd h
    refine kV (As := [.int a2]) (rest := []) (st' := [.int q10]) ⟨hx, hb, hml, hown, hts⟩ (kX5_isRunner l G eq10) (cwV 1 hts gX5_passes_X5_isRunner rfl rfl rfl qqX5_isRunner ⟨Nat.le_of_ble_eq_true rfl, Nat.le_of_ble_eq_true rfl⟩) hw (rvMd hw) rfl hl.1 rfl (Nat.le_of_ble_eq_true rfl) dX5_passes_10 ⟨Nat.zero_le _, Nat.zero_le _⟩ rfl (fun H locs hw => ?_)
    refine lv_if_eq (tgt := 21) hx hb dX5_passes_13 (by decide) (fun c13 => ?_) (fun c13 => ?_)
    · replace h := o_t c13 h
      refine lv_aload_n hx hb dX5_passes_21 rfl (lv_at hl 0 rfl) ?_
      refine lv_ldc (v := -1000000001) hx hb hown (hts (.constant RX5 38 (-1000000001)) (by decide +kernel)) dX5_passes_22 ?_
      obtain ⟨q24, eq24, h⟩ := o_bd h
      refine kV (As := [.int (-1000000001 : Int32)]) (rest := []) (st' := [.int q24.1]) ⟨hx, hb, hml, hown, hts⟩ (kX5_finds l G eq24) (cwV 1 hts gX5_passes_X5_finds rfl rfl rfl qqX5_finds ⟨Nat.le_of_ble_eq_true rfl, Nat.le_of_ble_eq_true rfl⟩) hw (rvMd hw) rfl hl.1 rfl (Nat.le_of_ble_eq_true rfl) dX5_passes_24 ⟨Nat.zero_le _, Nat.zero_le _⟩ rfl (fun H locs hw => ?_)
      exact rI hQ hx hb hr hlk hw dX5_passes_27 (o_2a h) rfl (o_2b h)
    · replace h := o_f c13 h
      refine lv_iload_n hx hb dX5_passes_16 rfl (lv_at hl 1 rfl) ?_
      refine lv_iload_n hx hb dX5_passes_17 rfl (lv_at hl 2 rfl) ?_
      refine lv_icmp_ne (tgt := 28) hx hb dX5_passes_18 (by decide) (fun c18 => ?_) (fun c18 => ?_)
      · replace h := o_f c18 h
        refine lv_aload_n hx hb dX5_passes_28 rfl (lv_at hl 0 rfl) ?_
        obtain ⟨q29, eq29, h⟩ := o_bd h
        refine kV (As := []) (rest := []) (st' := []) ⟨hx, hb, hml, hown, hts⟩ (kX5_laysBy l G eq29) (cwV 0 hts gX5_passes_X5_laysBy rfl rfl rfl qqX5_laysBy ⟨Nat.le_of_ble_eq_true rfl, Nat.le_of_ble_eq_true rfl⟩) hw (rvMd hw) rfl hl.1 rfl (Nat.le_of_ble_eq_true rfl) dX5_passes_29 ⟨Nat.zero_le _, Nat.zero_le _⟩ rfl (fun H locs hw => ?_)
        refine lv_iconst (v := -1) hx hb dX5_passes_32 (by decide) ?_
        refine lv_istore_n (lv' := [(3, .int (-1 : Int32)), (0, .ref (sA G 9 0)), (1, .int a1), (2, .int a2)]) hx hb dX5_passes_33 rfl hl (by decide) rfl (fun ls hl => ?_)
        refine lv_iconst (v := 0) hx hb dX5_passes_34 (by decide) ?_
        refine lv_istore (lv' := [(4, .int (0 : Int32)), (3, .int (-1 : Int32)), (0, .ref (sA G 9 0)), (1, .int a1), (2, .int a2)]) hx hb dX5_passes_35 hl (by decide) rfl (fun ls hl => ?_)
        obtain ⟨k83, ek83, h⟩ := o_nm h
        have J83 : ∀ (x3_83 : Int32) (T_83 : sOb) (H : Heap) (locs : List Loc) (ls : Array Slot), sHw G s S T_83 H locs → lv_has ls 6 [(0, .ref (sA G 9 0)), (3, .int x3_83)] → k83 x3_83 T_83 = some q → W p l e rmX5_passes s m args below meth c H locs 0 0 Q (F0 m 83 ls []) := by
          intro x3_83 T_83 H locs ls hw hl h
          replace h := o_j2 ek83 h
          refine lv_aload_n hx hb dX5_passes_83 rfl (lv_at hl 0 rfl) ?_
          obtain ⟨q84, eq84, h⟩ := o_bd h
          refine kV (As := []) (rest := []) (st' := []) ⟨hx, hb, hml, hown, hts⟩ (kX5_laysBack l G eq84) (cwV 0 hts gX5_passes_X5_laysBack rfl rfl rfl qqX5_laysBack ⟨Nat.le_of_ble_eq_true rfl, Nat.le_of_ble_eq_true rfl⟩) hw (rvMd hw) rfl hl.1 rfl (Nat.le_of_ble_eq_true rfl) dX5_passes_84 ⟨Nat.zero_le _, Nat.zero_le _⟩ rfl (fun H locs hw => ?_)
          refine lv_aload_n hx hb dX5_passes_87 rfl (lv_at hl 0 rfl) ?_
          refine lv_iload_n hx hb dX5_passes_88 rfl (lv_at hl 1 rfl) ?_
          obtain ⟨q89, eq89, h⟩ := o_bd h
          refine kV (As := [.int x3_83]) (rest := []) (st' := [.int q89.1]) ⟨hx, hb, hml, hown, hts⟩ (kX5_orNone l G eq89) (cwV 1 hts gX5_passes_X5_orNone rfl rfl rfl qqX5_orNone ⟨Nat.le_of_ble_eq_true rfl, Nat.le_of_ble_eq_true rfl⟩) hw (rvMd hw) rfl hl.1 rfl (Nat.le_of_ble_eq_true rfl) dX5_passes_89 ⟨Nat.zero_le _, Nat.zero_le _⟩ rfl (fun H locs hw => ?_)
          exact rI hQ hx hb hr hlk hw dX5_passes_92 (o_2a h) rfl (o_2b h)
        refine fx3_w (F := (bX5_passes_37 a1 a2 k83)) (P := fun x3_37 x4_37 T_37 => ∀ (H : Heap) (locs : List Loc) (ls : Array Slot), sHw G s S T_37 H locs → lv_has ls 6 [(0, .ref (sA G 9 0)), (1, .int a1), (2, .int a2), (3, .int x3_37), (4, .int x4_37)] → W p l e rmX5_passes s m args below meth c H locs 0 0 Q (F0 m 37 ls [])) ?_ _ _ _ _ h _ _ _ hw (lv_sub hl [2, 3, 4, 1, 0] rfl)
        intro rc37 IH37 x3_37 x4_37 T_37 h H locs ls hw hl
        unfold bX5_passes_37 at h
        refine lv_iload hx hb dX5_passes_37 (lv_at hl 4 rfl) ?_
        refine lv_sipush (v := 2000) hx hb dX5_passes_39 (by decide) ?_
        refine lv_icmp_gt (tgt := 83) hx hb dX5_passes_42 (by decide) (fun c42 => ?_) (fun c42 => ?_)
        · replace h := o_t c42 h
          exact J83 x3_37 T_37 _ _ _ hw (lv_sub hl [0, 3] rfl) h
        · replace h := o_f c42 h
          refine lv_iload_n hx hb dX5_passes_45 rfl (lv_at hl 3 rfl) ?_
          refine lv_if_ge (tgt := 83) hx hb dX5_passes_46 (by decide) (fun c46 => ?_) (fun c46 => ?_)
          · replace h := o_t c46 h
            exact J83 x3_37 T_37 _ _ _ hw (lv_sub hl [0, 3] rfl) h
          · replace h := o_f c46 h
            refine lv_aload_n hx hb dX5_passes_49 rfl (lv_at hl 0 rfl) ?_
            refine lv_iload_n hx hb dX5_passes_50 rfl (lv_at hl 1 rfl) ?_
            refine lv_iconst (v := 5) hx hb dX5_passes_51 (by decide) ?_
            obtain ⟨q52, eq52, h⟩ := o_bd h
            refine kV (As := [.int a1, .int (5 : Int32)]) (rest := []) (st' := [.int q52]) ⟨hx, hb, hml, hown, hts⟩ (kX5_is l G eq52) (cwV 2 hts gX5_passes_X5_is rfl rfl rfl qqX5_is ⟨Nat.le_of_ble_eq_true rfl, Nat.le_of_ble_eq_true rfl⟩) hw (rvMd hw) rfl hl.1 rfl (Nat.le_of_ble_eq_true rfl) dX5_passes_52 ⟨Nat.zero_le _, Nat.zero_le _⟩ rfl (fun H locs hw => ?_)
            refine lv_aload_n hx hb dX5_passes_55 rfl (lv_at hl 0 rfl) ?_
            refine lv_iload_n hx hb dX5_passes_56 rfl (lv_at hl 2 rfl) ?_
            refine lv_iconst (v := 5) hx hb dX5_passes_57 (by decide) ?_
            obtain ⟨q58, eq58, h⟩ := o_bd h
            refine kV (As := [.int a2, .int (5 : Int32)]) (rest := [.int q52]) (st' := [.int q58, .int q52]) ⟨hx, hb, hml, hown, hts⟩ (kX5_is l G eq58) (cwV 2 hts gX5_passes_X5_is rfl rfl rfl qqX5_is ⟨Nat.le_of_ble_eq_true rfl, Nat.le_of_ble_eq_true rfl⟩) hw (rvMd hw) rfl hl.1 rfl (Nat.le_of_ble_eq_true rfl) dX5_passes_58 ⟨Nat.zero_le _, Nat.zero_le _⟩ rfl (fun H locs hw => ?_)
            obtain ⟨k70, ek70, h⟩ := o_nm h
            have J70 : ∀ (y0_70 : Int32) (H : Heap) (locs : List Loc) (ls : Array Slot), sHw G s S T_37 H locs → lv_has ls 6 [(0, .ref (sA G 9 0)), (1, .int a1), (2, .int a2), (4, .int x4_37)] → k70 y0_70 = some q → W p l e rmX5_passes s m args below meth c H locs 0 0 Q (F0 m 70 ls [.int y0_70]) := by
              intro y0_70 H locs ls hw hl h
              replace h := o_j1 ek70 h
              refine lv_istore_n (lv' := [(3, .int y0_70), (0, .ref (sA G 9 0)), (1, .int a1), (2, .int a2), (4, .int x4_37)]) hx hb dX5_passes_70 rfl hl (by decide) rfl (fun ls hl => ?_)
              refine lv_aload_n hx hb dX5_passes_71 rfl (lv_at hl 1 rfl) ?_
              obtain ⟨q72, eq72, h⟩ := o_bd h
              refine kV (As := []) (rest := []) (st' := [.int q72.1]) ⟨hx, hb, hml, hown, hts⟩ (kX5_goesOn l G eq72) (cwV 0 hts gX5_passes_X5_goesOn rfl rfl rfl qqX5_goesOn ⟨Nat.le_of_ble_eq_true rfl, Nat.le_of_ble_eq_true rfl⟩) hw (rvMd hw) rfl hl.1 rfl (Nat.le_of_ble_eq_true rfl) dX5_passes_72 ⟨Nat.zero_le _, Nat.zero_le _⟩ rfl (fun H locs hw => ?_)
              refine lv_istore (lv' := [(5, .int q72.1), (3, .int y0_70), (0, .ref (sA G 9 0)), (1, .int a1), (2, .int a2), (4, .int x4_37)]) hx hb dX5_passes_75 hl (by decide) rfl (fun ls hl => ?_)
              obtain ⟨v77, ev77, h⟩ := o_nm h
              refine lv_iinc (v := v77) (lv' := [(4, .int v77), (5, .int q72.1), (3, .int y0_70), (0, .ref (sA G 9 0)), (1, .int a1), (2, .int a2)]) hx hb dX5_passes_77 hl (k := 5) rfl (by rw [ev77]; rfl) (by decide) rfl (fun ls hl => ?_)
              refine lv_goto (tgt := 37) hx hb dX5_passes_80 (by decide) ?_
              exact IH37 y0_70 v77 q72.2 h _ _ _ hw (lv_sub hl [3, 4, 5, 2, 0] rfl)
            refine lv_icmp_le (tgt := 69) hx hb dX5_passes_61 (by decide) (fun c61 => ?_) (fun c61 => ?_)
            · replace h := o_t c61 h
              refine lv_iconst (v := -1) hx hb dX5_passes_69 (by decide) ?_
              exact J70 (-1 : Int32) _ _ _ hw (lv_sub hl [0, 1, 2, 4] rfl) h
            · replace h := o_f c61 h
              refine lv_iload hx hb dX5_passes_64 (lv_at hl 4 rfl) ?_
              refine lv_goto (tgt := 70) hx hb dX5_passes_66 (by decide) ?_
              exact J70 x4_37 _ _ _ hw (lv_sub hl [0, 1, 2, 4] rfl) h
      · replace h := o_t c18 h
        refine lv_aload_n hx hb dX5_passes_21 rfl (lv_at hl 0 rfl) ?_
        refine lv_ldc (v := -1000000001) hx hb hown (hts (.constant RX5 38 (-1000000001)) (by decide +kernel)) dX5_passes_22 ?_
        obtain ⟨q24, eq24, h⟩ := o_bd h
        refine kV (As := [.int (-1000000001 : Int32)]) (rest := []) (st' := [.int q24.1]) ⟨hx, hb, hml, hown, hts⟩ (kX5_finds l G eq24) (cwV 1 hts gX5_passes_X5_finds rfl rfl rfl qqX5_finds ⟨Nat.le_of_ble_eq_true rfl, Nat.le_of_ble_eq_true rfl⟩) hw (rvMd hw) rfl hl.1 rfl (Nat.le_of_ble_eq_true rfl) dX5_passes_24 ⟨Nat.zero_le _, Nat.zero_le _⟩ rfl (fun H locs hw => ?_)
        exact rI hQ hx hb hr hlk hw dX5_passes_27 (o_2a h) rfl (o_2b h)
-- X5_races
set_option maxRecDepth 100000 in
set_option maxHeartbeats 4000000 in
theorem kX5_races (l : Launch) (G : sGl) {S : sWo} {M : sOb}  {q : (Int32 × sOb)}  (h : fX5_races M = some q) : sCt l G yX5_races wsX5_races rmX5_races [.ref (sA G 9 0)] S M (some (.int q.1)) S q.2 := by
  refine cMk (cc := cX5_races) (maxL := 1) (ret := (some .int)) (by decide) rfl (Nat.le_of_ble_eq_true rfl) ?_
  intro p e s m args below meth c Q hQ hx hb hr hlk hml hown hts hw ls hl
  have hown : s.vm.findClass RX5 = some m.cls := hown
  have hl : lv_has ls 1 [(0, .ref (sA G 9 0))] := hl
  have hiX5 : ∀ w ∈ u_ws RX5 TX5 15, w ∈ wsX5_races := by decide +kernel
  unfold fX5_races at h
  refine lv_aload_n hx hb dX5_races_0 rfl (lv_at hl 0 rfl) ?_
  obtain ⟨q1, eq1, h⟩ := o_bd h
  refine kV (As := []) (rest := []) (st' := []) ⟨hx, hb, hml, hown, hts⟩ (kX5_lines l G eq1) (cwV 0 hts gX5_races_X5_lines rfl rfl rfl qqX5_lines ⟨Nat.le_of_ble_eq_true rfl, Nat.le_of_ble_eq_true rfl⟩) hw (rvMd hw) rfl hl.1 rfl (Nat.le_of_ble_eq_true rfl) dX5_races_1 ⟨Nat.zero_le _, Nat.zero_le _⟩ rfl (fun H locs hw => ?_)
  refine lv_aload_n hx hb dX5_races_4 rfl (lv_at hl 0 rfl) ?_
  obtain ⟨q5, eq5, h⟩ := o_bd h
  refine kV (As := []) (rest := []) (st' := [.int q5.1]) ⟨hx, hb, hml, hown, hts⟩ (kX5_goesToEnd l G eq5) (cwV 0 hts gX5_races_X5_goesToEnd rfl rfl rfl qqX5_goesToEnd ⟨Nat.le_of_ble_eq_true rfl, Nat.le_of_ble_eq_true rfl⟩) hw (rvMd hw) rfl hl.1 rfl (Nat.le_of_ble_eq_true rfl) dX5_races_5 ⟨Nat.zero_le _, Nat.zero_le _⟩ rfl (fun H locs hw => ?_)
  refine lv_if_eq (tgt := 24) hx hb dX5_races_8 (by decide) (fun c8 => ?_) (fun c8 => ?_)
  · replace h := o_t c8 h
    refine lv_iconst (v := -1) hx hb dX5_races_24 (by decide) ?_
    exact rI hQ hx hb hr hlk hw dX5_races_25 (o_2a h) rfl (o_2b h)
  · replace h := o_f c8 h
    refine lv_aload_n hx hb dX5_races_11 rfl (lv_at hl 0 rfl) ?_
    refine lv_aload_n hx hb dX5_races_12 rfl (lv_at hl 0 rfl) ?_
    refine gMd (v := .ref (sA G 9 1)) hx hb hts hiX5 hown hw 0 (by decide) (hts (.fieldLink RX5 7 "SecondHomeModel" "s" "[I") (by decide +kernel)) rfl dX5_races_13 ?_
    refine lv_iconst (v := 3) hx hb dX5_races_16 (by decide) ?_
    refine ldMd hx hb hw 0 (by decide) (n := 77) rfl (by decide) dX5_races_17 ?_
    obtain ⟨q18, eq18, h⟩ := o_bd h
    refine kV (As := [.int (q5.2.2.1 0 (3 : Int32).toNatClampNeg)]) (rest := []) (st' := [.int q18]) ⟨hx, hb, hml, hown, hts⟩ (kX5_prizeOf l G eq18) (cwV 1 hts gX5_races_X5_prizeOf rfl rfl rfl qqX5_prizeOf ⟨Nat.le_of_ble_eq_true rfl, Nat.le_of_ble_eq_true rfl⟩) hw (rvMd hw) rfl hl.1 rfl (Nat.le_of_ble_eq_true rfl) dX5_races_18 ⟨Nat.zero_le _, Nat.zero_le _⟩ rfl (fun H locs hw => ?_)
    refine lv_goto (tgt := 25) hx hb dX5_races_21 (by decide) ?_
    exact rI hQ hx hb hr hlk hw dX5_races_25 (o_2a h) rfl (o_2b h)
-- X5_race
set_option maxRecDepth 100000 in
set_option maxHeartbeats 4000000 in
theorem kX5_race (l : Launch) (G : sGl) {S : sWo} {M : sOb}  {q : (Int32 × sOb)}  (h : fX5_race M = some q) : sCt l G yX5_race wsX5_race rmX5_race [.ref (sA G 9 0)] S M (some (.int q.1)) S q.2 := by
  refine cMk (cc := cX5_race) (maxL := 2) (ret := (some .int)) (by decide) rfl (Nat.le_of_ble_eq_true rfl) ?_
  intro p e s m args below meth c Q hQ hx hb hr hlk hml hown hts hw ls hl
  have hown : s.vm.findClass RX5 = some m.cls := hown
  have hl : lv_has ls 2 [(0, .ref (sA G 9 0))] := hl
  unfold fX5_race at h
  refine lv_aload_n hx hb dX5_race_0 rfl (lv_at hl 0 rfl) ?_
  obtain ⟨q1, eq1, h⟩ := o_bd h
  refine kV (As := []) (rest := []) (st' := []) ⟨hx, hb, hml, hown, hts⟩ (kX5_laysBy l G eq1) (cwV 0 hts gX5_race_X5_laysBy rfl rfl rfl qqX5_laysBy ⟨Nat.le_of_ble_eq_true rfl, Nat.le_of_ble_eq_true rfl⟩) hw (rvMd hw) rfl hl.1 rfl (Nat.le_of_ble_eq_true rfl) dX5_race_1 ⟨Nat.zero_le _, Nat.zero_le _⟩ rfl (fun H locs hw => ?_)
  refine lv_aload_n hx hb dX5_race_4 rfl (lv_at hl 0 rfl) ?_
  obtain ⟨q5, eq5, h⟩ := o_bd h
  refine kV (As := []) (rest := []) (st' := [.int q5.1]) ⟨hx, hb, hml, hown, hts⟩ (kX5_races l G eq5) (cwV 0 hts gX5_race_X5_races rfl rfl rfl qqX5_races ⟨Nat.le_of_ble_eq_true rfl, Nat.le_of_ble_eq_true rfl⟩) hw (rvMd hw) rfl hl.1 rfl (Nat.le_of_ble_eq_true rfl) dX5_race_5 ⟨Nat.zero_le _, Nat.zero_le _⟩ rfl (fun H locs hw => ?_)
  refine lv_istore_n (lv' := [(1, .int q5.1), (0, .ref (sA G 9 0))]) hx hb dX5_race_8 rfl hl (by decide) rfl (fun ls hl => ?_)
  refine lv_aload_n hx hb dX5_race_9 rfl (lv_at hl 1 rfl) ?_
  obtain ⟨q10, eq10, h⟩ := o_bd h
  refine kV (As := []) (rest := []) (st' := []) ⟨hx, hb, hml, hown, hts⟩ (kX5_laysBack l G eq10) (cwV 0 hts gX5_race_X5_laysBack rfl rfl rfl qqX5_laysBack ⟨Nat.le_of_ble_eq_true rfl, Nat.le_of_ble_eq_true rfl⟩) hw (rvMd hw) rfl hl.1 rfl (Nat.le_of_ble_eq_true rfl) dX5_race_10 ⟨Nat.zero_le _, Nat.zero_le _⟩ rfl (fun H locs hw => ?_)
  refine lv_aload_n hx hb dX5_race_13 rfl (lv_at hl 1 rfl) ?_
  refine lv_iload_n hx hb dX5_race_14 rfl (lv_at hl 0 rfl) ?_
  obtain ⟨q15, eq15, h⟩ := o_bd h
  refine kV (As := [.int q5.1]) (rest := []) (st' := [.int q15.1]) ⟨hx, hb, hml, hown, hts⟩ (kX5_orNone l G eq15) (cwV 1 hts gX5_race_X5_orNone rfl rfl rfl qqX5_orNone ⟨Nat.le_of_ble_eq_true rfl, Nat.le_of_ble_eq_true rfl⟩) hw (rvMd hw) rfl hl.1 rfl (Nat.le_of_ble_eq_true rfl) dX5_race_15 ⟨Nat.zero_le _, Nat.zero_le _⟩ rfl (fun H locs hw => ?_)
  exact rI hQ hx hb hr hlk hw dX5_race_18 (o_2a h) rfl (o_2b h)
