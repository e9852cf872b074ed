-- X4_now
set_option maxRecDepth 100000 in
set_option maxHeartbeats 4000000 in
theorem kX4_now (l : Launch) (G : sGl) {S : sWo} {M : sOb} {a1 : Int32} {q : (Int32 × sWo)}  (h : fX4_now S a1 = some q) : sCt l G yX4_now wsX4_now rmX4_now [.ref (sA G 0 0), .int a1] S M (some (.int q.1)) q.2 M := by
  refine cMk (cc := cX4_now) (maxL := 2) (ret := (some .int)) (by decide) rfl (Nat.le_of_ble_eq_true rfl) ?_
  intro p e s m args below meth c Q hQ hx hb hr hlk hml hown hts hw ls hl
  have hown : s.vm.findClass RX4 = some m.cls := hown
  have hl : lv_has ls 2 [(0, .ref (sA G 0 0)), (1, .int a1)] := hl
  have hiX3 : ∀ w ∈ u_ws RX3 TX3 15, w ∈ wsX4_now := by decide +kernel
  have hiX4 : ∀ w ∈ u_ws RX4 TX4 7, w ∈ wsX4_now := by decide +kernel
  unfold fX4_now at h
  refine lv_iload_n hx hb dX4_now_0 rfl (lv_at hl 1 rfl) ?_
  by_cases c1_0 : a1 = (0 : Int32)
  · replace h := o_t c1_0 h
    refine lv_tableIn (tgt := 36) hx hb dX4_now_1 (by rw [c1_0]; decide) (by rw [c1_0]; decide) (by rw [c1_0]; rfl) (by decide) ?_
    refine lv_aload_n hx hb dX4_now_36 rfl (lv_at hl 0 rfl) ?_
    refine gOw (v := .ref (sA G 1 0)) hx hb hts hiX4 hown hw 0 (by decide) (hts (.fieldLink RX4 10 "SecondHome" "track" "LSecondHome$Track;") (by decide +kernel)) rfl dX4_now_37 ?_
    refine gTk (v := .int ((S 1).1 3)) hx hb hts hiX3 hown hw (Or.inl rfl) rfl 3 (by decide) (hts (.fieldLink RX4 142 "SecondHome$Track" "second" "I") (by decide +kernel)) rfl dX4_now_40 ?_
    exact rI hQ hx hb hr hlk hw dX4_now_43 (o_2a h) (o_2b h) rfl
  replace h := o_f c1_0 h
  by_cases c1_1 : a1 = (1 : Int32)
  · replace h := o_t c1_1 h
    refine lv_tableIn (tgt := 44) hx hb dX4_now_1 (by rw [c1_1]; decide) (by rw [c1_1]; decide) (by rw [c1_1]; rfl) (by decide) ?_
    refine lv_aload_n hx hb dX4_now_44 rfl (lv_at hl 0 rfl) ?_
    refine gOw (v := .ref (sA G 1 0)) hx hb hts hiX4 hown hw 0 (by decide) (hts (.fieldLink RX4 10 "SecondHome" "track" "LSecondHome$Track;") (by decide +kernel)) rfl dX4_now_45 ?_
    refine gTk (v := .int ((S 1).1 0)) hx hb hts hiX3 hown hw (Or.inl rfl) rfl 0 (by decide) (hts (.fieldLink RX4 145 "SecondHome$Track" "length" "I") (by decide +kernel)) rfl dX4_now_48 ?_
    exact rI hQ hx hb hr hlk hw dX4_now_51 (o_2a h) (o_2b h) rfl
  replace h := o_f c1_1 h
  by_cases c1_2 : a1 = (2 : Int32)
  · replace h := o_t c1_2 h
    refine lv_tableIn (tgt := 52) hx hb dX4_now_1 (by rw [c1_2]; decide) (by rw [c1_2]; decide) (by rw [c1_2]; rfl) (by decide) ?_
    refine lv_aload_n hx hb dX4_now_52 rfl (lv_at hl 0 rfl) ?_
    refine gOw (v := .ref (sA G 1 0)) hx hb hts hiX4 hown hw 0 (by decide) (hts (.fieldLink RX4 10 "SecondHome" "track" "LSecondHome$Track;") (by decide +kernel)) rfl dX4_now_53 ?_
    refine gTk (v := .int ((S 1).1 1)) hx hb hts hiX3 hown hw (Or.inl rfl) rfl 1 (by decide) (hts (.fieldLink RX4 148 "SecondHome$Track" "least" "I") (by decide +kernel)) rfl dX4_now_56 ?_
    exact rI hQ hx hb hr hlk hw dX4_now_59 (o_2a h) (o_2b h) rfl
  replace h := o_f c1_2 h
  by_cases c1_3 : a1 = (3 : Int32)
  · replace h := o_t c1_3 h
    refine lv_tableIn (tgt := 60) hx hb dX4_now_1 (by rw [c1_3]; decide) (by rw [c1_3]; decide) (by rw [c1_3]; rfl) (by decide) ?_
    refine lv_aload_n hx hb dX4_now_60 rfl (lv_at hl 0 rfl) ?_
    refine gOw (v := .ref (sA G 1 0)) hx hb hts hiX4 hown hw 0 (by decide) (hts (.fieldLink RX4 10 "SecondHome" "track" "LSecondHome$Track;") (by decide +kernel)) rfl dX4_now_61 ?_
    refine gTk (v := .int ((S 1).1 2)) hx hb hts hiX3 hown hw (Or.inl rfl) rfl 2 (by decide) (hts (.fieldLink RX4 151 "SecondHome$Track" "law" "I") (by decide +kernel)) rfl dX4_now_64 ?_
    exact rI hQ hx hb hr hlk hw dX4_now_67 (o_2a h) (o_2b h) rfl
  replace h := o_f c1_3 h
  by_cases c1_4 : a1 = (4 : Int32)
  · replace h := o_t c1_4 h
    refine lv_tableIn (tgt := 68) hx hb dX4_now_1 (by rw [c1_4]; decide) (by rw [c1_4]; decide) (by rw [c1_4]; rfl) (by decide) ?_
    refine lv_aload_n hx hb dX4_now_68 rfl (lv_at hl 0 rfl) ?_
    refine gOw (v := .ref (sA G 1 0)) hx hb hts hiX4 hown hw 0 (by decide) (hts (.fieldLink RX4 10 "SecondHome" "track" "LSecondHome$Track;") (by decide +kernel)) rfl dX4_now_69 ?_
    refine gTk (v := .int ((S 1).1 5)) hx hb hts hiX3 hown hw (Or.inl rfl) rfl 5 (by decide) (hts (.fieldLink RX4 132 "SecondHome$Track" "homeCount" "I") (by decide +kernel)) rfl dX4_now_72 ?_
    exact rI hQ hx hb hr hlk hw dX4_now_75 (o_2a h) (o_2b h) rfl
  replace h := o_f c1_4 h
  have sw1 : a1.toInt < 0 ∨ 4 < a1.toInt := by
    have z0 := sw_ne c1_0
    have z1 := sw_ne c1_1
    have z2 := sw_ne c1_2
    have z3 := sw_ne c1_3
    have z4 := sw_ne c1_4
    rw [show ((0 : Int32)).toInt = 0 from rfl] at z0
    rw [show ((1 : Int32)).toInt = 1 from rfl] at z1
    rw [show ((2 : Int32)).toInt = 2 from rfl] at z2
    rw [show ((3 : Int32)).toInt = 3 from rfl] at z3
    rw [show ((4 : Int32)).toInt = 4 from rfl] at z4
    omega
  refine lv_tableOut (tgt := 76) hx hb dX4_now_1 sw1 (by decide) ?_
  refine lv_aload_n hx hb dX4_now_76 rfl (lv_at hl 0 rfl) ?_
  refine lv_ldc (v := -1000000001) hx hb hown (hts (.constant RX4 50 (-1000000001)) (by decide +kernel)) dX4_now_77 ?_
  obtain ⟨q79, eq79, h⟩ := o_bd h
  refine kV (As := [.int (-1000000001 : Int32)]) (rest := []) (st' := [.int q79.1]) ⟨hx, hb, hml, hown, hts⟩ (kX4_found l G eq79) (cwV 1 hts gX4_now_X4_found rfl rfl rfl qqX4_found ⟨Nat.le_of_ble_eq_true rfl, Nat.le_of_ble_eq_true rfl⟩) hw (rvOw hw) rfl hl.1 rfl (Nat.le_of_ble_eq_true rfl) dX4_now_79 ⟨Nat.zero_le _, Nat.zero_le _⟩ rfl (fun H locs hw => ?_)
  exact rI hQ hx hb hr hlk hw dX4_now_82 (o_2a h) (o_2b h) rfl
-- X4_place
set_option maxRecDepth 100000 in
set_option maxHeartbeats 4000000 in
theorem kX4_place (l : Launch) (G : sGl) {S : sWo} {M : sOb} {a1 : Int32} {q : (Int32 × sWo)}  (h : fX4_place S a1 = some q) : sCt l G yX4_place wsX4_place rmX4_place [.ref (sA G 0 0), .int a1] S M (some (.int q.1)) q.2 M := by
  refine cMk (cc := cX4_place) (maxL := 2) (ret := (some .int)) (by decide) rfl (Nat.le_of_ble_eq_true rfl) ?_
  intro p e s m args below meth c Q hQ hx hb hr hlk hml hown hts hw ls hl
  have hown : s.vm.findClass RX4 = some m.cls := hown
  have hl : lv_has ls 2 [(0, .ref (sA G 0 0)), (1, .int a1)] := hl
  have hiX4 : ∀ w ∈ u_ws RX4 TX4 7, w ∈ wsX4_place := by decide +kernel
  unfold fX4_place at h
  refine lv_aload_n hx hb dX4_place_0 rfl (lv_at hl 0 rfl) ?_
  refine gOw (v := .ref (sA G 1 0)) hx hb hts hiX4 hown hw 0 (by decide) (hts (.fieldLink RX4 10 "SecondHome" "track" "LSecondHome$Track;") (by decide +kernel)) rfl dX4_place_1 ?_
  refine lv_iload_n hx hb dX4_place_4 rfl (lv_at hl 1 rfl) ?_
  obtain ⟨q5, eq5, h⟩ := o_bd h
  refine kV (As := [.int a1]) (rest := []) (st' := [.int q5]) ⟨hx, hb, hml, hown, hts⟩ (kX3_has l G (Or.inl rfl) rfl eq5) (cwV 1 hts gX4_place_X3_has rfl rfl rfl qqX3_has ⟨Nat.le_of_ble_eq_true rfl, Nat.le_of_ble_eq_true rfl⟩) hw (rvTk hw (Or.inl rfl)) rfl hl.1 rfl (Nat.le_of_ble_eq_true rfl) dX4_place_5 ⟨Nat.zero_le _, Nat.zero_le _⟩ rfl (fun H locs hw => ?_)
  refine lv_if_eq (tgt := 22) hx hb dX4_place_8 (by decide) (fun c8 => ?_) (fun c8 => ?_)
  · replace h := o_t c8 h
    refine lv_aload_n hx hb dX4_place_22 rfl (lv_at hl 0 rfl) ?_
    refine lv_ldc (v := -1000000001) hx hb hown (hts (.constant RX4 50 (-1000000001)) (by decide +kernel)) dX4_place_23 ?_
    obtain ⟨q25, eq25, h⟩ := o_bd h
    refine kV (As := [.int (-1000000001 : Int32)]) (rest := []) (st' := [.int q25.1]) ⟨hx, hb, hml, hown, hts⟩ (kX4_found l G eq25) (cwV 1 hts gX4_place_X4_found rfl rfl rfl qqX4_found ⟨Nat.le_of_ble_eq_true rfl, Nat.le_of_ble_eq_true rfl⟩) hw (rvOw hw) rfl hl.1 rfl (Nat.le_of_ble_eq_true rfl) dX4_place_25 ⟨Nat.zero_le _, Nat.zero_le _⟩ rfl (fun H locs hw => ?_)
    exact rI hQ hx hb hr hlk hw dX4_place_28 (o_2a h) (o_2b h) rfl
  · replace h := o_f c8 h
    refine lv_aload_n hx hb dX4_place_11 rfl (lv_at hl 0 rfl) ?_
    refine gOw (v := .ref (sA G 1 0)) hx hb hts hiX4 hown hw 0 (by decide) (hts (.fieldLink RX4 10 "SecondHome" "track" "LSecondHome$Track;") (by decide +kernel)) rfl dX4_place_12 ?_
    refine lv_iload_n hx hb dX4_place_15 rfl (lv_at hl 1 rfl) ?_
    obtain ⟨q16, eq16, h⟩ := o_bd h
    refine kV (As := [.int a1]) (rest := []) (st' := [.int q16]) ⟨hx, hb, hml, hown, hts⟩ (kX3_whoseAt l G (Or.inl rfl) rfl eq16) (cwV 1 hts gX4_place_X3_whoseAt rfl rfl rfl qqX3_whoseAt ⟨Nat.le_of_ble_eq_true rfl, Nat.le_of_ble_eq_true rfl⟩) hw (rvTk hw (Or.inl rfl)) rfl hl.1 rfl (Nat.le_of_ble_eq_true rfl) dX4_place_16 ⟨Nat.zero_le _, Nat.zero_le _⟩ rfl (fun H locs hw => ?_)
    refine lv_goto (tgt := 28) hx hb dX4_place_19 (by decide) ?_
    exact rI hQ hx hb hr hlk hw dX4_place_28 (o_2a h) (o_2b h) rfl
-- X4_runnerOrNone
set_option maxRecDepth 100000 in
set_option maxHeartbeats 4000000 in
theorem kX4_runnerOrNone (l : Launch) (G : sGl) {S : sWo} {M : sOb} {a1 : Int32} {q : (Int32 × sWo)}  (h : fX4_runnerOrNone S a1 = some q) : sCt l G yX4_runnerOrNone wsX4_runnerOrNone rmX4_runnerOrNone [.ref (sA G 0 0), .int a1] S M (some (.int q.1)) q.2 M := by
  refine cMk (cc := cX4_runnerOrNone) (maxL := 2) (ret := (some .int)) (by decide) rfl (Nat.le_of_ble_eq_true rfl) ?_
  intro p e s m args below meth c Q hQ hx hb hr hlk hml hown hts hw ls hl
  have hown : s.vm.findClass RX4 = some m.cls := hown
  have hl : lv_has ls 2 [(0, .ref (sA G 0 0)), (1, .int a1)] := hl
  unfold fX4_runnerOrNone at h
  refine lv_iload_n hx hb dX4_runnerOrNone_0 rfl (lv_at hl 1 rfl) ?_
  refine lv_iconst (v := -1) hx hb dX4_runnerOrNone_1 (by decide) ?_
  refine lv_icmp_ne (tgt := 14) hx hb dX4_runnerOrNone_2 (by decide) (fun c2 => ?_) (fun c2 => ?_)
  · replace h := o_f c2 h
    refine lv_iload_n hx hb dX4_runnerOrNone_14 rfl (lv_at hl 1 rfl) ?_
    exact rI hQ hx hb hr hlk hw dX4_runnerOrNone_15 (o_2a h) (o_2b h) rfl
  · replace h := o_t c2 h
    refine lv_aload_n hx hb dX4_runnerOrNone_5 rfl (lv_at hl 0 rfl) ?_
    refine lv_ldc (v := -1000000004) hx hb hown (hts (.constant RX4 178 (-1000000004)) (by decide +kernel)) dX4_runnerOrNone_6 ?_
    obtain ⟨q8, eq8, h⟩ := o_bd h
    refine kV (As := [.int (-1000000004 : Int32)]) (rest := []) (st' := [.int q8.1]) ⟨hx, hb, hml, hown, hts⟩ (kX4_found l G eq8) (cwV 1 hts gX4_runnerOrNone_X4_found rfl rfl rfl qqX4_found ⟨Nat.le_of_ble_eq_true rfl, Nat.le_of_ble_eq_true rfl⟩) hw (rvOw hw) rfl hl.1 rfl (Nat.le_of_ble_eq_true rfl) dX4_runnerOrNone_8 ⟨Nat.zero_le _, Nat.zero_le _⟩ rfl (fun H locs hw => ?_)
    refine lv_goto (tgt := 15) hx hb dX4_runnerOrNone_11 (by decide) ?_
    exact rI hQ hx hb hr hlk hw dX4_runnerOrNone_15 (o_2a h) (o_2b h) rfl
-- X4_prize
set_option maxRecDepth 100000 in
set_option maxHeartbeats 4000000 in
theorem kX4_prize (l : Launch) (G : sGl) {S : sWo} {M : sOb}  {q : (Int32 × sWo)}  (h : fX4_prize S = some q) : sCt l G yX4_prize wsX4_prize rmX4_prize [.ref (sA G 0 0)] S M (some (.int q.1)) q.2 M := by
  refine cMk (cc := cX4_prize) (maxL := 1) (ret := (some .int)) (by decide) rfl (Nat.le_of_ble_eq_true rfl) ?_
  intro p e s m args below meth c Q hQ hx hb hr hlk hml hown hts hw ls hl
  have hown : s.vm.findClass RX4 = some m.cls := hown
  have hl : lv_has ls 1 [(0, .ref (sA G 0 0))] := hl
  have hiX3 : ∀ w ∈ u_ws RX3 TX3 15, w ∈ wsX4_prize := by decide +kernel
  have hiX4 : ∀ w ∈ u_ws RX4 TX4 7, w ∈ wsX4_prize := by decide +kernel
  unfold fX4_prize at h
  refine lv_aload_n hx hb dX4_prize_0 rfl (lv_at hl 0 rfl) ?_
  refine lv_aload_n hx hb dX4_prize_1 rfl (lv_at hl 0 rfl) ?_
  refine gOw (v := .ref (sA G 1 0)) hx hb hts hiX4 hown hw 0 (by decide) (hts (.fieldLink RX4 10 "SecondHome" "track" "LSecondHome$Track;") (by decide +kernel)) rfl dX4_prize_2 ?_
  refine lv_aload_n hx hb dX4_prize_5 rfl (lv_at hl 0 rfl) ?_
  refine gOw (v := .ref (sA G 1 0)) hx hb hts hiX4 hown hw 0 (by decide) (hts (.fieldLink RX4 10 "SecondHome" "track" "LSecondHome$Track;") (by decide +kernel)) rfl dX4_prize_6 ?_
  refine gTk (v := .int ((S 1).1 2)) hx hb hts hiX3 hown hw (Or.inl rfl) rfl 2 (by decide) (hts (.fieldLink RX4 151 "SecondHome$Track" "law" "I") (by decide +kernel)) rfl dX4_prize_9 ?_
  obtain ⟨q12, eq12, h⟩ := o_bd h
  refine kV (As := [.int ((S 1).1 2)]) (rest := [.ref (sA G 0 0)]) (st' := [.int q12, .ref (sA G 0 0)]) ⟨hx, hb, hml, hown, hts⟩ (kX3_prizeOwner l G (Or.inl rfl) rfl eq12) (cwV 1 hts gX4_prize_X3_prizeOwner rfl rfl rfl qqX3_prizeOwner ⟨Nat.le_of_ble_eq_true rfl, Nat.le_of_ble_eq_true rfl⟩) hw (rvTk hw (Or.inl rfl)) rfl hl.1 rfl (Nat.le_of_ble_eq_true rfl) dX4_prize_12 ⟨Nat.zero_le _, Nat.zero_le _⟩ rfl (fun H locs hw => ?_)
  obtain ⟨q15, eq15, h⟩ := o_bd h
  refine kV (As := [.int q12]) (rest := []) (st' := [.int q15.1]) ⟨hx, hb, hml, hown, hts⟩ (kX4_runnerOrNone l G eq15) (cwV 1 hts gX4_prize_X4_runnerOrNone rfl rfl rfl qqX4_runnerOrNone ⟨Nat.le_of_ble_eq_true rfl, Nat.le_of_ble_eq_true rfl⟩) hw (rvOw hw) rfl hl.1 rfl (Nat.le_of_ble_eq_true rfl) dX4_prize_15 ⟨Nat.zero_le _, Nat.zero_le _⟩ rfl (fun H locs hw => ?_)
  exact rI hQ hx hb hr hlk hw dX4_prize_18 (o_2a h) (o_2b h) rfl
-- X4_score
set_option maxRecDepth 100000 in
set_option maxHeartbeats 4000000 in
theorem kX4_score (l : Launch) (G : sGl) {S : sWo} {M : sOb}  {q : (Int32 × sWo)}  (h : fX4_score S = some q) : sCt l G yX4_score wsX4_score rmX4_score [.ref (sA G 0 0)] S M (some (.int q.1)) q.2 M := by
  refine cMk (cc := cX4_score) (maxL := 1) (ret := (some .int)) (by decide) rfl (Nat.le_of_ble_eq_true rfl) ?_
  intro p e s m args below meth c Q hQ hx hb hr hlk hml hown hts hw ls hl
  have hown : s.vm.findClass RX4 = some m.cls := hown
  have hl : lv_has ls 1 [(0, .ref (sA G 0 0))] := hl
  have hiX3 : ∀ w ∈ u_ws RX3 TX3 15, w ∈ wsX4_score := by decide +kernel
  have hiX4 : ∀ w ∈ u_ws RX4 TX4 7, w ∈ wsX4_score := by decide +kernel
  unfold fX4_score at h
  refine lv_aload_n hx hb dX4_score_0 rfl (lv_at hl 0 rfl) ?_
  refine gOw (v := .ref (sA G 1 0)) hx hb hts hiX4 hown hw 0 (by decide) (hts (.fieldLink RX4 10 "SecondHome" "track" "LSecondHome$Track;") (by decide +kernel)) rfl dX4_score_1 ?_
  refine gTk (v := .int ((S 1).1 4)) hx hb hts hiX3 hown hw (Or.inl rfl) rfl 4 (by decide) (hts (.fieldLink RX4 64 "SecondHome$Track" "count" "I") (by decide +kernel)) rfl dX4_score_4 ?_
  refine lv_if_eq (tgt := 20) hx hb dX4_score_7 (by decide) (fun c7 => ?_) (fun c7 => ?_)
  · replace h := o_t c7 h
    refine lv_aload_n hx hb dX4_score_20 rfl (lv_at hl 0 rfl) ?_
    refine lv_ldc (v := -1000000005) hx hb hown (hts (.constant RX4 123 (-1000000005)) (by decide +kernel)) dX4_score_21 ?_
    obtain ⟨q23, eq23, h⟩ := o_bd h
    refine kV (As := [.int (-1000000005 : Int32)]) (rest := []) (st' := [.int q23.1]) ⟨hx, hb, hml, hown, hts⟩ (kX4_found l G eq23) (cwV 1 hts gX4_score_X4_found rfl rfl rfl qqX4_found ⟨Nat.le_of_ble_eq_true rfl, Nat.le_of_ble_eq_true rfl⟩) hw (rvOw hw) rfl hl.1 rfl (Nat.le_of_ble_eq_true rfl) dX4_score_23 ⟨Nat.zero_le _, Nat.zero_le _⟩ rfl (fun H locs hw => ?_)
    exact rI hQ hx hb hr hlk hw dX4_score_26 (o_2a h) (o_2b h) rfl
  · replace h := o_f c7 h
    refine lv_aload_n hx hb dX4_score_10 rfl (lv_at hl 0 rfl) ?_
    refine gOw (v := .ref (sA G 1 0)) hx hb hts hiX4 hown hw 0 (by decide) (hts (.fieldLink RX4 10 "SecondHome" "track" "LSecondHome$Track;") (by decide +kernel)) rfl dX4_score_11 ?_
    obtain ⟨q14, eq14, h⟩ := o_bd h
    refine kV (As := []) (rest := []) (st' := [.int q14]) ⟨hx, hb, hml, hown, hts⟩ (kX3_allHome l G (Or.inl rfl) rfl eq14) (cwV 0 hts gX4_score_X3_allHome rfl rfl rfl qqX3_allHome ⟨Nat.le_of_ble_eq_true rfl, Nat.le_of_ble_eq_true rfl⟩) hw (rvTk hw (Or.inl rfl)) rfl hl.1 rfl (Nat.le_of_ble_eq_true rfl) dX4_score_14 ⟨Nat.zero_le _, Nat.zero_le _⟩ rfl (fun H locs hw => ?_)
    refine lv_if_ne (tgt := 27) hx hb dX4_score_17 (by decide) (fun c17 => ?_) (fun c17 => ?_)
    · replace h := o_f c17 h
      refine lv_aload_n hx hb dX4_score_27 rfl (lv_at hl 0 rfl) ?_
      refine gOw (v := .ref (sA G 1 0)) hx hb hts hiX4 hown hw 0 (by decide) (hts (.fieldLink RX4 10 "SecondHome" "track" "LSecondHome$Track;") (by decide +kernel)) rfl dX4_score_28 ?_
      obtain ⟨q31, eq31, h⟩ := o_bd h
      refine kV (As := []) (rest := []) (st' := [.int q31.1]) ⟨hx, hb, hml, hown, hts⟩ (kX3_givePoints l G (Or.inl rfl) rfl eq31) (cwV 0 hts gX4_score_X3_givePoints rfl rfl rfl qqX3_givePoints ⟨Nat.le_of_ble_eq_true rfl, Nat.le_of_ble_eq_true rfl⟩) hw (rvTk hw (Or.inl rfl)) rfl hl.1 rfl (Nat.le_of_ble_eq_true rfl) dX4_score_31 ⟨Nat.zero_le _, Nat.zero_le _⟩ rfl (fun H locs hw => ?_)
      obtain ⟨S31, eS31, h⟩ := o_nm h
      rw [← eS31] at hw
      exact rI hQ hx hb hr hlk hw dX4_score_34 (o_2a h) (o_2b h) rfl
    · replace h := o_t c17 h
      refine lv_aload_n hx hb dX4_score_20 rfl (lv_at hl 0 rfl) ?_
      refine lv_ldc (v := -1000000005) hx hb hown (hts (.constant RX4 123 (-1000000005)) (by decide +kernel)) dX4_score_21 ?_
      obtain ⟨q23, eq23, h⟩ := o_bd h
      refine kV (As := [.int (-1000000005 : Int32)]) (rest := []) (st' := [.int q23.1]) ⟨hx, hb, hml, hown, hts⟩ (kX4_found l G eq23) (cwV 1 hts gX4_score_X4_found rfl rfl rfl qqX4_found ⟨Nat.le_of_ble_eq_true rfl, Nat.le_of_ble_eq_true rfl⟩) hw (rvOw hw) rfl hl.1 rfl (Nat.le_of_ble_eq_true rfl) dX4_score_23 ⟨Nat.zero_le _, Nat.zero_le _⟩ rfl (fun H locs hw => ?_)
      exact rI hQ hx hb hr hlk hw dX4_score_26 (o_2a h) (o_2b h) rfl
-- X4_most
set_option maxRecDepth 100000 in
set_option maxHeartbeats 4000000 in
theorem kX4_most (l : Launch) (G : sGl) {S : sWo} {M : sOb} {k : Nat} {q : Int32} (hk : k < 9) (h : fX4_most S k = some q) : sCt l G yX4_most wsX4_most rmX4_most [.ref (sA G 0 0), .ref (sA G 1 (k + 1))] S M (some (.int q)) S M := by
  refine cMk (cc := cX4_most) (maxL := 4) (ret := (some .int)) (by decide) rfl (Nat.le_of_ble_eq_true rfl) ?_
  intro p e s m args below meth c Q hQ hx hb hr hlk hml hown hts hw ls hl
  have hown : s.vm.findClass RX4 = some m.cls := hown
  have hl : lv_has ls 4 [(0, .ref (sA G 0 0)), (1, .ref (sA G 1 (k + 1)))] := hl
  have hiX3 : ∀ w ∈ u_ws RX3 TX3 15, w ∈ wsX4_most := by decide +kernel
  have hiX4 : ∀ w ∈ u_ws RX4 TX4 7, w ∈ wsX4_most := by decide +kernel
  unfold fX4_most at h
  refine lv_iconst (v := -1) hx hb dX4_most_0 (by decide) ?_
  refine lv_istore_n (lv' := [(2, .int (-1 : Int32)), (0, .ref (sA G 0 0)), (1, .ref (sA G 1 (k + 1)))]) hx hb dX4_most_1 rfl hl (by decide) rfl (fun ls hl => ?_)
  refine lv_iconst (v := 0) hx hb dX4_most_2 (by decide) ?_
  refine lv_istore_n (lv' := [(3, .int (0 : Int32)), (2, .int (-1 : Int32)), (0, .ref (sA G 0 0)), (1, .ref (sA G 1 (k + 1)))]) hx hb dX4_most_3 rfl hl (by decide) rfl (fun ls hl => ?_)
  refine fx2_w (F := (bX4_most_4 S k)) (P := fun x2_4 x3_4 => ∀ (H : Heap) (locs : List Loc) (ls : Array Slot), sHw G s S M H locs → lv_has ls 4 [(0, .ref (sA G 0 0)), (1, .ref (sA G 1 (k + 1))), (2, .int x2_4), (3, .int x3_4)] → W p l e rmX4_most s m args below meth c H locs 0 0 Q (F0 m 4 ls [])) ?_ _ _ _ h _ _ _ hw (lv_sub hl [2, 3, 1, 0] rfl)
  intro rc4 IH4 x2_4 x3_4 h H locs ls hw hl
  unfold bX4_most_4 at h
  refine lv_iload_n hx hb dX4_most_4 rfl (lv_at hl 3 rfl) ?_
  refine lv_aload_n hx hb dX4_most_5 rfl (lv_at hl 0 rfl) ?_
  refine gOw (v := .ref (sA G 1 0)) hx hb hts hiX4 hown hw 0 (by decide) (hts (.fieldLink RX4 10 "SecondHome" "track" "LSecondHome$Track;") (by decide +kernel)) rfl dX4_most_6 ?_
  refine gTk (v := .int ((S 1).1 4)) hx hb hts hiX3 hown hw (Or.inl rfl) rfl 4 (by decide) (hts (.fieldLink RX4 64 "SecondHome$Track" "count" "I") (by decide +kernel)) rfl dX4_most_9 ?_
  refine lv_icmp_ge (tgt := 43) hx hb dX4_most_12 (by decide) (fun c12 => ?_) (fun c12 => ?_)
  · replace h := o_t c12 h
    refine lv_iload_n hx hb dX4_most_43 rfl (lv_at hl 2 rfl) ?_
    exact rI hQ hx hb hr hlk hw dX4_most_44 (o_1 h) rfl rfl
  · replace h := o_f c12 h
    refine lv_iload_n hx hb dX4_most_15 rfl (lv_at hl 3 rfl) ?_
    refine lv_aload_n hx hb dX4_most_16 rfl (lv_at hl 1 rfl) ?_
    refine lenTk hx hb hw (Or.inl rfl) k hk dX4_most_17 ?_
    refine lv_icmp_ge (tgt := 43) hx hb dX4_most_18 (by decide) (fun c18 => ?_) (fun c18 => ?_)
    · replace h := o_t c18 h
      refine lv_iload_n hx hb dX4_most_43 rfl (lv_at hl 2 rfl) ?_
      exact rI hQ hx hb hr hlk hw dX4_most_44 (o_1 h) rfl rfl
    · replace h := o_f c18 h
      refine lv_iload_n hx hb dX4_most_21 rfl (lv_at hl 2 rfl) ?_
      refine lv_iconst (v := -1) hx hb dX4_most_22 (by decide) ?_
      refine lv_icmp_eq (tgt := 35) hx hb dX4_most_23 (by decide) (fun c23 => ?_) (fun c23 => ?_)
      · replace h := o_t c23 h
        refine lv_iload_n hx hb dX4_most_35 rfl (lv_at hl 3 rfl) ?_
        refine lv_istore_n (lv' := [(2, .int x3_4), (0, .ref (sA G 0 0)), (1, .ref (sA G 1 (k + 1))), (3, .int x3_4)]) hx hb dX4_most_36 rfl hl (by decide) rfl (fun ls hl => ?_)
        obtain ⟨v37, ev37, h⟩ := o_nm h
        refine lv_iinc (v := v37) (lv' := [(3, .int v37), (2, .int x3_4), (0, .ref (sA G 0 0)), (1, .ref (sA G 1 (k + 1)))]) hx hb dX4_most_37 hl (k := 3) rfl (by rw [ev37]; rfl) (by decide) rfl (fun ls hl => ?_)
        refine lv_goto (tgt := 4) hx hb dX4_most_40 (by decide) ?_
        exact IH4 x3_4 v37 h _ _ _ hw (lv_sub hl [2, 3, 1, 0] rfl)
      · replace h := o_f c23 h
        refine lv_aload_n hx hb dX4_most_26 rfl (lv_at hl 1 rfl) ?_
        refine lv_iload_n hx hb dX4_most_27 rfl (lv_at hl 3 rfl) ?_
        obtain ⟨b28, h⟩ := o_in h
        refine ldTk hx hb hw (Or.inl rfl) rfl k hk b28 dX4_most_28 ?_
        refine lv_aload_n hx hb dX4_most_29 rfl (lv_at hl 1 rfl) ?_
        refine lv_iload_n hx hb dX4_most_30 rfl (lv_at hl 2 rfl) ?_
        obtain ⟨b31, h⟩ := o_in h
        refine ldTk hx hb hw (Or.inl rfl) rfl k hk b31 dX4_most_31 ?_
        refine lv_icmp_le (tgt := 37) hx hb dX4_most_32 (by decide) (fun c32 => ?_) (fun c32 => ?_)
        · replace h := o_t c32 h
          obtain ⟨v37, ev37, h⟩ := o_nm h
          refine lv_iinc (v := v37) (lv' := [(3, .int v37), (0, .ref (sA G 0 0)), (1, .ref (sA G 1 (k + 1))), (2, .int x2_4)]) hx hb dX4_most_37 hl (k := 3) rfl (by rw [ev37]; rfl) (by decide) rfl (fun ls hl => ?_)
          refine lv_goto (tgt := 4) hx hb dX4_most_40 (by decide) ?_
          exact IH4 x2_4 v37 h _ _ _ hw (lv_sub hl [1, 2, 3, 0] rfl)
        · replace h := o_f c32 h
          refine lv_iload_n hx hb dX4_most_35 rfl (lv_at hl 3 rfl) ?_
          refine lv_istore_n (lv' := [(2, .int x3_4), (0, .ref (sA G 0 0)), (1, .ref (sA G 1 (k + 1))), (3, .int x3_4)]) hx hb dX4_most_36 rfl hl (by decide) rfl (fun ls hl => ?_)
          obtain ⟨v37, ev37, h⟩ := o_nm h
          refine lv_iinc (v := v37) (lv' := [(3, .int v37), (2, .int x3_4), (0, .ref (sA G 0 0)), (1, .ref (sA G 1 (k + 1)))]) hx hb dX4_most_37 hl (k := 3) rfl (by rw [ev37]; rfl) (by decide) rfl (fun ls hl => ?_)
          refine lv_goto (tgt := 4) hx hb dX4_most_40 (by decide) ?_
          exact IH4 x3_4 v37 h _ _ _ hw (lv_sub hl [2, 3, 1, 0] rfl)
-- X4_leads
set_option maxRecDepth 100000 in
set_option maxHeartbeats 4000000 in
theorem kX4_leads (l : Launch) (G : sGl) {S : sWo} {M : sOb}  {q : (Int32 × sWo)}  (h : fX4_leads S = some q) : sCt l G yX4_leads wsX4_leads rmX4_leads [.ref (sA G 0 0)] S M (some (.int q.1)) q.2 M := by
  refine cMk (cc := cX4_leads) (maxL := 1) (ret := (some .int)) (by decide) rfl (Nat.le_of_ble_eq_true rfl) ?_
  intro p e s m args below meth c Q hQ hx hb hr hlk hml hown hts hw ls hl
  have hown : s.vm.findClass RX4 = some m.cls := hown
  have hl : lv_has ls 1 [(0, .ref (sA G 0 0))] := hl
  have hiX3 : ∀ w ∈ u_ws RX3 TX3 15, w ∈ wsX4_leads := by decide +kernel
  have hiX4 : ∀ w ∈ u_ws RX4 TX4 7, w ∈ wsX4_leads := by decide +kernel
  unfold fX4_leads at h
  refine lv_aload_n hx hb dX4_leads_0 rfl (lv_at hl 0 rfl) ?_
  refine lv_aload_n hx hb dX4_leads_1 rfl (lv_at hl 0 rfl) ?_
  refine lv_aload_n hx hb dX4_leads_2 rfl (lv_at hl 0 rfl) ?_
  refine gOw (v := .ref (sA G 1 0)) hx hb hts hiX4 hown hw 0 (by decide) (hts (.fieldLink RX4 10 "SecondHome" "track" "LSecondHome$Track;") (by decide +kernel)) rfl dX4_leads_3 ?_
  refine gTk (v := .ref (sA G 1 7)) hx hb hts hiX3 hown hw (Or.inl rfl) rfl 12 (by decide) (hts (.fieldLink RX4 94 "SecondHome$Track" "points" "[I") (by decide +kernel)) rfl dX4_leads_6 ?_
  obtain ⟨q9, eq9, h⟩ := o_bd h
  refine kV (As := [.ref (sA G 1 7)]) (rest := [.ref (sA G 0 0)]) (st' := [.int q9, .ref (sA G 0 0)]) ⟨hx, hb, hml, hown, hts⟩ (kX4_most l G (by decide) eq9) (cwV 1 hts gX4_leads_X4_most rfl rfl rfl qqX4_most ⟨Nat.le_of_ble_eq_true rfl, Nat.le_of_ble_eq_true rfl⟩) hw (rvOw hw) rfl hl.1 rfl (Nat.le_of_ble_eq_true rfl) dX4_leads_9 ⟨Nat.zero_le _, Nat.zero_le _⟩ rfl (fun H locs hw => ?_)
  obtain ⟨q12, eq12, h⟩ := o_bd h
  refine kV (As := [.int q9]) (rest := []) (st' := [.int q12.1]) ⟨hx, hb, hml, hown, hts⟩ (kX4_runnerOrNone l G eq12) (cwV 1 hts gX4_leads_X4_runnerOrNone rfl rfl rfl qqX4_runnerOrNone ⟨Nat.le_of_ble_eq_true rfl, Nat.le_of_ble_eq_true rfl⟩) hw (rvOw hw) rfl hl.1 rfl (Nat.le_of_ble_eq_true rfl) dX4_leads_12 ⟨Nat.zero_le _, Nat.zero_le _⟩ rfl (fun H locs hw => ?_)
  exact rI hQ hx hb hr hlk hw dX4_leads_15 (o_2a h) (o_2b h) rfl
-- X4_tryOut
set_option maxRecDepth 100000 in
set_option maxHeartbeats 4000000 in
theorem kX4_tryOut (l : Launch) (G : sGl) {S : sWo} {M : sOb}  {q : sWo}  (h : fX4_tryOut S = some q) : sCt l G yX4_tryOut wsX4_tryOut rmX4_tryOut [.ref (sA G 0 0)] S M (some (.ref (sA G 2 0))) q M := by
  refine cMk (cc := cX4_tryOut) (maxL := 1) (ret := (some (.object "SecondHome$Track"))) (by decide) rfl (Nat.le_of_ble_eq_true rfl) ?_
  intro p e s m args below meth c Q hQ hx hb hr hlk hml hown hts hw ls hl
  have hown : s.vm.findClass RX4 = some m.cls := hown
  have hl : lv_has ls 1 [(0, .ref (sA G 0 0))] := hl
  have hiX4 : ∀ w ∈ u_ws RX4 TX4 7, w ∈ wsX4_tryOut := by decide +kernel
  unfold fX4_tryOut at h
  refine lv_aload_n hx hb dX4_tryOut_0 rfl (lv_at hl 0 rfl) ?_
  refine gOw (v := .ref (sA G 2 0)) hx hb hts hiX4 hown hw 1 (by decide) (hts (.fieldLink RX4 16 "SecondHome" "trial" "LSecondHome$Track;") (by decide +kernel)) rfl dX4_tryOut_1 ?_
  refine lv_aload_n hx hb dX4_tryOut_4 rfl (lv_at hl 0 rfl) ?_
  refine gOw (v := .ref (sA G 1 0)) hx hb hts hiX4 hown hw 0 (by decide) (hts (.fieldLink RX4 10 "SecondHome" "track" "LSecondHome$Track;") (by decide +kernel)) rfl dX4_tryOut_5 ?_
  obtain ⟨q8, eq8, h⟩ := o_bd h
  refine kV (As := [.ref (sA G 1 0)]) (rest := []) (st' := []) ⟨hx, hb, hml, hown, hts⟩ (kX3_takeOver l G (Or.inr (Or.inl rfl)) (Or.inl rfl) (by decide) rfl rfl eq8) (cwV 1 hts gX4_tryOut_X3_takeOver rfl rfl rfl qqX3_takeOver ⟨Nat.le_of_ble_eq_true rfl, Nat.le_of_ble_eq_true rfl⟩) hw (rvTk hw (Or.inr (Or.inl rfl))) rfl hl.1 rfl (Nat.le_of_ble_eq_true rfl) dX4_tryOut_8 ⟨Nat.zero_le _, Nat.zero_le _⟩ rfl (fun H locs hw => ?_)
  obtain ⟨S8, eS8, h⟩ := o_nm h
  rw [← eS8] at hw
  refine lv_aload_n hx hb dX4_tryOut_11 rfl (lv_at hl 0 rfl) ?_
  refine gOw (v := .ref (sA G 2 0)) hx hb hts hiX4 hown hw 1 (by decide) (hts (.fieldLink RX4 16 "SecondHome" "trial" "LSecondHome$Track;") (by decide +kernel)) rfl dX4_tryOut_12 ?_
  exact rA hQ hx hb hr ⟨_, rfl⟩ hlk hw dX4_tryOut_15 rfl (o_1 h) rfl
-- X4_on
set_option maxRecDepth 100000 in
set_option maxHeartbeats 4000000 in
theorem kX4_on (l : Launch) (G : sGl) {S : sWo} {M : sOb} {a1 : Int32} {a2 : Int32} {q : (Int32 × sWo)}  (h : fX4_on S a1 a2 = some q) : sCt l G yX4_on wsX4_on rmX4_on [.ref (sA G 0 0), .int a1, .int a2] S M (some (.int q.1)) q.2 M := by
  refine cMk (cc := cX4_on) (maxL := 4) (ret := (some .int)) (by decide) rfl (Nat.le_of_ble_eq_true rfl) ?_
  intro p e s m args below meth c Q hQ hx hb hr hlk hml hown hts hw ls hl
  have hown : s.vm.findClass RX4 = some m.cls := hown
  have hl : lv_has ls 4 [(0, .ref (sA G 0 0)), (1, .int a1), (2, .int a2)] := hl
  have hiX3 : ∀ w ∈ u_ws RX3 TX3 15, w ∈ wsX4_on := by decide +kernel
  have hiX4 : ∀ w ∈ u_ws RX4 TX4 7, w ∈ wsX4_on := by decide +kernel
  unfold fX4_on at h
  refine lv_aload_n hx hb dX4_on_0 rfl (lv_at hl 0 rfl) ?_
  refine gOw (v := .ref (sA G 1 0)) hx hb hts hiX4 hown hw 0 (by decide) (hts (.fieldLink RX4 10 "SecondHome" "track" "LSecondHome$Track;") (by decide +kernel)) rfl dX4_on_1 ?_
  refine lv_iload_n hx hb dX4_on_4 rfl (lv_at hl 1 rfl) ?_
  obtain ⟨q5, eq5, h⟩ := o_bd h
  refine kV (As := [.int a1]) (rest := []) (st' := [.int q5]) ⟨hx, hb, hml, hown, hts⟩ (kX3_has l G (Or.inl rfl) rfl eq5) (cwV 1 hts gX4_on_X3_has rfl rfl rfl qqX3_has ⟨Nat.le_of_ble_eq_true rfl, Nat.le_of_ble_eq_true rfl⟩) hw (rvTk hw (Or.inl rfl)) rfl hl.1 rfl (Nat.le_of_ble_eq_true rfl) dX4_on_5 ⟨Nat.zero_le _, Nat.zero_le _⟩ rfl (fun H locs hw => ?_)
  refine lv_if_eq (tgt := 22) hx hb dX4_on_8 (by decide) (fun c8 => ?_) (fun c8 => ?_)
  · replace h := o_t c8 h
    refine lv_aload_n hx hb dX4_on_22 rfl (lv_at hl 0 rfl) ?_
    refine lv_ldc (v := -1000000001) hx hb hown (hts (.constant RX4 50 (-1000000001)) (by decide +kernel)) dX4_on_23 ?_
    obtain ⟨q25, eq25, h⟩ := o_bd h
    refine kV (As := [.int (-1000000001 : Int32)]) (rest := []) (st' := [.int q25.1]) ⟨hx, hb, hml, hown, hts⟩ (kX4_found l G eq25) (cwV 1 hts gX4_on_X4_found rfl rfl rfl qqX4_found ⟨Nat.le_of_ble_eq_true rfl, Nat.le_of_ble_eq_true rfl⟩) hw (rvOw hw) rfl hl.1 rfl (Nat.le_of_ble_eq_true rfl) dX4_on_25 ⟨Nat.zero_le _, Nat.zero_le _⟩ rfl (fun H locs hw => ?_)
    exact rI hQ hx hb hr hlk hw dX4_on_28 (o_2a h) (o_2b h) rfl
  · replace h := o_f c8 h
    refine lv_iload_n hx hb dX4_on_11 rfl (lv_at hl 2 rfl) ?_
    refine lv_if_lt (tgt := 22) hx hb dX4_on_12 (by decide) (fun c12 => ?_) (fun c12 => ?_)
    · replace h := o_t c12 h
      refine lv_aload_n hx hb dX4_on_22 rfl (lv_at hl 0 rfl) ?_
      refine lv_ldc (v := -1000000001) hx hb hown (hts (.constant RX4 50 (-1000000001)) (by decide +kernel)) dX4_on_23 ?_
      obtain ⟨q25, eq25, h⟩ := o_bd h
      refine kV (As := [.int (-1000000001 : Int32)]) (rest := []) (st' := [.int q25.1]) ⟨hx, hb, hml, hown, hts⟩ (kX4_found l G eq25) (cwV 1 hts gX4_on_X4_found rfl rfl rfl qqX4_found ⟨Nat.le_of_ble_eq_true rfl, Nat.le_of_ble_eq_true rfl⟩) hw (rvOw hw) rfl hl.1 rfl (Nat.le_of_ble_eq_true rfl) dX4_on_25 ⟨Nat.zero_le _, Nat.zero_le _⟩ rfl (fun H locs hw => ?_)
      exact rI hQ hx hb hr hlk hw dX4_on_28 (o_2a h) (o_2b h) rfl
    · replace h := o_f c12 h
      refine lv_iload_n hx hb dX4_on_15 rfl (lv_at hl 2 rfl) ?_
      refine lv_sipush (v := 2000) hx hb dX4_on_16 (by decide) ?_
      refine lv_icmp_le (tgt := 29) hx hb dX4_on_19 (by decide) (fun c19 => ?_) (fun c19 => ?_)
      · replace h := o_t c19 h
        refine lv_aload_n hx hb dX4_on_29 rfl (lv_at hl 0 rfl) ?_
        obtain ⟨q30, eq30, h⟩ := o_bd h
        refine kV (As := []) (rest := []) (st' := [.ref (sA G 2 0)]) ⟨hx, hb, hml, hown, hts⟩ (kX4_tryOut l G eq30) (cwV 0 hts gX4_on_X4_tryOut rfl rfl rfl qqX4_tryOut ⟨Nat.le_of_ble_eq_true rfl, Nat.le_of_ble_eq_true rfl⟩) hw (rvOw hw) rfl hl.1 rfl (Nat.le_of_ble_eq_true rfl) dX4_on_30 ⟨Nat.zero_le _, Nat.zero_le _⟩ rfl (fun H locs hw => ?_)
        refine lv_astore_n (lv' := [(3, .ref (sA G 2 0)), (0, .ref (sA G 0 0)), (1, .int a1), (2, .int a2)]) hx hb dX4_on_33 rfl hl (by decide) rfl (fun ls hl => ?_)
        refine lv_aload_n hx hb dX4_on_34 rfl (lv_at hl 0 rfl) ?_
        refine lv_iload_n hx hb dX4_on_35 rfl (lv_at hl 3 rfl) ?_
        obtain ⟨q36, eq36, h⟩ := o_bd h
        refine kV (As := [.int a2]) (rest := []) (st' := []) ⟨hx, hb, hml, hown, hts⟩ (kX3_goOn l G (Or.inr (Or.inl rfl)) rfl eq36) (cwV 1 hts gX4_on_X3_goOn rfl rfl rfl qqX3_goOn ⟨Nat.le_of_ble_eq_true rfl, Nat.le_of_ble_eq_true rfl⟩) hw (rvTk hw (Or.inr (Or.inl rfl))) rfl hl.1 rfl (Nat.le_of_ble_eq_true rfl) dX4_on_36 ⟨Nat.zero_le _, Nat.zero_le _⟩ rfl (fun H locs hw => ?_)
        obtain ⟨S36, eS36, h⟩ := o_nm h
        rw [← eS36] at hw
        refine lv_aload_n hx hb dX4_on_39 rfl (lv_at hl 0 rfl) ?_
        refine gTk (v := .ref (sA G 2 6)) hx hb hts hiX3 hown hw (Or.inr (Or.inl rfl)) rfl 11 (by decide) (hts (.fieldLink RX4 91 "SecondHome$Track" "yards" "[I") (by decide +kernel)) rfl dX4_on_40 ?_
        refine lv_iload_n hx hb dX4_on_43 rfl (lv_at hl 2 rfl) ?_
        obtain ⟨b44, h⟩ := o_in h
        refine ldTk hx hb hw (Or.inr (Or.inl rfl)) rfl 5 (by decide) b44 dX4_on_44 ?_
        exact rI hQ hx hb hr hlk hw dX4_on_45 (o_2a h) (o_2b h) rfl
      · replace h := o_f c19 h
        refine lv_aload_n hx hb dX4_on_22 rfl (lv_at hl 0 rfl) ?_
        refine lv_ldc (v := -1000000001) hx hb hown (hts (.constant RX4 50 (-1000000001)) (by decide +kernel)) dX4_on_23 ?_
        obtain ⟨q25, eq25, h⟩ := o_bd h
        refine kV (As := [.int (-1000000001 : Int32)]) (rest := []) (st' := [.int q25.1]) ⟨hx, hb, hml, hown, hts⟩ (kX4_found l G eq25) (cwV 1 hts gX4_on_X4_found rfl rfl rfl qqX4_found ⟨Nat.le_of_ble_eq_true rfl, Nat.le_of_ble_eq_true rfl⟩) hw (rvOw hw) rfl hl.1 rfl (Nat.le_of_ble_eq_true rfl) dX4_on_25 ⟨Nat.zero_le _, Nat.zero_le _⟩ rfl (fun H locs hw => ?_)
        exact rI hQ hx hb hr hlk hw dX4_on_28 (o_2a h) (o_2b h) rfl
-- X4_home
set_option maxRecDepth 100000 in
set_option maxHeartbeats 4000000 in
theorem kX4_home (l : Launch) (G : sGl) {S : sWo} {M : sOb} {a1 : Int32} {q : (Int32 × sWo)}  (h : fX4_home S a1 = some q) : sCt l G yX4_home wsX4_home rmX4_home [.ref (sA G 0 0), .int a1] S M (some (.int q.1)) q.2 M := by
  refine cMk (cc := cX4_home) (maxL := 3) (ret := (some .int)) (by decide) rfl (Nat.le_of_ble_eq_true rfl) ?_
  intro p e s m args below meth c Q hQ hx hb hr hlk hml hown hts hw ls hl
  have hown : s.vm.findClass RX4 = some m.cls := hown
  have hl : lv_has ls 3 [(0, .ref (sA G 0 0)), (1, .int a1)] := hl
  have hiX3 : ∀ w ∈ u_ws RX3 TX3 15, w ∈ wsX4_home := by decide +kernel
  have hiX4 : ∀ w ∈ u_ws RX4 TX4 7, w ∈ wsX4_home := by decide +kernel
  unfold fX4_home at h
  refine lv_aload_n hx hb dX4_home_0 rfl (lv_at hl 0 rfl) ?_
  refine gOw (v := .ref (sA G 1 0)) hx hb hts hiX4 hown hw 0 (by decide) (hts (.fieldLink RX4 10 "SecondHome" "track" "LSecondHome$Track;") (by decide +kernel)) rfl dX4_home_1 ?_
  refine lv_iload_n hx hb dX4_home_4 rfl (lv_at hl 1 rfl) ?_
  obtain ⟨q5, eq5, h⟩ := o_bd h
  refine kV (As := [.int a1]) (rest := []) (st' := [.int q5]) ⟨hx, hb, hml, hown, hts⟩ (kX3_has l G (Or.inl rfl) rfl eq5) (cwV 1 hts gX4_home_X3_has rfl rfl rfl qqX3_has ⟨Nat.le_of_ble_eq_true rfl, Nat.le_of_ble_eq_true rfl⟩) hw (rvTk hw (Or.inl rfl)) rfl hl.1 rfl (Nat.le_of_ble_eq_true rfl) dX4_home_5 ⟨Nat.zero_le _, Nat.zero_le _⟩ rfl (fun H locs hw => ?_)
  refine lv_if_ne (tgt := 18) hx hb dX4_home_8 (by decide) (fun c8 => ?_) (fun c8 => ?_)
  · replace h := o_f c8 h
    refine lv_aload_n hx hb dX4_home_18 rfl (lv_at hl 0 rfl) ?_
    obtain ⟨q19, eq19, h⟩ := o_bd h
    refine kV (As := []) (rest := []) (st' := [.ref (sA G 2 0)]) ⟨hx, hb, hml, hown, hts⟩ (kX4_tryOut l G eq19) (cwV 0 hts gX4_home_X4_tryOut rfl rfl rfl qqX4_tryOut ⟨Nat.le_of_ble_eq_true rfl, Nat.le_of_ble_eq_true rfl⟩) hw (rvOw hw) rfl hl.1 rfl (Nat.le_of_ble_eq_true rfl) dX4_home_19 ⟨Nat.zero_le _, Nat.zero_le _⟩ rfl (fun H locs hw => ?_)
    refine lv_astore_n (lv' := [(2, .ref (sA G 2 0)), (0, .ref (sA G 0 0)), (1, .int a1)]) hx hb dX4_home_22 rfl hl (by decide) rfl (fun ls hl => ?_)
    refine lv_aload_n hx hb dX4_home_23 rfl (lv_at hl 0 rfl) ?_
    refine lv_sipush (v := 2000) hx hb dX4_home_24 (by decide) ?_
    obtain ⟨q27, eq27, h⟩ := o_bd h
    refine kV (As := [.int (2000 : Int32)]) (rest := []) (st' := []) ⟨hx, hb, hml, hown, hts⟩ (kX3_goOn l G (Or.inr (Or.inl rfl)) rfl eq27) (cwV 1 hts gX4_home_X3_goOn rfl rfl rfl qqX3_goOn ⟨Nat.le_of_ble_eq_true rfl, Nat.le_of_ble_eq_true rfl⟩) hw (rvTk hw (Or.inr (Or.inl rfl))) rfl hl.1 rfl (Nat.le_of_ble_eq_true rfl) dX4_home_27 ⟨Nat.zero_le _, Nat.zero_le _⟩ rfl (fun H locs hw => ?_)
    obtain ⟨S27, eS27, h⟩ := o_nm h
    rw [← eS27] at hw
    refine lv_aload_n hx hb dX4_home_30 rfl (lv_at hl 0 rfl) ?_
    refine lv_iload_n hx hb dX4_home_31 rfl (lv_at hl 2 rfl) ?_
    obtain ⟨q32, eq32, h⟩ := o_bd h
    refine kV (As := [.int a1]) (rest := []) (st' := [.int q32]) ⟨hx, hb, hml, hown, hts⟩ (kX3_isHome l G (Or.inr (Or.inl rfl)) rfl eq32) (cwV 1 hts gX4_home_X3_isHome rfl rfl rfl qqX3_isHome ⟨Nat.le_of_ble_eq_true rfl, Nat.le_of_ble_eq_true rfl⟩) hw (rvTk hw (Or.inr (Or.inl rfl))) rfl hl.1 rfl (Nat.le_of_ble_eq_true rfl) dX4_home_32 ⟨Nat.zero_le _, Nat.zero_le _⟩ rfl (fun H locs hw => ?_)
    refine lv_if_eq (tgt := 47) hx hb dX4_home_35 (by decide) (fun c35 => ?_) (fun c35 => ?_)
    · replace h := o_t c35 h
      refine lv_aload_n hx hb dX4_home_47 rfl (lv_at hl 1 rfl) ?_
      refine lv_ldc (v := -1000000004) hx hb hown (hts (.constant RX4 178 (-1000000004)) (by decide +kernel)) dX4_home_48 ?_
      obtain ⟨q50, eq50, h⟩ := o_bd h
      refine kV (As := [.int (-1000000004 : Int32)]) (rest := []) (st' := [.int q50.1]) ⟨hx, hb, hml, hown, hts⟩ (kX4_found l G eq50) (cwV 1 hts gX4_home_X4_found rfl rfl rfl qqX4_found ⟨Nat.le_of_ble_eq_true rfl, Nat.le_of_ble_eq_true rfl⟩) hw (rvOw hw) rfl hl.1 rfl (Nat.le_of_ble_eq_true rfl) dX4_home_50 ⟨Nat.zero_le _, Nat.zero_le _⟩ rfl (fun H locs hw => ?_)
      exact rI hQ hx hb hr hlk hw dX4_home_53 (o_2a h) (o_2b h) rfl
    · replace h := o_f c35 h
      refine lv_aload_n hx hb dX4_home_38 rfl (lv_at hl 0 rfl) ?_
      refine gTk (v := .ref (sA G 2 8)) hx hb hts hiX3 hown hw (Or.inr (Or.inl rfl)) rfl 13 (by decide) (hts (.fieldLink RX4 97 "SecondHome$Track" "homes" "[I") (by decide +kernel)) rfl dX4_home_39 ?_
      refine lv_iload_n hx hb dX4_home_42 rfl (lv_at hl 2 rfl) ?_
      obtain ⟨b43, h⟩ := o_in h
      refine ldTk hx hb hw (Or.inr (Or.inl rfl)) rfl 7 (by decide) b43 dX4_home_43 ?_
      refine lv_goto (tgt := 53) hx hb dX4_home_44 (by decide) ?_
      exact rI hQ hx hb hr hlk hw dX4_home_53 (o_2a h) (o_2b h) rfl
  · replace h := o_t c8 h
    refine lv_aload_n hx hb dX4_home_11 rfl (lv_at hl 0 rfl) ?_
    refine lv_ldc (v := -1000000001) hx hb hown (hts (.constant RX4 50 (-1000000001)) (by decide +kernel)) dX4_home_12 ?_
    obtain ⟨q14, eq14, h⟩ := o_bd h
    refine kV (As := [.int (-1000000001 : Int32)]) (rest := []) (st' := [.int q14.1]) ⟨hx, hb, hml, hown, hts⟩ (kX4_found l G eq14) (cwV 1 hts gX4_home_X4_found rfl rfl rfl qqX4_found ⟨Nat.le_of_ble_eq_true rfl, Nat.le_of_ble_eq_true rfl⟩) hw (rvOw hw) rfl hl.1 rfl (Nat.le_of_ble_eq_true rfl) dX4_home_14 ⟨Nat.zero_le _, Nat.zero_le _⟩ rfl (fun H locs hw => ?_)
    exact rI hQ hx hb hr hlk hw dX4_home_17 (o_2a h) (o_2b h) rfl
-- X4_prizeBy
set_option maxRecDepth 100000 in
set_option maxHeartbeats 4000000 in
theorem kX4_prizeBy (l : Launch) (G : sGl) {S : sWo} {M : sOb} {a1 : Int32} {q : (Int32 × sWo)}  (h : fX4_prizeBy S a1 = some q) : sCt l G yX4_prizeBy wsX4_prizeBy rmX4_prizeBy [.ref (sA G 0 0), .int a1] S M (some (.int q.1)) q.2 M := by
  refine cMk (cc := cX4_prizeBy) (maxL := 3) (ret := (some .int)) (by decide) rfl (Nat.le_of_ble_eq_true rfl) ?_
  intro p e s m args below meth c Q hQ hx hb hr hlk hml hown hts hw ls hl
  have hown : s.vm.findClass RX4 = some m.cls := hown
  have hl : lv_has ls 3 [(0, .ref (sA G 0 0)), (1, .int a1)] := hl
  unfold fX4_prizeBy at h
  refine lv_iload_n hx hb dX4_prizeBy_0 rfl (lv_at hl 1 rfl) ?_
  obtain ⟨q1, eq1, h⟩ := o_bd h
  refine kS (As := [.int a1]) (rest := []) (st' := [.int q1]) ⟨hx, hb, hml, hown, hts⟩ (kX4_isLaw l G eq1) (va_cwS 1 hts gX4_prizeBy_X4_isLaw rfl rfl rfl qqX4_isLaw ⟨Nat.le_of_ble_eq_true rfl, Nat.le_of_ble_eq_true rfl⟩) hw rfl hl.1 rfl (Nat.le_of_ble_eq_true rfl) dX4_prizeBy_1 ⟨Nat.zero_le _, Nat.zero_le _⟩ rfl (fun H locs hw => ?_)
  refine lv_if_ne (tgt := 14) hx hb dX4_prizeBy_4 (by decide) (fun c4 => ?_) (fun c4 => ?_)
  · replace h := o_f c4 h
    refine lv_aload_n hx hb dX4_prizeBy_14 rfl (lv_at hl 0 rfl) ?_
    obtain ⟨q15, eq15, h⟩ := o_bd h
    refine kV (As := []) (rest := []) (st' := [.ref (sA G 2 0)]) ⟨hx, hb, hml, hown, hts⟩ (kX4_tryOut l G eq15) (cwV 0 hts gX4_prizeBy_X4_tryOut rfl rfl rfl qqX4_tryOut ⟨Nat.le_of_ble_eq_true rfl, Nat.le_of_ble_eq_true rfl⟩) hw (rvOw hw) rfl hl.1 rfl (Nat.le_of_ble_eq_true rfl) dX4_prizeBy_15 ⟨Nat.zero_le _, Nat.zero_le _⟩ rfl (fun H locs hw => ?_)
    refine lv_astore_n (lv' := [(2, .ref (sA G 2 0)), (0, .ref (sA G 0 0)), (1, .int a1)]) hx hb dX4_prizeBy_18 rfl hl (by decide) rfl (fun ls hl => ?_)
    refine lv_aload_n hx hb dX4_prizeBy_19 rfl (lv_at hl 0 rfl) ?_
    refine lv_sipush (v := 2000) hx hb dX4_prizeBy_20 (by decide) ?_
    obtain ⟨q23, eq23, h⟩ := o_bd h
    refine kV (As := [.int (2000 : Int32)]) (rest := []) (st' := []) ⟨hx, hb, hml, hown, hts⟩ (kX3_goOn l G (Or.inr (Or.inl rfl)) rfl eq23) (cwV 1 hts gX4_prizeBy_X3_goOn rfl rfl rfl qqX3_goOn ⟨Nat.le_of_ble_eq_true rfl, Nat.le_of_ble_eq_true rfl⟩) hw (rvTk hw (Or.inr (Or.inl rfl))) rfl hl.1 rfl (Nat.le_of_ble_eq_true rfl) dX4_prizeBy_23 ⟨Nat.zero_le _, Nat.zero_le _⟩ rfl (fun H locs hw => ?_)
    obtain ⟨S23, eS23, h⟩ := o_nm h
    rw [← eS23] at hw
    refine lv_aload_n hx hb dX4_prizeBy_26 rfl (lv_at hl 1 rfl) ?_
    refine lv_aload_n hx hb dX4_prizeBy_27 rfl (lv_at hl 0 rfl) ?_
    obtain ⟨q28, eq28, h⟩ := o_bd h
    refine kV (As := []) (rest := [.ref (sA G 0 0)]) (st' := [.int q28, .ref (sA G 0 0)]) ⟨hx, hb, hml, hown, hts⟩ (kX3_allHome l G (Or.inr (Or.inl rfl)) rfl eq28) (cwV 0 hts gX4_prizeBy_X3_allHome rfl rfl rfl qqX3_allHome ⟨Nat.le_of_ble_eq_true rfl, Nat.le_of_ble_eq_true rfl⟩) hw (rvTk hw (Or.inr (Or.inl rfl))) rfl hl.1 rfl (Nat.le_of_ble_eq_true rfl) dX4_prizeBy_28 ⟨Nat.zero_le _, Nat.zero_le _⟩ rfl (fun H locs hw => ?_)
    refine lv_if_eq (tgt := 42) hx hb dX4_prizeBy_31 (by decide) (fun c31 => ?_) (fun c31 => ?_)
    · replace h := o_t c31 h
      refine lv_iconst (v := -1) hx hb dX4_prizeBy_42 (by decide) ?_
      obtain ⟨q43, eq43, h⟩ := o_bd h
      refine kV (As := [.int (-1 : Int32)]) (rest := []) (st' := [.int q43.1]) ⟨hx, hb, hml, hown, hts⟩ (kX4_runnerOrNone l G eq43) (cwV 1 hts gX4_prizeBy_X4_runnerOrNone rfl rfl rfl qqX4_runnerOrNone ⟨Nat.le_of_ble_eq_true rfl, Nat.le_of_ble_eq_true rfl⟩) hw (rvOw hw) rfl hl.1 rfl (Nat.le_of_ble_eq_true rfl) dX4_prizeBy_43 ⟨Nat.zero_le _, Nat.zero_le _⟩ rfl (fun H locs hw => ?_)
      exact rI hQ hx hb hr hlk hw dX4_prizeBy_46 (o_2a h) (o_2b h) rfl
    · replace h := o_f c31 h
      refine lv_aload_n hx hb dX4_prizeBy_34 rfl (lv_at hl 0 rfl) ?_
      refine lv_iload_n hx hb dX4_prizeBy_35 rfl (lv_at hl 2 rfl) ?_
      obtain ⟨q36, eq36, h⟩ := o_bd h
      refine kV (As := [.int a1]) (rest := [.ref (sA G 0 0)]) (st' := [.int q36, .ref (sA G 0 0)]) ⟨hx, hb, hml, hown, hts⟩ (kX3_prizeOwner l G (Or.inr (Or.inl rfl)) rfl eq36) (cwV 1 hts gX4_prizeBy_X3_prizeOwner rfl rfl rfl qqX3_prizeOwner ⟨Nat.le_of_ble_eq_true rfl, Nat.le_of_ble_eq_true rfl⟩) hw (rvTk hw (Or.inr (Or.inl rfl))) rfl hl.1 rfl (Nat.le_of_ble_eq_true rfl) dX4_prizeBy_36 ⟨Nat.zero_le _, Nat.zero_le _⟩ rfl (fun H locs hw => ?_)
      refine lv_goto (tgt := 43) hx hb dX4_prizeBy_39 (by decide) ?_
      obtain ⟨q43, eq43, h⟩ := o_bd h
      refine kV (As := [.int q36]) (rest := []) (st' := [.int q43.1]) ⟨hx, hb, hml, hown, hts⟩ (kX4_runnerOrNone l G eq43) (cwV 1 hts gX4_prizeBy_X4_runnerOrNone rfl rfl rfl qqX4_runnerOrNone ⟨Nat.le_of_ble_eq_true rfl, Nat.le_of_ble_eq_true rfl⟩) hw (rvOw hw) rfl hl.1 rfl (Nat.le_of_ble_eq_true rfl) dX4_prizeBy_43 ⟨Nat.zero_le _, Nat.zero_le _⟩ rfl (fun H locs hw => ?_)
      exact rI hQ hx hb hr hlk hw dX4_prizeBy_46 (o_2a h) (o_2b h) rfl
  · replace h := o_t c4 h
    refine lv_aload_n hx hb dX4_prizeBy_7 rfl (lv_at hl 0 rfl) ?_
    refine lv_ldc (v := -1000000001) hx hb hown (hts (.constant RX4 50 (-1000000001)) (by decide +kernel)) dX4_prizeBy_8 ?_
    obtain ⟨q10, eq10, h⟩ := o_bd h
    refine kV (As := [.int (-1000000001 : Int32)]) (rest := []) (st' := [.int q10.1]) ⟨hx, hb, hml, hown, hts⟩ (kX4_found l G eq10) (cwV 1 hts gX4_prizeBy_X4_found rfl rfl rfl qqX4_found ⟨Nat.le_of_ble_eq_true rfl, Nat.le_of_ble_eq_true rfl⟩) hw (rvOw hw) rfl hl.1 rfl (Nat.le_of_ble_eq_true rfl) dX4_prizeBy_10 ⟨Nat.zero_le _, Nat.zero_le _⟩ rfl (fun H locs hw => ?_)
    exact rI hQ hx hb hr hlk hw dX4_prizeBy_13 (o_2a h) (o_2b h) rfl
-- X4_leaders
set_option maxRecDepth 100000 in
set_option maxHeartbeats 4000000 in
theorem kX4_leaders (l : Launch) (G : sGl) {S : sWo} {M : sOb}  {q : (Int32 × sWo)}  (h : fX4_leaders S = some q) : sCt l G yX4_leaders wsX4_leaders rmX4_leaders [.ref (sA G 0 0)] S M (some (.int q.1)) q.2 M := by
  refine cMk (cc := cX4_leaders) (maxL := 6) (ret := (some .int)) (by decide) rfl (Nat.le_of_ble_eq_true rfl) ?_
  intro p e s m args below meth c Q hQ hx hb hr hlk hml hown hts hw ls hl
  have hown : s.vm.findClass RX4 = some m.cls := hown
  have hl : lv_has ls 6 [(0, .ref (sA G 0 0))] := hl
  unfold fX4_leaders at h
  refine lv_aload_n hx hb dX4_leaders_0 rfl (lv_at hl 0 rfl) ?_
  obtain ⟨q1, eq1, h⟩ := o_bd h
  refine kV (As := []) (rest := []) (st' := [.ref (sA G 2 0)]) ⟨hx, hb, hml, hown, hts⟩ (kX4_tryOut l G eq1) (cwV 0 hts gX4_leaders_X4_tryOut rfl rfl rfl qqX4_tryOut ⟨Nat.le_of_ble_eq_true rfl, Nat.le_of_ble_eq_true rfl⟩) hw (rvOw hw) rfl hl.1 rfl (Nat.le_of_ble_eq_true rfl) dX4_leaders_1 ⟨Nat.zero_le _, Nat.zero_le _⟩ rfl (fun H locs hw => ?_)
  refine lv_astore_n (lv' := [(1, .ref (sA G 2 0)), (0, .ref (sA G 0 0))]) hx hb dX4_leaders_4 rfl hl (by decide) rfl (fun ls hl => ?_)
  refine lv_iconst (v := -1) hx hb dX4_leaders_5 (by decide) ?_
  refine lv_istore_n (lv' := [(2, .int (-1 : Int32)), (1, .ref (sA G 2 0)), (0, .ref (sA G 0 0))]) hx hb dX4_leaders_6 rfl hl (by decide) rfl (fun ls hl => ?_)
  refine lv_iconst (v := 0) hx hb dX4_leaders_7 (by decide) ?_
  refine lv_istore_n (lv' := [(3, .int (0 : Int32)), (2, .int (-1 : Int32)), (1, .ref (sA G 2 0)), (0, .ref (sA G 0 0))]) hx hb dX4_leaders_8 rfl hl (by decide) rfl (fun ls hl => ?_)
  refine lv_iconst (v := 0) hx hb dX4_leaders_9 (by decide) ?_
  refine lv_istore (lv' := [(4, .int (0 : Int32)), (3, .int (0 : Int32)), (2, .int (-1 : Int32)), (1, .ref (sA G 2 0)), (0, .ref (sA G 0 0))]) hx hb dX4_leaders_10 hl (by decide) rfl (fun ls hl => ?_)
  refine fx4_w (F := bX4_leaders_12) (P := fun x2_12 x3_12 x4_12 S_12 => ∀ (H : Heap) (locs : List Loc) (ls : Array Slot), sHw G s S_12 M H locs → lv_has ls 6 [(1, .ref (sA G 2 0)), (2, .int x2_12), (3, .int x3_12), (4, .int x4_12)] → W p l e rmX4_leaders s m args below meth c H locs 0 0 Q (F0 m 12 ls [])) ?_ _ _ _ _ _ h _ _ _ hw (lv_sub hl [3, 2, 1, 0] rfl)
  intro rc12 IH12 x2_12 x3_12 x4_12 S_12 h H locs ls hw hl
  unfold bX4_leaders_12 at h
  refine lv_iload hx hb dX4_leaders_12 (lv_at hl 3 rfl) ?_
  refine lv_sipush (v := 2000) hx hb dX4_leaders_14 (by decide) ?_
  refine lv_icmp_gt (tgt := 61) hx hb dX4_leaders_17 (by decide) (fun c17 => ?_) (fun c17 => ?_)
  · replace h := o_t c17 h
    refine lv_iload_n hx hb dX4_leaders_61 rfl (lv_at hl 2 rfl) ?_
    exact rI hQ hx hb hr hlk hw dX4_leaders_62 (o_2a h) (o_2b h) rfl
  · replace h := o_f c17 h
    refine lv_aload_n hx hb dX4_leaders_20 rfl (lv_at hl 0 rfl) ?_
    obtain ⟨q21, eq21, h⟩ := o_bd h
    refine kV (As := []) (rest := []) (st' := [.int q21]) ⟨hx, hb, hml, hown, hts⟩ (kX3_allHome l G (Or.inr (Or.inl rfl)) rfl eq21) (cwV 0 hts gX4_leaders_X3_allHome rfl rfl rfl qqX3_allHome ⟨Nat.le_of_ble_eq_true rfl, Nat.le_of_ble_eq_true rfl⟩) hw (rvTk hw (Or.inr (Or.inl rfl))) rfl hl.1 rfl (Nat.le_of_ble_eq_true rfl) dX4_leaders_21 ⟨Nat.zero_le _, Nat.zero_le _⟩ rfl (fun H locs hw => ?_)
    refine lv_if_ne (tgt := 61) hx hb dX4_leaders_24 (by decide) (fun c24 => ?_) (fun c24 => ?_)
    · replace h := o_f c24 h
      refine lv_iload_n hx hb dX4_leaders_61 rfl (lv_at hl 2 rfl) ?_
      exact rI hQ hx hb hr hlk hw dX4_leaders_62 (o_2a h) (o_2b h) rfl
    · replace h := o_t c24 h
      refine lv_aload_n hx hb dX4_leaders_27 rfl (lv_at hl 0 rfl) ?_
      obtain ⟨q28, eq28, h⟩ := o_bd h
      refine kV (As := []) (rest := []) (st' := [.int q28]) ⟨hx, hb, hml, hown, hts⟩ (kX3_firstAlone l G (Or.inr (Or.inl rfl)) rfl eq28) (cwV 0 hts gX4_leaders_X3_firstAlone rfl rfl rfl qqX3_firstAlone ⟨Nat.le_of_ble_eq_true rfl, Nat.le_of_ble_eq_true rfl⟩) hw (rvTk hw (Or.inr (Or.inl rfl))) rfl hl.1 rfl (Nat.le_of_ble_eq_true rfl) dX4_leaders_28 ⟨Nat.zero_le _, Nat.zero_le _⟩ rfl (fun H locs hw => ?_)
      refine lv_istore (lv' := [(5, .int q28), (1, .ref (sA G 2 0)), (2, .int x2_12), (3, .int x3_12), (4, .int x4_12)]) hx hb dX4_leaders_31 hl (by decide) rfl (fun ls hl => ?_)
      refine lv_iload hx hb dX4_leaders_33 (lv_at hl 0 rfl) ?_
      refine lv_iconst (v := -1) hx hb dX4_leaders_35 (by decide) ?_
      refine lv_icmp_eq (tgt := 51) hx hb dX4_leaders_36 (by decide) (fun c36 => ?_) (fun c36 => ?_)
      · replace h := o_t c36 h
        refine lv_aload_n hx hb dX4_leaders_51 rfl (lv_at hl 1 rfl) ?_
        obtain ⟨q52, eq52, h⟩ := o_bd h
        refine kV (As := []) (rest := []) (st' := []) ⟨hx, hb, hml, hown, hts⟩ (kX3_goSecond l G (Or.inr (Or.inl rfl)) rfl eq52) (cwV 0 hts gX4_leaders_X3_goSecond rfl rfl rfl qqX3_goSecond ⟨Nat.le_of_ble_eq_true rfl, Nat.le_of_ble_eq_true rfl⟩) hw (rvTk hw (Or.inr (Or.inl rfl))) rfl hl.1 rfl (Nat.le_of_ble_eq_true rfl) dX4_leaders_52 ⟨Nat.zero_le _, Nat.zero_le _⟩ rfl (fun H locs hw => ?_)
        obtain ⟨S52, eS52, h⟩ := o_nm h
        rw [← eS52] at hw
        obtain ⟨v55, ev55, h⟩ := o_nm h
        refine lv_iinc (v := v55) (lv' := [(4, .int v55), (5, .int q28), (1, .ref (sA G 2 0)), (2, .int x2_12), (3, .int x3_12)]) hx hb dX4_leaders_55 hl (k := 4) rfl (by rw [ev55]; rfl) (by decide) rfl (fun ls hl => ?_)
        refine lv_goto (tgt := 12) hx hb dX4_leaders_58 (by decide) ?_
        exact IH12 x2_12 x3_12 v55 S52 h _ _ _ hw (lv_sub hl [2, 3, 4, 0] rfl)
      · replace h := o_f c36 h
        refine lv_iload hx hb dX4_leaders_39 (lv_at hl 0 rfl) ?_
        refine lv_iload_n hx hb dX4_leaders_41 rfl (lv_at hl 2 rfl) ?_
        refine lv_icmp_eq (tgt := 51) hx hb dX4_leaders_42 (by decide) (fun c42 => ?_) (fun c42 => ?_)
        · replace h := o_t c42 h
          refine lv_aload_n hx hb dX4_leaders_51 rfl (lv_at hl 1 rfl) ?_
          obtain ⟨q52, eq52, h⟩ := o_bd h
          refine kV (As := []) (rest := []) (st' := []) ⟨hx, hb, hml, hown, hts⟩ (kX3_goSecond l G (Or.inr (Or.inl rfl)) rfl eq52) (cwV 0 hts gX4_leaders_X3_goSecond rfl rfl rfl qqX3_goSecond ⟨Nat.le_of_ble_eq_true rfl, Nat.le_of_ble_eq_true rfl⟩) hw (rvTk hw (Or.inr (Or.inl rfl))) rfl hl.1 rfl (Nat.le_of_ble_eq_true rfl) dX4_leaders_52 ⟨Nat.zero_le _, Nat.zero_le _⟩ rfl (fun H locs hw => ?_)
          obtain ⟨S52, eS52, h⟩ := o_nm h
          rw [← eS52] at hw
          obtain ⟨v55, ev55, h⟩ := o_nm h
          refine lv_iinc (v := v55) (lv' := [(4, .int v55), (5, .int q28), (1, .ref (sA G 2 0)), (2, .int x2_12), (3, .int x3_12)]) hx hb dX4_leaders_55 hl (k := 4) rfl (by rw [ev55]; rfl) (by decide) rfl (fun ls hl => ?_)
          refine lv_goto (tgt := 12) hx hb dX4_leaders_58 (by decide) ?_
          exact IH12 x2_12 x3_12 v55 S52 h _ _ _ hw (lv_sub hl [2, 3, 4, 0] rfl)
        · replace h := o_f c42 h
          refine lv_iload hx hb dX4_leaders_45 (lv_at hl 0 rfl) ?_
          refine lv_istore_n (lv' := [(2, .int q28), (5, .int q28), (1, .ref (sA G 2 0)), (3, .int x3_12), (4, .int x4_12)]) hx hb dX4_leaders_47 rfl hl (by decide) rfl (fun ls hl => ?_)
          obtain ⟨v48, ev48, h⟩ := o_nm h
          refine lv_iinc (v := v48) (lv' := [(3, .int v48), (2, .int q28), (5, .int q28), (1, .ref (sA G 2 0)), (4, .int x4_12)]) hx hb dX4_leaders_48 hl (k := 3) rfl (by rw [ev48]; rfl) (by decide) rfl (fun ls hl => ?_)
          refine lv_aload_n hx hb dX4_leaders_51 rfl (lv_at hl 3 rfl) ?_
          obtain ⟨q52, eq52, h⟩ := o_bd h
          refine kV (As := []) (rest := []) (st' := []) ⟨hx, hb, hml, hown, hts⟩ (kX3_goSecond l G (Or.inr (Or.inl rfl)) rfl eq52) (cwV 0 hts gX4_leaders_X3_goSecond rfl rfl rfl qqX3_goSecond ⟨Nat.le_of_ble_eq_true rfl, Nat.le_of_ble_eq_true rfl⟩) hw (rvTk hw (Or.inr (Or.inl rfl))) rfl hl.1 rfl (Nat.le_of_ble_eq_true rfl) dX4_leaders_52 ⟨Nat.zero_le _, Nat.zero_le _⟩ rfl (fun H locs hw => ?_)
          obtain ⟨S52, eS52, h⟩ := o_nm h
          rw [← eS52] at hw
          obtain ⟨v55, ev55, h⟩ := o_nm h
          refine lv_iinc (v := v55) (lv' := [(4, .int v55), (3, .int v48), (2, .int q28), (5, .int q28), (1, .ref (sA G 2 0))]) hx hb dX4_leaders_55 hl (k := 4) rfl (by rw [ev55]; rfl) (by decide) rfl (fun ls hl => ?_)
          refine lv_goto (tgt := 12) hx hb dX4_leaders_58 (by decide) ?_
          exact IH12 q28 v48 v55 S52 h _ _ _ hw (lv_sub hl [4, 2, 1, 0] rfl)
-- X4_passes
set_option maxRecDepth 100000 in
set_option maxHeartbeats 4000000 in
theorem kX4_passes (l : Launch) (G : sGl) {S : sWo} {M : sOb} {a1 : Int32} {a2 : Int32} {q : (Int32 × sWo)}  (h : fX4_passes S a1 a2 = some q) : sCt l G yX4_passes wsX4_passes rmX4_passes [.ref (sA G 0 0), .int a1, .int a2] S M (some (.int q.1)) q.2 M := by
  refine cMk (cc := cX4_passes) (maxL := 5) (ret := (some .int)) (by decide) rfl (Nat.le_of_ble_eq_true rfl) ?_
  intro p e s m args below meth c Q hQ hx hb hr hlk hml hown hts hw ls hl
  have hown : s.vm.findClass RX4 = some m.cls := hown
  have hl : lv_has ls 5 [(0, .ref (sA G 0 0)), (1, .int a1), (2, .int a2)] := hl
  have hiX3 : ∀ w ∈ u_ws RX3 TX3 15, w ∈ wsX4_passes := by decide +kernel
  have hiX4 : ∀ w ∈ u_ws RX4 TX4 7, w ∈ wsX4_passes := by decide +kernel
  unfold fX4_passes at h
  refine lv_aload_n hx hb dX4_passes_0 rfl (lv_at hl 0 rfl) ?_
  refine gOw (v := .ref (sA G 1 0)) hx hb hts hiX4 hown hw 0 (by decide) (hts (.fieldLink RX4 10 "SecondHome" "track" "LSecondHome$Track;") (by decide +kernel)) rfl dX4_passes_1 ?_
  refine lv_iload_n hx hb dX4_passes_4 rfl (lv_at hl 1 rfl) ?_
  obtain ⟨q5, eq5, h⟩ := o_bd h
  refine kV (As := [.int a1]) (rest := []) (st' := [.int q5]) ⟨hx, hb, hml, hown, hts⟩ (kX3_has l G (Or.inl rfl) rfl eq5) (cwV 1 hts gX4_passes_X3_has rfl rfl rfl qqX3_has ⟨Nat.le_of_ble_eq_true rfl, Nat.le_of_ble_eq_true rfl⟩) hw (rvTk hw (Or.inl rfl)) rfl hl.1 rfl (Nat.le_of_ble_eq_true rfl) dX4_passes_5 ⟨Nat.zero_le _, Nat.zero_le _⟩ rfl (fun H locs hw => ?_)
  refine lv_if_eq (tgt := 27) hx hb dX4_passes_8 (by decide) (fun c8 => ?_) (fun c8 => ?_)
  · replace h := o_t c8 h
    refine lv_aload_n hx hb dX4_passes_27 rfl (lv_at hl 0 rfl) ?_
    refine lv_ldc (v := -1000000001) hx hb hown (hts (.constant RX4 50 (-1000000001)) (by decide +kernel)) dX4_passes_28 ?_
    obtain ⟨q30, eq30, h⟩ := o_bd h
    refine kV (As := [.int (-1000000001 : Int32)]) (rest := []) (st' := [.int q30.1]) ⟨hx, hb, hml, hown, hts⟩ (kX4_found l G eq30) (cwV 1 hts gX4_passes_X4_found rfl rfl rfl qqX4_found ⟨Nat.le_of_ble_eq_true rfl, Nat.le_of_ble_eq_true rfl⟩) hw (rvOw hw) rfl hl.1 rfl (Nat.le_of_ble_eq_true rfl) dX4_passes_30 ⟨Nat.zero_le _, Nat.zero_le _⟩ rfl (fun H locs hw => ?_)
    exact rI hQ hx hb hr hlk hw dX4_passes_33 (o_2a h) (o_2b h) rfl
  · replace h := o_f c8 h
    refine lv_aload_n hx hb dX4_passes_11 rfl (lv_at hl 0 rfl) ?_
    refine gOw (v := .ref (sA G 1 0)) hx hb hts hiX4 hown hw 0 (by decide) (hts (.fieldLink RX4 10 "SecondHome" "track" "LSecondHome$Track;") (by decide +kernel)) rfl dX4_passes_12 ?_
    refine lv_iload_n hx hb dX4_passes_15 rfl (lv_at hl 2 rfl) ?_
    obtain ⟨q16, eq16, h⟩ := o_bd h
    refine kV (As := [.int a2]) (rest := []) (st' := [.int q16]) ⟨hx, hb, hml, hown, hts⟩ (kX3_has l G (Or.inl rfl) rfl eq16) (cwV 1 hts gX4_passes_X3_has rfl rfl rfl qqX3_has ⟨Nat.le_of_ble_eq_true rfl, Nat.le_of_ble_eq_true rfl⟩) hw (rvTk hw (Or.inl rfl)) rfl hl.1 rfl (Nat.le_of_ble_eq_true rfl) dX4_passes_16 ⟨Nat.zero_le _, Nat.zero_le _⟩ rfl (fun H locs hw => ?_)
    refine lv_if_eq (tgt := 27) hx hb dX4_passes_19 (by decide) (fun c19 => ?_) (fun c19 => ?_)
    · replace h := o_t c19 h
      refine lv_aload_n hx hb dX4_passes_27 rfl (lv_at hl 0 rfl) ?_
      refine lv_ldc (v := -1000000001) hx hb hown (hts (.constant RX4 50 (-1000000001)) (by decide +kernel)) dX4_passes_28 ?_
      obtain ⟨q30, eq30, h⟩ := o_bd h
      refine kV (As := [.int (-1000000001 : Int32)]) (rest := []) (st' := [.int q30.1]) ⟨hx, hb, hml, hown, hts⟩ (kX4_found l G eq30) (cwV 1 hts gX4_passes_X4_found rfl rfl rfl qqX4_found ⟨Nat.le_of_ble_eq_true rfl, Nat.le_of_ble_eq_true rfl⟩) hw (rvOw hw) rfl hl.1 rfl (Nat.le_of_ble_eq_true rfl) dX4_passes_30 ⟨Nat.zero_le _, Nat.zero_le _⟩ rfl (fun H locs hw => ?_)
      exact rI hQ hx hb hr hlk hw dX4_passes_33 (o_2a h) (o_2b h) rfl
    · replace h := o_f c19 h
      refine lv_iload_n hx hb dX4_passes_22 rfl (lv_at hl 1 rfl) ?_
      refine lv_iload_n hx hb dX4_passes_23 rfl (lv_at hl 2 rfl) ?_
      refine lv_icmp_ne (tgt := 34) hx hb dX4_passes_24 (by decide) (fun c24 => ?_) (fun c24 => ?_)
      · replace h := o_f c24 h
        refine lv_aload_n hx hb dX4_passes_34 rfl (lv_at hl 0 rfl) ?_
        obtain ⟨q35, eq35, h⟩ := o_bd h
        refine kV (As := []) (rest := []) (st' := [.ref (sA G 2 0)]) ⟨hx, hb, hml, hown, hts⟩ (kX4_tryOut l G eq35) (cwV 0 hts gX4_passes_X4_tryOut rfl rfl rfl qqX4_tryOut ⟨Nat.le_of_ble_eq_true rfl, Nat.le_of_ble_eq_true rfl⟩) hw (rvOw hw) rfl hl.1 rfl (Nat.le_of_ble_eq_true rfl) dX4_passes_35 ⟨Nat.zero_le _, Nat.zero_le _⟩ rfl (fun H locs hw => ?_)
        refine lv_astore_n (lv' := [(3, .ref (sA G 2 0)), (0, .ref (sA G 0 0)), (1, .int a1), (2, .int a2)]) hx hb dX4_passes_38 rfl hl (by decide) rfl (fun ls hl => ?_)
        refine lv_iconst (v := 0) hx hb dX4_passes_39 (by decide) ?_
        refine lv_istore (lv' := [(4, .int (0 : Int32)), (3, .ref (sA G 2 0)), (0, .ref (sA G 0 0)), (1, .int a1), (2, .int a2)]) hx hb dX4_passes_40 hl (by decide) rfl (fun ls hl => ?_)
        obtain ⟨k75, ek75, h⟩ := o_nm h
        have J75 : ∀ (S_75 : sWo) (H : Heap) (locs : List Loc) (ls : Array Slot), sHw G s S_75 M H locs → lv_has ls 5 [(0, .ref (sA G 0 0))] → k75 S_75 = some q → W p l e rmX4_passes s m args below meth c H locs 0 0 Q (F0 m 75 ls []) := by
          intro S_75 H locs ls hw hl h
          replace h := o_j1 ek75 h
          refine lv_goto (tgt := 88) hx hb dX4_passes_75 (by decide) ?_
          refine lv_aload_n hx hb dX4_passes_88 rfl (lv_at hl 0 rfl) ?_
          refine lv_ldc (v := -1000000004) hx hb hown (hts (.constant RX4 178 (-1000000004)) (by decide +kernel)) dX4_passes_89 ?_
          obtain ⟨q91, eq91, h⟩ := o_bd h
          refine kV (As := [.int (-1000000004 : Int32)]) (rest := []) (st' := [.int q91.1]) ⟨hx, hb, hml, hown, hts⟩ (kX4_found l G eq91) (cwV 1 hts gX4_passes_X4_found rfl rfl rfl qqX4_found ⟨Nat.le_of_ble_eq_true rfl, Nat.le_of_ble_eq_true rfl⟩) hw (rvOw hw) rfl hl.1 rfl (Nat.le_of_ble_eq_true rfl) dX4_passes_91 ⟨Nat.zero_le _, Nat.zero_le _⟩ rfl (fun H locs hw => ?_)
          exact rI hQ hx hb hr hlk hw dX4_passes_94 (o_2a h) (o_2b h) rfl
        refine fx2_w (F := (bX4_passes_42 a1 a2 k75)) (P := fun x4_42 S_42 => ∀ (H : Heap) (locs : List Loc) (ls : Array Slot), sHw G s S_42 M H locs → lv_has ls 5 [(0, .ref (sA G 0 0)), (1, .int a1), (2, .int a2), (3, .ref (sA G 2 0)), (4, .int x4_42)] → W p l e rmX4_passes s m args below meth c H locs 0 0 Q (F0 m 42 ls [])) ?_ _ _ _ h _ _ _ hw (lv_sub hl [2, 3, 4, 1, 0] rfl)
        intro rc42 IH42 x4_42 S_42 h H locs ls hw hl
        unfold bX4_passes_42 at h
        refine lv_iload hx hb dX4_passes_42 (lv_at hl 4 rfl) ?_
        refine lv_sipush (v := 2000) hx hb dX4_passes_44 (by decide) ?_
        refine lv_icmp_gt (tgt := 88) hx hb dX4_passes_47 (by decide) (fun c47 => ?_) (fun c47 => ?_)
        · replace h := o_t c47 h
          refine lv_aload_n hx hb dX4_passes_88 rfl (lv_at hl 0 rfl) ?_
          refine lv_ldc (v := -1000000004) hx hb hown (hts (.constant RX4 178 (-1000000004)) (by decide +kernel)) dX4_passes_89 ?_
          obtain ⟨q91, eq91, h⟩ := o_bd h
          refine kV (As := [.int (-1000000004 : Int32)]) (rest := []) (st' := [.int q91.1]) ⟨hx, hb, hml, hown, hts⟩ (kX4_found l G eq91) (cwV 1 hts gX4_passes_X4_found rfl rfl rfl qqX4_found ⟨Nat.le_of_ble_eq_true rfl, Nat.le_of_ble_eq_true rfl⟩) hw (rvOw hw) rfl hl.1 rfl (Nat.le_of_ble_eq_true rfl) dX4_passes_91 ⟨Nat.zero_le _, Nat.zero_le _⟩ rfl (fun H locs hw => ?_)
          exact rI hQ hx hb hr hlk hw dX4_passes_94 (o_2a h) (o_2b h) rfl
        · replace h := o_f c47 h
          refine lv_aload_n hx hb dX4_passes_50 rfl (lv_at hl 3 rfl) ?_
          refine gTk (v := .ref (sA G 2 6)) hx hb hts hiX3 hown hw (Or.inr (Or.inl rfl)) rfl 11 (by decide) (hts (.fieldLink RX4 91 "SecondHome$Track" "yards" "[I") (by decide +kernel)) rfl dX4_passes_51 ?_
          refine lv_iload_n hx hb dX4_passes_54 rfl (lv_at hl 1 rfl) ?_
          obtain ⟨b55, h⟩ := o_in h
          refine ldTk hx hb hw (Or.inr (Or.inl rfl)) rfl 5 (by decide) b55 dX4_passes_55 ?_
          refine lv_aload_n hx hb dX4_passes_56 rfl (lv_at hl 3 rfl) ?_
          refine gTk (v := .ref (sA G 2 6)) hx hb hts hiX3 hown hw (Or.inr (Or.inl rfl)) rfl 11 (by decide) (hts (.fieldLink RX4 91 "SecondHome$Track" "yards" "[I") (by decide +kernel)) rfl dX4_passes_57 ?_
          refine lv_iload_n hx hb dX4_passes_60 rfl (lv_at hl 2 rfl) ?_
          obtain ⟨b61, h⟩ := o_in h
          refine ldTk hx hb hw (Or.inr (Or.inl rfl)) rfl 5 (by decide) b61 dX4_passes_61 ?_
          refine lv_icmp_le (tgt := 68) hx hb dX4_passes_62 (by decide) (fun c62 => ?_) (fun c62 => ?_)
          · replace h := o_t c62 h
            refine lv_aload_n hx hb dX4_passes_68 rfl (lv_at hl 3 rfl) ?_
            obtain ⟨q69, eq69, h⟩ := o_bd h
            refine kV (As := []) (rest := []) (st' := [.int q69]) ⟨hx, hb, hml, hown, hts⟩ (kX3_allHome l G (Or.inr (Or.inl rfl)) rfl eq69) (cwV 0 hts gX4_passes_X3_allHome rfl rfl rfl qqX3_allHome ⟨Nat.le_of_ble_eq_true rfl, Nat.le_of_ble_eq_true rfl⟩) hw (rvTk hw (Or.inr (Or.inl rfl))) rfl hl.1 rfl (Nat.le_of_ble_eq_true rfl) dX4_passes_69 ⟨Nat.zero_le _, Nat.zero_le _⟩ rfl (fun H locs hw => ?_)
            refine lv_if_eq (tgt := 78) hx hb dX4_passes_72 (by decide) (fun c72 => ?_) (fun c72 => ?_)
            · replace h := o_t c72 h
              refine lv_aload_n hx hb dX4_passes_78 rfl (lv_at hl 3 rfl) ?_
              obtain ⟨q79, eq79, h⟩ := o_bd h
              refine kV (As := []) (rest := []) (st' := []) ⟨hx, hb, hml, hown, hts⟩ (kX3_goSecond l G (Or.inr (Or.inl rfl)) rfl eq79) (cwV 0 hts gX4_passes_X3_goSecond rfl rfl rfl qqX3_goSecond ⟨Nat.le_of_ble_eq_true rfl, Nat.le_of_ble_eq_true rfl⟩) hw (rvTk hw (Or.inr (Or.inl rfl))) rfl hl.1 rfl (Nat.le_of_ble_eq_true rfl) dX4_passes_79 ⟨Nat.zero_le _, Nat.zero_le _⟩ rfl (fun H locs hw => ?_)
              obtain ⟨S79, eS79, h⟩ := o_nm h
              rw [← eS79] at hw
              obtain ⟨v82, ev82, h⟩ := o_nm h
              refine lv_iinc (v := v82) (lv' := [(4, .int v82), (0, .ref (sA G 0 0)), (1, .int a1), (2, .int a2), (3, .ref (sA G 2 0))]) hx hb dX4_passes_82 hl (k := 4) rfl (by rw [ev82]; rfl) (by decide) rfl (fun ls hl => ?_)
              refine lv_goto (tgt := 42) hx hb dX4_passes_85 (by decide) ?_
              exact IH42 v82 S79 h _ _ _ hw (lv_sub hl [1, 2, 3, 4, 0] rfl)
            · replace h := o_f c72 h
              exact J75 S_42 _ _ _ hw (lv_sub hl [0] rfl) h
          · replace h := o_f c62 h
            refine lv_iload hx hb dX4_passes_65 (lv_at hl 4 rfl) ?_
            exact rI hQ hx hb hr hlk hw dX4_passes_67 (o_2a h) (o_2b h) rfl
      · replace h := o_t c24 h
        refine lv_aload_n hx hb dX4_passes_27 rfl (lv_at hl 0 rfl) ?_
        refine lv_ldc (v := -1000000001) hx hb hown (hts (.constant RX4 50 (-1000000001)) (by decide +kernel)) dX4_passes_28 ?_
        obtain ⟨q30, eq30, h⟩ := o_bd h
        refine kV (As := [.int (-1000000001 : Int32)]) (rest := []) (st' := [.int q30.1]) ⟨hx, hb, hml, hown, hts⟩ (kX4_found l G eq30) (cwV 1 hts gX4_passes_X4_found rfl rfl rfl qqX4_found ⟨Nat.le_of_ble_eq_true rfl, Nat.le_of_ble_eq_true rfl⟩) hw (rvOw hw) rfl hl.1 rfl (Nat.le_of_ble_eq_true rfl) dX4_passes_30 ⟨Nat.zero_le _, Nat.zero_le _⟩ rfl (fun H locs hw => ?_)
        exact rI hQ hx hb hr hlk hw dX4_passes_33 (o_2a h) (o_2b h) rfl
-- X4_race
set_option maxRecDepth 100000 in
set_option maxHeartbeats 4000000 in
theorem kX4_race (l : Launch) (G : sGl) {S : sWo} {M : sOb}  {q : (Int32 × sWo)}  (h : fX4_race S = some q) : sCt l G yX4_race wsX4_race rmX4_race [.ref (sA G 0 0)] S M (some (.int q.1)) q.2 M := by
  refine cMk (cc := cX4_race) (maxL := 1) (ret := (some .int)) (by decide) rfl (Nat.le_of_ble_eq_true rfl) ?_
  intro p e s m args below meth c Q hQ hx hb hr hlk hml hown hts hw ls hl
  have hown : s.vm.findClass RX4 = some m.cls := hown
  have hl : lv_has ls 1 [(0, .ref (sA G 0 0))] := hl
  unfold fX4_race at h
  refine lv_aload_n hx hb dX4_race_0 rfl (lv_at hl 0 rfl) ?_
  refine lv_aload_n hx hb dX4_race_1 rfl (lv_at hl 0 rfl) ?_
  obtain ⟨q2, eq2, h⟩ := o_bd h
  refine kV (As := []) (rest := [.ref (sA G 0 0)]) (st' := [.ref (sA G 2 0), .ref (sA G 0 0)]) ⟨hx, hb, hml, hown, hts⟩ (kX4_tryOut l G eq2) (cwV 0 hts gX4_race_X4_tryOut rfl rfl rfl qqX4_tryOut ⟨Nat.le_of_ble_eq_true rfl, Nat.le_of_ble_eq_true rfl⟩) hw (rvOw hw) rfl hl.1 rfl (Nat.le_of_ble_eq_true rfl) dX4_race_2 ⟨Nat.zero_le _, Nat.zero_le _⟩ rfl (fun H locs hw => ?_)
  obtain ⟨q5, eq5, h⟩ := o_bd h
  refine kV (As := []) (rest := [.ref (sA G 0 0)]) (st' := [.int q5.1, .ref (sA G 0 0)]) ⟨hx, hb, hml, hown, hts⟩ (kX3_raceOwner l G (Or.inr (Or.inl rfl)) rfl eq5) (cwV 0 hts gX4_race_X3_raceOwner rfl rfl rfl qqX3_raceOwner ⟨Nat.le_of_ble_eq_true rfl, Nat.le_of_ble_eq_true rfl⟩) hw (rvTk hw (Or.inr (Or.inl rfl))) rfl hl.1 rfl (Nat.le_of_ble_eq_true rfl) dX4_race_5 ⟨Nat.zero_le _, Nat.zero_le _⟩ rfl (fun H locs hw => ?_)
  obtain ⟨S5, eS5, h⟩ := o_nm h
  rw [← eS5] at hw
  obtain ⟨q8, eq8, h⟩ := o_bd h
  refine kV (As := [.int q5.1]) (rest := []) (st' := [.int q8.1]) ⟨hx, hb, hml, hown, hts⟩ (kX4_runnerOrNone l G eq8) (cwV 1 hts gX4_race_X4_runnerOrNone rfl rfl rfl qqX4_runnerOrNone ⟨Nat.le_of_ble_eq_true rfl, Nat.le_of_ble_eq_true rfl⟩) hw (rvOw hw) rfl hl.1 rfl (Nat.le_of_ble_eq_true rfl) dX4_race_8 ⟨Nat.zero_le _, Nat.zero_le _⟩ rfl (fun H locs hw => ?_)
  exact rI hQ hx hb hr hlk hw dX4_race_11 (o_2a h) (o_2b h) rfl
-- X4_pace
set_option maxRecDepth 100000 in
set_option maxHeartbeats 4000000 in
theorem kX4_pace (l : Launch) (G : sGl) {S : sWo} {M : sOb} {a1 : Int32} {q : (Int32 × sWo)}  (h : fX4_pace S a1 = some q) : sCt l G yX4_pace wsX4_pace rmX4_pace [.ref (sA G 0 0), .int a1] S M (some (.int q.1)) q.2 M := by
  refine cMk (cc := cX4_pace) (maxL := 4) (ret := (some .int)) (by decide) rfl (Nat.le_of_ble_eq_true rfl) ?_
  intro p e s m args below meth c Q hQ hx hb hr hlk hml hown hts hw ls hl
  have hown : s.vm.findClass RX4 = some m.cls := hown
  have hl : lv_has ls 4 [(0, .ref (sA G 0 0)), (1, .int a1)] := hl
  have hiX3 : ∀ w ∈ u_ws RX3 TX3 15, w ∈ wsX4_pace := by decide +kernel
  have hiX4 : ∀ w ∈ u_ws RX4 TX4 7, w ∈ wsX4_pace := by decide +kernel
  unfold fX4_pace at h
  refine lv_aload_n hx hb dX4_pace_0 rfl (lv_at hl 0 rfl) ?_
  refine gOw (v := .ref (sA G 1 0)) hx hb hts hiX4 hown hw 0 (by decide) (hts (.fieldLink RX4 10 "SecondHome" "track" "LSecondHome$Track;") (by decide +kernel)) rfl dX4_pace_1 ?_
  refine lv_iload_n hx hb dX4_pace_4 rfl (lv_at hl 1 rfl) ?_
  obtain ⟨q5, eq5, h⟩ := o_bd h
  refine kV (As := [.int a1]) (rest := []) (st' := [.int q5]) ⟨hx, hb, hml, hown, hts⟩ (kX3_has l G (Or.inl rfl) rfl eq5) (cwV 1 hts gX4_pace_X3_has rfl rfl rfl qqX3_has ⟨Nat.le_of_ble_eq_true rfl, Nat.le_of_ble_eq_true rfl⟩) hw (rvTk hw (Or.inl rfl)) rfl hl.1 rfl (Nat.le_of_ble_eq_true rfl) dX4_pace_5 ⟨Nat.zero_le _, Nat.zero_le _⟩ rfl (fun H locs hw => ?_)
  refine lv_if_ne (tgt := 18) hx hb dX4_pace_8 (by decide) (fun c8 => ?_) (fun c8 => ?_)
  · replace h := o_f c8 h
    refine lv_iconst (v := 1) hx hb dX4_pace_18 (by decide) ?_
    refine lv_istore_n (lv' := [(2, .int (1 : Int32)), (0, .ref (sA G 0 0)), (1, .int a1)]) hx hb dX4_pace_19 rfl hl (by decide) rfl (fun ls hl => ?_)
    refine fx2_w (F := (bX4_pace_20 a1)) (P := fun x2_20 S_20 => ∀ (H : Heap) (locs : List Loc) (ls : Array Slot), sHw G s S_20 M H locs → lv_has ls 4 [(0, .ref (sA G 0 0)), (1, .int a1), (2, .int x2_20)] → W p l e rmX4_pace s m args below meth c H locs 0 0 Q (F0 m 20 ls [])) ?_ _ _ _ h _ _ _ hw (lv_sub hl [1, 2, 0] rfl)
    intro rc20 IH20 x2_20 S_20 h H locs ls hw hl
    unfold bX4_pace_20 at h
    refine lv_iload_n hx hb dX4_pace_20 rfl (lv_at hl 2 rfl) ?_
    refine lv_bipush (v := 12) hx hb dX4_pace_21 (by decide) ?_
    refine lv_icmp_gt (tgt := 54) hx hb dX4_pace_23 (by decide) (fun c23 => ?_) (fun c23 => ?_)
    · replace h := o_t c23 h
      refine lv_aload_n hx hb dX4_pace_54 rfl (lv_at hl 0 rfl) ?_
      refine lv_ldc (v := -1000000004) hx hb hown (hts (.constant RX4 178 (-1000000004)) (by decide +kernel)) dX4_pace_55 ?_
      obtain ⟨q57, eq57, h⟩ := o_bd h
      refine kV (As := [.int (-1000000004 : Int32)]) (rest := []) (st' := [.int q57.1]) ⟨hx, hb, hml, hown, hts⟩ (kX4_found l G eq57) (cwV 1 hts gX4_pace_X4_found rfl rfl rfl qqX4_found ⟨Nat.le_of_ble_eq_true rfl, Nat.le_of_ble_eq_true rfl⟩) hw (rvOw hw) rfl hl.1 rfl (Nat.le_of_ble_eq_true rfl) dX4_pace_57 ⟨Nat.zero_le _, Nat.zero_le _⟩ rfl (fun H locs hw => ?_)
      exact rI hQ hx hb hr hlk hw dX4_pace_60 (o_2a h) (o_2b h) rfl
    · replace h := o_f c23 h
      refine lv_aload_n hx hb dX4_pace_26 rfl (lv_at hl 0 rfl) ?_
      obtain ⟨q27, eq27, h⟩ := o_bd h
      refine kV (As := []) (rest := []) (st' := [.ref (sA G 2 0)]) ⟨hx, hb, hml, hown, hts⟩ (kX4_tryOut l G eq27) (cwV 0 hts gX4_pace_X4_tryOut rfl rfl rfl qqX4_tryOut ⟨Nat.le_of_ble_eq_true rfl, Nat.le_of_ble_eq_true rfl⟩) hw (rvOw hw) rfl hl.1 rfl (Nat.le_of_ble_eq_true rfl) dX4_pace_27 ⟨Nat.zero_le _, Nat.zero_le _⟩ rfl (fun H locs hw => ?_)
      refine lv_astore_n (lv' := [(3, .ref (sA G 2 0)), (0, .ref (sA G 0 0)), (1, .int a1), (2, .int x2_20)]) hx hb dX4_pace_30 rfl hl (by decide) rfl (fun ls hl => ?_)
      refine lv_aload_n hx hb dX4_pace_31 rfl (lv_at hl 0 rfl) ?_
      refine gTk (v := .ref (sA G 2 2)) hx hb hts hiX3 hown hw (Or.inr (Or.inl rfl)) rfl 7 (by decide) (hts (.fieldLink RX4 79 "SecondHome$Track" "paces" "[I") (by decide +kernel)) rfl dX4_pace_32 ?_
      refine lv_iload_n hx hb dX4_pace_35 rfl (lv_at hl 2 rfl) ?_
      refine lv_iload_n hx hb dX4_pace_36 rfl (lv_at hl 3 rfl) ?_
      obtain ⟨b37, h⟩ := o_in h
      refine stTk hx hb hw (Or.inr (Or.inl rfl)) rfl 1 (by decide) b37 dX4_pace_37 rfl (fun H locs hw => ?_)
      obtain ⟨S37, eS37, h⟩ := o_nm h
      rw [← eS37] at hw
      refine lv_aload_n hx hb dX4_pace_38 rfl (lv_at hl 0 rfl) ?_
      obtain ⟨q39, eq39, h⟩ := o_bd h
      refine kV (As := []) (rest := []) (st' := [.int q39.1]) ⟨hx, hb, hml, hown, hts⟩ (kX3_raceOwner l G (Or.inr (Or.inl rfl)) rfl eq39) (cwV 0 hts gX4_pace_X3_raceOwner rfl rfl rfl qqX3_raceOwner ⟨Nat.le_of_ble_eq_true rfl, Nat.le_of_ble_eq_true rfl⟩) hw (rvTk hw (Or.inr (Or.inl rfl))) rfl hl.1 rfl (Nat.le_of_ble_eq_true rfl) dX4_pace_39 ⟨Nat.zero_le _, Nat.zero_le _⟩ rfl (fun H locs hw => ?_)
      obtain ⟨S39, eS39, h⟩ := o_nm h
      rw [← eS39] at hw
      refine lv_iload_n hx hb dX4_pace_42 rfl (lv_at hl 2 rfl) ?_
      refine lv_icmp_ne (tgt := 48) hx hb dX4_pace_43 (by decide) (fun c43 => ?_) (fun c43 => ?_)
      · replace h := o_f c43 h
        obtain ⟨v48, ev48, h⟩ := o_nm h
        refine lv_iinc (v := v48) (lv' := [(2, .int v48), (3, .ref (sA G 2 0)), (0, .ref (sA G 0 0)), (1, .int a1)]) hx hb dX4_pace_48 hl (k := 3) rfl (by rw [ev48]; rfl) (by decide) rfl (fun ls hl => ?_)
        refine lv_goto (tgt := 20) hx hb dX4_pace_51 (by decide) ?_
        exact IH20 v48 S39 h _ _ _ hw (lv_sub hl [2, 3, 0] rfl)
      · replace h := o_t c43 h
        refine lv_iload_n hx hb dX4_pace_46 rfl (lv_at hl 3 rfl) ?_
        exact rI hQ hx hb hr hlk hw dX4_pace_47 (o_2a h) (o_2b h) rfl
  · replace h := o_t c8 h
    refine lv_aload_n hx hb dX4_pace_11 rfl (lv_at hl 0 rfl) ?_
    refine lv_ldc (v := -1000000001) hx hb hown (hts (.constant RX4 50 (-1000000001)) (by decide +kernel)) dX4_pace_12 ?_
    obtain ⟨q14, eq14, h⟩ := o_bd h
    refine kV (As := [.int (-1000000001 : Int32)]) (rest := []) (st' := [.int q14.1]) ⟨hx, hb, hml, hown, hts⟩ (kX4_found l G eq14) (cwV 1 hts gX4_pace_X4_found rfl rfl rfl qqX4_found ⟨Nat.le_of_ble_eq_true rfl, Nat.le_of_ble_eq_true rfl⟩) hw (rvOw hw) rfl hl.1 rfl (Nat.le_of_ble_eq_true rfl) dX4_pace_14 ⟨Nat.zero_le _, Nat.zero_le _⟩ rfl (fun H locs hw => ?_)
    exact rI hQ hx hb hr hlk hw dX4_pace_17 (o_2a h) (o_2b h) rfl
-- X4_kind
set_option maxRecDepth 100000 in
set_option maxHeartbeats 4000000 in
theorem kX4_kind (l : Launch) (G : sGl) {S : sWo} {M : sOb} {a1 : Int32} {q : (Int32 × sWo)}  (h : fX4_kind S a1 = some q) : sCt l G yX4_kind wsX4_kind rmX4_kind [.ref (sA G 0 0), .int a1] S M (some (.int q.1)) q.2 M := by
  refine cMk (cc := cX4_kind) (maxL := 4) (ret := (some .int)) (by decide) rfl (Nat.le_of_ble_eq_true rfl) ?_
  intro p e s m args below meth c Q hQ hx hb hr hlk hml hown hts hw ls hl
  have hown : s.vm.findClass RX4 = some m.cls := hown
  have hl : lv_has ls 4 [(0, .ref (sA G 0 0)), (1, .int a1)] := hl
  have hiX3 : ∀ w ∈ u_ws RX3 TX3 15, w ∈ wsX4_kind := by decide +kernel
  have hiX4 : ∀ w ∈ u_ws RX4 TX4 7, w ∈ wsX4_kind := by decide +kernel
  unfold fX4_kind at h
  refine lv_aload_n hx hb dX4_kind_0 rfl (lv_at hl 0 rfl) ?_
  refine gOw (v := .ref (sA G 1 0)) hx hb hts hiX4 hown hw 0 (by decide) (hts (.fieldLink RX4 10 "SecondHome" "track" "LSecondHome$Track;") (by decide +kernel)) rfl dX4_kind_1 ?_
  refine lv_iload_n hx hb dX4_kind_4 rfl (lv_at hl 1 rfl) ?_
  obtain ⟨q5, eq5, h⟩ := o_bd h
  refine kV (As := [.int a1]) (rest := []) (st' := [.int q5]) ⟨hx, hb, hml, hown, hts⟩ (kX3_has l G (Or.inl rfl) rfl eq5) (cwV 1 hts gX4_kind_X3_has rfl rfl rfl qqX3_has ⟨Nat.le_of_ble_eq_true rfl, Nat.le_of_ble_eq_true rfl⟩) hw (rvTk hw (Or.inl rfl)) rfl hl.1 rfl (Nat.le_of_ble_eq_true rfl) dX4_kind_5 ⟨Nat.zero_le _, Nat.zero_le _⟩ rfl (fun H locs hw => ?_)
  refine lv_if_ne (tgt := 18) hx hb dX4_kind_8 (by decide) (fun c8 => ?_) (fun c8 => ?_)
  · replace h := o_f c8 h
    refine lv_iconst (v := 0) hx hb dX4_kind_18 (by decide) ?_
    refine lv_istore_n (lv' := [(2, .int (0 : Int32)), (0, .ref (sA G 0 0)), (1, .int a1)]) hx hb dX4_kind_19 rfl hl (by decide) rfl (fun ls hl => ?_)
    refine fx2_w (F := (bX4_kind_20 a1)) (P := fun x2_20 S_20 => ∀ (H : Heap) (locs : List Loc) (ls : Array Slot), sHw G s S_20 M H locs → lv_has ls 4 [(0, .ref (sA G 0 0)), (1, .int a1), (2, .int x2_20)] → W p l e rmX4_kind s m args below meth c H locs 0 0 Q (F0 m 20 ls [])) ?_ _ _ _ h _ _ _ hw (lv_sub hl [1, 2, 0] rfl)
    intro rc20 IH20 x2_20 S_20 h H locs ls hw hl
    unfold bX4_kind_20 at h
    refine lv_iload_n hx hb dX4_kind_20 rfl (lv_at hl 2 rfl) ?_
    refine lv_bipush (v := 6) hx hb dX4_kind_21 (by decide) ?_
    refine lv_icmp_ge (tgt := 54) hx hb dX4_kind_23 (by decide) (fun c23 => ?_) (fun c23 => ?_)
    · replace h := o_t c23 h
      refine lv_aload_n hx hb dX4_kind_54 rfl (lv_at hl 0 rfl) ?_
      refine lv_ldc (v := -1000000004) hx hb hown (hts (.constant RX4 178 (-1000000004)) (by decide +kernel)) dX4_kind_55 ?_
      obtain ⟨q57, eq57, h⟩ := o_bd h
      refine kV (As := [.int (-1000000004 : Int32)]) (rest := []) (st' := [.int q57.1]) ⟨hx, hb, hml, hown, hts⟩ (kX4_found l G eq57) (cwV 1 hts gX4_kind_X4_found rfl rfl rfl qqX4_found ⟨Nat.le_of_ble_eq_true rfl, Nat.le_of_ble_eq_true rfl⟩) hw (rvOw hw) rfl hl.1 rfl (Nat.le_of_ble_eq_true rfl) dX4_kind_57 ⟨Nat.zero_le _, Nat.zero_le _⟩ rfl (fun H locs hw => ?_)
      exact rI hQ hx hb hr hlk hw dX4_kind_60 (o_2a h) (o_2b h) rfl
    · replace h := o_f c23 h
      refine lv_aload_n hx hb dX4_kind_26 rfl (lv_at hl 0 rfl) ?_
      obtain ⟨q27, eq27, h⟩ := o_bd h
      refine kV (As := []) (rest := []) (st' := [.ref (sA G 2 0)]) ⟨hx, hb, hml, hown, hts⟩ (kX4_tryOut l G eq27) (cwV 0 hts gX4_kind_X4_tryOut rfl rfl rfl qqX4_tryOut ⟨Nat.le_of_ble_eq_true rfl, Nat.le_of_ble_eq_true rfl⟩) hw (rvOw hw) rfl hl.1 rfl (Nat.le_of_ble_eq_true rfl) dX4_kind_27 ⟨Nat.zero_le _, Nat.zero_le _⟩ rfl (fun H locs hw => ?_)
      refine lv_astore_n (lv' := [(3, .ref (sA G 2 0)), (0, .ref (sA G 0 0)), (1, .int a1), (2, .int x2_20)]) hx hb dX4_kind_30 rfl hl (by decide) rfl (fun ls hl => ?_)
      refine lv_aload_n hx hb dX4_kind_31 rfl (lv_at hl 0 rfl) ?_
      refine gTk (v := .ref (sA G 2 1)) hx hb hts hiX3 hown hw (Or.inr (Or.inl rfl)) rfl 6 (by decide) (hts (.fieldLink RX4 76 "SecondHome$Track" "kinds" "[I") (by decide +kernel)) rfl dX4_kind_32 ?_
      refine lv_iload_n hx hb dX4_kind_35 rfl (lv_at hl 2 rfl) ?_
      refine lv_iload_n hx hb dX4_kind_36 rfl (lv_at hl 3 rfl) ?_
      obtain ⟨b37, h⟩ := o_in h
      refine stTk hx hb hw (Or.inr (Or.inl rfl)) rfl 0 (by decide) b37 dX4_kind_37 rfl (fun H locs hw => ?_)
      obtain ⟨S37, eS37, h⟩ := o_nm h
      rw [← eS37] at hw
      refine lv_aload_n hx hb dX4_kind_38 rfl (lv_at hl 0 rfl) ?_
      obtain ⟨q39, eq39, h⟩ := o_bd h
      refine kV (As := []) (rest := []) (st' := [.int q39.1]) ⟨hx, hb, hml, hown, hts⟩ (kX3_raceOwner l G (Or.inr (Or.inl rfl)) rfl eq39) (cwV 0 hts gX4_kind_X3_raceOwner rfl rfl rfl qqX3_raceOwner ⟨Nat.le_of_ble_eq_true rfl, Nat.le_of_ble_eq_true rfl⟩) hw (rvTk hw (Or.inr (Or.inl rfl))) rfl hl.1 rfl (Nat.le_of_ble_eq_true rfl) dX4_kind_39 ⟨Nat.zero_le _, Nat.zero_le _⟩ rfl (fun H locs hw => ?_)
      obtain ⟨S39, eS39, h⟩ := o_nm h
      rw [← eS39] at hw
      refine lv_iload_n hx hb dX4_kind_42 rfl (lv_at hl 2 rfl) ?_
      refine lv_icmp_ne (tgt := 48) hx hb dX4_kind_43 (by decide) (fun c43 => ?_) (fun c43 => ?_)
      · replace h := o_f c43 h
        obtain ⟨v48, ev48, h⟩ := o_nm h
        refine lv_iinc (v := v48) (lv' := [(2, .int v48), (3, .ref (sA G 2 0)), (0, .ref (sA G 0 0)), (1, .int a1)]) hx hb dX4_kind_48 hl (k := 3) rfl (by rw [ev48]; rfl) (by decide) rfl (fun ls hl => ?_)
        refine lv_goto (tgt := 20) hx hb dX4_kind_51 (by decide) ?_
        exact IH20 v48 S39 h _ _ _ hw (lv_sub hl [2, 3, 0] rfl)
      · replace h := o_t c43 h
        refine lv_iload_n hx hb dX4_kind_46 rfl (lv_at hl 3 rfl) ?_
        exact rI hQ hx hb hr hlk hw dX4_kind_47 (o_2a h) (o_2b h) rfl
  · replace h := o_t c8 h
    refine lv_aload_n hx hb dX4_kind_11 rfl (lv_at hl 0 rfl) ?_
    refine lv_ldc (v := -1000000001) hx hb hown (hts (.constant RX4 50 (-1000000001)) (by decide +kernel)) dX4_kind_12 ?_
    obtain ⟨q14, eq14, h⟩ := o_bd h
    refine kV (As := [.int (-1000000001 : Int32)]) (rest := []) (st' := [.int q14.1]) ⟨hx, hb, hml, hown, hts⟩ (kX4_found l G eq14) (cwV 1 hts gX4_kind_X4_found rfl rfl rfl qqX4_found ⟨Nat.le_of_ble_eq_true rfl, Nat.le_of_ble_eq_true rfl⟩) hw (rvOw hw) rfl hl.1 rfl (Nat.le_of_ble_eq_true rfl) dX4_kind_14 ⟨Nat.zero_le _, Nat.zero_le _⟩ rfl (fun H locs hw => ?_)
    exact rI hQ hx hb hr hlk hw dX4_kind_17 (o_2a h) (o_2b h) rfl
-- X4_start
set_option maxRecDepth 100000 in
set_option maxHeartbeats 4000000 in
theorem kX4_start (l : Launch) (G : sGl) {S : sWo} {M : sOb} {a1 : Int32} {q : (Int32 × sWo)}  (h : fX4_start S a1 = some q) : sCt l G yX4_start wsX4_start rmX4_start [.ref (sA G 0 0), .int a1] S M (some (.int q.1)) q.2 M := by
  refine cMk (cc := cX4_start) (maxL := 4) (ret := (some .int)) (by decide) rfl (Nat.le_of_ble_eq_true rfl) ?_
  intro p e s m args below meth c Q hQ hx hb hr hlk hml hown hts hw ls hl
  have hown : s.vm.findClass RX4 = some m.cls := hown
  have hl : lv_has ls 4 [(0, .ref (sA G 0 0)), (1, .int a1)] := hl
  have hiX3 : ∀ w ∈ u_ws RX3 TX3 15, w ∈ wsX4_start := by decide +kernel
  have hiX4 : ∀ w ∈ u_ws RX4 TX4 7, w ∈ wsX4_start := by decide +kernel
  unfold fX4_start at h
  refine lv_aload_n hx hb dX4_start_0 rfl (lv_at hl 0 rfl) ?_
  refine gOw (v := .ref (sA G 1 0)) hx hb hts hiX4 hown hw 0 (by decide) (hts (.fieldLink RX4 10 "SecondHome" "track" "LSecondHome$Track;") (by decide +kernel)) rfl dX4_start_1 ?_
  refine lv_iload_n hx hb dX4_start_4 rfl (lv_at hl 1 rfl) ?_
  obtain ⟨q5, eq5, h⟩ := o_bd h
  refine kV (As := [.int a1]) (rest := []) (st' := [.int q5]) ⟨hx, hb, hml, hown, hts⟩ (kX3_has l G (Or.inl rfl) rfl eq5) (cwV 1 hts gX4_start_X3_has rfl rfl rfl qqX3_has ⟨Nat.le_of_ble_eq_true rfl, Nat.le_of_ble_eq_true rfl⟩) hw (rvTk hw (Or.inl rfl)) rfl hl.1 rfl (Nat.le_of_ble_eq_true rfl) dX4_start_5 ⟨Nat.zero_le _, Nat.zero_le _⟩ rfl (fun H locs hw => ?_)
  refine lv_if_ne (tgt := 18) hx hb dX4_start_8 (by decide) (fun c8 => ?_) (fun c8 => ?_)
  · replace h := o_f c8 h
    refine lv_iconst (v := 0) hx hb dX4_start_18 (by decide) ?_
    refine lv_istore_n (lv' := [(2, .int (0 : Int32)), (0, .ref (sA G 0 0)), (1, .int a1)]) hx hb dX4_start_19 rfl hl (by decide) rfl (fun ls hl => ?_)
    refine fx2_w (F := (bX4_start_20 a1)) (P := fun x2_20 S_20 => ∀ (H : Heap) (locs : List Loc) (ls : Array Slot), sHw G s S_20 M H locs → lv_has ls 4 [(0, .ref (sA G 0 0)), (1, .int a1), (2, .int x2_20)] → W p l e rmX4_start s m args below meth c H locs 0 0 Q (F0 m 20 ls [])) ?_ _ _ _ h _ _ _ hw (lv_sub hl [1, 2, 0] rfl)
    intro rc20 IH20 x2_20 S_20 h H locs ls hw hl
    unfold bX4_start_20 at h
    refine lv_iload_n hx hb dX4_start_20 rfl (lv_at hl 2 rfl) ?_
    refine lv_sipush (v := 200) hx hb dX4_start_21 (by decide) ?_
    refine lv_icmp_gt (tgt := 66) hx hb dX4_start_24 (by decide) (fun c24 => ?_) (fun c24 => ?_)
    · replace h := o_t c24 h
      refine lv_aload_n hx hb dX4_start_66 rfl (lv_at hl 0 rfl) ?_
      refine lv_ldc (v := -1000000004) hx hb hown (hts (.constant RX4 178 (-1000000004)) (by decide +kernel)) dX4_start_67 ?_
      obtain ⟨q69, eq69, h⟩ := o_bd h
      refine kV (As := [.int (-1000000004 : Int32)]) (rest := []) (st' := [.int q69.1]) ⟨hx, hb, hml, hown, hts⟩ (kX4_found l G eq69) (cwV 1 hts gX4_start_X4_found rfl rfl rfl qqX4_found ⟨Nat.le_of_ble_eq_true rfl, Nat.le_of_ble_eq_true rfl⟩) hw (rvOw hw) rfl hl.1 rfl (Nat.le_of_ble_eq_true rfl) dX4_start_69 ⟨Nat.zero_le _, Nat.zero_le _⟩ rfl (fun H locs hw => ?_)
      exact rI hQ hx hb hr hlk hw dX4_start_72 (o_2a h) (o_2b h) rfl
    · replace h := o_f c24 h
      refine lv_iload_n hx hb dX4_start_27 rfl (lv_at hl 2 rfl) ?_
      refine lv_aload_n hx hb dX4_start_28 rfl (lv_at hl 0 rfl) ?_
      refine gOw (v := .ref (sA G 1 0)) hx hb hts hiX4 hown hw 0 (by decide) (hts (.fieldLink RX4 10 "SecondHome" "track" "LSecondHome$Track;") (by decide +kernel)) rfl dX4_start_29 ?_
      refine gTk (v := .int ((S_20 1).1 0)) hx hb hts hiX3 hown hw (Or.inl rfl) rfl 0 (by decide) (hts (.fieldLink RX4 145 "SecondHome$Track" "length" "I") (by decide +kernel)) rfl dX4_start_32 ?_
      refine lv_icmp_ge (tgt := 66) hx hb dX4_start_35 (by decide) (fun c35 => ?_) (fun c35 => ?_)
      · replace h := o_t c35 h
        refine lv_aload_n hx hb dX4_start_66 rfl (lv_at hl 0 rfl) ?_
        refine lv_ldc (v := -1000000004) hx hb hown (hts (.constant RX4 178 (-1000000004)) (by decide +kernel)) dX4_start_67 ?_
        obtain ⟨q69, eq69, h⟩ := o_bd h
        refine kV (As := [.int (-1000000004 : Int32)]) (rest := []) (st' := [.int q69.1]) ⟨hx, hb, hml, hown, hts⟩ (kX4_found l G eq69) (cwV 1 hts gX4_start_X4_found rfl rfl rfl qqX4_found ⟨Nat.le_of_ble_eq_true rfl, Nat.le_of_ble_eq_true rfl⟩) hw (rvOw hw) rfl hl.1 rfl (Nat.le_of_ble_eq_true rfl) dX4_start_69 ⟨Nat.zero_le _, Nat.zero_le _⟩ rfl (fun H locs hw => ?_)
        exact rI hQ hx hb hr hlk hw dX4_start_72 (o_2a h) (o_2b h) rfl
      · replace h := o_f c35 h
        refine lv_aload_n hx hb dX4_start_38 rfl (lv_at hl 0 rfl) ?_
        obtain ⟨q39, eq39, h⟩ := o_bd h
        refine kV (As := []) (rest := []) (st' := [.ref (sA G 2 0)]) ⟨hx, hb, hml, hown, hts⟩ (kX4_tryOut l G eq39) (cwV 0 hts gX4_start_X4_tryOut rfl rfl rfl qqX4_tryOut ⟨Nat.le_of_ble_eq_true rfl, Nat.le_of_ble_eq_true rfl⟩) hw (rvOw hw) rfl hl.1 rfl (Nat.le_of_ble_eq_true rfl) dX4_start_39 ⟨Nat.zero_le _, Nat.zero_le _⟩ rfl (fun H locs hw => ?_)
        refine lv_astore_n (lv' := [(3, .ref (sA G 2 0)), (0, .ref (sA G 0 0)), (1, .int a1), (2, .int x2_20)]) hx hb dX4_start_42 rfl hl (by decide) rfl (fun ls hl => ?_)
        refine lv_aload_n hx hb dX4_start_43 rfl (lv_at hl 0 rfl) ?_
        refine gTk (v := .ref (sA G 2 5)) hx hb hts hiX3 hown hw (Or.inr (Or.inl rfl)) rfl 10 (by decide) (hts (.fieldLink RX4 88 "SecondHome$Track" "starts" "[I") (by decide +kernel)) rfl dX4_start_44 ?_
        refine lv_iload_n hx hb dX4_start_47 rfl (lv_at hl 2 rfl) ?_
        refine lv_iload_n hx hb dX4_start_48 rfl (lv_at hl 3 rfl) ?_
        obtain ⟨b49, h⟩ := o_in h
        refine stTk hx hb hw (Or.inr (Or.inl rfl)) rfl 4 (by decide) b49 dX4_start_49 rfl (fun H locs hw => ?_)
        obtain ⟨S49, eS49, h⟩ := o_nm h
        rw [← eS49] at hw
        refine lv_aload_n hx hb dX4_start_50 rfl (lv_at hl 0 rfl) ?_
        obtain ⟨q51, eq51, h⟩ := o_bd h
        refine kV (As := []) (rest := []) (st' := [.int q51.1]) ⟨hx, hb, hml, hown, hts⟩ (kX3_raceOwner l G (Or.inr (Or.inl rfl)) rfl eq51) (cwV 0 hts gX4_start_X3_raceOwner rfl rfl rfl qqX3_raceOwner ⟨Nat.le_of_ble_eq_true rfl, Nat.le_of_ble_eq_true rfl⟩) hw (rvTk hw (Or.inr (Or.inl rfl))) rfl hl.1 rfl (Nat.le_of_ble_eq_true rfl) dX4_start_51 ⟨Nat.zero_le _, Nat.zero_le _⟩ rfl (fun H locs hw => ?_)
        obtain ⟨S51, eS51, h⟩ := o_nm h
        rw [← eS51] at hw
        refine lv_iload_n hx hb dX4_start_54 rfl (lv_at hl 2 rfl) ?_
        refine lv_icmp_ne (tgt := 60) hx hb dX4_start_55 (by decide) (fun c55 => ?_) (fun c55 => ?_)
        · replace h := o_f c55 h
          obtain ⟨v60, ev60, h⟩ := o_nm h
          refine lv_iinc (v := v60) (lv' := [(2, .int v60), (3, .ref (sA G 2 0)), (0, .ref (sA G 0 0)), (1, .int a1)]) hx hb dX4_start_60 hl (k := 3) rfl (by rw [ev60]; rfl) (by decide) rfl (fun ls hl => ?_)
          refine lv_goto (tgt := 20) hx hb dX4_start_63 (by decide) ?_
          exact IH20 v60 S51 h _ _ _ hw (lv_sub hl [2, 3, 0] rfl)
        · replace h := o_t c55 h
          refine lv_iload_n hx hb dX4_start_58 rfl (lv_at hl 3 rfl) ?_
          exact rI hQ hx hb hr hlk hw dX4_start_59 (o_2a h) (o_2b h) rfl
  · replace h := o_t c8 h
    refine lv_aload_n hx hb dX4_start_11 rfl (lv_at hl 0 rfl) ?_
    refine lv_ldc (v := -1000000001) hx hb hown (hts (.constant RX4 50 (-1000000001)) (by decide +kernel)) dX4_start_12 ?_
    obtain ⟨q14, eq14, h⟩ := o_bd h
    refine kV (As := [.int (-1000000001 : Int32)]) (rest := []) (st' := [.int q14.1]) ⟨hx, hb, hml, hown, hts⟩ (kX4_found l G eq14) (cwV 1 hts gX4_start_X4_found rfl rfl rfl qqX4_found ⟨Nat.le_of_ble_eq_true rfl, Nat.le_of_ble_eq_true rfl⟩) hw (rvOw hw) rfl hl.1 rfl (Nat.le_of_ble_eq_true rfl) dX4_start_14 ⟨Nat.zero_le _, Nat.zero_le _⟩ rfl (fun H locs hw => ?_)
    exact rI hQ hx hb hr hlk hw dX4_start_17 (o_2a h) (o_2b h) rfl
-- X4_favours
set_option maxRecDepth 100000 in
set_option maxHeartbeats 4000000 in
theorem kX4_favours (l : Launch) (G : sGl) {S : sWo} {M : sOb} {a1 : Int32} {q : (Int32 × sWo)}  (h : fX4_favours S a1 = some q) : sCt l G yX4_favours wsX4_favours rmX4_favours [.ref (sA G 0 0), .int a1] S M (some (.int q.1)) q.2 M := by
  refine cMk (cc := cX4_favours) (maxL := 5) (ret := (some .int)) (by decide) rfl (Nat.le_of_ble_eq_true rfl) ?_
  intro p e s m args below meth c Q hQ hx hb hr hlk hml hown hts hw ls hl
  have hown : s.vm.findClass RX4 = some m.cls := hown
  have hl : lv_has ls 5 [(0, .ref (sA G 0 0)), (1, .int a1)] := hl
  have hiX4 : ∀ w ∈ u_ws RX4 TX4 7, w ∈ wsX4_favours := by decide +kernel
  unfold fX4_favours at h
  refine lv_aload_n hx hb dX4_favours_0 rfl (lv_at hl 0 rfl) ?_
  refine gOw (v := .ref (sA G 1 0)) hx hb hts hiX4 hown hw 0 (by decide) (hts (.fieldLink RX4 10 "SecondHome" "track" "LSecondHome$Track;") (by decide +kernel)) rfl dX4_favours_1 ?_
  refine lv_iload_n hx hb dX4_favours_4 rfl (lv_at hl 1 rfl) ?_
  obtain ⟨q5, eq5, h⟩ := o_bd h
  refine kV (As := [.int a1]) (rest := []) (st' := [.int q5]) ⟨hx, hb, hml, hown, hts⟩ (kX3_has l G (Or.inl rfl) rfl eq5) (cwV 1 hts gX4_favours_X3_has rfl rfl rfl qqX3_has ⟨Nat.le_of_ble_eq_true rfl, Nat.le_of_ble_eq_true rfl⟩) hw (rvTk hw (Or.inl rfl)) rfl hl.1 rfl (Nat.le_of_ble_eq_true rfl) dX4_favours_5 ⟨Nat.zero_le _, Nat.zero_le _⟩ rfl (fun H locs hw => ?_)
  refine lv_if_ne (tgt := 18) hx hb dX4_favours_8 (by decide) (fun c8 => ?_) (fun c8 => ?_)
  · replace h := o_f c8 h
    refine lv_aload_n hx hb dX4_favours_18 rfl (lv_at hl 0 rfl) ?_
    obtain ⟨q19, eq19, h⟩ := o_bd h
    refine kV (As := []) (rest := []) (st' := [.ref (sA G 2 0)]) ⟨hx, hb, hml, hown, hts⟩ (kX4_tryOut l G eq19) (cwV 0 hts gX4_favours_X4_tryOut rfl rfl rfl qqX4_tryOut ⟨Nat.le_of_ble_eq_true rfl, Nat.le_of_ble_eq_true rfl⟩) hw (rvOw hw) rfl hl.1 rfl (Nat.le_of_ble_eq_true rfl) dX4_favours_19 ⟨Nat.zero_le _, Nat.zero_le _⟩ rfl (fun H locs hw => ?_)
    refine lv_astore_n (lv' := [(2, .ref (sA G 2 0)), (0, .ref (sA G 0 0)), (1, .int a1)]) hx hb dX4_favours_22 rfl hl (by decide) rfl (fun ls hl => ?_)
    refine lv_aload_n hx hb dX4_favours_23 rfl (lv_at hl 0 rfl) ?_
    obtain ⟨q24, eq24, h⟩ := o_bd h
    refine kV (As := []) (rest := []) (st' := []) ⟨hx, hb, hml, hown, hts⟩ (kX3_lineUp l G (Or.inr (Or.inl rfl)) rfl eq24) (cwV 0 hts gX4_favours_X3_lineUp rfl rfl rfl qqX3_lineUp ⟨Nat.le_of_ble_eq_true rfl, Nat.le_of_ble_eq_true rfl⟩) hw (rvTk hw (Or.inr (Or.inl rfl))) rfl hl.1 rfl (Nat.le_of_ble_eq_true rfl) dX4_favours_24 ⟨Nat.zero_le _, Nat.zero_le _⟩ rfl (fun H locs hw => ?_)
    obtain ⟨S24, eS24, h⟩ := o_nm h
    rw [← eS24] at hw
    refine lv_aload_n hx hb dX4_favours_27 rfl (lv_at hl 0 rfl) ?_
    refine lv_sipush (v := 2000) hx hb dX4_favours_28 (by decide) ?_
    obtain ⟨q31, eq31, h⟩ := o_bd h
    refine kV (As := [.int (2000 : Int32)]) (rest := []) (st' := []) ⟨hx, hb, hml, hown, hts⟩ (kX3_goOn l G (Or.inr (Or.inl rfl)) rfl eq31) (cwV 1 hts gX4_favours_X3_goOn rfl rfl rfl qqX3_goOn ⟨Nat.le_of_ble_eq_true rfl, Nat.le_of_ble_eq_true rfl⟩) hw (rvTk hw (Or.inr (Or.inl rfl))) rfl hl.1 rfl (Nat.le_of_ble_eq_true rfl) dX4_favours_31 ⟨Nat.zero_le _, Nat.zero_le _⟩ rfl (fun H locs hw => ?_)
    obtain ⟨S31, eS31, h⟩ := o_nm h
    rw [← eS31] at hw
    refine lv_aload_n hx hb dX4_favours_34 rfl (lv_at hl 0 rfl) ?_
    obtain ⟨q35, eq35, h⟩ := o_bd h
    refine kV (As := []) (rest := []) (st' := [.int q35]) ⟨hx, hb, hml, hown, hts⟩ (kX3_allHome l G (Or.inr (Or.inl rfl)) rfl eq35) (cwV 0 hts gX4_favours_X3_allHome rfl rfl rfl qqX3_allHome ⟨Nat.le_of_ble_eq_true rfl, Nat.le_of_ble_eq_true rfl⟩) hw (rvTk hw (Or.inr (Or.inl rfl))) rfl hl.1 rfl (Nat.le_of_ble_eq_true rfl) dX4_favours_35 ⟨Nat.zero_le _, Nat.zero_le _⟩ rfl (fun H locs hw => ?_)
    refine lv_if_ne (tgt := 48) hx hb dX4_favours_38 (by decide) (fun c38 => ?_) (fun c38 => ?_)
    · replace h := o_f c38 h
      refine lv_iconst (v := 0) hx hb dX4_favours_48 (by decide) ?_
      refine lv_istore_n (lv' := [(3, .int (0 : Int32)), (2, .ref (sA G 2 0)), (0, .ref (sA G 0 0)), (1, .int a1)]) hx hb dX4_favours_49 rfl hl (by decide) rfl (fun ls hl => ?_)
      refine lv_iconst (v := 0) hx hb dX4_favours_50 (by decide) ?_
      refine lv_istore (lv' := [(4, .int (0 : Int32)), (3, .int (0 : Int32)), (2, .ref (sA G 2 0)), (0, .ref (sA G 0 0)), (1, .int a1)]) hx hb dX4_favours_51 hl (by decide) rfl (fun ls hl => ?_)
      refine fx2_w (F := (bX4_favours_53 a1 S31)) (P := fun x3_53 x4_53 => ∀ (H : Heap) (locs : List Loc) (ls : Array Slot), sHw G s S31 M H locs → lv_has ls 5 [(1, .int a1), (2, .ref (sA G 2 0)), (3, .int x3_53), (4, .int x4_53)] → W p l e rmX4_favours s m args below meth c H locs 0 0 Q (F0 m 53 ls [])) ?_ _ _ _ h _ _ _ hw (lv_sub hl [4, 2, 1, 0] rfl)
      intro rc53 IH53 x3_53 x4_53 h H locs ls hw hl
      unfold bX4_favours_53 at h
      refine lv_iload hx hb dX4_favours_53 (lv_at hl 3 rfl) ?_
      refine lv_iconst (v := 4) hx hb dX4_favours_55 (by decide) ?_
      refine lv_icmp_ge (tgt := 82) hx hb dX4_favours_56 (by decide) (fun c56 => ?_) (fun c56 => ?_)
      · replace h := o_t c56 h
        refine lv_iload_n hx hb dX4_favours_82 rfl (lv_at hl 2 rfl) ?_
        exact rI hQ hx hb hr hlk hw dX4_favours_83 (o_2a h) (o_2b h) rfl
      · replace h := o_f c56 h
        refine lv_aload_n hx hb dX4_favours_59 rfl (lv_at hl 1 rfl) ?_
        refine lv_iload hx hb dX4_favours_60 (lv_at hl 3 rfl) ?_
        obtain ⟨q62, eq62, h⟩ := o_bd h
        refine kV (As := [.int x4_53]) (rest := []) (st' := [.int q62]) ⟨hx, hb, hml, hown, hts⟩ (kX3_prizeOwner l G (Or.inr (Or.inl rfl)) rfl eq62) (cwV 1 hts gX4_favours_X3_prizeOwner rfl rfl rfl qqX3_prizeOwner ⟨Nat.le_of_ble_eq_true rfl, Nat.le_of_ble_eq_true rfl⟩) hw (rvTk hw (Or.inr (Or.inl rfl))) rfl hl.1 rfl (Nat.le_of_ble_eq_true rfl) dX4_favours_62 ⟨Nat.zero_le _, Nat.zero_le _⟩ rfl (fun H locs hw => ?_)
        refine lv_iload_n hx hb dX4_favours_65 rfl (lv_at hl 0 rfl) ?_
        refine lv_icmp_ne (tgt := 76) hx hb dX4_favours_66 (by decide) (fun c66 => ?_) (fun c66 => ?_)
        · replace h := o_f c66 h
          obtain ⟨v76, ev76, h⟩ := o_nm h
          refine lv_iinc (v := v76) (lv' := [(4, .int v76), (1, .int a1), (2, .ref (sA G 2 0)), (3, .int x3_53)]) hx hb dX4_favours_76 hl (k := 3) rfl (by rw [ev76]; rfl) (by decide) rfl (fun ls hl => ?_)
          refine lv_goto (tgt := 53) hx hb dX4_favours_79 (by decide) ?_
          exact IH53 x3_53 v76 h _ _ _ hw (lv_sub hl [1, 2, 3, 0] rfl)
        · replace h := o_t c66 h
          refine lv_iload_n hx hb dX4_favours_69 rfl (lv_at hl 2 rfl) ?_
          refine lv_iconst (v := 1) hx hb dX4_favours_70 (by decide) ?_
          refine lv_iload hx hb dX4_favours_71 (lv_at hl 3 rfl) ?_
          refine lv_ishl hx hb dX4_favours_73 ?_
          refine lv_ior hx hb dX4_favours_74 ?_
          refine lv_topi (fun v75 ev75 => ?_)
          replace h := o_nx ev75 h
          refine lv_istore_n (lv' := [(3, .int v75), (1, .int a1), (2, .ref (sA G 2 0)), (4, .int x4_53)]) hx hb dX4_favours_75 rfl hl (by decide) rfl (fun ls hl => ?_)
          obtain ⟨v76, ev76, h⟩ := o_nm h
          refine lv_iinc (v := v76) (lv' := [(4, .int v76), (3, .int v75), (1, .int a1), (2, .ref (sA G 2 0))]) hx hb dX4_favours_76 hl (k := 3) rfl (by rw [ev76]; rfl) (by decide) rfl (fun ls hl => ?_)
          refine lv_goto (tgt := 53) hx hb dX4_favours_79 (by decide) ?_
          exact IH53 v75 v76 h _ _ _ hw (lv_sub hl [2, 3, 1, 0] rfl)
    · replace h := o_t c38 h
      refine lv_aload_n hx hb dX4_favours_41 rfl (lv_at hl 1 rfl) ?_
      refine lv_ldc (v := -1000000004) hx hb hown (hts (.constant RX4 178 (-1000000004)) (by decide +kernel)) dX4_favours_42 ?_
      obtain ⟨q44, eq44, h⟩ := o_bd h
      refine kV (As := [.int (-1000000004 : Int32)]) (rest := []) (st' := [.int q44.1]) ⟨hx, hb, hml, hown, hts⟩ (kX4_found l G eq44) (cwV 1 hts gX4_favours_X4_found rfl rfl rfl qqX4_found ⟨Nat.le_of_ble_eq_true rfl, Nat.le_of_ble_eq_true rfl⟩) hw (rvOw hw) rfl hl.1 rfl (Nat.le_of_ble_eq_true rfl) dX4_favours_44 ⟨Nat.zero_le _, Nat.zero_le _⟩ rfl (fun H locs hw => ?_)
      exact rI hQ hx hb hr hlk hw dX4_favours_47 (o_2a h) (o_2b h) rfl
  · replace h := o_t c8 h
    refine lv_aload_n hx hb dX4_favours_11 rfl (lv_at hl 0 rfl) ?_
    refine lv_ldc (v := -1000000001) hx hb hown (hts (.constant RX4 50 (-1000000001)) (by decide +kernel)) dX4_favours_12 ?_
    obtain ⟨q14, eq14, h⟩ := o_bd h
    refine kV (As := [.int (-1000000001 : Int32)]) (rest := []) (st' := [.int q14.1]) ⟨hx, hb, hml, hown, hts⟩ (kX4_found l G eq14) (cwV 1 hts gX4_favours_X4_found rfl rfl rfl qqX4_found ⟨Nat.le_of_ble_eq_true rfl, Nat.le_of_ble_eq_true rfl⟩) hw (rvOw hw) rfl hl.1 rfl (Nat.le_of_ble_eq_true rfl) dX4_favours_14 ⟨Nat.zero_le _, Nat.zero_le _⟩ rfl (fun H locs hw => ?_)
    exact rI hQ hx hb hr hlk hw dX4_favours_17 (o_2a h) (o_2b h) rfl
-- X4_friend
set_option maxRecDepth 100000 in
set_option maxHeartbeats 4000000 in
theorem kX4_friend (l : Launch) (G : sGl) {S : sWo} {M : sOb} {a1 : Int32} {q : (Int32 × sWo)}  (h : fX4_friend S a1 = some q) : sCt l G yX4_friend wsX4_friend rmX4_friend [.ref (sA G 0 0), .int a1] S M (some (.int q.1)) q.2 M := by
  refine cMk (cc := cX4_friend) (maxL := 4) (ret := (some .int)) (by decide) rfl (Nat.le_of_ble_eq_true rfl) ?_
  intro p e s m args below meth c Q hQ hx hb hr hlk hml hown hts hw ls hl
  have hown : s.vm.findClass RX4 = some m.cls := hown
  have hl : lv_has ls 4 [(0, .ref (sA G 0 0)), (1, .int a1)] := hl
  have hiX3 : ∀ w ∈ u_ws RX3 TX3 15, w ∈ wsX4_friend := by decide +kernel
  have hiX4 : ∀ w ∈ u_ws RX4 TX4 7, w ∈ wsX4_friend := by decide +kernel
  unfold fX4_friend at h
  refine lv_aload_n hx hb dX4_friend_0 rfl (lv_at hl 0 rfl) ?_
  refine gOw (v := .ref (sA G 1 0)) hx hb hts hiX4 hown hw 0 (by decide) (hts (.fieldLink RX4 10 "SecondHome" "track" "LSecondHome$Track;") (by decide +kernel)) rfl dX4_friend_1 ?_
  refine lv_iload_n hx hb dX4_friend_4 rfl (lv_at hl 1 rfl) ?_
  obtain ⟨q5, eq5, h⟩ := o_bd h
  refine kV (As := [.int a1]) (rest := []) (st' := [.int q5]) ⟨hx, hb, hml, hown, hts⟩ (kX3_has l G (Or.inl rfl) rfl eq5) (cwV 1 hts gX4_friend_X3_has rfl rfl rfl qqX3_has ⟨Nat.le_of_ble_eq_true rfl, Nat.le_of_ble_eq_true rfl⟩) hw (rvTk hw (Or.inl rfl)) rfl hl.1 rfl (Nat.le_of_ble_eq_true rfl) dX4_friend_5 ⟨Nat.zero_le _, Nat.zero_le _⟩ rfl (fun H locs hw => ?_)
  refine lv_if_ne (tgt := 18) hx hb dX4_friend_8 (by decide) (fun c8 => ?_) (fun c8 => ?_)
  · replace h := o_f c8 h
    refine lv_iconst (v := -1) hx hb dX4_friend_18 (by decide) ?_
    refine lv_istore_n (lv' := [(2, .int (-1 : Int32)), (0, .ref (sA G 0 0)), (1, .int a1)]) hx hb dX4_friend_19 rfl hl (by decide) rfl (fun ls hl => ?_)
    refine fx2_w (F := (bX4_friend_20 a1)) (P := fun x2_20 S_20 => ∀ (H : Heap) (locs : List Loc) (ls : Array Slot), sHw G s S_20 M H locs → lv_has ls 4 [(0, .ref (sA G 0 0)), (1, .int a1), (2, .int x2_20)] → W p l e rmX4_friend s m args below meth c H locs 0 0 Q (F0 m 20 ls [])) ?_ _ _ _ h _ _ _ hw (lv_sub hl [1, 2, 0] rfl)
    intro rc20 IH20 x2_20 S_20 h H locs ls hw hl
    unfold bX4_friend_20 at h
    refine lv_iload_n hx hb dX4_friend_20 rfl (lv_at hl 2 rfl) ?_
    refine lv_aload_n hx hb dX4_friend_21 rfl (lv_at hl 0 rfl) ?_
    refine gOw (v := .ref (sA G 1 0)) hx hb hts hiX4 hown hw 0 (by decide) (hts (.fieldLink RX4 10 "SecondHome" "track" "LSecondHome$Track;") (by decide +kernel)) rfl dX4_friend_22 ?_
    refine gTk (v := .int ((S_20 1).1 4)) hx hb hts hiX3 hown hw (Or.inl rfl) rfl 4 (by decide) (hts (.fieldLink RX4 64 "SecondHome$Track" "count" "I") (by decide +kernel)) rfl dX4_friend_25 ?_
    refine lv_icmp_ge (tgt := 67) hx hb dX4_friend_28 (by decide) (fun c28 => ?_) (fun c28 => ?_)
    · replace h := o_t c28 h
      refine lv_aload_n hx hb dX4_friend_67 rfl (lv_at hl 0 rfl) ?_
      refine lv_ldc (v := -1000000004) hx hb hown (hts (.constant RX4 178 (-1000000004)) (by decide +kernel)) dX4_friend_68 ?_
      obtain ⟨q70, eq70, h⟩ := o_bd h
      refine kV (As := [.int (-1000000004 : Int32)]) (rest := []) (st' := [.int q70.1]) ⟨hx, hb, hml, hown, hts⟩ (kX4_found l G eq70) (cwV 1 hts gX4_friend_X4_found rfl rfl rfl qqX4_found ⟨Nat.le_of_ble_eq_true rfl, Nat.le_of_ble_eq_true rfl⟩) hw (rvOw hw) rfl hl.1 rfl (Nat.le_of_ble_eq_true rfl) dX4_friend_70 ⟨Nat.zero_le _, Nat.zero_le _⟩ rfl (fun H locs hw => ?_)
      exact rI hQ hx hb hr hlk hw dX4_friend_73 (o_2a h) (o_2b h) rfl
    · replace h := o_f c28 h
      refine lv_iload_n hx hb dX4_friend_31 rfl (lv_at hl 2 rfl) ?_
      refine lv_iload_n hx hb dX4_friend_32 rfl (lv_at hl 1 rfl) ?_
      refine lv_icmp_ne (tgt := 39) hx hb dX4_friend_33 (by decide) (fun c33 => ?_) (fun c33 => ?_)
      · replace h := o_f c33 h
        refine lv_aload_n hx hb dX4_friend_39 rfl (lv_at hl 0 rfl) ?_
        obtain ⟨q40, eq40, h⟩ := o_bd h
        refine kV (As := []) (rest := []) (st' := [.ref (sA G 2 0)]) ⟨hx, hb, hml, hown, hts⟩ (kX4_tryOut l G eq40) (cwV 0 hts gX4_friend_X4_tryOut rfl rfl rfl qqX4_tryOut ⟨Nat.le_of_ble_eq_true rfl, Nat.le_of_ble_eq_true rfl⟩) hw (rvOw hw) rfl hl.1 rfl (Nat.le_of_ble_eq_true rfl) dX4_friend_40 ⟨Nat.zero_le _, Nat.zero_le _⟩ rfl (fun H locs hw => ?_)
        refine lv_astore_n (lv' := [(3, .ref (sA G 2 0)), (0, .ref (sA G 0 0)), (1, .int a1), (2, .int x2_20)]) hx hb dX4_friend_43 rfl hl (by decide) rfl (fun ls hl => ?_)
        refine lv_aload_n hx hb dX4_friend_44 rfl (lv_at hl 0 rfl) ?_
        refine gTk (v := .ref (sA G 2 4)) hx hb hts hiX3 hown hw (Or.inr (Or.inl rfl)) rfl 9 (by decide) (hts (.fieldLink RX4 85 "SecondHome$Track" "friends" "[I") (by decide +kernel)) rfl dX4_friend_45 ?_
        refine lv_iload_n hx hb dX4_friend_48 rfl (lv_at hl 2 rfl) ?_
        refine lv_iload_n hx hb dX4_friend_49 rfl (lv_at hl 3 rfl) ?_
        obtain ⟨b50, h⟩ := o_in h
        refine stTk hx hb hw (Or.inr (Or.inl rfl)) rfl 3 (by decide) b50 dX4_friend_50 rfl (fun H locs hw => ?_)
        obtain ⟨S50, eS50, h⟩ := o_nm h
        rw [← eS50] at hw
        refine lv_aload_n hx hb dX4_friend_51 rfl (lv_at hl 0 rfl) ?_
        obtain ⟨q52, eq52, h⟩ := o_bd h
        refine kV (As := []) (rest := []) (st' := [.int q52.1]) ⟨hx, hb, hml, hown, hts⟩ (kX3_raceOwner l G (Or.inr (Or.inl rfl)) rfl eq52) (cwV 0 hts gX4_friend_X3_raceOwner rfl rfl rfl qqX3_raceOwner ⟨Nat.le_of_ble_eq_true rfl, Nat.le_of_ble_eq_true rfl⟩) hw (rvTk hw (Or.inr (Or.inl rfl))) rfl hl.1 rfl (Nat.le_of_ble_eq_true rfl) dX4_friend_52 ⟨Nat.zero_le _, Nat.zero_le _⟩ rfl (fun H locs hw => ?_)
        obtain ⟨S52, eS52, h⟩ := o_nm h
        rw [← eS52] at hw
        refine lv_iload_n hx hb dX4_friend_55 rfl (lv_at hl 2 rfl) ?_
        refine lv_icmp_ne (tgt := 61) hx hb dX4_friend_56 (by decide) (fun c56 => ?_) (fun c56 => ?_)
        · replace h := o_f c56 h
          obtain ⟨v61, ev61, h⟩ := o_nm h
          refine lv_iinc (v := v61) (lv' := [(2, .int v61), (3, .ref (sA G 2 0)), (0, .ref (sA G 0 0)), (1, .int a1)]) hx hb dX4_friend_61 hl (k := 3) rfl (by rw [ev61]; rfl) (by decide) rfl (fun ls hl => ?_)
          refine lv_goto (tgt := 20) hx hb dX4_friend_64 (by decide) ?_
          exact IH20 v61 S52 h _ _ _ hw (lv_sub hl [2, 3, 0] rfl)
        · replace h := o_t c56 h
          refine lv_iload_n hx hb dX4_friend_59 rfl (lv_at hl 3 rfl) ?_
          exact rI hQ hx hb hr hlk hw dX4_friend_60 (o_2a h) (o_2b h) rfl
      · replace h := o_t c33 h
        refine lv_goto (tgt := 61) hx hb dX4_friend_36 (by decide) ?_
        obtain ⟨v61, ev61, h⟩ := o_nm h
        refine lv_iinc (v := v61) (lv' := [(2, .int v61), (0, .ref (sA G 0 0)), (1, .int a1)]) hx hb dX4_friend_61 hl (k := 2) rfl (by rw [ev61]; rfl) (by decide) rfl (fun ls hl => ?_)
        refine lv_goto (tgt := 20) hx hb dX4_friend_64 (by decide) ?_
        exact IH20 v61 S_20 h _ _ _ hw (lv_sub hl [1, 2, 0] rfl)
  · replace h := o_t c8 h
    refine lv_aload_n hx hb dX4_friend_11 rfl (lv_at hl 0 rfl) ?_
    refine lv_ldc (v := -1000000001) hx hb hown (hts (.constant RX4 50 (-1000000001)) (by decide +kernel)) dX4_friend_12 ?_
    obtain ⟨q14, eq14, h⟩ := o_bd h
    refine kV (As := [.int (-1000000001 : Int32)]) (rest := []) (st' := [.int q14.1]) ⟨hx, hb, hml, hown, hts⟩ (kX4_found l G eq14) (cwV 1 hts gX4_friend_X4_found rfl rfl rfl qqX4_found ⟨Nat.le_of_ble_eq_true rfl, Nat.le_of_ble_eq_true rfl⟩) hw (rvOw hw) rfl hl.1 rfl (Nat.le_of_ble_eq_true rfl) dX4_friend_14 ⟨Nat.zero_le _, Nat.zero_le _⟩ rfl (fun H locs hw => ?_)
    exact rI hQ hx hb hr hlk hw dX4_friend_17 (o_2a h) (o_2b h) rfl
