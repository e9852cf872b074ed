-- X4_found
set_option maxRecDepth 100000 in
set_option maxHeartbeats 4000000 in
theorem kX4_found (l : Launch) (G : sGl) {S : sWo} {M : sOb} {a1 : Int32} {q : (Int32 × sWo)}  (h : fX4_found S a1 = some q) : sCt l G yX4_found wsX4_found rmX4_found [.ref (sA G 0 0), .int a1] S M (some (.int q.1)) q.2 M := by
  refine cMk (cc := cX4_found) (maxL := 3) (ret := (some .int)) (by decide) rfl (Nat.le_of_ble_eq_true rfl) ?_
  intro p e s m args below meth c Q hQ hx hb hr hlk hml hown hts hw ls hl
  have hown : s.vm.findClass RX4 = some m.cls := hown
  have hl : lv_has ls 3 [(0, .ref (sA G 0 0)), (1, .int a1)] := hl
  have hiX4 : ∀ w ∈ u_ws RX4 TX4 7, w ∈ wsX4_found := by decide +kernel
  unfold fX4_found at h
  refine lv_ldc (v := -1000000001) hx hb hown (hts (.constant RX4 50 (-1000000001)) (by decide +kernel)) dX4_found_0 ?_
  refine lv_iload_n hx hb dX4_found_2 rfl (lv_at hl 1 rfl) ?_
  refine lv_isub hx hb dX4_found_3 ?_
  refine lv_topi (fun v4 ev4 => ?_)
  replace h := o_nx ev4 h
  refine lv_istore_n (lv' := [(2, .int v4), (0, .ref (sA G 0 0)), (1, .int a1)]) hx hb dX4_found_4 rfl hl (by decide) rfl (fun ls hl => ?_)
  refine lv_iload_n hx hb dX4_found_5 rfl (lv_at hl 0 rfl) ?_
  refine lv_if_lt (tgt := 25) hx hb dX4_found_6 (by decide) (fun c6 => ?_) (fun c6 => ?_)
  · replace h := o_t c6 h
    refine lv_iload_n hx hb dX4_found_25 rfl (lv_at hl 2 rfl) ?_
    exact rI hQ hx hb hr hlk hw dX4_found_26 (o_2a h) (o_2b h) rfl
  · replace h := o_f c6 h
    refine lv_iload_n hx hb dX4_found_9 rfl (lv_at hl 0 rfl) ?_
    refine lv_bipush (v := 7) hx hb dX4_found_10 (by decide) ?_
    refine lv_icmp_ge (tgt := 25) hx hb dX4_found_12 (by decide) (fun c12 => ?_) (fun c12 => ?_)
    · replace h := o_t c12 h
      refine lv_iload_n hx hb dX4_found_25 rfl (lv_at hl 2 rfl) ?_
      exact rI hQ hx hb hr hlk hw dX4_found_26 (o_2a h) (o_2b h) rfl
    · replace h := o_f c12 h
      refine lv_aload_n hx hb dX4_found_15 rfl (lv_at hl 1 rfl) ?_
      refine gOw (v := .ref (sA G 0 1)) hx hb hts hiX4 hown hw 6 (by decide) (hts (.fieldLink RX4 35 "SecondHome" "findings" "[I") (by decide +kernel)) rfl dX4_found_16 ?_
      refine lv_iload_n hx hb dX4_found_19 rfl (lv_at hl 0 rfl) ?_
      refine lv_dup2_11 hx hb dX4_found_20 rfl rfl ?_
      obtain ⟨b21, h⟩ := o_in h
      refine ldOw hx hb hw b21 dX4_found_21 ?_
      refine lv_iconst (v := 1) hx hb dX4_found_22 (by decide) ?_
      refine lv_iadd hx hb dX4_found_23 ?_
      refine stOw hx hb hw b21 dX4_found_24 rfl (fun H locs hw => ?_)
      obtain ⟨S24, eS24, h⟩ := o_nm h
      rw [← eS24] at hw
      refine lv_iload_n hx hb dX4_found_25 rfl (lv_at hl 2 rfl) ?_
      exact rI hQ hx hb hr hlk hw dX4_found_26 (o_2a h) (o_2b h) rfl
-- X4_letLength
set_option maxRecDepth 100000 in
set_option maxHeartbeats 4000000 in
theorem kX4_letLength (l : Launch) (G : sGl) {S : sWo} {M : sOb} {a1 : Int32} {q : (Int32 × sWo)}  (h : fX4_letLength S a1 = some q) : sCt l G yX4_letLength wsX4_letLength rmX4_letLength [.ref (sA G 0 0), .int a1] S M (some (.int q.1)) q.2 M := by
  refine cMk (cc := cX4_letLength) (maxL := 3) (ret := (some .int)) (by decide) rfl (Nat.le_of_ble_eq_true rfl) ?_
  intro p e s m args below meth c Q hQ hx hb hr hlk hml hown hts hw ls hl
  have hown : s.vm.findClass RX4 = some m.cls := hown
  have hl : lv_has ls 3 [(0, .ref (sA G 0 0)), (1, .int a1)] := hl
  have hiX3 : ∀ w ∈ u_ws RX3 TX3 15, w ∈ wsX4_letLength := by decide +kernel
  have hiX4 : ∀ w ∈ u_ws RX4 TX4 7, w ∈ wsX4_letLength := by decide +kernel
  unfold fX4_letLength at h
  refine lv_iload_n hx hb dX4_letLength_0 rfl (lv_at hl 1 rfl) ?_
  refine lv_bipush (v := 10) hx hb dX4_letLength_1 (by decide) ?_
  refine lv_icmp_lt (tgt := 13) hx hb dX4_letLength_3 (by decide) (fun c3 => ?_) (fun c3 => ?_)
  · replace h := o_t c3 h
    refine lv_aload_n hx hb dX4_letLength_13 rfl (lv_at hl 0 rfl) ?_
    refine lv_ldc (v := -1000000001) hx hb hown (hts (.constant RX4 50 (-1000000001)) (by decide +kernel)) dX4_letLength_14 ?_
    obtain ⟨q16, eq16, h⟩ := o_bd h
    refine kV (As := [.int (-1000000001 : Int32)]) (rest := []) (st' := [.int q16.1]) ⟨hx, hb, hml, hown, hts⟩ (kX4_found l G eq16) (cwV 1 hts gX4_letLength_X4_found rfl rfl rfl qqX4_found ⟨Nat.le_of_ble_eq_true rfl, Nat.le_of_ble_eq_true rfl⟩) hw (rvOw hw) rfl hl.1 rfl (Nat.le_of_ble_eq_true rfl) dX4_letLength_16 ⟨Nat.zero_le _, Nat.zero_le _⟩ rfl (fun H locs hw => ?_)
    exact rI hQ hx hb hr hlk hw dX4_letLength_19 (o_2a h) (o_2b h) rfl
  · replace h := o_f c3 h
    refine lv_iload_n hx hb dX4_letLength_6 rfl (lv_at hl 1 rfl) ?_
    refine lv_sipush (v := 9999) hx hb dX4_letLength_7 (by decide) ?_
    refine lv_icmp_le (tgt := 20) hx hb dX4_letLength_10 (by decide) (fun c10 => ?_) (fun c10 => ?_)
    · replace h := o_t c10 h
      refine lv_aload_n hx hb dX4_letLength_20 rfl (lv_at hl 0 rfl) ?_
      refine gOw (v := .ref (sA G 1 0)) hx hb hts hiX4 hown hw 0 (by decide) (hts (.fieldLink RX4 10 "SecondHome" "track" "LSecondHome$Track;") (by decide +kernel)) rfl dX4_letLength_21 ?_
      refine gTk (v := .int ((S 1).1 4)) hx hb hts hiX3 hown hw (Or.inl rfl) rfl 4 (by decide) (hts (.fieldLink RX4 64 "SecondHome$Track" "count" "I") (by decide +kernel)) rfl dX4_letLength_24 ?_
      refine lv_if_le (tgt := 37) hx hb dX4_letLength_27 (by decide) (fun c27 => ?_) (fun c27 => ?_)
      · replace h := o_t c27 h
        refine lv_aload_n hx hb dX4_letLength_37 rfl (lv_at hl 0 rfl) ?_
        refine gOw (v := .ref (sA G 1 0)) hx hb hts hiX4 hown hw 0 (by decide) (hts (.fieldLink RX4 10 "SecondHome" "track" "LSecondHome$Track;") (by decide +kernel)) rfl dX4_letLength_38 ?_
        refine gTk (v := .int ((S 1).1 0)) hx hb hts hiX3 hown hw (Or.inl rfl) rfl 0 (by decide) (hts (.fieldLink RX4 145 "SecondHome$Track" "length" "I") (by decide +kernel)) rfl dX4_letLength_41 ?_
        refine lv_topi (fun v44 ev44 => ?_)
        replace h := o_nx ev44 h
        refine lv_istore_n (lv' := [(2, .int v44), (0, .ref (sA G 0 0)), (1, .int a1)]) hx hb dX4_letLength_44 rfl hl (by decide) rfl (fun ls hl => ?_)
        refine lv_aload_n hx hb dX4_letLength_45 rfl (lv_at hl 1 rfl) ?_
        refine gOw (v := .ref (sA G 1 0)) hx hb hts hiX4 hown hw 0 (by decide) (hts (.fieldLink RX4 10 "SecondHome" "track" "LSecondHome$Track;") (by decide +kernel)) rfl dX4_letLength_46 ?_
        refine lv_iload_n hx hb dX4_letLength_49 rfl (lv_at hl 2 rfl) ?_
        refine pTk hx hb hts hiX3 hown hw (Or.inl rfl) rfl 0 (by decide) (hts (.fieldLink RX4 145 "SecondHome$Track" "length" "I") (by decide +kernel)) dX4_letLength_50 rfl (fun H locs hw => ?_)
        obtain ⟨S50, eS50, h⟩ := o_nm h
        rw [← eS50] at hw
        refine lv_iload_n hx hb dX4_letLength_53 rfl (lv_at hl 0 rfl) ?_
        exact rI hQ hx hb hr hlk hw dX4_letLength_54 (o_2a h) (o_2b h) rfl
      · replace h := o_f c27 h
        refine lv_aload_n hx hb dX4_letLength_30 rfl (lv_at hl 0 rfl) ?_
        refine lv_ldc (v := -1000000005) hx hb hown (hts (.constant RX4 123 (-1000000005)) (by decide +kernel)) dX4_letLength_31 ?_
        obtain ⟨q33, eq33, h⟩ := o_bd h
        refine kV (As := [.int (-1000000005 : Int32)]) (rest := []) (st' := [.int q33.1]) ⟨hx, hb, hml, hown, hts⟩ (kX4_found l G eq33) (cwV 1 hts gX4_letLength_X4_found rfl rfl rfl qqX4_found ⟨Nat.le_of_ble_eq_true rfl, Nat.le_of_ble_eq_true rfl⟩) hw (rvOw hw) rfl hl.1 rfl (Nat.le_of_ble_eq_true rfl) dX4_letLength_33 ⟨Nat.zero_le _, Nat.zero_le _⟩ rfl (fun H locs hw => ?_)
        exact rI hQ hx hb hr hlk hw dX4_letLength_36 (o_2a h) (o_2b h) rfl
    · replace h := o_f c10 h
      refine lv_aload_n hx hb dX4_letLength_13 rfl (lv_at hl 0 rfl) ?_
      refine lv_ldc (v := -1000000001) hx hb hown (hts (.constant RX4 50 (-1000000001)) (by decide +kernel)) dX4_letLength_14 ?_
      obtain ⟨q16, eq16, h⟩ := o_bd h
      refine kV (As := [.int (-1000000001 : Int32)]) (rest := []) (st' := [.int q16.1]) ⟨hx, hb, hml, hown, hts⟩ (kX4_found l G eq16) (cwV 1 hts gX4_letLength_X4_found rfl rfl rfl qqX4_found ⟨Nat.le_of_ble_eq_true rfl, Nat.le_of_ble_eq_true rfl⟩) hw (rvOw hw) rfl hl.1 rfl (Nat.le_of_ble_eq_true rfl) dX4_letLength_16 ⟨Nat.zero_le _, Nat.zero_le _⟩ rfl (fun H locs hw => ?_)
      exact rI hQ hx hb hr hlk hw dX4_letLength_19 (o_2a h) (o_2b h) rfl
-- X4_letLeast
set_option maxRecDepth 100000 in
set_option maxHeartbeats 4000000 in
theorem kX4_letLeast (l : Launch) (G : sGl) {S : sWo} {M : sOb} {a1 : Int32} {q : (Int32 × sWo)}  (h : fX4_letLeast S a1 = some q) : sCt l G yX4_letLeast wsX4_letLeast rmX4_letLeast [.ref (sA G 0 0), .int a1] S M (some (.int q.1)) q.2 M := by
  refine cMk (cc := cX4_letLeast) (maxL := 3) (ret := (some .int)) (by decide) rfl (Nat.le_of_ble_eq_true rfl) ?_
  intro p e s m args below meth c Q hQ hx hb hr hlk hml hown hts hw ls hl
  have hown : s.vm.findClass RX4 = some m.cls := hown
  have hl : lv_has ls 3 [(0, .ref (sA G 0 0)), (1, .int a1)] := hl
  have hiX3 : ∀ w ∈ u_ws RX3 TX3 15, w ∈ wsX4_letLeast := by decide +kernel
  have hiX4 : ∀ w ∈ u_ws RX4 TX4 7, w ∈ wsX4_letLeast := by decide +kernel
  unfold fX4_letLeast at h
  refine lv_iload_n hx hb dX4_letLeast_0 rfl (lv_at hl 1 rfl) ?_
  refine lv_if_lt (tgt := 9) hx hb dX4_letLeast_1 (by decide) (fun c1 => ?_) (fun c1 => ?_)
  · replace h := o_t c1 h
    refine lv_aload_n hx hb dX4_letLeast_9 rfl (lv_at hl 0 rfl) ?_
    refine lv_ldc (v := -1000000001) hx hb hown (hts (.constant RX4 50 (-1000000001)) (by decide +kernel)) dX4_letLeast_10 ?_
    obtain ⟨q12, eq12, h⟩ := o_bd h
    refine kV (As := [.int (-1000000001 : Int32)]) (rest := []) (st' := [.int q12.1]) ⟨hx, hb, hml, hown, hts⟩ (kX4_found l G eq12) (cwV 1 hts gX4_letLeast_X4_found rfl rfl rfl qqX4_found ⟨Nat.le_of_ble_eq_true rfl, Nat.le_of_ble_eq_true rfl⟩) hw (rvOw hw) rfl hl.1 rfl (Nat.le_of_ble_eq_true rfl) dX4_letLeast_12 ⟨Nat.zero_le _, Nat.zero_le _⟩ rfl (fun H locs hw => ?_)
    exact rI hQ hx hb hr hlk hw dX4_letLeast_15 (o_2a h) (o_2b h) rfl
  · replace h := o_f c1 h
    refine lv_iload_n hx hb dX4_letLeast_4 rfl (lv_at hl 1 rfl) ?_
    refine lv_iconst (v := 5) hx hb dX4_letLeast_5 (by decide) ?_
    refine lv_icmp_le (tgt := 16) hx hb dX4_letLeast_6 (by decide) (fun c6 => ?_) (fun c6 => ?_)
    · replace h := o_t c6 h
      refine lv_aload_n hx hb dX4_letLeast_16 rfl (lv_at hl 0 rfl) ?_
      refine gOw (v := .ref (sA G 1 0)) hx hb hts hiX4 hown hw 0 (by decide) (hts (.fieldLink RX4 10 "SecondHome" "track" "LSecondHome$Track;") (by decide +kernel)) rfl dX4_letLeast_17 ?_
      refine gTk (v := .int ((S 1).1 1)) hx hb hts hiX3 hown hw (Or.inl rfl) rfl 1 (by decide) (hts (.fieldLink RX4 148 "SecondHome$Track" "least" "I") (by decide +kernel)) rfl dX4_letLeast_20 ?_
      refine lv_topi (fun v23 ev23 => ?_)
      replace h := o_nx ev23 h
      refine lv_istore_n (lv' := [(2, .int v23), (0, .ref (sA G 0 0)), (1, .int a1)]) hx hb dX4_letLeast_23 rfl hl (by decide) rfl (fun ls hl => ?_)
      refine lv_aload_n hx hb dX4_letLeast_24 rfl (lv_at hl 1 rfl) ?_
      refine gOw (v := .ref (sA G 1 0)) hx hb hts hiX4 hown hw 0 (by decide) (hts (.fieldLink RX4 10 "SecondHome" "track" "LSecondHome$Track;") (by decide +kernel)) rfl dX4_letLeast_25 ?_
      refine lv_iload_n hx hb dX4_letLeast_28 rfl (lv_at hl 2 rfl) ?_
      refine pTk hx hb hts hiX3 hown hw (Or.inl rfl) rfl 1 (by decide) (hts (.fieldLink RX4 148 "SecondHome$Track" "least" "I") (by decide +kernel)) dX4_letLeast_29 rfl (fun H locs hw => ?_)
      obtain ⟨S29, eS29, h⟩ := o_nm h
      rw [← eS29] at hw
      refine lv_iload_n hx hb dX4_letLeast_32 rfl (lv_at hl 0 rfl) ?_
      exact rI hQ hx hb hr hlk hw dX4_letLeast_33 (o_2a h) (o_2b h) rfl
    · replace h := o_f c6 h
      refine lv_aload_n hx hb dX4_letLeast_9 rfl (lv_at hl 0 rfl) ?_
      refine lv_ldc (v := -1000000001) hx hb hown (hts (.constant RX4 50 (-1000000001)) (by decide +kernel)) dX4_letLeast_10 ?_
      obtain ⟨q12, eq12, h⟩ := o_bd h
      refine kV (As := [.int (-1000000001 : Int32)]) (rest := []) (st' := [.int q12.1]) ⟨hx, hb, hml, hown, hts⟩ (kX4_found l G eq12) (cwV 1 hts gX4_letLeast_X4_found rfl rfl rfl qqX4_found ⟨Nat.le_of_ble_eq_true rfl, Nat.le_of_ble_eq_true rfl⟩) hw (rvOw hw) rfl hl.1 rfl (Nat.le_of_ble_eq_true rfl) dX4_letLeast_12 ⟨Nat.zero_le _, Nat.zero_le _⟩ rfl (fun H locs hw => ?_)
      exact rI hQ hx hb hr hlk hw dX4_letLeast_15 (o_2a h) (o_2b h) rfl
-- X4_isLaw
set_option maxRecDepth 100000 in
set_option maxHeartbeats 4000000 in
theorem kX4_isLaw (l : Launch) (G : sGl) {S : sWo} {M : sOb} {a0 : Int32} {q : Int32}  (h : fX4_isLaw a0 = some q) : sCt l G yX4_isLaw wsX4_isLaw rmX4_isLaw [.int a0] S M (some (.int q)) S M := by
  refine cMk (cc := cX4_isLaw) (maxL := 1) (ret := (some .boolean)) (by decide) rfl (Nat.le_of_ble_eq_true rfl) ?_
  intro p e s m args below meth c Q hQ hx hb hr hlk hml hown hts hw ls hl
  have hown : s.vm.findClass RX4 = some m.cls := hown
  have hl : lv_has ls 1 [(0, .int a0)] := hl
  unfold fX4_isLaw at h
  refine lv_iload_n hx hb dX4_isLaw_0 rfl (lv_at hl 0 rfl) ?_
  refine lv_if_lt (tgt := 13) hx hb dX4_isLaw_1 (by decide) (fun c1 => ?_) (fun c1 => ?_)
  · replace h := o_t c1 h
    refine lv_iconst (v := 0) hx hb dX4_isLaw_13 (by decide) ?_
    exact rZ hQ hx hb hr hlk hw (Or.inl rfl) dX4_isLaw_14 (o_1 h) rfl rfl
  · replace h := o_f c1 h
    refine lv_iload_n hx hb dX4_isLaw_4 rfl (lv_at hl 0 rfl) ?_
    refine lv_iconst (v := 4) hx hb dX4_isLaw_5 (by decide) ?_
    refine lv_icmp_ge (tgt := 13) hx hb dX4_isLaw_6 (by decide) (fun c6 => ?_) (fun c6 => ?_)
    · replace h := o_t c6 h
      refine lv_iconst (v := 0) hx hb dX4_isLaw_13 (by decide) ?_
      exact rZ hQ hx hb hr hlk hw (Or.inl rfl) dX4_isLaw_14 (o_1 h) rfl rfl
    · replace h := o_f c6 h
      refine lv_iconst (v := 1) hx hb dX4_isLaw_9 (by decide) ?_
      refine lv_goto (tgt := 14) hx hb dX4_isLaw_10 (by decide) ?_
      exact rZ hQ hx hb hr hlk hw (Or.inr rfl) dX4_isLaw_14 (o_1 h) rfl rfl
-- X4_letLaw
set_option maxRecDepth 100000 in
set_option maxHeartbeats 4000000 in
theorem kX4_letLaw (l : Launch) (G : sGl) {S : sWo} {M : sOb} {a1 : Int32} {q : (Int32 × sWo)}  (h : fX4_letLaw S a1 = some q) : sCt l G yX4_letLaw wsX4_letLaw rmX4_letLaw [.ref (sA G 0 0), .int a1] S M (some (.int q.1)) q.2 M := by
  refine cMk (cc := cX4_letLaw) (maxL := 3) (ret := (some .int)) (by decide) rfl (Nat.le_of_ble_eq_true rfl) ?_
  intro p e s m args below meth c Q hQ hx hb hr hlk hml hown hts hw ls hl
  have hown : s.vm.findClass RX4 = some m.cls := hown
  have hl : lv_has ls 3 [(0, .ref (sA G 0 0)), (1, .int a1)] := hl
  have hiX3 : ∀ w ∈ u_ws RX3 TX3 15, w ∈ wsX4_letLaw := by decide +kernel
  have hiX4 : ∀ w ∈ u_ws RX4 TX4 7, w ∈ wsX4_letLaw := by decide +kernel
  unfold fX4_letLaw at h
  refine lv_iload_n hx hb dX4_letLaw_0 rfl (lv_at hl 1 rfl) ?_
  obtain ⟨q1, eq1, h⟩ := o_bd h
  refine kS (As := [.int a1]) (rest := []) (st' := [.int q1]) ⟨hx, hb, hml, hown, hts⟩ (kX4_isLaw l G eq1) (va_cwS 1 hts gX4_letLaw_X4_isLaw rfl rfl rfl qqX4_isLaw ⟨Nat.le_of_ble_eq_true rfl, Nat.le_of_ble_eq_true rfl⟩) hw rfl hl.1 rfl (Nat.le_of_ble_eq_true rfl) dX4_letLaw_1 ⟨Nat.zero_le _, Nat.zero_le _⟩ rfl (fun H locs hw => ?_)
  refine lv_if_ne (tgt := 14) hx hb dX4_letLaw_4 (by decide) (fun c4 => ?_) (fun c4 => ?_)
  · replace h := o_f c4 h
    refine lv_aload_n hx hb dX4_letLaw_14 rfl (lv_at hl 0 rfl) ?_
    refine gOw (v := .ref (sA G 1 0)) hx hb hts hiX4 hown hw 0 (by decide) (hts (.fieldLink RX4 10 "SecondHome" "track" "LSecondHome$Track;") (by decide +kernel)) rfl dX4_letLaw_15 ?_
    refine gTk (v := .int ((S 1).1 2)) hx hb hts hiX3 hown hw (Or.inl rfl) rfl 2 (by decide) (hts (.fieldLink RX4 151 "SecondHome$Track" "law" "I") (by decide +kernel)) rfl dX4_letLaw_18 ?_
    refine lv_topi (fun v21 ev21 => ?_)
    replace h := o_nx ev21 h
    refine lv_istore_n (lv' := [(2, .int v21), (0, .ref (sA G 0 0)), (1, .int a1)]) hx hb dX4_letLaw_21 rfl hl (by decide) rfl (fun ls hl => ?_)
    refine lv_aload_n hx hb dX4_letLaw_22 rfl (lv_at hl 1 rfl) ?_
    refine gOw (v := .ref (sA G 1 0)) hx hb hts hiX4 hown hw 0 (by decide) (hts (.fieldLink RX4 10 "SecondHome" "track" "LSecondHome$Track;") (by decide +kernel)) rfl dX4_letLaw_23 ?_
    refine lv_iload_n hx hb dX4_letLaw_26 rfl (lv_at hl 2 rfl) ?_
    refine pTk hx hb hts hiX3 hown hw (Or.inl rfl) rfl 2 (by decide) (hts (.fieldLink RX4 151 "SecondHome$Track" "law" "I") (by decide +kernel)) dX4_letLaw_27 rfl (fun H locs hw => ?_)
    obtain ⟨S27, eS27, h⟩ := o_nm h
    rw [← eS27] at hw
    refine lv_iload_n hx hb dX4_letLaw_30 rfl (lv_at hl 0 rfl) ?_
    exact rI hQ hx hb hr hlk hw dX4_letLaw_31 (o_2a h) (o_2b h) rfl
  · replace h := o_t c4 h
    refine lv_aload_n hx hb dX4_letLaw_7 rfl (lv_at hl 0 rfl) ?_
    refine lv_ldc (v := -1000000001) hx hb hown (hts (.constant RX4 50 (-1000000001)) (by decide +kernel)) dX4_letLaw_8 ?_
    obtain ⟨q10, eq10, h⟩ := o_bd h
    refine kV (As := [.int (-1000000001 : Int32)]) (rest := []) (st' := [.int q10.1]) ⟨hx, hb, hml, hown, hts⟩ (kX4_found l G eq10) (cwV 1 hts gX4_letLaw_X4_found rfl rfl rfl qqX4_found ⟨Nat.le_of_ble_eq_true rfl, Nat.le_of_ble_eq_true rfl⟩) hw (rvOw hw) rfl hl.1 rfl (Nat.le_of_ble_eq_true rfl) dX4_letLaw_10 ⟨Nat.zero_le _, Nat.zero_le _⟩ rfl (fun H locs hw => ?_)
    exact rI hQ hx hb hr hlk hw dX4_letLaw_13 (o_2a h) (o_2b h) rfl
-- X4_let
set_option maxRecDepth 100000 in
set_option maxHeartbeats 4000000 in
theorem kX4_let (l : Launch) (G : sGl) {S : sWo} {M : sOb} {a1 : Int32} {a2 : Int32} {q : (Int32 × sWo)}  (h : fX4_let S a1 a2 = some q) : sCt l G yX4_let wsX4_let rmX4_let [.ref (sA G 0 0), .int a1, .int a2] S M (some (.int q.1)) q.2 M := by
  refine cMk (cc := cX4_let) (maxL := 3) (ret := (some .int)) (by decide) rfl (Nat.le_of_ble_eq_true rfl) ?_
  intro p e s m args below meth c Q hQ hx hb hr hlk hml hown hts hw ls hl
  have hown : s.vm.findClass RX4 = some m.cls := hown
  have hl : lv_has ls 3 [(0, .ref (sA G 0 0)), (1, .int a1), (2, .int a2)] := hl
  unfold fX4_let at h
  refine lv_iload_n hx hb dX4_let_0 rfl (lv_at hl 1 rfl) ?_
  by_cases c1_0 : a1 = (0 : Int32)
  · replace h := o_t c1_0 h
    refine lv_tableIn (tgt := 28) hx hb dX4_let_1 (by rw [c1_0]; decide) (by rw [c1_0]; decide) (by rw [c1_0]; rfl) (by decide) ?_
    refine lv_aload_n hx hb dX4_let_28 rfl (lv_at hl 0 rfl) ?_
    refine lv_iload_n hx hb dX4_let_29 rfl (lv_at hl 2 rfl) ?_
    obtain ⟨q30, eq30, h⟩ := o_bd h
    refine kV (As := [.int a2]) (rest := []) (st' := [.int q30.1]) ⟨hx, hb, hml, hown, hts⟩ (kX4_letLength l G eq30) (cwV 1 hts gX4_let_X4_letLength rfl rfl rfl qqX4_letLength ⟨Nat.le_of_ble_eq_true rfl, Nat.le_of_ble_eq_true rfl⟩) hw (rvOw hw) rfl hl.1 rfl (Nat.le_of_ble_eq_true rfl) dX4_let_30 ⟨Nat.zero_le _, Nat.zero_le _⟩ rfl (fun H locs hw => ?_)
    exact rI hQ hx hb hr hlk hw dX4_let_33 (o_2a h) (o_2b h) rfl
  replace h := o_f c1_0 h
  by_cases c1_1 : a1 = (1 : Int32)
  · replace h := o_t c1_1 h
    refine lv_tableIn (tgt := 34) hx hb dX4_let_1 (by rw [c1_1]; decide) (by rw [c1_1]; decide) (by rw [c1_1]; rfl) (by decide) ?_
    refine lv_aload_n hx hb dX4_let_34 rfl (lv_at hl 0 rfl) ?_
    refine lv_iload_n hx hb dX4_let_35 rfl (lv_at hl 2 rfl) ?_
    obtain ⟨q36, eq36, h⟩ := o_bd h
    refine kV (As := [.int a2]) (rest := []) (st' := [.int q36.1]) ⟨hx, hb, hml, hown, hts⟩ (kX4_letLeast l G eq36) (cwV 1 hts gX4_let_X4_letLeast rfl rfl rfl qqX4_letLeast ⟨Nat.le_of_ble_eq_true rfl, Nat.le_of_ble_eq_true rfl⟩) hw (rvOw hw) rfl hl.1 rfl (Nat.le_of_ble_eq_true rfl) dX4_let_36 ⟨Nat.zero_le _, Nat.zero_le _⟩ rfl (fun H locs hw => ?_)
    exact rI hQ hx hb hr hlk hw dX4_let_39 (o_2a h) (o_2b h) rfl
  replace h := o_f c1_1 h
  by_cases c1_2 : a1 = (2 : Int32)
  · replace h := o_t c1_2 h
    refine lv_tableIn (tgt := 40) hx hb dX4_let_1 (by rw [c1_2]; decide) (by rw [c1_2]; decide) (by rw [c1_2]; rfl) (by decide) ?_
    refine lv_aload_n hx hb dX4_let_40 rfl (lv_at hl 0 rfl) ?_
    refine lv_iload_n hx hb dX4_let_41 rfl (lv_at hl 2 rfl) ?_
    obtain ⟨q42, eq42, h⟩ := o_bd h
    refine kV (As := [.int a2]) (rest := []) (st' := [.int q42.1]) ⟨hx, hb, hml, hown, hts⟩ (kX4_letLaw l G eq42) (cwV 1 hts gX4_let_X4_letLaw rfl rfl rfl qqX4_letLaw ⟨Nat.le_of_ble_eq_true rfl, Nat.le_of_ble_eq_true rfl⟩) hw (rvOw hw) rfl hl.1 rfl (Nat.le_of_ble_eq_true rfl) dX4_let_42 ⟨Nat.zero_le _, Nat.zero_le _⟩ rfl (fun H locs hw => ?_)
    exact rI hQ hx hb hr hlk hw dX4_let_45 (o_2a h) (o_2b h) rfl
  replace h := o_f c1_2 h
  have sw1 : a1.toInt < 0 ∨ 2 < a1.toInt := by
    have z0 := sw_ne c1_0
    have z1 := sw_ne c1_1
    have z2 := sw_ne c1_2
    rw [show ((0 : Int32)).toInt = 0 from rfl] at z0
    rw [show ((1 : Int32)).toInt = 1 from rfl] at z1
    rw [show ((2 : Int32)).toInt = 2 from rfl] at z2
    omega
  refine lv_tableOut (tgt := 46) hx hb dX4_let_1 sw1 (by decide) ?_
  refine lv_aload_n hx hb dX4_let_46 rfl (lv_at hl 0 rfl) ?_
  refine lv_ldc (v := -1000000001) hx hb hown (hts (.constant RX4 50 (-1000000001)) (by decide +kernel)) dX4_let_47 ?_
  obtain ⟨q49, eq49, h⟩ := o_bd h
  refine kV (As := [.int (-1000000001 : Int32)]) (rest := []) (st' := [.int q49.1]) ⟨hx, hb, hml, hown, hts⟩ (kX4_found l G eq49) (cwV 1 hts gX4_let_X4_found rfl rfl rfl qqX4_found ⟨Nat.le_of_ble_eq_true rfl, Nat.le_of_ble_eq_true rfl⟩) hw (rvOw hw) rfl hl.1 rfl (Nat.le_of_ble_eq_true rfl) dX4_let_49 ⟨Nat.zero_le _, Nat.zero_le _⟩ rfl (fun H locs hw => ?_)
  exact rI hQ hx hb hr hlk hw dX4_let_52 (o_2a h) (o_2b h) rfl
-- X4_isKind
set_option maxRecDepth 100000 in
set_option maxHeartbeats 4000000 in
theorem kX4_isKind (l : Launch) (G : sGl) {S : sWo} {M : sOb} {a0 : Int32} {q : Int32}  (h : fX4_isKind a0 = some q) : sCt l G yX4_isKind wsX4_isKind rmX4_isKind [.int a0] S M (some (.int q)) S M := by
  refine cMk (cc := cX4_isKind) (maxL := 1) (ret := (some .boolean)) (by decide) rfl (Nat.le_of_ble_eq_true rfl) ?_
  intro p e s m args below meth c Q hQ hx hb hr hlk hml hown hts hw ls hl
  have hown : s.vm.findClass RX4 = some m.cls := hown
  have hl : lv_has ls 1 [(0, .int a0)] := hl
  unfold fX4_isKind at h
  refine lv_iload_n hx hb dX4_isKind_0 rfl (lv_at hl 0 rfl) ?_
  refine lv_if_lt (tgt := 14) hx hb dX4_isKind_1 (by decide) (fun c1 => ?_) (fun c1 => ?_)
  · replace h := o_t c1 h
    refine lv_iconst (v := 0) hx hb dX4_isKind_14 (by decide) ?_
    exact rZ hQ hx hb hr hlk hw (Or.inl rfl) dX4_isKind_15 (o_1 h) rfl rfl
  · replace h := o_f c1 h
    refine lv_iload_n hx hb dX4_isKind_4 rfl (lv_at hl 0 rfl) ?_
    refine lv_bipush (v := 6) hx hb dX4_isKind_5 (by decide) ?_
    refine lv_icmp_ge (tgt := 14) hx hb dX4_isKind_7 (by decide) (fun c7 => ?_) (fun c7 => ?_)
    · replace h := o_t c7 h
      refine lv_iconst (v := 0) hx hb dX4_isKind_14 (by decide) ?_
      exact rZ hQ hx hb hr hlk hw (Or.inl rfl) dX4_isKind_15 (o_1 h) rfl rfl
    · replace h := o_f c7 h
      refine lv_iconst (v := 1) hx hb dX4_isKind_10 (by decide) ?_
      refine lv_goto (tgt := 15) hx hb dX4_isKind_11 (by decide) ?_
      exact rZ hQ hx hb hr hlk hw (Or.inr rfl) dX4_isKind_15 (o_1 h) rfl rfl
-- X4_isPace
set_option maxRecDepth 100000 in
set_option maxHeartbeats 4000000 in
theorem kX4_isPace (l : Launch) (G : sGl) {S : sWo} {M : sOb} {a0 : Int32} {q : Int32}  (h : fX4_isPace a0 = some q) : sCt l G yX4_isPace wsX4_isPace rmX4_isPace [.int a0] S M (some (.int q)) S M := by
  refine cMk (cc := cX4_isPace) (maxL := 1) (ret := (some .boolean)) (by decide) rfl (Nat.le_of_ble_eq_true rfl) ?_
  intro p e s m args below meth c Q hQ hx hb hr hlk hml hown hts hw ls hl
  have hown : s.vm.findClass RX4 = some m.cls := hown
  have hl : lv_has ls 1 [(0, .int a0)] := hl
  unfold fX4_isPace at h
  refine lv_iload_n hx hb dX4_isPace_0 rfl (lv_at hl 0 rfl) ?_
  refine lv_iconst (v := 1) hx hb dX4_isPace_1 (by decide) ?_
  refine lv_icmp_lt (tgt := 15) hx hb dX4_isPace_2 (by decide) (fun c2 => ?_) (fun c2 => ?_)
  · replace h := o_t c2 h
    refine lv_iconst (v := 0) hx hb dX4_isPace_15 (by decide) ?_
    exact rZ hQ hx hb hr hlk hw (Or.inl rfl) dX4_isPace_16 (o_1 h) rfl rfl
  · replace h := o_f c2 h
    refine lv_iload_n hx hb dX4_isPace_5 rfl (lv_at hl 0 rfl) ?_
    refine lv_bipush (v := 12) hx hb dX4_isPace_6 (by decide) ?_
    refine lv_icmp_gt (tgt := 15) hx hb dX4_isPace_8 (by decide) (fun c8 => ?_) (fun c8 => ?_)
    · replace h := o_t c8 h
      refine lv_iconst (v := 0) hx hb dX4_isPace_15 (by decide) ?_
      exact rZ hQ hx hb hr hlk hw (Or.inl rfl) dX4_isPace_16 (o_1 h) rfl rfl
    · replace h := o_f c8 h
      refine lv_iconst (v := 1) hx hb dX4_isPace_11 (by decide) ?_
      refine lv_goto (tgt := 16) hx hb dX4_isPace_12 (by decide) ?_
      exact rZ hQ hx hb hr hlk hw (Or.inr rfl) dX4_isPace_16 (o_1 h) rfl rfl
-- X4_isBreath
set_option maxRecDepth 100000 in
set_option maxHeartbeats 4000000 in
theorem kX4_isBreath (l : Launch) (G : sGl) {S : sWo} {M : sOb} {a0 : Int32} {q : Int32}  (h : fX4_isBreath a0 = some q) : sCt l G yX4_isBreath wsX4_isBreath rmX4_isBreath [.int a0] S M (some (.int q)) S M := by
  refine cMk (cc := cX4_isBreath) (maxL := 1) (ret := (some .boolean)) (by decide) rfl (Nat.le_of_ble_eq_true rfl) ?_
  intro p e s m args below meth c Q hQ hx hb hr hlk hml hown hts hw ls hl
  have hown : s.vm.findClass RX4 = some m.cls := hown
  have hl : lv_has ls 1 [(0, .int a0)] := hl
  unfold fX4_isBreath at h
  refine lv_iload_n hx hb dX4_isBreath_0 rfl (lv_at hl 0 rfl) ?_
  refine lv_if_lt (tgt := 15) hx hb dX4_isBreath_1 (by decide) (fun c1 => ?_) (fun c1 => ?_)
  · replace h := o_t c1 h
    refine lv_iconst (v := 0) hx hb dX4_isBreath_15 (by decide) ?_
    exact rZ hQ hx hb hr hlk hw (Or.inl rfl) dX4_isBreath_16 (o_1 h) rfl rfl
  · replace h := o_f c1 h
    refine lv_iload_n hx hb dX4_isBreath_4 rfl (lv_at hl 0 rfl) ?_
    refine lv_sipush (v := 999) hx hb dX4_isBreath_5 (by decide) ?_
    refine lv_icmp_gt (tgt := 15) hx hb dX4_isBreath_8 (by decide) (fun c8 => ?_) (fun c8 => ?_)
    · replace h := o_t c8 h
      refine lv_iconst (v := 0) hx hb dX4_isBreath_15 (by decide) ?_
      exact rZ hQ hx hb hr hlk hw (Or.inl rfl) dX4_isBreath_16 (o_1 h) rfl rfl
    · replace h := o_f c8 h
      refine lv_iconst (v := 1) hx hb dX4_isBreath_11 (by decide) ?_
      refine lv_goto (tgt := 16) hx hb dX4_isBreath_12 (by decide) ?_
      exact rZ hQ hx hb hr hlk hw (Or.inr rfl) dX4_isBreath_16 (o_1 h) rfl rfl
-- X4_runner
set_option maxRecDepth 100000 in
set_option maxHeartbeats 4000000 in
theorem kX4_runner (l : Launch) (G : sGl) {S : sWo} {M : sOb} {a1 : Int32} {a2 : Int32} {a3 : Int32} {q : (Int32 × sWo)}  (h : fX4_runner S a1 a2 a3 = some q) : sCt l G yX4_runner wsX4_runner rmX4_runner [.ref (sA G 0 0), .int a1, .int a2, .int a3] S M (some (.int q.1)) q.2 M := by
  refine cMk (cc := cX4_runner) (maxL := 4) (ret := (some .int)) (by decide) rfl (Nat.le_of_ble_eq_true rfl) ?_
  intro p e s m args below meth c Q hQ hx hb hr hlk hml hown hts hw ls hl
  have hown : s.vm.findClass RX4 = some m.cls := hown
  have hl : lv_has ls 4 [(0, .ref (sA G 0 0)), (1, .int a1), (2, .int a2), (3, .int a3)] := hl
  have hiX3 : ∀ w ∈ u_ws RX3 TX3 15, w ∈ wsX4_runner := by decide +kernel
  have hiX4 : ∀ w ∈ u_ws RX4 TX4 7, w ∈ wsX4_runner := by decide +kernel
  unfold fX4_runner at h
  refine lv_iload_n hx hb dX4_runner_0 rfl (lv_at hl 1 rfl) ?_
  obtain ⟨q1, eq1, h⟩ := o_bd h
  refine kS (As := [.int a1]) (rest := []) (st' := [.int q1]) ⟨hx, hb, hml, hown, hts⟩ (kX4_isKind l G eq1) (va_cwS 1 hts gX4_runner_X4_isKind rfl rfl rfl qqX4_isKind ⟨Nat.le_of_ble_eq_true rfl, Nat.le_of_ble_eq_true rfl⟩) hw rfl hl.1 rfl (Nat.le_of_ble_eq_true rfl) dX4_runner_1 ⟨Nat.zero_le _, Nat.zero_le _⟩ rfl (fun H locs hw => ?_)
  refine lv_if_eq (tgt := 21) hx hb dX4_runner_4 (by decide) (fun c4 => ?_) (fun c4 => ?_)
  · replace h := o_t c4 h
    refine lv_aload_n hx hb dX4_runner_21 rfl (lv_at hl 0 rfl) ?_
    refine lv_ldc (v := -1000000001) hx hb hown (hts (.constant RX4 50 (-1000000001)) (by decide +kernel)) dX4_runner_22 ?_
    obtain ⟨q24, eq24, h⟩ := o_bd h
    refine kV (As := [.int (-1000000001 : Int32)]) (rest := []) (st' := [.int q24.1]) ⟨hx, hb, hml, hown, hts⟩ (kX4_found l G eq24) (cwV 1 hts gX4_runner_X4_found rfl rfl rfl qqX4_found ⟨Nat.le_of_ble_eq_true rfl, Nat.le_of_ble_eq_true rfl⟩) hw (rvOw hw) rfl hl.1 rfl (Nat.le_of_ble_eq_true rfl) dX4_runner_24 ⟨Nat.zero_le _, Nat.zero_le _⟩ rfl (fun H locs hw => ?_)
    exact rI hQ hx hb hr hlk hw dX4_runner_27 (o_2a h) (o_2b h) rfl
  · replace h := o_f c4 h
    refine lv_iload_n hx hb dX4_runner_7 rfl (lv_at hl 2 rfl) ?_
    obtain ⟨q8, eq8, h⟩ := o_bd h
    refine kS (As := [.int a2]) (rest := []) (st' := [.int q8]) ⟨hx, hb, hml, hown, hts⟩ (kX4_isPace l G eq8) (va_cwS 1 hts gX4_runner_X4_isPace rfl rfl rfl qqX4_isPace ⟨Nat.le_of_ble_eq_true rfl, Nat.le_of_ble_eq_true rfl⟩) hw rfl hl.1 rfl (Nat.le_of_ble_eq_true rfl) dX4_runner_8 ⟨Nat.zero_le _, Nat.zero_le _⟩ rfl (fun H locs hw => ?_)
    refine lv_if_eq (tgt := 21) hx hb dX4_runner_11 (by decide) (fun c11 => ?_) (fun c11 => ?_)
    · replace h := o_t c11 h
      refine lv_aload_n hx hb dX4_runner_21 rfl (lv_at hl 0 rfl) ?_
      refine lv_ldc (v := -1000000001) hx hb hown (hts (.constant RX4 50 (-1000000001)) (by decide +kernel)) dX4_runner_22 ?_
      obtain ⟨q24, eq24, h⟩ := o_bd h
      refine kV (As := [.int (-1000000001 : Int32)]) (rest := []) (st' := [.int q24.1]) ⟨hx, hb, hml, hown, hts⟩ (kX4_found l G eq24) (cwV 1 hts gX4_runner_X4_found rfl rfl rfl qqX4_found ⟨Nat.le_of_ble_eq_true rfl, Nat.le_of_ble_eq_true rfl⟩) hw (rvOw hw) rfl hl.1 rfl (Nat.le_of_ble_eq_true rfl) dX4_runner_24 ⟨Nat.zero_le _, Nat.zero_le _⟩ rfl (fun H locs hw => ?_)
      exact rI hQ hx hb hr hlk hw dX4_runner_27 (o_2a h) (o_2b h) rfl
    · replace h := o_f c11 h
      refine lv_iload_n hx hb dX4_runner_14 rfl (lv_at hl 3 rfl) ?_
      obtain ⟨q15, eq15, h⟩ := o_bd h
      refine kS (As := [.int a3]) (rest := []) (st' := [.int q15]) ⟨hx, hb, hml, hown, hts⟩ (kX4_isBreath l G eq15) (va_cwS 1 hts gX4_runner_X4_isBreath rfl rfl rfl qqX4_isBreath ⟨Nat.le_of_ble_eq_true rfl, Nat.le_of_ble_eq_true rfl⟩) hw rfl hl.1 rfl (Nat.le_of_ble_eq_true rfl) dX4_runner_15 ⟨Nat.zero_le _, Nat.zero_le _⟩ rfl (fun H locs hw => ?_)
      refine lv_if_ne (tgt := 28) hx hb dX4_runner_18 (by decide) (fun c18 => ?_) (fun c18 => ?_)
      · replace h := o_f c18 h
        refine lv_aload_n hx hb dX4_runner_28 rfl (lv_at hl 0 rfl) ?_
        refine gOw (v := .ref (sA G 1 0)) hx hb hts hiX4 hown hw 0 (by decide) (hts (.fieldLink RX4 10 "SecondHome" "track" "LSecondHome$Track;") (by decide +kernel)) rfl dX4_runner_29 ?_
        refine gTk (v := .int ((S 1).1 4)) hx hb hts hiX3 hown hw (Or.inl rfl) rfl 4 (by decide) (hts (.fieldLink RX4 64 "SecondHome$Track" "count" "I") (by decide +kernel)) rfl dX4_runner_32 ?_
        refine lv_bipush (v := 9) hx hb dX4_runner_35 (by decide) ?_
        refine lv_icmp_lt (tgt := 47) hx hb dX4_runner_37 (by decide) (fun c37 => ?_) (fun c37 => ?_)
        · replace h := o_t c37 h
          refine lv_aload_n hx hb dX4_runner_47 rfl (lv_at hl 0 rfl) ?_
          refine gOw (v := .ref (sA G 1 0)) hx hb hts hiX4 hown hw 0 (by decide) (hts (.fieldLink RX4 10 "SecondHome" "track" "LSecondHome$Track;") (by decide +kernel)) rfl dX4_runner_48 ?_
          refine lv_iload_n hx hb dX4_runner_51 rfl (lv_at hl 1 rfl) ?_
          refine lv_iload_n hx hb dX4_runner_52 rfl (lv_at hl 2 rfl) ?_
          refine lv_iload_n hx hb dX4_runner_53 rfl (lv_at hl 3 rfl) ?_
          obtain ⟨q54, eq54, h⟩ := o_bd h
          refine kV (As := [.int a1, .int a2, .int a3]) (rest := []) (st' := [.int q54.1]) ⟨hx, hb, hml, hown, hts⟩ (kX3_add l G (Or.inl rfl) rfl eq54) (cwV 3 hts gX4_runner_X3_add rfl rfl rfl qqX3_add ⟨Nat.le_of_ble_eq_true rfl, Nat.le_of_ble_eq_true rfl⟩) hw (rvTk hw (Or.inl rfl)) rfl hl.1 rfl (Nat.le_of_ble_eq_true rfl) dX4_runner_54 ⟨Nat.zero_le _, Nat.zero_le _⟩ rfl (fun H locs hw => ?_)
          obtain ⟨S54, eS54, h⟩ := o_nm h
          rw [← eS54] at hw
          exact rI hQ hx hb hr hlk hw dX4_runner_57 (o_2a h) (o_2b h) rfl
        · replace h := o_f c37 h
          refine lv_aload_n hx hb dX4_runner_40 rfl (lv_at hl 0 rfl) ?_
          refine lv_ldc (v := -1000000002) hx hb hown (hts (.constant RX4 68 (-1000000002)) (by decide +kernel)) dX4_runner_41 ?_
          obtain ⟨q43, eq43, h⟩ := o_bd h
          refine kV (As := [.int (-1000000002 : Int32)]) (rest := []) (st' := [.int q43.1]) ⟨hx, hb, hml, hown, hts⟩ (kX4_found l G eq43) (cwV 1 hts gX4_runner_X4_found rfl rfl rfl qqX4_found ⟨Nat.le_of_ble_eq_true rfl, Nat.le_of_ble_eq_true rfl⟩) hw (rvOw hw) rfl hl.1 rfl (Nat.le_of_ble_eq_true rfl) dX4_runner_43 ⟨Nat.zero_le _, Nat.zero_le _⟩ rfl (fun H locs hw => ?_)
          exact rI hQ hx hb hr hlk hw dX4_runner_46 (o_2a h) (o_2b h) rfl
      · replace h := o_t c18 h
        refine lv_aload_n hx hb dX4_runner_21 rfl (lv_at hl 0 rfl) ?_
        refine lv_ldc (v := -1000000001) hx hb hown (hts (.constant RX4 50 (-1000000001)) (by decide +kernel)) dX4_runner_22 ?_
        obtain ⟨q24, eq24, h⟩ := o_bd h
        refine kV (As := [.int (-1000000001 : Int32)]) (rest := []) (st' := [.int q24.1]) ⟨hx, hb, hml, hown, hts⟩ (kX4_found l G eq24) (cwV 1 hts gX4_runner_X4_found rfl rfl rfl qqX4_found ⟨Nat.le_of_ble_eq_true rfl, Nat.le_of_ble_eq_true rfl⟩) hw (rvOw hw) rfl hl.1 rfl (Nat.le_of_ble_eq_true rfl) dX4_runner_24 ⟨Nat.zero_le _, Nat.zero_le _⟩ rfl (fun H locs hw => ?_)
        exact rI hQ hx hb hr hlk hw dX4_runner_27 (o_2a h) (o_2b h) rfl
-- X4_of
set_option maxRecDepth 100000 in
set_option maxHeartbeats 4000000 in
theorem kX4_of (l : Launch) (G : sGl) {S : sWo} {M : sOb} {a1 : Int32} {a2 : Int32} {q : (Int32 × sWo)}  (h : fX4_of S a1 a2 = some q) : sCt l G yX4_of wsX4_of rmX4_of [.ref (sA G 0 0), .int a1, .int a2] S M (some (.int q.1)) q.2 M := by
  refine cMk (cc := cX4_of) (maxL := 3) (ret := (some .int)) (by decide) rfl (Nat.le_of_ble_eq_true rfl) ?_
  intro p e s m args below meth c Q hQ hx hb hr hlk hml hown hts hw ls hl
  have hown : s.vm.findClass RX4 = some m.cls := hown
  have hl : lv_has ls 3 [(0, .ref (sA G 0 0)), (1, .int a1), (2, .int a2)] := hl
  have hiX3 : ∀ w ∈ u_ws RX3 TX3 15, w ∈ wsX4_of := by decide +kernel
  have hiX4 : ∀ w ∈ u_ws RX4 TX4 7, w ∈ wsX4_of := by decide +kernel
  unfold fX4_of at h
  refine lv_aload_n hx hb dX4_of_0 rfl (lv_at hl 0 rfl) ?_
  refine gOw (v := .ref (sA G 1 0)) hx hb hts hiX4 hown hw 0 (by decide) (hts (.fieldLink RX4 10 "SecondHome" "track" "LSecondHome$Track;") (by decide +kernel)) rfl dX4_of_1 ?_
  refine lv_iload_n hx hb dX4_of_4 rfl (lv_at hl 1 rfl) ?_
  obtain ⟨q5, eq5, h⟩ := o_bd h
  refine kV (As := [.int a1]) (rest := []) (st' := [.int q5]) ⟨hx, hb, hml, hown, hts⟩ (kX3_has l G (Or.inl rfl) rfl eq5) (cwV 1 hts gX4_of_X3_has rfl rfl rfl qqX3_has ⟨Nat.le_of_ble_eq_true rfl, Nat.le_of_ble_eq_true rfl⟩) hw (rvTk hw (Or.inl rfl)) rfl hl.1 rfl (Nat.le_of_ble_eq_true rfl) dX4_of_5 ⟨Nat.zero_le _, Nat.zero_le _⟩ rfl (fun H locs hw => ?_)
  refine lv_if_ne (tgt := 18) hx hb dX4_of_8 (by decide) (fun c8 => ?_) (fun c8 => ?_)
  · replace h := o_f c8 h
    refine lv_iload_n hx hb dX4_of_18 rfl (lv_at hl 2 rfl) ?_
    by_cases c19_0 : a2 = (0 : Int32)
    · replace h := o_t c19_0 h
      refine lv_tableIn (tgt := 68) hx hb dX4_of_19 (by rw [c19_0]; decide) (by rw [c19_0]; decide) (by rw [c19_0]; rfl) (by decide) ?_
      refine lv_aload_n hx hb dX4_of_68 rfl (lv_at hl 0 rfl) ?_
      refine gOw (v := .ref (sA G 1 0)) hx hb hts hiX4 hown hw 0 (by decide) (hts (.fieldLink RX4 10 "SecondHome" "track" "LSecondHome$Track;") (by decide +kernel)) rfl dX4_of_69 ?_
      refine gTk (v := .ref (sA G 1 1)) hx hb hts hiX3 hown hw (Or.inl rfl) rfl 6 (by decide) (hts (.fieldLink RX4 76 "SecondHome$Track" "kinds" "[I") (by decide +kernel)) rfl dX4_of_72 ?_
      refine lv_iload_n hx hb dX4_of_75 rfl (lv_at hl 1 rfl) ?_
      obtain ⟨b76, h⟩ := o_in h
      refine ldTk hx hb hw (Or.inl rfl) rfl 0 (by decide) b76 dX4_of_76 ?_
      exact rI hQ hx hb hr hlk hw dX4_of_77 (o_2a h) (o_2b h) rfl
    replace h := o_f c19_0 h
    by_cases c19_1 : a2 = (1 : Int32)
    · replace h := o_t c19_1 h
      refine lv_tableIn (tgt := 78) hx hb dX4_of_19 (by rw [c19_1]; decide) (by rw [c19_1]; decide) (by rw [c19_1]; rfl) (by decide) ?_
      refine lv_aload_n hx hb dX4_of_78 rfl (lv_at hl 0 rfl) ?_
      refine gOw (v := .ref (sA G 1 0)) hx hb hts hiX4 hown hw 0 (by decide) (hts (.fieldLink RX4 10 "SecondHome" "track" "LSecondHome$Track;") (by decide +kernel)) rfl dX4_of_79 ?_
      refine gTk (v := .ref (sA G 1 2)) hx hb hts hiX3 hown hw (Or.inl rfl) rfl 7 (by decide) (hts (.fieldLink RX4 79 "SecondHome$Track" "paces" "[I") (by decide +kernel)) rfl dX4_of_82 ?_
      refine lv_iload_n hx hb dX4_of_85 rfl (lv_at hl 1 rfl) ?_
      obtain ⟨b86, h⟩ := o_in h
      refine ldTk hx hb hw (Or.inl rfl) rfl 1 (by decide) b86 dX4_of_86 ?_
      exact rI hQ hx hb hr hlk hw dX4_of_87 (o_2a h) (o_2b h) rfl
    replace h := o_f c19_1 h
    by_cases c19_2 : a2 = (2 : Int32)
    · replace h := o_t c19_2 h
      refine lv_tableIn (tgt := 88) hx hb dX4_of_19 (by rw [c19_2]; decide) (by rw [c19_2]; decide) (by rw [c19_2]; rfl) (by decide) ?_
      refine lv_aload_n hx hb dX4_of_88 rfl (lv_at hl 0 rfl) ?_
      refine gOw (v := .ref (sA G 1 0)) hx hb hts hiX4 hown hw 0 (by decide) (hts (.fieldLink RX4 10 "SecondHome" "track" "LSecondHome$Track;") (by decide +kernel)) rfl dX4_of_89 ?_
      refine gTk (v := .ref (sA G 1 3)) hx hb hts hiX3 hown hw (Or.inl rfl) rfl 8 (by decide) (hts (.fieldLink RX4 82 "SecondHome$Track" "breaths" "[I") (by decide +kernel)) rfl dX4_of_92 ?_
      refine lv_iload_n hx hb dX4_of_95 rfl (lv_at hl 1 rfl) ?_
      obtain ⟨b96, h⟩ := o_in h
      refine ldTk hx hb hw (Or.inl rfl) rfl 2 (by decide) b96 dX4_of_96 ?_
      exact rI hQ hx hb hr hlk hw dX4_of_97 (o_2a h) (o_2b h) rfl
    replace h := o_f c19_2 h
    by_cases c19_3 : a2 = (3 : Int32)
    · replace h := o_t c19_3 h
      refine lv_tableIn (tgt := 98) hx hb dX4_of_19 (by rw [c19_3]; decide) (by rw [c19_3]; decide) (by rw [c19_3]; rfl) (by decide) ?_
      refine lv_aload_n hx hb dX4_of_98 rfl (lv_at hl 0 rfl) ?_
      refine gOw (v := .ref (sA G 1 0)) hx hb hts hiX4 hown hw 0 (by decide) (hts (.fieldLink RX4 10 "SecondHome" "track" "LSecondHome$Track;") (by decide +kernel)) rfl dX4_of_99 ?_
      refine gTk (v := .ref (sA G 1 4)) hx hb hts hiX3 hown hw (Or.inl rfl) rfl 9 (by decide) (hts (.fieldLink RX4 85 "SecondHome$Track" "friends" "[I") (by decide +kernel)) rfl dX4_of_102 ?_
      refine lv_iload_n hx hb dX4_of_105 rfl (lv_at hl 1 rfl) ?_
      obtain ⟨b106, h⟩ := o_in h
      refine ldTk hx hb hw (Or.inl rfl) rfl 3 (by decide) b106 dX4_of_106 ?_
      exact rI hQ hx hb hr hlk hw dX4_of_107 (o_2a h) (o_2b h) rfl
    replace h := o_f c19_3 h
    by_cases c19_4 : a2 = (4 : Int32)
    · replace h := o_t c19_4 h
      refine lv_tableIn (tgt := 108) hx hb dX4_of_19 (by rw [c19_4]; decide) (by rw [c19_4]; decide) (by rw [c19_4]; rfl) (by decide) ?_
      refine lv_aload_n hx hb dX4_of_108 rfl (lv_at hl 0 rfl) ?_
      refine gOw (v := .ref (sA G 1 0)) hx hb hts hiX4 hown hw 0 (by decide) (hts (.fieldLink RX4 10 "SecondHome" "track" "LSecondHome$Track;") (by decide +kernel)) rfl dX4_of_109 ?_
      refine gTk (v := .ref (sA G 1 5)) hx hb hts hiX3 hown hw (Or.inl rfl) rfl 10 (by decide) (hts (.fieldLink RX4 88 "SecondHome$Track" "starts" "[I") (by decide +kernel)) rfl dX4_of_112 ?_
      refine lv_iload_n hx hb dX4_of_115 rfl (lv_at hl 1 rfl) ?_
      obtain ⟨b116, h⟩ := o_in h
      refine ldTk hx hb hw (Or.inl rfl) rfl 4 (by decide) b116 dX4_of_116 ?_
      exact rI hQ hx hb hr hlk hw dX4_of_117 (o_2a h) (o_2b h) rfl
    replace h := o_f c19_4 h
    by_cases c19_5 : a2 = (5 : Int32)
    · replace h := o_t c19_5 h
      refine lv_tableIn (tgt := 118) hx hb dX4_of_19 (by rw [c19_5]; decide) (by rw [c19_5]; decide) (by rw [c19_5]; rfl) (by decide) ?_
      refine lv_aload_n hx hb dX4_of_118 rfl (lv_at hl 0 rfl) ?_
      refine gOw (v := .ref (sA G 1 0)) hx hb hts hiX4 hown hw 0 (by decide) (hts (.fieldLink RX4 10 "SecondHome" "track" "LSecondHome$Track;") (by decide +kernel)) rfl dX4_of_119 ?_
      refine gTk (v := .ref (sA G 1 6)) hx hb hts hiX3 hown hw (Or.inl rfl) rfl 11 (by decide) (hts (.fieldLink RX4 91 "SecondHome$Track" "yards" "[I") (by decide +kernel)) rfl dX4_of_122 ?_
      refine lv_iload_n hx hb dX4_of_125 rfl (lv_at hl 1 rfl) ?_
      obtain ⟨b126, h⟩ := o_in h
      refine ldTk hx hb hw (Or.inl rfl) rfl 5 (by decide) b126 dX4_of_126 ?_
      exact rI hQ hx hb hr hlk hw dX4_of_127 (o_2a h) (o_2b h) rfl
    replace h := o_f c19_5 h
    by_cases c19_6 : a2 = (6 : Int32)
    · replace h := o_t c19_6 h
      refine lv_tableIn (tgt := 128) hx hb dX4_of_19 (by rw [c19_6]; decide) (by rw [c19_6]; decide) (by rw [c19_6]; rfl) (by decide) ?_
      refine lv_aload_n hx hb dX4_of_128 rfl (lv_at hl 0 rfl) ?_
      refine gOw (v := .ref (sA G 1 0)) hx hb hts hiX4 hown hw 0 (by decide) (hts (.fieldLink RX4 10 "SecondHome" "track" "LSecondHome$Track;") (by decide +kernel)) rfl dX4_of_129 ?_
      refine gTk (v := .ref (sA G 1 7)) hx hb hts hiX3 hown hw (Or.inl rfl) rfl 12 (by decide) (hts (.fieldLink RX4 94 "SecondHome$Track" "points" "[I") (by decide +kernel)) rfl dX4_of_132 ?_
      refine lv_iload_n hx hb dX4_of_135 rfl (lv_at hl 1 rfl) ?_
      obtain ⟨b136, h⟩ := o_in h
      refine ldTk hx hb hw (Or.inl rfl) rfl 6 (by decide) b136 dX4_of_136 ?_
      exact rI hQ hx hb hr hlk hw dX4_of_137 (o_2a h) (o_2b h) rfl
    replace h := o_f c19_6 h
    by_cases c19_7 : a2 = (7 : Int32)
    · replace h := o_t c19_7 h
      refine lv_tableIn (tgt := 138) hx hb dX4_of_19 (by rw [c19_7]; decide) (by rw [c19_7]; decide) (by rw [c19_7]; rfl) (by decide) ?_
      refine lv_aload_n hx hb dX4_of_138 rfl (lv_at hl 0 rfl) ?_
      refine gOw (v := .ref (sA G 1 0)) hx hb hts hiX4 hown hw 0 (by decide) (hts (.fieldLink RX4 10 "SecondHome" "track" "LSecondHome$Track;") (by decide +kernel)) rfl dX4_of_139 ?_
      refine gTk (v := .ref (sA G 1 8)) hx hb hts hiX3 hown hw (Or.inl rfl) rfl 13 (by decide) (hts (.fieldLink RX4 97 "SecondHome$Track" "homes" "[I") (by decide +kernel)) rfl dX4_of_142 ?_
      refine lv_iload_n hx hb dX4_of_145 rfl (lv_at hl 1 rfl) ?_
      obtain ⟨b146, h⟩ := o_in h
      refine ldTk hx hb hw (Or.inl rfl) rfl 7 (by decide) b146 dX4_of_146 ?_
      exact rI hQ hx hb hr hlk hw dX4_of_147 (o_2a h) (o_2b h) rfl
    replace h := o_f c19_7 h
    by_cases c19_8 : a2 = (8 : Int32)
    · replace h := o_t c19_8 h
      refine lv_tableIn (tgt := 148) hx hb dX4_of_19 (by rw [c19_8]; decide) (by rw [c19_8]; decide) (by rw [c19_8]; rfl) (by decide) ?_
      refine lv_aload_n hx hb dX4_of_148 rfl (lv_at hl 0 rfl) ?_
      refine gOw (v := .ref (sA G 1 0)) hx hb hts hiX4 hown hw 0 (by decide) (hts (.fieldLink RX4 10 "SecondHome" "track" "LSecondHome$Track;") (by decide +kernel)) rfl dX4_of_149 ?_
      refine lv_iload_n hx hb dX4_of_152 rfl (lv_at hl 1 rfl) ?_
      obtain ⟨q153, eq153, h⟩ := o_bd h
      refine kV (As := [.int a1]) (rest := []) (st' := [.int q153]) ⟨hx, hb, hml, hown, hts⟩ (kX3_placeOf l G (Or.inl rfl) rfl eq153) (cwV 1 hts gX4_of_X3_placeOf rfl rfl rfl qqX3_placeOf ⟨Nat.le_of_ble_eq_true rfl, Nat.le_of_ble_eq_true rfl⟩) hw (rvTk hw (Or.inl rfl)) rfl hl.1 rfl (Nat.le_of_ble_eq_true rfl) dX4_of_153 ⟨Nat.zero_le _, Nat.zero_le _⟩ rfl (fun H locs hw => ?_)
      exact rI hQ hx hb hr hlk hw dX4_of_156 (o_2a h) (o_2b h) rfl
    replace h := o_f c19_8 h
    have sw19 : a2.toInt < 0 ∨ 8 < a2.toInt := by
      have z0 := sw_ne c19_0
      have z1 := sw_ne c19_1
      have z2 := sw_ne c19_2
      have z3 := sw_ne c19_3
      have z4 := sw_ne c19_4
      have z5 := sw_ne c19_5
      have z6 := sw_ne c19_6
      have z7 := sw_ne c19_7
      have z8 := sw_ne c19_8
      rw [show ((0 : Int32)).toInt = 0 from rfl] at z0
      rw [show ((1 : Int32)).toInt = 1 from rfl] at z1
      rw [show ((2 : Int32)).toInt = 2 from rfl] at z2
      rw [show ((3 : Int32)).toInt = 3 from rfl] at z3
      rw [show ((4 : Int32)).toInt = 4 from rfl] at z4
      rw [show ((5 : Int32)).toInt = 5 from rfl] at z5
      rw [show ((6 : Int32)).toInt = 6 from rfl] at z6
      rw [show ((7 : Int32)).toInt = 7 from rfl] at z7
      rw [show ((8 : Int32)).toInt = 8 from rfl] at z8
      omega
    refine lv_tableOut (tgt := 157) hx hb dX4_of_19 sw19 (by decide) ?_
    refine lv_aload_n hx hb dX4_of_157 rfl (lv_at hl 0 rfl) ?_
    refine lv_ldc (v := -1000000001) hx hb hown (hts (.constant RX4 50 (-1000000001)) (by decide +kernel)) dX4_of_158 ?_
    obtain ⟨q160, eq160, h⟩ := o_bd h
    refine kV (As := [.int (-1000000001 : Int32)]) (rest := []) (st' := [.int q160.1]) ⟨hx, hb, hml, hown, hts⟩ (kX4_found l G eq160) (cwV 1 hts gX4_of_X4_found rfl rfl rfl qqX4_found ⟨Nat.le_of_ble_eq_true rfl, Nat.le_of_ble_eq_true rfl⟩) hw (rvOw hw) rfl hl.1 rfl (Nat.le_of_ble_eq_true rfl) dX4_of_160 ⟨Nat.zero_le _, Nat.zero_le _⟩ rfl (fun H locs hw => ?_)
    exact rI hQ hx hb hr hlk hw dX4_of_163 (o_2a h) (o_2b h) rfl
  · replace h := o_t c8 h
    refine lv_aload_n hx hb dX4_of_11 rfl (lv_at hl 0 rfl) ?_
    refine lv_ldc (v := -1000000001) hx hb hown (hts (.constant RX4 50 (-1000000001)) (by decide +kernel)) dX4_of_12 ?_
    obtain ⟨q14, eq14, h⟩ := o_bd h
    refine kV (As := [.int (-1000000001 : Int32)]) (rest := []) (st' := [.int q14.1]) ⟨hx, hb, hml, hown, hts⟩ (kX4_found l G eq14) (cwV 1 hts gX4_of_X4_found rfl rfl rfl qqX4_found ⟨Nat.le_of_ble_eq_true rfl, Nat.le_of_ble_eq_true rfl⟩) hw (rvOw hw) rfl hl.1 rfl (Nat.le_of_ble_eq_true rfl) dX4_of_14 ⟨Nat.zero_le _, Nat.zero_le _⟩ rfl (fun H locs hw => ?_)
    exact rI hQ hx hb hr hlk hw dX4_of_17 (o_2a h) (o_2b h) rfl
-- X4_exchange
set_option maxRecDepth 100000 in
set_option maxHeartbeats 4000000 in
theorem kX4_exchange (l : Launch) (G : sGl) {S : sWo} {M : sOb} {o : Nat} {T : sOb} {k : Nat} {a1 : Int32} {a2 : Int32} {q : (Int32 × sOb)} (ho : isTk o) (hk : k < 9) (hT : S o = T) (h : fX4_exchange T k a1 a2 = some q) : sCt l G yX4_exchange wsX4_exchange rmX4_exchange [.ref (sA G o (k + 1)), .int a1, .int a2] S M (some (.int q.1)) (sUp S o q.2) M := by
  refine cMk (cc := cX4_exchange) (maxL := 4) (ret := (some .int)) (by decide) rfl (Nat.le_of_ble_eq_true rfl) ?_
  intro p e s m args below meth c Q hQ hx hb hr hlk hml hown hts hw ls hl
  have hown : s.vm.findClass RX4 = some m.cls := hown
  have hl : lv_has ls 4 [(0, .ref (sA G o (k + 1))), (1, .int a1), (2, .int a2)] := hl
  rw [show S = sUp S o T from (by rw [← hT]; exact (sUp_i S o).symm)] at hw
  unfold fX4_exchange at h
  refine lv_iload_n hx hb dX4_exchange_0 rfl (lv_at hl 1 rfl) ?_
  refine lv_if_lt (tgt := 10) hx hb dX4_exchange_1 (by decide) (fun c1 => ?_) (fun c1 => ?_)
  · replace h := o_t c1 h
    refine lv_iload_n hx hb dX4_exchange_10 rfl (lv_at hl 2 rfl) ?_
    exact rI hQ hx hb hr hlk hw dX4_exchange_11 (o_2a h) (congrArg (sUp S o) (o_2b h)) rfl
  · replace h := o_f c1 h
    refine lv_iload_n hx hb dX4_exchange_4 rfl (lv_at hl 1 rfl) ?_
    refine lv_aload_n hx hb dX4_exchange_5 rfl (lv_at hl 0 rfl) ?_
    refine lenTk hx hb hw ho k hk dX4_exchange_6 ?_
    refine lv_icmp_lt (tgt := 12) hx hb dX4_exchange_7 (by decide) (fun c7 => ?_) (fun c7 => ?_)
    · replace h := o_t c7 h
      refine lv_aload_n hx hb dX4_exchange_12 rfl (lv_at hl 0 rfl) ?_
      refine lv_iload_n hx hb dX4_exchange_13 rfl (lv_at hl 1 rfl) ?_
      obtain ⟨b14, h⟩ := o_in h
      refine ldTk hx hb hw ho (sUp_s S o T) k hk b14 dX4_exchange_14 ?_
      refine lv_topi (fun v15 ev15 => ?_)
      replace h := o_nx ev15 h
      refine lv_istore_n (lv' := [(3, .int v15), (0, .ref (sA G o (k + 1))), (1, .int a1), (2, .int a2)]) hx hb dX4_exchange_15 rfl hl (by decide) rfl (fun ls hl => ?_)
      refine lv_aload_n hx hb dX4_exchange_16 rfl (lv_at hl 1 rfl) ?_
      refine lv_iload_n hx hb dX4_exchange_17 rfl (lv_at hl 2 rfl) ?_
      refine lv_iload_n hx hb dX4_exchange_18 rfl (lv_at hl 3 rfl) ?_
      refine stTk hx hb hw ho (sUp_s S o T) k hk b14 dX4_exchange_19 (sUp_u S o T _) (fun H locs hw => ?_)
      obtain ⟨T19, eT19, h⟩ := o_nm h
      rw [← eT19] at hw
      refine lv_iload_n hx hb dX4_exchange_20 rfl (lv_at hl 0 rfl) ?_
      exact rI hQ hx hb hr hlk hw dX4_exchange_21 (o_2a h) (congrArg (sUp S o) (o_2b h)) rfl
    · replace h := o_f c7 h
      refine lv_iload_n hx hb dX4_exchange_10 rfl (lv_at hl 2 rfl) ?_
      exact rI hQ hx hb hr hlk hw dX4_exchange_11 (o_2a h) (congrArg (sUp S o) (o_2b h)) rfl
-- X4_isFriendFor
set_option maxRecDepth 100000 in
set_option maxHeartbeats 4000000 in
theorem kX4_isFriendFor (l : Launch) (G : sGl) {S : sWo} {M : sOb} {a1 : Int32} {a2 : Int32} {q : Int32}  (h : fX4_isFriendFor S a1 a2 = some q) : sCt l G yX4_isFriendFor wsX4_isFriendFor rmX4_isFriendFor [.ref (sA G 0 0), .int a1, .int a2] S M (some (.int q)) S M := by
  refine cMk (cc := cX4_isFriendFor) (maxL := 3) (ret := (some .boolean)) (by decide) rfl (Nat.le_of_ble_eq_true rfl) ?_
  intro p e s m args below meth c Q hQ hx hb hr hlk hml hown hts hw ls hl
  have hown : s.vm.findClass RX4 = some m.cls := hown
  have hl : lv_has ls 3 [(0, .ref (sA G 0 0)), (1, .int a1), (2, .int a2)] := hl
  have hiX4 : ∀ w ∈ u_ws RX4 TX4 7, w ∈ wsX4_isFriendFor := by decide +kernel
  unfold fX4_isFriendFor at h
  refine lv_iload_n hx hb dX4_isFriendFor_0 rfl (lv_at hl 2 rfl) ?_
  refine lv_iconst (v := -1) hx hb dX4_isFriendFor_1 (by decide) ?_
  refine lv_icmp_eq (tgt := 21) hx hb dX4_isFriendFor_2 (by decide) (fun c2 => ?_) (fun c2 => ?_)
  · replace h := o_t c2 h
    refine lv_iconst (v := 1) hx hb dX4_isFriendFor_21 (by decide) ?_
    refine lv_goto (tgt := 26) hx hb dX4_isFriendFor_22 (by decide) ?_
    exact rZ hQ hx hb hr hlk hw (Or.inr rfl) dX4_isFriendFor_26 (o_1 h) rfl rfl
  · replace h := o_f c2 h
    refine lv_aload_n hx hb dX4_isFriendFor_5 rfl (lv_at hl 0 rfl) ?_
    refine gOw (v := .ref (sA G 1 0)) hx hb hts hiX4 hown hw 0 (by decide) (hts (.fieldLink RX4 10 "SecondHome" "track" "LSecondHome$Track;") (by decide +kernel)) rfl dX4_isFriendFor_6 ?_
    refine lv_iload_n hx hb dX4_isFriendFor_9 rfl (lv_at hl 2 rfl) ?_
    obtain ⟨q10, eq10, h⟩ := o_bd h
    refine kV (As := [.int a2]) (rest := []) (st' := [.int q10]) ⟨hx, hb, hml, hown, hts⟩ (kX3_has l G (Or.inl rfl) rfl eq10) (cwV 1 hts gX4_isFriendFor_X3_has rfl rfl rfl qqX3_has ⟨Nat.le_of_ble_eq_true rfl, Nat.le_of_ble_eq_true rfl⟩) hw (rvTk hw (Or.inl rfl)) rfl hl.1 rfl (Nat.le_of_ble_eq_true rfl) dX4_isFriendFor_10 ⟨Nat.zero_le _, Nat.zero_le _⟩ rfl (fun H locs hw => ?_)
    refine lv_if_eq (tgt := 25) hx hb dX4_isFriendFor_13 (by decide) (fun c13 => ?_) (fun c13 => ?_)
    · replace h := o_t c13 h
      refine lv_iconst (v := 0) hx hb dX4_isFriendFor_25 (by decide) ?_
      exact rZ hQ hx hb hr hlk hw (Or.inl rfl) dX4_isFriendFor_26 (o_1 h) rfl rfl
    · replace h := o_f c13 h
      refine lv_iload_n hx hb dX4_isFriendFor_16 rfl (lv_at hl 2 rfl) ?_
      refine lv_iload_n hx hb dX4_isFriendFor_17 rfl (lv_at hl 1 rfl) ?_
      refine lv_icmp_eq (tgt := 25) hx hb dX4_isFriendFor_18 (by decide) (fun c18 => ?_) (fun c18 => ?_)
      · replace h := o_t c18 h
        refine lv_iconst (v := 0) hx hb dX4_isFriendFor_25 (by decide) ?_
        exact rZ hQ hx hb hr hlk hw (Or.inl rfl) dX4_isFriendFor_26 (o_1 h) rfl rfl
      · replace h := o_f c18 h
        refine lv_iconst (v := 1) hx hb dX4_isFriendFor_21 (by decide) ?_
        refine lv_goto (tgt := 26) hx hb dX4_isFriendFor_22 (by decide) ?_
        exact rZ hQ hx hb hr hlk hw (Or.inr rfl) dX4_isFriendFor_26 (o_1 h) rfl rfl
-- X4_set
set_option maxRecDepth 100000 in
set_option maxHeartbeats 4000000 in
theorem kX4_set (l : Launch) (G : sGl) {S : sWo} {M : sOb} {a1 : Int32} {a2 : Int32} {a3 : Int32} {q : (Int32 × sWo)}  (h : fX4_set S a1 a2 a3 = some q) : sCt l G yX4_set wsX4_set rmX4_set [.ref (sA G 0 0), .int a1, .int a2, .int a3] S M (some (.int q.1)) q.2 M := by
  refine cMk (cc := cX4_set) (maxL := 4) (ret := (some .int)) (by decide) rfl (Nat.le_of_ble_eq_true rfl) ?_
  intro p e s m args below meth c Q hQ hx hb hr hlk hml hown hts hw ls hl
  have hown : s.vm.findClass RX4 = some m.cls := hown
  have hl : lv_has ls 4 [(0, .ref (sA G 0 0)), (1, .int a1), (2, .int a2), (3, .int a3)] := hl
  have hiX3 : ∀ w ∈ u_ws RX3 TX3 15, w ∈ wsX4_set := by decide +kernel
  have hiX4 : ∀ w ∈ u_ws RX4 TX4 7, w ∈ wsX4_set := by decide +kernel
  unfold fX4_set at h
  refine lv_aload_n hx hb dX4_set_0 rfl (lv_at hl 0 rfl) ?_
  refine gOw (v := .ref (sA G 1 0)) hx hb hts hiX4 hown hw 0 (by decide) (hts (.fieldLink RX4 10 "SecondHome" "track" "LSecondHome$Track;") (by decide +kernel)) rfl dX4_set_1 ?_
  refine lv_iload_n hx hb dX4_set_4 rfl (lv_at hl 1 rfl) ?_
  obtain ⟨q5, eq5, h⟩ := o_bd h
  refine kV (As := [.int a1]) (rest := []) (st' := [.int q5]) ⟨hx, hb, hml, hown, hts⟩ (kX3_has l G (Or.inl rfl) rfl eq5) (cwV 1 hts gX4_set_X3_has rfl rfl rfl qqX3_has ⟨Nat.le_of_ble_eq_true rfl, Nat.le_of_ble_eq_true rfl⟩) hw (rvTk hw (Or.inl rfl)) rfl hl.1 rfl (Nat.le_of_ble_eq_true rfl) dX4_set_5 ⟨Nat.zero_le _, Nat.zero_le _⟩ rfl (fun H locs hw => ?_)
  refine lv_if_ne (tgt := 18) hx hb dX4_set_8 (by decide) (fun c8 => ?_) (fun c8 => ?_)
  · replace h := o_f c8 h
    refine lv_iload_n hx hb dX4_set_18 rfl (lv_at hl 2 rfl) ?_
    by_cases c19_1 : a2 = (1 : Int32)
    · replace h := o_t c19_1 h
      refine lv_tableIn (tgt := 48) hx hb dX4_set_19 (by rw [c19_1]; decide) (by rw [c19_1]; decide) (by rw [c19_1]; rfl) (by decide) ?_
      refine lv_iload_n hx hb dX4_set_48 rfl (lv_at hl 3 rfl) ?_
      obtain ⟨q49, eq49, h⟩ := o_bd h
      refine kS (As := [.int a3]) (rest := []) (st' := [.int q49]) ⟨hx, hb, hml, hown, hts⟩ (kX4_isPace l G eq49) (va_cwS 1 hts gX4_set_X4_isPace rfl rfl rfl qqX4_isPace ⟨Nat.le_of_ble_eq_true rfl, Nat.le_of_ble_eq_true rfl⟩) hw rfl hl.1 rfl (Nat.le_of_ble_eq_true rfl) dX4_set_49 ⟨Nat.zero_le _, Nat.zero_le _⟩ rfl (fun H locs hw => ?_)
      refine lv_if_eq (tgt := 70) hx hb dX4_set_52 (by decide) (fun c52 => ?_) (fun c52 => ?_)
      · replace h := o_t c52 h
        refine lv_aload_n hx hb dX4_set_70 rfl (lv_at hl 0 rfl) ?_
        refine lv_ldc (v := -1000000001) hx hb hown (hts (.constant RX4 50 (-1000000001)) (by decide +kernel)) dX4_set_71 ?_
        obtain ⟨q73, eq73, h⟩ := o_bd h
        refine kV (As := [.int (-1000000001 : Int32)]) (rest := []) (st' := [.int q73.1]) ⟨hx, hb, hml, hown, hts⟩ (kX4_found l G eq73) (cwV 1 hts gX4_set_X4_found rfl rfl rfl qqX4_found ⟨Nat.le_of_ble_eq_true rfl, Nat.le_of_ble_eq_true rfl⟩) hw (rvOw hw) rfl hl.1 rfl (Nat.le_of_ble_eq_true rfl) dX4_set_73 ⟨Nat.zero_le _, Nat.zero_le _⟩ rfl (fun H locs hw => ?_)
        exact rI hQ hx hb hr hlk hw dX4_set_76 (o_2a h) (o_2b h) rfl
      · replace h := o_f c52 h
        refine lv_aload_n hx hb dX4_set_55 rfl (lv_at hl 0 rfl) ?_
        refine gOw (v := .ref (sA G 1 0)) hx hb hts hiX4 hown hw 0 (by decide) (hts (.fieldLink RX4 10 "SecondHome" "track" "LSecondHome$Track;") (by decide +kernel)) rfl dX4_set_56 ?_
        refine gTk (v := .ref (sA G 1 2)) hx hb hts hiX3 hown hw (Or.inl rfl) rfl 7 (by decide) (hts (.fieldLink RX4 79 "SecondHome$Track" "paces" "[I") (by decide +kernel)) rfl dX4_set_59 ?_
        refine lv_iload_n hx hb dX4_set_62 rfl (lv_at hl 1 rfl) ?_
        refine lv_iload_n hx hb dX4_set_63 rfl (lv_at hl 3 rfl) ?_
        obtain ⟨q64, eq64, h⟩ := o_bd h
        refine kS (As := [.ref (sA G 1 2), .int a1, .int a3]) (rest := []) (st' := [.int q64.1]) ⟨hx, hb, hml, hown, hts⟩ (kX4_exchange l G (Or.inl rfl) (by decide) rfl eq64) (va_cwS 3 hts gX4_set_X4_exchange rfl rfl rfl qqX4_exchange ⟨Nat.le_of_ble_eq_true rfl, Nat.le_of_ble_eq_true rfl⟩) hw rfl hl.1 rfl (Nat.le_of_ble_eq_true rfl) dX4_set_64 ⟨Nat.zero_le _, Nat.zero_le _⟩ rfl (fun H locs hw => ?_)
        obtain ⟨S64, eS64, h⟩ := o_nm h
        rw [← eS64] at hw
        refine lv_goto (tgt := 76) hx hb dX4_set_67 (by decide) ?_
        exact rI hQ hx hb hr hlk hw dX4_set_76 (o_2a h) (o_2b h) rfl
    replace h := o_f c19_1 h
    by_cases c19_2 : a2 = (2 : Int32)
    · replace h := o_t c19_2 h
      refine lv_tableIn (tgt := 77) hx hb dX4_set_19 (by rw [c19_2]; decide) (by rw [c19_2]; decide) (by rw [c19_2]; rfl) (by decide) ?_
      refine lv_iload_n hx hb dX4_set_77 rfl (lv_at hl 3 rfl) ?_
      obtain ⟨q78, eq78, h⟩ := o_bd h
      refine kS (As := [.int a3]) (rest := []) (st' := [.int q78]) ⟨hx, hb, hml, hown, hts⟩ (kX4_isBreath l G eq78) (va_cwS 1 hts gX4_set_X4_isBreath rfl rfl rfl qqX4_isBreath ⟨Nat.le_of_ble_eq_true rfl, Nat.le_of_ble_eq_true rfl⟩) hw rfl hl.1 rfl (Nat.le_of_ble_eq_true rfl) dX4_set_78 ⟨Nat.zero_le _, Nat.zero_le _⟩ rfl (fun H locs hw => ?_)
      refine lv_if_eq (tgt := 99) hx hb dX4_set_81 (by decide) (fun c81 => ?_) (fun c81 => ?_)
      · replace h := o_t c81 h
        refine lv_aload_n hx hb dX4_set_99 rfl (lv_at hl 0 rfl) ?_
        refine lv_ldc (v := -1000000001) hx hb hown (hts (.constant RX4 50 (-1000000001)) (by decide +kernel)) dX4_set_100 ?_
        obtain ⟨q102, eq102, h⟩ := o_bd h
        refine kV (As := [.int (-1000000001 : Int32)]) (rest := []) (st' := [.int q102.1]) ⟨hx, hb, hml, hown, hts⟩ (kX4_found l G eq102) (cwV 1 hts gX4_set_X4_found rfl rfl rfl qqX4_found ⟨Nat.le_of_ble_eq_true rfl, Nat.le_of_ble_eq_true rfl⟩) hw (rvOw hw) rfl hl.1 rfl (Nat.le_of_ble_eq_true rfl) dX4_set_102 ⟨Nat.zero_le _, Nat.zero_le _⟩ rfl (fun H locs hw => ?_)
        exact rI hQ hx hb hr hlk hw dX4_set_105 (o_2a h) (o_2b h) rfl
      · replace h := o_f c81 h
        refine lv_aload_n hx hb dX4_set_84 rfl (lv_at hl 0 rfl) ?_
        refine gOw (v := .ref (sA G 1 0)) hx hb hts hiX4 hown hw 0 (by decide) (hts (.fieldLink RX4 10 "SecondHome" "track" "LSecondHome$Track;") (by decide +kernel)) rfl dX4_set_85 ?_
        refine gTk (v := .ref (sA G 1 3)) hx hb hts hiX3 hown hw (Or.inl rfl) rfl 8 (by decide) (hts (.fieldLink RX4 82 "SecondHome$Track" "breaths" "[I") (by decide +kernel)) rfl dX4_set_88 ?_
        refine lv_iload_n hx hb dX4_set_91 rfl (lv_at hl 1 rfl) ?_
        refine lv_iload_n hx hb dX4_set_92 rfl (lv_at hl 3 rfl) ?_
        obtain ⟨q93, eq93, h⟩ := o_bd h
        refine kS (As := [.ref (sA G 1 3), .int a1, .int a3]) (rest := []) (st' := [.int q93.1]) ⟨hx, hb, hml, hown, hts⟩ (kX4_exchange l G (Or.inl rfl) (by decide) rfl eq93) (va_cwS 3 hts gX4_set_X4_exchange rfl rfl rfl qqX4_exchange ⟨Nat.le_of_ble_eq_true rfl, Nat.le_of_ble_eq_true rfl⟩) hw rfl hl.1 rfl (Nat.le_of_ble_eq_true rfl) dX4_set_93 ⟨Nat.zero_le _, Nat.zero_le _⟩ rfl (fun H locs hw => ?_)
        obtain ⟨S93, eS93, h⟩ := o_nm h
        rw [← eS93] at hw
        refine lv_goto (tgt := 105) hx hb dX4_set_96 (by decide) ?_
        exact rI hQ hx hb hr hlk hw dX4_set_105 (o_2a h) (o_2b h) rfl
    replace h := o_f c19_2 h
    by_cases c19_3 : a2 = (3 : Int32)
    · replace h := o_t c19_3 h
      refine lv_tableIn (tgt := 106) hx hb dX4_set_19 (by rw [c19_3]; decide) (by rw [c19_3]; decide) (by rw [c19_3]; rfl) (by decide) ?_
      refine lv_aload_n hx hb dX4_set_106 rfl (lv_at hl 0 rfl) ?_
      refine lv_iload_n hx hb dX4_set_107 rfl (lv_at hl 1 rfl) ?_
      refine lv_iload_n hx hb dX4_set_108 rfl (lv_at hl 3 rfl) ?_
      obtain ⟨q109, eq109, h⟩ := o_bd h
      refine kV (As := [.int a1, .int a3]) (rest := []) (st' := [.int q109]) ⟨hx, hb, hml, hown, hts⟩ (kX4_isFriendFor l G eq109) (cwV 2 hts gX4_set_X4_isFriendFor rfl rfl rfl qqX4_isFriendFor ⟨Nat.le_of_ble_eq_true rfl, Nat.le_of_ble_eq_true rfl⟩) hw (rvOw hw) rfl hl.1 rfl (Nat.le_of_ble_eq_true rfl) dX4_set_109 ⟨Nat.zero_le _, Nat.zero_le _⟩ rfl (fun H locs hw => ?_)
      refine lv_if_eq (tgt := 130) hx hb dX4_set_112 (by decide) (fun c112 => ?_) (fun c112 => ?_)
      · replace h := o_t c112 h
        refine lv_aload_n hx hb dX4_set_130 rfl (lv_at hl 0 rfl) ?_
        refine lv_ldc (v := -1000000001) hx hb hown (hts (.constant RX4 50 (-1000000001)) (by decide +kernel)) dX4_set_131 ?_
        obtain ⟨q133, eq133, h⟩ := o_bd h
        refine kV (As := [.int (-1000000001 : Int32)]) (rest := []) (st' := [.int q133.1]) ⟨hx, hb, hml, hown, hts⟩ (kX4_found l G eq133) (cwV 1 hts gX4_set_X4_found rfl rfl rfl qqX4_found ⟨Nat.le_of_ble_eq_true rfl, Nat.le_of_ble_eq_true rfl⟩) hw (rvOw hw) rfl hl.1 rfl (Nat.le_of_ble_eq_true rfl) dX4_set_133 ⟨Nat.zero_le _, Nat.zero_le _⟩ rfl (fun H locs hw => ?_)
        exact rI hQ hx hb hr hlk hw dX4_set_136 (o_2a h) (o_2b h) rfl
      · replace h := o_f c112 h
        refine lv_aload_n hx hb dX4_set_115 rfl (lv_at hl 0 rfl) ?_
        refine gOw (v := .ref (sA G 1 0)) hx hb hts hiX4 hown hw 0 (by decide) (hts (.fieldLink RX4 10 "SecondHome" "track" "LSecondHome$Track;") (by decide +kernel)) rfl dX4_set_116 ?_
        refine gTk (v := .ref (sA G 1 4)) hx hb hts hiX3 hown hw (Or.inl rfl) rfl 9 (by decide) (hts (.fieldLink RX4 85 "SecondHome$Track" "friends" "[I") (by decide +kernel)) rfl dX4_set_119 ?_
        refine lv_iload_n hx hb dX4_set_122 rfl (lv_at hl 1 rfl) ?_
        refine lv_iload_n hx hb dX4_set_123 rfl (lv_at hl 3 rfl) ?_
        obtain ⟨q124, eq124, h⟩ := o_bd h
        refine kS (As := [.ref (sA G 1 4), .int a1, .int a3]) (rest := []) (st' := [.int q124.1]) ⟨hx, hb, hml, hown, hts⟩ (kX4_exchange l G (Or.inl rfl) (by decide) rfl eq124) (va_cwS 3 hts gX4_set_X4_exchange rfl rfl rfl qqX4_exchange ⟨Nat.le_of_ble_eq_true rfl, Nat.le_of_ble_eq_true rfl⟩) hw rfl hl.1 rfl (Nat.le_of_ble_eq_true rfl) dX4_set_124 ⟨Nat.zero_le _, Nat.zero_le _⟩ rfl (fun H locs hw => ?_)
        obtain ⟨S124, eS124, h⟩ := o_nm h
        rw [← eS124] at hw
        refine lv_goto (tgt := 136) hx hb dX4_set_127 (by decide) ?_
        exact rI hQ hx hb hr hlk hw dX4_set_136 (o_2a h) (o_2b h) rfl
    replace h := o_f c19_3 h
    by_cases c19_4 : a2 = (4 : Int32)
    · replace h := o_t c19_4 h
      refine lv_tableIn (tgt := 137) hx hb dX4_set_19 (by rw [c19_4]; decide) (by rw [c19_4]; decide) (by rw [c19_4]; rfl) (by decide) ?_
      refine lv_aload_n hx hb dX4_set_137 rfl (lv_at hl 0 rfl) ?_
      refine gOw (v := .ref (sA G 1 0)) hx hb hts hiX4 hown hw 0 (by decide) (hts (.fieldLink RX4 10 "SecondHome" "track" "LSecondHome$Track;") (by decide +kernel)) rfl dX4_set_138 ?_
      refine lv_iload_n hx hb dX4_set_141 rfl (lv_at hl 3 rfl) ?_
      obtain ⟨q142, eq142, h⟩ := o_bd h
      refine kV (As := [.int a3]) (rest := []) (st' := [.int q142]) ⟨hx, hb, hml, hown, hts⟩ (kX3_isStart l G (Or.inl rfl) rfl eq142) (cwV 1 hts gX4_set_X3_isStart rfl rfl rfl qqX3_isStart ⟨Nat.le_of_ble_eq_true rfl, Nat.le_of_ble_eq_true rfl⟩) hw (rvTk hw (Or.inl rfl)) rfl hl.1 rfl (Nat.le_of_ble_eq_true rfl) dX4_set_142 ⟨Nat.zero_le _, Nat.zero_le _⟩ rfl (fun H locs hw => ?_)
      refine lv_if_eq (tgt := 163) hx hb dX4_set_145 (by decide) (fun c145 => ?_) (fun c145 => ?_)
      · replace h := o_t c145 h
        refine lv_aload_n hx hb dX4_set_163 rfl (lv_at hl 0 rfl) ?_
        refine lv_ldc (v := -1000000001) hx hb hown (hts (.constant RX4 50 (-1000000001)) (by decide +kernel)) dX4_set_164 ?_
        obtain ⟨q166, eq166, h⟩ := o_bd h
        refine kV (As := [.int (-1000000001 : Int32)]) (rest := []) (st' := [.int q166.1]) ⟨hx, hb, hml, hown, hts⟩ (kX4_found l G eq166) (cwV 1 hts gX4_set_X4_found rfl rfl rfl qqX4_found ⟨Nat.le_of_ble_eq_true rfl, Nat.le_of_ble_eq_true rfl⟩) hw (rvOw hw) rfl hl.1 rfl (Nat.le_of_ble_eq_true rfl) dX4_set_166 ⟨Nat.zero_le _, Nat.zero_le _⟩ rfl (fun H locs hw => ?_)
        exact rI hQ hx hb hr hlk hw dX4_set_169 (o_2a h) (o_2b h) rfl
      · replace h := o_f c145 h
        refine lv_aload_n hx hb dX4_set_148 rfl (lv_at hl 0 rfl) ?_
        refine gOw (v := .ref (sA G 1 0)) hx hb hts hiX4 hown hw 0 (by decide) (hts (.fieldLink RX4 10 "SecondHome" "track" "LSecondHome$Track;") (by decide +kernel)) rfl dX4_set_149 ?_
        refine gTk (v := .ref (sA G 1 5)) hx hb hts hiX3 hown hw (Or.inl rfl) rfl 10 (by decide) (hts (.fieldLink RX4 88 "SecondHome$Track" "starts" "[I") (by decide +kernel)) rfl dX4_set_152 ?_
        refine lv_iload_n hx hb dX4_set_155 rfl (lv_at hl 1 rfl) ?_
        refine lv_iload_n hx hb dX4_set_156 rfl (lv_at hl 3 rfl) ?_
        obtain ⟨q157, eq157, h⟩ := o_bd h
        refine kS (As := [.ref (sA G 1 5), .int a1, .int a3]) (rest := []) (st' := [.int q157.1]) ⟨hx, hb, hml, hown, hts⟩ (kX4_exchange l G (Or.inl rfl) (by decide) rfl eq157) (va_cwS 3 hts gX4_set_X4_exchange rfl rfl rfl qqX4_exchange ⟨Nat.le_of_ble_eq_true rfl, Nat.le_of_ble_eq_true rfl⟩) hw rfl hl.1 rfl (Nat.le_of_ble_eq_true rfl) dX4_set_157 ⟨Nat.zero_le _, Nat.zero_le _⟩ rfl (fun H locs hw => ?_)
        obtain ⟨S157, eS157, h⟩ := o_nm h
        rw [← eS157] at hw
        refine lv_goto (tgt := 169) hx hb dX4_set_160 (by decide) ?_
        exact rI hQ hx hb hr hlk hw dX4_set_169 (o_2a h) (o_2b h) rfl
    replace h := o_f c19_4 h
    have sw19 : a2.toInt < 1 ∨ 4 < a2.toInt := by
      have z1 := sw_ne c19_1
      have z2 := sw_ne c19_2
      have z3 := sw_ne c19_3
      have z4 := sw_ne c19_4
      rw [show ((1 : Int32)).toInt = 1 from rfl] at z1
      rw [show ((2 : Int32)).toInt = 2 from rfl] at z2
      rw [show ((3 : Int32)).toInt = 3 from rfl] at z3
      rw [show ((4 : Int32)).toInt = 4 from rfl] at z4
      omega
    refine lv_tableOut (tgt := 170) hx hb dX4_set_19 sw19 (by decide) ?_
    refine lv_aload_n hx hb dX4_set_170 rfl (lv_at hl 0 rfl) ?_
    refine lv_ldc (v := -1000000001) hx hb hown (hts (.constant RX4 50 (-1000000001)) (by decide +kernel)) dX4_set_171 ?_
    obtain ⟨q173, eq173, h⟩ := o_bd h
    refine kV (As := [.int (-1000000001 : Int32)]) (rest := []) (st' := [.int q173.1]) ⟨hx, hb, hml, hown, hts⟩ (kX4_found l G eq173) (cwV 1 hts gX4_set_X4_found rfl rfl rfl qqX4_found ⟨Nat.le_of_ble_eq_true rfl, Nat.le_of_ble_eq_true rfl⟩) hw (rvOw hw) rfl hl.1 rfl (Nat.le_of_ble_eq_true rfl) dX4_set_173 ⟨Nat.zero_le _, Nat.zero_le _⟩ rfl (fun H locs hw => ?_)
    exact rI hQ hx hb hr hlk hw dX4_set_176 (o_2a h) (o_2b h) rfl
  · replace h := o_t c8 h
    refine lv_aload_n hx hb dX4_set_11 rfl (lv_at hl 0 rfl) ?_
    refine lv_ldc (v := -1000000001) hx hb hown (hts (.constant RX4 50 (-1000000001)) (by decide +kernel)) dX4_set_12 ?_
    obtain ⟨q14, eq14, h⟩ := o_bd h
    refine kV (As := [.int (-1000000001 : Int32)]) (rest := []) (st' := [.int q14.1]) ⟨hx, hb, hml, hown, hts⟩ (kX4_found l G eq14) (cwV 1 hts gX4_set_X4_found rfl rfl rfl qqX4_found ⟨Nat.le_of_ble_eq_true rfl, Nat.le_of_ble_eq_true rfl⟩) hw (rvOw hw) rfl hl.1 rfl (Nat.le_of_ble_eq_true rfl) dX4_set_14 ⟨Nat.zero_le _, Nat.zero_le _⟩ rfl (fun H locs hw => ?_)
    exact rI hQ hx hb hr hlk hw dX4_set_17 (o_2a h) (o_2b h) rfl
-- X4_turn
set_option maxRecDepth 100000 in
set_option maxHeartbeats 4000000 in
theorem kX4_turn (l : Launch) (G : sGl) {S : sWo} {M : sOb} {a1 : Int32} {a2 : Int32} {q : (Int32 × sWo)}  (h : fX4_turn S a1 a2 = some q) : sCt l G yX4_turn wsX4_turn rmX4_turn [.ref (sA G 0 0), .int a1, .int a2] S M (some (.int q.1)) q.2 M := by
  refine cMk (cc := cX4_turn) (maxL := 3) (ret := (some .int)) (by decide) rfl (Nat.le_of_ble_eq_true rfl) ?_
  intro p e s m args below meth c Q hQ hx hb hr hlk hml hown hts hw ls hl
  have hown : s.vm.findClass RX4 = some m.cls := hown
  have hl : lv_has ls 3 [(0, .ref (sA G 0 0)), (1, .int a1), (2, .int a2)] := hl
  have hiX3 : ∀ w ∈ u_ws RX3 TX3 15, w ∈ wsX4_turn := by decide +kernel
  have hiX4 : ∀ w ∈ u_ws RX4 TX4 7, w ∈ wsX4_turn := by decide +kernel
  unfold fX4_turn at h
  refine lv_aload_n hx hb dX4_turn_0 rfl (lv_at hl 0 rfl) ?_
  refine gOw (v := .ref (sA G 1 0)) hx hb hts hiX4 hown hw 0 (by decide) (hts (.fieldLink RX4 10 "SecondHome" "track" "LSecondHome$Track;") (by decide +kernel)) rfl dX4_turn_1 ?_
  refine lv_iload_n hx hb dX4_turn_4 rfl (lv_at hl 1 rfl) ?_
  obtain ⟨q5, eq5, h⟩ := o_bd h
  refine kV (As := [.int a1]) (rest := []) (st' := [.int q5]) ⟨hx, hb, hml, hown, hts⟩ (kX3_has l G (Or.inl rfl) rfl eq5) (cwV 1 hts gX4_turn_X3_has rfl rfl rfl qqX3_has ⟨Nat.le_of_ble_eq_true rfl, Nat.le_of_ble_eq_true rfl⟩) hw (rvTk hw (Or.inl rfl)) rfl hl.1 rfl (Nat.le_of_ble_eq_true rfl) dX4_turn_5 ⟨Nat.zero_le _, Nat.zero_le _⟩ rfl (fun H locs hw => ?_)
  refine lv_if_eq (tgt := 18) hx hb dX4_turn_8 (by decide) (fun c8 => ?_) (fun c8 => ?_)
  · replace h := o_t c8 h
    refine lv_aload_n hx hb dX4_turn_18 rfl (lv_at hl 0 rfl) ?_
    refine lv_ldc (v := -1000000001) hx hb hown (hts (.constant RX4 50 (-1000000001)) (by decide +kernel)) dX4_turn_19 ?_
    obtain ⟨q21, eq21, h⟩ := o_bd h
    refine kV (As := [.int (-1000000001 : Int32)]) (rest := []) (st' := [.int q21.1]) ⟨hx, hb, hml, hown, hts⟩ (kX4_found l G eq21) (cwV 1 hts gX4_turn_X4_found rfl rfl rfl qqX4_found ⟨Nat.le_of_ble_eq_true rfl, Nat.le_of_ble_eq_true rfl⟩) hw (rvOw hw) rfl hl.1 rfl (Nat.le_of_ble_eq_true rfl) dX4_turn_21 ⟨Nat.zero_le _, Nat.zero_le _⟩ rfl (fun H locs hw => ?_)
    exact rI hQ hx hb hr hlk hw dX4_turn_24 (o_2a h) (o_2b h) rfl
  · replace h := o_f c8 h
    refine lv_iload_n hx hb dX4_turn_11 rfl (lv_at hl 2 rfl) ?_
    obtain ⟨q12, eq12, h⟩ := o_bd h
    refine kS (As := [.int a2]) (rest := []) (st' := [.int q12]) ⟨hx, hb, hml, hown, hts⟩ (kX4_isKind l G eq12) (va_cwS 1 hts gX4_turn_X4_isKind rfl rfl rfl qqX4_isKind ⟨Nat.le_of_ble_eq_true rfl, Nat.le_of_ble_eq_true rfl⟩) hw rfl hl.1 rfl (Nat.le_of_ble_eq_true rfl) dX4_turn_12 ⟨Nat.zero_le _, Nat.zero_le _⟩ rfl (fun H locs hw => ?_)
    refine lv_if_ne (tgt := 25) hx hb dX4_turn_15 (by decide) (fun c15 => ?_) (fun c15 => ?_)
    · replace h := o_f c15 h
      refine lv_aload_n hx hb dX4_turn_25 rfl (lv_at hl 0 rfl) ?_
      refine gOw (v := .ref (sA G 1 0)) hx hb hts hiX4 hown hw 0 (by decide) (hts (.fieldLink RX4 10 "SecondHome" "track" "LSecondHome$Track;") (by decide +kernel)) rfl dX4_turn_26 ?_
      refine gTk (v := .ref (sA G 1 1)) hx hb hts hiX3 hown hw (Or.inl rfl) rfl 6 (by decide) (hts (.fieldLink RX4 76 "SecondHome$Track" "kinds" "[I") (by decide +kernel)) rfl dX4_turn_29 ?_
      refine lv_iload_n hx hb dX4_turn_32 rfl (lv_at hl 1 rfl) ?_
      refine lv_iload_n hx hb dX4_turn_33 rfl (lv_at hl 2 rfl) ?_
      obtain ⟨q34, eq34, h⟩ := o_bd h
      refine kS (As := [.ref (sA G 1 1), .int a1, .int a2]) (rest := []) (st' := [.int q34.1]) ⟨hx, hb, hml, hown, hts⟩ (kX4_exchange l G (Or.inl rfl) (by decide) rfl eq34) (va_cwS 3 hts gX4_turn_X4_exchange rfl rfl rfl qqX4_exchange ⟨Nat.le_of_ble_eq_true rfl, Nat.le_of_ble_eq_true rfl⟩) hw rfl hl.1 rfl (Nat.le_of_ble_eq_true rfl) dX4_turn_34 ⟨Nat.zero_le _, Nat.zero_le _⟩ rfl (fun H locs hw => ?_)
      obtain ⟨S34, eS34, h⟩ := o_nm h
      rw [← eS34] at hw
      exact rI hQ hx hb hr hlk hw dX4_turn_37 (o_2a h) (o_2b h) rfl
    · replace h := o_t c15 h
      refine lv_aload_n hx hb dX4_turn_18 rfl (lv_at hl 0 rfl) ?_
      refine lv_ldc (v := -1000000001) hx hb hown (hts (.constant RX4 50 (-1000000001)) (by decide +kernel)) dX4_turn_19 ?_
      obtain ⟨q21, eq21, h⟩ := o_bd h
      refine kV (As := [.int (-1000000001 : Int32)]) (rest := []) (st' := [.int q21.1]) ⟨hx, hb, hml, hown, hts⟩ (kX4_found l G eq21) (cwV 1 hts gX4_turn_X4_found rfl rfl rfl qqX4_found ⟨Nat.le_of_ble_eq_true rfl, Nat.le_of_ble_eq_true rfl⟩) hw (rvOw hw) rfl hl.1 rfl (Nat.le_of_ble_eq_true rfl) dX4_turn_21 ⟨Nat.zero_le _, Nat.zero_le _⟩ rfl (fun H locs hw => ?_)
      exact rI hQ hx hb hr hlk hw dX4_turn_24 (o_2a h) (o_2b h) rfl
-- X4_as
set_option maxRecDepth 100000 in
set_option maxHeartbeats 4000000 in
theorem kX4_as (l : Launch) (G : sGl) {S : sWo} {M : sOb} {a1 : Int32} {a2 : Int32} {q : (Int32 × sWo)}  (h : fX4_as S a1 a2 = some q) : sCt l G yX4_as wsX4_as rmX4_as [.ref (sA G 0 0), .int a1, .int a2] S M (some (.int q.1)) q.2 M := by
  refine cMk (cc := cX4_as) (maxL := 3) (ret := (some .int)) (by decide) rfl (Nat.le_of_ble_eq_true rfl) ?_
  intro p e s m args below meth c Q hQ hx hb hr hlk hml hown hts hw ls hl
  have hown : s.vm.findClass RX4 = some m.cls := hown
  have hl : lv_has ls 3 [(0, .ref (sA G 0 0)), (1, .int a1), (2, .int a2)] := hl
  have hiX3 : ∀ w ∈ u_ws RX3 TX3 15, w ∈ wsX4_as := by decide +kernel
  have hiX4 : ∀ w ∈ u_ws RX4 TX4 7, w ∈ wsX4_as := by decide +kernel
  unfold fX4_as at h
  refine lv_aload_n hx hb dX4_as_0 rfl (lv_at hl 0 rfl) ?_
  refine gOw (v := .ref (sA G 1 0)) hx hb hts hiX4 hown hw 0 (by decide) (hts (.fieldLink RX4 10 "SecondHome" "track" "LSecondHome$Track;") (by decide +kernel)) rfl dX4_as_1 ?_
  refine lv_iload_n hx hb dX4_as_4 rfl (lv_at hl 1 rfl) ?_
  obtain ⟨q5, eq5, h⟩ := o_bd h
  refine kV (As := [.int a1]) (rest := []) (st' := [.int q5]) ⟨hx, hb, hml, hown, hts⟩ (kX3_has l G (Or.inl rfl) rfl eq5) (cwV 1 hts gX4_as_X3_has rfl rfl rfl qqX3_has ⟨Nat.le_of_ble_eq_true rfl, Nat.le_of_ble_eq_true rfl⟩) hw (rvTk hw (Or.inl rfl)) rfl hl.1 rfl (Nat.le_of_ble_eq_true rfl) dX4_as_5 ⟨Nat.zero_le _, Nat.zero_le _⟩ rfl (fun H locs hw => ?_)
  refine lv_if_eq (tgt := 18) hx hb dX4_as_8 (by decide) (fun c8 => ?_) (fun c8 => ?_)
  · replace h := o_t c8 h
    refine lv_aload_n hx hb dX4_as_18 rfl (lv_at hl 0 rfl) ?_
    refine lv_ldc (v := -1000000001) hx hb hown (hts (.constant RX4 50 (-1000000001)) (by decide +kernel)) dX4_as_19 ?_
    obtain ⟨q21, eq21, h⟩ := o_bd h
    refine kV (As := [.int (-1000000001 : Int32)]) (rest := []) (st' := [.int q21.1]) ⟨hx, hb, hml, hown, hts⟩ (kX4_found l G eq21) (cwV 1 hts gX4_as_X4_found rfl rfl rfl qqX4_found ⟨Nat.le_of_ble_eq_true rfl, Nat.le_of_ble_eq_true rfl⟩) hw (rvOw hw) rfl hl.1 rfl (Nat.le_of_ble_eq_true rfl) dX4_as_21 ⟨Nat.zero_le _, Nat.zero_le _⟩ rfl (fun H locs hw => ?_)
    exact rI hQ hx hb hr hlk hw dX4_as_24 (o_2a h) (o_2b h) rfl
  · replace h := o_f c8 h
    refine lv_iload_n hx hb dX4_as_11 rfl (lv_at hl 2 rfl) ?_
    obtain ⟨q12, eq12, h⟩ := o_bd h
    refine kS (As := [.int a2]) (rest := []) (st' := [.int q12]) ⟨hx, hb, hml, hown, hts⟩ (kX4_isKind l G eq12) (va_cwS 1 hts gX4_as_X4_isKind rfl rfl rfl qqX4_isKind ⟨Nat.le_of_ble_eq_true rfl, Nat.le_of_ble_eq_true rfl⟩) hw rfl hl.1 rfl (Nat.le_of_ble_eq_true rfl) dX4_as_12 ⟨Nat.zero_le _, Nat.zero_le _⟩ rfl (fun H locs hw => ?_)
    refine lv_if_ne (tgt := 25) hx hb dX4_as_15 (by decide) (fun c15 => ?_) (fun c15 => ?_)
    · replace h := o_f c15 h
      refine lv_aload_n hx hb dX4_as_25 rfl (lv_at hl 0 rfl) ?_
      refine gOw (v := .ref (sA G 1 0)) hx hb hts hiX4 hown hw 0 (by decide) (hts (.fieldLink RX4 10 "SecondHome" "track" "LSecondHome$Track;") (by decide +kernel)) rfl dX4_as_26 ?_
      refine gTk (v := .ref (sA G 1 1)) hx hb hts hiX3 hown hw (Or.inl rfl) rfl 6 (by decide) (hts (.fieldLink RX4 76 "SecondHome$Track" "kinds" "[I") (by decide +kernel)) rfl dX4_as_29 ?_
      refine lv_iload_n hx hb dX4_as_32 rfl (lv_at hl 1 rfl) ?_
      obtain ⟨b33, h⟩ := o_in h
      refine ldTk hx hb hw (Or.inl rfl) rfl 0 (by decide) b33 dX4_as_33 ?_
      refine lv_iload_n hx hb dX4_as_34 rfl (lv_at hl 2 rfl) ?_
      obtain ⟨q35, eq35, h⟩ := o_bd h
      refine kS (As := [.int ((S 1).2.1 0 a1.toNatClampNeg), .int a2]) (rest := []) (st' := [.int q35]) ⟨hx, hb, hml, hown, hts⟩ (kX0_isUnder l G eq35) (va_cwS 2 hts gX4_as_X0_isUnder rfl rfl rfl qqX0_isUnder ⟨Nat.le_of_ble_eq_true rfl, Nat.le_of_ble_eq_true rfl⟩) hw rfl hl.1 rfl (Nat.le_of_ble_eq_true rfl) dX4_as_35 ⟨Nat.zero_le _, Nat.zero_le _⟩ rfl (fun H locs hw => ?_)
      refine lv_if_ne (tgt := 48) hx hb dX4_as_38 (by decide) (fun c38 => ?_) (fun c38 => ?_)
      · replace h := o_f c38 h
        refine lv_aload_n hx hb dX4_as_48 rfl (lv_at hl 0 rfl) ?_
        refine gOw (v := .ref (sA G 1 0)) hx hb hts hiX4 hown hw 0 (by decide) (hts (.fieldLink RX4 10 "SecondHome" "track" "LSecondHome$Track;") (by decide +kernel)) rfl dX4_as_49 ?_
        refine gTk (v := .ref (sA G 1 2)) hx hb hts hiX3 hown hw (Or.inl rfl) rfl 7 (by decide) (hts (.fieldLink RX4 79 "SecondHome$Track" "paces" "[I") (by decide +kernel)) rfl dX4_as_52 ?_
        refine lv_iload_n hx hb dX4_as_55 rfl (lv_at hl 1 rfl) ?_
        refine ldTk hx hb hw (Or.inl rfl) rfl 1 (by decide) b33 dX4_as_56 ?_
        exact rI hQ hx hb hr hlk hw dX4_as_57 (o_2a h) (o_2b h) rfl
      · replace h := o_t c38 h
        refine lv_aload_n hx hb dX4_as_41 rfl (lv_at hl 0 rfl) ?_
        refine lv_ldc (v := -1000000003) hx hb hown (hts (.constant RX4 119 (-1000000003)) (by decide +kernel)) dX4_as_42 ?_
        obtain ⟨q44, eq44, h⟩ := o_bd h
        refine kV (As := [.int (-1000000003 : Int32)]) (rest := []) (st' := [.int q44.1]) ⟨hx, hb, hml, hown, hts⟩ (kX4_found l G eq44) (cwV 1 hts gX4_as_X4_found rfl rfl rfl qqX4_found ⟨Nat.le_of_ble_eq_true rfl, Nat.le_of_ble_eq_true rfl⟩) hw (rvOw hw) rfl hl.1 rfl (Nat.le_of_ble_eq_true rfl) dX4_as_44 ⟨Nat.zero_le _, Nat.zero_le _⟩ rfl (fun H locs hw => ?_)
        exact rI hQ hx hb hr hlk hw dX4_as_47 (o_2a h) (o_2b h) rfl
    · replace h := o_t c15 h
      refine lv_aload_n hx hb dX4_as_18 rfl (lv_at hl 0 rfl) ?_
      refine lv_ldc (v := -1000000001) hx hb hown (hts (.constant RX4 50 (-1000000001)) (by decide +kernel)) dX4_as_19 ?_
      obtain ⟨q21, eq21, h⟩ := o_bd h
      refine kV (As := [.int (-1000000001 : Int32)]) (rest := []) (st' := [.int q21.1]) ⟨hx, hb, hml, hown, hts⟩ (kX4_found l G eq21) (cwV 1 hts gX4_as_X4_found rfl rfl rfl qqX4_found ⟨Nat.le_of_ble_eq_true rfl, Nat.le_of_ble_eq_true rfl⟩) hw (rvOw hw) rfl hl.1 rfl (Nat.le_of_ble_eq_true rfl) dX4_as_21 ⟨Nat.zero_le _, Nat.zero_le _⟩ rfl (fun H locs hw => ?_)
      exact rI hQ hx hb hr hlk hw dX4_as_24 (o_2a h) (o_2b h) rfl
-- X4_wish
set_option maxRecDepth 100000 in
set_option maxHeartbeats 4000000 in
theorem kX4_wish (l : Launch) (G : sGl) {S : sWo} {M : sOb} {a1 : Int32} {q : (Int32 × sWo)}  (h : fX4_wish S a1 = some q) : sCt l G yX4_wish wsX4_wish rmX4_wish [.ref (sA G 0 0), .int a1] S M (some (.int q.1)) q.2 M := by
  refine cMk (cc := cX4_wish) (maxL := 2) (ret := (some .int)) (by decide) rfl (Nat.le_of_ble_eq_true rfl) ?_
  intro p e s m args below meth c Q hQ hx hb hr hlk hml hown hts hw ls hl
  have hown : s.vm.findClass RX4 = some m.cls := hown
  have hl : lv_has ls 2 [(0, .ref (sA G 0 0)), (1, .int a1)] := hl
  have hiX4 : ∀ w ∈ u_ws RX4 TX4 7, w ∈ wsX4_wish := by decide +kernel
  unfold fX4_wish at h
  refine lv_aload_n hx hb dX4_wish_0 rfl (lv_at hl 0 rfl) ?_
  refine gOw (v := .ref (sA G 1 0)) hx hb hts hiX4 hown hw 0 (by decide) (hts (.fieldLink RX4 10 "SecondHome" "track" "LSecondHome$Track;") (by decide +kernel)) rfl dX4_wish_1 ?_
  refine lv_iload_n hx hb dX4_wish_4 rfl (lv_at hl 1 rfl) ?_
  obtain ⟨q5, eq5, h⟩ := o_bd h
  refine kV (As := [.int a1]) (rest := []) (st' := [.int q5]) ⟨hx, hb, hml, hown, hts⟩ (kX3_has l G (Or.inl rfl) rfl eq5) (cwV 1 hts gX4_wish_X3_has rfl rfl rfl qqX3_has ⟨Nat.le_of_ble_eq_true rfl, Nat.le_of_ble_eq_true rfl⟩) hw (rvTk hw (Or.inl rfl)) rfl hl.1 rfl (Nat.le_of_ble_eq_true rfl) dX4_wish_5 ⟨Nat.zero_le _, Nat.zero_le _⟩ rfl (fun H locs hw => ?_)
  refine lv_if_ne (tgt := 18) hx hb dX4_wish_8 (by decide) (fun c8 => ?_) (fun c8 => ?_)
  · replace h := o_f c8 h
    refine lv_aload_n hx hb dX4_wish_18 rfl (lv_at hl 0 rfl) ?_
    refine gOw (v := .ref (sA G 1 0)) hx hb hts hiX4 hown hw 0 (by decide) (hts (.fieldLink RX4 10 "SecondHome" "track" "LSecondHome$Track;") (by decide +kernel)) rfl dX4_wish_19 ?_
    refine lv_iload_n hx hb dX4_wish_22 rfl (lv_at hl 1 rfl) ?_
    obtain ⟨q23, eq23, h⟩ := o_bd h
    refine kV (As := [.int a1]) (rest := []) (st' := [.int q23]) ⟨hx, hb, hml, hown, hts⟩ (kX3_isHome l G (Or.inl rfl) rfl eq23) (cwV 1 hts gX4_wish_X3_isHome rfl rfl rfl qqX3_isHome ⟨Nat.le_of_ble_eq_true rfl, Nat.le_of_ble_eq_true rfl⟩) hw (rvTk hw (Or.inl rfl)) rfl hl.1 rfl (Nat.le_of_ble_eq_true rfl) dX4_wish_23 ⟨Nat.zero_le _, Nat.zero_le _⟩ rfl (fun H locs hw => ?_)
    refine lv_if_eq (tgt := 36) hx hb dX4_wish_26 (by decide) (fun c26 => ?_) (fun c26 => ?_)
    · replace h := o_t c26 h
      refine lv_aload_n hx hb dX4_wish_36 rfl (lv_at hl 0 rfl) ?_
      refine gOw (v := .ref (sA G 1 0)) hx hb hts hiX4 hown hw 0 (by decide) (hts (.fieldLink RX4 10 "SecondHome" "track" "LSecondHome$Track;") (by decide +kernel)) rfl dX4_wish_37 ?_
      refine lv_iload_n hx hb dX4_wish_40 rfl (lv_at hl 1 rfl) ?_
      refine lv_aload_n hx hb dX4_wish_41 rfl (lv_at hl 0 rfl) ?_
      refine gOw (v := .ref (sA G 1 0)) hx hb hts hiX4 hown hw 0 (by decide) (hts (.fieldLink RX4 10 "SecondHome" "track" "LSecondHome$Track;") (by decide +kernel)) rfl dX4_wish_42 ?_
      obtain ⟨q45, eq45, h⟩ := o_bd h
      refine kV (As := []) (rest := [.int a1, .ref (sA G 1 0)]) (st' := [.int q45, .int a1, .ref (sA G 1 0)]) ⟨hx, hb, hml, hown, hts⟩ (kX3_firstAlone l G (Or.inl rfl) rfl eq45) (cwV 0 hts gX4_wish_X3_firstAlone rfl rfl rfl qqX3_firstAlone ⟨Nat.le_of_ble_eq_true rfl, Nat.le_of_ble_eq_true rfl⟩) hw (rvTk hw (Or.inl rfl)) rfl hl.1 rfl (Nat.le_of_ble_eq_true rfl) dX4_wish_45 ⟨Nat.zero_le _, Nat.zero_le _⟩ rfl (fun H locs hw => ?_)
      obtain ⟨q48, eq48, h⟩ := o_bd h
      refine kV (As := [.int a1, .int q45]) (rest := []) (st' := [.int q48]) ⟨hx, hb, hml, hown, hts⟩ (kX3_wishOf l G (Or.inl rfl) rfl eq48) (cwV 2 hts gX4_wish_X3_wishOf rfl rfl rfl qqX3_wishOf ⟨Nat.le_of_ble_eq_true rfl, Nat.le_of_ble_eq_true rfl⟩) hw (rvTk hw (Or.inl rfl)) rfl hl.1 rfl (Nat.le_of_ble_eq_true rfl) dX4_wish_48 ⟨Nat.zero_le _, Nat.zero_le _⟩ rfl (fun H locs hw => ?_)
      exact rI hQ hx hb hr hlk hw dX4_wish_51 (o_2a h) (o_2b h) rfl
    · replace h := o_f c26 h
      refine lv_aload_n hx hb dX4_wish_29 rfl (lv_at hl 0 rfl) ?_
      refine lv_ldc (v := -1000000005) hx hb hown (hts (.constant RX4 123 (-1000000005)) (by decide +kernel)) dX4_wish_30 ?_
      obtain ⟨q32, eq32, h⟩ := o_bd h
      refine kV (As := [.int (-1000000005 : Int32)]) (rest := []) (st' := [.int q32.1]) ⟨hx, hb, hml, hown, hts⟩ (kX4_found l G eq32) (cwV 1 hts gX4_wish_X4_found rfl rfl rfl qqX4_found ⟨Nat.le_of_ble_eq_true rfl, Nat.le_of_ble_eq_true rfl⟩) hw (rvOw hw) rfl hl.1 rfl (Nat.le_of_ble_eq_true rfl) dX4_wish_32 ⟨Nat.zero_le _, Nat.zero_le _⟩ rfl (fun H locs hw => ?_)
      exact rI hQ hx hb hr hlk hw dX4_wish_35 (o_2a h) (o_2b h) rfl
  · replace h := o_t c8 h
    refine lv_aload_n hx hb dX4_wish_11 rfl (lv_at hl 0 rfl) ?_
    refine lv_ldc (v := -1000000001) hx hb hown (hts (.constant RX4 50 (-1000000001)) (by decide +kernel)) dX4_wish_12 ?_
    obtain ⟨q14, eq14, h⟩ := o_bd h
    refine kV (As := [.int (-1000000001 : Int32)]) (rest := []) (st' := [.int q14.1]) ⟨hx, hb, hml, hown, hts⟩ (kX4_found l G eq14) (cwV 1 hts gX4_wish_X4_found rfl rfl rfl qqX4_found ⟨Nat.le_of_ble_eq_true rfl, Nat.le_of_ble_eq_true rfl⟩) hw (rvOw hw) rfl hl.1 rfl (Nat.le_of_ble_eq_true rfl) dX4_wish_14 ⟨Nat.zero_le _, Nat.zero_le _⟩ rfl (fun H locs hw => ?_)
    exact rI hQ hx hb hr hlk hw dX4_wish_17 (o_2a h) (o_2b h) rfl
-- X4_line
set_option maxRecDepth 100000 in
set_option maxHeartbeats 4000000 in
theorem kX4_line (l : Launch) (G : sGl) {S : sWo} {M : sOb}  {q : (Int32 × sWo)}  (h : fX4_line S = some q) : sCt l G yX4_line wsX4_line rmX4_line [.ref (sA G 0 0)] S M (some (.int q.1)) q.2 M := by
  refine cMk (cc := cX4_line) (maxL := 2) (ret := (some .int)) (by decide) rfl (Nat.le_of_ble_eq_true rfl) ?_
  intro p e s m args below meth c Q hQ hx hb hr hlk hml hown hts hw ls hl
  have hown : s.vm.findClass RX4 = some m.cls := hown
  have hl : lv_has ls 2 [(0, .ref (sA G 0 0))] := hl
  have hiX3 : ∀ w ∈ u_ws RX3 TX3 15, w ∈ wsX4_line := by decide +kernel
  have hiX4 : ∀ w ∈ u_ws RX4 TX4 7, w ∈ wsX4_line := by decide +kernel
  unfold fX4_line at h
  refine lv_aload_n hx hb dX4_line_0 rfl (lv_at hl 0 rfl) ?_
  refine gOw (v := .ref (sA G 1 0)) hx hb hts hiX4 hown hw 0 (by decide) (hts (.fieldLink RX4 10 "SecondHome" "track" "LSecondHome$Track;") (by decide +kernel)) rfl dX4_line_1 ?_
  refine gTk (v := .int ((S 1).1 5)) hx hb hts hiX3 hown hw (Or.inl rfl) rfl 5 (by decide) (hts (.fieldLink RX4 132 "SecondHome$Track" "homeCount" "I") (by decide +kernel)) rfl dX4_line_4 ?_
  refine lv_topi (fun v7 ev7 => ?_)
  replace h := o_nx ev7 h
  refine lv_istore_n (lv' := [(1, .int v7), (0, .ref (sA G 0 0))]) hx hb dX4_line_7 rfl hl (by decide) rfl (fun ls hl => ?_)
  refine lv_aload_n hx hb dX4_line_8 rfl (lv_at hl 1 rfl) ?_
  refine gOw (v := .ref (sA G 1 0)) hx hb hts hiX4 hown hw 0 (by decide) (hts (.fieldLink RX4 10 "SecondHome" "track" "LSecondHome$Track;") (by decide +kernel)) rfl dX4_line_9 ?_
  obtain ⟨q12, eq12, h⟩ := o_bd h
  refine kV (As := []) (rest := []) (st' := []) ⟨hx, hb, hml, hown, hts⟩ (kX3_lineUp l G (Or.inl rfl) rfl eq12) (cwV 0 hts gX4_line_X3_lineUp rfl rfl rfl qqX3_lineUp ⟨Nat.le_of_ble_eq_true rfl, Nat.le_of_ble_eq_true rfl⟩) hw (rvTk hw (Or.inl rfl)) rfl hl.1 rfl (Nat.le_of_ble_eq_true rfl) dX4_line_12 ⟨Nat.zero_le _, Nat.zero_le _⟩ rfl (fun H locs hw => ?_)
  obtain ⟨S12, eS12, h⟩ := o_nm h
  rw [← eS12] at hw
  refine lv_iload_n hx hb dX4_line_15 rfl (lv_at hl 0 rfl) ?_
  exact rI hQ hx hb hr hlk hw dX4_line_16 (o_2a h) (o_2b h) rfl
-- X4_seconds
set_option maxRecDepth 100000 in
set_option maxHeartbeats 4000000 in
theorem kX4_seconds (l : Launch) (G : sGl) {S : sWo} {M : sOb} {a1 : Int32} {q : (Int32 × sWo)}  (h : fX4_seconds S a1 = some q) : sCt l G yX4_seconds wsX4_seconds rmX4_seconds [.ref (sA G 0 0), .int a1] S M (some (.int q.1)) q.2 M := by
  refine cMk (cc := cX4_seconds) (maxL := 3) (ret := (some .int)) (by decide) rfl (Nat.le_of_ble_eq_true rfl) ?_
  intro p e s m args below meth c Q hQ hx hb hr hlk hml hown hts hw ls hl
  have hown : s.vm.findClass RX4 = some m.cls := hown
  have hl : lv_has ls 3 [(0, .ref (sA G 0 0)), (1, .int a1)] := hl
  have hiX3 : ∀ w ∈ u_ws RX3 TX3 15, w ∈ wsX4_seconds := by decide +kernel
  have hiX4 : ∀ w ∈ u_ws RX4 TX4 7, w ∈ wsX4_seconds := by decide +kernel
  unfold fX4_seconds at h
  refine lv_iload_n hx hb dX4_seconds_0 rfl (lv_at hl 1 rfl) ?_
  refine lv_iconst (v := 1) hx hb dX4_seconds_1 (by decide) ?_
  refine lv_icmp_lt (tgt := 12) hx hb dX4_seconds_2 (by decide) (fun c2 => ?_) (fun c2 => ?_)
  · replace h := o_t c2 h
    refine lv_aload_n hx hb dX4_seconds_12 rfl (lv_at hl 0 rfl) ?_
    refine lv_ldc (v := -1000000001) hx hb hown (hts (.constant RX4 50 (-1000000001)) (by decide +kernel)) dX4_seconds_13 ?_
    obtain ⟨q15, eq15, h⟩ := o_bd h
    refine kV (As := [.int (-1000000001 : Int32)]) (rest := []) (st' := [.int q15.1]) ⟨hx, hb, hml, hown, hts⟩ (kX4_found l G eq15) (cwV 1 hts gX4_seconds_X4_found rfl rfl rfl qqX4_found ⟨Nat.le_of_ble_eq_true rfl, Nat.le_of_ble_eq_true rfl⟩) hw (rvOw hw) rfl hl.1 rfl (Nat.le_of_ble_eq_true rfl) dX4_seconds_15 ⟨Nat.zero_le _, Nat.zero_le _⟩ rfl (fun H locs hw => ?_)
    exact rI hQ hx hb hr hlk hw dX4_seconds_18 (o_2a h) (o_2b h) rfl
  · replace h := o_f c2 h
    refine lv_iload_n hx hb dX4_seconds_5 rfl (lv_at hl 1 rfl) ?_
    refine lv_sipush (v := 600) hx hb dX4_seconds_6 (by decide) ?_
    refine lv_icmp_le (tgt := 19) hx hb dX4_seconds_9 (by decide) (fun c9 => ?_) (fun c9 => ?_)
    · replace h := o_t c9 h
      refine lv_aload_n hx hb dX4_seconds_19 rfl (lv_at hl 0 rfl) ?_
      refine gOw (v := .ref (sA G 1 0)) hx hb hts hiX4 hown hw 0 (by decide) (hts (.fieldLink RX4 10 "SecondHome" "track" "LSecondHome$Track;") (by decide +kernel)) rfl dX4_seconds_20 ?_
      refine gTk (v := .int ((S 1).1 5)) hx hb hts hiX3 hown hw (Or.inl rfl) rfl 5 (by decide) (hts (.fieldLink RX4 132 "SecondHome$Track" "homeCount" "I") (by decide +kernel)) rfl dX4_seconds_23 ?_
      refine lv_topi (fun v26 ev26 => ?_)
      replace h := o_nx ev26 h
      refine lv_istore_n (lv' := [(2, .int v26), (0, .ref (sA G 0 0)), (1, .int a1)]) hx hb dX4_seconds_26 rfl hl (by decide) rfl (fun ls hl => ?_)
      refine lv_aload_n hx hb dX4_seconds_27 rfl (lv_at hl 1 rfl) ?_
      refine gOw (v := .ref (sA G 1 0)) hx hb hts hiX4 hown hw 0 (by decide) (hts (.fieldLink RX4 10 "SecondHome" "track" "LSecondHome$Track;") (by decide +kernel)) rfl dX4_seconds_28 ?_
      refine lv_iload_n hx hb dX4_seconds_31 rfl (lv_at hl 2 rfl) ?_
      obtain ⟨q32, eq32, h⟩ := o_bd h
      refine kV (As := [.int a1]) (rest := []) (st' := []) ⟨hx, hb, hml, hown, hts⟩ (kX3_goOn l G (Or.inl rfl) rfl eq32) (cwV 1 hts gX4_seconds_X3_goOn rfl rfl rfl qqX3_goOn ⟨Nat.le_of_ble_eq_true rfl, Nat.le_of_ble_eq_true rfl⟩) hw (rvTk hw (Or.inl rfl)) rfl hl.1 rfl (Nat.le_of_ble_eq_true rfl) dX4_seconds_32 ⟨Nat.zero_le _, Nat.zero_le _⟩ rfl (fun H locs hw => ?_)
      obtain ⟨S32, eS32, h⟩ := o_nm h
      rw [← eS32] at hw
      refine lv_aload_n hx hb dX4_seconds_35 rfl (lv_at hl 1 rfl) ?_
      refine gOw (v := .ref (sA G 1 0)) hx hb hts hiX4 hown hw 0 (by decide) (hts (.fieldLink RX4 10 "SecondHome" "track" "LSecondHome$Track;") (by decide +kernel)) rfl dX4_seconds_36 ?_
      refine gTk (v := .int ((S32 1).1 5)) hx hb hts hiX3 hown hw (Or.inl rfl) rfl 5 (by decide) (hts (.fieldLink RX4 132 "SecondHome$Track" "homeCount" "I") (by decide +kernel)) rfl dX4_seconds_39 ?_
      refine lv_iload_n hx hb dX4_seconds_42 rfl (lv_at hl 0 rfl) ?_
      refine lv_isub hx hb dX4_seconds_43 ?_
      exact rI hQ hx hb hr hlk hw dX4_seconds_44 (o_2a h) (o_2b h) rfl
    · replace h := o_f c9 h
      refine lv_aload_n hx hb dX4_seconds_12 rfl (lv_at hl 0 rfl) ?_
      refine lv_ldc (v := -1000000001) hx hb hown (hts (.constant RX4 50 (-1000000001)) (by decide +kernel)) dX4_seconds_13 ?_
      obtain ⟨q15, eq15, h⟩ := o_bd h
      refine kV (As := [.int (-1000000001 : Int32)]) (rest := []) (st' := [.int q15.1]) ⟨hx, hb, hml, hown, hts⟩ (kX4_found l G eq15) (cwV 1 hts gX4_seconds_X4_found rfl rfl rfl qqX4_found ⟨Nat.le_of_ble_eq_true rfl, Nat.le_of_ble_eq_true rfl⟩) hw (rvOw hw) rfl hl.1 rfl (Nat.le_of_ble_eq_true rfl) dX4_seconds_15 ⟨Nat.zero_le _, Nat.zero_le _⟩ rfl (fun H locs hw => ?_)
      exact rI hQ hx hb hr hlk hw dX4_seconds_18 (o_2a h) (o_2b h) rfl
