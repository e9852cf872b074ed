-- X4_found
def fX4_found (S : sWo) (a1 : Int32) : Option (Int32 × sWo) :=
  nm ((-1000000001 : Int32) - a1) fun v4 => if v4 < 0 then (some (a1, S)) else (if (7 : Int32) ≤ v4 then (some (a1, S)) else (if v4 < 0 ∨ 7 ≤ v4.toNatClampNeg then none else nm (sUp S 0 (sSa (S 0) 0 v4.toNatClampNeg (((S 0).2.1 0 v4.toNatClampNeg) + (1 : Int32)))) fun S24 => some (a1, S24)))
def rmX4_found : Room := { frames := 0, cells := 0, slots := 0, locals := 0 }
theorem qqX4_found : yX4_found.cls = RX4 ∧ yX4_found.cls ≠ "java/lang/invoke/MethodHandle" ∧ yX4_found.cls ≠ "java/lang/invoke/VarHandle" ∧ (parseMethodDescriptor yX4_found.desc).map (fun d => d.parameters.length) = some 1 := by decide +kernel
set_option maxRecDepth 100000 in
set_option maxHeartbeats 4000000 in
theorem kX4_found (l : Launch) (G : sGl) {S : sWo} {M : sOb} {a1 : Int32} {q : (Int32 × sWo)}  (h : fX4_found S a1 = some q) : sCt l G yX4_found wsX4_found rmX4_found [.ref (sA G 0 0), .int a1] S M (some (.int q.1)) q.2 M := by
  refine cMk (cc := cX4_found) (maxL := 3) (ret := (some .int)) (by decide) rfl (Nat.le_of_ble_eq_true rfl) ?_
  intro p e s m args below meth c Q hQ hx hb hr hlk hml hown hts hw ls hl
  have hown : s.vm.findClass RX4 = some m.cls := hown
  have hl : lv_has ls 3 [(0, .ref (sA G 0 0)), (1, .int a1)] := hl
  have hiX4 : ∀ w ∈ u_ws RX4 TX4 7, w ∈ wsX4_found := by decide +kernel
  unfold fX4_found at h
  refine lv_ldc (v := -1000000001) hx hb hown (hts (.constant RX4 50 (-1000000001)) (by decide +kernel)) dX4_found_0 ?_
  refine lv_iload_n hx hb dX4_found_2 rfl (lv_at hl 1 rfl) ?_
  refine lv_isub hx hb dX4_found_3 ?_
  refine lv_topi (fun v4 ev4 => ?_)
  replace h := o_nx ev4 h
  refine lv_istore_n (lv' := [(2, .int v4), (0, .ref (sA G 0 0)), (1, .int a1)]) hx hb dX4_found_4 rfl hl (by decide) rfl (fun ls hl => ?_)
  refine lv_iload_n hx hb dX4_found_5 rfl (lv_at hl 0 rfl) ?_
  refine lv_if_lt (tgt := 25) hx hb dX4_found_6 (by decide) (fun c6 => ?_) (fun c6 => ?_)
  · replace h := o_t c6 h
    refine lv_iload_n hx hb dX4_found_25 rfl (lv_at hl 2 rfl) ?_
    exact rI hQ hx hb hr hlk hw dX4_found_26 (o_2a h) (o_2b h) rfl
  · replace h := o_f c6 h
    refine lv_iload_n hx hb dX4_found_9 rfl (lv_at hl 0 rfl) ?_
    refine lv_bipush (v := 7) hx hb dX4_found_10 (by decide) ?_
    refine lv_icmp_ge (tgt := 25) hx hb dX4_found_12 (by decide) (fun c12 => ?_) (fun c12 => ?_)
    · replace h := o_t c12 h
      refine lv_iload_n hx hb dX4_found_25 rfl (lv_at hl 2 rfl) ?_
      exact rI hQ hx hb hr hlk hw dX4_found_26 (o_2a h) (o_2b h) rfl
    · replace h := o_f c12 h
      refine lv_aload_n hx hb dX4_found_15 rfl (lv_at hl 1 rfl) ?_
      refine gOw (v := .ref (sA G 0 1)) hx hb hts hiX4 hown hw 6 (by decide) (hts (.fieldLink RX4 35 "SecondHome" "findings" "[I") (by decide +kernel)) rfl dX4_found_16 ?_
      refine lv_iload_n hx hb dX4_found_19 rfl (lv_at hl 0 rfl) ?_
      refine lv_dup2_11 hx hb dX4_found_20 rfl rfl ?_
      obtain ⟨b21, h⟩ := o_in h
      refine ldOw hx hb hw b21 dX4_found_21 ?_
      refine lv_iconst (v := 1) hx hb dX4_found_22 (by decide) ?_
      refine lv_iadd hx hb dX4_found_23 ?_
      refine stOw hx hb hw b21 dX4_found_24 rfl (fun H locs hw => ?_)
      obtain ⟨S24, eS24, h⟩ := o_nm h
      rw [← eS24] at hw
      refine lv_iload_n hx hb dX4_found_25 rfl (lv_at hl 2 rfl) ?_
      exact rI hQ hx hb hr hlk hw dX4_found_26 (o_2a h) (o_2b h) rfl
-- X4_letLength
def fX4_letLength (S : sWo) (a1 : Int32) : Option (Int32 × sWo) :=
  if a1 < (10 : Int32) then ((fX4_found S (-1000000001 : Int32)).bind fun q16 => some (q16.1, q16.2)) else (if a1 ≤ (9999 : Int32) then (if ((S 1).1 4) ≤ 0 then (nm ((S 1).1 0) fun v44 => nm (sUp S 1 (sSs (S 1) 0 a1)) fun S50 => some (v44, S50)) else ((fX4_found S (-1000000005 : Int32)).bind fun q33 => some (q33.1, q33.2))) else ((fX4_found S (-1000000001 : Int32)).bind fun q16 => some (q16.1, q16.2)))
def rmX4_letLength : Room := { frames := 1, cells := 0, slots := 0, locals := 22 }
theorem qqX4_letLength : yX4_letLength.cls = RX4 ∧ yX4_letLength.cls ≠ "java/lang/invoke/MethodHandle" ∧ yX4_letLength.cls ≠ "java/lang/invoke/VarHandle" ∧ (parseMethodDescriptor yX4_letLength.desc).map (fun d => d.parameters.length) = some 1 := by decide +kernel
set_option maxRecDepth 100000 in
set_option maxHeartbeats 4000000 in
theorem kX4_letLength (l : Launch) (G : sGl) {S : sWo} {M : sOb} {a1 : Int32} {q : (Int32 × sWo)}  (h : fX4_letLength S a1 = some q) : sCt l G yX4_letLength wsX4_letLength rmX4_letLength [.ref (sA G 0 0), .int a1] S M (some (.int q.1)) q.2 M := by
  refine cMk (cc := cX4_letLength) (maxL := 3) (ret := (some .int)) (by decide) rfl (Nat.le_of_ble_eq_true rfl) ?_
  intro p e s m args below meth c Q hQ hx hb hr hlk hml hown hts hw ls hl
  have hown : s.vm.findClass RX4 = some m.cls := hown
  have hl : lv_has ls 3 [(0, .ref (sA G 0 0)), (1, .int a1)] := hl
  have hiX3 : ∀ w ∈ u_ws RX3 TX3 15, w ∈ wsX4_letLength := by decide +kernel
  have hiX4 : ∀ w ∈ u_ws RX4 TX4 7, w ∈ wsX4_letLength := by decide +kernel
  unfold fX4_letLength at h
  refine lv_iload_n hx hb dX4_letLength_0 rfl (lv_at hl 1 rfl) ?_
  refine lv_bipush (v := 10) hx hb dX4_letLength_1 (by decide) ?_
  refine lv_icmp_lt (tgt := 13) hx hb dX4_letLength_3 (by decide) (fun c3 => ?_) (fun c3 => ?_)
  · replace h := o_t c3 h
    refine lv_aload_n hx hb dX4_letLength_13 rfl (lv_at hl 0 rfl) ?_
    refine lv_ldc (v := -1000000001) hx hb hown (hts (.constant RX4 50 (-1000000001)) (by decide +kernel)) dX4_letLength_14 ?_
    obtain ⟨q16, eq16, h⟩ := o_bd h
    refine kV (As := [.int (-1000000001 : Int32)]) (rest := []) (st' := [.int q16.1]) ⟨hx, hb, hml, hown, hts⟩ (kX4_found l G eq16) (cwV 1 hts gX4_letLength_X4_found rfl rfl rfl qqX4_found ⟨Nat.le_of_ble_eq_true rfl, Nat.le_of_ble_eq_true rfl⟩) hw (rvOw hw) rfl hl.1 rfl (Nat.le_of_ble_eq_true rfl) dX4_letLength_16 ⟨Nat.zero_le _, Nat.zero_le _⟩ rfl (fun H locs hw => ?_)
    exact rI hQ hx hb hr hlk hw dX4_letLength_19 (o_2a h) (o_2b h) rfl
  · replace h := o_f c3 h
    refine lv_iload_n hx hb dX4_letLength_6 rfl (lv_at hl 1 rfl) ?_
    refine lv_sipush (v := 9999) hx hb dX4_letLength_7 (by decide) ?_
    refine lv_icmp_le (tgt := 20) hx hb dX4_letLength_10 (by decide) (fun c10 => ?_) (fun c10 => ?_)
    · replace h := o_t c10 h
      refine lv_aload_n hx hb dX4_letLength_20 rfl (lv_at hl 0 rfl) ?_
      refine gOw (v := .ref (sA G 1 0)) hx hb hts hiX4 hown hw 0 (by decide) (hts (.fieldLink RX4 10 "SecondHome" "track" "LSecondHome$Track;") (by decide +kernel)) rfl dX4_letLength_21 ?_
      refine gTk (v := .int ((S 1).1 4)) hx hb hts hiX3 hown hw (Or.inl rfl) rfl 4 (by decide) (hts (.fieldLink RX4 64 "SecondHome$Track" "count" "I") (by decide +kernel)) rfl dX4_letLength_24 ?_
      refine lv_if_le (tgt := 37) hx hb dX4_letLength_27 (by decide) (fun c27 => ?_) (fun c27 => ?_)
      · replace h := o_t c27 h
        refine lv_aload_n hx hb dX4_letLength_37 rfl (lv_at hl 0 rfl) ?_
        refine gOw (v := .ref (sA G 1 0)) hx hb hts hiX4 hown hw 0 (by decide) (hts (.fieldLink RX4 10 "SecondHome" "track" "LSecondHome$Track;") (by decide +kernel)) rfl dX4_letLength_38 ?_
        refine gTk (v := .int ((S 1).1 0)) hx hb hts hiX3 hown hw (Or.inl rfl) rfl 0 (by decide) (hts (.fieldLink RX4 145 "SecondHome$Track" "length" "I") (by decide +kernel)) rfl dX4_letLength_41 ?_
        refine lv_topi (fun v44 ev44 => ?_)
        replace h := o_nx ev44 h
        refine lv_istore_n (lv' := [(2, .int v44), (0, .ref (sA G 0 0)), (1, .int a1)]) hx hb dX4_letLength_44 rfl hl (by decide) rfl (fun ls hl => ?_)
        refine lv_aload_n hx hb dX4_letLength_45 rfl (lv_at hl 1 rfl) ?_
        refine gOw (v := .ref (sA G 1 0)) hx hb hts hiX4 hown hw 0 (by decide) (hts (.fieldLink RX4 10 "SecondHome" "track" "LSecondHome$Track;") (by decide +kernel)) rfl dX4_letLength_46 ?_
        refine lv_iload_n hx hb dX4_letLength_49 rfl (lv_at hl 2 rfl) ?_
        refine pTk hx hb hts hiX3 hown hw (Or.inl rfl) rfl 0 (by decide) (hts (.fieldLink RX4 145 "SecondHome$Track" "length" "I") (by decide +kernel)) dX4_letLength_50 rfl (fun H locs hw => ?_)
        obtain ⟨S50, eS50, h⟩ := o_nm h
        rw [← eS50] at hw
        refine lv_iload_n hx hb dX4_letLength_53 rfl (lv_at hl 0 rfl) ?_
        exact rI hQ hx hb hr hlk hw dX4_letLength_54 (o_2a h) (o_2b h) rfl
      · replace h := o_f c27 h
        refine lv_aload_n hx hb dX4_letLength_30 rfl (lv_at hl 0 rfl) ?_
        refine lv_ldc (v := -1000000005) hx hb hown (hts (.constant RX4 123 (-1000000005)) (by decide +kernel)) dX4_letLength_31 ?_
        obtain ⟨q33, eq33, h⟩ := o_bd h
        refine kV (As := [.int (-1000000005 : Int32)]) (rest := []) (st' := [.int q33.1]) ⟨hx, hb, hml, hown, hts⟩ (kX4_found l G eq33) (cwV 1 hts gX4_letLength_X4_found rfl rfl rfl qqX4_found ⟨Nat.le_of_ble_eq_true rfl, Nat.le_of_ble_eq_true rfl⟩) hw (rvOw hw) rfl hl.1 rfl (Nat.le_of_ble_eq_true rfl) dX4_letLength_33 ⟨Nat.zero_le _, Nat.zero_le _⟩ rfl (fun H locs hw => ?_)
        exact rI hQ hx hb hr hlk hw dX4_letLength_36 (o_2a h) (o_2b h) rfl
    · replace h := o_f c10 h
      refine lv_aload_n hx hb dX4_letLength_13 rfl (lv_at hl 0 rfl) ?_
      refine lv_ldc (v := -1000000001) hx hb hown (hts (.constant RX4 50 (-1000000001)) (by decide +kernel)) dX4_letLength_14 ?_
      obtain ⟨q16, eq16, h⟩ := o_bd h
      refine kV (As := [.int (-1000000001 : Int32)]) (rest := []) (st' := [.int q16.1]) ⟨hx, hb, hml, hown, hts⟩ (kX4_found l G eq16) (cwV 1 hts gX4_letLength_X4_found rfl rfl rfl qqX4_found ⟨Nat.le_of_ble_eq_true rfl, Nat.le_of_ble_eq_true rfl⟩) hw (rvOw hw) rfl hl.1 rfl (Nat.le_of_ble_eq_true rfl) dX4_letLength_16 ⟨Nat.zero_le _, Nat.zero_le _⟩ rfl (fun H locs hw => ?_)
      exact rI hQ hx hb hr hlk hw dX4_letLength_19 (o_2a h) (o_2b h) rfl
-- X4_letLeast
def fX4_letLeast (S : sWo) (a1 : Int32) : Option (Int32 × sWo) :=
  if a1 < 0 then ((fX4_found S (-1000000001 : Int32)).bind fun q12 => some (q12.1, q12.2)) else (if a1 ≤ (5 : Int32) then (nm ((S 1).1 1) fun v23 => nm (sUp S 1 (sSs (S 1) 1 a1)) fun S29 => some (v23, S29)) else ((fX4_found S (-1000000001 : Int32)).bind fun q12 => some (q12.1, q12.2)))
def rmX4_letLeast : Room := { frames := 1, cells := 0, slots := 0, locals := 22 }
theorem qqX4_letLeast : yX4_letLeast.cls = RX4 ∧ yX4_letLeast.cls ≠ "java/lang/invoke/MethodHandle" ∧ yX4_letLeast.cls ≠ "java/lang/invoke/VarHandle" ∧ (parseMethodDescriptor yX4_letLeast.desc).map (fun d => d.parameters.length) = some 1 := by decide +kernel
set_option maxRecDepth 100000 in
set_option maxHeartbeats 4000000 in
theorem kX4_letLeast (l : Launch) (G : sGl) {S : sWo} {M : sOb} {a1 : Int32} {q : (Int32 × sWo)}  (h : fX4_letLeast S a1 = some q) : sCt l G yX4_letLeast wsX4_letLeast rmX4_letLeast [.ref (sA G 0 0), .int a1] S M (some (.int q.1)) q.2 M := by
  refine cMk (cc := cX4_letLeast) (maxL := 3) (ret := (some .int)) (by decide) rfl (Nat.le_of_ble_eq_true rfl) ?_
  intro p e s m args below meth c Q hQ hx hb hr hlk hml hown hts hw ls hl
  have hown : s.vm.findClass RX4 = some m.cls := hown
  have hl : lv_has ls 3 [(0, .ref (sA G 0 0)), (1, .int a1)] := hl
  have hiX3 : ∀ w ∈ u_ws RX3 TX3 15, w ∈ wsX4_letLeast := by decide +kernel
  have hiX4 : ∀ w ∈ u_ws RX4 TX4 7, w ∈ wsX4_letLeast := by decide +kernel
  unfold fX4_letLeast at h
  refine lv_iload_n hx hb dX4_letLeast_0 rfl (lv_at hl 1 rfl) ?_
  refine lv_if_lt (tgt := 9) hx hb dX4_letLeast_1 (by decide) (fun c1 => ?_) (fun c1 => ?_)
  · replace h := o_t c1 h
    refine lv_aload_n hx hb dX4_letLeast_9 rfl (lv_at hl 0 rfl) ?_
    refine lv_ldc (v := -1000000001) hx hb hown (hts (.constant RX4 50 (-1000000001)) (by decide +kernel)) dX4_letLeast_10 ?_
    obtain ⟨q12, eq12, h⟩ := o_bd h
    refine kV (As := [.int (-1000000001 : Int32)]) (rest := []) (st' := [.int q12.1]) ⟨hx, hb, hml, hown, hts⟩ (kX4_found l G eq12) (cwV 1 hts gX4_letLeast_X4_found rfl rfl rfl qqX4_found ⟨Nat.le_of_ble_eq_true rfl, Nat.le_of_ble_eq_true rfl⟩) hw (rvOw hw) rfl hl.1 rfl (Nat.le_of_ble_eq_true rfl) dX4_letLeast_12 ⟨Nat.zero_le _, Nat.zero_le _⟩ rfl (fun H locs hw => ?_)
    exact rI hQ hx hb hr hlk hw dX4_letLeast_15 (o_2a h) (o_2b h) rfl
  · replace h := o_f c1 h
    refine lv_iload_n hx hb dX4_letLeast_4 rfl (lv_at hl 1 rfl) ?_
    refine lv_iconst (v := 5) hx hb dX4_letLeast_5 (by decide) ?_
    refine lv_icmp_le (tgt := 16) hx hb dX4_letLeast_6 (by decide) (fun c6 => ?_) (fun c6 => ?_)
    · replace h := o_t c6 h
      refine lv_aload_n hx hb dX4_letLeast_16 rfl (lv_at hl 0 rfl) ?_
      refine gOw (v := .ref (sA G 1 0)) hx hb hts hiX4 hown hw 0 (by decide) (hts (.fieldLink RX4 10 "SecondHome" "track" "LSecondHome$Track;") (by decide +kernel)) rfl dX4_letLeast_17 ?_
      refine gTk (v := .int ((S 1).1 1)) hx hb hts hiX3 hown hw (Or.inl rfl) rfl 1 (by decide) (hts (.fieldLink RX4 148 "SecondHome$Track" "least" "I") (by decide +kernel)) rfl dX4_letLeast_20 ?_
      refine lv_topi (fun v23 ev23 => ?_)
      replace h := o_nx ev23 h
      refine lv_istore_n (lv' := [(2, .int v23), (0, .ref (sA G 0 0)), (1, .int a1)]) hx hb dX4_letLeast_23 rfl hl (by decide) rfl (fun ls hl => ?_)
      refine lv_aload_n hx hb dX4_letLeast_24 rfl (lv_at hl 1 rfl) ?_
      refine gOw (v := .ref (sA G 1 0)) hx hb hts hiX4 hown hw 0 (by decide) (hts (.fieldLink RX4 10 "SecondHome" "track" "LSecondHome$Track;") (by decide +kernel)) rfl dX4_letLeast_25 ?_
      refine lv_iload_n hx hb dX4_letLeast_28 rfl (lv_at hl 2 rfl) ?_
      refine pTk hx hb hts hiX3 hown hw (Or.inl rfl) rfl 1 (by decide) (hts (.fieldLink RX4 148 "SecondHome$Track" "least" "I") (by decide +kernel)) dX4_letLeast_29 rfl (fun H locs hw => ?_)
      obtain ⟨S29, eS29, h⟩ := o_nm h
      rw [← eS29] at hw
      refine lv_iload_n hx hb dX4_letLeast_32 rfl (lv_at hl 0 rfl) ?_
      exact rI hQ hx hb hr hlk hw dX4_letLeast_33 (o_2a h) (o_2b h) rfl
    · replace h := o_f c6 h
      refine lv_aload_n hx hb dX4_letLeast_9 rfl (lv_at hl 0 rfl) ?_
      refine lv_ldc (v := -1000000001) hx hb hown (hts (.constant RX4 50 (-1000000001)) (by decide +kernel)) dX4_letLeast_10 ?_
      obtain ⟨q12, eq12, h⟩ := o_bd h
      refine kV (As := [.int (-1000000001 : Int32)]) (rest := []) (st' := [.int q12.1]) ⟨hx, hb, hml, hown, hts⟩ (kX4_found l G eq12) (cwV 1 hts gX4_letLeast_X4_found rfl rfl rfl qqX4_found ⟨Nat.le_of_ble_eq_true rfl, Nat.le_of_ble_eq_true rfl⟩) hw (rvOw hw) rfl hl.1 rfl (Nat.le_of_ble_eq_true rfl) dX4_letLeast_12 ⟨Nat.zero_le _, Nat.zero_le _⟩ rfl (fun H locs hw => ?_)
      exact rI hQ hx hb hr hlk hw dX4_letLeast_15 (o_2a h) (o_2b h) rfl
-- X4_isLaw
def fX4_isLaw (a0 : Int32) : Option Int32 :=
  if a0 < 0 then (some (0 : Int32)) else (if (4 : Int32) ≤ a0 then (some (0 : Int32)) else (some (1 : Int32)))
def rmX4_isLaw : Room := { frames := 0, cells := 0, slots := 0, locals := 0 }
theorem qqX4_isLaw : yX4_isLaw.cls ≠ "java/lang/invoke/MethodHandle" ∧ yX4_isLaw.cls ≠ "java/lang/invoke/VarHandle" ∧ (parseMethodDescriptor yX4_isLaw.desc).map (fun d => d.parameters.length) = some 1 := by decide +kernel
set_option maxRecDepth 100000 in
set_option maxHeartbeats 4000000 in
theorem kX4_isLaw (l : Launch) (G : sGl) {S : sWo} {M : sOb} {a0 : Int32} {q : Int32}  (h : fX4_isLaw a0 = some q) : sCt l G yX4_isLaw wsX4_isLaw rmX4_isLaw [.int a0] S M (some (.int q)) S M := by
  refine cMk (cc := cX4_isLaw) (maxL := 1) (ret := (some .boolean)) (by decide) rfl (Nat.le_of_ble_eq_true rfl) ?_
  intro p e s m args below meth c Q hQ hx hb hr hlk hml hown hts hw ls hl
  have hown : s.vm.findClass RX4 = some m.cls := hown
  have hl : lv_has ls 1 [(0, .int a0)] := hl
  unfold fX4_isLaw at h
  refine lv_iload_n hx hb dX4_isLaw_0 rfl (lv_at hl 0 rfl) ?_
  refine lv_if_lt (tgt := 13) hx hb dX4_isLaw_1 (by decide) (fun c1 => ?_) (fun c1 => ?_)
  · replace h := o_t c1 h
    refine lv_iconst (v := 0) hx hb dX4_isLaw_13 (by decide) ?_
    exact rZ hQ hx hb hr hlk hw (Or.inl rfl) dX4_isLaw_14 (o_1 h) rfl rfl
  · replace h := o_f c1 h
    refine lv_iload_n hx hb dX4_isLaw_4 rfl (lv_at hl 0 rfl) ?_
    refine lv_iconst (v := 4) hx hb dX4_isLaw_5 (by decide) ?_
    refine lv_icmp_ge (tgt := 13) hx hb dX4_isLaw_6 (by decide) (fun c6 => ?_) (fun c6 => ?_)
    · replace h := o_t c6 h
      refine lv_iconst (v := 0) hx hb dX4_isLaw_13 (by decide) ?_
      exact rZ hQ hx hb hr hlk hw (Or.inl rfl) dX4_isLaw_14 (o_1 h) rfl rfl
    · replace h := o_f c6 h
      refine lv_iconst (v := 1) hx hb dX4_isLaw_9 (by decide) ?_
      refine lv_goto (tgt := 14) hx hb dX4_isLaw_10 (by decide) ?_
      exact rZ hQ hx hb hr hlk hw (Or.inr rfl) dX4_isLaw_14 (o_1 h) rfl rfl
-- X4_letLaw
def fX4_letLaw (S : sWo) (a1 : Int32) : Option (Int32 × sWo) :=
  (fX4_isLaw a1).bind fun q1 => if q1 = 0 then ((fX4_found S (-1000000001 : Int32)).bind fun q10 => some (q10.1, q10.2)) else (nm ((S 1).1 2) fun v21 => nm (sUp S 1 (sSs (S 1) 2 a1)) fun S27 => some (v21, S27))
def rmX4_letLaw : Room := { frames := 1, cells := 0, slots := 0, locals := 22 }
theorem qqX4_letLaw : yX4_letLaw.cls = RX4 ∧ yX4_letLaw.cls ≠ "java/lang/invoke/MethodHandle" ∧ yX4_letLaw.cls ≠ "java/lang/invoke/VarHandle" ∧ (parseMethodDescriptor yX4_letLaw.desc).map (fun d => d.parameters.length) = some 1 := by decide +kernel
set_option maxRecDepth 100000 in
set_option maxHeartbeats 4000000 in
theorem kX4_letLaw (l : Launch) (G : sGl) {S : sWo} {M : sOb} {a1 : Int32} {q : (Int32 × sWo)}  (h : fX4_letLaw S a1 = some q) : sCt l G yX4_letLaw wsX4_letLaw rmX4_letLaw [.ref (sA G 0 0), .int a1] S M (some (.int q.1)) q.2 M := by
  refine cMk (cc := cX4_letLaw) (maxL := 3) (ret := (some .int)) (by decide) rfl (Nat.le_of_ble_eq_true rfl) ?_
  intro p e s m args below meth c Q hQ hx hb hr hlk hml hown hts hw ls hl
  have hown : s.vm.findClass RX4 = some m.cls := hown
  have hl : lv_has ls 3 [(0, .ref (sA G 0 0)), (1, .int a1)] := hl
  have hiX3 : ∀ w ∈ u_ws RX3 TX3 15, w ∈ wsX4_letLaw := by decide +kernel
  have hiX4 : ∀ w ∈ u_ws RX4 TX4 7, w ∈ wsX4_letLaw := by decide +kernel
  unfold fX4_letLaw at h
  refine lv_iload_n hx hb dX4_letLaw_0 rfl (lv_at hl 1 rfl) ?_
  obtain ⟨q1, eq1, h⟩ := o_bd h
  refine kS (As := [.int a1]) (rest := []) (st' := [.int q1]) ⟨hx, hb, hml, hown, hts⟩ (kX4_isLaw l G eq1) (va_cwS 1 hts gX4_letLaw_X4_isLaw rfl rfl rfl qqX4_isLaw ⟨Nat.le_of_ble_eq_true rfl, Nat.le_of_ble_eq_true rfl⟩) hw rfl hl.1 rfl (Nat.le_of_ble_eq_true rfl) dX4_letLaw_1 ⟨Nat.zero_le _, Nat.zero_le _⟩ rfl (fun H locs hw => ?_)
  refine lv_if_ne (tgt := 14) hx hb dX4_letLaw_4 (by decide) (fun c4 => ?_) (fun c4 => ?_)
  · replace h := o_f c4 h
    refine lv_aload_n hx hb dX4_letLaw_14 rfl (lv_at hl 0 rfl) ?_
    refine gOw (v := .ref (sA G 1 0)) hx hb hts hiX4 hown hw 0 (by decide) (hts (.fieldLink RX4 10 "SecondHome" "track" "LSecondHome$Track;") (by decide +kernel)) rfl dX4_letLaw_15 ?_
    refine gTk (v := .int ((S 1).1 2)) hx hb hts hiX3 hown hw (Or.inl rfl) rfl 2 (by decide) (hts (.fieldLink RX4 151 "SecondHome$Track" "law" "I") (by decide +kernel)) rfl dX4_letLaw_18 ?_
    refine lv_topi (fun v21 ev21 => ?_)
    replace h := o_nx ev21 h
    refine lv_istore_n (lv' := [(2, .int v21), (0, .ref (sA G 0 0)), (1, .int a1)]) hx hb dX4_letLaw_21 rfl hl (by decide) rfl (fun ls hl => ?_)
    refine lv_aload_n hx hb dX4_letLaw_22 rfl (lv_at hl 1 rfl) ?_
    refine gOw (v := .ref (sA G 1 0)) hx hb hts hiX4 hown hw 0 (by decide) (hts (.fieldLink RX4 10 "SecondHome" "track" "LSecondHome$Track;") (by decide +kernel)) rfl dX4_letLaw_23 ?_
    refine lv_iload_n hx hb dX4_letLaw_26 rfl (lv_at hl 2 rfl) ?_
    refine pTk hx hb hts hiX3 hown hw (Or.inl rfl) rfl 2 (by decide) (hts (.fieldLink RX4 151 "SecondHome$Track" "law" "I") (by decide +kernel)) dX4_letLaw_27 rfl (fun H locs hw => ?_)
    obtain ⟨S27, eS27, h⟩ := o_nm h
    rw [← eS27] at hw
    refine lv_iload_n hx hb dX4_letLaw_30 rfl (lv_at hl 0 rfl) ?_
    exact rI hQ hx hb hr hlk hw dX4_letLaw_31 (o_2a h) (o_2b h) rfl
  · replace h := o_t c4 h
    refine lv_aload_n hx hb dX4_letLaw_7 rfl (lv_at hl 0 rfl) ?_
    refine lv_ldc (v := -1000000001) hx hb hown (hts (.constant RX4 50 (-1000000001)) (by decide +kernel)) dX4_letLaw_8 ?_
    obtain ⟨q10, eq10, h⟩ := o_bd h
    refine kV (As := [.int (-1000000001 : Int32)]) (rest := []) (st' := [.int q10.1]) ⟨hx, hb, hml, hown, hts⟩ (kX4_found l G eq10) (cwV 1 hts gX4_letLaw_X4_found rfl rfl rfl qqX4_found ⟨Nat.le_of_ble_eq_true rfl, Nat.le_of_ble_eq_true rfl⟩) hw (rvOw hw) rfl hl.1 rfl (Nat.le_of_ble_eq_true rfl) dX4_letLaw_10 ⟨Nat.zero_le _, Nat.zero_le _⟩ rfl (fun H locs hw => ?_)
    exact rI hQ hx hb hr hlk hw dX4_letLaw_13 (o_2a h) (o_2b h) rfl
-- X4_let
def fX4_let (S : sWo) (a1 : Int32) (a2 : Int32) : Option (Int32 × sWo) :=
  if a1 = (0 : Int32) then ((fX4_letLength S a2).bind fun q30 => some (q30.1, q30.2)) else if a1 = (1 : Int32) then ((fX4_letLeast S a2).bind fun q36 => some (q36.1, q36.2)) else if a1 = (2 : Int32) then ((fX4_letLaw S a2).bind fun q42 => some (q42.1, q42.2)) else ((fX4_found S (-1000000001 : Int32)).bind fun q49 => some (q49.1, q49.2))
def rmX4_let : Room := { frames := 2, cells := 0, slots := 0, locals := 44 }
theorem qqX4_let : yX4_let.cls = RX4 ∧ yX4_let.cls ≠ "java/lang/invoke/MethodHandle" ∧ yX4_let.cls ≠ "java/lang/invoke/VarHandle" ∧ (parseMethodDescriptor yX4_let.desc).map (fun d => d.parameters.length) = some 2 := by decide +kernel
set_option maxRecDepth 100000 in
set_option maxHeartbeats 4000000 in
theorem kX4_let (l : Launch) (G : sGl) {S : sWo} {M : sOb} {a1 : Int32} {a2 : Int32} {q : (Int32 × sWo)}  (h : fX4_let S a1 a2 = some q) : sCt l G yX4_let wsX4_let rmX4_let [.ref (sA G 0 0), .int a1, .int a2] S M (some (.int q.1)) q.2 M := by
  refine cMk (cc := cX4_let) (maxL := 3) (ret := (some .int)) (by decide) rfl (Nat.le_of_ble_eq_true rfl) ?_
  intro p e s m args below meth c Q hQ hx hb hr hlk hml hown hts hw ls hl
  have hown : s.vm.findClass RX4 = some m.cls := hown
  have hl : lv_has ls 3 [(0, .ref (sA G 0 0)), (1, .int a1), (2, .int a2)] := hl
  unfold fX4_let at h
  refine lv_iload_n hx hb dX4_let_0 rfl (lv_at hl 1 rfl) ?_
  by_cases c1_0 : a1 = (0 : Int32)
  · replace h := o_t c1_0 h
    refine lv_tableIn (tgt := 28) hx hb dX4_let_1 (by rw [c1_0]; decide) (by rw [c1_0]; decide) (by rw [c1_0]; rfl) (by decide) ?_
    refine lv_aload_n hx hb dX4_let_28 rfl (lv_at hl 0 rfl) ?_
    refine lv_iload_n hx hb dX4_let_29 rfl (lv_at hl 2 rfl) ?_
    obtain ⟨q30, eq30, h⟩ := o_bd h
    refine kV (As := [.int a2]) (rest := []) (st' := [.int q30.1]) ⟨hx, hb, hml, hown, hts⟩ (kX4_letLength l G eq30) (cwV 1 hts gX4_let_X4_letLength rfl rfl rfl qqX4_letLength ⟨Nat.le_of_ble_eq_true rfl, Nat.le_of_ble_eq_true rfl⟩) hw (rvOw hw) rfl hl.1 rfl (Nat.le_of_ble_eq_true rfl) dX4_let_30 ⟨Nat.zero_le _, Nat.zero_le _⟩ rfl (fun H locs hw => ?_)
    exact rI hQ hx hb hr hlk hw dX4_let_33 (o_2a h) (o_2b h) rfl
  replace h := o_f c1_0 h
  by_cases c1_1 : a1 = (1 : Int32)
  · replace h := o_t c1_1 h
    refine lv_tableIn (tgt := 34) hx hb dX4_let_1 (by rw [c1_1]; decide) (by rw [c1_1]; decide) (by rw [c1_1]; rfl) (by decide) ?_
    refine lv_aload_n hx hb dX4_let_34 rfl (lv_at hl 0 rfl) ?_
    refine lv_iload_n hx hb dX4_let_35 rfl (lv_at hl 2 rfl) ?_
    obtain ⟨q36, eq36, h⟩ := o_bd h
    refine kV (As := [.int a2]) (rest := []) (st' := [.int q36.1]) ⟨hx, hb, hml, hown, hts⟩ (kX4_letLeast l G eq36) (cwV 1 hts gX4_let_X4_letLeast rfl rfl rfl qqX4_letLeast ⟨Nat.le_of_ble_eq_true rfl, Nat.le_of_ble_eq_true rfl⟩) hw (rvOw hw) rfl hl.1 rfl (Nat.le_of_ble_eq_true rfl) dX4_let_36 ⟨Nat.zero_le _, Nat.zero_le _⟩ rfl (fun H locs hw => ?_)
    exact rI hQ hx hb hr hlk hw dX4_let_39 (o_2a h) (o_2b h) rfl
  replace h := o_f c1_1 h
  by_cases c1_2 : a1 = (2 : Int32)
  · replace h := o_t c1_2 h
    refine lv_tableIn (tgt := 40) hx hb dX4_let_1 (by rw [c1_2]; decide) (by rw [c1_2]; decide) (by rw [c1_2]; rfl) (by decide) ?_
    refine lv_aload_n hx hb dX4_let_40 rfl (lv_at hl 0 rfl) ?_
    refine lv_iload_n hx hb dX4_let_41 rfl (lv_at hl 2 rfl) ?_
    obtain ⟨q42, eq42, h⟩ := o_bd h
    refine kV (As := [.int a2]) (rest := []) (st' := [.int q42.1]) ⟨hx, hb, hml, hown, hts⟩ (kX4_letLaw l G eq42) (cwV 1 hts gX4_let_X4_letLaw rfl rfl rfl qqX4_letLaw ⟨Nat.le_of_ble_eq_true rfl, Nat.le_of_ble_eq_true rfl⟩) hw (rvOw hw) rfl hl.1 rfl (Nat.le_of_ble_eq_true rfl) dX4_let_42 ⟨Nat.zero_le _, Nat.zero_le _⟩ rfl (fun H locs hw => ?_)
    exact rI hQ hx hb hr hlk hw dX4_let_45 (o_2a h) (o_2b h) rfl
  replace h := o_f c1_2 h
  have sw1 : a1.toInt < 0 ∨ 2 < a1.toInt := by
    have z0 := sw_ne c1_0
    have z1 := sw_ne c1_1
    have z2 := sw_ne c1_2
    rw [show ((0 : Int32)).toInt = 0 from rfl] at z0
    rw [show ((1 : Int32)).toInt = 1 from rfl] at z1
    rw [show ((2 : Int32)).toInt = 2 from rfl] at z2
    omega
  refine lv_tableOut (tgt := 46) hx hb dX4_let_1 sw1 (by decide) ?_
  refine lv_aload_n hx hb dX4_let_46 rfl (lv_at hl 0 rfl) ?_
  refine lv_ldc (v := -1000000001) hx hb hown (hts (.constant RX4 50 (-1000000001)) (by decide +kernel)) dX4_let_47 ?_
  obtain ⟨q49, eq49, h⟩ := o_bd h
  refine kV (As := [.int (-1000000001 : Int32)]) (rest := []) (st' := [.int q49.1]) ⟨hx, hb, hml, hown, hts⟩ (kX4_found l G eq49) (cwV 1 hts gX4_let_X4_found rfl rfl rfl qqX4_found ⟨Nat.le_of_ble_eq_true rfl, Nat.le_of_ble_eq_true rfl⟩) hw (rvOw hw) rfl hl.1 rfl (Nat.le_of_ble_eq_true rfl) dX4_let_49 ⟨Nat.zero_le _, Nat.zero_le _⟩ rfl (fun H locs hw => ?_)
  exact rI hQ hx hb hr hlk hw dX4_let_52 (o_2a h) (o_2b h) rfl
-- X4_isKind
def fX4_isKind (a0 : Int32) : Option Int32 :=
  if a0 < 0 then (some (0 : Int32)) else (if (6 : Int32) ≤ a0 then (some (0 : Int32)) else (some (1 : Int32)))
def rmX4_isKind : Room := { frames := 0, cells := 0, slots := 0, locals := 0 }
theorem qqX4_isKind : yX4_isKind.cls ≠ "java/lang/invoke/MethodHandle" ∧ yX4_isKind.cls ≠ "java/lang/invoke/VarHandle" ∧ (parseMethodDescriptor yX4_isKind.desc).map (fun d => d.parameters.length) = some 1 := by decide +kernel
set_option maxRecDepth 100000 in
set_option maxHeartbeats 4000000 in
theorem kX4_isKind (l : Launch) (G : sGl) {S : sWo} {M : sOb} {a0 : Int32} {q : Int32}  (h : fX4_isKind a0 = some q) : sCt l G yX4_isKind wsX4_isKind rmX4_isKind [.int a0] S M (some (.int q)) S M := by
  refine cMk (cc := cX4_isKind) (maxL := 1) (ret := (some .boolean)) (by decide) rfl (Nat.le_of_ble_eq_true rfl) ?_
  intro p e s m args below meth c Q hQ hx hb hr hlk hml hown hts hw ls hl
  have hown : s.vm.findClass RX4 = some m.cls := hown
  have hl : lv_has ls 1 [(0, .int a0)] := hl
  unfold fX4_isKind at h
  refine lv_iload_n hx hb dX4_isKind_0 rfl (lv_at hl 0 rfl) ?_
  refine lv_if_lt (tgt := 14) hx hb dX4_isKind_1 (by decide) (fun c1 => ?_) (fun c1 => ?_)
  · replace h := o_t c1 h
    refine lv_iconst (v := 0) hx hb dX4_isKind_14 (by decide) ?_
    exact rZ hQ hx hb hr hlk hw (Or.inl rfl) dX4_isKind_15 (o_1 h) rfl rfl
  · replace h := o_f c1 h
    refine lv_iload_n hx hb dX4_isKind_4 rfl (lv_at hl 0 rfl) ?_
    refine lv_bipush (v := 6) hx hb dX4_isKind_5 (by decide) ?_
    refine lv_icmp_ge (tgt := 14) hx hb dX4_isKind_7 (by decide) (fun c7 => ?_) (fun c7 => ?_)
    · replace h := o_t c7 h
      refine lv_iconst (v := 0) hx hb dX4_isKind_14 (by decide) ?_
      exact rZ hQ hx hb hr hlk hw (Or.inl rfl) dX4_isKind_15 (o_1 h) rfl rfl
    · replace h := o_f c7 h
      refine lv_iconst (v := 1) hx hb dX4_isKind_10 (by decide) ?_
      refine lv_goto (tgt := 15) hx hb dX4_isKind_11 (by decide) ?_
      exact rZ hQ hx hb hr hlk hw (Or.inr rfl) dX4_isKind_15 (o_1 h) rfl rfl
-- X4_isPace
def fX4_isPace (a0 : Int32) : Option Int32 :=
  if a0 < (1 : Int32) then (some (0 : Int32)) else (if (12 : Int32) < a0 then (some (0 : Int32)) else (some (1 : Int32)))
def rmX4_isPace : Room := { frames := 0, cells := 0, slots := 0, locals := 0 }
theorem qqX4_isPace : yX4_isPace.cls ≠ "java/lang/invoke/MethodHandle" ∧ yX4_isPace.cls ≠ "java/lang/invoke/VarHandle" ∧ (parseMethodDescriptor yX4_isPace.desc).map (fun d => d.parameters.length) = some 1 := by decide +kernel
set_option maxRecDepth 100000 in
set_option maxHeartbeats 4000000 in
theorem kX4_isPace (l : Launch) (G : sGl) {S : sWo} {M : sOb} {a0 : Int32} {q : Int32}  (h : fX4_isPace a0 = some q) : sCt l G yX4_isPace wsX4_isPace rmX4_isPace [.int a0] S M (some (.int q)) S M := by
  refine cMk (cc := cX4_isPace) (maxL := 1) (ret := (some .boolean)) (by decide) rfl (Nat.le_of_ble_eq_true rfl) ?_
  intro p e s m args below meth c Q hQ hx hb hr hlk hml hown hts hw ls hl
  have hown : s.vm.findClass RX4 = some m.cls := hown
  have hl : lv_has ls 1 [(0, .int a0)] := hl
  unfold fX4_isPace at h
  refine lv_iload_n hx hb dX4_isPace_0 rfl (lv_at hl 0 rfl) ?_
  refine lv_iconst (v := 1) hx hb dX4_isPace_1 (by decide) ?_
  refine lv_icmp_lt (tgt := 15) hx hb dX4_isPace_2 (by decide) (fun c2 => ?_) (fun c2 => ?_)
  · replace h := o_t c2 h
    refine lv_iconst (v := 0) hx hb dX4_isPace_15 (by decide) ?_
    exact rZ hQ hx hb hr hlk hw (Or.inl rfl) dX4_isPace_16 (o_1 h) rfl rfl
  · replace h := o_f c2 h
    refine lv_iload_n hx hb dX4_isPace_5 rfl (lv_at hl 0 rfl) ?_
    refine lv_bipush (v := 12) hx hb dX4_isPace_6 (by decide) ?_
    refine lv_icmp_gt (tgt := 15) hx hb dX4_isPace_8 (by decide) (fun c8 => ?_) (fun c8 => ?_)
    · replace h := o_t c8 h
      refine lv_iconst (v := 0) hx hb dX4_isPace_15 (by decide) ?_
      exact rZ hQ hx hb hr hlk hw (Or.inl rfl) dX4_isPace_16 (o_1 h) rfl rfl
    · replace h := o_f c8 h
      refine lv_iconst (v := 1) hx hb dX4_isPace_11 (by decide) ?_
      refine lv_goto (tgt := 16) hx hb dX4_isPace_12 (by decide) ?_
      exact rZ hQ hx hb hr hlk hw (Or.inr rfl) dX4_isPace_16 (o_1 h) rfl rfl
-- X4_isBreath
def fX4_isBreath (a0 : Int32) : Option Int32 :=
  if a0 < 0 then (some (0 : Int32)) else (if (999 : Int32) < a0 then (some (0 : Int32)) else (some (1 : Int32)))
def rmX4_isBreath : Room := { frames := 0, cells := 0, slots := 0, locals := 0 }
theorem qqX4_isBreath : yX4_isBreath.cls ≠ "java/lang/invoke/MethodHandle" ∧ yX4_isBreath.cls ≠ "java/lang/invoke/VarHandle" ∧ (parseMethodDescriptor yX4_isBreath.desc).map (fun d => d.parameters.length) = some 1 := by decide +kernel
set_option maxRecDepth 100000 in
set_option maxHeartbeats 4000000 in
theorem kX4_isBreath (l : Launch) (G : sGl) {S : sWo} {M : sOb} {a0 : Int32} {q : Int32}  (h : fX4_isBreath a0 = some q) : sCt l G yX4_isBreath wsX4_isBreath rmX4_isBreath [.int a0] S M (some (.int q)) S M := by
  refine cMk (cc := cX4_isBreath) (maxL := 1) (ret := (some .boolean)) (by decide) rfl (Nat.le_of_ble_eq_true rfl) ?_
  intro p e s m args below meth c Q hQ hx hb hr hlk hml hown hts hw ls hl
  have hown : s.vm.findClass RX4 = some m.cls := hown
  have hl : lv_has ls 1 [(0, .int a0)] := hl
  unfold fX4_isBreath at h
  refine lv_iload_n hx hb dX4_isBreath_0 rfl (lv_at hl 0 rfl) ?_
  refine lv_if_lt (tgt := 15) hx hb dX4_isBreath_1 (by decide) (fun c1 => ?_) (fun c1 => ?_)
  · replace h := o_t c1 h
    refine lv_iconst (v := 0) hx hb dX4_isBreath_15 (by decide) ?_
    exact rZ hQ hx hb hr hlk hw (Or.inl rfl) dX4_isBreath_16 (o_1 h) rfl rfl
  · replace h := o_f c1 h
    refine lv_iload_n hx hb dX4_isBreath_4 rfl (lv_at hl 0 rfl) ?_
    refine lv_sipush (v := 999) hx hb dX4_isBreath_5 (by decide) ?_
    refine lv_icmp_gt (tgt := 15) hx hb dX4_isBreath_8 (by decide) (fun c8 => ?_) (fun c8 => ?_)
    · replace h := o_t c8 h
      refine lv_iconst (v := 0) hx hb dX4_isBreath_15 (by decide) ?_
      exact rZ hQ hx hb hr hlk hw (Or.inl rfl) dX4_isBreath_16 (o_1 h) rfl rfl
    · replace h := o_f c8 h
      refine lv_iconst (v := 1) hx hb dX4_isBreath_11 (by decide) ?_
      refine lv_goto (tgt := 16) hx hb dX4_isBreath_12 (by decide) ?_
      exact rZ hQ hx hb hr hlk hw (Or.inr rfl) dX4_isBreath_16 (o_1 h) rfl rfl
-- X4_runner
def fX4_runner (S : sWo) (a1 : Int32) (a2 : Int32) (a3 : Int32) : Option (Int32 × sWo) :=
  (fX4_isKind a1).bind fun q1 => if q1 = 0 then ((fX4_found S (-1000000001 : Int32)).bind fun q24 => some (q24.1, q24.2)) else ((fX4_isPace a2).bind fun q8 => if q8 = 0 then ((fX4_found S (-1000000001 : Int32)).bind fun q24 => some (q24.1, q24.2)) else ((fX4_isBreath a3).bind fun q15 => if q15 = 0 then ((fX4_found S (-1000000001 : Int32)).bind fun q24 => some (q24.1, q24.2)) else (if ((S 1).1 4) < (9 : Int32) then ((fX3_add (S 1) a1 a2 a3).bind fun q54 => nm (sUp S 1 q54.2) fun S54 => some (q54.1, S54)) else ((fX4_found S (-1000000002 : Int32)).bind fun q43 => some (q43.1, q43.2)))))
def rmX4_runner : Room := { frames := 1, cells := 0, slots := 0, locals := 24 }
theorem qqX4_runner : yX4_runner.cls = RX4 ∧ yX4_runner.cls ≠ "java/lang/invoke/MethodHandle" ∧ yX4_runner.cls ≠ "java/lang/invoke/VarHandle" ∧ (parseMethodDescriptor yX4_runner.desc).map (fun d => d.parameters.length) = some 3 := by decide +kernel
set_option maxRecDepth 100000 in
set_option maxHeartbeats 4000000 in
theorem kX4_runner (l : Launch) (G : sGl) {S : sWo} {M : sOb} {a1 : Int32} {a2 : Int32} {a3 : Int32} {q : (Int32 × sWo)}  (h : fX4_runner S a1 a2 a3 = some q) : sCt l G yX4_runner wsX4_runner rmX4_runner [.ref (sA G 0 0), .int a1, .int a2, .int a3] S M (some (.int q.1)) q.2 M := by
  refine cMk (cc := cX4_runner) (maxL := 4) (ret := (some .int)) (by decide) rfl (Nat.le_of_ble_eq_true rfl) ?_
  intro p e s m args below meth c Q hQ hx hb hr hlk hml hown hts hw ls hl
  have hown : s.vm.findClass RX4 = some m.cls := hown
  have hl : lv_has ls 4 [(0, .ref (sA G 0 0)), (1, .int a1), (2, .int a2), (3, .int a3)] := hl
  have hiX3 : ∀ w ∈ u_ws RX3 TX3 15, w ∈ wsX4_runner := by decide +kernel
  have hiX4 : ∀ w ∈ u_ws RX4 TX4 7, w ∈ wsX4_runner := by decide +kernel
  unfold fX4_runner at h
  refine lv_iload_n hx hb dX4_runner_0 rfl (lv_at hl 1 rfl) ?_
  obtain ⟨q1, eq1, h⟩ := o_bd h
  refine kS (As := [.int a1]) (rest := []) (st' := [.int q1]) ⟨hx, hb, hml, hown, hts⟩ (kX4_isKind l G eq1) (va_cwS 1 hts gX4_runner_X4_isKind rfl rfl rfl qqX4_isKind ⟨Nat.le_of_ble_eq_true rfl, Nat.le_of_ble_eq_true rfl⟩) hw rfl hl.1 rfl (Nat.le_of_ble_eq_true rfl) dX4_runner_1 ⟨Nat.zero_le _, Nat.zero_le _⟩ rfl (fun H locs hw => ?_)
  refine lv_if_eq (tgt := 21) hx hb dX4_runner_4 (by decide) (fun c4 => ?_) (fun c4 => ?_)
  · replace h := o_t c4 h
    refine lv_aload_n hx hb dX4_runner_21 rfl (lv_at hl 0 rfl) ?_
    refine lv_ldc (v := -1000000001) hx hb hown (hts (.constant RX4 50 (-1000000001)) (by decide +kernel)) dX4_runner_22 ?_
    obtain ⟨q24, eq24, h⟩ := o_bd h
    refine kV (As := [.int (-1000000001 : Int32)]) (rest := []) (st' := [.int q24.1]) ⟨hx, hb, hml, hown, hts⟩ (kX4_found l G eq24) (cwV 1 hts gX4_runner_X4_found rfl rfl rfl qqX4_found ⟨Nat.le_of_ble_eq_true rfl, Nat.le_of_ble_eq_true rfl⟩) hw (rvOw hw) rfl hl.1 rfl (Nat.le_of_ble_eq_true rfl) dX4_runner_24 ⟨Nat.zero_le _, Nat.zero_le _⟩ rfl (fun H locs hw => ?_)
    exact rI hQ hx hb hr hlk hw dX4_runner_27 (o_2a h) (o_2b h) rfl
  · replace h := o_f c4 h
    refine lv_iload_n hx hb dX4_runner_7 rfl (lv_at hl 2 rfl) ?_
    obtain ⟨q8, eq8, h⟩ := o_bd h
    refine kS (As := [.int a2]) (rest := []) (st' := [.int q8]) ⟨hx, hb, hml, hown, hts⟩ (kX4_isPace l G eq8) (va_cwS 1 hts gX4_runner_X4_isPace rfl rfl rfl qqX4_isPace ⟨Nat.le_of_ble_eq_true rfl, Nat.le_of_ble_eq_true rfl⟩) hw rfl hl.1 rfl (Nat.le_of_ble_eq_true rfl) dX4_runner_8 ⟨Nat.zero_le _, Nat.zero_le _⟩ rfl (fun H locs hw => ?_)
    refine lv_if_eq (tgt := 21) hx hb dX4_runner_11 (by decide) (fun c11 => ?_) (fun c11 => ?_)
    · replace h := o_t c11 h
      refine lv_aload_n hx hb dX4_runner_21 rfl (lv_at hl 0 rfl) ?_
      refine lv_ldc (v := -1000000001) hx hb hown (hts (.constant RX4 50 (-1000000001)) (by decide +kernel)) dX4_runner_22 ?_
      obtain ⟨q24, eq24, h⟩ := o_bd h
      refine kV (As := [.int (-1000000001 : Int32)]) (rest := []) (st' := [.int q24.1]) ⟨hx, hb, hml, hown, hts⟩ (kX4_found l G eq24) (cwV 1 hts gX4_runner_X4_found rfl rfl rfl qqX4_found ⟨Nat.le_of_ble_eq_true rfl, Nat.le_of_ble_eq_true rfl⟩) hw (rvOw hw) rfl hl.1 rfl (Nat.le_of_ble_eq_true rfl) dX4_runner_24 ⟨Nat.zero_le _, Nat.zero_le _⟩ rfl (fun H locs hw => ?_)
      exact rI hQ hx hb hr hlk hw dX4_runner_27 (o_2a h) (o_2b h) rfl
    · replace h := o_f c11 h
      refine lv_iload_n hx hb dX4_runner_14 rfl (lv_at hl 3 rfl) ?_
      obtain ⟨q15, eq15, h⟩ := o_bd h
      refine kS (As := [.int a3]) (rest := []) (st' := [.int q15]) ⟨hx, hb, hml, hown, hts⟩ (kX4_isBreath l G eq15) (va_cwS 1 hts gX4_runner_X4_isBreath rfl rfl rfl qqX4_isBreath ⟨Nat.le_of_ble_eq_true rfl, Nat.le_of_ble_eq_true rfl⟩) hw rfl hl.1 rfl (Nat.le_of_ble_eq_true rfl) dX4_runner_15 ⟨Nat.zero_le _, Nat.zero_le _⟩ rfl (fun H locs hw => ?_)
      refine lv_if_ne (tgt := 28) hx hb dX4_runner_18 (by decide) (fun c18 => ?_) (fun c18 => ?_)
      · replace h := o_f c18 h
        refine lv_aload_n hx hb dX4_runner_28 rfl (lv_at hl 0 rfl) ?_
        refine gOw (v := .ref (sA G 1 0)) hx hb hts hiX4 hown hw 0 (by decide) (hts (.fieldLink RX4 10 "SecondHome" "track" "LSecondHome$Track;") (by decide +kernel)) rfl dX4_runner_29 ?_
        refine gTk (v := .int ((S 1).1 4)) hx hb hts hiX3 hown hw (Or.inl rfl) rfl 4 (by decide) (hts (.fieldLink RX4 64 "SecondHome$Track" "count" "I") (by decide +kernel)) rfl dX4_runner_32 ?_
        refine lv_bipush (v := 9) hx hb dX4_runner_35 (by decide) ?_
        refine lv_icmp_lt (tgt := 47) hx hb dX4_runner_37 (by decide) (fun c37 => ?_) (fun c37 => ?_)
        · replace h := o_t c37 h
          refine lv_aload_n hx hb dX4_runner_47 rfl (lv_at hl 0 rfl) ?_
          refine gOw (v := .ref (sA G 1 0)) hx hb hts hiX4 hown hw 0 (by decide) (hts (.fieldLink RX4 10 "SecondHome" "track" "LSecondHome$Track;") (by decide +kernel)) rfl dX4_runner_48 ?_
          refine lv_iload_n hx hb dX4_runner_51 rfl (lv_at hl 1 rfl) ?_
          refine lv_iload_n hx hb dX4_runner_52 rfl (lv_at hl 2 rfl) ?_
          refine lv_iload_n hx hb dX4_runner_53 rfl (lv_at hl 3 rfl) ?_
          obtain ⟨q54, eq54, h⟩ := o_bd h
          refine kV (As := [.int a1, .int a2, .int a3]) (rest := []) (st' := [.int q54.1]) ⟨hx, hb, hml, hown, hts⟩ (kX3_add l G (Or.inl rfl) rfl eq54) (cwV 3 hts gX4_runner_X3_add rfl rfl rfl qqX3_add ⟨Nat.le_of_ble_eq_true rfl, Nat.le_of_ble_eq_true rfl⟩) hw (rvTk hw (Or.inl rfl)) rfl hl.1 rfl (Nat.le_of_ble_eq_true rfl) dX4_runner_54 ⟨Nat.zero_le _, Nat.zero_le _⟩ rfl (fun H locs hw => ?_)
          obtain ⟨S54, eS54, h⟩ := o_nm h
          rw [← eS54] at hw
          exact rI hQ hx hb hr hlk hw dX4_runner_57 (o_2a h) (o_2b h) rfl
        · replace h := o_f c37 h
          refine lv_aload_n hx hb dX4_runner_40 rfl (lv_at hl 0 rfl) ?_
          refine lv_ldc (v := -1000000002) hx hb hown (hts (.constant RX4 68 (-1000000002)) (by decide +kernel)) dX4_runner_41 ?_
          obtain ⟨q43, eq43, h⟩ := o_bd h
          refine kV (As := [.int (-1000000002 : Int32)]) (rest := []) (st' := [.int q43.1]) ⟨hx, hb, hml, hown, hts⟩ (kX4_found l G eq43) (cwV 1 hts gX4_runner_X4_found rfl rfl rfl qqX4_found ⟨Nat.le_of_ble_eq_true rfl, Nat.le_of_ble_eq_true rfl⟩) hw (rvOw hw) rfl hl.1 rfl (Nat.le_of_ble_eq_true rfl) dX4_runner_43 ⟨Nat.zero_le _, Nat.zero_le _⟩ rfl (fun H locs hw => ?_)
          exact rI hQ hx hb hr hlk hw dX4_runner_46 (o_2a h) (o_2b h) rfl
      · replace h := o_t c18 h
        refine lv_aload_n hx hb dX4_runner_21 rfl (lv_at hl 0 rfl) ?_
        refine lv_ldc (v := -1000000001) hx hb hown (hts (.constant RX4 50 (-1000000001)) (by decide +kernel)) dX4_runner_22 ?_
        obtain ⟨q24, eq24, h⟩ := o_bd h
        refine kV (As := [.int (-1000000001 : Int32)]) (rest := []) (st' := [.int q24.1]) ⟨hx, hb, hml, hown, hts⟩ (kX4_found l G eq24) (cwV 1 hts gX4_runner_X4_found rfl rfl rfl qqX4_found ⟨Nat.le_of_ble_eq_true rfl, Nat.le_of_ble_eq_true rfl⟩) hw (rvOw hw) rfl hl.1 rfl (Nat.le_of_ble_eq_true rfl) dX4_runner_24 ⟨Nat.zero_le _, Nat.zero_le _⟩ rfl (fun H locs hw => ?_)
        exact rI hQ hx hb hr hlk hw dX4_runner_27 (o_2a h) (o_2b h) rfl
-- X4_of
def fX4_of (S : sWo) (a1 : Int32) (a2 : Int32) : Option (Int32 × sWo) :=
  (fX3_has (S 1) a1).bind fun q5 => if q5 = 0 then ((fX4_found S (-1000000001 : Int32)).bind fun q14 => some (q14.1, q14.2)) else (if a2 = (0 : Int32) then (if a1 < 0 ∨ 9 ≤ a1.toNatClampNeg then none else some (((S 1).2.1 0 a1.toNatClampNeg), S)) else if a2 = (1 : Int32) then (if a1 < 0 ∨ 9 ≤ a1.toNatClampNeg then none else some (((S 1).2.1 1 a1.toNatClampNeg), S)) else if a2 = (2 : Int32) then (if a1 < 0 ∨ 9 ≤ a1.toNatClampNeg then none else some (((S 1).2.1 2 a1.toNatClampNeg), S)) else if a2 = (3 : Int32) then (if a1 < 0 ∨ 9 ≤ a1.toNatClampNeg then none else some (((S 1).2.1 3 a1.toNatClampNeg), S)) else if a2 = (4 : Int32) then (if a1 < 0 ∨ 9 ≤ a1.toNatClampNeg then none else some (((S 1).2.1 4 a1.toNatClampNeg), S)) else if a2 = (5 : Int32) then (if a1 < 0 ∨ 9 ≤ a1.toNatClampNeg then none else some (((S 1).2.1 5 a1.toNatClampNeg), S)) else if a2 = (6 : Int32) then (if a1 < 0 ∨ 9 ≤ a1.toNatClampNeg then none else some (((S 1).2.1 6 a1.toNatClampNeg), S)) else if a2 = (7 : Int32) then (if a1 < 0 ∨ 9 ≤ a1.toNatClampNeg then none else some (((S 1).2.1 7 a1.toNatClampNeg), S)) else if a2 = (8 : Int32) then ((fX3_placeOf (S 1) a1).bind fun q153 => some (q153, S)) else ((fX4_found S (-1000000001 : Int32)).bind fun q160 => some (q160.1, q160.2)))
def rmX4_of : Room := { frames := 2, cells := 0, slots := 0, locals := 46 }
theorem qqX4_of : yX4_of.cls = RX4 ∧ yX4_of.cls ≠ "java/lang/invoke/MethodHandle" ∧ yX4_of.cls ≠ "java/lang/invoke/VarHandle" ∧ (parseMethodDescriptor yX4_of.desc).map (fun d => d.parameters.length) = some 2 := by decide +kernel
set_option maxRecDepth 100000 in
set_option maxHeartbeats 4000000 in
theorem kX4_of (l : Launch) (G : sGl) {S : sWo} {M : sOb} {a1 : Int32} {a2 : Int32} {q : (Int32 × sWo)}  (h : fX4_of S a1 a2 = some q) : sCt l G yX4_of wsX4_of rmX4_of [.ref (sA G 0 0), .int a1, .int a2] S M (some (.int q.1)) q.2 M := by
  refine cMk (cc := cX4_of) (maxL := 3) (ret := (some .int)) (by decide) rfl (Nat.le_of_ble_eq_true rfl) ?_
  intro p e s m args below meth c Q hQ hx hb hr hlk hml hown hts hw ls hl
  have hown : s.vm.findClass RX4 = some m.cls := hown
  have hl : lv_has ls 3 [(0, .ref (sA G 0 0)), (1, .int a1), (2, .int a2)] := hl
  have hiX3 : ∀ w ∈ u_ws RX3 TX3 15, w ∈ wsX4_of := by decide +kernel
  have hiX4 : ∀ w ∈ u_ws RX4 TX4 7, w ∈ wsX4_of := by decide +kernel
  unfold fX4_of at h
  refine lv_aload_n hx hb dX4_of_0 rfl (lv_at hl 0 rfl) ?_
  refine gOw (v := .ref (sA G 1 0)) hx hb hts hiX4 hown hw 0 (by decide) (hts (.fieldLink RX4 10 "SecondHome" "track" "LSecondHome$Track;") (by decide +kernel)) rfl dX4_of_1 ?_
  refine lv_iload_n hx hb dX4_of_4 rfl (lv_at hl 1 rfl) ?_
  obtain ⟨q5, eq5, h⟩ := o_bd h
  refine kV (As := [.int a1]) (rest := []) (st' := [.int q5]) ⟨hx, hb, hml, hown, hts⟩ (kX3_has l G (Or.inl rfl) rfl eq5) (cwV 1 hts gX4_of_X3_has rfl rfl rfl qqX3_has ⟨Nat.le_of_ble_eq_true rfl, Nat.le_of_ble_eq_true rfl⟩) hw (rvTk hw (Or.inl rfl)) rfl hl.1 rfl (Nat.le_of_ble_eq_true rfl) dX4_of_5 ⟨Nat.zero_le _, Nat.zero_le _⟩ rfl (fun H locs hw => ?_)
  refine lv_if_ne (tgt := 18) hx hb dX4_of_8 (by decide) (fun c8 => ?_) (fun c8 => ?_)
  · replace h := o_f c8 h
    refine lv_iload_n hx hb dX4_of_18 rfl (lv_at hl 2 rfl) ?_
    by_cases c19_0 : a2 = (0 : Int32)
    · replace h := o_t c19_0 h
      refine lv_tableIn (tgt := 68) hx hb dX4_of_19 (by rw [c19_0]; decide) (by rw [c19_0]; decide) (by rw [c19_0]; rfl) (by decide) ?_
      refine lv_aload_n hx hb dX4_of_68 rfl (lv_at hl 0 rfl) ?_
      refine gOw (v := .ref (sA G 1 0)) hx hb hts hiX4 hown hw 0 (by decide) (hts (.fieldLink RX4 10 "SecondHome" "track" "LSecondHome$Track;") (by decide +kernel)) rfl dX4_of_69 ?_
      refine gTk (v := .ref (sA G 1 1)) hx hb hts hiX3 hown hw (Or.inl rfl) rfl 6 (by decide) (hts (.fieldLink RX4 76 "SecondHome$Track" "kinds" "[I") (by decide +kernel)) rfl dX4_of_72 ?_
      refine lv_iload_n hx hb dX4_of_75 rfl (lv_at hl 1 rfl) ?_
      obtain ⟨b76, h⟩ := o_in h
      refine ldTk hx hb hw (Or.inl rfl) rfl 0 (by decide) b76 dX4_of_76 ?_
      exact rI hQ hx hb hr hlk hw dX4_of_77 (o_2a h) (o_2b h) rfl
    replace h := o_f c19_0 h
    by_cases c19_1 : a2 = (1 : Int32)
    · replace h := o_t c19_1 h
      refine lv_tableIn (tgt := 78) hx hb dX4_of_19 (by rw [c19_1]; decide) (by rw [c19_1]; decide) (by rw [c19_1]; rfl) (by decide) ?_
      refine lv_aload_n hx hb dX4_of_78 rfl (lv_at hl 0 rfl) ?_
      refine gOw (v := .ref (sA G 1 0)) hx hb hts hiX4 hown hw 0 (by decide) (hts (.fieldLink RX4 10 "SecondHome" "track" "LSecondHome$Track;") (by decide +kernel)) rfl dX4_of_79 ?_
      refine gTk (v := .ref (sA G 1 2)) hx hb hts hiX3 hown hw (Or.inl rfl) rfl 7 (by decide) (hts (.fieldLink RX4 79 "SecondHome$Track" "paces" "[I") (by decide +kernel)) rfl dX4_of_82 ?_
      refine lv_iload_n hx hb dX4_of_85 rfl (lv_at hl 1 rfl) ?_
      obtain ⟨b86, h⟩ := o_in h
      refine ldTk hx hb hw (Or.inl rfl) rfl 1 (by decide) b86 dX4_of_86 ?_
      exact rI hQ hx hb hr hlk hw dX4_of_87 (o_2a h) (o_2b h) rfl
    replace h := o_f c19_1 h
    by_cases c19_2 : a2 = (2 : Int32)
    · replace h := o_t c19_2 h
      refine lv_tableIn (tgt := 88) hx hb dX4_of_19 (by rw [c19_2]; decide) (by rw [c19_2]; decide) (by rw [c19_2]; rfl) (by decide) ?_
      refine lv_aload_n hx hb dX4_of_88 rfl (lv_at hl 0 rfl) ?_
      refine gOw (v := .ref (sA G 1 0)) hx hb hts hiX4 hown hw 0 (by decide) (hts (.fieldLink RX4 10 "SecondHome" "track" "LSecondHome$Track;") (by decide +kernel)) rfl dX4_of_89 ?_
      refine gTk (v := .ref (sA G 1 3)) hx hb hts hiX3 hown hw (Or.inl rfl) rfl 8 (by decide) (hts (.fieldLink RX4 82 "SecondHome$Track" "breaths" "[I") (by decide +kernel)) rfl dX4_of_92 ?_
      refine lv_iload_n hx hb dX4_of_95 rfl (lv_at hl 1 rfl) ?_
      obtain ⟨b96, h⟩ := o_in h
      refine ldTk hx hb hw (Or.inl rfl) rfl 2 (by decide) b96 dX4_of_96 ?_
      exact rI hQ hx hb hr hlk hw dX4_of_97 (o_2a h) (o_2b h) rfl
    replace h := o_f c19_2 h
    by_cases c19_3 : a2 = (3 : Int32)
    · replace h := o_t c19_3 h
      refine lv_tableIn (tgt := 98) hx hb dX4_of_19 (by rw [c19_3]; decide) (by rw [c19_3]; decide) (by rw [c19_3]; rfl) (by decide) ?_
      refine lv_aload_n hx hb dX4_of_98 rfl (lv_at hl 0 rfl) ?_
      refine gOw (v := .ref (sA G 1 0)) hx hb hts hiX4 hown hw 0 (by decide) (hts (.fieldLink RX4 10 "SecondHome" "track" "LSecondHome$Track;") (by decide +kernel)) rfl dX4_of_99 ?_
      refine gTk (v := .ref (sA G 1 4)) hx hb hts hiX3 hown hw (Or.inl rfl) rfl 9 (by decide) (hts (.fieldLink RX4 85 "SecondHome$Track" "friends" "[I") (by decide +kernel)) rfl dX4_of_102 ?_
      refine lv_iload_n hx hb dX4_of_105 rfl (lv_at hl 1 rfl) ?_
      obtain ⟨b106, h⟩ := o_in h
      refine ldTk hx hb hw (Or.inl rfl) rfl 3 (by decide) b106 dX4_of_106 ?_
      exact rI hQ hx hb hr hlk hw dX4_of_107 (o_2a h) (o_2b h) rfl
    replace h := o_f c19_3 h
    by_cases c19_4 : a2 = (4 : Int32)
    · replace h := o_t c19_4 h
      refine lv_tableIn (tgt := 108) hx hb dX4_of_19 (by rw [c19_4]; decide) (by rw [c19_4]; decide) (by rw [c19_4]; rfl) (by decide) ?_
      refine lv_aload_n hx hb dX4_of_108 rfl (lv_at hl 0 rfl) ?_
      refine gOw (v := .ref (sA G 1 0)) hx hb hts hiX4 hown hw 0 (by decide) (hts (.fieldLink RX4 10 "SecondHome" "track" "LSecondHome$Track;") (by decide +kernel)) rfl dX4_of_109 ?_
      refine gTk (v := .ref (sA G 1 5)) hx hb hts hiX3 hown hw (Or.inl rfl) rfl 10 (by decide) (hts (.fieldLink RX4 88 "SecondHome$Track" "starts" "[I") (by decide +kernel)) rfl dX4_of_112 ?_
      refine lv_iload_n hx hb dX4_of_115 rfl (lv_at hl 1 rfl) ?_
      obtain ⟨b116, h⟩ := o_in h
      refine ldTk hx hb hw (Or.inl rfl) rfl 4 (by decide) b116 dX4_of_116 ?_
      exact rI hQ hx hb hr hlk hw dX4_of_117 (o_2a h) (o_2b h) rfl
    replace h := o_f c19_4 h
    by_cases c19_5 : a2 = (5 : Int32)
    · replace h := o_t c19_5 h
      refine lv_tableIn (tgt := 118) hx hb dX4_of_19 (by rw [c19_5]; decide) (by rw [c19_5]; decide) (by rw [c19_5]; rfl) (by decide) ?_
      refine lv_aload_n hx hb dX4_of_118 rfl (lv_at hl 0 rfl) ?_
      refine gOw (v := .ref (sA G 1 0)) hx hb hts hiX4 hown hw 0 (by decide) (hts (.fieldLink RX4 10 "SecondHome" "track" "LSecondHome$Track;") (by decide +kernel)) rfl dX4_of_119 ?_
      refine gTk (v := .ref (sA G 1 6)) hx hb hts hiX3 hown hw (Or.inl rfl) rfl 11 (by decide) (hts (.fieldLink RX4 91 "SecondHome$Track" "yards" "[I") (by decide +kernel)) rfl dX4_of_122 ?_
      refine lv_iload_n hx hb dX4_of_125 rfl (lv_at hl 1 rfl) ?_
      obtain ⟨b126, h⟩ := o_in h
      refine ldTk hx hb hw (Or.inl rfl) rfl 5 (by decide) b126 dX4_of_126 ?_
      exact rI hQ hx hb hr hlk hw dX4_of_127 (o_2a h) (o_2b h) rfl
    replace h := o_f c19_5 h
    by_cases c19_6 : a2 = (6 : Int32)
    · replace h := o_t c19_6 h
      refine lv_tableIn (tgt := 128) hx hb dX4_of_19 (by rw [c19_6]; decide) (by rw [c19_6]; decide) (by rw [c19_6]; rfl) (by decide) ?_
      refine lv_aload_n hx hb dX4_of_128 rfl (lv_at hl 0 rfl) ?_
      refine gOw (v := .ref (sA G 1 0)) hx hb hts hiX4 hown hw 0 (by decide) (hts (.fieldLink RX4 10 "SecondHome" "track" "LSecondHome$Track;") (by decide +kernel)) rfl dX4_of_129 ?_
      refine gTk (v := .ref (sA G 1 7)) hx hb hts hiX3 hown hw (Or.inl rfl) rfl 12 (by decide) (hts (.fieldLink RX4 94 "SecondHome$Track" "points" "[I") (by decide +kernel)) rfl dX4_of_132 ?_
      refine lv_iload_n hx hb dX4_of_135 rfl (lv_at hl 1 rfl) ?_
      obtain ⟨b136, h⟩ := o_in h
      refine ldTk hx hb hw (Or.inl rfl) rfl 6 (by decide) b136 dX4_of_136 ?_
      exact rI hQ hx hb hr hlk hw dX4_of_137 (o_2a h) (o_2b h) rfl
    replace h := o_f c19_6 h
    by_cases c19_7 : a2 = (7 : Int32)
    · replace h := o_t c19_7 h
      refine lv_tableIn (tgt := 138) hx hb dX4_of_19 (by rw [c19_7]; decide) (by rw [c19_7]; decide) (by rw [c19_7]; rfl) (by decide) ?_
      refine lv_aload_n hx hb dX4_of_138 rfl (lv_at hl 0 rfl) ?_
      refine gOw (v := .ref (sA G 1 0)) hx hb hts hiX4 hown hw 0 (by decide) (hts (.fieldLink RX4 10 "SecondHome" "track" "LSecondHome$Track;") (by decide +kernel)) rfl dX4_of_139 ?_
      refine gTk (v := .ref (sA G 1 8)) hx hb hts hiX3 hown hw (Or.inl rfl) rfl 13 (by decide) (hts (.fieldLink RX4 97 "SecondHome$Track" "homes" "[I") (by decide +kernel)) rfl dX4_of_142 ?_
      refine lv_iload_n hx hb dX4_of_145 rfl (lv_at hl 1 rfl) ?_
      obtain ⟨b146, h⟩ := o_in h
      refine ldTk hx hb hw (Or.inl rfl) rfl 7 (by decide) b146 dX4_of_146 ?_
      exact rI hQ hx hb hr hlk hw dX4_of_147 (o_2a h) (o_2b h) rfl
    replace h := o_f c19_7 h
    by_cases c19_8 : a2 = (8 : Int32)
    · replace h := o_t c19_8 h
      refine lv_tableIn (tgt := 148) hx hb dX4_of_19 (by rw [c19_8]; decide) (by rw [c19_8]; decide) (by rw [c19_8]; rfl) (by decide) ?_
      refine lv_aload_n hx hb dX4_of_148 rfl (lv_at hl 0 rfl) ?_
      refine gOw (v := .ref (sA G 1 0)) hx hb hts hiX4 hown hw 0 (by decide) (hts (.fieldLink RX4 10 "SecondHome" "track" "LSecondHome$Track;") (by decide +kernel)) rfl dX4_of_149 ?_
      refine lv_iload_n hx hb dX4_of_152 rfl (lv_at hl 1 rfl) ?_
      obtain ⟨q153, eq153, h⟩ := o_bd h
      refine kV (As := [.int a1]) (rest := []) (st' := [.int q153]) ⟨hx, hb, hml, hown, hts⟩ (kX3_placeOf l G (Or.inl rfl) rfl eq153) (cwV 1 hts gX4_of_X3_placeOf rfl rfl rfl qqX3_placeOf ⟨Nat.le_of_ble_eq_true rfl, Nat.le_of_ble_eq_true rfl⟩) hw (rvTk hw (Or.inl rfl)) rfl hl.1 rfl (Nat.le_of_ble_eq_true rfl) dX4_of_153 ⟨Nat.zero_le _, Nat.zero_le _⟩ rfl (fun H locs hw => ?_)
      exact rI hQ hx hb hr hlk hw dX4_of_156 (o_2a h) (o_2b h) rfl
    replace h := o_f c19_8 h
    have sw19 : a2.toInt < 0 ∨ 8 < a2.toInt := by
      have z0 := sw_ne c19_0
      have z1 := sw_ne c19_1
      have z2 := sw_ne c19_2
      have z3 := sw_ne c19_3
      have z4 := sw_ne c19_4
      have z5 := sw_ne c19_5
      have z6 := sw_ne c19_6
      have z7 := sw_ne c19_7
      have z8 := sw_ne c19_8
      rw [show ((0 : Int32)).toInt = 0 from rfl] at z0
      rw [show ((1 : Int32)).toInt = 1 from rfl] at z1
      rw [show ((2 : Int32)).toInt = 2 from rfl] at z2
      rw [show ((3 : Int32)).toInt = 3 from rfl] at z3
      rw [show ((4 : Int32)).toInt = 4 from rfl] at z4
      rw [show ((5 : Int32)).toInt = 5 from rfl] at z5
      rw [show ((6 : Int32)).toInt = 6 from rfl] at z6
      rw [show ((7 : Int32)).toInt = 7 from rfl] at z7
      rw [show ((8 : Int32)).toInt = 8 from rfl] at z8
      omega
    refine lv_tableOut (tgt := 157) hx hb dX4_of_19 sw19 (by decide) ?_
    refine lv_aload_n hx hb dX4_of_157 rfl (lv_at hl 0 rfl) ?_
    refine lv_ldc (v := -1000000001) hx hb hown (hts (.constant RX4 50 (-1000000001)) (by decide +kernel)) dX4_of_158 ?_
    obtain ⟨q160, eq160, h⟩ := o_bd h
    refine kV (As := [.int (-1000000001 : Int32)]) (rest := []) (st' := [.int q160.1]) ⟨hx, hb, hml, hown, hts⟩ (kX4_found l G eq160) (cwV 1 hts gX4_of_X4_found rfl rfl rfl qqX4_found ⟨Nat.le_of_ble_eq_true rfl, Nat.le_of_ble_eq_true rfl⟩) hw (rvOw hw) rfl hl.1 rfl (Nat.le_of_ble_eq_true rfl) dX4_of_160 ⟨Nat.zero_le _, Nat.zero_le _⟩ rfl (fun H locs hw => ?_)
    exact rI hQ hx hb hr hlk hw dX4_of_163 (o_2a h) (o_2b h) rfl
  · replace h := o_t c8 h
    refine lv_aload_n hx hb dX4_of_11 rfl (lv_at hl 0 rfl) ?_
    refine lv_ldc (v := -1000000001) hx hb hown (hts (.constant RX4 50 (-1000000001)) (by decide +kernel)) dX4_of_12 ?_
    obtain ⟨q14, eq14, h⟩ := o_bd h
    refine kV (As := [.int (-1000000001 : Int32)]) (rest := []) (st' := [.int q14.1]) ⟨hx, hb, hml, hown, hts⟩ (kX4_found l G eq14) (cwV 1 hts gX4_of_X4_found rfl rfl rfl qqX4_found ⟨Nat.le_of_ble_eq_true rfl, Nat.le_of_ble_eq_true rfl⟩) hw (rvOw hw) rfl hl.1 rfl (Nat.le_of_ble_eq_true rfl) dX4_of_14 ⟨Nat.zero_le _, Nat.zero_le _⟩ rfl (fun H locs hw => ?_)
    exact rI hQ hx hb hr hlk hw dX4_of_17 (o_2a h) (o_2b h) rfl
-- X4_exchange
def fX4_exchange (T : sOb) (k : Nat) (a1 : Int32) (a2 : Int32) : Option (Int32 × sOb) :=
  if a1 < 0 then (some (a2, T)) else (if a1 < (9 : Int32) then (if a1 < 0 ∨ 9 ≤ a1.toNatClampNeg then none else nm (T.2.1 k a1.toNatClampNeg) fun v15 => nm (sSa T k a1.toNatClampNeg a2) fun T19 => some (v15, T19)) else (some (a2, T)))
def rmX4_exchange : Room := { frames := 0, cells := 0, slots := 0, locals := 0 }
theorem qqX4_exchange : yX4_exchange.cls ≠ "java/lang/invoke/MethodHandle" ∧ yX4_exchange.cls ≠ "java/lang/invoke/VarHandle" ∧ (parseMethodDescriptor yX4_exchange.desc).map (fun d => d.parameters.length) = some 3 := by decide +kernel
set_option maxRecDepth 100000 in
set_option maxHeartbeats 4000000 in
theorem kX4_exchange (l : Launch) (G : sGl) {S : sWo} {M : sOb} {o : Nat} {T : sOb} {k : Nat} {a1 : Int32} {a2 : Int32} {q : (Int32 × sOb)} (ho : isTk o) (hk : k < 9) (hT : S o = T) (h : fX4_exchange T k a1 a2 = some q) : sCt l G yX4_exchange wsX4_exchange rmX4_exchange [.ref (sA G o (k + 1)), .int a1, .int a2] S M (some (.int q.1)) (sUp S o q.2) M := by
  refine cMk (cc := cX4_exchange) (maxL := 4) (ret := (some .int)) (by decide) rfl (Nat.le_of_ble_eq_true rfl) ?_
  intro p e s m args below meth c Q hQ hx hb hr hlk hml hown hts hw ls hl
  have hown : s.vm.findClass RX4 = some m.cls := hown
  have hl : lv_has ls 4 [(0, .ref (sA G o (k + 1))), (1, .int a1), (2, .int a2)] := hl
  rw [show S = sUp S o T from (by rw [← hT]; exact (sUp_i S o).symm)] at hw
  unfold fX4_exchange at h
  refine lv_iload_n hx hb dX4_exchange_0 rfl (lv_at hl 1 rfl) ?_
  refine lv_if_lt (tgt := 10) hx hb dX4_exchange_1 (by decide) (fun c1 => ?_) (fun c1 => ?_)
  · replace h := o_t c1 h
    refine lv_iload_n hx hb dX4_exchange_10 rfl (lv_at hl 2 rfl) ?_
    exact rI hQ hx hb hr hlk hw dX4_exchange_11 (o_2a h) (congrArg (sUp S o) (o_2b h)) rfl
  · replace h := o_f c1 h
    refine lv_iload_n hx hb dX4_exchange_4 rfl (lv_at hl 1 rfl) ?_
    refine lv_aload_n hx hb dX4_exchange_5 rfl (lv_at hl 0 rfl) ?_
    refine lenTk hx hb hw ho k hk dX4_exchange_6 ?_
    refine lv_icmp_lt (tgt := 12) hx hb dX4_exchange_7 (by decide) (fun c7 => ?_) (fun c7 => ?_)
    · replace h := o_t c7 h
      refine lv_aload_n hx hb dX4_exchange_12 rfl (lv_at hl 0 rfl) ?_
      refine lv_iload_n hx hb dX4_exchange_13 rfl (lv_at hl 1 rfl) ?_
      obtain ⟨b14, h⟩ := o_in h
      refine ldTk hx hb hw ho (sUp_s S o T) k hk b14 dX4_exchange_14 ?_
      refine lv_topi (fun v15 ev15 => ?_)
      replace h := o_nx ev15 h
      refine lv_istore_n (lv' := [(3, .int v15), (0, .ref (sA G o (k + 1))), (1, .int a1), (2, .int a2)]) hx hb dX4_exchange_15 rfl hl (by decide) rfl (fun ls hl => ?_)
      refine lv_aload_n hx hb dX4_exchange_16 rfl (lv_at hl 1 rfl) ?_
      refine lv_iload_n hx hb dX4_exchange_17 rfl (lv_at hl 2 rfl) ?_
      refine lv_iload_n hx hb dX4_exchange_18 rfl (lv_at hl 3 rfl) ?_
      refine stTk hx hb hw ho (sUp_s S o T) k hk b14 dX4_exchange_19 (sUp_u S o T _) (fun H locs hw => ?_)
      obtain ⟨T19, eT19, h⟩ := o_nm h
      rw [← eT19] at hw
      refine lv_iload_n hx hb dX4_exchange_20 rfl (lv_at hl 0 rfl) ?_
      exact rI hQ hx hb hr hlk hw dX4_exchange_21 (o_2a h) (congrArg (sUp S o) (o_2b h)) rfl
    · replace h := o_f c7 h
      refine lv_iload_n hx hb dX4_exchange_10 rfl (lv_at hl 2 rfl) ?_
      exact rI hQ hx hb hr hlk hw dX4_exchange_11 (o_2a h) (congrArg (sUp S o) (o_2b h)) rfl
-- X4_isFriendFor
def fX4_isFriendFor (S : sWo) (a1 : Int32) (a2 : Int32) : Option Int32 :=
  if a2 = (-1 : Int32) then (some (1 : Int32)) else ((fX3_has (S 1) a2).bind fun q10 => if q10 = 0 then (some (0 : Int32)) else (if a2 = a1 then (some (0 : Int32)) else (some (1 : Int32))))
def rmX4_isFriendFor : Room := { frames := 1, cells := 0, slots := 0, locals := 21 }
theorem qqX4_isFriendFor : yX4_isFriendFor.cls = RX4 ∧ yX4_isFriendFor.cls ≠ "java/lang/invoke/MethodHandle" ∧ yX4_isFriendFor.cls ≠ "java/lang/invoke/VarHandle" ∧ (parseMethodDescriptor yX4_isFriendFor.desc).map (fun d => d.parameters.length) = some 2 := by decide +kernel
set_option maxRecDepth 100000 in
set_option maxHeartbeats 4000000 in
theorem kX4_isFriendFor (l : Launch) (G : sGl) {S : sWo} {M : sOb} {a1 : Int32} {a2 : Int32} {q : Int32}  (h : fX4_isFriendFor S a1 a2 = some q) : sCt l G yX4_isFriendFor wsX4_isFriendFor rmX4_isFriendFor [.ref (sA G 0 0), .int a1, .int a2] S M (some (.int q)) S M := by
  refine cMk (cc := cX4_isFriendFor) (maxL := 3) (ret := (some .boolean)) (by decide) rfl (Nat.le_of_ble_eq_true rfl) ?_
  intro p e s m args below meth c Q hQ hx hb hr hlk hml hown hts hw ls hl
  have hown : s.vm.findClass RX4 = some m.cls := hown
  have hl : lv_has ls 3 [(0, .ref (sA G 0 0)), (1, .int a1), (2, .int a2)] := hl
  have hiX4 : ∀ w ∈ u_ws RX4 TX4 7, w ∈ wsX4_isFriendFor := by decide +kernel
  unfold fX4_isFriendFor at h
  refine lv_iload_n hx hb dX4_isFriendFor_0 rfl (lv_at hl 2 rfl) ?_
  refine lv_iconst (v := -1) hx hb dX4_isFriendFor_1 (by decide) ?_
  refine lv_icmp_eq (tgt := 21) hx hb dX4_isFriendFor_2 (by decide) (fun c2 => ?_) (fun c2 => ?_)
  · replace h := o_t c2 h
    refine lv_iconst (v := 1) hx hb dX4_isFriendFor_21 (by decide) ?_
    refine lv_goto (tgt := 26) hx hb dX4_isFriendFor_22 (by decide) ?_
    exact rZ hQ hx hb hr hlk hw (Or.inr rfl) dX4_isFriendFor_26 (o_1 h) rfl rfl
  · replace h := o_f c2 h
    refine lv_aload_n hx hb dX4_isFriendFor_5 rfl (lv_at hl 0 rfl) ?_
    refine gOw (v := .ref (sA G 1 0)) hx hb hts hiX4 hown hw 0 (by decide) (hts (.fieldLink RX4 10 "SecondHome" "track" "LSecondHome$Track;") (by decide +kernel)) rfl dX4_isFriendFor_6 ?_
    refine lv_iload_n hx hb dX4_isFriendFor_9 rfl (lv_at hl 2 rfl) ?_
    obtain ⟨q10, eq10, h⟩ := o_bd h
    refine kV (As := [.int a2]) (rest := []) (st' := [.int q10]) ⟨hx, hb, hml, hown, hts⟩ (kX3_has l G (Or.inl rfl) rfl eq10) (cwV 1 hts gX4_isFriendFor_X3_has rfl rfl rfl qqX3_has ⟨Nat.le_of_ble_eq_true rfl, Nat.le_of_ble_eq_true rfl⟩) hw (rvTk hw (Or.inl rfl)) rfl hl.1 rfl (Nat.le_of_ble_eq_true rfl) dX4_isFriendFor_10 ⟨Nat.zero_le _, Nat.zero_le _⟩ rfl (fun H locs hw => ?_)
    refine lv_if_eq (tgt := 25) hx hb dX4_isFriendFor_13 (by decide) (fun c13 => ?_) (fun c13 => ?_)
    · replace h := o_t c13 h
      refine lv_iconst (v := 0) hx hb dX4_isFriendFor_25 (by decide) ?_
      exact rZ hQ hx hb hr hlk hw (Or.inl rfl) dX4_isFriendFor_26 (o_1 h) rfl rfl
    · replace h := o_f c13 h
      refine lv_iload_n hx hb dX4_isFriendFor_16 rfl (lv_at hl 2 rfl) ?_
      refine lv_iload_n hx hb dX4_isFriendFor_17 rfl (lv_at hl 1 rfl) ?_
      refine lv_icmp_eq (tgt := 25) hx hb dX4_isFriendFor_18 (by decide) (fun c18 => ?_) (fun c18 => ?_)
      · replace h := o_t c18 h
        refine lv_iconst (v := 0) hx hb dX4_isFriendFor_25 (by decide) ?_
        exact rZ hQ hx hb hr hlk hw (Or.inl rfl) dX4_isFriendFor_26 (o_1 h) rfl rfl
      · replace h := o_f c18 h
        refine lv_iconst (v := 1) hx hb dX4_isFriendFor_21 (by decide) ?_
        refine lv_goto (tgt := 26) hx hb dX4_isFriendFor_22 (by decide) ?_
        exact rZ hQ hx hb hr hlk hw (Or.inr rfl) dX4_isFriendFor_26 (o_1 h) rfl rfl
-- X4_set
def fX4_set (S : sWo) (a1 : Int32) (a2 : Int32) (a3 : Int32) : Option (Int32 × sWo) :=
  (fX3_has (S 1) a1).bind fun q5 => if q5 = 0 then ((fX4_found S (-1000000001 : Int32)).bind fun q14 => some (q14.1, q14.2)) else (if a2 = (1 : Int32) then ((fX4_isPace a3).bind fun q49 => if q49 = 0 then ((fX4_found S (-1000000001 : Int32)).bind fun q73 => some (q73.1, q73.2)) else ((fX4_exchange (S 1) 1 a1 a3).bind fun q64 => nm (sUp S 1 q64.2) fun S64 => some (q64.1, S64))) else if a2 = (2 : Int32) then ((fX4_isBreath a3).bind fun q78 => if q78 = 0 then ((fX4_found S (-1000000001 : Int32)).bind fun q102 => some (q102.1, q102.2)) else ((fX4_exchange (S 1) 2 a1 a3).bind fun q93 => nm (sUp S 1 q93.2) fun S93 => some (q93.1, S93))) else if a2 = (3 : Int32) then ((fX4_isFriendFor S a1 a3).bind fun q109 => if q109 = 0 then ((fX4_found S (-1000000001 : Int32)).bind fun q133 => some (q133.1, q133.2)) else ((fX4_exchange (S 1) 3 a1 a3).bind fun q124 => nm (sUp S 1 q124.2) fun S124 => some (q124.1, S124))) else if a2 = (4 : Int32) then ((fX3_isStart (S 1) a3).bind fun q142 => if q142 = 0 then ((fX4_found S (-1000000001 : Int32)).bind fun q166 => some (q166.1, q166.2)) else ((fX4_exchange (S 1) 4 a1 a3).bind fun q157 => nm (sUp S 1 q157.2) fun S157 => some (q157.1, S157))) else ((fX4_found S (-1000000001 : Int32)).bind fun q173 => some (q173.1, q173.2)))
def rmX4_set : Room := { frames := 2, cells := 0, slots := 0, locals := 43 }
theorem qqX4_set : yX4_set.cls = RX4 ∧ yX4_set.cls ≠ "java/lang/invoke/MethodHandle" ∧ yX4_set.cls ≠ "java/lang/invoke/VarHandle" ∧ (parseMethodDescriptor yX4_set.desc).map (fun d => d.parameters.length) = some 3 := by decide +kernel
set_option maxRecDepth 100000 in
set_option maxHeartbeats 4000000 in
theorem kX4_set (l : Launch) (G : sGl) {S : sWo} {M : sOb} {a1 : Int32} {a2 : Int32} {a3 : Int32} {q : (Int32 × sWo)}  (h : fX4_set S a1 a2 a3 = some q) : sCt l G yX4_set wsX4_set rmX4_set [.ref (sA G 0 0), .int a1, .int a2, .int a3] S M (some (.int q.1)) q.2 M := by
  refine cMk (cc := cX4_set) (maxL := 4) (ret := (some .int)) (by decide) rfl (Nat.le_of_ble_eq_true rfl) ?_
  intro p e s m args below meth c Q hQ hx hb hr hlk hml hown hts hw ls hl
  have hown : s.vm.findClass RX4 = some m.cls := hown
  have hl : lv_has ls 4 [(0, .ref (sA G 0 0)), (1, .int a1), (2, .int a2), (3, .int a3)] := hl
  have hiX3 : ∀ w ∈ u_ws RX3 TX3 15, w ∈ wsX4_set := by decide +kernel
  have hiX4 : ∀ w ∈ u_ws RX4 TX4 7, w ∈ wsX4_set := by decide +kernel
  unfold fX4_set at h
  refine lv_aload_n hx hb dX4_set_0 rfl (lv_at hl 0 rfl) ?_
  refine gOw (v := .ref (sA G 1 0)) hx hb hts hiX4 hown hw 0 (by decide) (hts (.fieldLink RX4 10 "SecondHome" "track" "LSecondHome$Track;") (by decide +kernel)) rfl dX4_set_1 ?_
  refine lv_iload_n hx hb dX4_set_4 rfl (lv_at hl 1 rfl) ?_
  obtain ⟨q5, eq5, h⟩ := o_bd h
  refine kV (As := [.int a1]) (rest := []) (st' := [.int q5]) ⟨hx, hb, hml, hown, hts⟩ (kX3_has l G (Or.inl rfl) rfl eq5) (cwV 1 hts gX4_set_X3_has rfl rfl rfl qqX3_has ⟨Nat.le_of_ble_eq_true rfl, Nat.le_of_ble_eq_true rfl⟩) hw (rvTk hw (Or.inl rfl)) rfl hl.1 rfl (Nat.le_of_ble_eq_true rfl) dX4_set_5 ⟨Nat.zero_le _, Nat.zero_le _⟩ rfl (fun H locs hw => ?_)
  refine lv_if_ne (tgt := 18) hx hb dX4_set_8 (by decide) (fun c8 => ?_) (fun c8 => ?_)
  · replace h := o_f c8 h
    refine lv_iload_n hx hb dX4_set_18 rfl (lv_at hl 2 rfl) ?_
    by_cases c19_1 : a2 = (1 : Int32)
    · replace h := o_t c19_1 h
      refine lv_tableIn (tgt := 48) hx hb dX4_set_19 (by rw [c19_1]; decide) (by rw [c19_1]; decide) (by rw [c19_1]; rfl) (by decide) ?_
      refine lv_iload_n hx hb dX4_set_48 rfl (lv_at hl 3 rfl) ?_
      obtain ⟨q49, eq49, h⟩ := o_bd h
      refine kS (As := [.int a3]) (rest := []) (st' := [.int q49]) ⟨hx, hb, hml, hown, hts⟩ (kX4_isPace l G eq49) (va_cwS 1 hts gX4_set_X4_isPace rfl rfl rfl qqX4_isPace ⟨Nat.le_of_ble_eq_true rfl, Nat.le_of_ble_eq_true rfl⟩) hw rfl hl.1 rfl (Nat.le_of_ble_eq_true rfl) dX4_set_49 ⟨Nat.zero_le _, Nat.zero_le _⟩ rfl (fun H locs hw => ?_)
      refine lv_if_eq (tgt := 70) hx hb dX4_set_52 (by decide) (fun c52 => ?_) (fun c52 => ?_)
      · replace h := o_t c52 h
        refine lv_aload_n hx hb dX4_set_70 rfl (lv_at hl 0 rfl) ?_
        refine lv_ldc (v := -1000000001) hx hb hown (hts (.constant RX4 50 (-1000000001)) (by decide +kernel)) dX4_set_71 ?_
        obtain ⟨q73, eq73, h⟩ := o_bd h
        refine kV (As := [.int (-1000000001 : Int32)]) (rest := []) (st' := [.int q73.1]) ⟨hx, hb, hml, hown, hts⟩ (kX4_found l G eq73) (cwV 1 hts gX4_set_X4_found rfl rfl rfl qqX4_found ⟨Nat.le_of_ble_eq_true rfl, Nat.le_of_ble_eq_true rfl⟩) hw (rvOw hw) rfl hl.1 rfl (Nat.le_of_ble_eq_true rfl) dX4_set_73 ⟨Nat.zero_le _, Nat.zero_le _⟩ rfl (fun H locs hw => ?_)
        exact rI hQ hx hb hr hlk hw dX4_set_76 (o_2a h) (o_2b h) rfl
      · replace h := o_f c52 h
        refine lv_aload_n hx hb dX4_set_55 rfl (lv_at hl 0 rfl) ?_
        refine gOw (v := .ref (sA G 1 0)) hx hb hts hiX4 hown hw 0 (by decide) (hts (.fieldLink RX4 10 "SecondHome" "track" "LSecondHome$Track;") (by decide +kernel)) rfl dX4_set_56 ?_
        refine gTk (v := .ref (sA G 1 2)) hx hb hts hiX3 hown hw (Or.inl rfl) rfl 7 (by decide) (hts (.fieldLink RX4 79 "SecondHome$Track" "paces" "[I") (by decide +kernel)) rfl dX4_set_59 ?_
        refine lv_iload_n hx hb dX4_set_62 rfl (lv_at hl 1 rfl) ?_
        refine lv_iload_n hx hb dX4_set_63 rfl (lv_at hl 3 rfl) ?_
        obtain ⟨q64, eq64, h⟩ := o_bd h
        refine kS (As := [.ref (sA G 1 2), .int a1, .int a3]) (rest := []) (st' := [.int q64.1]) ⟨hx, hb, hml, hown, hts⟩ (kX4_exchange l G (Or.inl rfl) (by decide) rfl eq64) (va_cwS 3 hts gX4_set_X4_exchange rfl rfl rfl qqX4_exchange ⟨Nat.le_of_ble_eq_true rfl, Nat.le_of_ble_eq_true rfl⟩) hw rfl hl.1 rfl (Nat.le_of_ble_eq_true rfl) dX4_set_64 ⟨Nat.zero_le _, Nat.zero_le _⟩ rfl (fun H locs hw => ?_)
        obtain ⟨S64, eS64, h⟩ := o_nm h
        rw [← eS64] at hw
        refine lv_goto (tgt := 76) hx hb dX4_set_67 (by decide) ?_
        exact rI hQ hx hb hr hlk hw dX4_set_76 (o_2a h) (o_2b h) rfl
    replace h := o_f c19_1 h
    by_cases c19_2 : a2 = (2 : Int32)
    · replace h := o_t c19_2 h
      refine lv_tableIn (tgt := 77) hx hb dX4_set_19 (by rw [c19_2]; decide) (by rw [c19_2]; decide) (by rw [c19_2]; rfl) (by decide) ?_
      refine lv_iload_n hx hb dX4_set_77 rfl (lv_at hl 3 rfl) ?_
      obtain ⟨q78, eq78, h⟩ := o_bd h
      refine kS (As := [.int a3]) (rest := []) (st' := [.int q78]) ⟨hx, hb, hml, hown, hts⟩ (kX4_isBreath l G eq78) (va_cwS 1 hts gX4_set_X4_isBreath rfl rfl rfl qqX4_isBreath ⟨Nat.le_of_ble_eq_true rfl, Nat.le_of_ble_eq_true rfl⟩) hw rfl hl.1 rfl (Nat.le_of_ble_eq_true rfl) dX4_set_78 ⟨Nat.zero_le _, Nat.zero_le _⟩ rfl (fun H locs hw => ?_)
      refine lv_if_eq (tgt := 99) hx hb dX4_set_81 (by decide) (fun c81 => ?_) (fun c81 => ?_)
      · replace h := o_t c81 h
        refine lv_aload_n hx hb dX4_set_99 rfl (lv_at hl 0 rfl) ?_
        refine lv_ldc (v := -1000000001) hx hb hown (hts (.constant RX4 50 (-1000000001)) (by decide +kernel)) dX4_set_100 ?_
        obtain ⟨q102, eq102, h⟩ := o_bd h
        refine kV (As := [.int (-1000000001 : Int32)]) (rest := []) (st' := [.int q102.1]) ⟨hx, hb, hml, hown, hts⟩ (kX4_found l G eq102) (cwV 1 hts gX4_set_X4_found rfl rfl rfl qqX4_found ⟨Nat.le_of_ble_eq_true rfl, Nat.le_of_ble_eq_true rfl⟩) hw (rvOw hw) rfl hl.1 rfl (Nat.le_of_ble_eq_true rfl) dX4_set_102 ⟨Nat.zero_le _, Nat.zero_le _⟩ rfl (fun H locs hw => ?_)
        exact rI hQ hx hb hr hlk hw dX4_set_105 (o_2a h) (o_2b h) rfl
      · replace h := o_f c81 h
        refine lv_aload_n hx hb dX4_set_84 rfl (lv_at hl 0 rfl) ?_
        refine gOw (v := .ref (sA G 1 0)) hx hb hts hiX4 hown hw 0 (by decide) (hts (.fieldLink RX4 10 "SecondHome" "track" "LSecondHome$Track;") (by decide +kernel)) rfl dX4_set_85 ?_
        refine gTk (v := .ref (sA G 1 3)) hx hb hts hiX3 hown hw (Or.inl rfl) rfl 8 (by decide) (hts (.fieldLink RX4 82 "SecondHome$Track" "breaths" "[I") (by decide +kernel)) rfl dX4_set_88 ?_
        refine lv_iload_n hx hb dX4_set_91 rfl (lv_at hl 1 rfl) ?_
        refine lv_iload_n hx hb dX4_set_92 rfl (lv_at hl 3 rfl) ?_
        obtain ⟨q93, eq93, h⟩ := o_bd h
        refine kS (As := [.ref (sA G 1 3), .int a1, .int a3]) (rest := []) (st' := [.int q93.1]) ⟨hx, hb, hml, hown, hts⟩ (kX4_exchange l G (Or.inl rfl) (by decide) rfl eq93) (va_cwS 3 hts gX4_set_X4_exchange rfl rfl rfl qqX4_exchange ⟨Nat.le_of_ble_eq_true rfl, Nat.le_of_ble_eq_true rfl⟩) hw rfl hl.1 rfl (Nat.le_of_ble_eq_true rfl) dX4_set_93 ⟨Nat.zero_le _, Nat.zero_le _⟩ rfl (fun H locs hw => ?_)
        obtain ⟨S93, eS93, h⟩ := o_nm h
        rw [← eS93] at hw
        refine lv_goto (tgt := 105) hx hb dX4_set_96 (by decide) ?_
        exact rI hQ hx hb hr hlk hw dX4_set_105 (o_2a h) (o_2b h) rfl
    replace h := o_f c19_2 h
    by_cases c19_3 : a2 = (3 : Int32)
    · replace h := o_t c19_3 h
      refine lv_tableIn (tgt := 106) hx hb dX4_set_19 (by rw [c19_3]; decide) (by rw [c19_3]; decide) (by rw [c19_3]; rfl) (by decide) ?_
      refine lv_aload_n hx hb dX4_set_106 rfl (lv_at hl 0 rfl) ?_
      refine lv_iload_n hx hb dX4_set_107 rfl (lv_at hl 1 rfl) ?_
      refine lv_iload_n hx hb dX4_set_108 rfl (lv_at hl 3 rfl) ?_
      obtain ⟨q109, eq109, h⟩ := o_bd h
      refine kV (As := [.int a1, .int a3]) (rest := []) (st' := [.int q109]) ⟨hx, hb, hml, hown, hts⟩ (kX4_isFriendFor l G eq109) (cwV 2 hts gX4_set_X4_isFriendFor rfl rfl rfl qqX4_isFriendFor ⟨Nat.le_of_ble_eq_true rfl, Nat.le_of_ble_eq_true rfl⟩) hw (rvOw hw) rfl hl.1 rfl (Nat.le_of_ble_eq_true rfl) dX4_set_109 ⟨Nat.zero_le _, Nat.zero_le _⟩ rfl (fun H locs hw => ?_)
      refine lv_if_eq (tgt := 130) hx hb dX4_set_112 (by decide) (fun c112 => ?_) (fun c112 => ?_)
      · replace h := o_t c112 h
        refine lv_aload_n hx hb dX4_set_130 rfl (lv_at hl 0 rfl) ?_
        refine lv_ldc (v := -1000000001) hx hb hown (hts (.constant RX4 50 (-1000000001)) (by decide +kernel)) dX4_set_131 ?_
        obtain ⟨q133, eq133, h⟩ := o_bd h
        refine kV (As := [.int (-1000000001 : Int32)]) (rest := []) (st' := [.int q133.1]) ⟨hx, hb, hml, hown, hts⟩ (kX4_found l G eq133) (cwV 1 hts gX4_set_X4_found rfl rfl rfl qqX4_found ⟨Nat.le_of_ble_eq_true rfl, Nat.le_of_ble_eq_true rfl⟩) hw (rvOw hw) rfl hl.1 rfl (Nat.le_of_ble_eq_true rfl) dX4_set_133 ⟨Nat.zero_le _, Nat.zero_le _⟩ rfl (fun H locs hw => ?_)
        exact rI hQ hx hb hr hlk hw dX4_set_136 (o_2a h) (o_2b h) rfl
      · replace h := o_f c112 h
        refine lv_aload_n hx hb dX4_set_115 rfl (lv_at hl 0 rfl) ?_
        refine gOw (v := .ref (sA G 1 0)) hx hb hts hiX4 hown hw 0 (by decide) (hts (.fieldLink RX4 10 "SecondHome" "track" "LSecondHome$Track;") (by decide +kernel)) rfl dX4_set_116 ?_
        refine gTk (v := .ref (sA G 1 4)) hx hb hts hiX3 hown hw (Or.inl rfl) rfl 9 (by decide) (hts (.fieldLink RX4 85 "SecondHome$Track" "friends" "[I") (by decide +kernel)) rfl dX4_set_119 ?_
        refine lv_iload_n hx hb dX4_set_122 rfl (lv_at hl 1 rfl) ?_
        refine lv_iload_n hx hb dX4_set_123 rfl (lv_at hl 3 rfl) ?_
        obtain ⟨q124, eq124, h⟩ := o_bd h
        refine kS (As := [.ref (sA G 1 4), .int a1, .int a3]) (rest := []) (st' := [.int q124.1]) ⟨hx, hb, hml, hown, hts⟩ (kX4_exchange l G (Or.inl rfl) (by decide) rfl eq124) (va_cwS 3 hts gX4_set_X4_exchange rfl rfl rfl qqX4_exchange ⟨Nat.le_of_ble_eq_true rfl, Nat.le_of_ble_eq_true rfl⟩) hw rfl hl.1 rfl (Nat.le_of_ble_eq_true rfl) dX4_set_124 ⟨Nat.zero_le _, Nat.zero_le _⟩ rfl (fun H locs hw => ?_)
        obtain ⟨S124, eS124, h⟩ := o_nm h
        rw [← eS124] at hw
        refine lv_goto (tgt := 136) hx hb dX4_set_127 (by decide) ?_
        exact rI hQ hx hb hr hlk hw dX4_set_136 (o_2a h) (o_2b h) rfl
    replace h := o_f c19_3 h
    by_cases c19_4 : a2 = (4 : Int32)
    · replace h := o_t c19_4 h
      refine lv_tableIn (tgt := 137) hx hb dX4_set_19 (by rw [c19_4]; decide) (by rw [c19_4]; decide) (by rw [c19_4]; rfl) (by decide) ?_
      refine lv_aload_n hx hb dX4_set_137 rfl (lv_at hl 0 rfl) ?_
      refine gOw (v := .ref (sA G 1 0)) hx hb hts hiX4 hown hw 0 (by decide) (hts (.fieldLink RX4 10 "SecondHome" "track" "LSecondHome$Track;") (by decide +kernel)) rfl dX4_set_138 ?_
      refine lv_iload_n hx hb dX4_set_141 rfl (lv_at hl 3 rfl) ?_
      obtain ⟨q142, eq142, h⟩ := o_bd h
      refine kV (As := [.int a3]) (rest := []) (st' := [.int q142]) ⟨hx, hb, hml, hown, hts⟩ (kX3_isStart l G (Or.inl rfl) rfl eq142) (cwV 1 hts gX4_set_X3_isStart rfl rfl rfl qqX3_isStart ⟨Nat.le_of_ble_eq_true rfl, Nat.le_of_ble_eq_true rfl⟩) hw (rvTk hw (Or.inl rfl)) rfl hl.1 rfl (Nat.le_of_ble_eq_true rfl) dX4_set_142 ⟨Nat.zero_le _, Nat.zero_le _⟩ rfl (fun H locs hw => ?_)
      refine lv_if_eq (tgt := 163) hx hb dX4_set_145 (by decide) (fun c145 => ?_) (fun c145 => ?_)
      · replace h := o_t c145 h
        refine lv_aload_n hx hb dX4_set_163 rfl (lv_at hl 0 rfl) ?_
        refine lv_ldc (v := -1000000001) hx hb hown (hts (.constant RX4 50 (-1000000001)) (by decide +kernel)) dX4_set_164 ?_
        obtain ⟨q166, eq166, h⟩ := o_bd h
        refine kV (As := [.int (-1000000001 : Int32)]) (rest := []) (st' := [.int q166.1]) ⟨hx, hb, hml, hown, hts⟩ (kX4_found l G eq166) (cwV 1 hts gX4_set_X4_found rfl rfl rfl qqX4_found ⟨Nat.le_of_ble_eq_true rfl, Nat.le_of_ble_eq_true rfl⟩) hw (rvOw hw) rfl hl.1 rfl (Nat.le_of_ble_eq_true rfl) dX4_set_166 ⟨Nat.zero_le _, Nat.zero_le _⟩ rfl (fun H locs hw => ?_)
        exact rI hQ hx hb hr hlk hw dX4_set_169 (o_2a h) (o_2b h) rfl
      · replace h := o_f c145 h
        refine lv_aload_n hx hb dX4_set_148 rfl (lv_at hl 0 rfl) ?_
        refine gOw (v := .ref (sA G 1 0)) hx hb hts hiX4 hown hw 0 (by decide) (hts (.fieldLink RX4 10 "SecondHome" "track" "LSecondHome$Track;") (by decide +kernel)) rfl dX4_set_149 ?_
        refine gTk (v := .ref (sA G 1 5)) hx hb hts hiX3 hown hw (Or.inl rfl) rfl 10 (by decide) (hts (.fieldLink RX4 88 "SecondHome$Track" "starts" "[I") (by decide +kernel)) rfl dX4_set_152 ?_
        refine lv_iload_n hx hb dX4_set_155 rfl (lv_at hl 1 rfl) ?_
        refine lv_iload_n hx hb dX4_set_156 rfl (lv_at hl 3 rfl) ?_
        obtain ⟨q157, eq157, h⟩ := o_bd h
        refine kS (As := [.ref (sA G 1 5), .int a1, .int a3]) (rest := []) (st' := [.int q157.1]) ⟨hx, hb, hml, hown, hts⟩ (kX4_exchange l G (Or.inl rfl) (by decide) rfl eq157) (va_cwS 3 hts gX4_set_X4_exchange rfl rfl rfl qqX4_exchange ⟨Nat.le_of_ble_eq_true rfl, Nat.le_of_ble_eq_true rfl⟩) hw rfl hl.1 rfl (Nat.le_of_ble_eq_true rfl) dX4_set_157 ⟨Nat.zero_le _, Nat.zero_le _⟩ rfl (fun H locs hw => ?_)
        obtain ⟨S157, eS157, h⟩ := o_nm h
        rw [← eS157] at hw
        refine lv_goto (tgt := 169) hx hb dX4_set_160 (by decide) ?_
        exact rI hQ hx hb hr hlk hw dX4_set_169 (o_2a h) (o_2b h) rfl
    replace h := o_f c19_4 h
    have sw19 : a2.toInt < 1 ∨ 4 < a2.toInt := by
      have z1 := sw_ne c19_1
      have z2 := sw_ne c19_2
      have z3 := sw_ne c19_3
      have z4 := sw_ne c19_4
      rw [show ((1 : Int32)).toInt = 1 from rfl] at z1
      rw [show ((2 : Int32)).toInt = 2 from rfl] at z2
      rw [show ((3 : Int32)).toInt = 3 from rfl] at z3
      rw [show ((4 : Int32)).toInt = 4 from rfl] at z4
      omega
    refine lv_tableOut (tgt := 170) hx hb dX4_set_19 sw19 (by decide) ?_
    refine lv_aload_n hx hb dX4_set_170 rfl (lv_at hl 0 rfl) ?_
    refine lv_ldc (v := -1000000001) hx hb hown (hts (.constant RX4 50 (-1000000001)) (by decide +kernel)) dX4_set_171 ?_
    obtain ⟨q173, eq173, h⟩ := o_bd h
    refine kV (As := [.int (-1000000001 : Int32)]) (rest := []) (st' := [.int q173.1]) ⟨hx, hb, hml, hown, hts⟩ (kX4_found l G eq173) (cwV 1 hts gX4_set_X4_found rfl rfl rfl qqX4_found ⟨Nat.le_of_ble_eq_true rfl, Nat.le_of_ble_eq_true rfl⟩) hw (rvOw hw) rfl hl.1 rfl (Nat.le_of_ble_eq_true rfl) dX4_set_173 ⟨Nat.zero_le _, Nat.zero_le _⟩ rfl (fun H locs hw => ?_)
    exact rI hQ hx hb hr hlk hw dX4_set_176 (o_2a h) (o_2b h) rfl
  · replace h := o_t c8 h
    refine lv_aload_n hx hb dX4_set_11 rfl (lv_at hl 0 rfl) ?_
    refine lv_ldc (v := -1000000001) hx hb hown (hts (.constant RX4 50 (-1000000001)) (by decide +kernel)) dX4_set_12 ?_
    obtain ⟨q14, eq14, h⟩ := o_bd h
    refine kV (As := [.int (-1000000001 : Int32)]) (rest := []) (st' := [.int q14.1]) ⟨hx, hb, hml, hown, hts⟩ (kX4_found l G eq14) (cwV 1 hts gX4_set_X4_found rfl rfl rfl qqX4_found ⟨Nat.le_of_ble_eq_true rfl, Nat.le_of_ble_eq_true rfl⟩) hw (rvOw hw) rfl hl.1 rfl (Nat.le_of_ble_eq_true rfl) dX4_set_14 ⟨Nat.zero_le _, Nat.zero_le _⟩ rfl (fun H locs hw => ?_)
    exact rI hQ hx hb hr hlk hw dX4_set_17 (o_2a h) (o_2b h) rfl
-- X4_turn
def fX4_turn (S : sWo) (a1 : Int32) (a2 : Int32) : Option (Int32 × sWo) :=
  (fX3_has (S 1) a1).bind fun q5 => if q5 = 0 then ((fX4_found S (-1000000001 : Int32)).bind fun q21 => some (q21.1, q21.2)) else ((fX4_isKind a2).bind fun q12 => if q12 = 0 then ((fX4_found S (-1000000001 : Int32)).bind fun q21 => some (q21.1, q21.2)) else ((fX4_exchange (S 1) 0 a1 a2).bind fun q34 => nm (sUp S 1 q34.2) fun S34 => some (q34.1, S34)))
def rmX4_turn : Room := { frames := 1, cells := 0, slots := 0, locals := 23 }
theorem qqX4_turn : yX4_turn.cls = RX4 ∧ yX4_turn.cls ≠ "java/lang/invoke/MethodHandle" ∧ yX4_turn.cls ≠ "java/lang/invoke/VarHandle" ∧ (parseMethodDescriptor yX4_turn.desc).map (fun d => d.parameters.length) = some 2 := by decide +kernel
set_option maxRecDepth 100000 in
set_option maxHeartbeats 4000000 in
theorem kX4_turn (l : Launch) (G : sGl) {S : sWo} {M : sOb} {a1 : Int32} {a2 : Int32} {q : (Int32 × sWo)}  (h : fX4_turn S a1 a2 = some q) : sCt l G yX4_turn wsX4_turn rmX4_turn [.ref (sA G 0 0), .int a1, .int a2] S M (some (.int q.1)) q.2 M := by
  refine cMk (cc := cX4_turn) (maxL := 3) (ret := (some .int)) (by decide) rfl (Nat.le_of_ble_eq_true rfl) ?_
  intro p e s m args below meth c Q hQ hx hb hr hlk hml hown hts hw ls hl
  have hown : s.vm.findClass RX4 = some m.cls := hown
  have hl : lv_has ls 3 [(0, .ref (sA G 0 0)), (1, .int a1), (2, .int a2)] := hl
  have hiX3 : ∀ w ∈ u_ws RX3 TX3 15, w ∈ wsX4_turn := by decide +kernel
  have hiX4 : ∀ w ∈ u_ws RX4 TX4 7, w ∈ wsX4_turn := by decide +kernel
  unfold fX4_turn at h
  refine lv_aload_n hx hb dX4_turn_0 rfl (lv_at hl 0 rfl) ?_
  refine gOw (v := .ref (sA G 1 0)) hx hb hts hiX4 hown hw 0 (by decide) (hts (.fieldLink RX4 10 "SecondHome" "track" "LSecondHome$Track;") (by decide +kernel)) rfl dX4_turn_1 ?_
  refine lv_iload_n hx hb dX4_turn_4 rfl (lv_at hl 1 rfl) ?_
  obtain ⟨q5, eq5, h⟩ := o_bd h
  refine kV (As := [.int a1]) (rest := []) (st' := [.int q5]) ⟨hx, hb, hml, hown, hts⟩ (kX3_has l G (Or.inl rfl) rfl eq5) (cwV 1 hts gX4_turn_X3_has rfl rfl rfl qqX3_has ⟨Nat.le_of_ble_eq_true rfl, Nat.le_of_ble_eq_true rfl⟩) hw (rvTk hw (Or.inl rfl)) rfl hl.1 rfl (Nat.le_of_ble_eq_true rfl) dX4_turn_5 ⟨Nat.zero_le _, Nat.zero_le _⟩ rfl (fun H locs hw => ?_)
  refine lv_if_eq (tgt := 18) hx hb dX4_turn_8 (by decide) (fun c8 => ?_) (fun c8 => ?_)
  · replace h := o_t c8 h
    refine lv_aload_n hx hb dX4_turn_18 rfl (lv_at hl 0 rfl) ?_
    refine lv_ldc (v := -1000000001) hx hb hown (hts (.constant RX4 50 (-1000000001)) (by decide +kernel)) dX4_turn_19 ?_
    obtain ⟨q21, eq21, h⟩ := o_bd h
    refine kV (As := [.int (-1000000001 : Int32)]) (rest := []) (st' := [.int q21.1]) ⟨hx, hb, hml, hown, hts⟩ (kX4_found l G eq21) (cwV 1 hts gX4_turn_X4_found rfl rfl rfl qqX4_found ⟨Nat.le_of_ble_eq_true rfl, Nat.le_of_ble_eq_true rfl⟩) hw (rvOw hw) rfl hl.1 rfl (Nat.le_of_ble_eq_true rfl) dX4_turn_21 ⟨Nat.zero_le _, Nat.zero_le _⟩ rfl (fun H locs hw => ?_)
    exact rI hQ hx hb hr hlk hw dX4_turn_24 (o_2a h) (o_2b h) rfl
  · replace h := o_f c8 h
    refine lv_iload_n hx hb dX4_turn_11 rfl (lv_at hl 2 rfl) ?_
    obtain ⟨q12, eq12, h⟩ := o_bd h
    refine kS (As := [.int a2]) (rest := []) (st' := [.int q12]) ⟨hx, hb, hml, hown, hts⟩ (kX4_isKind l G eq12) (va_cwS 1 hts gX4_turn_X4_isKind rfl rfl rfl qqX4_isKind ⟨Nat.le_of_ble_eq_true rfl, Nat.le_of_ble_eq_true rfl⟩) hw rfl hl.1 rfl (Nat.le_of_ble_eq_true rfl) dX4_turn_12 ⟨Nat.zero_le _, Nat.zero_le _⟩ rfl (fun H locs hw => ?_)
    refine lv_if_ne (tgt := 25) hx hb dX4_turn_15 (by decide) (fun c15 => ?_) (fun c15 => ?_)
    · replace h := o_f c15 h
      refine lv_aload_n hx hb dX4_turn_25 rfl (lv_at hl 0 rfl) ?_
      refine gOw (v := .ref (sA G 1 0)) hx hb hts hiX4 hown hw 0 (by decide) (hts (.fieldLink RX4 10 "SecondHome" "track" "LSecondHome$Track;") (by decide +kernel)) rfl dX4_turn_26 ?_
      refine gTk (v := .ref (sA G 1 1)) hx hb hts hiX3 hown hw (Or.inl rfl) rfl 6 (by decide) (hts (.fieldLink RX4 76 "SecondHome$Track" "kinds" "[I") (by decide +kernel)) rfl dX4_turn_29 ?_
      refine lv_iload_n hx hb dX4_turn_32 rfl (lv_at hl 1 rfl) ?_
      refine lv_iload_n hx hb dX4_turn_33 rfl (lv_at hl 2 rfl) ?_
      obtain ⟨q34, eq34, h⟩ := o_bd h
      refine kS (As := [.ref (sA G 1 1), .int a1, .int a2]) (rest := []) (st' := [.int q34.1]) ⟨hx, hb, hml, hown, hts⟩ (kX4_exchange l G (Or.inl rfl) (by decide) rfl eq34) (va_cwS 3 hts gX4_turn_X4_exchange rfl rfl rfl qqX4_exchange ⟨Nat.le_of_ble_eq_true rfl, Nat.le_of_ble_eq_true rfl⟩) hw rfl hl.1 rfl (Nat.le_of_ble_eq_true rfl) dX4_turn_34 ⟨Nat.zero_le _, Nat.zero_le _⟩ rfl (fun H locs hw => ?_)
      obtain ⟨S34, eS34, h⟩ := o_nm h
      rw [← eS34] at hw
      exact rI hQ hx hb hr hlk hw dX4_turn_37 (o_2a h) (o_2b h) rfl
    · replace h := o_t c15 h
      refine lv_aload_n hx hb dX4_turn_18 rfl (lv_at hl 0 rfl) ?_
      refine lv_ldc (v := -1000000001) hx hb hown (hts (.constant RX4 50 (-1000000001)) (by decide +kernel)) dX4_turn_19 ?_
      obtain ⟨q21, eq21, h⟩ := o_bd h
      refine kV (As := [.int (-1000000001 : Int32)]) (rest := []) (st' := [.int q21.1]) ⟨hx, hb, hml, hown, hts⟩ (kX4_found l G eq21) (cwV 1 hts gX4_turn_X4_found rfl rfl rfl qqX4_found ⟨Nat.le_of_ble_eq_true rfl, Nat.le_of_ble_eq_true rfl⟩) hw (rvOw hw) rfl hl.1 rfl (Nat.le_of_ble_eq_true rfl) dX4_turn_21 ⟨Nat.zero_le _, Nat.zero_le _⟩ rfl (fun H locs hw => ?_)
      exact rI hQ hx hb hr hlk hw dX4_turn_24 (o_2a h) (o_2b h) rfl
-- X4_as
def fX4_as (S : sWo) (a1 : Int32) (a2 : Int32) : Option (Int32 × sWo) :=
  (fX3_has (S 1) a1).bind fun q5 => if q5 = 0 then ((fX4_found S (-1000000001 : Int32)).bind fun q21 => some (q21.1, q21.2)) else ((fX4_isKind a2).bind fun q12 => if q12 = 0 then ((fX4_found S (-1000000001 : Int32)).bind fun q21 => some (q21.1, q21.2)) else (if a1 < 0 ∨ 9 ≤ a1.toNatClampNeg then none else (fX0_isUnder ((S 1).2.1 0 a1.toNatClampNeg) a2).bind fun q35 => if q35 = 0 then ((fX4_found S (-1000000003 : Int32)).bind fun q44 => some (q44.1, q44.2)) else (some (((S 1).2.1 1 a1.toNatClampNeg), S))))
def rmX4_as : Room := { frames := 1, cells := 0, slots := 0, locals := 23 }
theorem qqX4_as : yX4_as.cls = RX4 ∧ yX4_as.cls ≠ "java/lang/invoke/MethodHandle" ∧ yX4_as.cls ≠ "java/lang/invoke/VarHandle" ∧ (parseMethodDescriptor yX4_as.desc).map (fun d => d.parameters.length) = some 2 := by decide +kernel
set_option maxRecDepth 100000 in
set_option maxHeartbeats 4000000 in
theorem kX4_as (l : Launch) (G : sGl) {S : sWo} {M : sOb} {a1 : Int32} {a2 : Int32} {q : (Int32 × sWo)}  (h : fX4_as S a1 a2 = some q) : sCt l G yX4_as wsX4_as rmX4_as [.ref (sA G 0 0), .int a1, .int a2] S M (some (.int q.1)) q.2 M := by
  refine cMk (cc := cX4_as) (maxL := 3) (ret := (some .int)) (by decide) rfl (Nat.le_of_ble_eq_true rfl) ?_
  intro p e s m args below meth c Q hQ hx hb hr hlk hml hown hts hw ls hl
  have hown : s.vm.findClass RX4 = some m.cls := hown
  have hl : lv_has ls 3 [(0, .ref (sA G 0 0)), (1, .int a1), (2, .int a2)] := hl
  have hiX3 : ∀ w ∈ u_ws RX3 TX3 15, w ∈ wsX4_as := by decide +kernel
  have hiX4 : ∀ w ∈ u_ws RX4 TX4 7, w ∈ wsX4_as := by decide +kernel
  unfold fX4_as at h
  refine lv_aload_n hx hb dX4_as_0 rfl (lv_at hl 0 rfl) ?_
  refine gOw (v := .ref (sA G 1 0)) hx hb hts hiX4 hown hw 0 (by decide) (hts (.fieldLink RX4 10 "SecondHome" "track" "LSecondHome$Track;") (by decide +kernel)) rfl dX4_as_1 ?_
  refine lv_iload_n hx hb dX4_as_4 rfl (lv_at hl 1 rfl) ?_
  obtain ⟨q5, eq5, h⟩ := o_bd h
  refine kV (As := [.int a1]) (rest := []) (st' := [.int q5]) ⟨hx, hb, hml, hown, hts⟩ (kX3_has l G (Or.inl rfl) rfl eq5) (cwV 1 hts gX4_as_X3_has rfl rfl rfl qqX3_has ⟨Nat.le_of_ble_eq_true rfl, Nat.le_of_ble_eq_true rfl⟩) hw (rvTk hw (Or.inl rfl)) rfl hl.1 rfl (Nat.le_of_ble_eq_true rfl) dX4_as_5 ⟨Nat.zero_le _, Nat.zero_le _⟩ rfl (fun H locs hw => ?_)
  refine lv_if_eq (tgt := 18) hx hb dX4_as_8 (by decide) (fun c8 => ?_) (fun c8 => ?_)
  · replace h := o_t c8 h
    refine lv_aload_n hx hb dX4_as_18 rfl (lv_at hl 0 rfl) ?_
    refine lv_ldc (v := -1000000001) hx hb hown (hts (.constant RX4 50 (-1000000001)) (by decide +kernel)) dX4_as_19 ?_
    obtain ⟨q21, eq21, h⟩ := o_bd h
    refine kV (As := [.int (-1000000001 : Int32)]) (rest := []) (st' := [.int q21.1]) ⟨hx, hb, hml, hown, hts⟩ (kX4_found l G eq21) (cwV 1 hts gX4_as_X4_found rfl rfl rfl qqX4_found ⟨Nat.le_of_ble_eq_true rfl, Nat.le_of_ble_eq_true rfl⟩) hw (rvOw hw) rfl hl.1 rfl (Nat.le_of_ble_eq_true rfl) dX4_as_21 ⟨Nat.zero_le _, Nat.zero_le _⟩ rfl (fun H locs hw => ?_)
    exact rI hQ hx hb hr hlk hw dX4_as_24 (o_2a h) (o_2b h) rfl
  · replace h := o_f c8 h
    refine lv_iload_n hx hb dX4_as_11 rfl (lv_at hl 2 rfl) ?_
    obtain ⟨q12, eq12, h⟩ := o_bd h
    refine kS (As := [.int a2]) (rest := []) (st' := [.int q12]) ⟨hx, hb, hml, hown, hts⟩ (kX4_isKind l G eq12) (va_cwS 1 hts gX4_as_X4_isKind rfl rfl rfl qqX4_isKind ⟨Nat.le_of_ble_eq_true rfl, Nat.le_of_ble_eq_true rfl⟩) hw rfl hl.1 rfl (Nat.le_of_ble_eq_true rfl) dX4_as_12 ⟨Nat.zero_le _, Nat.zero_le _⟩ rfl (fun H locs hw => ?_)
    refine lv_if_ne (tgt := 25) hx hb dX4_as_15 (by decide) (fun c15 => ?_) (fun c15 => ?_)
    · replace h := o_f c15 h
      refine lv_aload_n hx hb dX4_as_25 rfl (lv_at hl 0 rfl) ?_
      refine gOw (v := .ref (sA G 1 0)) hx hb hts hiX4 hown hw 0 (by decide) (hts (.fieldLink RX4 10 "SecondHome" "track" "LSecondHome$Track;") (by decide +kernel)) rfl dX4_as_26 ?_
      refine gTk (v := .ref (sA G 1 1)) hx hb hts hiX3 hown hw (Or.inl rfl) rfl 6 (by decide) (hts (.fieldLink RX4 76 "SecondHome$Track" "kinds" "[I") (by decide +kernel)) rfl dX4_as_29 ?_
      refine lv_iload_n hx hb dX4_as_32 rfl (lv_at hl 1 rfl) ?_
      obtain ⟨b33, h⟩ := o_in h
      refine ldTk hx hb hw (Or.inl rfl) rfl 0 (by decide) b33 dX4_as_33 ?_
      refine lv_iload_n hx hb dX4_as_34 rfl (lv_at hl 2 rfl) ?_
      obtain ⟨q35, eq35, h⟩ := o_bd h
      refine kS (As := [.int ((S 1).2.1 0 a1.toNatClampNeg), .int a2]) (rest := []) (st' := [.int q35]) ⟨hx, hb, hml, hown, hts⟩ (kX0_isUnder l G eq35) (va_cwS 2 hts gX4_as_X0_isUnder rfl rfl rfl qqX0_isUnder ⟨Nat.le_of_ble_eq_true rfl, Nat.le_of_ble_eq_true rfl⟩) hw rfl hl.1 rfl (Nat.le_of_ble_eq_true rfl) dX4_as_35 ⟨Nat.zero_le _, Nat.zero_le _⟩ rfl (fun H locs hw => ?_)
      refine lv_if_ne (tgt := 48) hx hb dX4_as_38 (by decide) (fun c38 => ?_) (fun c38 => ?_)
      · replace h := o_f c38 h
        refine lv_aload_n hx hb dX4_as_48 rfl (lv_at hl 0 rfl) ?_
        refine gOw (v := .ref (sA G 1 0)) hx hb hts hiX4 hown hw 0 (by decide) (hts (.fieldLink RX4 10 "SecondHome" "track" "LSecondHome$Track;") (by decide +kernel)) rfl dX4_as_49 ?_
        refine gTk (v := .ref (sA G 1 2)) hx hb hts hiX3 hown hw (Or.inl rfl) rfl 7 (by decide) (hts (.fieldLink RX4 79 "SecondHome$Track" "paces" "[I") (by decide +kernel)) rfl dX4_as_52 ?_
        refine lv_iload_n hx hb dX4_as_55 rfl (lv_at hl 1 rfl) ?_
        refine ldTk hx hb hw (Or.inl rfl) rfl 1 (by decide) b33 dX4_as_56 ?_
        exact rI hQ hx hb hr hlk hw dX4_as_57 (o_2a h) (o_2b h) rfl
      · replace h := o_t c38 h
        refine lv_aload_n hx hb dX4_as_41 rfl (lv_at hl 0 rfl) ?_
        refine lv_ldc (v := -1000000003) hx hb hown (hts (.constant RX4 119 (-1000000003)) (by decide +kernel)) dX4_as_42 ?_
        obtain ⟨q44, eq44, h⟩ := o_bd h
        refine kV (As := [.int (-1000000003 : Int32)]) (rest := []) (st' := [.int q44.1]) ⟨hx, hb, hml, hown, hts⟩ (kX4_found l G eq44) (cwV 1 hts gX4_as_X4_found rfl rfl rfl qqX4_found ⟨Nat.le_of_ble_eq_true rfl, Nat.le_of_ble_eq_true rfl⟩) hw (rvOw hw) rfl hl.1 rfl (Nat.le_of_ble_eq_true rfl) dX4_as_44 ⟨Nat.zero_le _, Nat.zero_le _⟩ rfl (fun H locs hw => ?_)
        exact rI hQ hx hb hr hlk hw dX4_as_47 (o_2a h) (o_2b h) rfl
    · replace h := o_t c15 h
      refine lv_aload_n hx hb dX4_as_18 rfl (lv_at hl 0 rfl) ?_
      refine lv_ldc (v := -1000000001) hx hb hown (hts (.constant RX4 50 (-1000000001)) (by decide +kernel)) dX4_as_19 ?_
      obtain ⟨q21, eq21, h⟩ := o_bd h
      refine kV (As := [.int (-1000000001 : Int32)]) (rest := []) (st' := [.int q21.1]) ⟨hx, hb, hml, hown, hts⟩ (kX4_found l G eq21) (cwV 1 hts gX4_as_X4_found rfl rfl rfl qqX4_found ⟨Nat.le_of_ble_eq_true rfl, Nat.le_of_ble_eq_true rfl⟩) hw (rvOw hw) rfl hl.1 rfl (Nat.le_of_ble_eq_true rfl) dX4_as_21 ⟨Nat.zero_le _, Nat.zero_le _⟩ rfl (fun H locs hw => ?_)
      exact rI hQ hx hb hr hlk hw dX4_as_24 (o_2a h) (o_2b h) rfl
-- X4_wish
def fX4_wish (S : sWo) (a1 : Int32) : Option (Int32 × sWo) :=
  (fX3_has (S 1) a1).bind fun q5 => if q5 = 0 then ((fX4_found S (-1000000001 : Int32)).bind fun q14 => some (q14.1, q14.2)) else ((fX3_isHome (S 1) a1).bind fun q23 => if q23 = 0 then ((fX3_firstAlone (S 1)).bind fun q45 => (fX3_wishOf (S 1) a1 q45).bind fun q48 => some (q48, S)) else ((fX4_found S (-1000000005 : Int32)).bind fun q32 => some (q32.1, q32.2)))
def rmX4_wish : Room := { frames := 3, cells := 0, slots := 0, locals := 68 }
theorem qqX4_wish : yX4_wish.cls = RX4 ∧ yX4_wish.cls ≠ "java/lang/invoke/MethodHandle" ∧ yX4_wish.cls ≠ "java/lang/invoke/VarHandle" ∧ (parseMethodDescriptor yX4_wish.desc).map (fun d => d.parameters.length) = some 1 := by decide +kernel
set_option maxRecDepth 100000 in
set_option maxHeartbeats 4000000 in
theorem kX4_wish (l : Launch) (G : sGl) {S : sWo} {M : sOb} {a1 : Int32} {q : (Int32 × sWo)}  (h : fX4_wish S a1 = some q) : sCt l G yX4_wish wsX4_wish rmX4_wish [.ref (sA G 0 0), .int a1] S M (some (.int q.1)) q.2 M := by
  refine cMk (cc := cX4_wish) (maxL := 2) (ret := (some .int)) (by decide) rfl (Nat.le_of_ble_eq_true rfl) ?_
  intro p e s m args below meth c Q hQ hx hb hr hlk hml hown hts hw ls hl
  have hown : s.vm.findClass RX4 = some m.cls := hown
  have hl : lv_has ls 2 [(0, .ref (sA G 0 0)), (1, .int a1)] := hl
  have hiX4 : ∀ w ∈ u_ws RX4 TX4 7, w ∈ wsX4_wish := by decide +kernel
  unfold fX4_wish at h
  refine lv_aload_n hx hb dX4_wish_0 rfl (lv_at hl 0 rfl) ?_
  refine gOw (v := .ref (sA G 1 0)) hx hb hts hiX4 hown hw 0 (by decide) (hts (.fieldLink RX4 10 "SecondHome" "track" "LSecondHome$Track;") (by decide +kernel)) rfl dX4_wish_1 ?_
  refine lv_iload_n hx hb dX4_wish_4 rfl (lv_at hl 1 rfl) ?_
  obtain ⟨q5, eq5, h⟩ := o_bd h
  refine kV (As := [.int a1]) (rest := []) (st' := [.int q5]) ⟨hx, hb, hml, hown, hts⟩ (kX3_has l G (Or.inl rfl) rfl eq5) (cwV 1 hts gX4_wish_X3_has rfl rfl rfl qqX3_has ⟨Nat.le_of_ble_eq_true rfl, Nat.le_of_ble_eq_true rfl⟩) hw (rvTk hw (Or.inl rfl)) rfl hl.1 rfl (Nat.le_of_ble_eq_true rfl) dX4_wish_5 ⟨Nat.zero_le _, Nat.zero_le _⟩ rfl (fun H locs hw => ?_)
  refine lv_if_ne (tgt := 18) hx hb dX4_wish_8 (by decide) (fun c8 => ?_) (fun c8 => ?_)
  · replace h := o_f c8 h
    refine lv_aload_n hx hb dX4_wish_18 rfl (lv_at hl 0 rfl) ?_
    refine gOw (v := .ref (sA G 1 0)) hx hb hts hiX4 hown hw 0 (by decide) (hts (.fieldLink RX4 10 "SecondHome" "track" "LSecondHome$Track;") (by decide +kernel)) rfl dX4_wish_19 ?_
    refine lv_iload_n hx hb dX4_wish_22 rfl (lv_at hl 1 rfl) ?_
    obtain ⟨q23, eq23, h⟩ := o_bd h
    refine kV (As := [.int a1]) (rest := []) (st' := [.int q23]) ⟨hx, hb, hml, hown, hts⟩ (kX3_isHome l G (Or.inl rfl) rfl eq23) (cwV 1 hts gX4_wish_X3_isHome rfl rfl rfl qqX3_isHome ⟨Nat.le_of_ble_eq_true rfl, Nat.le_of_ble_eq_true rfl⟩) hw (rvTk hw (Or.inl rfl)) rfl hl.1 rfl (Nat.le_of_ble_eq_true rfl) dX4_wish_23 ⟨Nat.zero_le _, Nat.zero_le _⟩ rfl (fun H locs hw => ?_)
    refine lv_if_eq (tgt := 36) hx hb dX4_wish_26 (by decide) (fun c26 => ?_) (fun c26 => ?_)
    · replace h := o_t c26 h
      refine lv_aload_n hx hb dX4_wish_36 rfl (lv_at hl 0 rfl) ?_
      refine gOw (v := .ref (sA G 1 0)) hx hb hts hiX4 hown hw 0 (by decide) (hts (.fieldLink RX4 10 "SecondHome" "track" "LSecondHome$Track;") (by decide +kernel)) rfl dX4_wish_37 ?_
      refine lv_iload_n hx hb dX4_wish_40 rfl (lv_at hl 1 rfl) ?_
      refine lv_aload_n hx hb dX4_wish_41 rfl (lv_at hl 0 rfl) ?_
      refine gOw (v := .ref (sA G 1 0)) hx hb hts hiX4 hown hw 0 (by decide) (hts (.fieldLink RX4 10 "SecondHome" "track" "LSecondHome$Track;") (by decide +kernel)) rfl dX4_wish_42 ?_
      obtain ⟨q45, eq45, h⟩ := o_bd h
      refine kV (As := []) (rest := [.int a1, .ref (sA G 1 0)]) (st' := [.int q45, .int a1, .ref (sA G 1 0)]) ⟨hx, hb, hml, hown, hts⟩ (kX3_firstAlone l G (Or.inl rfl) rfl eq45) (cwV 0 hts gX4_wish_X3_firstAlone rfl rfl rfl qqX3_firstAlone ⟨Nat.le_of_ble_eq_true rfl, Nat.le_of_ble_eq_true rfl⟩) hw (rvTk hw (Or.inl rfl)) rfl hl.1 rfl (Nat.le_of_ble_eq_true rfl) dX4_wish_45 ⟨Nat.zero_le _, Nat.zero_le _⟩ rfl (fun H locs hw => ?_)
      obtain ⟨q48, eq48, h⟩ := o_bd h
      refine kV (As := [.int a1, .int q45]) (rest := []) (st' := [.int q48]) ⟨hx, hb, hml, hown, hts⟩ (kX3_wishOf l G (Or.inl rfl) rfl eq48) (cwV 2 hts gX4_wish_X3_wishOf rfl rfl rfl qqX3_wishOf ⟨Nat.le_of_ble_eq_true rfl, Nat.le_of_ble_eq_true rfl⟩) hw (rvTk hw (Or.inl rfl)) rfl hl.1 rfl (Nat.le_of_ble_eq_true rfl) dX4_wish_48 ⟨Nat.zero_le _, Nat.zero_le _⟩ rfl (fun H locs hw => ?_)
      exact rI hQ hx hb hr hlk hw dX4_wish_51 (o_2a h) (o_2b h) rfl
    · replace h := o_f c26 h
      refine lv_aload_n hx hb dX4_wish_29 rfl (lv_at hl 0 rfl) ?_
      refine lv_ldc (v := -1000000005) hx hb hown (hts (.constant RX4 123 (-1000000005)) (by decide +kernel)) dX4_wish_30 ?_
      obtain ⟨q32, eq32, h⟩ := o_bd h
      refine kV (As := [.int (-1000000005 : Int32)]) (rest := []) (st' := [.int q32.1]) ⟨hx, hb, hml, hown, hts⟩ (kX4_found l G eq32) (cwV 1 hts gX4_wish_X4_found rfl rfl rfl qqX4_found ⟨Nat.le_of_ble_eq_true rfl, Nat.le_of_ble_eq_true rfl⟩) hw (rvOw hw) rfl hl.1 rfl (Nat.le_of_ble_eq_true rfl) dX4_wish_32 ⟨Nat.zero_le _, Nat.zero_le _⟩ rfl (fun H locs hw => ?_)
      exact rI hQ hx hb hr hlk hw dX4_wish_35 (o_2a h) (o_2b h) rfl
  · replace h := o_t c8 h
    refine lv_aload_n hx hb dX4_wish_11 rfl (lv_at hl 0 rfl) ?_
    refine lv_ldc (v := -1000000001) hx hb hown (hts (.constant RX4 50 (-1000000001)) (by decide +kernel)) dX4_wish_12 ?_
    obtain ⟨q14, eq14, h⟩ := o_bd h
    refine kV (As := [.int (-1000000001 : Int32)]) (rest := []) (st' := [.int q14.1]) ⟨hx, hb, hml, hown, hts⟩ (kX4_found l G eq14) (cwV 1 hts gX4_wish_X4_found rfl rfl rfl qqX4_found ⟨Nat.le_of_ble_eq_true rfl, Nat.le_of_ble_eq_true rfl⟩) hw (rvOw hw) rfl hl.1 rfl (Nat.le_of_ble_eq_true rfl) dX4_wish_14 ⟨Nat.zero_le _, Nat.zero_le _⟩ rfl (fun H locs hw => ?_)
    exact rI hQ hx hb hr hlk hw dX4_wish_17 (o_2a h) (o_2b h) rfl
-- X4_line
def fX4_line (S : sWo) : Option (Int32 × sWo) :=
  nm ((S 1).1 5) fun v7 => (fX3_lineUp (S 1)).bind fun q12 => nm (sUp S 1 q12) fun S12 => some (v7, S12)
def rmX4_line : Room := { frames := 1, cells := 0, slots := 0, locals := 21 }
theorem qqX4_line : yX4_line.cls = RX4 ∧ yX4_line.cls ≠ "java/lang/invoke/MethodHandle" ∧ yX4_line.cls ≠ "java/lang/invoke/VarHandle" ∧ (parseMethodDescriptor yX4_line.desc).map (fun d => d.parameters.length) = some 0 := by decide +kernel
set_option maxRecDepth 100000 in
set_option maxHeartbeats 4000000 in
theorem kX4_line (l : Launch) (G : sGl) {S : sWo} {M : sOb}  {q : (Int32 × sWo)}  (h : fX4_line S = some q) : sCt l G yX4_line wsX4_line rmX4_line [.ref (sA G 0 0)] S M (some (.int q.1)) q.2 M := by
  refine cMk (cc := cX4_line) (maxL := 2) (ret := (some .int)) (by decide) rfl (Nat.le_of_ble_eq_true rfl) ?_
  intro p e s m args below meth c Q hQ hx hb hr hlk hml hown hts hw ls hl
  have hown : s.vm.findClass RX4 = some m.cls := hown
  have hl : lv_has ls 2 [(0, .ref (sA G 0 0))] := hl
  have hiX3 : ∀ w ∈ u_ws RX3 TX3 15, w ∈ wsX4_line := by decide +kernel
  have hiX4 : ∀ w ∈ u_ws RX4 TX4 7, w ∈ wsX4_line := by decide +kernel
  unfold fX4_line at h
  refine lv_aload_n hx hb dX4_line_0 rfl (lv_at hl 0 rfl) ?_
  refine gOw (v := .ref (sA G 1 0)) hx hb hts hiX4 hown hw 0 (by decide) (hts (.fieldLink RX4 10 "SecondHome" "track" "LSecondHome$Track;") (by decide +kernel)) rfl dX4_line_1 ?_
  refine gTk (v := .int ((S 1).1 5)) hx hb hts hiX3 hown hw (Or.inl rfl) rfl 5 (by decide) (hts (.fieldLink RX4 132 "SecondHome$Track" "homeCount" "I") (by decide +kernel)) rfl dX4_line_4 ?_
  refine lv_topi (fun v7 ev7 => ?_)
  replace h := o_nx ev7 h
  refine lv_istore_n (lv' := [(1, .int v7), (0, .ref (sA G 0 0))]) hx hb dX4_line_7 rfl hl (by decide) rfl (fun ls hl => ?_)
  refine lv_aload_n hx hb dX4_line_8 rfl (lv_at hl 1 rfl) ?_
  refine gOw (v := .ref (sA G 1 0)) hx hb hts hiX4 hown hw 0 (by decide) (hts (.fieldLink RX4 10 "SecondHome" "track" "LSecondHome$Track;") (by decide +kernel)) rfl dX4_line_9 ?_
  obtain ⟨q12, eq12, h⟩ := o_bd h
  refine kV (As := []) (rest := []) (st' := []) ⟨hx, hb, hml, hown, hts⟩ (kX3_lineUp l G (Or.inl rfl) rfl eq12) (cwV 0 hts gX4_line_X3_lineUp rfl rfl rfl qqX3_lineUp ⟨Nat.le_of_ble_eq_true rfl, Nat.le_of_ble_eq_true rfl⟩) hw (rvTk hw (Or.inl rfl)) rfl hl.1 rfl (Nat.le_of_ble_eq_true rfl) dX4_line_12 ⟨Nat.zero_le _, Nat.zero_le _⟩ rfl (fun H locs hw => ?_)
  obtain ⟨S12, eS12, h⟩ := o_nm h
  rw [← eS12] at hw
  refine lv_iload_n hx hb dX4_line_15 rfl (lv_at hl 0 rfl) ?_
  exact rI hQ hx hb hr hlk hw dX4_line_16 (o_2a h) (o_2b h) rfl
-- X4_seconds
def fX4_seconds (S : sWo) (a1 : Int32) : Option (Int32 × sWo) :=
  if a1 < (1 : Int32) then ((fX4_found S (-1000000001 : Int32)).bind fun q15 => some (q15.1, q15.2)) else (if a1 ≤ (600 : Int32) then (nm ((S 1).1 5) fun v26 => (fX3_goOn (S 1) a1).bind fun q32 => nm (sUp S 1 q32) fun S32 => some ((((S32 1).1 5) - v26), S32)) else ((fX4_found S (-1000000001 : Int32)).bind fun q15 => some (q15.1, q15.2)))
def rmX4_seconds : Room := { frames := 5, cells := 0, slots := 0, locals := 112 }
theorem qqX4_seconds : yX4_seconds.cls = RX4 ∧ yX4_seconds.cls ≠ "java/lang/invoke/MethodHandle" ∧ yX4_seconds.cls ≠ "java/lang/invoke/VarHandle" ∧ (parseMethodDescriptor yX4_seconds.desc).map (fun d => d.parameters.length) = some 1 := by decide +kernel
set_option maxRecDepth 100000 in
set_option maxHeartbeats 4000000 in
theorem kX4_seconds (l : Launch) (G : sGl) {S : sWo} {M : sOb} {a1 : Int32} {q : (Int32 × sWo)}  (h : fX4_seconds S a1 = some q) : sCt l G yX4_seconds wsX4_seconds rmX4_seconds [.ref (sA G 0 0), .int a1] S M (some (.int q.1)) q.2 M := by
  refine cMk (cc := cX4_seconds) (maxL := 3) (ret := (some .int)) (by decide) rfl (Nat.le_of_ble_eq_true rfl) ?_
  intro p e s m args below meth c Q hQ hx hb hr hlk hml hown hts hw ls hl
  have hown : s.vm.findClass RX4 = some m.cls := hown
  have hl : lv_has ls 3 [(0, .ref (sA G 0 0)), (1, .int a1)] := hl
  have hiX3 : ∀ w ∈ u_ws RX3 TX3 15, w ∈ wsX4_seconds := by decide +kernel
  have hiX4 : ∀ w ∈ u_ws RX4 TX4 7, w ∈ wsX4_seconds := by decide +kernel
  unfold fX4_seconds at h
  refine lv_iload_n hx hb dX4_seconds_0 rfl (lv_at hl 1 rfl) ?_
  refine lv_iconst (v := 1) hx hb dX4_seconds_1 (by decide) ?_
  refine lv_icmp_lt (tgt := 12) hx hb dX4_seconds_2 (by decide) (fun c2 => ?_) (fun c2 => ?_)
  · replace h := o_t c2 h
    refine lv_aload_n hx hb dX4_seconds_12 rfl (lv_at hl 0 rfl) ?_
    refine lv_ldc (v := -1000000001) hx hb hown (hts (.constant RX4 50 (-1000000001)) (by decide +kernel)) dX4_seconds_13 ?_
    obtain ⟨q15, eq15, h⟩ := o_bd h
    refine kV (As := [.int (-1000000001 : Int32)]) (rest := []) (st' := [.int q15.1]) ⟨hx, hb, hml, hown, hts⟩ (kX4_found l G eq15) (cwV 1 hts gX4_seconds_X4_found rfl rfl rfl qqX4_found ⟨Nat.le_of_ble_eq_true rfl, Nat.le_of_ble_eq_true rfl⟩) hw (rvOw hw) rfl hl.1 rfl (Nat.le_of_ble_eq_true rfl) dX4_seconds_15 ⟨Nat.zero_le _, Nat.zero_le _⟩ rfl (fun H locs hw => ?_)
    exact rI hQ hx hb hr hlk hw dX4_seconds_18 (o_2a h) (o_2b h) rfl
  · replace h := o_f c2 h
    refine lv_iload_n hx hb dX4_seconds_5 rfl (lv_at hl 1 rfl) ?_
    refine lv_sipush (v := 600) hx hb dX4_seconds_6 (by decide) ?_
    refine lv_icmp_le (tgt := 19) hx hb dX4_seconds_9 (by decide) (fun c9 => ?_) (fun c9 => ?_)
    · replace h := o_t c9 h
      refine lv_aload_n hx hb dX4_seconds_19 rfl (lv_at hl 0 rfl) ?_
      refine gOw (v := .ref (sA G 1 0)) hx hb hts hiX4 hown hw 0 (by decide) (hts (.fieldLink RX4 10 "SecondHome" "track" "LSecondHome$Track;") (by decide +kernel)) rfl dX4_seconds_20 ?_
      refine gTk (v := .int ((S 1).1 5)) hx hb hts hiX3 hown hw (Or.inl rfl) rfl 5 (by decide) (hts (.fieldLink RX4 132 "SecondHome$Track" "homeCount" "I") (by decide +kernel)) rfl dX4_seconds_23 ?_
      refine lv_topi (fun v26 ev26 => ?_)
      replace h := o_nx ev26 h
      refine lv_istore_n (lv' := [(2, .int v26), (0, .ref (sA G 0 0)), (1, .int a1)]) hx hb dX4_seconds_26 rfl hl (by decide) rfl (fun ls hl => ?_)
      refine lv_aload_n hx hb dX4_seconds_27 rfl (lv_at hl 1 rfl) ?_
      refine gOw (v := .ref (sA G 1 0)) hx hb hts hiX4 hown hw 0 (by decide) (hts (.fieldLink RX4 10 "SecondHome" "track" "LSecondHome$Track;") (by decide +kernel)) rfl dX4_seconds_28 ?_
      refine lv_iload_n hx hb dX4_seconds_31 rfl (lv_at hl 2 rfl) ?_
      obtain ⟨q32, eq32, h⟩ := o_bd h
      refine kV (As := [.int a1]) (rest := []) (st' := []) ⟨hx, hb, hml, hown, hts⟩ (kX3_goOn l G (Or.inl rfl) rfl eq32) (cwV 1 hts gX4_seconds_X3_goOn rfl rfl rfl qqX3_goOn ⟨Nat.le_of_ble_eq_true rfl, Nat.le_of_ble_eq_true rfl⟩) hw (rvTk hw (Or.inl rfl)) rfl hl.1 rfl (Nat.le_of_ble_eq_true rfl) dX4_seconds_32 ⟨Nat.zero_le _, Nat.zero_le _⟩ rfl (fun H locs hw => ?_)
      obtain ⟨S32, eS32, h⟩ := o_nm h
      rw [← eS32] at hw
      refine lv_aload_n hx hb dX4_seconds_35 rfl (lv_at hl 1 rfl) ?_
      refine gOw (v := .ref (sA G 1 0)) hx hb hts hiX4 hown hw 0 (by decide) (hts (.fieldLink RX4 10 "SecondHome" "track" "LSecondHome$Track;") (by decide +kernel)) rfl dX4_seconds_36 ?_
      refine gTk (v := .int ((S32 1).1 5)) hx hb hts hiX3 hown hw (Or.inl rfl) rfl 5 (by decide) (hts (.fieldLink RX4 132 "SecondHome$Track" "homeCount" "I") (by decide +kernel)) rfl dX4_seconds_39 ?_
      refine lv_iload_n hx hb dX4_seconds_42 rfl (lv_at hl 0 rfl) ?_
      refine lv_isub hx hb dX4_seconds_43 ?_
      exact rI hQ hx hb hr hlk hw dX4_seconds_44 (o_2a h) (o_2b h) rfl
    · replace h := o_f c9 h
      refine lv_aload_n hx hb dX4_seconds_12 rfl (lv_at hl 0 rfl) ?_
      refine lv_ldc (v := -1000000001) hx hb hown (hts (.constant RX4 50 (-1000000001)) (by decide +kernel)) dX4_seconds_13 ?_
      obtain ⟨q15, eq15, h⟩ := o_bd h
      refine kV (As := [.int (-1000000001 : Int32)]) (rest := []) (st' := [.int q15.1]) ⟨hx, hb, hml, hown, hts⟩ (kX4_found l G eq15) (cwV 1 hts gX4_seconds_X4_found rfl rfl rfl qqX4_found ⟨Nat.le_of_ble_eq_true rfl, Nat.le_of_ble_eq_true rfl⟩) hw (rvOw hw) rfl hl.1 rfl (Nat.le_of_ble_eq_true rfl) dX4_seconds_15 ⟨Nat.zero_le _, Nat.zero_le _⟩ rfl (fun H locs hw => ?_)
      exact rI hQ hx hb hr hlk hw dX4_seconds_18 (o_2a h) (o_2b h) rfl
-- X4_now
def fX4_now (S : sWo) (a1 : Int32) : Option (Int32 × sWo) :=
  if a1 = (0 : Int32) then (some (((S 1).1 3), S)) else if a1 = (1 : Int32) then (some (((S 1).1 0), S)) else if a1 = (2 : Int32) then (some (((S 1).1 1), S)) else if a1 = (3 : Int32) then (some (((S 1).1 2), S)) else if a1 = (4 : Int32) then (some (((S 1).1 5), S)) else ((fX4_found S (-1000000001 : Int32)).bind fun q79 => some (q79.1, q79.2))
def rmX4_now : Room := { frames := 1, cells := 0, slots := 0, locals := 22 }
theorem qqX4_now : yX4_now.cls = RX4 ∧ yX4_now.cls ≠ "java/lang/invoke/MethodHandle" ∧ yX4_now.cls ≠ "java/lang/invoke/VarHandle" ∧ (parseMethodDescriptor yX4_now.desc).map (fun d => d.parameters.length) = some 1 := by decide +kernel
set_option maxRecDepth 100000 in
set_option maxHeartbeats 4000000 in
theorem kX4_now (l : Launch) (G : sGl) {S : sWo} {M : sOb} {a1 : Int32} {q : (Int32 × sWo)}  (h : fX4_now S a1 = some q) : sCt l G yX4_now wsX4_now rmX4_now [.ref (sA G 0 0), .int a1] S M (some (.int q.1)) q.2 M := by
  refine cMk (cc := cX4_now) (maxL := 2) (ret := (some .int)) (by decide) rfl (Nat.le_of_ble_eq_true rfl) ?_
  intro p e s m args below meth c Q hQ hx hb hr hlk hml hown hts hw ls hl
  have hown : s.vm.findClass RX4 = some m.cls := hown
  have hl : lv_has ls 2 [(0, .ref (sA G 0 0)), (1, .int a1)] := hl
  have hiX3 : ∀ w ∈ u_ws RX3 TX3 15, w ∈ wsX4_now := by decide +kernel
  have hiX4 : ∀ w ∈ u_ws RX4 TX4 7, w ∈ wsX4_now := by decide +kernel
  unfold fX4_now at h
  refine lv_iload_n hx hb dX4_now_0 rfl (lv_at hl 1 rfl) ?_
  by_cases c1_0 : a1 = (0 : Int32)
  · replace h := o_t c1_0 h
    refine lv_tableIn (tgt := 36) hx hb dX4_now_1 (by rw [c1_0]; decide) (by rw [c1_0]; decide) (by rw [c1_0]; rfl) (by decide) ?_
    refine lv_aload_n hx hb dX4_now_36 rfl (lv_at hl 0 rfl) ?_
    refine gOw (v := .ref (sA G 1 0)) hx hb hts hiX4 hown hw 0 (by decide) (hts (.fieldLink RX4 10 "SecondHome" "track" "LSecondHome$Track;") (by decide +kernel)) rfl dX4_now_37 ?_
    refine gTk (v := .int ((S 1).1 3)) hx hb hts hiX3 hown hw (Or.inl rfl) rfl 3 (by decide) (hts (.fieldLink RX4 142 "SecondHome$Track" "second" "I") (by decide +kernel)) rfl dX4_now_40 ?_
    exact rI hQ hx hb hr hlk hw dX4_now_43 (o_2a h) (o_2b h) rfl
  replace h := o_f c1_0 h
  by_cases c1_1 : a1 = (1 : Int32)
  · replace h := o_t c1_1 h
    refine lv_tableIn (tgt := 44) hx hb dX4_now_1 (by rw [c1_1]; decide) (by rw [c1_1]; decide) (by rw [c1_1]; rfl) (by decide) ?_
    refine lv_aload_n hx hb dX4_now_44 rfl (lv_at hl 0 rfl) ?_
    refine gOw (v := .ref (sA G 1 0)) hx hb hts hiX4 hown hw 0 (by decide) (hts (.fieldLink RX4 10 "SecondHome" "track" "LSecondHome$Track;") (by decide +kernel)) rfl dX4_now_45 ?_
    refine gTk (v := .int ((S 1).1 0)) hx hb hts hiX3 hown hw (Or.inl rfl) rfl 0 (by decide) (hts (.fieldLink RX4 145 "SecondHome$Track" "length" "I") (by decide +kernel)) rfl dX4_now_48 ?_
    exact rI hQ hx hb hr hlk hw dX4_now_51 (o_2a h) (o_2b h) rfl
  replace h := o_f c1_1 h
  by_cases c1_2 : a1 = (2 : Int32)
  · replace h := o_t c1_2 h
    refine lv_tableIn (tgt := 52) hx hb dX4_now_1 (by rw [c1_2]; decide) (by rw [c1_2]; decide) (by rw [c1_2]; rfl) (by decide) ?_
    refine lv_aload_n hx hb dX4_now_52 rfl (lv_at hl 0 rfl) ?_
    refine gOw (v := .ref (sA G 1 0)) hx hb hts hiX4 hown hw 0 (by decide) (hts (.fieldLink RX4 10 "SecondHome" "track" "LSecondHome$Track;") (by decide +kernel)) rfl dX4_now_53 ?_
    refine gTk (v := .int ((S 1).1 1)) hx hb hts hiX3 hown hw (Or.inl rfl) rfl 1 (by decide) (hts (.fieldLink RX4 148 "SecondHome$Track" "least" "I") (by decide +kernel)) rfl dX4_now_56 ?_
    exact rI hQ hx hb hr hlk hw dX4_now_59 (o_2a h) (o_2b h) rfl
  replace h := o_f c1_2 h
  by_cases c1_3 : a1 = (3 : Int32)
  · replace h := o_t c1_3 h
    refine lv_tableIn (tgt := 60) hx hb dX4_now_1 (by rw [c1_3]; decide) (by rw [c1_3]; decide) (by rw [c1_3]; rfl) (by decide) ?_
    refine lv_aload_n hx hb dX4_now_60 rfl (lv_at hl 0 rfl) ?_
    refine gOw (v := .ref (sA G 1 0)) hx hb hts hiX4 hown hw 0 (by decide) (hts (.fieldLink RX4 10 "SecondHome" "track" "LSecondHome$Track;") (by decide +kernel)) rfl dX4_now_61 ?_
    refine gTk (v := .int ((S 1).1 2)) hx hb hts hiX3 hown hw (Or.inl rfl) rfl 2 (by decide) (hts (.fieldLink RX4 151 "SecondHome$Track" "law" "I") (by decide +kernel)) rfl dX4_now_64 ?_
    exact rI hQ hx hb hr hlk hw dX4_now_67 (o_2a h) (o_2b h) rfl
  replace h := o_f c1_3 h
  by_cases c1_4 : a1 = (4 : Int32)
  · replace h := o_t c1_4 h
    refine lv_tableIn (tgt := 68) hx hb dX4_now_1 (by rw [c1_4]; decide) (by rw [c1_4]; decide) (by rw [c1_4]; rfl) (by decide) ?_
    refine lv_aload_n hx hb dX4_now_68 rfl (lv_at hl 0 rfl) ?_
    refine gOw (v := .ref (sA G 1 0)) hx hb hts hiX4 hown hw 0 (by decide) (hts (.fieldLink RX4 10 "SecondHome" "track" "LSecondHome$Track;") (by decide +kernel)) rfl dX4_now_69 ?_
    refine gTk (v := .int ((S 1).1 5)) hx hb hts hiX3 hown hw (Or.inl rfl) rfl 5 (by decide) (hts (.fieldLink RX4 132 "SecondHome$Track" "homeCount" "I") (by decide +kernel)) rfl dX4_now_72 ?_
    exact rI hQ hx hb hr hlk hw dX4_now_75 (o_2a h) (o_2b h) rfl
  replace h := o_f c1_4 h
  have sw1 : a1.toInt < 0 ∨ 4 < a1.toInt := by
    have z0 := sw_ne c1_0
    have z1 := sw_ne c1_1
    have z2 := sw_ne c1_2
    have z3 := sw_ne c1_3
    have z4 := sw_ne c1_4
    rw [show ((0 : Int32)).toInt = 0 from rfl] at z0
    rw [show ((1 : Int32)).toInt = 1 from rfl] at z1
    rw [show ((2 : Int32)).toInt = 2 from rfl] at z2
    rw [show ((3 : Int32)).toInt = 3 from rfl] at z3
    rw [show ((4 : Int32)).toInt = 4 from rfl] at z4
    omega
  refine lv_tableOut (tgt := 76) hx hb dX4_now_1 sw1 (by decide) ?_
  refine lv_aload_n hx hb dX4_now_76 rfl (lv_at hl 0 rfl) ?_
  refine lv_ldc (v := -1000000001) hx hb hown (hts (.constant RX4 50 (-1000000001)) (by decide +kernel)) dX4_now_77 ?_
  obtain ⟨q79, eq79, h⟩ := o_bd h
  refine kV (As := [.int (-1000000001 : Int32)]) (rest := []) (st' := [.int q79.1]) ⟨hx, hb, hml, hown, hts⟩ (kX4_found l G eq79) (cwV 1 hts gX4_now_X4_found rfl rfl rfl qqX4_found ⟨Nat.le_of_ble_eq_true rfl, Nat.le_of_ble_eq_true rfl⟩) hw (rvOw hw) rfl hl.1 rfl (Nat.le_of_ble_eq_true rfl) dX4_now_79 ⟨Nat.zero_le _, Nat.zero_le _⟩ rfl (fun H locs hw => ?_)
  exact rI hQ hx hb hr hlk hw dX4_now_82 (o_2a h) (o_2b h) rfl
-- X4_place
def fX4_place (S : sWo) (a1 : Int32) : Option (Int32 × sWo) :=
  (fX3_has (S 1) a1).bind fun q5 => if q5 = 0 then ((fX4_found S (-1000000001 : Int32)).bind fun q25 => some (q25.1, q25.2)) else ((fX3_whoseAt (S 1) a1).bind fun q16 => some (q16, S))
def rmX4_place : Room := { frames := 3, cells := 0, slots := 0, locals := 68 }
theorem qqX4_place : yX4_place.cls = RX4 ∧ yX4_place.cls ≠ "java/lang/invoke/MethodHandle" ∧ yX4_place.cls ≠ "java/lang/invoke/VarHandle" ∧ (parseMethodDescriptor yX4_place.desc).map (fun d => d.parameters.length) = some 1 := by decide +kernel
set_option maxRecDepth 100000 in
set_option maxHeartbeats 4000000 in
theorem kX4_place (l : Launch) (G : sGl) {S : sWo} {M : sOb} {a1 : Int32} {q : (Int32 × sWo)}  (h : fX4_place S a1 = some q) : sCt l G yX4_place wsX4_place rmX4_place [.ref (sA G 0 0), .int a1] S M (some (.int q.1)) q.2 M := by
  refine cMk (cc := cX4_place) (maxL := 2) (ret := (some .int)) (by decide) rfl (Nat.le_of_ble_eq_true rfl) ?_
  intro p e s m args below meth c Q hQ hx hb hr hlk hml hown hts hw ls hl
  have hown : s.vm.findClass RX4 = some m.cls := hown
  have hl : lv_has ls 2 [(0, .ref (sA G 0 0)), (1, .int a1)] := hl
  have hiX4 : ∀ w ∈ u_ws RX4 TX4 7, w ∈ wsX4_place := by decide +kernel
  unfold fX4_place at h
  refine lv_aload_n hx hb dX4_place_0 rfl (lv_at hl 0 rfl) ?_
  refine gOw (v := .ref (sA G 1 0)) hx hb hts hiX4 hown hw 0 (by decide) (hts (.fieldLink RX4 10 "SecondHome" "track" "LSecondHome$Track;") (by decide +kernel)) rfl dX4_place_1 ?_
  refine lv_iload_n hx hb dX4_place_4 rfl (lv_at hl 1 rfl) ?_
  obtain ⟨q5, eq5, h⟩ := o_bd h
  refine kV (As := [.int a1]) (rest := []) (st' := [.int q5]) ⟨hx, hb, hml, hown, hts⟩ (kX3_has l G (Or.inl rfl) rfl eq5) (cwV 1 hts gX4_place_X3_has rfl rfl rfl qqX3_has ⟨Nat.le_of_ble_eq_true rfl, Nat.le_of_ble_eq_true rfl⟩) hw (rvTk hw (Or.inl rfl)) rfl hl.1 rfl (Nat.le_of_ble_eq_true rfl) dX4_place_5 ⟨Nat.zero_le _, Nat.zero_le _⟩ rfl (fun H locs hw => ?_)
  refine lv_if_eq (tgt := 22) hx hb dX4_place_8 (by decide) (fun c8 => ?_) (fun c8 => ?_)
  · replace h := o_t c8 h
    refine lv_aload_n hx hb dX4_place_22 rfl (lv_at hl 0 rfl) ?_
    refine lv_ldc (v := -1000000001) hx hb hown (hts (.constant RX4 50 (-1000000001)) (by decide +kernel)) dX4_place_23 ?_
    obtain ⟨q25, eq25, h⟩ := o_bd h
    refine kV (As := [.int (-1000000001 : Int32)]) (rest := []) (st' := [.int q25.1]) ⟨hx, hb, hml, hown, hts⟩ (kX4_found l G eq25) (cwV 1 hts gX4_place_X4_found rfl rfl rfl qqX4_found ⟨Nat.le_of_ble_eq_true rfl, Nat.le_of_ble_eq_true rfl⟩) hw (rvOw hw) rfl hl.1 rfl (Nat.le_of_ble_eq_true rfl) dX4_place_25 ⟨Nat.zero_le _, Nat.zero_le _⟩ rfl (fun H locs hw => ?_)
    exact rI hQ hx hb hr hlk hw dX4_place_28 (o_2a h) (o_2b h) rfl
  · replace h := o_f c8 h
    refine lv_aload_n hx hb dX4_place_11 rfl (lv_at hl 0 rfl) ?_
    refine gOw (v := .ref (sA G 1 0)) hx hb hts hiX4 hown hw 0 (by decide) (hts (.fieldLink RX4 10 "SecondHome" "track" "LSecondHome$Track;") (by decide +kernel)) rfl dX4_place_12 ?_
    refine lv_iload_n hx hb dX4_place_15 rfl (lv_at hl 1 rfl) ?_
    obtain ⟨q16, eq16, h⟩ := o_bd h
    refine kV (As := [.int a1]) (rest := []) (st' := [.int q16]) ⟨hx, hb, hml, hown, hts⟩ (kX3_whoseAt l G (Or.inl rfl) rfl eq16) (cwV 1 hts gX4_place_X3_whoseAt rfl rfl rfl qqX3_whoseAt ⟨Nat.le_of_ble_eq_true rfl, Nat.le_of_ble_eq_true rfl⟩) hw (rvTk hw (Or.inl rfl)) rfl hl.1 rfl (Nat.le_of_ble_eq_true rfl) dX4_place_16 ⟨Nat.zero_le _, Nat.zero_le _⟩ rfl (fun H locs hw => ?_)
    refine lv_goto (tgt := 28) hx hb dX4_place_19 (by decide) ?_
    exact rI hQ hx hb hr hlk hw dX4_place_28 (o_2a h) (o_2b h) rfl
-- X4_runnerOrNone
def fX4_runnerOrNone (S : sWo) (a1 : Int32) : Option (Int32 × sWo) :=
  if a1 = (-1 : Int32) then ((fX4_found S (-1000000004 : Int32)).bind fun q8 => some (q8.1, q8.2)) else (some (a1, S))
def rmX4_runnerOrNone : Room := { frames := 1, cells := 0, slots := 0, locals := 22 }
theorem qqX4_runnerOrNone : yX4_runnerOrNone.cls = RX4 ∧ yX4_runnerOrNone.cls ≠ "java/lang/invoke/MethodHandle" ∧ yX4_runnerOrNone.cls ≠ "java/lang/invoke/VarHandle" ∧ (parseMethodDescriptor yX4_runnerOrNone.desc).map (fun d => d.parameters.length) = some 1 := by decide +kernel
set_option maxRecDepth 100000 in
set_option maxHeartbeats 4000000 in
theorem kX4_runnerOrNone (l : Launch) (G : sGl) {S : sWo} {M : sOb} {a1 : Int32} {q : (Int32 × sWo)}  (h : fX4_runnerOrNone S a1 = some q) : sCt l G yX4_runnerOrNone wsX4_runnerOrNone rmX4_runnerOrNone [.ref (sA G 0 0), .int a1] S M (some (.int q.1)) q.2 M := by
  refine cMk (cc := cX4_runnerOrNone) (maxL := 2) (ret := (some .int)) (by decide) rfl (Nat.le_of_ble_eq_true rfl) ?_
  intro p e s m args below meth c Q hQ hx hb hr hlk hml hown hts hw ls hl
  have hown : s.vm.findClass RX4 = some m.cls := hown
  have hl : lv_has ls 2 [(0, .ref (sA G 0 0)), (1, .int a1)] := hl
  unfold fX4_runnerOrNone at h
  refine lv_iload_n hx hb dX4_runnerOrNone_0 rfl (lv_at hl 1 rfl) ?_
  refine lv_iconst (v := -1) hx hb dX4_runnerOrNone_1 (by decide) ?_
  refine lv_icmp_ne (tgt := 14) hx hb dX4_runnerOrNone_2 (by decide) (fun c2 => ?_) (fun c2 => ?_)
  · replace h := o_f c2 h
    refine lv_iload_n hx hb dX4_runnerOrNone_14 rfl (lv_at hl 1 rfl) ?_
    exact rI hQ hx hb hr hlk hw dX4_runnerOrNone_15 (o_2a h) (o_2b h) rfl
  · replace h := o_t c2 h
    refine lv_aload_n hx hb dX4_runnerOrNone_5 rfl (lv_at hl 0 rfl) ?_
    refine lv_ldc (v := -1000000004) hx hb hown (hts (.constant RX4 178 (-1000000004)) (by decide +kernel)) dX4_runnerOrNone_6 ?_
    obtain ⟨q8, eq8, h⟩ := o_bd h
    refine kV (As := [.int (-1000000004 : Int32)]) (rest := []) (st' := [.int q8.1]) ⟨hx, hb, hml, hown, hts⟩ (kX4_found l G eq8) (cwV 1 hts gX4_runnerOrNone_X4_found rfl rfl rfl qqX4_found ⟨Nat.le_of_ble_eq_true rfl, Nat.le_of_ble_eq_true rfl⟩) hw (rvOw hw) rfl hl.1 rfl (Nat.le_of_ble_eq_true rfl) dX4_runnerOrNone_8 ⟨Nat.zero_le _, Nat.zero_le _⟩ rfl (fun H locs hw => ?_)
    refine lv_goto (tgt := 15) hx hb dX4_runnerOrNone_11 (by decide) ?_
    exact rI hQ hx hb hr hlk hw dX4_runnerOrNone_15 (o_2a h) (o_2b h) rfl
-- X4_prize
def fX4_prize (S : sWo) : Option (Int32 × sWo) :=
  (fX3_prizeOwner (S 1) ((S 1).1 2)).bind fun q12 => (fX4_runnerOrNone S q12).bind fun q15 => some (q15.1, q15.2)
def rmX4_prize : Room := { frames := 4, cells := 0, slots := 0, locals := 89 }
theorem qqX4_prize : yX4_prize.cls = RX4 ∧ yX4_prize.cls ≠ "java/lang/invoke/MethodHandle" ∧ yX4_prize.cls ≠ "java/lang/invoke/VarHandle" ∧ (parseMethodDescriptor yX4_prize.desc).map (fun d => d.parameters.length) = some 0 := by decide +kernel
set_option maxRecDepth 100000 in
set_option maxHeartbeats 4000000 in
theorem kX4_prize (l : Launch) (G : sGl) {S : sWo} {M : sOb}  {q : (Int32 × sWo)}  (h : fX4_prize S = some q) : sCt l G yX4_prize wsX4_prize rmX4_prize [.ref (sA G 0 0)] S M (some (.int q.1)) q.2 M := by
  refine cMk (cc := cX4_prize) (maxL := 1) (ret := (some .int)) (by decide) rfl (Nat.le_of_ble_eq_true rfl) ?_
  intro p e s m args below meth c Q hQ hx hb hr hlk hml hown hts hw ls hl
  have hown : s.vm.findClass RX4 = some m.cls := hown
  have hl : lv_has ls 1 [(0, .ref (sA G 0 0))] := hl
  have hiX3 : ∀ w ∈ u_ws RX3 TX3 15, w ∈ wsX4_prize := by decide +kernel
  have hiX4 : ∀ w ∈ u_ws RX4 TX4 7, w ∈ wsX4_prize := by decide +kernel
  unfold fX4_prize at h
  refine lv_aload_n hx hb dX4_prize_0 rfl (lv_at hl 0 rfl) ?_
  refine lv_aload_n hx hb dX4_prize_1 rfl (lv_at hl 0 rfl) ?_
  refine gOw (v := .ref (sA G 1 0)) hx hb hts hiX4 hown hw 0 (by decide) (hts (.fieldLink RX4 10 "SecondHome" "track" "LSecondHome$Track;") (by decide +kernel)) rfl dX4_prize_2 ?_
  refine lv_aload_n hx hb dX4_prize_5 rfl (lv_at hl 0 rfl) ?_
  refine gOw (v := .ref (sA G 1 0)) hx hb hts hiX4 hown hw 0 (by decide) (hts (.fieldLink RX4 10 "SecondHome" "track" "LSecondHome$Track;") (by decide +kernel)) rfl dX4_prize_6 ?_
  refine gTk (v := .int ((S 1).1 2)) hx hb hts hiX3 hown hw (Or.inl rfl) rfl 2 (by decide) (hts (.fieldLink RX4 151 "SecondHome$Track" "law" "I") (by decide +kernel)) rfl dX4_prize_9 ?_
  obtain ⟨q12, eq12, h⟩ := o_bd h
  refine kV (As := [.int ((S 1).1 2)]) (rest := [.ref (sA G 0 0)]) (st' := [.int q12, .ref (sA G 0 0)]) ⟨hx, hb, hml, hown, hts⟩ (kX3_prizeOwner l G (Or.inl rfl) rfl eq12) (cwV 1 hts gX4_prize_X3_prizeOwner rfl rfl rfl qqX3_prizeOwner ⟨Nat.le_of_ble_eq_true rfl, Nat.le_of_ble_eq_true rfl⟩) hw (rvTk hw (Or.inl rfl)) rfl hl.1 rfl (Nat.le_of_ble_eq_true rfl) dX4_prize_12 ⟨Nat.zero_le _, Nat.zero_le _⟩ rfl (fun H locs hw => ?_)
  obtain ⟨q15, eq15, h⟩ := o_bd h
  refine kV (As := [.int q12]) (rest := []) (st' := [.int q15.1]) ⟨hx, hb, hml, hown, hts⟩ (kX4_runnerOrNone l G eq15) (cwV 1 hts gX4_prize_X4_runnerOrNone rfl rfl rfl qqX4_runnerOrNone ⟨Nat.le_of_ble_eq_true rfl, Nat.le_of_ble_eq_true rfl⟩) hw (rvOw hw) rfl hl.1 rfl (Nat.le_of_ble_eq_true rfl) dX4_prize_15 ⟨Nat.zero_le _, Nat.zero_le _⟩ rfl (fun H locs hw => ?_)
  exact rI hQ hx hb hr hlk hw dX4_prize_18 (o_2a h) (o_2b h) rfl
-- X4_score
def fX4_score (S : sWo) : Option (Int32 × sWo) :=
  if ((S 1).1 4) = 0 then ((fX4_found S (-1000000005 : Int32)).bind fun q23 => some (q23.1, q23.2)) else ((fX3_allHome (S 1)).bind fun q14 => if q14 = 0 then ((fX4_found S (-1000000005 : Int32)).bind fun q23 => some (q23.1, q23.2)) else ((fX3_givePoints (S 1)).bind fun q31 => nm (sUp S 1 q31.2) fun S31 => some (q31.1, S31)))
def rmX4_score : Room := { frames := 5, cells := 0, slots := 0, locals := 113 }
theorem qqX4_score : yX4_score.cls = RX4 ∧ yX4_score.cls ≠ "java/lang/invoke/MethodHandle" ∧ yX4_score.cls ≠ "java/lang/invoke/VarHandle" ∧ (parseMethodDescriptor yX4_score.desc).map (fun d => d.parameters.length) = some 0 := by decide +kernel
set_option maxRecDepth 100000 in
set_option maxHeartbeats 4000000 in
theorem kX4_score (l : Launch) (G : sGl) {S : sWo} {M : sOb}  {q : (Int32 × sWo)}  (h : fX4_score S = some q) : sCt l G yX4_score wsX4_score rmX4_score [.ref (sA G 0 0)] S M (some (.int q.1)) q.2 M := by
  refine cMk (cc := cX4_score) (maxL := 1) (ret := (some .int)) (by decide) rfl (Nat.le_of_ble_eq_true rfl) ?_
  intro p e s m args below meth c Q hQ hx hb hr hlk hml hown hts hw ls hl
  have hown : s.vm.findClass RX4 = some m.cls := hown
  have hl : lv_has ls 1 [(0, .ref (sA G 0 0))] := hl
  have hiX3 : ∀ w ∈ u_ws RX3 TX3 15, w ∈ wsX4_score := by decide +kernel
  have hiX4 : ∀ w ∈ u_ws RX4 TX4 7, w ∈ wsX4_score := by decide +kernel
  unfold fX4_score at h
  refine lv_aload_n hx hb dX4_score_0 rfl (lv_at hl 0 rfl) ?_
  refine gOw (v := .ref (sA G 1 0)) hx hb hts hiX4 hown hw 0 (by decide) (hts (.fieldLink RX4 10 "SecondHome" "track" "LSecondHome$Track;") (by decide +kernel)) rfl dX4_score_1 ?_
  refine gTk (v := .int ((S 1).1 4)) hx hb hts hiX3 hown hw (Or.inl rfl) rfl 4 (by decide) (hts (.fieldLink RX4 64 "SecondHome$Track" "count" "I") (by decide +kernel)) rfl dX4_score_4 ?_
  refine lv_if_eq (tgt := 20) hx hb dX4_score_7 (by decide) (fun c7 => ?_) (fun c7 => ?_)
  · replace h := o_t c7 h
    refine lv_aload_n hx hb dX4_score_20 rfl (lv_at hl 0 rfl) ?_
    refine lv_ldc (v := -1000000005) hx hb hown (hts (.constant RX4 123 (-1000000005)) (by decide +kernel)) dX4_score_21 ?_
    obtain ⟨q23, eq23, h⟩ := o_bd h
    refine kV (As := [.int (-1000000005 : Int32)]) (rest := []) (st' := [.int q23.1]) ⟨hx, hb, hml, hown, hts⟩ (kX4_found l G eq23) (cwV 1 hts gX4_score_X4_found rfl rfl rfl qqX4_found ⟨Nat.le_of_ble_eq_true rfl, Nat.le_of_ble_eq_true rfl⟩) hw (rvOw hw) rfl hl.1 rfl (Nat.le_of_ble_eq_true rfl) dX4_score_23 ⟨Nat.zero_le _, Nat.zero_le _⟩ rfl (fun H locs hw => ?_)
    exact rI hQ hx hb hr hlk hw dX4_score_26 (o_2a h) (o_2b h) rfl
  · replace h := o_f c7 h
    refine lv_aload_n hx hb dX4_score_10 rfl (lv_at hl 0 rfl) ?_
    refine gOw (v := .ref (sA G 1 0)) hx hb hts hiX4 hown hw 0 (by decide) (hts (.fieldLink RX4 10 "SecondHome" "track" "LSecondHome$Track;") (by decide +kernel)) rfl dX4_score_11 ?_
    obtain ⟨q14, eq14, h⟩ := o_bd h
    refine kV (As := []) (rest := []) (st' := [.int q14]) ⟨hx, hb, hml, hown, hts⟩ (kX3_allHome l G (Or.inl rfl) rfl eq14) (cwV 0 hts gX4_score_X3_allHome rfl rfl rfl qqX3_allHome ⟨Nat.le_of_ble_eq_true rfl, Nat.le_of_ble_eq_true rfl⟩) hw (rvTk hw (Or.inl rfl)) rfl hl.1 rfl (Nat.le_of_ble_eq_true rfl) dX4_score_14 ⟨Nat.zero_le _, Nat.zero_le _⟩ rfl (fun H locs hw => ?_)
    refine lv_if_ne (tgt := 27) hx hb dX4_score_17 (by decide) (fun c17 => ?_) (fun c17 => ?_)
    · replace h := o_f c17 h
      refine lv_aload_n hx hb dX4_score_27 rfl (lv_at hl 0 rfl) ?_
      refine gOw (v := .ref (sA G 1 0)) hx hb hts hiX4 hown hw 0 (by decide) (hts (.fieldLink RX4 10 "SecondHome" "track" "LSecondHome$Track;") (by decide +kernel)) rfl dX4_score_28 ?_
      obtain ⟨q31, eq31, h⟩ := o_bd h
      refine kV (As := []) (rest := []) (st' := [.int q31.1]) ⟨hx, hb, hml, hown, hts⟩ (kX3_givePoints l G (Or.inl rfl) rfl eq31) (cwV 0 hts gX4_score_X3_givePoints rfl rfl rfl qqX3_givePoints ⟨Nat.le_of_ble_eq_true rfl, Nat.le_of_ble_eq_true rfl⟩) hw (rvTk hw (Or.inl rfl)) rfl hl.1 rfl (Nat.le_of_ble_eq_true rfl) dX4_score_31 ⟨Nat.zero_le _, Nat.zero_le _⟩ rfl (fun H locs hw => ?_)
      obtain ⟨S31, eS31, h⟩ := o_nm h
      rw [← eS31] at hw
      exact rI hQ hx hb hr hlk hw dX4_score_34 (o_2a h) (o_2b h) rfl
    · replace h := o_t c17 h
      refine lv_aload_n hx hb dX4_score_20 rfl (lv_at hl 0 rfl) ?_
      refine lv_ldc (v := -1000000005) hx hb hown (hts (.constant RX4 123 (-1000000005)) (by decide +kernel)) dX4_score_21 ?_
      obtain ⟨q23, eq23, h⟩ := o_bd h
      refine kV (As := [.int (-1000000005 : Int32)]) (rest := []) (st' := [.int q23.1]) ⟨hx, hb, hml, hown, hts⟩ (kX4_found l G eq23) (cwV 1 hts gX4_score_X4_found rfl rfl rfl qqX4_found ⟨Nat.le_of_ble_eq_true rfl, Nat.le_of_ble_eq_true rfl⟩) hw (rvOw hw) rfl hl.1 rfl (Nat.le_of_ble_eq_true rfl) dX4_score_23 ⟨Nat.zero_le _, Nat.zero_le _⟩ rfl (fun H locs hw => ?_)
      exact rI hQ hx hb hr hlk hw dX4_score_26 (o_2a h) (o_2b h) rfl
-- X4_most
def bX4_most_4 (S : sWo) (k : Nat) (rc4 : Int32 → Int32 → Option Int32) (x2_4 : Int32) (x3_4 : Int32) : Option Int32 :=
  if ((S 1).1 4) ≤ x3_4 then (some x2_4) else (if (9 : Int32) ≤ x3_4 then (some x2_4) else (if x2_4 = (-1 : Int32) then (nm (x3_4 + (1 : Int32)) fun v37 => rc4 x3_4 v37) else (if x3_4 < 0 ∨ 9 ≤ x3_4.toNatClampNeg then none else if x2_4 < 0 ∨ 9 ≤ x2_4.toNatClampNeg then none else if ((S 1).2.1 k x3_4.toNatClampNeg) ≤ ((S 1).2.1 k x2_4.toNatClampNeg) then (nm (x3_4 + (1 : Int32)) fun v37 => rc4 x2_4 v37) else (nm (x3_4 + (1 : Int32)) fun v37 => rc4 x3_4 v37))))
def fX4_most (S : sWo) (k : Nat) : Option Int32 :=
  fx2 (bX4_most_4 S k) FU (-1 : Int32) (0 : Int32)
def rmX4_most : Room := { frames := 0, cells := 0, slots := 0, locals := 0 }
theorem qqX4_most : yX4_most.cls = RX4 ∧ yX4_most.cls ≠ "java/lang/invoke/MethodHandle" ∧ yX4_most.cls ≠ "java/lang/invoke/VarHandle" ∧ (parseMethodDescriptor yX4_most.desc).map (fun d => d.parameters.length) = some 1 := by decide +kernel
set_option maxRecDepth 100000 in
set_option maxHeartbeats 4000000 in
theorem kX4_most (l : Launch) (G : sGl) {S : sWo} {M : sOb} {k : Nat} {q : Int32} (hk : k < 9) (h : fX4_most S k = some q) : sCt l G yX4_most wsX4_most rmX4_most [.ref (sA G 0 0), .ref (sA G 1 (k + 1))] S M (some (.int q)) S M := by
  refine cMk (cc := cX4_most) (maxL := 4) (ret := (some .int)) (by decide) rfl (Nat.le_of_ble_eq_true rfl) ?_
  intro p e s m args below meth c Q hQ hx hb hr hlk hml hown hts hw ls hl
  have hown : s.vm.findClass RX4 = some m.cls := hown
  have hl : lv_has ls 4 [(0, .ref (sA G 0 0)), (1, .ref (sA G 1 (k + 1)))] := hl
  have hiX3 : ∀ w ∈ u_ws RX3 TX3 15, w ∈ wsX4_most := by decide +kernel
  have hiX4 : ∀ w ∈ u_ws RX4 TX4 7, w ∈ wsX4_most := by decide +kernel
  unfold fX4_most at h
  refine lv_iconst (v := -1) hx hb dX4_most_0 (by decide) ?_
  refine lv_istore_n (lv' := [(2, .int (-1 : Int32)), (0, .ref (sA G 0 0)), (1, .ref (sA G 1 (k + 1)))]) hx hb dX4_most_1 rfl hl (by decide) rfl (fun ls hl => ?_)
  refine lv_iconst (v := 0) hx hb dX4_most_2 (by decide) ?_
  refine lv_istore_n (lv' := [(3, .int (0 : Int32)), (2, .int (-1 : Int32)), (0, .ref (sA G 0 0)), (1, .ref (sA G 1 (k + 1)))]) hx hb dX4_most_3 rfl hl (by decide) rfl (fun ls hl => ?_)
  refine fx2_w (F := (bX4_most_4 S k)) (P := fun x2_4 x3_4 => ∀ (H : Heap) (locs : List Loc) (ls : Array Slot), sHw G s S M H locs → lv_has ls 4 [(0, .ref (sA G 0 0)), (1, .ref (sA G 1 (k + 1))), (2, .int x2_4), (3, .int x3_4)] → W p l e rmX4_most s m args below meth c H locs 0 0 Q (F0 m 4 ls [])) ?_ _ _ _ h _ _ _ hw (lv_sub hl [2, 3, 1, 0] rfl)
  intro rc4 IH4 x2_4 x3_4 h H locs ls hw hl
  unfold bX4_most_4 at h
  refine lv_iload_n hx hb dX4_most_4 rfl (lv_at hl 3 rfl) ?_
  refine lv_aload_n hx hb dX4_most_5 rfl (lv_at hl 0 rfl) ?_
  refine gOw (v := .ref (sA G 1 0)) hx hb hts hiX4 hown hw 0 (by decide) (hts (.fieldLink RX4 10 "SecondHome" "track" "LSecondHome$Track;") (by decide +kernel)) rfl dX4_most_6 ?_
  refine gTk (v := .int ((S 1).1 4)) hx hb hts hiX3 hown hw (Or.inl rfl) rfl 4 (by decide) (hts (.fieldLink RX4 64 "SecondHome$Track" "count" "I") (by decide +kernel)) rfl dX4_most_9 ?_
  refine lv_icmp_ge (tgt := 43) hx hb dX4_most_12 (by decide) (fun c12 => ?_) (fun c12 => ?_)
  · replace h := o_t c12 h
    refine lv_iload_n hx hb dX4_most_43 rfl (lv_at hl 2 rfl) ?_
    exact rI hQ hx hb hr hlk hw dX4_most_44 (o_1 h) rfl rfl
  · replace h := o_f c12 h
    refine lv_iload_n hx hb dX4_most_15 rfl (lv_at hl 3 rfl) ?_
    refine lv_aload_n hx hb dX4_most_16 rfl (lv_at hl 1 rfl) ?_
    refine lenTk hx hb hw (Or.inl rfl) k hk dX4_most_17 ?_
    refine lv_icmp_ge (tgt := 43) hx hb dX4_most_18 (by decide) (fun c18 => ?_) (fun c18 => ?_)
    · replace h := o_t c18 h
      refine lv_iload_n hx hb dX4_most_43 rfl (lv_at hl 2 rfl) ?_
      exact rI hQ hx hb hr hlk hw dX4_most_44 (o_1 h) rfl rfl
    · replace h := o_f c18 h
      refine lv_iload_n hx hb dX4_most_21 rfl (lv_at hl 2 rfl) ?_
      refine lv_iconst (v := -1) hx hb dX4_most_22 (by decide) ?_
      refine lv_icmp_eq (tgt := 35) hx hb dX4_most_23 (by decide) (fun c23 => ?_) (fun c23 => ?_)
      · replace h := o_t c23 h
        refine lv_iload_n hx hb dX4_most_35 rfl (lv_at hl 3 rfl) ?_
        refine lv_istore_n (lv' := [(2, .int x3_4), (0, .ref (sA G 0 0)), (1, .ref (sA G 1 (k + 1))), (3, .int x3_4)]) hx hb dX4_most_36 rfl hl (by decide) rfl (fun ls hl => ?_)
        obtain ⟨v37, ev37, h⟩ := o_nm h
        refine lv_iinc (v := v37) (lv' := [(3, .int v37), (2, .int x3_4), (0, .ref (sA G 0 0)), (1, .ref (sA G 1 (k + 1)))]) hx hb dX4_most_37 hl (k := 3) rfl (by rw [ev37]; rfl) (by decide) rfl (fun ls hl => ?_)
        refine lv_goto (tgt := 4) hx hb dX4_most_40 (by decide) ?_
        exact IH4 x3_4 v37 h _ _ _ hw (lv_sub hl [2, 3, 1, 0] rfl)
      · replace h := o_f c23 h
        refine lv_aload_n hx hb dX4_most_26 rfl (lv_at hl 1 rfl) ?_
        refine lv_iload_n hx hb dX4_most_27 rfl (lv_at hl 3 rfl) ?_
        obtain ⟨b28, h⟩ := o_in h
        refine ldTk hx hb hw (Or.inl rfl) rfl k hk b28 dX4_most_28 ?_
        refine lv_aload_n hx hb dX4_most_29 rfl (lv_at hl 1 rfl) ?_
        refine lv_iload_n hx hb dX4_most_30 rfl (lv_at hl 2 rfl) ?_
        obtain ⟨b31, h⟩ := o_in h
        refine ldTk hx hb hw (Or.inl rfl) rfl k hk b31 dX4_most_31 ?_
        refine lv_icmp_le (tgt := 37) hx hb dX4_most_32 (by decide) (fun c32 => ?_) (fun c32 => ?_)
        · replace h := o_t c32 h
          obtain ⟨v37, ev37, h⟩ := o_nm h
          refine lv_iinc (v := v37) (lv' := [(3, .int v37), (0, .ref (sA G 0 0)), (1, .ref (sA G 1 (k + 1))), (2, .int x2_4)]) hx hb dX4_most_37 hl (k := 3) rfl (by rw [ev37]; rfl) (by decide) rfl (fun ls hl => ?_)
          refine lv_goto (tgt := 4) hx hb dX4_most_40 (by decide) ?_
          exact IH4 x2_4 v37 h _ _ _ hw (lv_sub hl [1, 2, 3, 0] rfl)
        · replace h := o_f c32 h
          refine lv_iload_n hx hb dX4_most_35 rfl (lv_at hl 3 rfl) ?_
          refine lv_istore_n (lv' := [(2, .int x3_4), (0, .ref (sA G 0 0)), (1, .ref (sA G 1 (k + 1))), (3, .int x3_4)]) hx hb dX4_most_36 rfl hl (by decide) rfl (fun ls hl => ?_)
          obtain ⟨v37, ev37, h⟩ := o_nm h
          refine lv_iinc (v := v37) (lv' := [(3, .int v37), (2, .int x3_4), (0, .ref (sA G 0 0)), (1, .ref (sA G 1 (k + 1)))]) hx hb dX4_most_37 hl (k := 3) rfl (by rw [ev37]; rfl) (by decide) rfl (fun ls hl => ?_)
          refine lv_goto (tgt := 4) hx hb dX4_most_40 (by decide) ?_
          exact IH4 x3_4 v37 h _ _ _ hw (lv_sub hl [2, 3, 1, 0] rfl)
-- X4_leads
def fX4_leads (S : sWo) : Option (Int32 × sWo) :=
  (fX4_most S 6).bind fun q9 => (fX4_runnerOrNone S q9).bind fun q12 => some (q12.1, q12.2)
def rmX4_leads : Room := { frames := 2, cells := 0, slots := 0, locals := 43 }
theorem qqX4_leads : yX4_leads.cls = RX4 ∧ yX4_leads.cls ≠ "java/lang/invoke/MethodHandle" ∧ yX4_leads.cls ≠ "java/lang/invoke/VarHandle" ∧ (parseMethodDescriptor yX4_leads.desc).map (fun d => d.parameters.length) = some 0 := by decide +kernel
set_option maxRecDepth 100000 in
set_option maxHeartbeats 4000000 in
theorem kX4_leads (l : Launch) (G : sGl) {S : sWo} {M : sOb}  {q : (Int32 × sWo)}  (h : fX4_leads S = some q) : sCt l G yX4_leads wsX4_leads rmX4_leads [.ref (sA G 0 0)] S M (some (.int q.1)) q.2 M := by
  refine cMk (cc := cX4_leads) (maxL := 1) (ret := (some .int)) (by decide) rfl (Nat.le_of_ble_eq_true rfl) ?_
  intro p e s m args below meth c Q hQ hx hb hr hlk hml hown hts hw ls hl
  have hown : s.vm.findClass RX4 = some m.cls := hown
  have hl : lv_has ls 1 [(0, .ref (sA G 0 0))] := hl
  have hiX3 : ∀ w ∈ u_ws RX3 TX3 15, w ∈ wsX4_leads := by decide +kernel
  have hiX4 : ∀ w ∈ u_ws RX4 TX4 7, w ∈ wsX4_leads := by decide +kernel
  unfold fX4_leads at h
  refine lv_aload_n hx hb dX4_leads_0 rfl (lv_at hl 0 rfl) ?_
  refine lv_aload_n hx hb dX4_leads_1 rfl (lv_at hl 0 rfl) ?_
  refine lv_aload_n hx hb dX4_leads_2 rfl (lv_at hl 0 rfl) ?_
  refine gOw (v := .ref (sA G 1 0)) hx hb hts hiX4 hown hw 0 (by decide) (hts (.fieldLink RX4 10 "SecondHome" "track" "LSecondHome$Track;") (by decide +kernel)) rfl dX4_leads_3 ?_
  refine gTk (v := .ref (sA G 1 7)) hx hb hts hiX3 hown hw (Or.inl rfl) rfl 12 (by decide) (hts (.fieldLink RX4 94 "SecondHome$Track" "points" "[I") (by decide +kernel)) rfl dX4_leads_6 ?_
  obtain ⟨q9, eq9, h⟩ := o_bd h
  refine kV (As := [.ref (sA G 1 7)]) (rest := [.ref (sA G 0 0)]) (st' := [.int q9, .ref (sA G 0 0)]) ⟨hx, hb, hml, hown, hts⟩ (kX4_most l G (by decide) eq9) (cwV 1 hts gX4_leads_X4_most rfl rfl rfl qqX4_most ⟨Nat.le_of_ble_eq_true rfl, Nat.le_of_ble_eq_true rfl⟩) hw (rvOw hw) rfl hl.1 rfl (Nat.le_of_ble_eq_true rfl) dX4_leads_9 ⟨Nat.zero_le _, Nat.zero_le _⟩ rfl (fun H locs hw => ?_)
  obtain ⟨q12, eq12, h⟩ := o_bd h
  refine kV (As := [.int q9]) (rest := []) (st' := [.int q12.1]) ⟨hx, hb, hml, hown, hts⟩ (kX4_runnerOrNone l G eq12) (cwV 1 hts gX4_leads_X4_runnerOrNone rfl rfl rfl qqX4_runnerOrNone ⟨Nat.le_of_ble_eq_true rfl, Nat.le_of_ble_eq_true rfl⟩) hw (rvOw hw) rfl hl.1 rfl (Nat.le_of_ble_eq_true rfl) dX4_leads_12 ⟨Nat.zero_le _, Nat.zero_le _⟩ rfl (fun H locs hw => ?_)
  exact rI hQ hx hb hr hlk hw dX4_leads_15 (o_2a h) (o_2b h) rfl
-- X4_tryOut
def fX4_tryOut (S : sWo) : Option sWo :=
  (fX3_takeOver (S 2) (S 1)).bind fun q8 => nm (sUp S 2 q8) fun S8 => some S8
def rmX4_tryOut : Room := { frames := 1, cells := 0, slots := 0, locals := 22 }
theorem qqX4_tryOut : yX4_tryOut.cls = RX4 ∧ yX4_tryOut.cls ≠ "java/lang/invoke/MethodHandle" ∧ yX4_tryOut.cls ≠ "java/lang/invoke/VarHandle" ∧ (parseMethodDescriptor yX4_tryOut.desc).map (fun d => d.parameters.length) = some 0 := by decide +kernel
set_option maxRecDepth 100000 in
set_option maxHeartbeats 4000000 in
theorem kX4_tryOut (l : Launch) (G : sGl) {S : sWo} {M : sOb}  {q : sWo}  (h : fX4_tryOut S = some q) : sCt l G yX4_tryOut wsX4_tryOut rmX4_tryOut [.ref (sA G 0 0)] S M (some (.ref (sA G 2 0))) q M := by
  refine cMk (cc := cX4_tryOut) (maxL := 1) (ret := (some (.object "SecondHome$Track"))) (by decide) rfl (Nat.le_of_ble_eq_true rfl) ?_
  intro p e s m args below meth c Q hQ hx hb hr hlk hml hown hts hw ls hl
  have hown : s.vm.findClass RX4 = some m.cls := hown
  have hl : lv_has ls 1 [(0, .ref (sA G 0 0))] := hl
  have hiX4 : ∀ w ∈ u_ws RX4 TX4 7, w ∈ wsX4_tryOut := by decide +kernel
  unfold fX4_tryOut at h
  refine lv_aload_n hx hb dX4_tryOut_0 rfl (lv_at hl 0 rfl) ?_
  refine gOw (v := .ref (sA G 2 0)) hx hb hts hiX4 hown hw 1 (by decide) (hts (.fieldLink RX4 16 "SecondHome" "trial" "LSecondHome$Track;") (by decide +kernel)) rfl dX4_tryOut_1 ?_
  refine lv_aload_n hx hb dX4_tryOut_4 rfl (lv_at hl 0 rfl) ?_
  refine gOw (v := .ref (sA G 1 0)) hx hb hts hiX4 hown hw 0 (by decide) (hts (.fieldLink RX4 10 "SecondHome" "track" "LSecondHome$Track;") (by decide +kernel)) rfl dX4_tryOut_5 ?_
  obtain ⟨q8, eq8, h⟩ := o_bd h
  refine kV (As := [.ref (sA G 1 0)]) (rest := []) (st' := []) ⟨hx, hb, hml, hown, hts⟩ (kX3_takeOver l G (Or.inr (Or.inl rfl)) (Or.inl rfl) (by decide) rfl rfl eq8) (cwV 1 hts gX4_tryOut_X3_takeOver rfl rfl rfl qqX3_takeOver ⟨Nat.le_of_ble_eq_true rfl, Nat.le_of_ble_eq_true rfl⟩) hw (rvTk hw (Or.inr (Or.inl rfl))) rfl hl.1 rfl (Nat.le_of_ble_eq_true rfl) dX4_tryOut_8 ⟨Nat.zero_le _, Nat.zero_le _⟩ rfl (fun H locs hw => ?_)
  obtain ⟨S8, eS8, h⟩ := o_nm h
  rw [← eS8] at hw
  refine lv_aload_n hx hb dX4_tryOut_11 rfl (lv_at hl 0 rfl) ?_
  refine gOw (v := .ref (sA G 2 0)) hx hb hts hiX4 hown hw 1 (by decide) (hts (.fieldLink RX4 16 "SecondHome" "trial" "LSecondHome$Track;") (by decide +kernel)) rfl dX4_tryOut_12 ?_
  exact rA hQ hx hb hr ⟨_, rfl⟩ hlk hw dX4_tryOut_15 rfl (o_1 h) rfl
-- X4_on
def fX4_on (S : sWo) (a1 : Int32) (a2 : Int32) : Option (Int32 × sWo) :=
  (fX3_has (S 1) a1).bind fun q5 => if q5 = 0 then ((fX4_found S (-1000000001 : Int32)).bind fun q25 => some (q25.1, q25.2)) else (if a2 < 0 then ((fX4_found S (-1000000001 : Int32)).bind fun q25 => some (q25.1, q25.2)) else (if a2 ≤ (2000 : Int32) then ((fX4_tryOut S).bind fun q30 => (fX3_goOn (q30 2) a2).bind fun q36 => nm (sUp q30 2 q36) fun S36 => if a1 < 0 ∨ 9 ≤ a1.toNatClampNeg then none else some (((S36 2).2.1 5 a1.toNatClampNeg), S36)) else ((fX4_found S (-1000000001 : Int32)).bind fun q25 => some (q25.1, q25.2))))
def rmX4_on : Room := { frames := 5, cells := 0, slots := 0, locals := 112 }
theorem qqX4_on : yX4_on.cls = RX4 ∧ yX4_on.cls ≠ "java/lang/invoke/MethodHandle" ∧ yX4_on.cls ≠ "java/lang/invoke/VarHandle" ∧ (parseMethodDescriptor yX4_on.desc).map (fun d => d.parameters.length) = some 2 := by decide +kernel
set_option maxRecDepth 100000 in
set_option maxHeartbeats 4000000 in
theorem kX4_on (l : Launch) (G : sGl) {S : sWo} {M : sOb} {a1 : Int32} {a2 : Int32} {q : (Int32 × sWo)}  (h : fX4_on S a1 a2 = some q) : sCt l G yX4_on wsX4_on rmX4_on [.ref (sA G 0 0), .int a1, .int a2] S M (some (.int q.1)) q.2 M := by
  refine cMk (cc := cX4_on) (maxL := 4) (ret := (some .int)) (by decide) rfl (Nat.le_of_ble_eq_true rfl) ?_
  intro p e s m args below meth c Q hQ hx hb hr hlk hml hown hts hw ls hl
  have hown : s.vm.findClass RX4 = some m.cls := hown
  have hl : lv_has ls 4 [(0, .ref (sA G 0 0)), (1, .int a1), (2, .int a2)] := hl
  have hiX3 : ∀ w ∈ u_ws RX3 TX3 15, w ∈ wsX4_on := by decide +kernel
  have hiX4 : ∀ w ∈ u_ws RX4 TX4 7, w ∈ wsX4_on := by decide +kernel
  unfold fX4_on at h
  refine lv_aload_n hx hb dX4_on_0 rfl (lv_at hl 0 rfl) ?_
  refine gOw (v := .ref (sA G 1 0)) hx hb hts hiX4 hown hw 0 (by decide) (hts (.fieldLink RX4 10 "SecondHome" "track" "LSecondHome$Track;") (by decide +kernel)) rfl dX4_on_1 ?_
  refine lv_iload_n hx hb dX4_on_4 rfl (lv_at hl 1 rfl) ?_
  obtain ⟨q5, eq5, h⟩ := o_bd h
  refine kV (As := [.int a1]) (rest := []) (st' := [.int q5]) ⟨hx, hb, hml, hown, hts⟩ (kX3_has l G (Or.inl rfl) rfl eq5) (cwV 1 hts gX4_on_X3_has rfl rfl rfl qqX3_has ⟨Nat.le_of_ble_eq_true rfl, Nat.le_of_ble_eq_true rfl⟩) hw (rvTk hw (Or.inl rfl)) rfl hl.1 rfl (Nat.le_of_ble_eq_true rfl) dX4_on_5 ⟨Nat.zero_le _, Nat.zero_le _⟩ rfl (fun H locs hw => ?_)
  refine lv_if_eq (tgt := 22) hx hb dX4_on_8 (by decide) (fun c8 => ?_) (fun c8 => ?_)
  · replace h := o_t c8 h
    refine lv_aload_n hx hb dX4_on_22 rfl (lv_at hl 0 rfl) ?_
    refine lv_ldc (v := -1000000001) hx hb hown (hts (.constant RX4 50 (-1000000001)) (by decide +kernel)) dX4_on_23 ?_
    obtain ⟨q25, eq25, h⟩ := o_bd h
    refine kV (As := [.int (-1000000001 : Int32)]) (rest := []) (st' := [.int q25.1]) ⟨hx, hb, hml, hown, hts⟩ (kX4_found l G eq25) (cwV 1 hts gX4_on_X4_found rfl rfl rfl qqX4_found ⟨Nat.le_of_ble_eq_true rfl, Nat.le_of_ble_eq_true rfl⟩) hw (rvOw hw) rfl hl.1 rfl (Nat.le_of_ble_eq_true rfl) dX4_on_25 ⟨Nat.zero_le _, Nat.zero_le _⟩ rfl (fun H locs hw => ?_)
    exact rI hQ hx hb hr hlk hw dX4_on_28 (o_2a h) (o_2b h) rfl
  · replace h := o_f c8 h
    refine lv_iload_n hx hb dX4_on_11 rfl (lv_at hl 2 rfl) ?_
    refine lv_if_lt (tgt := 22) hx hb dX4_on_12 (by decide) (fun c12 => ?_) (fun c12 => ?_)
    · replace h := o_t c12 h
      refine lv_aload_n hx hb dX4_on_22 rfl (lv_at hl 0 rfl) ?_
      refine lv_ldc (v := -1000000001) hx hb hown (hts (.constant RX4 50 (-1000000001)) (by decide +kernel)) dX4_on_23 ?_
      obtain ⟨q25, eq25, h⟩ := o_bd h
      refine kV (As := [.int (-1000000001 : Int32)]) (rest := []) (st' := [.int q25.1]) ⟨hx, hb, hml, hown, hts⟩ (kX4_found l G eq25) (cwV 1 hts gX4_on_X4_found rfl rfl rfl qqX4_found ⟨Nat.le_of_ble_eq_true rfl, Nat.le_of_ble_eq_true rfl⟩) hw (rvOw hw) rfl hl.1 rfl (Nat.le_of_ble_eq_true rfl) dX4_on_25 ⟨Nat.zero_le _, Nat.zero_le _⟩ rfl (fun H locs hw => ?_)
      exact rI hQ hx hb hr hlk hw dX4_on_28 (o_2a h) (o_2b h) rfl
    · replace h := o_f c12 h
      refine lv_iload_n hx hb dX4_on_15 rfl (lv_at hl 2 rfl) ?_
      refine lv_sipush (v := 2000) hx hb dX4_on_16 (by decide) ?_
      refine lv_icmp_le (tgt := 29) hx hb dX4_on_19 (by decide) (fun c19 => ?_) (fun c19 => ?_)
      · replace h := o_t c19 h
        refine lv_aload_n hx hb dX4_on_29 rfl (lv_at hl 0 rfl) ?_
        obtain ⟨q30, eq30, h⟩ := o_bd h
        refine kV (As := []) (rest := []) (st' := [.ref (sA G 2 0)]) ⟨hx, hb, hml, hown, hts⟩ (kX4_tryOut l G eq30) (cwV 0 hts gX4_on_X4_tryOut rfl rfl rfl qqX4_tryOut ⟨Nat.le_of_ble_eq_true rfl, Nat.le_of_ble_eq_true rfl⟩) hw (rvOw hw) rfl hl.1 rfl (Nat.le_of_ble_eq_true rfl) dX4_on_30 ⟨Nat.zero_le _, Nat.zero_le _⟩ rfl (fun H locs hw => ?_)
        refine lv_astore_n (lv' := [(3, .ref (sA G 2 0)), (0, .ref (sA G 0 0)), (1, .int a1), (2, .int a2)]) hx hb dX4_on_33 rfl hl (by decide) rfl (fun ls hl => ?_)
        refine lv_aload_n hx hb dX4_on_34 rfl (lv_at hl 0 rfl) ?_
        refine lv_iload_n hx hb dX4_on_35 rfl (lv_at hl 3 rfl) ?_
        obtain ⟨q36, eq36, h⟩ := o_bd h
        refine kV (As := [.int a2]) (rest := []) (st' := []) ⟨hx, hb, hml, hown, hts⟩ (kX3_goOn l G (Or.inr (Or.inl rfl)) rfl eq36) (cwV 1 hts gX4_on_X3_goOn rfl rfl rfl qqX3_goOn ⟨Nat.le_of_ble_eq_true rfl, Nat.le_of_ble_eq_true rfl⟩) hw (rvTk hw (Or.inr (Or.inl rfl))) rfl hl.1 rfl (Nat.le_of_ble_eq_true rfl) dX4_on_36 ⟨Nat.zero_le _, Nat.zero_le _⟩ rfl (fun H locs hw => ?_)
        obtain ⟨S36, eS36, h⟩ := o_nm h
        rw [← eS36] at hw
        refine lv_aload_n hx hb dX4_on_39 rfl (lv_at hl 0 rfl) ?_
        refine gTk (v := .ref (sA G 2 6)) hx hb hts hiX3 hown hw (Or.inr (Or.inl rfl)) rfl 11 (by decide) (hts (.fieldLink RX4 91 "SecondHome$Track" "yards" "[I") (by decide +kernel)) rfl dX4_on_40 ?_
        refine lv_iload_n hx hb dX4_on_43 rfl (lv_at hl 2 rfl) ?_
        obtain ⟨b44, h⟩ := o_in h
        refine ldTk hx hb hw (Or.inr (Or.inl rfl)) rfl 5 (by decide) b44 dX4_on_44 ?_
        exact rI hQ hx hb hr hlk hw dX4_on_45 (o_2a h) (o_2b h) rfl
      · replace h := o_f c19 h
        refine lv_aload_n hx hb dX4_on_22 rfl (lv_at hl 0 rfl) ?_
        refine lv_ldc (v := -1000000001) hx hb hown (hts (.constant RX4 50 (-1000000001)) (by decide +kernel)) dX4_on_23 ?_
        obtain ⟨q25, eq25, h⟩ := o_bd h
        refine kV (As := [.int (-1000000001 : Int32)]) (rest := []) (st' := [.int q25.1]) ⟨hx, hb, hml, hown, hts⟩ (kX4_found l G eq25) (cwV 1 hts gX4_on_X4_found rfl rfl rfl qqX4_found ⟨Nat.le_of_ble_eq_true rfl, Nat.le_of_ble_eq_true rfl⟩) hw (rvOw hw) rfl hl.1 rfl (Nat.le_of_ble_eq_true rfl) dX4_on_25 ⟨Nat.zero_le _, Nat.zero_le _⟩ rfl (fun H locs hw => ?_)
        exact rI hQ hx hb hr hlk hw dX4_on_28 (o_2a h) (o_2b h) rfl
-- X4_home
def fX4_home (S : sWo) (a1 : Int32) : Option (Int32 × sWo) :=
  (fX3_has (S 1) a1).bind fun q5 => if q5 = 0 then ((fX4_found S (-1000000001 : Int32)).bind fun q14 => some (q14.1, q14.2)) else ((fX4_tryOut S).bind fun q19 => (fX3_goOn (q19 2) (2000 : Int32)).bind fun q27 => nm (sUp q19 2 q27) fun S27 => (fX3_isHome (S27 2) a1).bind fun q32 => if q32 = 0 then ((fX4_found S27 (-1000000004 : Int32)).bind fun q50 => some (q50.1, q50.2)) else (if a1 < 0 ∨ 9 ≤ a1.toNatClampNeg then none else some (((S27 2).2.1 7 a1.toNatClampNeg), S27)))
def rmX4_home : Room := { frames := 5, cells := 0, slots := 0, locals := 112 }
theorem qqX4_home : yX4_home.cls = RX4 ∧ yX4_home.cls ≠ "java/lang/invoke/MethodHandle" ∧ yX4_home.cls ≠ "java/lang/invoke/VarHandle" ∧ (parseMethodDescriptor yX4_home.desc).map (fun d => d.parameters.length) = some 1 := by decide +kernel
set_option maxRecDepth 100000 in
set_option maxHeartbeats 4000000 in
theorem kX4_home (l : Launch) (G : sGl) {S : sWo} {M : sOb} {a1 : Int32} {q : (Int32 × sWo)}  (h : fX4_home S a1 = some q) : sCt l G yX4_home wsX4_home rmX4_home [.ref (sA G 0 0), .int a1] S M (some (.int q.1)) q.2 M := by
  refine cMk (cc := cX4_home) (maxL := 3) (ret := (some .int)) (by decide) rfl (Nat.le_of_ble_eq_true rfl) ?_
  intro p e s m args below meth c Q hQ hx hb hr hlk hml hown hts hw ls hl
  have hown : s.vm.findClass RX4 = some m.cls := hown
  have hl : lv_has ls 3 [(0, .ref (sA G 0 0)), (1, .int a1)] := hl
  have hiX3 : ∀ w ∈ u_ws RX3 TX3 15, w ∈ wsX4_home := by decide +kernel
  have hiX4 : ∀ w ∈ u_ws RX4 TX4 7, w ∈ wsX4_home := by decide +kernel
  unfold fX4_home at h
  refine lv_aload_n hx hb dX4_home_0 rfl (lv_at hl 0 rfl) ?_
  refine gOw (v := .ref (sA G 1 0)) hx hb hts hiX4 hown hw 0 (by decide) (hts (.fieldLink RX4 10 "SecondHome" "track" "LSecondHome$Track;") (by decide +kernel)) rfl dX4_home_1 ?_
  refine lv_iload_n hx hb dX4_home_4 rfl (lv_at hl 1 rfl) ?_
  obtain ⟨q5, eq5, h⟩ := o_bd h
  refine kV (As := [.int a1]) (rest := []) (st' := [.int q5]) ⟨hx, hb, hml, hown, hts⟩ (kX3_has l G (Or.inl rfl) rfl eq5) (cwV 1 hts gX4_home_X3_has rfl rfl rfl qqX3_has ⟨Nat.le_of_ble_eq_true rfl, Nat.le_of_ble_eq_true rfl⟩) hw (rvTk hw (Or.inl rfl)) rfl hl.1 rfl (Nat.le_of_ble_eq_true rfl) dX4_home_5 ⟨Nat.zero_le _, Nat.zero_le _⟩ rfl (fun H locs hw => ?_)
  refine lv_if_ne (tgt := 18) hx hb dX4_home_8 (by decide) (fun c8 => ?_) (fun c8 => ?_)
  · replace h := o_f c8 h
    refine lv_aload_n hx hb dX4_home_18 rfl (lv_at hl 0 rfl) ?_
    obtain ⟨q19, eq19, h⟩ := o_bd h
    refine kV (As := []) (rest := []) (st' := [.ref (sA G 2 0)]) ⟨hx, hb, hml, hown, hts⟩ (kX4_tryOut l G eq19) (cwV 0 hts gX4_home_X4_tryOut rfl rfl rfl qqX4_tryOut ⟨Nat.le_of_ble_eq_true rfl, Nat.le_of_ble_eq_true rfl⟩) hw (rvOw hw) rfl hl.1 rfl (Nat.le_of_ble_eq_true rfl) dX4_home_19 ⟨Nat.zero_le _, Nat.zero_le _⟩ rfl (fun H locs hw => ?_)
    refine lv_astore_n (lv' := [(2, .ref (sA G 2 0)), (0, .ref (sA G 0 0)), (1, .int a1)]) hx hb dX4_home_22 rfl hl (by decide) rfl (fun ls hl => ?_)
    refine lv_aload_n hx hb dX4_home_23 rfl (lv_at hl 0 rfl) ?_
    refine lv_sipush (v := 2000) hx hb dX4_home_24 (by decide) ?_
    obtain ⟨q27, eq27, h⟩ := o_bd h
    refine kV (As := [.int (2000 : Int32)]) (rest := []) (st' := []) ⟨hx, hb, hml, hown, hts⟩ (kX3_goOn l G (Or.inr (Or.inl rfl)) rfl eq27) (cwV 1 hts gX4_home_X3_goOn rfl rfl rfl qqX3_goOn ⟨Nat.le_of_ble_eq_true rfl, Nat.le_of_ble_eq_true rfl⟩) hw (rvTk hw (Or.inr (Or.inl rfl))) rfl hl.1 rfl (Nat.le_of_ble_eq_true rfl) dX4_home_27 ⟨Nat.zero_le _, Nat.zero_le _⟩ rfl (fun H locs hw => ?_)
    obtain ⟨S27, eS27, h⟩ := o_nm h
    rw [← eS27] at hw
    refine lv_aload_n hx hb dX4_home_30 rfl (lv_at hl 0 rfl) ?_
    refine lv_iload_n hx hb dX4_home_31 rfl (lv_at hl 2 rfl) ?_
    obtain ⟨q32, eq32, h⟩ := o_bd h
    refine kV (As := [.int a1]) (rest := []) (st' := [.int q32]) ⟨hx, hb, hml, hown, hts⟩ (kX3_isHome l G (Or.inr (Or.inl rfl)) rfl eq32) (cwV 1 hts gX4_home_X3_isHome rfl rfl rfl qqX3_isHome ⟨Nat.le_of_ble_eq_true rfl, Nat.le_of_ble_eq_true rfl⟩) hw (rvTk hw (Or.inr (Or.inl rfl))) rfl hl.1 rfl (Nat.le_of_ble_eq_true rfl) dX4_home_32 ⟨Nat.zero_le _, Nat.zero_le _⟩ rfl (fun H locs hw => ?_)
    refine lv_if_eq (tgt := 47) hx hb dX4_home_35 (by decide) (fun c35 => ?_) (fun c35 => ?_)
    · replace h := o_t c35 h
      refine lv_aload_n hx hb dX4_home_47 rfl (lv_at hl 1 rfl) ?_
      refine lv_ldc (v := -1000000004) hx hb hown (hts (.constant RX4 178 (-1000000004)) (by decide +kernel)) dX4_home_48 ?_
      obtain ⟨q50, eq50, h⟩ := o_bd h
      refine kV (As := [.int (-1000000004 : Int32)]) (rest := []) (st' := [.int q50.1]) ⟨hx, hb, hml, hown, hts⟩ (kX4_found l G eq50) (cwV 1 hts gX4_home_X4_found rfl rfl rfl qqX4_found ⟨Nat.le_of_ble_eq_true rfl, Nat.le_of_ble_eq_true rfl⟩) hw (rvOw hw) rfl hl.1 rfl (Nat.le_of_ble_eq_true rfl) dX4_home_50 ⟨Nat.zero_le _, Nat.zero_le _⟩ rfl (fun H locs hw => ?_)
      exact rI hQ hx hb hr hlk hw dX4_home_53 (o_2a h) (o_2b h) rfl
    · replace h := o_f c35 h
      refine lv_aload_n hx hb dX4_home_38 rfl (lv_at hl 0 rfl) ?_
      refine gTk (v := .ref (sA G 2 8)) hx hb hts hiX3 hown hw (Or.inr (Or.inl rfl)) rfl 13 (by decide) (hts (.fieldLink RX4 97 "SecondHome$Track" "homes" "[I") (by decide +kernel)) rfl dX4_home_39 ?_
      refine lv_iload_n hx hb dX4_home_42 rfl (lv_at hl 2 rfl) ?_
      obtain ⟨b43, h⟩ := o_in h
      refine ldTk hx hb hw (Or.inr (Or.inl rfl)) rfl 7 (by decide) b43 dX4_home_43 ?_
      refine lv_goto (tgt := 53) hx hb dX4_home_44 (by decide) ?_
      exact rI hQ hx hb hr hlk hw dX4_home_53 (o_2a h) (o_2b h) rfl
  · replace h := o_t c8 h
    refine lv_aload_n hx hb dX4_home_11 rfl (lv_at hl 0 rfl) ?_
    refine lv_ldc (v := -1000000001) hx hb hown (hts (.constant RX4 50 (-1000000001)) (by decide +kernel)) dX4_home_12 ?_
    obtain ⟨q14, eq14, h⟩ := o_bd h
    refine kV (As := [.int (-1000000001 : Int32)]) (rest := []) (st' := [.int q14.1]) ⟨hx, hb, hml, hown, hts⟩ (kX4_found l G eq14) (cwV 1 hts gX4_home_X4_found rfl rfl rfl qqX4_found ⟨Nat.le_of_ble_eq_true rfl, Nat.le_of_ble_eq_true rfl⟩) hw (rvOw hw) rfl hl.1 rfl (Nat.le_of_ble_eq_true rfl) dX4_home_14 ⟨Nat.zero_le _, Nat.zero_le _⟩ rfl (fun H locs hw => ?_)
    exact rI hQ hx hb hr hlk hw dX4_home_17 (o_2a h) (o_2b h) rfl
-- X4_prizeBy
def fX4_prizeBy (S : sWo) (a1 : Int32) : Option (Int32 × sWo) :=
  (fX4_isLaw a1).bind fun q1 => if q1 = 0 then ((fX4_found S (-1000000001 : Int32)).bind fun q10 => some (q10.1, q10.2)) else ((fX4_tryOut S).bind fun q15 => (fX3_goOn (q15 2) (2000 : Int32)).bind fun q23 => nm (sUp q15 2 q23) fun S23 => (fX3_allHome (S23 2)).bind fun q28 => if q28 = 0 then ((fX4_runnerOrNone S23 (-1 : Int32)).bind fun q43 => some (q43.1, q43.2)) else ((fX3_prizeOwner (S23 2) a1).bind fun q36 => (fX4_runnerOrNone S23 q36).bind fun q43 => some (q43.1, q43.2)))
def rmX4_prizeBy : Room := { frames := 5, cells := 0, slots := 0, locals := 112 }
theorem qqX4_prizeBy : yX4_prizeBy.cls = RX4 ∧ yX4_prizeBy.cls ≠ "java/lang/invoke/MethodHandle" ∧ yX4_prizeBy.cls ≠ "java/lang/invoke/VarHandle" ∧ (parseMethodDescriptor yX4_prizeBy.desc).map (fun d => d.parameters.length) = some 1 := by decide +kernel
set_option maxRecDepth 100000 in
set_option maxHeartbeats 4000000 in
theorem kX4_prizeBy (l : Launch) (G : sGl) {S : sWo} {M : sOb} {a1 : Int32} {q : (Int32 × sWo)}  (h : fX4_prizeBy S a1 = some q) : sCt l G yX4_prizeBy wsX4_prizeBy rmX4_prizeBy [.ref (sA G 0 0), .int a1] S M (some (.int q.1)) q.2 M := by
  refine cMk (cc := cX4_prizeBy) (maxL := 3) (ret := (some .int)) (by decide) rfl (Nat.le_of_ble_eq_true rfl) ?_
  intro p e s m args below meth c Q hQ hx hb hr hlk hml hown hts hw ls hl
  have hown : s.vm.findClass RX4 = some m.cls := hown
  have hl : lv_has ls 3 [(0, .ref (sA G 0 0)), (1, .int a1)] := hl
  unfold fX4_prizeBy at h
  refine lv_iload_n hx hb dX4_prizeBy_0 rfl (lv_at hl 1 rfl) ?_
  obtain ⟨q1, eq1, h⟩ := o_bd h
  refine kS (As := [.int a1]) (rest := []) (st' := [.int q1]) ⟨hx, hb, hml, hown, hts⟩ (kX4_isLaw l G eq1) (va_cwS 1 hts gX4_prizeBy_X4_isLaw rfl rfl rfl qqX4_isLaw ⟨Nat.le_of_ble_eq_true rfl, Nat.le_of_ble_eq_true rfl⟩) hw rfl hl.1 rfl (Nat.le_of_ble_eq_true rfl) dX4_prizeBy_1 ⟨Nat.zero_le _, Nat.zero_le _⟩ rfl (fun H locs hw => ?_)
  refine lv_if_ne (tgt := 14) hx hb dX4_prizeBy_4 (by decide) (fun c4 => ?_) (fun c4 => ?_)
  · replace h := o_f c4 h
    refine lv_aload_n hx hb dX4_prizeBy_14 rfl (lv_at hl 0 rfl) ?_
    obtain ⟨q15, eq15, h⟩ := o_bd h
    refine kV (As := []) (rest := []) (st' := [.ref (sA G 2 0)]) ⟨hx, hb, hml, hown, hts⟩ (kX4_tryOut l G eq15) (cwV 0 hts gX4_prizeBy_X4_tryOut rfl rfl rfl qqX4_tryOut ⟨Nat.le_of_ble_eq_true rfl, Nat.le_of_ble_eq_true rfl⟩) hw (rvOw hw) rfl hl.1 rfl (Nat.le_of_ble_eq_true rfl) dX4_prizeBy_15 ⟨Nat.zero_le _, Nat.zero_le _⟩ rfl (fun H locs hw => ?_)
    refine lv_astore_n (lv' := [(2, .ref (sA G 2 0)), (0, .ref (sA G 0 0)), (1, .int a1)]) hx hb dX4_prizeBy_18 rfl hl (by decide) rfl (fun ls hl => ?_)
    refine lv_aload_n hx hb dX4_prizeBy_19 rfl (lv_at hl 0 rfl) ?_
    refine lv_sipush (v := 2000) hx hb dX4_prizeBy_20 (by decide) ?_
    obtain ⟨q23, eq23, h⟩ := o_bd h
    refine kV (As := [.int (2000 : Int32)]) (rest := []) (st' := []) ⟨hx, hb, hml, hown, hts⟩ (kX3_goOn l G (Or.inr (Or.inl rfl)) rfl eq23) (cwV 1 hts gX4_prizeBy_X3_goOn rfl rfl rfl qqX3_goOn ⟨Nat.le_of_ble_eq_true rfl, Nat.le_of_ble_eq_true rfl⟩) hw (rvTk hw (Or.inr (Or.inl rfl))) rfl hl.1 rfl (Nat.le_of_ble_eq_true rfl) dX4_prizeBy_23 ⟨Nat.zero_le _, Nat.zero_le _⟩ rfl (fun H locs hw => ?_)
    obtain ⟨S23, eS23, h⟩ := o_nm h
    rw [← eS23] at hw
    refine lv_aload_n hx hb dX4_prizeBy_26 rfl (lv_at hl 1 rfl) ?_
    refine lv_aload_n hx hb dX4_prizeBy_27 rfl (lv_at hl 0 rfl) ?_
    obtain ⟨q28, eq28, h⟩ := o_bd h
    refine kV (As := []) (rest := [.ref (sA G 0 0)]) (st' := [.int q28, .ref (sA G 0 0)]) ⟨hx, hb, hml, hown, hts⟩ (kX3_allHome l G (Or.inr (Or.inl rfl)) rfl eq28) (cwV 0 hts gX4_prizeBy_X3_allHome rfl rfl rfl qqX3_allHome ⟨Nat.le_of_ble_eq_true rfl, Nat.le_of_ble_eq_true rfl⟩) hw (rvTk hw (Or.inr (Or.inl rfl))) rfl hl.1 rfl (Nat.le_of_ble_eq_true rfl) dX4_prizeBy_28 ⟨Nat.zero_le _, Nat.zero_le _⟩ rfl (fun H locs hw => ?_)
    refine lv_if_eq (tgt := 42) hx hb dX4_prizeBy_31 (by decide) (fun c31 => ?_) (fun c31 => ?_)
    · replace h := o_t c31 h
      refine lv_iconst (v := -1) hx hb dX4_prizeBy_42 (by decide) ?_
      obtain ⟨q43, eq43, h⟩ := o_bd h
      refine kV (As := [.int (-1 : Int32)]) (rest := []) (st' := [.int q43.1]) ⟨hx, hb, hml, hown, hts⟩ (kX4_runnerOrNone l G eq43) (cwV 1 hts gX4_prizeBy_X4_runnerOrNone rfl rfl rfl qqX4_runnerOrNone ⟨Nat.le_of_ble_eq_true rfl, Nat.le_of_ble_eq_true rfl⟩) hw (rvOw hw) rfl hl.1 rfl (Nat.le_of_ble_eq_true rfl) dX4_prizeBy_43 ⟨Nat.zero_le _, Nat.zero_le _⟩ rfl (fun H locs hw => ?_)
      exact rI hQ hx hb hr hlk hw dX4_prizeBy_46 (o_2a h) (o_2b h) rfl
    · replace h := o_f c31 h
      refine lv_aload_n hx hb dX4_prizeBy_34 rfl (lv_at hl 0 rfl) ?_
      refine lv_iload_n hx hb dX4_prizeBy_35 rfl (lv_at hl 2 rfl) ?_
      obtain ⟨q36, eq36, h⟩ := o_bd h
      refine kV (As := [.int a1]) (rest := [.ref (sA G 0 0)]) (st' := [.int q36, .ref (sA G 0 0)]) ⟨hx, hb, hml, hown, hts⟩ (kX3_prizeOwner l G (Or.inr (Or.inl rfl)) rfl eq36) (cwV 1 hts gX4_prizeBy_X3_prizeOwner rfl rfl rfl qqX3_prizeOwner ⟨Nat.le_of_ble_eq_true rfl, Nat.le_of_ble_eq_true rfl⟩) hw (rvTk hw (Or.inr (Or.inl rfl))) rfl hl.1 rfl (Nat.le_of_ble_eq_true rfl) dX4_prizeBy_36 ⟨Nat.zero_le _, Nat.zero_le _⟩ rfl (fun H locs hw => ?_)
      refine lv_goto (tgt := 43) hx hb dX4_prizeBy_39 (by decide) ?_
      obtain ⟨q43, eq43, h⟩ := o_bd h
      refine kV (As := [.int q36]) (rest := []) (st' := [.int q43.1]) ⟨hx, hb, hml, hown, hts⟩ (kX4_runnerOrNone l G eq43) (cwV 1 hts gX4_prizeBy_X4_runnerOrNone rfl rfl rfl qqX4_runnerOrNone ⟨Nat.le_of_ble_eq_true rfl, Nat.le_of_ble_eq_true rfl⟩) hw (rvOw hw) rfl hl.1 rfl (Nat.le_of_ble_eq_true rfl) dX4_prizeBy_43 ⟨Nat.zero_le _, Nat.zero_le _⟩ rfl (fun H locs hw => ?_)
      exact rI hQ hx hb hr hlk hw dX4_prizeBy_46 (o_2a h) (o_2b h) rfl
  · replace h := o_t c4 h
    refine lv_aload_n hx hb dX4_prizeBy_7 rfl (lv_at hl 0 rfl) ?_
    refine lv_ldc (v := -1000000001) hx hb hown (hts (.constant RX4 50 (-1000000001)) (by decide +kernel)) dX4_prizeBy_8 ?_
    obtain ⟨q10, eq10, h⟩ := o_bd h
    refine kV (As := [.int (-1000000001 : Int32)]) (rest := []) (st' := [.int q10.1]) ⟨hx, hb, hml, hown, hts⟩ (kX4_found l G eq10) (cwV 1 hts gX4_prizeBy_X4_found rfl rfl rfl qqX4_found ⟨Nat.le_of_ble_eq_true rfl, Nat.le_of_ble_eq_true rfl⟩) hw (rvOw hw) rfl hl.1 rfl (Nat.le_of_ble_eq_true rfl) dX4_prizeBy_10 ⟨Nat.zero_le _, Nat.zero_le _⟩ rfl (fun H locs hw => ?_)
    exact rI hQ hx hb hr hlk hw dX4_prizeBy_13 (o_2a h) (o_2b h) rfl
-- X4_leaders
def bX4_leaders_12 (rc12 : Int32 → Int32 → Int32 → sWo → Option (Int32 × sWo)) (x2_12 : Int32) (x3_12 : Int32) (x4_12 : Int32) (S_12 : sWo) : Option (Int32 × sWo) :=
  if (2000 : Int32) < x4_12 then (some (x3_12, S_12)) else ((fX3_allHome (S_12 2)).bind fun q21 => if q21 = 0 then ((fX3_firstAlone (S_12 2)).bind fun q28 => if q28 = (-1 : Int32) then ((fX3_goSecond (S_12 2)).bind fun q52 => nm (sUp S_12 2 q52) fun S52 => nm (x4_12 + (1 : Int32)) fun v55 => rc12 x2_12 x3_12 v55 S52) else (if q28 = x2_12 then ((fX3_goSecond (S_12 2)).bind fun q52 => nm (sUp S_12 2 q52) fun S52 => nm (x4_12 + (1 : Int32)) fun v55 => rc12 x2_12 x3_12 v55 S52) else (nm (x3_12 + (1 : Int32)) fun v48 => (fX3_goSecond (S_12 2)).bind fun q52 => nm (sUp S_12 2 q52) fun S52 => nm (x4_12 + (1 : Int32)) fun v55 => rc12 q28 v48 v55 S52))) else (some (x3_12, S_12)))
def fX4_leaders (S : sWo) : Option (Int32 × sWo) :=
  (fX4_tryOut S).bind fun q1 => fx4 bX4_leaders_12 FU (-1 : Int32) (0 : Int32) (0 : Int32) q1
def rmX4_leaders : Room := { frames := 4, cells := 0, slots := 0, locals := 90 }
theorem qqX4_leaders : yX4_leaders.cls = RX4 ∧ yX4_leaders.cls ≠ "java/lang/invoke/MethodHandle" ∧ yX4_leaders.cls ≠ "java/lang/invoke/VarHandle" ∧ (parseMethodDescriptor yX4_leaders.desc).map (fun d => d.parameters.length) = some 0 := by decide +kernel
set_option maxRecDepth 100000 in
set_option maxHeartbeats 4000000 in
theorem kX4_leaders (l : Launch) (G : sGl) {S : sWo} {M : sOb}  {q : (Int32 × sWo)}  (h : fX4_leaders S = some q) : sCt l G yX4_leaders wsX4_leaders rmX4_leaders [.ref (sA G 0 0)] S M (some (.int q.1)) q.2 M := by
  refine cMk (cc := cX4_leaders) (maxL := 6) (ret := (some .int)) (by decide) rfl (Nat.le_of_ble_eq_true rfl) ?_
  intro p e s m args below meth c Q hQ hx hb hr hlk hml hown hts hw ls hl
  have hown : s.vm.findClass RX4 = some m.cls := hown
  have hl : lv_has ls 6 [(0, .ref (sA G 0 0))] := hl
  unfold fX4_leaders at h
  refine lv_aload_n hx hb dX4_leaders_0 rfl (lv_at hl 0 rfl) ?_
  obtain ⟨q1, eq1, h⟩ := o_bd h
  refine kV (As := []) (rest := []) (st' := [.ref (sA G 2 0)]) ⟨hx, hb, hml, hown, hts⟩ (kX4_tryOut l G eq1) (cwV 0 hts gX4_leaders_X4_tryOut rfl rfl rfl qqX4_tryOut ⟨Nat.le_of_ble_eq_true rfl, Nat.le_of_ble_eq_true rfl⟩) hw (rvOw hw) rfl hl.1 rfl (Nat.le_of_ble_eq_true rfl) dX4_leaders_1 ⟨Nat.zero_le _, Nat.zero_le _⟩ rfl (fun H locs hw => ?_)
  refine lv_astore_n (lv' := [(1, .ref (sA G 2 0)), (0, .ref (sA G 0 0))]) hx hb dX4_leaders_4 rfl hl (by decide) rfl (fun ls hl => ?_)
  refine lv_iconst (v := -1) hx hb dX4_leaders_5 (by decide) ?_
  refine lv_istore_n (lv' := [(2, .int (-1 : Int32)), (1, .ref (sA G 2 0)), (0, .ref (sA G 0 0))]) hx hb dX4_leaders_6 rfl hl (by decide) rfl (fun ls hl => ?_)
  refine lv_iconst (v := 0) hx hb dX4_leaders_7 (by decide) ?_
  refine lv_istore_n (lv' := [(3, .int (0 : Int32)), (2, .int (-1 : Int32)), (1, .ref (sA G 2 0)), (0, .ref (sA G 0 0))]) hx hb dX4_leaders_8 rfl hl (by decide) rfl (fun ls hl => ?_)
  refine lv_iconst (v := 0) hx hb dX4_leaders_9 (by decide) ?_
  refine lv_istore (lv' := [(4, .int (0 : Int32)), (3, .int (0 : Int32)), (2, .int (-1 : Int32)), (1, .ref (sA G 2 0)), (0, .ref (sA G 0 0))]) hx hb dX4_leaders_10 hl (by decide) rfl (fun ls hl => ?_)
  refine fx4_w (F := bX4_leaders_12) (P := fun x2_12 x3_12 x4_12 S_12 => ∀ (H : Heap) (locs : List Loc) (ls : Array Slot), sHw G s S_12 M H locs → lv_has ls 6 [(1, .ref (sA G 2 0)), (2, .int x2_12), (3, .int x3_12), (4, .int x4_12)] → W p l e rmX4_leaders s m args below meth c H locs 0 0 Q (F0 m 12 ls [])) ?_ _ _ _ _ _ h _ _ _ hw (lv_sub hl [3, 2, 1, 0] rfl)
  intro rc12 IH12 x2_12 x3_12 x4_12 S_12 h H locs ls hw hl
  unfold bX4_leaders_12 at h
  refine lv_iload hx hb dX4_leaders_12 (lv_at hl 3 rfl) ?_
  refine lv_sipush (v := 2000) hx hb dX4_leaders_14 (by decide) ?_
  refine lv_icmp_gt (tgt := 61) hx hb dX4_leaders_17 (by decide) (fun c17 => ?_) (fun c17 => ?_)
  · replace h := o_t c17 h
    refine lv_iload_n hx hb dX4_leaders_61 rfl (lv_at hl 2 rfl) ?_
    exact rI hQ hx hb hr hlk hw dX4_leaders_62 (o_2a h) (o_2b h) rfl
  · replace h := o_f c17 h
    refine lv_aload_n hx hb dX4_leaders_20 rfl (lv_at hl 0 rfl) ?_
    obtain ⟨q21, eq21, h⟩ := o_bd h
    refine kV (As := []) (rest := []) (st' := [.int q21]) ⟨hx, hb, hml, hown, hts⟩ (kX3_allHome l G (Or.inr (Or.inl rfl)) rfl eq21) (cwV 0 hts gX4_leaders_X3_allHome rfl rfl rfl qqX3_allHome ⟨Nat.le_of_ble_eq_true rfl, Nat.le_of_ble_eq_true rfl⟩) hw (rvTk hw (Or.inr (Or.inl rfl))) rfl hl.1 rfl (Nat.le_of_ble_eq_true rfl) dX4_leaders_21 ⟨Nat.zero_le _, Nat.zero_le _⟩ rfl (fun H locs hw => ?_)
    refine lv_if_ne (tgt := 61) hx hb dX4_leaders_24 (by decide) (fun c24 => ?_) (fun c24 => ?_)
    · replace h := o_f c24 h
      refine lv_iload_n hx hb dX4_leaders_61 rfl (lv_at hl 2 rfl) ?_
      exact rI hQ hx hb hr hlk hw dX4_leaders_62 (o_2a h) (o_2b h) rfl
    · replace h := o_t c24 h
      refine lv_aload_n hx hb dX4_leaders_27 rfl (lv_at hl 0 rfl) ?_
      obtain ⟨q28, eq28, h⟩ := o_bd h
      refine kV (As := []) (rest := []) (st' := [.int q28]) ⟨hx, hb, hml, hown, hts⟩ (kX3_firstAlone l G (Or.inr (Or.inl rfl)) rfl eq28) (cwV 0 hts gX4_leaders_X3_firstAlone rfl rfl rfl qqX3_firstAlone ⟨Nat.le_of_ble_eq_true rfl, Nat.le_of_ble_eq_true rfl⟩) hw (rvTk hw (Or.inr (Or.inl rfl))) rfl hl.1 rfl (Nat.le_of_ble_eq_true rfl) dX4_leaders_28 ⟨Nat.zero_le _, Nat.zero_le _⟩ rfl (fun H locs hw => ?_)
      refine lv_istore (lv' := [(5, .int q28), (1, .ref (sA G 2 0)), (2, .int x2_12), (3, .int x3_12), (4, .int x4_12)]) hx hb dX4_leaders_31 hl (by decide) rfl (fun ls hl => ?_)
      refine lv_iload hx hb dX4_leaders_33 (lv_at hl 0 rfl) ?_
      refine lv_iconst (v := -1) hx hb dX4_leaders_35 (by decide) ?_
      refine lv_icmp_eq (tgt := 51) hx hb dX4_leaders_36 (by decide) (fun c36 => ?_) (fun c36 => ?_)
      · replace h := o_t c36 h
        refine lv_aload_n hx hb dX4_leaders_51 rfl (lv_at hl 1 rfl) ?_
        obtain ⟨q52, eq52, h⟩ := o_bd h
        refine kV (As := []) (rest := []) (st' := []) ⟨hx, hb, hml, hown, hts⟩ (kX3_goSecond l G (Or.inr (Or.inl rfl)) rfl eq52) (cwV 0 hts gX4_leaders_X3_goSecond rfl rfl rfl qqX3_goSecond ⟨Nat.le_of_ble_eq_true rfl, Nat.le_of_ble_eq_true rfl⟩) hw (rvTk hw (Or.inr (Or.inl rfl))) rfl hl.1 rfl (Nat.le_of_ble_eq_true rfl) dX4_leaders_52 ⟨Nat.zero_le _, Nat.zero_le _⟩ rfl (fun H locs hw => ?_)
        obtain ⟨S52, eS52, h⟩ := o_nm h
        rw [← eS52] at hw
        obtain ⟨v55, ev55, h⟩ := o_nm h
        refine lv_iinc (v := v55) (lv' := [(4, .int v55), (5, .int q28), (1, .ref (sA G 2 0)), (2, .int x2_12), (3, .int x3_12)]) hx hb dX4_leaders_55 hl (k := 4) rfl (by rw [ev55]; rfl) (by decide) rfl (fun ls hl => ?_)
        refine lv_goto (tgt := 12) hx hb dX4_leaders_58 (by decide) ?_
        exact IH12 x2_12 x3_12 v55 S52 h _ _ _ hw (lv_sub hl [2, 3, 4, 0] rfl)
      · replace h := o_f c36 h
        refine lv_iload hx hb dX4_leaders_39 (lv_at hl 0 rfl) ?_
        refine lv_iload_n hx hb dX4_leaders_41 rfl (lv_at hl 2 rfl) ?_
        refine lv_icmp_eq (tgt := 51) hx hb dX4_leaders_42 (by decide) (fun c42 => ?_) (fun c42 => ?_)
        · replace h := o_t c42 h
          refine lv_aload_n hx hb dX4_leaders_51 rfl (lv_at hl 1 rfl) ?_
          obtain ⟨q52, eq52, h⟩ := o_bd h
          refine kV (As := []) (rest := []) (st' := []) ⟨hx, hb, hml, hown, hts⟩ (kX3_goSecond l G (Or.inr (Or.inl rfl)) rfl eq52) (cwV 0 hts gX4_leaders_X3_goSecond rfl rfl rfl qqX3_goSecond ⟨Nat.le_of_ble_eq_true rfl, Nat.le_of_ble_eq_true rfl⟩) hw (rvTk hw (Or.inr (Or.inl rfl))) rfl hl.1 rfl (Nat.le_of_ble_eq_true rfl) dX4_leaders_52 ⟨Nat.zero_le _, Nat.zero_le _⟩ rfl (fun H locs hw => ?_)
          obtain ⟨S52, eS52, h⟩ := o_nm h
          rw [← eS52] at hw
          obtain ⟨v55, ev55, h⟩ := o_nm h
          refine lv_iinc (v := v55) (lv' := [(4, .int v55), (5, .int q28), (1, .ref (sA G 2 0)), (2, .int x2_12), (3, .int x3_12)]) hx hb dX4_leaders_55 hl (k := 4) rfl (by rw [ev55]; rfl) (by decide) rfl (fun ls hl => ?_)
          refine lv_goto (tgt := 12) hx hb dX4_leaders_58 (by decide) ?_
          exact IH12 x2_12 x3_12 v55 S52 h _ _ _ hw (lv_sub hl [2, 3, 4, 0] rfl)
        · replace h := o_f c42 h
          refine lv_iload hx hb dX4_leaders_45 (lv_at hl 0 rfl) ?_
          refine lv_istore_n (lv' := [(2, .int q28), (5, .int q28), (1, .ref (sA G 2 0)), (3, .int x3_12), (4, .int x4_12)]) hx hb dX4_leaders_47 rfl hl (by decide) rfl (fun ls hl => ?_)
          obtain ⟨v48, ev48, h⟩ := o_nm h
          refine lv_iinc (v := v48) (lv' := [(3, .int v48), (2, .int q28), (5, .int q28), (1, .ref (sA G 2 0)), (4, .int x4_12)]) hx hb dX4_leaders_48 hl (k := 3) rfl (by rw [ev48]; rfl) (by decide) rfl (fun ls hl => ?_)
          refine lv_aload_n hx hb dX4_leaders_51 rfl (lv_at hl 3 rfl) ?_
          obtain ⟨q52, eq52, h⟩ := o_bd h
          refine kV (As := []) (rest := []) (st' := []) ⟨hx, hb, hml, hown, hts⟩ (kX3_goSecond l G (Or.inr (Or.inl rfl)) rfl eq52) (cwV 0 hts gX4_leaders_X3_goSecond rfl rfl rfl qqX3_goSecond ⟨Nat.le_of_ble_eq_true rfl, Nat.le_of_ble_eq_true rfl⟩) hw (rvTk hw (Or.inr (Or.inl rfl))) rfl hl.1 rfl (Nat.le_of_ble_eq_true rfl) dX4_leaders_52 ⟨Nat.zero_le _, Nat.zero_le _⟩ rfl (fun H locs hw => ?_)
          obtain ⟨S52, eS52, h⟩ := o_nm h
          rw [← eS52] at hw
          obtain ⟨v55, ev55, h⟩ := o_nm h
          refine lv_iinc (v := v55) (lv' := [(4, .int v55), (3, .int v48), (2, .int q28), (5, .int q28), (1, .ref (sA G 2 0))]) hx hb dX4_leaders_55 hl (k := 4) rfl (by rw [ev55]; rfl) (by decide) rfl (fun ls hl => ?_)
          refine lv_goto (tgt := 12) hx hb dX4_leaders_58 (by decide) ?_
          exact IH12 q28 v48 v55 S52 h _ _ _ hw (lv_sub hl [4, 2, 1, 0] rfl)
-- X4_passes
def bX4_passes_42 (a1 : Int32) (a2 : Int32) (k75 : sWo → Option (Int32 × sWo)) (rc42 : Int32 → sWo → Option (Int32 × sWo)) (x4_42 : Int32) (S_42 : sWo) : Option (Int32 × sWo) :=
  if (2000 : Int32) < x4_42 then ((fX4_found S_42 (-1000000004 : Int32)).bind fun q91 => some (q91.1, q91.2)) else (if a1 < 0 ∨ 9 ≤ a1.toNatClampNeg then none else if a2 < 0 ∨ 9 ≤ a2.toNatClampNeg then none else if ((S_42 2).2.1 5 a1.toNatClampNeg) ≤ ((S_42 2).2.1 5 a2.toNatClampNeg) then ((fX3_allHome (S_42 2)).bind fun q69 => if q69 = 0 then ((fX3_goSecond (S_42 2)).bind fun q79 => nm (sUp S_42 2 q79) fun S79 => nm (x4_42 + (1 : Int32)) fun v82 => rc42 v82 S79) else (k75 S_42)) else (some (x4_42, S_42)))
def fX4_passes (S : sWo) (a1 : Int32) (a2 : Int32) : Option (Int32 × sWo) :=
  (fX3_has (S 1) a1).bind fun q5 => if q5 = 0 then ((fX4_found S (-1000000001 : Int32)).bind fun q30 => some (q30.1, q30.2)) else ((fX3_has (S 1) a2).bind fun q16 => if q16 = 0 then ((fX4_found S (-1000000001 : Int32)).bind fun q30 => some (q30.1, q30.2)) else (if a1 = a2 then ((fX4_found S (-1000000001 : Int32)).bind fun q30 => some (q30.1, q30.2)) else ((fX4_tryOut S).bind fun q35 => nm (fun (S_75 : sWo) => (fX4_found S_75 (-1000000004 : Int32)).bind fun q91 => some (q91.1, q91.2)) fun k75 => fx2 (bX4_passes_42 a1 a2 k75) FU (0 : Int32) q35)))
def rmX4_passes : Room := { frames := 4, cells := 0, slots := 0, locals := 90 }
theorem qqX4_passes : yX4_passes.cls = RX4 ∧ yX4_passes.cls ≠ "java/lang/invoke/MethodHandle" ∧ yX4_passes.cls ≠ "java/lang/invoke/VarHandle" ∧ (parseMethodDescriptor yX4_passes.desc).map (fun d => d.parameters.length) = some 2 := by decide +kernel
set_option maxRecDepth 100000 in
set_option maxHeartbeats 4000000 in
theorem kX4_passes (l : Launch) (G : sGl) {S : sWo} {M : sOb} {a1 : Int32} {a2 : Int32} {q : (Int32 × sWo)}  (h : fX4_passes S a1 a2 = some q) : sCt l G yX4_passes wsX4_passes rmX4_passes [.ref (sA G 0 0), .int a1, .int a2] S M (some (.int q.1)) q.2 M := by
  refine cMk (cc := cX4_passes) (maxL := 5) (ret := (some .int)) (by decide) rfl (Nat.le_of_ble_eq_true rfl) ?_
  intro p e s m args below meth c Q hQ hx hb hr hlk hml hown hts hw ls hl
  have hown : s.vm.findClass RX4 = some m.cls := hown
  have hl : lv_has ls 5 [(0, .ref (sA G 0 0)), (1, .int a1), (2, .int a2)] := hl
  have hiX3 : ∀ w ∈ u_ws RX3 TX3 15, w ∈ wsX4_passes := by decide +kernel
  have hiX4 : ∀ w ∈ u_ws RX4 TX4 7, w ∈ wsX4_passes := by decide +kernel
  unfold fX4_passes at h
  refine lv_aload_n hx hb dX4_passes_0 rfl (lv_at hl 0 rfl) ?_
  refine gOw (v := .ref (sA G 1 0)) hx hb hts hiX4 hown hw 0 (by decide) (hts (.fieldLink RX4 10 "SecondHome" "track" "LSecondHome$Track;") (by decide +kernel)) rfl dX4_passes_1 ?_
  refine lv_iload_n hx hb dX4_passes_4 rfl (lv_at hl 1 rfl) ?_
  obtain ⟨q5, eq5, h⟩ := o_bd h
  refine kV (As := [.int a1]) (rest := []) (st' := [.int q5]) ⟨hx, hb, hml, hown, hts⟩ (kX3_has l G (Or.inl rfl) rfl eq5) (cwV 1 hts gX4_passes_X3_has rfl rfl rfl qqX3_has ⟨Nat.le_of_ble_eq_true rfl, Nat.le_of_ble_eq_true rfl⟩) hw (rvTk hw (Or.inl rfl)) rfl hl.1 rfl (Nat.le_of_ble_eq_true rfl) dX4_passes_5 ⟨Nat.zero_le _, Nat.zero_le _⟩ rfl (fun H locs hw => ?_)
  refine lv_if_eq (tgt := 27) hx hb dX4_passes_8 (by decide) (fun c8 => ?_) (fun c8 => ?_)
  · replace h := o_t c8 h
    refine lv_aload_n hx hb dX4_passes_27 rfl (lv_at hl 0 rfl) ?_
    refine lv_ldc (v := -1000000001) hx hb hown (hts (.constant RX4 50 (-1000000001)) (by decide +kernel)) dX4_passes_28 ?_
    obtain ⟨q30, eq30, h⟩ := o_bd h
    refine kV (As := [.int (-1000000001 : Int32)]) (rest := []) (st' := [.int q30.1]) ⟨hx, hb, hml, hown, hts⟩ (kX4_found l G eq30) (cwV 1 hts gX4_passes_X4_found rfl rfl rfl qqX4_found ⟨Nat.le_of_ble_eq_true rfl, Nat.le_of_ble_eq_true rfl⟩) hw (rvOw hw) rfl hl.1 rfl (Nat.le_of_ble_eq_true rfl) dX4_passes_30 ⟨Nat.zero_le _, Nat.zero_le _⟩ rfl (fun H locs hw => ?_)
    exact rI hQ hx hb hr hlk hw dX4_passes_33 (o_2a h) (o_2b h) rfl
  · replace h := o_f c8 h
    refine lv_aload_n hx hb dX4_passes_11 rfl (lv_at hl 0 rfl) ?_
    refine gOw (v := .ref (sA G 1 0)) hx hb hts hiX4 hown hw 0 (by decide) (hts (.fieldLink RX4 10 "SecondHome" "track" "LSecondHome$Track;") (by decide +kernel)) rfl dX4_passes_12 ?_
    refine lv_iload_n hx hb dX4_passes_15 rfl (lv_at hl 2 rfl) ?_
    obtain ⟨q16, eq16, h⟩ := o_bd h
    refine kV (As := [.int a2]) (rest := []) (st' := [.int q16]) ⟨hx, hb, hml, hown, hts⟩ (kX3_has l G (Or.inl rfl) rfl eq16) (cwV 1 hts gX4_passes_X3_has rfl rfl rfl qqX3_has ⟨Nat.le_of_ble_eq_true rfl, Nat.le_of_ble_eq_true rfl⟩) hw (rvTk hw (Or.inl rfl)) rfl hl.1 rfl (Nat.le_of_ble_eq_true rfl) dX4_passes_16 ⟨Nat.zero_le _, Nat.zero_le _⟩ rfl (fun H locs hw => ?_)
    refine lv_if_eq (tgt := 27) hx hb dX4_passes_19 (by decide) (fun c19 => ?_) (fun c19 => ?_)
    · replace h := o_t c19 h
      refine lv_aload_n hx hb dX4_passes_27 rfl (lv_at hl 0 rfl) ?_
      refine lv_ldc (v := -1000000001) hx hb hown (hts (.constant RX4 50 (-1000000001)) (by decide +kernel)) dX4_passes_28 ?_
      obtain ⟨q30, eq30, h⟩ := o_bd h
      refine kV (As := [.int (-1000000001 : Int32)]) (rest := []) (st' := [.int q30.1]) ⟨hx, hb, hml, hown, hts⟩ (kX4_found l G eq30) (cwV 1 hts gX4_passes_X4_found rfl rfl rfl qqX4_found ⟨Nat.le_of_ble_eq_true rfl, Nat.le_of_ble_eq_true rfl⟩) hw (rvOw hw) rfl hl.1 rfl (Nat.le_of_ble_eq_true rfl) dX4_passes_30 ⟨Nat.zero_le _, Nat.zero_le _⟩ rfl (fun H locs hw => ?_)
      exact rI hQ hx hb hr hlk hw dX4_passes_33 (o_2a h) (o_2b h) rfl
    · replace h := o_f c19 h
      refine lv_iload_n hx hb dX4_passes_22 rfl (lv_at hl 1 rfl) ?_
      refine lv_iload_n hx hb dX4_passes_23 rfl (lv_at hl 2 rfl) ?_
      refine lv_icmp_ne (tgt := 34) hx hb dX4_passes_24 (by decide) (fun c24 => ?_) (fun c24 => ?_)
      · replace h := o_f c24 h
        refine lv_aload_n hx hb dX4_passes_34 rfl (lv_at hl 0 rfl) ?_
        obtain ⟨q35, eq35, h⟩ := o_bd h
        refine kV (As := []) (rest := []) (st' := [.ref (sA G 2 0)]) ⟨hx, hb, hml, hown, hts⟩ (kX4_tryOut l G eq35) (cwV 0 hts gX4_passes_X4_tryOut rfl rfl rfl qqX4_tryOut ⟨Nat.le_of_ble_eq_true rfl, Nat.le_of_ble_eq_true rfl⟩) hw (rvOw hw) rfl hl.1 rfl (Nat.le_of_ble_eq_true rfl) dX4_passes_35 ⟨Nat.zero_le _, Nat.zero_le _⟩ rfl (fun H locs hw => ?_)
        refine lv_astore_n (lv' := [(3, .ref (sA G 2 0)), (0, .ref (sA G 0 0)), (1, .int a1), (2, .int a2)]) hx hb dX4_passes_38 rfl hl (by decide) rfl (fun ls hl => ?_)
        refine lv_iconst (v := 0) hx hb dX4_passes_39 (by decide) ?_
        refine lv_istore (lv' := [(4, .int (0 : Int32)), (3, .ref (sA G 2 0)), (0, .ref (sA G 0 0)), (1, .int a1), (2, .int a2)]) hx hb dX4_passes_40 hl (by decide) rfl (fun ls hl => ?_)
        obtain ⟨k75, ek75, h⟩ := o_nm h
        have J75 : ∀ (S_75 : sWo) (H : Heap) (locs : List Loc) (ls : Array Slot), sHw G s S_75 M H locs → lv_has ls 5 [(0, .ref (sA G 0 0))] → k75 S_75 = some q → W p l e rmX4_passes s m args below meth c H locs 0 0 Q (F0 m 75 ls []) := by
          intro S_75 H locs ls hw hl h
          replace h := o_j1 ek75 h
          refine lv_goto (tgt := 88) hx hb dX4_passes_75 (by decide) ?_
          refine lv_aload_n hx hb dX4_passes_88 rfl (lv_at hl 0 rfl) ?_
          refine lv_ldc (v := -1000000004) hx hb hown (hts (.constant RX4 178 (-1000000004)) (by decide +kernel)) dX4_passes_89 ?_
          obtain ⟨q91, eq91, h⟩ := o_bd h
          refine kV (As := [.int (-1000000004 : Int32)]) (rest := []) (st' := [.int q91.1]) ⟨hx, hb, hml, hown, hts⟩ (kX4_found l G eq91) (cwV 1 hts gX4_passes_X4_found rfl rfl rfl qqX4_found ⟨Nat.le_of_ble_eq_true rfl, Nat.le_of_ble_eq_true rfl⟩) hw (rvOw hw) rfl hl.1 rfl (Nat.le_of_ble_eq_true rfl) dX4_passes_91 ⟨Nat.zero_le _, Nat.zero_le _⟩ rfl (fun H locs hw => ?_)
          exact rI hQ hx hb hr hlk hw dX4_passes_94 (o_2a h) (o_2b h) rfl
        refine fx2_w (F := (bX4_passes_42 a1 a2 k75)) (P := fun x4_42 S_42 => ∀ (H : Heap) (locs : List Loc) (ls : Array Slot), sHw G s S_42 M H locs → lv_has ls 5 [(0, .ref (sA G 0 0)), (1, .int a1), (2, .int a2), (3, .ref (sA G 2 0)), (4, .int x4_42)] → W p l e rmX4_passes s m args below meth c H locs 0 0 Q (F0 m 42 ls [])) ?_ _ _ _ h _ _ _ hw (lv_sub hl [2, 3, 4, 1, 0] rfl)
        intro rc42 IH42 x4_42 S_42 h H locs ls hw hl
        unfold bX4_passes_42 at h
        refine lv_iload hx hb dX4_passes_42 (lv_at hl 4 rfl) ?_
        refine lv_sipush (v := 2000) hx hb dX4_passes_44 (by decide) ?_
        refine lv_icmp_gt (tgt := 88) hx hb dX4_passes_47 (by decide) (fun c47 => ?_) (fun c47 => ?_)
        · replace h := o_t c47 h
          refine lv_aload_n hx hb dX4_passes_88 rfl (lv_at hl 0 rfl) ?_
          refine lv_ldc (v := -1000000004) hx hb hown (hts (.constant RX4 178 (-1000000004)) (by decide +kernel)) dX4_passes_89 ?_
          obtain ⟨q91, eq91, h⟩ := o_bd h
          refine kV (As := [.int (-1000000004 : Int32)]) (rest := []) (st' := [.int q91.1]) ⟨hx, hb, hml, hown, hts⟩ (kX4_found l G eq91) (cwV 1 hts gX4_passes_X4_found rfl rfl rfl qqX4_found ⟨Nat.le_of_ble_eq_true rfl, Nat.le_of_ble_eq_true rfl⟩) hw (rvOw hw) rfl hl.1 rfl (Nat.le_of_ble_eq_true rfl) dX4_passes_91 ⟨Nat.zero_le _, Nat.zero_le _⟩ rfl (fun H locs hw => ?_)
          exact rI hQ hx hb hr hlk hw dX4_passes_94 (o_2a h) (o_2b h) rfl
        · replace h := o_f c47 h
          refine lv_aload_n hx hb dX4_passes_50 rfl (lv_at hl 3 rfl) ?_
          refine gTk (v := .ref (sA G 2 6)) hx hb hts hiX3 hown hw (Or.inr (Or.inl rfl)) rfl 11 (by decide) (hts (.fieldLink RX4 91 "SecondHome$Track" "yards" "[I") (by decide +kernel)) rfl dX4_passes_51 ?_
          refine lv_iload_n hx hb dX4_passes_54 rfl (lv_at hl 1 rfl) ?_
          obtain ⟨b55, h⟩ := o_in h
          refine ldTk hx hb hw (Or.inr (Or.inl rfl)) rfl 5 (by decide) b55 dX4_passes_55 ?_
          refine lv_aload_n hx hb dX4_passes_56 rfl (lv_at hl 3 rfl) ?_
          refine gTk (v := .ref (sA G 2 6)) hx hb hts hiX3 hown hw (Or.inr (Or.inl rfl)) rfl 11 (by decide) (hts (.fieldLink RX4 91 "SecondHome$Track" "yards" "[I") (by decide +kernel)) rfl dX4_passes_57 ?_
          refine lv_iload_n hx hb dX4_passes_60 rfl (lv_at hl 2 rfl) ?_
          obtain ⟨b61, h⟩ := o_in h
          refine ldTk hx hb hw (Or.inr (Or.inl rfl)) rfl 5 (by decide) b61 dX4_passes_61 ?_
          refine lv_icmp_le (tgt := 68) hx hb dX4_passes_62 (by decide) (fun c62 => ?_) (fun c62 => ?_)
          · replace h := o_t c62 h
            refine lv_aload_n hx hb dX4_passes_68 rfl (lv_at hl 3 rfl) ?_
            obtain ⟨q69, eq69, h⟩ := o_bd h
            refine kV (As := []) (rest := []) (st' := [.int q69]) ⟨hx, hb, hml, hown, hts⟩ (kX3_allHome l G (Or.inr (Or.inl rfl)) rfl eq69) (cwV 0 hts gX4_passes_X3_allHome rfl rfl rfl qqX3_allHome ⟨Nat.le_of_ble_eq_true rfl, Nat.le_of_ble_eq_true rfl⟩) hw (rvTk hw (Or.inr (Or.inl rfl))) rfl hl.1 rfl (Nat.le_of_ble_eq_true rfl) dX4_passes_69 ⟨Nat.zero_le _, Nat.zero_le _⟩ rfl (fun H locs hw => ?_)
            refine lv_if_eq (tgt := 78) hx hb dX4_passes_72 (by decide) (fun c72 => ?_) (fun c72 => ?_)
            · replace h := o_t c72 h
              refine lv_aload_n hx hb dX4_passes_78 rfl (lv_at hl 3 rfl) ?_
              obtain ⟨q79, eq79, h⟩ := o_bd h
              refine kV (As := []) (rest := []) (st' := []) ⟨hx, hb, hml, hown, hts⟩ (kX3_goSecond l G (Or.inr (Or.inl rfl)) rfl eq79) (cwV 0 hts gX4_passes_X3_goSecond rfl rfl rfl qqX3_goSecond ⟨Nat.le_of_ble_eq_true rfl, Nat.le_of_ble_eq_true rfl⟩) hw (rvTk hw (Or.inr (Or.inl rfl))) rfl hl.1 rfl (Nat.le_of_ble_eq_true rfl) dX4_passes_79 ⟨Nat.zero_le _, Nat.zero_le _⟩ rfl (fun H locs hw => ?_)
              obtain ⟨S79, eS79, h⟩ := o_nm h
              rw [← eS79] at hw
              obtain ⟨v82, ev82, h⟩ := o_nm h
              refine lv_iinc (v := v82) (lv' := [(4, .int v82), (0, .ref (sA G 0 0)), (1, .int a1), (2, .int a2), (3, .ref (sA G 2 0))]) hx hb dX4_passes_82 hl (k := 4) rfl (by rw [ev82]; rfl) (by decide) rfl (fun ls hl => ?_)
              refine lv_goto (tgt := 42) hx hb dX4_passes_85 (by decide) ?_
              exact IH42 v82 S79 h _ _ _ hw (lv_sub hl [1, 2, 3, 4, 0] rfl)
            · replace h := o_f c72 h
              exact J75 S_42 _ _ _ hw (lv_sub hl [0] rfl) h
          · replace h := o_f c62 h
            refine lv_iload hx hb dX4_passes_65 (lv_at hl 4 rfl) ?_
            exact rI hQ hx hb hr hlk hw dX4_passes_67 (o_2a h) (o_2b h) rfl
      · replace h := o_t c24 h
        refine lv_aload_n hx hb dX4_passes_27 rfl (lv_at hl 0 rfl) ?_
        refine lv_ldc (v := -1000000001) hx hb hown (hts (.constant RX4 50 (-1000000001)) (by decide +kernel)) dX4_passes_28 ?_
        obtain ⟨q30, eq30, h⟩ := o_bd h
        refine kV (As := [.int (-1000000001 : Int32)]) (rest := []) (st' := [.int q30.1]) ⟨hx, hb, hml, hown, hts⟩ (kX4_found l G eq30) (cwV 1 hts gX4_passes_X4_found rfl rfl rfl qqX4_found ⟨Nat.le_of_ble_eq_true rfl, Nat.le_of_ble_eq_true rfl⟩) hw (rvOw hw) rfl hl.1 rfl (Nat.le_of_ble_eq_true rfl) dX4_passes_30 ⟨Nat.zero_le _, Nat.zero_le _⟩ rfl (fun H locs hw => ?_)
        exact rI hQ hx hb hr hlk hw dX4_passes_33 (o_2a h) (o_2b h) rfl
-- X4_race
def fX4_race (S : sWo) : Option (Int32 × sWo) :=
  (fX4_tryOut S).bind fun q2 => (fX3_raceOwner (q2 2)).bind fun q5 => nm (sUp q2 2 q5.2) fun S5 => (fX4_runnerOrNone S5 q5.1).bind fun q8 => some (q8.1, q8.2)
def rmX4_race : Room := { frames := 6, cells := 0, slots := 0, locals := 132 }
theorem qqX4_race : yX4_race.cls = RX4 ∧ yX4_race.cls ≠ "java/lang/invoke/MethodHandle" ∧ yX4_race.cls ≠ "java/lang/invoke/VarHandle" ∧ (parseMethodDescriptor yX4_race.desc).map (fun d => d.parameters.length) = some 0 := by decide +kernel
set_option maxRecDepth 100000 in
set_option maxHeartbeats 4000000 in
theorem kX4_race (l : Launch) (G : sGl) {S : sWo} {M : sOb}  {q : (Int32 × sWo)}  (h : fX4_race S = some q) : sCt l G yX4_race wsX4_race rmX4_race [.ref (sA G 0 0)] S M (some (.int q.1)) q.2 M := by
  refine cMk (cc := cX4_race) (maxL := 1) (ret := (some .int)) (by decide) rfl (Nat.le_of_ble_eq_true rfl) ?_
  intro p e s m args below meth c Q hQ hx hb hr hlk hml hown hts hw ls hl
  have hown : s.vm.findClass RX4 = some m.cls := hown
  have hl : lv_has ls 1 [(0, .ref (sA G 0 0))] := hl
  unfold fX4_race at h
  refine lv_aload_n hx hb dX4_race_0 rfl (lv_at hl 0 rfl) ?_
  refine lv_aload_n hx hb dX4_race_1 rfl (lv_at hl 0 rfl) ?_
  obtain ⟨q2, eq2, h⟩ := o_bd h
  refine kV (As := []) (rest := [.ref (sA G 0 0)]) (st' := [.ref (sA G 2 0), .ref (sA G 0 0)]) ⟨hx, hb, hml, hown, hts⟩ (kX4_tryOut l G eq2) (cwV 0 hts gX4_race_X4_tryOut rfl rfl rfl qqX4_tryOut ⟨Nat.le_of_ble_eq_true rfl, Nat.le_of_ble_eq_true rfl⟩) hw (rvOw hw) rfl hl.1 rfl (Nat.le_of_ble_eq_true rfl) dX4_race_2 ⟨Nat.zero_le _, Nat.zero_le _⟩ rfl (fun H locs hw => ?_)
  obtain ⟨q5, eq5, h⟩ := o_bd h
  refine kV (As := []) (rest := [.ref (sA G 0 0)]) (st' := [.int q5.1, .ref (sA G 0 0)]) ⟨hx, hb, hml, hown, hts⟩ (kX3_raceOwner l G (Or.inr (Or.inl rfl)) rfl eq5) (cwV 0 hts gX4_race_X3_raceOwner rfl rfl rfl qqX3_raceOwner ⟨Nat.le_of_ble_eq_true rfl, Nat.le_of_ble_eq_true rfl⟩) hw (rvTk hw (Or.inr (Or.inl rfl))) rfl hl.1 rfl (Nat.le_of_ble_eq_true rfl) dX4_race_5 ⟨Nat.zero_le _, Nat.zero_le _⟩ rfl (fun H locs hw => ?_)
  obtain ⟨S5, eS5, h⟩ := o_nm h
  rw [← eS5] at hw
  obtain ⟨q8, eq8, h⟩ := o_bd h
  refine kV (As := [.int q5.1]) (rest := []) (st' := [.int q8.1]) ⟨hx, hb, hml, hown, hts⟩ (kX4_runnerOrNone l G eq8) (cwV 1 hts gX4_race_X4_runnerOrNone rfl rfl rfl qqX4_runnerOrNone ⟨Nat.le_of_ble_eq_true rfl, Nat.le_of_ble_eq_true rfl⟩) hw (rvOw hw) rfl hl.1 rfl (Nat.le_of_ble_eq_true rfl) dX4_race_8 ⟨Nat.zero_le _, Nat.zero_le _⟩ rfl (fun H locs hw => ?_)
  exact rI hQ hx hb hr hlk hw dX4_race_11 (o_2a h) (o_2b h) rfl
-- X4_pace
def bX4_pace_20 (a1 : Int32) (rc20 : Int32 → sWo → Option (Int32 × sWo)) (x2_20 : Int32) (S_20 : sWo) : Option (Int32 × sWo) :=
  if (12 : Int32) < x2_20 then ((fX4_found S_20 (-1000000004 : Int32)).bind fun q57 => some (q57.1, q57.2)) else ((fX4_tryOut S_20).bind fun q27 => if a1 < 0 ∨ 9 ≤ a1.toNatClampNeg then none else nm (sUp q27 2 (sSa (q27 2) 1 a1.toNatClampNeg x2_20)) fun S37 => (fX3_raceOwner (S37 2)).bind fun q39 => nm (sUp S37 2 q39.2) fun S39 => if q39.1 = a1 then (some (x2_20, S39)) else (nm (x2_20 + (1 : Int32)) fun v48 => rc20 v48 S39))
def fX4_pace (S : sWo) (a1 : Int32) : Option (Int32 × sWo) :=
  (fX3_has (S 1) a1).bind fun q5 => if q5 = 0 then ((fX4_found S (-1000000001 : Int32)).bind fun q14 => some (q14.1, q14.2)) else (fx2 (bX4_pace_20 a1) FU (1 : Int32) S)
def rmX4_pace : Room := { frames := 6, cells := 0, slots := 0, locals := 132 }
theorem qqX4_pace : yX4_pace.cls = RX4 ∧ yX4_pace.cls ≠ "java/lang/invoke/MethodHandle" ∧ yX4_pace.cls ≠ "java/lang/invoke/VarHandle" ∧ (parseMethodDescriptor yX4_pace.desc).map (fun d => d.parameters.length) = some 1 := by decide +kernel
set_option maxRecDepth 100000 in
set_option maxHeartbeats 4000000 in
theorem kX4_pace (l : Launch) (G : sGl) {S : sWo} {M : sOb} {a1 : Int32} {q : (Int32 × sWo)}  (h : fX4_pace S a1 = some q) : sCt l G yX4_pace wsX4_pace rmX4_pace [.ref (sA G 0 0), .int a1] S M (some (.int q.1)) q.2 M := by
  refine cMk (cc := cX4_pace) (maxL := 4) (ret := (some .int)) (by decide) rfl (Nat.le_of_ble_eq_true rfl) ?_
  intro p e s m args below meth c Q hQ hx hb hr hlk hml hown hts hw ls hl
  have hown : s.vm.findClass RX4 = some m.cls := hown
  have hl : lv_has ls 4 [(0, .ref (sA G 0 0)), (1, .int a1)] := hl
  have hiX3 : ∀ w ∈ u_ws RX3 TX3 15, w ∈ wsX4_pace := by decide +kernel
  have hiX4 : ∀ w ∈ u_ws RX4 TX4 7, w ∈ wsX4_pace := by decide +kernel
  unfold fX4_pace at h
  refine lv_aload_n hx hb dX4_pace_0 rfl (lv_at hl 0 rfl) ?_
  refine gOw (v := .ref (sA G 1 0)) hx hb hts hiX4 hown hw 0 (by decide) (hts (.fieldLink RX4 10 "SecondHome" "track" "LSecondHome$Track;") (by decide +kernel)) rfl dX4_pace_1 ?_
  refine lv_iload_n hx hb dX4_pace_4 rfl (lv_at hl 1 rfl) ?_
  obtain ⟨q5, eq5, h⟩ := o_bd h
  refine kV (As := [.int a1]) (rest := []) (st' := [.int q5]) ⟨hx, hb, hml, hown, hts⟩ (kX3_has l G (Or.inl rfl) rfl eq5) (cwV 1 hts gX4_pace_X3_has rfl rfl rfl qqX3_has ⟨Nat.le_of_ble_eq_true rfl, Nat.le_of_ble_eq_true rfl⟩) hw (rvTk hw (Or.inl rfl)) rfl hl.1 rfl (Nat.le_of_ble_eq_true rfl) dX4_pace_5 ⟨Nat.zero_le _, Nat.zero_le _⟩ rfl (fun H locs hw => ?_)
  refine lv_if_ne (tgt := 18) hx hb dX4_pace_8 (by decide) (fun c8 => ?_) (fun c8 => ?_)
  · replace h := o_f c8 h
    refine lv_iconst (v := 1) hx hb dX4_pace_18 (by decide) ?_
    refine lv_istore_n (lv' := [(2, .int (1 : Int32)), (0, .ref (sA G 0 0)), (1, .int a1)]) hx hb dX4_pace_19 rfl hl (by decide) rfl (fun ls hl => ?_)
    refine fx2_w (F := (bX4_pace_20 a1)) (P := fun x2_20 S_20 => ∀ (H : Heap) (locs : List Loc) (ls : Array Slot), sHw G s S_20 M H locs → lv_has ls 4 [(0, .ref (sA G 0 0)), (1, .int a1), (2, .int x2_20)] → W p l e rmX4_pace s m args below meth c H locs 0 0 Q (F0 m 20 ls [])) ?_ _ _ _ h _ _ _ hw (lv_sub hl [1, 2, 0] rfl)
    intro rc20 IH20 x2_20 S_20 h H locs ls hw hl
    unfold bX4_pace_20 at h
    refine lv_iload_n hx hb dX4_pace_20 rfl (lv_at hl 2 rfl) ?_
    refine lv_bipush (v := 12) hx hb dX4_pace_21 (by decide) ?_
    refine lv_icmp_gt (tgt := 54) hx hb dX4_pace_23 (by decide) (fun c23 => ?_) (fun c23 => ?_)
    · replace h := o_t c23 h
      refine lv_aload_n hx hb dX4_pace_54 rfl (lv_at hl 0 rfl) ?_
      refine lv_ldc (v := -1000000004) hx hb hown (hts (.constant RX4 178 (-1000000004)) (by decide +kernel)) dX4_pace_55 ?_
      obtain ⟨q57, eq57, h⟩ := o_bd h
      refine kV (As := [.int (-1000000004 : Int32)]) (rest := []) (st' := [.int q57.1]) ⟨hx, hb, hml, hown, hts⟩ (kX4_found l G eq57) (cwV 1 hts gX4_pace_X4_found rfl rfl rfl qqX4_found ⟨Nat.le_of_ble_eq_true rfl, Nat.le_of_ble_eq_true rfl⟩) hw (rvOw hw) rfl hl.1 rfl (Nat.le_of_ble_eq_true rfl) dX4_pace_57 ⟨Nat.zero_le _, Nat.zero_le _⟩ rfl (fun H locs hw => ?_)
      exact rI hQ hx hb hr hlk hw dX4_pace_60 (o_2a h) (o_2b h) rfl
    · replace h := o_f c23 h
      refine lv_aload_n hx hb dX4_pace_26 rfl (lv_at hl 0 rfl) ?_
      obtain ⟨q27, eq27, h⟩ := o_bd h
      refine kV (As := []) (rest := []) (st' := [.ref (sA G 2 0)]) ⟨hx, hb, hml, hown, hts⟩ (kX4_tryOut l G eq27) (cwV 0 hts gX4_pace_X4_tryOut rfl rfl rfl qqX4_tryOut ⟨Nat.le_of_ble_eq_true rfl, Nat.le_of_ble_eq_true rfl⟩) hw (rvOw hw) rfl hl.1 rfl (Nat.le_of_ble_eq_true rfl) dX4_pace_27 ⟨Nat.zero_le _, Nat.zero_le _⟩ rfl (fun H locs hw => ?_)
      refine lv_astore_n (lv' := [(3, .ref (sA G 2 0)), (0, .ref (sA G 0 0)), (1, .int a1), (2, .int x2_20)]) hx hb dX4_pace_30 rfl hl (by decide) rfl (fun ls hl => ?_)
      refine lv_aload_n hx hb dX4_pace_31 rfl (lv_at hl 0 rfl) ?_
      refine gTk (v := .ref (sA G 2 2)) hx hb hts hiX3 hown hw (Or.inr (Or.inl rfl)) rfl 7 (by decide) (hts (.fieldLink RX4 79 "SecondHome$Track" "paces" "[I") (by decide +kernel)) rfl dX4_pace_32 ?_
      refine lv_iload_n hx hb dX4_pace_35 rfl (lv_at hl 2 rfl) ?_
      refine lv_iload_n hx hb dX4_pace_36 rfl (lv_at hl 3 rfl) ?_
      obtain ⟨b37, h⟩ := o_in h
      refine stTk hx hb hw (Or.inr (Or.inl rfl)) rfl 1 (by decide) b37 dX4_pace_37 rfl (fun H locs hw => ?_)
      obtain ⟨S37, eS37, h⟩ := o_nm h
      rw [← eS37] at hw
      refine lv_aload_n hx hb dX4_pace_38 rfl (lv_at hl 0 rfl) ?_
      obtain ⟨q39, eq39, h⟩ := o_bd h
      refine kV (As := []) (rest := []) (st' := [.int q39.1]) ⟨hx, hb, hml, hown, hts⟩ (kX3_raceOwner l G (Or.inr (Or.inl rfl)) rfl eq39) (cwV 0 hts gX4_pace_X3_raceOwner rfl rfl rfl qqX3_raceOwner ⟨Nat.le_of_ble_eq_true rfl, Nat.le_of_ble_eq_true rfl⟩) hw (rvTk hw (Or.inr (Or.inl rfl))) rfl hl.1 rfl (Nat.le_of_ble_eq_true rfl) dX4_pace_39 ⟨Nat.zero_le _, Nat.zero_le _⟩ rfl (fun H locs hw => ?_)
      obtain ⟨S39, eS39, h⟩ := o_nm h
      rw [← eS39] at hw
      refine lv_iload_n hx hb dX4_pace_42 rfl (lv_at hl 2 rfl) ?_
      refine lv_icmp_ne (tgt := 48) hx hb dX4_pace_43 (by decide) (fun c43 => ?_) (fun c43 => ?_)
      · replace h := o_f c43 h
        obtain ⟨v48, ev48, h⟩ := o_nm h
        refine lv_iinc (v := v48) (lv' := [(2, .int v48), (3, .ref (sA G 2 0)), (0, .ref (sA G 0 0)), (1, .int a1)]) hx hb dX4_pace_48 hl (k := 3) rfl (by rw [ev48]; rfl) (by decide) rfl (fun ls hl => ?_)
        refine lv_goto (tgt := 20) hx hb dX4_pace_51 (by decide) ?_
        exact IH20 v48 S39 h _ _ _ hw (lv_sub hl [2, 3, 0] rfl)
      · replace h := o_t c43 h
        refine lv_iload_n hx hb dX4_pace_46 rfl (lv_at hl 3 rfl) ?_
        exact rI hQ hx hb hr hlk hw dX4_pace_47 (o_2a h) (o_2b h) rfl
  · replace h := o_t c8 h
    refine lv_aload_n hx hb dX4_pace_11 rfl (lv_at hl 0 rfl) ?_
    refine lv_ldc (v := -1000000001) hx hb hown (hts (.constant RX4 50 (-1000000001)) (by decide +kernel)) dX4_pace_12 ?_
    obtain ⟨q14, eq14, h⟩ := o_bd h
    refine kV (As := [.int (-1000000001 : Int32)]) (rest := []) (st' := [.int q14.1]) ⟨hx, hb, hml, hown, hts⟩ (kX4_found l G eq14) (cwV 1 hts gX4_pace_X4_found rfl rfl rfl qqX4_found ⟨Nat.le_of_ble_eq_true rfl, Nat.le_of_ble_eq_true rfl⟩) hw (rvOw hw) rfl hl.1 rfl (Nat.le_of_ble_eq_true rfl) dX4_pace_14 ⟨Nat.zero_le _, Nat.zero_le _⟩ rfl (fun H locs hw => ?_)
    exact rI hQ hx hb hr hlk hw dX4_pace_17 (o_2a h) (o_2b h) rfl
-- X4_kind
def bX4_kind_20 (a1 : Int32) (rc20 : Int32 → sWo → Option (Int32 × sWo)) (x2_20 : Int32) (S_20 : sWo) : Option (Int32 × sWo) :=
  if (6 : Int32) ≤ x2_20 then ((fX4_found S_20 (-1000000004 : Int32)).bind fun q57 => some (q57.1, q57.2)) else ((fX4_tryOut S_20).bind fun q27 => if a1 < 0 ∨ 9 ≤ a1.toNatClampNeg then none else nm (sUp q27 2 (sSa (q27 2) 0 a1.toNatClampNeg x2_20)) fun S37 => (fX3_raceOwner (S37 2)).bind fun q39 => nm (sUp S37 2 q39.2) fun S39 => if q39.1 = a1 then (some (x2_20, S39)) else (nm (x2_20 + (1 : Int32)) fun v48 => rc20 v48 S39))
def fX4_kind (S : sWo) (a1 : Int32) : Option (Int32 × sWo) :=
  (fX3_has (S 1) a1).bind fun q5 => if q5 = 0 then ((fX4_found S (-1000000001 : Int32)).bind fun q14 => some (q14.1, q14.2)) else (fx2 (bX4_kind_20 a1) FU (0 : Int32) S)
def rmX4_kind : Room := { frames := 6, cells := 0, slots := 0, locals := 132 }
theorem qqX4_kind : yX4_kind.cls = RX4 ∧ yX4_kind.cls ≠ "java/lang/invoke/MethodHandle" ∧ yX4_kind.cls ≠ "java/lang/invoke/VarHandle" ∧ (parseMethodDescriptor yX4_kind.desc).map (fun d => d.parameters.length) = some 1 := by decide +kernel
set_option maxRecDepth 100000 in
set_option maxHeartbeats 4000000 in
theorem kX4_kind (l : Launch) (G : sGl) {S : sWo} {M : sOb} {a1 : Int32} {q : (Int32 × sWo)}  (h : fX4_kind S a1 = some q) : sCt l G yX4_kind wsX4_kind rmX4_kind [.ref (sA G 0 0), .int a1] S M (some (.int q.1)) q.2 M := by
  refine cMk (cc := cX4_kind) (maxL := 4) (ret := (some .int)) (by decide) rfl (Nat.le_of_ble_eq_true rfl) ?_
  intro p e s m args below meth c Q hQ hx hb hr hlk hml hown hts hw ls hl
  have hown : s.vm.findClass RX4 = some m.cls := hown
  have hl : lv_has ls 4 [(0, .ref (sA G 0 0)), (1, .int a1)] := hl
  have hiX3 : ∀ w ∈ u_ws RX3 TX3 15, w ∈ wsX4_kind := by decide +kernel
  have hiX4 : ∀ w ∈ u_ws RX4 TX4 7, w ∈ wsX4_kind := by decide +kernel
  unfold fX4_kind at h
  refine lv_aload_n hx hb dX4_kind_0 rfl (lv_at hl 0 rfl) ?_
  refine gOw (v := .ref (sA G 1 0)) hx hb hts hiX4 hown hw 0 (by decide) (hts (.fieldLink RX4 10 "SecondHome" "track" "LSecondHome$Track;") (by decide +kernel)) rfl dX4_kind_1 ?_
  refine lv_iload_n hx hb dX4_kind_4 rfl (lv_at hl 1 rfl) ?_
  obtain ⟨q5, eq5, h⟩ := o_bd h
  refine kV (As := [.int a1]) (rest := []) (st' := [.int q5]) ⟨hx, hb, hml, hown, hts⟩ (kX3_has l G (Or.inl rfl) rfl eq5) (cwV 1 hts gX4_kind_X3_has rfl rfl rfl qqX3_has ⟨Nat.le_of_ble_eq_true rfl, Nat.le_of_ble_eq_true rfl⟩) hw (rvTk hw (Or.inl rfl)) rfl hl.1 rfl (Nat.le_of_ble_eq_true rfl) dX4_kind_5 ⟨Nat.zero_le _, Nat.zero_le _⟩ rfl (fun H locs hw => ?_)
  refine lv_if_ne (tgt := 18) hx hb dX4_kind_8 (by decide) (fun c8 => ?_) (fun c8 => ?_)
  · replace h := o_f c8 h
    refine lv_iconst (v := 0) hx hb dX4_kind_18 (by decide) ?_
    refine lv_istore_n (lv' := [(2, .int (0 : Int32)), (0, .ref (sA G 0 0)), (1, .int a1)]) hx hb dX4_kind_19 rfl hl (by decide) rfl (fun ls hl => ?_)
    refine fx2_w (F := (bX4_kind_20 a1)) (P := fun x2_20 S_20 => ∀ (H : Heap) (locs : List Loc) (ls : Array Slot), sHw G s S_20 M H locs → lv_has ls 4 [(0, .ref (sA G 0 0)), (1, .int a1), (2, .int x2_20)] → W p l e rmX4_kind s m args below meth c H locs 0 0 Q (F0 m 20 ls [])) ?_ _ _ _ h _ _ _ hw (lv_sub hl [1, 2, 0] rfl)
    intro rc20 IH20 x2_20 S_20 h H locs ls hw hl
    unfold bX4_kind_20 at h
    refine lv_iload_n hx hb dX4_kind_20 rfl (lv_at hl 2 rfl) ?_
    refine lv_bipush (v := 6) hx hb dX4_kind_21 (by decide) ?_
    refine lv_icmp_ge (tgt := 54) hx hb dX4_kind_23 (by decide) (fun c23 => ?_) (fun c23 => ?_)
    · replace h := o_t c23 h
      refine lv_aload_n hx hb dX4_kind_54 rfl (lv_at hl 0 rfl) ?_
      refine lv_ldc (v := -1000000004) hx hb hown (hts (.constant RX4 178 (-1000000004)) (by decide +kernel)) dX4_kind_55 ?_
      obtain ⟨q57, eq57, h⟩ := o_bd h
      refine kV (As := [.int (-1000000004 : Int32)]) (rest := []) (st' := [.int q57.1]) ⟨hx, hb, hml, hown, hts⟩ (kX4_found l G eq57) (cwV 1 hts gX4_kind_X4_found rfl rfl rfl qqX4_found ⟨Nat.le_of_ble_eq_true rfl, Nat.le_of_ble_eq_true rfl⟩) hw (rvOw hw) rfl hl.1 rfl (Nat.le_of_ble_eq_true rfl) dX4_kind_57 ⟨Nat.zero_le _, Nat.zero_le _⟩ rfl (fun H locs hw => ?_)
      exact rI hQ hx hb hr hlk hw dX4_kind_60 (o_2a h) (o_2b h) rfl
    · replace h := o_f c23 h
      refine lv_aload_n hx hb dX4_kind_26 rfl (lv_at hl 0 rfl) ?_
      obtain ⟨q27, eq27, h⟩ := o_bd h
      refine kV (As := []) (rest := []) (st' := [.ref (sA G 2 0)]) ⟨hx, hb, hml, hown, hts⟩ (kX4_tryOut l G eq27) (cwV 0 hts gX4_kind_X4_tryOut rfl rfl rfl qqX4_tryOut ⟨Nat.le_of_ble_eq_true rfl, Nat.le_of_ble_eq_true rfl⟩) hw (rvOw hw) rfl hl.1 rfl (Nat.le_of_ble_eq_true rfl) dX4_kind_27 ⟨Nat.zero_le _, Nat.zero_le _⟩ rfl (fun H locs hw => ?_)
      refine lv_astore_n (lv' := [(3, .ref (sA G 2 0)), (0, .ref (sA G 0 0)), (1, .int a1), (2, .int x2_20)]) hx hb dX4_kind_30 rfl hl (by decide) rfl (fun ls hl => ?_)
      refine lv_aload_n hx hb dX4_kind_31 rfl (lv_at hl 0 rfl) ?_
      refine gTk (v := .ref (sA G 2 1)) hx hb hts hiX3 hown hw (Or.inr (Or.inl rfl)) rfl 6 (by decide) (hts (.fieldLink RX4 76 "SecondHome$Track" "kinds" "[I") (by decide +kernel)) rfl dX4_kind_32 ?_
      refine lv_iload_n hx hb dX4_kind_35 rfl (lv_at hl 2 rfl) ?_
      refine lv_iload_n hx hb dX4_kind_36 rfl (lv_at hl 3 rfl) ?_
      obtain ⟨b37, h⟩ := o_in h
      refine stTk hx hb hw (Or.inr (Or.inl rfl)) rfl 0 (by decide) b37 dX4_kind_37 rfl (fun H locs hw => ?_)
      obtain ⟨S37, eS37, h⟩ := o_nm h
      rw [← eS37] at hw
      refine lv_aload_n hx hb dX4_kind_38 rfl (lv_at hl 0 rfl) ?_
      obtain ⟨q39, eq39, h⟩ := o_bd h
      refine kV (As := []) (rest := []) (st' := [.int q39.1]) ⟨hx, hb, hml, hown, hts⟩ (kX3_raceOwner l G (Or.inr (Or.inl rfl)) rfl eq39) (cwV 0 hts gX4_kind_X3_raceOwner rfl rfl rfl qqX3_raceOwner ⟨Nat.le_of_ble_eq_true rfl, Nat.le_of_ble_eq_true rfl⟩) hw (rvTk hw (Or.inr (Or.inl rfl))) rfl hl.1 rfl (Nat.le_of_ble_eq_true rfl) dX4_kind_39 ⟨Nat.zero_le _, Nat.zero_le _⟩ rfl (fun H locs hw => ?_)
      obtain ⟨S39, eS39, h⟩ := o_nm h
      rw [← eS39] at hw
      refine lv_iload_n hx hb dX4_kind_42 rfl (lv_at hl 2 rfl) ?_
      refine lv_icmp_ne (tgt := 48) hx hb dX4_kind_43 (by decide) (fun c43 => ?_) (fun c43 => ?_)
      · replace h := o_f c43 h
        obtain ⟨v48, ev48, h⟩ := o_nm h
        refine lv_iinc (v := v48) (lv' := [(2, .int v48), (3, .ref (sA G 2 0)), (0, .ref (sA G 0 0)), (1, .int a1)]) hx hb dX4_kind_48 hl (k := 3) rfl (by rw [ev48]; rfl) (by decide) rfl (fun ls hl => ?_)
        refine lv_goto (tgt := 20) hx hb dX4_kind_51 (by decide) ?_
        exact IH20 v48 S39 h _ _ _ hw (lv_sub hl [2, 3, 0] rfl)
      · replace h := o_t c43 h
        refine lv_iload_n hx hb dX4_kind_46 rfl (lv_at hl 3 rfl) ?_
        exact rI hQ hx hb hr hlk hw dX4_kind_47 (o_2a h) (o_2b h) rfl
  · replace h := o_t c8 h
    refine lv_aload_n hx hb dX4_kind_11 rfl (lv_at hl 0 rfl) ?_
    refine lv_ldc (v := -1000000001) hx hb hown (hts (.constant RX4 50 (-1000000001)) (by decide +kernel)) dX4_kind_12 ?_
    obtain ⟨q14, eq14, h⟩ := o_bd h
    refine kV (As := [.int (-1000000001 : Int32)]) (rest := []) (st' := [.int q14.1]) ⟨hx, hb, hml, hown, hts⟩ (kX4_found l G eq14) (cwV 1 hts gX4_kind_X4_found rfl rfl rfl qqX4_found ⟨Nat.le_of_ble_eq_true rfl, Nat.le_of_ble_eq_true rfl⟩) hw (rvOw hw) rfl hl.1 rfl (Nat.le_of_ble_eq_true rfl) dX4_kind_14 ⟨Nat.zero_le _, Nat.zero_le _⟩ rfl (fun H locs hw => ?_)
    exact rI hQ hx hb hr hlk hw dX4_kind_17 (o_2a h) (o_2b h) rfl
-- X4_start
def bX4_start_20 (a1 : Int32) (rc20 : Int32 → sWo → Option (Int32 × sWo)) (x2_20 : Int32) (S_20 : sWo) : Option (Int32 × sWo) :=
  if (200 : Int32) < x2_20 then ((fX4_found S_20 (-1000000004 : Int32)).bind fun q69 => some (q69.1, q69.2)) else (if ((S_20 1).1 0) ≤ x2_20 then ((fX4_found S_20 (-1000000004 : Int32)).bind fun q69 => some (q69.1, q69.2)) else ((fX4_tryOut S_20).bind fun q39 => if a1 < 0 ∨ 9 ≤ a1.toNatClampNeg then none else nm (sUp q39 2 (sSa (q39 2) 4 a1.toNatClampNeg x2_20)) fun S49 => (fX3_raceOwner (S49 2)).bind fun q51 => nm (sUp S49 2 q51.2) fun S51 => if q51.1 = a1 then (some (x2_20, S51)) else (nm (x2_20 + (5 : Int32)) fun v60 => rc20 v60 S51)))
def fX4_start (S : sWo) (a1 : Int32) : Option (Int32 × sWo) :=
  (fX3_has (S 1) a1).bind fun q5 => if q5 = 0 then ((fX4_found S (-1000000001 : Int32)).bind fun q14 => some (q14.1, q14.2)) else (fx2 (bX4_start_20 a1) FU (0 : Int32) S)
def rmX4_start : Room := { frames := 6, cells := 0, slots := 0, locals := 132 }
theorem qqX4_start : yX4_start.cls = RX4 ∧ yX4_start.cls ≠ "java/lang/invoke/MethodHandle" ∧ yX4_start.cls ≠ "java/lang/invoke/VarHandle" ∧ (parseMethodDescriptor yX4_start.desc).map (fun d => d.parameters.length) = some 1 := by decide +kernel
set_option maxRecDepth 100000 in
set_option maxHeartbeats 4000000 in
theorem kX4_start (l : Launch) (G : sGl) {S : sWo} {M : sOb} {a1 : Int32} {q : (Int32 × sWo)}  (h : fX4_start S a1 = some q) : sCt l G yX4_start wsX4_start rmX4_start [.ref (sA G 0 0), .int a1] S M (some (.int q.1)) q.2 M := by
  refine cMk (cc := cX4_start) (maxL := 4) (ret := (some .int)) (by decide) rfl (Nat.le_of_ble_eq_true rfl) ?_
  intro p e s m args below meth c Q hQ hx hb hr hlk hml hown hts hw ls hl
  have hown : s.vm.findClass RX4 = some m.cls := hown
  have hl : lv_has ls 4 [(0, .ref (sA G 0 0)), (1, .int a1)] := hl
  have hiX3 : ∀ w ∈ u_ws RX3 TX3 15, w ∈ wsX4_start := by decide +kernel
  have hiX4 : ∀ w ∈ u_ws RX4 TX4 7, w ∈ wsX4_start := by decide +kernel
  unfold fX4_start at h
  refine lv_aload_n hx hb dX4_start_0 rfl (lv_at hl 0 rfl) ?_
  refine gOw (v := .ref (sA G 1 0)) hx hb hts hiX4 hown hw 0 (by decide) (hts (.fieldLink RX4 10 "SecondHome" "track" "LSecondHome$Track;") (by decide +kernel)) rfl dX4_start_1 ?_
  refine lv_iload_n hx hb dX4_start_4 rfl (lv_at hl 1 rfl) ?_
  obtain ⟨q5, eq5, h⟩ := o_bd h
  refine kV (As := [.int a1]) (rest := []) (st' := [.int q5]) ⟨hx, hb, hml, hown, hts⟩ (kX3_has l G (Or.inl rfl) rfl eq5) (cwV 1 hts gX4_start_X3_has rfl rfl rfl qqX3_has ⟨Nat.le_of_ble_eq_true rfl, Nat.le_of_ble_eq_true rfl⟩) hw (rvTk hw (Or.inl rfl)) rfl hl.1 rfl (Nat.le_of_ble_eq_true rfl) dX4_start_5 ⟨Nat.zero_le _, Nat.zero_le _⟩ rfl (fun H locs hw => ?_)
  refine lv_if_ne (tgt := 18) hx hb dX4_start_8 (by decide) (fun c8 => ?_) (fun c8 => ?_)
  · replace h := o_f c8 h
    refine lv_iconst (v := 0) hx hb dX4_start_18 (by decide) ?_
    refine lv_istore_n (lv' := [(2, .int (0 : Int32)), (0, .ref (sA G 0 0)), (1, .int a1)]) hx hb dX4_start_19 rfl hl (by decide) rfl (fun ls hl => ?_)
    refine fx2_w (F := (bX4_start_20 a1)) (P := fun x2_20 S_20 => ∀ (H : Heap) (locs : List Loc) (ls : Array Slot), sHw G s S_20 M H locs → lv_has ls 4 [(0, .ref (sA G 0 0)), (1, .int a1), (2, .int x2_20)] → W p l e rmX4_start s m args below meth c H locs 0 0 Q (F0 m 20 ls [])) ?_ _ _ _ h _ _ _ hw (lv_sub hl [1, 2, 0] rfl)
    intro rc20 IH20 x2_20 S_20 h H locs ls hw hl
    unfold bX4_start_20 at h
    refine lv_iload_n hx hb dX4_start_20 rfl (lv_at hl 2 rfl) ?_
    refine lv_sipush (v := 200) hx hb dX4_start_21 (by decide) ?_
    refine lv_icmp_gt (tgt := 66) hx hb dX4_start_24 (by decide) (fun c24 => ?_) (fun c24 => ?_)
    · replace h := o_t c24 h
      refine lv_aload_n hx hb dX4_start_66 rfl (lv_at hl 0 rfl) ?_
      refine lv_ldc (v := -1000000004) hx hb hown (hts (.constant RX4 178 (-1000000004)) (by decide +kernel)) dX4_start_67 ?_
      obtain ⟨q69, eq69, h⟩ := o_bd h
      refine kV (As := [.int (-1000000004 : Int32)]) (rest := []) (st' := [.int q69.1]) ⟨hx, hb, hml, hown, hts⟩ (kX4_found l G eq69) (cwV 1 hts gX4_start_X4_found rfl rfl rfl qqX4_found ⟨Nat.le_of_ble_eq_true rfl, Nat.le_of_ble_eq_true rfl⟩) hw (rvOw hw) rfl hl.1 rfl (Nat.le_of_ble_eq_true rfl) dX4_start_69 ⟨Nat.zero_le _, Nat.zero_le _⟩ rfl (fun H locs hw => ?_)
      exact rI hQ hx hb hr hlk hw dX4_start_72 (o_2a h) (o_2b h) rfl
    · replace h := o_f c24 h
      refine lv_iload_n hx hb dX4_start_27 rfl (lv_at hl 2 rfl) ?_
      refine lv_aload_n hx hb dX4_start_28 rfl (lv_at hl 0 rfl) ?_
      refine gOw (v := .ref (sA G 1 0)) hx hb hts hiX4 hown hw 0 (by decide) (hts (.fieldLink RX4 10 "SecondHome" "track" "LSecondHome$Track;") (by decide +kernel)) rfl dX4_start_29 ?_
      refine gTk (v := .int ((S_20 1).1 0)) hx hb hts hiX3 hown hw (Or.inl rfl) rfl 0 (by decide) (hts (.fieldLink RX4 145 "SecondHome$Track" "length" "I") (by decide +kernel)) rfl dX4_start_32 ?_
      refine lv_icmp_ge (tgt := 66) hx hb dX4_start_35 (by decide) (fun c35 => ?_) (fun c35 => ?_)
      · replace h := o_t c35 h
        refine lv_aload_n hx hb dX4_start_66 rfl (lv_at hl 0 rfl) ?_
        refine lv_ldc (v := -1000000004) hx hb hown (hts (.constant RX4 178 (-1000000004)) (by decide +kernel)) dX4_start_67 ?_
        obtain ⟨q69, eq69, h⟩ := o_bd h
        refine kV (As := [.int (-1000000004 : Int32)]) (rest := []) (st' := [.int q69.1]) ⟨hx, hb, hml, hown, hts⟩ (kX4_found l G eq69) (cwV 1 hts gX4_start_X4_found rfl rfl rfl qqX4_found ⟨Nat.le_of_ble_eq_true rfl, Nat.le_of_ble_eq_true rfl⟩) hw (rvOw hw) rfl hl.1 rfl (Nat.le_of_ble_eq_true rfl) dX4_start_69 ⟨Nat.zero_le _, Nat.zero_le _⟩ rfl (fun H locs hw => ?_)
        exact rI hQ hx hb hr hlk hw dX4_start_72 (o_2a h) (o_2b h) rfl
      · replace h := o_f c35 h
        refine lv_aload_n hx hb dX4_start_38 rfl (lv_at hl 0 rfl) ?_
        obtain ⟨q39, eq39, h⟩ := o_bd h
        refine kV (As := []) (rest := []) (st' := [.ref (sA G 2 0)]) ⟨hx, hb, hml, hown, hts⟩ (kX4_tryOut l G eq39) (cwV 0 hts gX4_start_X4_tryOut rfl rfl rfl qqX4_tryOut ⟨Nat.le_of_ble_eq_true rfl, Nat.le_of_ble_eq_true rfl⟩) hw (rvOw hw) rfl hl.1 rfl (Nat.le_of_ble_eq_true rfl) dX4_start_39 ⟨Nat.zero_le _, Nat.zero_le _⟩ rfl (fun H locs hw => ?_)
        refine lv_astore_n (lv' := [(3, .ref (sA G 2 0)), (0, .ref (sA G 0 0)), (1, .int a1), (2, .int x2_20)]) hx hb dX4_start_42 rfl hl (by decide) rfl (fun ls hl => ?_)
        refine lv_aload_n hx hb dX4_start_43 rfl (lv_at hl 0 rfl) ?_
        refine gTk (v := .ref (sA G 2 5)) hx hb hts hiX3 hown hw (Or.inr (Or.inl rfl)) rfl 10 (by decide) (hts (.fieldLink RX4 88 "SecondHome$Track" "starts" "[I") (by decide +kernel)) rfl dX4_start_44 ?_
        refine lv_iload_n hx hb dX4_start_47 rfl (lv_at hl 2 rfl) ?_
        refine lv_iload_n hx hb dX4_start_48 rfl (lv_at hl 3 rfl) ?_
        obtain ⟨b49, h⟩ := o_in h
        refine stTk hx hb hw (Or.inr (Or.inl rfl)) rfl 4 (by decide) b49 dX4_start_49 rfl (fun H locs hw => ?_)
        obtain ⟨S49, eS49, h⟩ := o_nm h
        rw [← eS49] at hw
        refine lv_aload_n hx hb dX4_start_50 rfl (lv_at hl 0 rfl) ?_
        obtain ⟨q51, eq51, h⟩ := o_bd h
        refine kV (As := []) (rest := []) (st' := [.int q51.1]) ⟨hx, hb, hml, hown, hts⟩ (kX3_raceOwner l G (Or.inr (Or.inl rfl)) rfl eq51) (cwV 0 hts gX4_start_X3_raceOwner rfl rfl rfl qqX3_raceOwner ⟨Nat.le_of_ble_eq_true rfl, Nat.le_of_ble_eq_true rfl⟩) hw (rvTk hw (Or.inr (Or.inl rfl))) rfl hl.1 rfl (Nat.le_of_ble_eq_true rfl) dX4_start_51 ⟨Nat.zero_le _, Nat.zero_le _⟩ rfl (fun H locs hw => ?_)
        obtain ⟨S51, eS51, h⟩ := o_nm h
        rw [← eS51] at hw
        refine lv_iload_n hx hb dX4_start_54 rfl (lv_at hl 2 rfl) ?_
        refine lv_icmp_ne (tgt := 60) hx hb dX4_start_55 (by decide) (fun c55 => ?_) (fun c55 => ?_)
        · replace h := o_f c55 h
          obtain ⟨v60, ev60, h⟩ := o_nm h
          refine lv_iinc (v := v60) (lv' := [(2, .int v60), (3, .ref (sA G 2 0)), (0, .ref (sA G 0 0)), (1, .int a1)]) hx hb dX4_start_60 hl (k := 3) rfl (by rw [ev60]; rfl) (by decide) rfl (fun ls hl => ?_)
          refine lv_goto (tgt := 20) hx hb dX4_start_63 (by decide) ?_
          exact IH20 v60 S51 h _ _ _ hw (lv_sub hl [2, 3, 0] rfl)
        · replace h := o_t c55 h
          refine lv_iload_n hx hb dX4_start_58 rfl (lv_at hl 3 rfl) ?_
          exact rI hQ hx hb hr hlk hw dX4_start_59 (o_2a h) (o_2b h) rfl
  · replace h := o_t c8 h
    refine lv_aload_n hx hb dX4_start_11 rfl (lv_at hl 0 rfl) ?_
    refine lv_ldc (v := -1000000001) hx hb hown (hts (.constant RX4 50 (-1000000001)) (by decide +kernel)) dX4_start_12 ?_
    obtain ⟨q14, eq14, h⟩ := o_bd h
    refine kV (As := [.int (-1000000001 : Int32)]) (rest := []) (st' := [.int q14.1]) ⟨hx, hb, hml, hown, hts⟩ (kX4_found l G eq14) (cwV 1 hts gX4_start_X4_found rfl rfl rfl qqX4_found ⟨Nat.le_of_ble_eq_true rfl, Nat.le_of_ble_eq_true rfl⟩) hw (rvOw hw) rfl hl.1 rfl (Nat.le_of_ble_eq_true rfl) dX4_start_14 ⟨Nat.zero_le _, Nat.zero_le _⟩ rfl (fun H locs hw => ?_)
    exact rI hQ hx hb hr hlk hw dX4_start_17 (o_2a h) (o_2b h) rfl
-- X4_favours
def bX4_favours_53 (a1 : Int32) (S31 : sWo) (rc53 : Int32 → Int32 → Option (Int32 × sWo)) (x3_53 : Int32) (x4_53 : Int32) : Option (Int32 × sWo) :=
  if (4 : Int32) ≤ x4_53 then (some (x3_53, S31)) else ((fX3_prizeOwner (S31 2) x4_53).bind fun q62 => if q62 = a1 then (nm (x3_53 ||| ((1 : Int32) <<< (x4_53 &&& 31))) fun v75 => nm (x4_53 + (1 : Int32)) fun v76 => rc53 v75 v76) else (nm (x4_53 + (1 : Int32)) fun v76 => rc53 x3_53 v76))
def fX4_favours (S : sWo) (a1 : Int32) : Option (Int32 × sWo) :=
  (fX3_has (S 1) a1).bind fun q5 => if q5 = 0 then ((fX4_found S (-1000000001 : Int32)).bind fun q14 => some (q14.1, q14.2)) else ((fX4_tryOut S).bind fun q19 => (fX3_lineUp (q19 2)).bind fun q24 => nm (sUp q19 2 q24) fun S24 => (fX3_goOn (S24 2) (2000 : Int32)).bind fun q31 => nm (sUp S24 2 q31) fun S31 => (fX3_allHome (S31 2)).bind fun q35 => if q35 = 0 then ((fX4_found S31 (-1000000004 : Int32)).bind fun q44 => some (q44.1, q44.2)) else (fx2 (bX4_favours_53 a1 S31) FU (0 : Int32) (0 : Int32)))
def rmX4_favours : Room := { frames := 5, cells := 0, slots := 0, locals := 112 }
theorem qqX4_favours : yX4_favours.cls = RX4 ∧ yX4_favours.cls ≠ "java/lang/invoke/MethodHandle" ∧ yX4_favours.cls ≠ "java/lang/invoke/VarHandle" ∧ (parseMethodDescriptor yX4_favours.desc).map (fun d => d.parameters.length) = some 1 := by decide +kernel
set_option maxRecDepth 100000 in
set_option maxHeartbeats 4000000 in
theorem kX4_favours (l : Launch) (G : sGl) {S : sWo} {M : sOb} {a1 : Int32} {q : (Int32 × sWo)}  (h : fX4_favours S a1 = some q) : sCt l G yX4_favours wsX4_favours rmX4_favours [.ref (sA G 0 0), .int a1] S M (some (.int q.1)) q.2 M := by
  refine cMk (cc := cX4_favours) (maxL := 5) (ret := (some .int)) (by decide) rfl (Nat.le_of_ble_eq_true rfl) ?_
  intro p e s m args below meth c Q hQ hx hb hr hlk hml hown hts hw ls hl
  have hown : s.vm.findClass RX4 = some m.cls := hown
  have hl : lv_has ls 5 [(0, .ref (sA G 0 0)), (1, .int a1)] := hl
  have hiX4 : ∀ w ∈ u_ws RX4 TX4 7, w ∈ wsX4_favours := by decide +kernel
  unfold fX4_favours at h
  refine lv_aload_n hx hb dX4_favours_0 rfl (lv_at hl 0 rfl) ?_
  refine gOw (v := .ref (sA G 1 0)) hx hb hts hiX4 hown hw 0 (by decide) (hts (.fieldLink RX4 10 "SecondHome" "track" "LSecondHome$Track;") (by decide +kernel)) rfl dX4_favours_1 ?_
  refine lv_iload_n hx hb dX4_favours_4 rfl (lv_at hl 1 rfl) ?_
  obtain ⟨q5, eq5, h⟩ := o_bd h
  refine kV (As := [.int a1]) (rest := []) (st' := [.int q5]) ⟨hx, hb, hml, hown, hts⟩ (kX3_has l G (Or.inl rfl) rfl eq5) (cwV 1 hts gX4_favours_X3_has rfl rfl rfl qqX3_has ⟨Nat.le_of_ble_eq_true rfl, Nat.le_of_ble_eq_true rfl⟩) hw (rvTk hw (Or.inl rfl)) rfl hl.1 rfl (Nat.le_of_ble_eq_true rfl) dX4_favours_5 ⟨Nat.zero_le _, Nat.zero_le _⟩ rfl (fun H locs hw => ?_)
  refine lv_if_ne (tgt := 18) hx hb dX4_favours_8 (by decide) (fun c8 => ?_) (fun c8 => ?_)
  · replace h := o_f c8 h
    refine lv_aload_n hx hb dX4_favours_18 rfl (lv_at hl 0 rfl) ?_
    obtain ⟨q19, eq19, h⟩ := o_bd h
    refine kV (As := []) (rest := []) (st' := [.ref (sA G 2 0)]) ⟨hx, hb, hml, hown, hts⟩ (kX4_tryOut l G eq19) (cwV 0 hts gX4_favours_X4_tryOut rfl rfl rfl qqX4_tryOut ⟨Nat.le_of_ble_eq_true rfl, Nat.le_of_ble_eq_true rfl⟩) hw (rvOw hw) rfl hl.1 rfl (Nat.le_of_ble_eq_true rfl) dX4_favours_19 ⟨Nat.zero_le _, Nat.zero_le _⟩ rfl (fun H locs hw => ?_)
    refine lv_astore_n (lv' := [(2, .ref (sA G 2 0)), (0, .ref (sA G 0 0)), (1, .int a1)]) hx hb dX4_favours_22 rfl hl (by decide) rfl (fun ls hl => ?_)
    refine lv_aload_n hx hb dX4_favours_23 rfl (lv_at hl 0 rfl) ?_
    obtain ⟨q24, eq24, h⟩ := o_bd h
    refine kV (As := []) (rest := []) (st' := []) ⟨hx, hb, hml, hown, hts⟩ (kX3_lineUp l G (Or.inr (Or.inl rfl)) rfl eq24) (cwV 0 hts gX4_favours_X3_lineUp rfl rfl rfl qqX3_lineUp ⟨Nat.le_of_ble_eq_true rfl, Nat.le_of_ble_eq_true rfl⟩) hw (rvTk hw (Or.inr (Or.inl rfl))) rfl hl.1 rfl (Nat.le_of_ble_eq_true rfl) dX4_favours_24 ⟨Nat.zero_le _, Nat.zero_le _⟩ rfl (fun H locs hw => ?_)
    obtain ⟨S24, eS24, h⟩ := o_nm h
    rw [← eS24] at hw
    refine lv_aload_n hx hb dX4_favours_27 rfl (lv_at hl 0 rfl) ?_
    refine lv_sipush (v := 2000) hx hb dX4_favours_28 (by decide) ?_
    obtain ⟨q31, eq31, h⟩ := o_bd h
    refine kV (As := [.int (2000 : Int32)]) (rest := []) (st' := []) ⟨hx, hb, hml, hown, hts⟩ (kX3_goOn l G (Or.inr (Or.inl rfl)) rfl eq31) (cwV 1 hts gX4_favours_X3_goOn rfl rfl rfl qqX3_goOn ⟨Nat.le_of_ble_eq_true rfl, Nat.le_of_ble_eq_true rfl⟩) hw (rvTk hw (Or.inr (Or.inl rfl))) rfl hl.1 rfl (Nat.le_of_ble_eq_true rfl) dX4_favours_31 ⟨Nat.zero_le _, Nat.zero_le _⟩ rfl (fun H locs hw => ?_)
    obtain ⟨S31, eS31, h⟩ := o_nm h
    rw [← eS31] at hw
    refine lv_aload_n hx hb dX4_favours_34 rfl (lv_at hl 0 rfl) ?_
    obtain ⟨q35, eq35, h⟩ := o_bd h
    refine kV (As := []) (rest := []) (st' := [.int q35]) ⟨hx, hb, hml, hown, hts⟩ (kX3_allHome l G (Or.inr (Or.inl rfl)) rfl eq35) (cwV 0 hts gX4_favours_X3_allHome rfl rfl rfl qqX3_allHome ⟨Nat.le_of_ble_eq_true rfl, Nat.le_of_ble_eq_true rfl⟩) hw (rvTk hw (Or.inr (Or.inl rfl))) rfl hl.1 rfl (Nat.le_of_ble_eq_true rfl) dX4_favours_35 ⟨Nat.zero_le _, Nat.zero_le _⟩ rfl (fun H locs hw => ?_)
    refine lv_if_ne (tgt := 48) hx hb dX4_favours_38 (by decide) (fun c38 => ?_) (fun c38 => ?_)
    · replace h := o_f c38 h
      refine lv_iconst (v := 0) hx hb dX4_favours_48 (by decide) ?_
      refine lv_istore_n (lv' := [(3, .int (0 : Int32)), (2, .ref (sA G 2 0)), (0, .ref (sA G 0 0)), (1, .int a1)]) hx hb dX4_favours_49 rfl hl (by decide) rfl (fun ls hl => ?_)
      refine lv_iconst (v := 0) hx hb dX4_favours_50 (by decide) ?_
      refine lv_istore (lv' := [(4, .int (0 : Int32)), (3, .int (0 : Int32)), (2, .ref (sA G 2 0)), (0, .ref (sA G 0 0)), (1, .int a1)]) hx hb dX4_favours_51 hl (by decide) rfl (fun ls hl => ?_)
      refine fx2_w (F := (bX4_favours_53 a1 S31)) (P := fun x3_53 x4_53 => ∀ (H : Heap) (locs : List Loc) (ls : Array Slot), sHw G s S31 M H locs → lv_has ls 5 [(1, .int a1), (2, .ref (sA G 2 0)), (3, .int x3_53), (4, .int x4_53)] → W p l e rmX4_favours s m args below meth c H locs 0 0 Q (F0 m 53 ls [])) ?_ _ _ _ h _ _ _ hw (lv_sub hl [4, 2, 1, 0] rfl)
      intro rc53 IH53 x3_53 x4_53 h H locs ls hw hl
      unfold bX4_favours_53 at h
      refine lv_iload hx hb dX4_favours_53 (lv_at hl 3 rfl) ?_
      refine lv_iconst (v := 4) hx hb dX4_favours_55 (by decide) ?_
      refine lv_icmp_ge (tgt := 82) hx hb dX4_favours_56 (by decide) (fun c56 => ?_) (fun c56 => ?_)
      · replace h := o_t c56 h
        refine lv_iload_n hx hb dX4_favours_82 rfl (lv_at hl 2 rfl) ?_
        exact rI hQ hx hb hr hlk hw dX4_favours_83 (o_2a h) (o_2b h) rfl
      · replace h := o_f c56 h
        refine lv_aload_n hx hb dX4_favours_59 rfl (lv_at hl 1 rfl) ?_
        refine lv_iload hx hb dX4_favours_60 (lv_at hl 3 rfl) ?_
        obtain ⟨q62, eq62, h⟩ := o_bd h
        refine kV (As := [.int x4_53]) (rest := []) (st' := [.int q62]) ⟨hx, hb, hml, hown, hts⟩ (kX3_prizeOwner l G (Or.inr (Or.inl rfl)) rfl eq62) (cwV 1 hts gX4_favours_X3_prizeOwner rfl rfl rfl qqX3_prizeOwner ⟨Nat.le_of_ble_eq_true rfl, Nat.le_of_ble_eq_true rfl⟩) hw (rvTk hw (Or.inr (Or.inl rfl))) rfl hl.1 rfl (Nat.le_of_ble_eq_true rfl) dX4_favours_62 ⟨Nat.zero_le _, Nat.zero_le _⟩ rfl (fun H locs hw => ?_)
        refine lv_iload_n hx hb dX4_favours_65 rfl (lv_at hl 0 rfl) ?_
        refine lv_icmp_ne (tgt := 76) hx hb dX4_favours_66 (by decide) (fun c66 => ?_) (fun c66 => ?_)
        · replace h := o_f c66 h
          obtain ⟨v76, ev76, h⟩ := o_nm h
          refine lv_iinc (v := v76) (lv' := [(4, .int v76), (1, .int a1), (2, .ref (sA G 2 0)), (3, .int x3_53)]) hx hb dX4_favours_76 hl (k := 3) rfl (by rw [ev76]; rfl) (by decide) rfl (fun ls hl => ?_)
          refine lv_goto (tgt := 53) hx hb dX4_favours_79 (by decide) ?_
          exact IH53 x3_53 v76 h _ _ _ hw (lv_sub hl [1, 2, 3, 0] rfl)
        · replace h := o_t c66 h
          refine lv_iload_n hx hb dX4_favours_69 rfl (lv_at hl 2 rfl) ?_
          refine lv_iconst (v := 1) hx hb dX4_favours_70 (by decide) ?_
          refine lv_iload hx hb dX4_favours_71 (lv_at hl 3 rfl) ?_
          refine lv_ishl hx hb dX4_favours_73 ?_
          refine lv_ior hx hb dX4_favours_74 ?_
          refine lv_topi (fun v75 ev75 => ?_)
          replace h := o_nx ev75 h
          refine lv_istore_n (lv' := [(3, .int v75), (1, .int a1), (2, .ref (sA G 2 0)), (4, .int x4_53)]) hx hb dX4_favours_75 rfl hl (by decide) rfl (fun ls hl => ?_)
          obtain ⟨v76, ev76, h⟩ := o_nm h
          refine lv_iinc (v := v76) (lv' := [(4, .int v76), (3, .int v75), (1, .int a1), (2, .ref (sA G 2 0))]) hx hb dX4_favours_76 hl (k := 3) rfl (by rw [ev76]; rfl) (by decide) rfl (fun ls hl => ?_)
          refine lv_goto (tgt := 53) hx hb dX4_favours_79 (by decide) ?_
          exact IH53 v75 v76 h _ _ _ hw (lv_sub hl [2, 3, 1, 0] rfl)
    · replace h := o_t c38 h
      refine lv_aload_n hx hb dX4_favours_41 rfl (lv_at hl 1 rfl) ?_
      refine lv_ldc (v := -1000000004) hx hb hown (hts (.constant RX4 178 (-1000000004)) (by decide +kernel)) dX4_favours_42 ?_
      obtain ⟨q44, eq44, h⟩ := o_bd h
      refine kV (As := [.int (-1000000004 : Int32)]) (rest := []) (st' := [.int q44.1]) ⟨hx, hb, hml, hown, hts⟩ (kX4_found l G eq44) (cwV 1 hts gX4_favours_X4_found rfl rfl rfl qqX4_found ⟨Nat.le_of_ble_eq_true rfl, Nat.le_of_ble_eq_true rfl⟩) hw (rvOw hw) rfl hl.1 rfl (Nat.le_of_ble_eq_true rfl) dX4_favours_44 ⟨Nat.zero_le _, Nat.zero_le _⟩ rfl (fun H locs hw => ?_)
      exact rI hQ hx hb hr hlk hw dX4_favours_47 (o_2a h) (o_2b h) rfl
  · replace h := o_t c8 h
    refine lv_aload_n hx hb dX4_favours_11 rfl (lv_at hl 0 rfl) ?_
    refine lv_ldc (v := -1000000001) hx hb hown (hts (.constant RX4 50 (-1000000001)) (by decide +kernel)) dX4_favours_12 ?_
    obtain ⟨q14, eq14, h⟩ := o_bd h
    refine kV (As := [.int (-1000000001 : Int32)]) (rest := []) (st' := [.int q14.1]) ⟨hx, hb, hml, hown, hts⟩ (kX4_found l G eq14) (cwV 1 hts gX4_favours_X4_found rfl rfl rfl qqX4_found ⟨Nat.le_of_ble_eq_true rfl, Nat.le_of_ble_eq_true rfl⟩) hw (rvOw hw) rfl hl.1 rfl (Nat.le_of_ble_eq_true rfl) dX4_favours_14 ⟨Nat.zero_le _, Nat.zero_le _⟩ rfl (fun H locs hw => ?_)
    exact rI hQ hx hb hr hlk hw dX4_favours_17 (o_2a h) (o_2b h) rfl
-- X4_friend
def bX4_friend_20 (a1 : Int32) (rc20 : Int32 → sWo → Option (Int32 × sWo)) (x2_20 : Int32) (S_20 : sWo) : Option (Int32 × sWo) :=
  if ((S_20 1).1 4) ≤ x2_20 then ((fX4_found S_20 (-1000000004 : Int32)).bind fun q70 => some (q70.1, q70.2)) else (if x2_20 = a1 then (nm (x2_20 + (1 : Int32)) fun v61 => rc20 v61 S_20) else ((fX4_tryOut S_20).bind fun q40 => if a1 < 0 ∨ 9 ≤ a1.toNatClampNeg then none else nm (sUp q40 2 (sSa (q40 2) 3 a1.toNatClampNeg x2_20)) fun S50 => (fX3_raceOwner (S50 2)).bind fun q52 => nm (sUp S50 2 q52.2) fun S52 => if q52.1 = a1 then (some (x2_20, S52)) else (nm (x2_20 + (1 : Int32)) fun v61 => rc20 v61 S52)))
def fX4_friend (S : sWo) (a1 : Int32) : Option (Int32 × sWo) :=
  (fX3_has (S 1) a1).bind fun q5 => if q5 = 0 then ((fX4_found S (-1000000001 : Int32)).bind fun q14 => some (q14.1, q14.2)) else (fx2 (bX4_friend_20 a1) FU (-1 : Int32) S)
def rmX4_friend : Room := { frames := 6, cells := 0, slots := 0, locals := 132 }
theorem qqX4_friend : yX4_friend.cls = RX4 ∧ yX4_friend.cls ≠ "java/lang/invoke/MethodHandle" ∧ yX4_friend.cls ≠ "java/lang/invoke/VarHandle" ∧ (parseMethodDescriptor yX4_friend.desc).map (fun d => d.parameters.length) = some 1 := by decide +kernel
set_option maxRecDepth 100000 in
set_option maxHeartbeats 4000000 in
theorem kX4_friend (l : Launch) (G : sGl) {S : sWo} {M : sOb} {a1 : Int32} {q : (Int32 × sWo)}  (h : fX4_friend S a1 = some q) : sCt l G yX4_friend wsX4_friend rmX4_friend [.ref (sA G 0 0), .int a1] S M (some (.int q.1)) q.2 M := by
  refine cMk (cc := cX4_friend) (maxL := 4) (ret := (some .int)) (by decide) rfl (Nat.le_of_ble_eq_true rfl) ?_
  intro p e s m args below meth c Q hQ hx hb hr hlk hml hown hts hw ls hl
  have hown : s.vm.findClass RX4 = some m.cls := hown
  have hl : lv_has ls 4 [(0, .ref (sA G 0 0)), (1, .int a1)] := hl
  have hiX3 : ∀ w ∈ u_ws RX3 TX3 15, w ∈ wsX4_friend := by decide +kernel
  have hiX4 : ∀ w ∈ u_ws RX4 TX4 7, w ∈ wsX4_friend := by decide +kernel
  unfold fX4_friend at h
  refine lv_aload_n hx hb dX4_friend_0 rfl (lv_at hl 0 rfl) ?_
  refine gOw (v := .ref (sA G 1 0)) hx hb hts hiX4 hown hw 0 (by decide) (hts (.fieldLink RX4 10 "SecondHome" "track" "LSecondHome$Track;") (by decide +kernel)) rfl dX4_friend_1 ?_
  refine lv_iload_n hx hb dX4_friend_4 rfl (lv_at hl 1 rfl) ?_
  obtain ⟨q5, eq5, h⟩ := o_bd h
  refine kV (As := [.int a1]) (rest := []) (st' := [.int q5]) ⟨hx, hb, hml, hown, hts⟩ (kX3_has l G (Or.inl rfl) rfl eq5) (cwV 1 hts gX4_friend_X3_has rfl rfl rfl qqX3_has ⟨Nat.le_of_ble_eq_true rfl, Nat.le_of_ble_eq_true rfl⟩) hw (rvTk hw (Or.inl rfl)) rfl hl.1 rfl (Nat.le_of_ble_eq_true rfl) dX4_friend_5 ⟨Nat.zero_le _, Nat.zero_le _⟩ rfl (fun H locs hw => ?_)
  refine lv_if_ne (tgt := 18) hx hb dX4_friend_8 (by decide) (fun c8 => ?_) (fun c8 => ?_)
  · replace h := o_f c8 h
    refine lv_iconst (v := -1) hx hb dX4_friend_18 (by decide) ?_
    refine lv_istore_n (lv' := [(2, .int (-1 : Int32)), (0, .ref (sA G 0 0)), (1, .int a1)]) hx hb dX4_friend_19 rfl hl (by decide) rfl (fun ls hl => ?_)
    refine fx2_w (F := (bX4_friend_20 a1)) (P := fun x2_20 S_20 => ∀ (H : Heap) (locs : List Loc) (ls : Array Slot), sHw G s S_20 M H locs → lv_has ls 4 [(0, .ref (sA G 0 0)), (1, .int a1), (2, .int x2_20)] → W p l e rmX4_friend s m args below meth c H locs 0 0 Q (F0 m 20 ls [])) ?_ _ _ _ h _ _ _ hw (lv_sub hl [1, 2, 0] rfl)
    intro rc20 IH20 x2_20 S_20 h H locs ls hw hl
    unfold bX4_friend_20 at h
    refine lv_iload_n hx hb dX4_friend_20 rfl (lv_at hl 2 rfl) ?_
    refine lv_aload_n hx hb dX4_friend_21 rfl (lv_at hl 0 rfl) ?_
    refine gOw (v := .ref (sA G 1 0)) hx hb hts hiX4 hown hw 0 (by decide) (hts (.fieldLink RX4 10 "SecondHome" "track" "LSecondHome$Track;") (by decide +kernel)) rfl dX4_friend_22 ?_
    refine gTk (v := .int ((S_20 1).1 4)) hx hb hts hiX3 hown hw (Or.inl rfl) rfl 4 (by decide) (hts (.fieldLink RX4 64 "SecondHome$Track" "count" "I") (by decide +kernel)) rfl dX4_friend_25 ?_
    refine lv_icmp_ge (tgt := 67) hx hb dX4_friend_28 (by decide) (fun c28 => ?_) (fun c28 => ?_)
    · replace h := o_t c28 h
      refine lv_aload_n hx hb dX4_friend_67 rfl (lv_at hl 0 rfl) ?_
      refine lv_ldc (v := -1000000004) hx hb hown (hts (.constant RX4 178 (-1000000004)) (by decide +kernel)) dX4_friend_68 ?_
      obtain ⟨q70, eq70, h⟩ := o_bd h
      refine kV (As := [.int (-1000000004 : Int32)]) (rest := []) (st' := [.int q70.1]) ⟨hx, hb, hml, hown, hts⟩ (kX4_found l G eq70) (cwV 1 hts gX4_friend_X4_found rfl rfl rfl qqX4_found ⟨Nat.le_of_ble_eq_true rfl, Nat.le_of_ble_eq_true rfl⟩) hw (rvOw hw) rfl hl.1 rfl (Nat.le_of_ble_eq_true rfl) dX4_friend_70 ⟨Nat.zero_le _, Nat.zero_le _⟩ rfl (fun H locs hw => ?_)
      exact rI hQ hx hb hr hlk hw dX4_friend_73 (o_2a h) (o_2b h) rfl
    · replace h := o_f c28 h
      refine lv_iload_n hx hb dX4_friend_31 rfl (lv_at hl 2 rfl) ?_
      refine lv_iload_n hx hb dX4_friend_32 rfl (lv_at hl 1 rfl) ?_
      refine lv_icmp_ne (tgt := 39) hx hb dX4_friend_33 (by decide) (fun c33 => ?_) (fun c33 => ?_)
      · replace h := o_f c33 h
        refine lv_aload_n hx hb dX4_friend_39 rfl (lv_at hl 0 rfl) ?_
        obtain ⟨q40, eq40, h⟩ := o_bd h
        refine kV (As := []) (rest := []) (st' := [.ref (sA G 2 0)]) ⟨hx, hb, hml, hown, hts⟩ (kX4_tryOut l G eq40) (cwV 0 hts gX4_friend_X4_tryOut rfl rfl rfl qqX4_tryOut ⟨Nat.le_of_ble_eq_true rfl, Nat.le_of_ble_eq_true rfl⟩) hw (rvOw hw) rfl hl.1 rfl (Nat.le_of_ble_eq_true rfl) dX4_friend_40 ⟨Nat.zero_le _, Nat.zero_le _⟩ rfl (fun H locs hw => ?_)
        refine lv_astore_n (lv' := [(3, .ref (sA G 2 0)), (0, .ref (sA G 0 0)), (1, .int a1), (2, .int x2_20)]) hx hb dX4_friend_43 rfl hl (by decide) rfl (fun ls hl => ?_)
        refine lv_aload_n hx hb dX4_friend_44 rfl (lv_at hl 0 rfl) ?_
        refine gTk (v := .ref (sA G 2 4)) hx hb hts hiX3 hown hw (Or.inr (Or.inl rfl)) rfl 9 (by decide) (hts (.fieldLink RX4 85 "SecondHome$Track" "friends" "[I") (by decide +kernel)) rfl dX4_friend_45 ?_
        refine lv_iload_n hx hb dX4_friend_48 rfl (lv_at hl 2 rfl) ?_
        refine lv_iload_n hx hb dX4_friend_49 rfl (lv_at hl 3 rfl) ?_
        obtain ⟨b50, h⟩ := o_in h
        refine stTk hx hb hw (Or.inr (Or.inl rfl)) rfl 3 (by decide) b50 dX4_friend_50 rfl (fun H locs hw => ?_)
        obtain ⟨S50, eS50, h⟩ := o_nm h
        rw [← eS50] at hw
        refine lv_aload_n hx hb dX4_friend_51 rfl (lv_at hl 0 rfl) ?_
        obtain ⟨q52, eq52, h⟩ := o_bd h
        refine kV (As := []) (rest := []) (st' := [.int q52.1]) ⟨hx, hb, hml, hown, hts⟩ (kX3_raceOwner l G (Or.inr (Or.inl rfl)) rfl eq52) (cwV 0 hts gX4_friend_X3_raceOwner rfl rfl rfl qqX3_raceOwner ⟨Nat.le_of_ble_eq_true rfl, Nat.le_of_ble_eq_true rfl⟩) hw (rvTk hw (Or.inr (Or.inl rfl))) rfl hl.1 rfl (Nat.le_of_ble_eq_true rfl) dX4_friend_52 ⟨Nat.zero_le _, Nat.zero_le _⟩ rfl (fun H locs hw => ?_)
        obtain ⟨S52, eS52, h⟩ := o_nm h
        rw [← eS52] at hw
        refine lv_iload_n hx hb dX4_friend_55 rfl (lv_at hl 2 rfl) ?_
        refine lv_icmp_ne (tgt := 61) hx hb dX4_friend_56 (by decide) (fun c56 => ?_) (fun c56 => ?_)
        · replace h := o_f c56 h
          obtain ⟨v61, ev61, h⟩ := o_nm h
          refine lv_iinc (v := v61) (lv' := [(2, .int v61), (3, .ref (sA G 2 0)), (0, .ref (sA G 0 0)), (1, .int a1)]) hx hb dX4_friend_61 hl (k := 3) rfl (by rw [ev61]; rfl) (by decide) rfl (fun ls hl => ?_)
          refine lv_goto (tgt := 20) hx hb dX4_friend_64 (by decide) ?_
          exact IH20 v61 S52 h _ _ _ hw (lv_sub hl [2, 3, 0] rfl)
        · replace h := o_t c56 h
          refine lv_iload_n hx hb dX4_friend_59 rfl (lv_at hl 3 rfl) ?_
          exact rI hQ hx hb hr hlk hw dX4_friend_60 (o_2a h) (o_2b h) rfl
      · replace h := o_t c33 h
        refine lv_goto (tgt := 61) hx hb dX4_friend_36 (by decide) ?_
        obtain ⟨v61, ev61, h⟩ := o_nm h
        refine lv_iinc (v := v61) (lv' := [(2, .int v61), (0, .ref (sA G 0 0)), (1, .int a1)]) hx hb dX4_friend_61 hl (k := 2) rfl (by rw [ev61]; rfl) (by decide) rfl (fun ls hl => ?_)
        refine lv_goto (tgt := 20) hx hb dX4_friend_64 (by decide) ?_
        exact IH20 v61 S_20 h _ _ _ hw (lv_sub hl [1, 2, 0] rfl)
  · replace h := o_t c8 h
    refine lv_aload_n hx hb dX4_friend_11 rfl (lv_at hl 0 rfl) ?_
    refine lv_ldc (v := -1000000001) hx hb hown (hts (.constant RX4 50 (-1000000001)) (by decide +kernel)) dX4_friend_12 ?_
    obtain ⟨q14, eq14, h⟩ := o_bd h
    refine kV (As := [.int (-1000000001 : Int32)]) (rest := []) (st' := [.int q14.1]) ⟨hx, hb, hml, hown, hts⟩ (kX4_found l G eq14) (cwV 1 hts gX4_friend_X4_found rfl rfl rfl qqX4_found ⟨Nat.le_of_ble_eq_true rfl, Nat.le_of_ble_eq_true rfl⟩) hw (rvOw hw) rfl hl.1 rfl (Nat.le_of_ble_eq_true rfl) dX4_friend_14 ⟨Nat.zero_le _, Nat.zero_le _⟩ rfl (fun H locs hw => ?_)
    exact rI hQ hx hb hr hlk hw dX4_friend_17 (o_2a h) (o_2b h) rfl
-- X4_deal
def bX4_deal_37 (q4 : Int32 × sOb) (rc22 : Int32 → sWo → Option (Int32 × sWo)) (x2_22 : Int32) (rc37 : Int32 → sWo → Option (Int32 × sWo)) (x3_37 : Int32) (S_37 : sWo) : Option (Int32 × sWo) :=
  if ((S_37 1).1 4) ≤ x3_37 then (nm (x2_22 + (1 : Int32)) fun v93 => rc22 v93 S_37) else ((fX4_tryOut S_37).bind fun q49 => (fX3_changePaces (q49 2) x2_22 x3_37).bind fun q58 => nm (sUp q49 2 q58) fun S58 => (fX3_raceOwner (S58 2)).bind fun q63 => nm (sUp S58 2 q63.2) fun S63 => if q63.1 = (-1 : Int32) then (nm (x3_37 + (1 : Int32)) fun v87 => rc37 v87 S63) else (if q63.1 = q4.1 then (nm (x3_37 + (1 : Int32)) fun v87 => rc37 v87 S63) else (some ((((10 : Int32) * x2_22) + x3_37), S63))))
def bX4_deal_22 (q4 : Int32 × sOb) (rc22 : Int32 → sWo → Option (Int32 × sWo)) (x2_22 : Int32) (S_22 : sWo) : Option (Int32 × sWo) :=
  if ((S_22 1).1 4) ≤ x2_22 then ((fX4_found S_22 (-1000000004 : Int32)).bind fun q102 => some (q102.1, q102.2)) else (nm (x2_22 + (1 : Int32)) fun v36 => fx2 (bX4_deal_37 q4 rc22 x2_22) FU v36 S_22)
def fX4_deal (S : sWo) : Option (Int32 × sWo) :=
  (fX4_tryOut S).bind fun q1 => (fX3_raceOwner (q1 2)).bind fun q4 => nm (sUp q1 2 q4.2) fun S4 => if q4.1 = (-1 : Int32) then ((fX4_found S4 (-1000000004 : Int32)).bind fun q16 => some (q16.1, q16.2)) else (fx2 (bX4_deal_22 q4) FU (0 : Int32) S4)
def rmX4_deal : Room := { frames := 6, cells := 0, slots := 0, locals := 132 }
theorem qqX4_deal : yX4_deal.cls = RX4 ∧ yX4_deal.cls ≠ "java/lang/invoke/MethodHandle" ∧ yX4_deal.cls ≠ "java/lang/invoke/VarHandle" ∧ (parseMethodDescriptor yX4_deal.desc).map (fun d => d.parameters.length) = some 0 := by decide +kernel
set_option maxRecDepth 100000 in
set_option maxHeartbeats 4000000 in
theorem kX4_deal (l : Launch) (G : sGl) {S : sWo} {M : sOb}  {q : (Int32 × sWo)}  (h : fX4_deal S = some q) : sCt l G yX4_deal wsX4_deal rmX4_deal [.ref (sA G 0 0)] S M (some (.int q.1)) q.2 M := by
  refine cMk (cc := cX4_deal) (maxL := 6) (ret := (some .int)) (by decide) rfl (Nat.le_of_ble_eq_true rfl) ?_
  intro p e s m args below meth c Q hQ hx hb hr hlk hml hown hts hw ls hl
  have hown : s.vm.findClass RX4 = some m.cls := hown
  have hl : lv_has ls 6 [(0, .ref (sA G 0 0))] := hl
  have hiX3 : ∀ w ∈ u_ws RX3 TX3 15, w ∈ wsX4_deal := by decide +kernel
  have hiX4 : ∀ w ∈ u_ws RX4 TX4 7, w ∈ wsX4_deal := by decide +kernel
  unfold fX4_deal at h
  refine lv_aload_n hx hb dX4_deal_0 rfl (lv_at hl 0 rfl) ?_
  obtain ⟨q1, eq1, h⟩ := o_bd h
  refine kV (As := []) (rest := []) (st' := [.ref (sA G 2 0)]) ⟨hx, hb, hml, hown, hts⟩ (kX4_tryOut l G eq1) (cwV 0 hts gX4_deal_X4_tryOut rfl rfl rfl qqX4_tryOut ⟨Nat.le_of_ble_eq_true rfl, Nat.le_of_ble_eq_true rfl⟩) hw (rvOw hw) rfl hl.1 rfl (Nat.le_of_ble_eq_true rfl) dX4_deal_1 ⟨Nat.zero_le _, Nat.zero_le _⟩ rfl (fun H locs hw => ?_)
  obtain ⟨q4, eq4, h⟩ := o_bd h
  refine kV (As := []) (rest := []) (st' := [.int q4.1]) ⟨hx, hb, hml, hown, hts⟩ (kX3_raceOwner l G (Or.inr (Or.inl rfl)) rfl eq4) (cwV 0 hts gX4_deal_X3_raceOwner rfl rfl rfl qqX3_raceOwner ⟨Nat.le_of_ble_eq_true rfl, Nat.le_of_ble_eq_true rfl⟩) hw (rvTk hw (Or.inr (Or.inl rfl))) rfl hl.1 rfl (Nat.le_of_ble_eq_true rfl) dX4_deal_4 ⟨Nat.zero_le _, Nat.zero_le _⟩ rfl (fun H locs hw => ?_)
  obtain ⟨S4, eS4, h⟩ := o_nm h
  rw [← eS4] at hw
  refine lv_istore_n (lv' := [(1, .int q4.1), (0, .ref (sA G 0 0))]) hx hb dX4_deal_7 rfl hl (by decide) rfl (fun ls hl => ?_)
  refine lv_iload_n hx hb dX4_deal_8 rfl (lv_at hl 0 rfl) ?_
  refine lv_iconst (v := -1) hx hb dX4_deal_9 (by decide) ?_
  refine lv_icmp_ne (tgt := 20) hx hb dX4_deal_10 (by decide) (fun c10 => ?_) (fun c10 => ?_)
  · replace h := o_f c10 h
    refine lv_iconst (v := 0) hx hb dX4_deal_20 (by decide) ?_
    refine lv_istore_n (lv' := [(2, .int (0 : Int32)), (1, .int q4.1), (0, .ref (sA G 0 0))]) hx hb dX4_deal_21 rfl hl (by decide) rfl (fun ls hl => ?_)
    refine fx2_w (F := (bX4_deal_22 q4)) (P := fun x2_22 S_22 => ∀ (H : Heap) (locs : List Loc) (ls : Array Slot), sHw G s S_22 M H locs → lv_has ls 6 [(0, .ref (sA G 0 0)), (1, .int q4.1), (2, .int x2_22)] → W p l e rmX4_deal s m args below meth c H locs 0 0 Q (F0 m 22 ls [])) ?_ _ _ _ h _ _ _ hw (lv_sub hl [2, 1, 0] rfl)
    intro rc22 IH22 x2_22 S_22 h H locs ls hw hl
    unfold bX4_deal_22 at h
    refine lv_iload_n hx hb dX4_deal_22 rfl (lv_at hl 2 rfl) ?_
    refine lv_aload_n hx hb dX4_deal_23 rfl (lv_at hl 0 rfl) ?_
    refine gOw (v := .ref (sA G 1 0)) hx hb hts hiX4 hown hw 0 (by decide) (hts (.fieldLink RX4 10 "SecondHome" "track" "LSecondHome$Track;") (by decide +kernel)) rfl dX4_deal_24 ?_
    refine gTk (v := .int ((S_22 1).1 4)) hx hb hts hiX3 hown hw (Or.inl rfl) rfl 4 (by decide) (hts (.fieldLink RX4 64 "SecondHome$Track" "count" "I") (by decide +kernel)) rfl dX4_deal_27 ?_
    refine lv_icmp_ge (tgt := 99) hx hb dX4_deal_30 (by decide) (fun c30 => ?_) (fun c30 => ?_)
    · replace h := o_t c30 h
      refine lv_aload_n hx hb dX4_deal_99 rfl (lv_at hl 0 rfl) ?_
      refine lv_ldc (v := -1000000004) hx hb hown (hts (.constant RX4 178 (-1000000004)) (by decide +kernel)) dX4_deal_100 ?_
      obtain ⟨q102, eq102, h⟩ := o_bd h
      refine kV (As := [.int (-1000000004 : Int32)]) (rest := []) (st' := [.int q102.1]) ⟨hx, hb, hml, hown, hts⟩ (kX4_found l G eq102) (cwV 1 hts gX4_deal_X4_found rfl rfl rfl qqX4_found ⟨Nat.le_of_ble_eq_true rfl, Nat.le_of_ble_eq_true rfl⟩) hw (rvOw hw) rfl hl.1 rfl (Nat.le_of_ble_eq_true rfl) dX4_deal_102 ⟨Nat.zero_le _, Nat.zero_le _⟩ rfl (fun H locs hw => ?_)
      exact rI hQ hx hb hr hlk hw dX4_deal_105 (o_2a h) (o_2b h) rfl
    · replace h := o_f c30 h
      refine lv_iload_n hx hb dX4_deal_33 rfl (lv_at hl 2 rfl) ?_
      refine lv_iconst (v := 1) hx hb dX4_deal_34 (by decide) ?_
      refine lv_iadd hx hb dX4_deal_35 ?_
      refine lv_topi (fun v36 ev36 => ?_)
      replace h := o_nx ev36 h
      refine lv_istore_n (lv' := [(3, .int v36), (0, .ref (sA G 0 0)), (1, .int q4.1), (2, .int x2_22)]) hx hb dX4_deal_36 rfl hl (by decide) rfl (fun ls hl => ?_)
      refine fx2_w (F := (bX4_deal_37 q4 rc22 x2_22)) (P := fun x3_37 S_37 => ∀ (H : Heap) (locs : List Loc) (ls : Array Slot), sHw G s S_37 M H locs → lv_has ls 6 [(0, .ref (sA G 0 0)), (1, .int q4.1), (2, .int x2_22), (3, .int x3_37)] → W p l e rmX4_deal s m args below meth c H locs 0 0 Q (F0 m 37 ls [])) ?_ _ _ _ h _ _ _ hw (lv_sub hl [1, 2, 3, 0] rfl)
      intro rc37 IH37 x3_37 S_37 h H locs ls hw hl
      unfold bX4_deal_37 at h
      refine lv_iload_n hx hb dX4_deal_37 rfl (lv_at hl 3 rfl) ?_
      refine lv_aload_n hx hb dX4_deal_38 rfl (lv_at hl 0 rfl) ?_
      refine gOw (v := .ref (sA G 1 0)) hx hb hts hiX4 hown hw 0 (by decide) (hts (.fieldLink RX4 10 "SecondHome" "track" "LSecondHome$Track;") (by decide +kernel)) rfl dX4_deal_39 ?_
      refine gTk (v := .int ((S_37 1).1 4)) hx hb hts hiX3 hown hw (Or.inl rfl) rfl 4 (by decide) (hts (.fieldLink RX4 64 "SecondHome$Track" "count" "I") (by decide +kernel)) rfl dX4_deal_42 ?_
      refine lv_icmp_ge (tgt := 93) hx hb dX4_deal_45 (by decide) (fun c45 => ?_) (fun c45 => ?_)
      · replace h := o_t c45 h
        obtain ⟨v93, ev93, h⟩ := o_nm h
        refine lv_iinc (v := v93) (lv' := [(2, .int v93), (0, .ref (sA G 0 0)), (1, .int q4.1), (3, .int x3_37)]) hx hb dX4_deal_93 hl (k := 2) rfl (by rw [ev93]; rfl) (by decide) rfl (fun ls hl => ?_)
        refine lv_goto (tgt := 22) hx hb dX4_deal_96 (by decide) ?_
        exact IH22 v93 S_37 h _ _ _ hw (lv_sub hl [1, 2, 0] rfl)
      · replace h := o_f c45 h
        refine lv_aload_n hx hb dX4_deal_48 rfl (lv_at hl 0 rfl) ?_
        obtain ⟨q49, eq49, h⟩ := o_bd h
        refine kV (As := []) (rest := []) (st' := [.ref (sA G 2 0)]) ⟨hx, hb, hml, hown, hts⟩ (kX4_tryOut l G eq49) (cwV 0 hts gX4_deal_X4_tryOut rfl rfl rfl qqX4_tryOut ⟨Nat.le_of_ble_eq_true rfl, Nat.le_of_ble_eq_true rfl⟩) hw (rvOw hw) rfl hl.1 rfl (Nat.le_of_ble_eq_true rfl) dX4_deal_49 ⟨Nat.zero_le _, Nat.zero_le _⟩ rfl (fun H locs hw => ?_)
        refine lv_astore (lv' := [(4, .ref (sA G 2 0)), (0, .ref (sA G 0 0)), (1, .int q4.1), (2, .int x2_22), (3, .int x3_37)]) hx hb dX4_deal_52 hl (by decide) rfl (fun ls hl => ?_)
        refine lv_aload hx hb dX4_deal_54 (lv_at hl 0 rfl) ?_
        refine lv_iload_n hx hb dX4_deal_56 rfl (lv_at hl 3 rfl) ?_
        refine lv_iload_n hx hb dX4_deal_57 rfl (lv_at hl 4 rfl) ?_
        obtain ⟨q58, eq58, h⟩ := o_bd h
        refine kV (As := [.int x2_22, .int x3_37]) (rest := []) (st' := []) ⟨hx, hb, hml, hown, hts⟩ (kX3_changePaces l G (Or.inr (Or.inl rfl)) rfl eq58) (cwV 2 hts gX4_deal_X3_changePaces rfl rfl rfl qqX3_changePaces ⟨Nat.le_of_ble_eq_true rfl, Nat.le_of_ble_eq_true rfl⟩) hw (rvTk hw (Or.inr (Or.inl rfl))) rfl hl.1 rfl (Nat.le_of_ble_eq_true rfl) dX4_deal_58 ⟨Nat.zero_le _, Nat.zero_le _⟩ rfl (fun H locs hw => ?_)
        obtain ⟨S58, eS58, h⟩ := o_nm h
        rw [← eS58] at hw
        refine lv_aload hx hb dX4_deal_61 (lv_at hl 0 rfl) ?_
        obtain ⟨q63, eq63, h⟩ := o_bd h
        refine kV (As := []) (rest := []) (st' := [.int q63.1]) ⟨hx, hb, hml, hown, hts⟩ (kX3_raceOwner l G (Or.inr (Or.inl rfl)) rfl eq63) (cwV 0 hts gX4_deal_X3_raceOwner rfl rfl rfl qqX3_raceOwner ⟨Nat.le_of_ble_eq_true rfl, Nat.le_of_ble_eq_true rfl⟩) hw (rvTk hw (Or.inr (Or.inl rfl))) rfl hl.1 rfl (Nat.le_of_ble_eq_true rfl) dX4_deal_63 ⟨Nat.zero_le _, Nat.zero_le _⟩ rfl (fun H locs hw => ?_)
        obtain ⟨S63, eS63, h⟩ := o_nm h
        rw [← eS63] at hw
        refine lv_istore (lv' := [(5, .int q63.1), (4, .ref (sA G 2 0)), (0, .ref (sA G 0 0)), (1, .int q4.1), (2, .int x2_22), (3, .int x3_37)]) hx hb dX4_deal_66 hl (by decide) rfl (fun ls hl => ?_)
        refine lv_iload hx hb dX4_deal_68 (lv_at hl 0 rfl) ?_
        refine lv_iconst (v := -1) hx hb dX4_deal_70 (by decide) ?_
        refine lv_icmp_eq (tgt := 87) hx hb dX4_deal_71 (by decide) (fun c71 => ?_) (fun c71 => ?_)
        · replace h := o_t c71 h
          obtain ⟨v87, ev87, h⟩ := o_nm h
          refine lv_iinc (v := v87) (lv' := [(3, .int v87), (5, .int q63.1), (4, .ref (sA G 2 0)), (0, .ref (sA G 0 0)), (1, .int q4.1), (2, .int x2_22)]) hx hb dX4_deal_87 hl (k := 5) rfl (by rw [ev87]; rfl) (by decide) rfl (fun ls hl => ?_)
          refine lv_goto (tgt := 37) hx hb dX4_deal_90 (by decide) ?_
          exact IH37 v87 S63 h _ _ _ hw (lv_sub hl [3, 4, 5, 0] rfl)
        · replace h := o_f c71 h
          refine lv_iload hx hb dX4_deal_74 (lv_at hl 0 rfl) ?_
          refine lv_iload_n hx hb dX4_deal_76 rfl (lv_at hl 3 rfl) ?_
          refine lv_icmp_eq (tgt := 87) hx hb dX4_deal_77 (by decide) (fun c77 => ?_) (fun c77 => ?_)
          · replace h := o_t c77 h
            obtain ⟨v87, ev87, h⟩ := o_nm h
            refine lv_iinc (v := v87) (lv' := [(3, .int v87), (5, .int q63.1), (4, .ref (sA G 2 0)), (0, .ref (sA G 0 0)), (1, .int q4.1), (2, .int x2_22)]) hx hb dX4_deal_87 hl (k := 5) rfl (by rw [ev87]; rfl) (by decide) rfl (fun ls hl => ?_)
            refine lv_goto (tgt := 37) hx hb dX4_deal_90 (by decide) ?_
            exact IH37 v87 S63 h _ _ _ hw (lv_sub hl [3, 4, 5, 0] rfl)
          · replace h := o_f c77 h
            refine lv_bipush (v := 10) hx hb dX4_deal_80 (by decide) ?_
            refine lv_iload_n hx hb dX4_deal_82 rfl (lv_at hl 4 rfl) ?_
            refine lv_imul hx hb dX4_deal_83 ?_
            refine lv_iload_n hx hb dX4_deal_84 rfl (lv_at hl 5 rfl) ?_
            refine lv_iadd hx hb dX4_deal_85 ?_
            exact rI hQ hx hb hr hlk hw dX4_deal_86 (o_2a h) (o_2b h) rfl
  · replace h := o_t c10 h
    refine lv_aload_n hx hb dX4_deal_13 rfl (lv_at hl 1 rfl) ?_
    refine lv_ldc (v := -1000000004) hx hb hown (hts (.constant RX4 178 (-1000000004)) (by decide +kernel)) dX4_deal_14 ?_
    obtain ⟨q16, eq16, h⟩ := o_bd h
    refine kV (As := [.int (-1000000004 : Int32)]) (rest := []) (st' := [.int q16.1]) ⟨hx, hb, hml, hown, hts⟩ (kX4_found l G eq16) (cwV 1 hts gX4_deal_X4_found rfl rfl rfl qqX4_found ⟨Nat.le_of_ble_eq_true rfl, Nat.le_of_ble_eq_true rfl⟩) hw (rvOw hw) rfl hl.1 rfl (Nat.le_of_ble_eq_true rfl) dX4_deal_16 ⟨Nat.zero_le _, Nat.zero_le _⟩ rfl (fun H locs hw => ?_)
    exact rI hQ hx hb hr hlk hw dX4_deal_19 (o_2a h) (o_2b h) rfl
-- X4_fair
def bX4_fair_26 (q8 : Int32) (rc26 : Int32 → sWo → Option (Int32 × sWo)) (x2_26 : Int32) (S_26 : sWo) : Option (Int32 × sWo) :=
  if (5 : Int32) < x2_26 then ((fX4_found S_26 (-1000000004 : Int32)).bind fun q60 => some (q60.1, q60.2)) else ((fX4_tryOut S_26).bind fun q32 => nm (sUp q32 2 (sSs (q32 2) 1 x2_26)) fun S38 => (fX3_raceOwner (S38 2)).bind fun q42 => nm (sUp S38 2 q42.2) fun S42 => if q42.1 = q8 then (some (x2_26, S42)) else (nm (x2_26 + (1 : Int32)) fun v51 => rc26 v51 S42))
def fX4_fair (S : sWo) : Option (Int32 × sWo) :=
  (fX4_most S 1).bind fun q8 => if q8 = (-1 : Int32) then ((fX4_found S (-1000000004 : Int32)).bind fun q20 => some (q20.1, q20.2)) else (fx2 (bX4_fair_26 q8) FU (0 : Int32) S)
def rmX4_fair : Room := { frames := 6, cells := 0, slots := 0, locals := 132 }
theorem qqX4_fair : yX4_fair.cls = RX4 ∧ yX4_fair.cls ≠ "java/lang/invoke/MethodHandle" ∧ yX4_fair.cls ≠ "java/lang/invoke/VarHandle" ∧ (parseMethodDescriptor yX4_fair.desc).map (fun d => d.parameters.length) = some 0 := by decide +kernel
set_option maxRecDepth 100000 in
set_option maxHeartbeats 4000000 in
theorem kX4_fair (l : Launch) (G : sGl) {S : sWo} {M : sOb}  {q : (Int32 × sWo)}  (h : fX4_fair S = some q) : sCt l G yX4_fair wsX4_fair rmX4_fair [.ref (sA G 0 0)] S M (some (.int q.1)) q.2 M := by
  refine cMk (cc := cX4_fair) (maxL := 4) (ret := (some .int)) (by decide) rfl (Nat.le_of_ble_eq_true rfl) ?_
  intro p e s m args below meth c Q hQ hx hb hr hlk hml hown hts hw ls hl
  have hown : s.vm.findClass RX4 = some m.cls := hown
  have hl : lv_has ls 4 [(0, .ref (sA G 0 0))] := hl
  have hiX3 : ∀ w ∈ u_ws RX3 TX3 15, w ∈ wsX4_fair := by decide +kernel
  have hiX4 : ∀ w ∈ u_ws RX4 TX4 7, w ∈ wsX4_fair := by decide +kernel
  unfold fX4_fair at h
  refine lv_aload_n hx hb dX4_fair_0 rfl (lv_at hl 0 rfl) ?_
  refine lv_aload_n hx hb dX4_fair_1 rfl (lv_at hl 0 rfl) ?_
  refine gOw (v := .ref (sA G 1 0)) hx hb hts hiX4 hown hw 0 (by decide) (hts (.fieldLink RX4 10 "SecondHome" "track" "LSecondHome$Track;") (by decide +kernel)) rfl dX4_fair_2 ?_
  refine gTk (v := .ref (sA G 1 2)) hx hb hts hiX3 hown hw (Or.inl rfl) rfl 7 (by decide) (hts (.fieldLink RX4 79 "SecondHome$Track" "paces" "[I") (by decide +kernel)) rfl dX4_fair_5 ?_
  obtain ⟨q8, eq8, h⟩ := o_bd h
  refine kV (As := [.ref (sA G 1 2)]) (rest := []) (st' := [.int q8]) ⟨hx, hb, hml, hown, hts⟩ (kX4_most l G (by decide) eq8) (cwV 1 hts gX4_fair_X4_most rfl rfl rfl qqX4_most ⟨Nat.le_of_ble_eq_true rfl, Nat.le_of_ble_eq_true rfl⟩) hw (rvOw hw) rfl hl.1 rfl (Nat.le_of_ble_eq_true rfl) dX4_fair_8 ⟨Nat.zero_le _, Nat.zero_le _⟩ rfl (fun H locs hw => ?_)
  refine lv_istore_n (lv' := [(1, .int q8), (0, .ref (sA G 0 0))]) hx hb dX4_fair_11 rfl hl (by decide) rfl (fun ls hl => ?_)
  refine lv_iload_n hx hb dX4_fair_12 rfl (lv_at hl 0 rfl) ?_
  refine lv_iconst (v := -1) hx hb dX4_fair_13 (by decide) ?_
  refine lv_icmp_ne (tgt := 24) hx hb dX4_fair_14 (by decide) (fun c14 => ?_) (fun c14 => ?_)
  · replace h := o_f c14 h
    refine lv_iconst (v := 0) hx hb dX4_fair_24 (by decide) ?_
    refine lv_istore_n (lv' := [(2, .int (0 : Int32)), (1, .int q8), (0, .ref (sA G 0 0))]) hx hb dX4_fair_25 rfl hl (by decide) rfl (fun ls hl => ?_)
    refine fx2_w (F := (bX4_fair_26 q8)) (P := fun x2_26 S_26 => ∀ (H : Heap) (locs : List Loc) (ls : Array Slot), sHw G s S_26 M H locs → lv_has ls 4 [(0, .ref (sA G 0 0)), (1, .int q8), (2, .int x2_26)] → W p l e rmX4_fair s m args below meth c H locs 0 0 Q (F0 m 26 ls [])) ?_ _ _ _ h _ _ _ hw (lv_sub hl [2, 1, 0] rfl)
    intro rc26 IH26 x2_26 S_26 h H locs ls hw hl
    unfold bX4_fair_26 at h
    refine lv_iload_n hx hb dX4_fair_26 rfl (lv_at hl 2 rfl) ?_
    refine lv_iconst (v := 5) hx hb dX4_fair_27 (by decide) ?_
    refine lv_icmp_gt (tgt := 57) hx hb dX4_fair_28 (by decide) (fun c28 => ?_) (fun c28 => ?_)
    · replace h := o_t c28 h
      refine lv_aload_n hx hb dX4_fair_57 rfl (lv_at hl 0 rfl) ?_
      refine lv_ldc (v := -1000000004) hx hb hown (hts (.constant RX4 178 (-1000000004)) (by decide +kernel)) dX4_fair_58 ?_
      obtain ⟨q60, eq60, h⟩ := o_bd h
      refine kV (As := [.int (-1000000004 : Int32)]) (rest := []) (st' := [.int q60.1]) ⟨hx, hb, hml, hown, hts⟩ (kX4_found l G eq60) (cwV 1 hts gX4_fair_X4_found rfl rfl rfl qqX4_found ⟨Nat.le_of_ble_eq_true rfl, Nat.le_of_ble_eq_true rfl⟩) hw (rvOw hw) rfl hl.1 rfl (Nat.le_of_ble_eq_true rfl) dX4_fair_60 ⟨Nat.zero_le _, Nat.zero_le _⟩ rfl (fun H locs hw => ?_)
      exact rI hQ hx hb hr hlk hw dX4_fair_63 (o_2a h) (o_2b h) rfl
    · replace h := o_f c28 h
      refine lv_aload_n hx hb dX4_fair_31 rfl (lv_at hl 0 rfl) ?_
      obtain ⟨q32, eq32, h⟩ := o_bd h
      refine kV (As := []) (rest := []) (st' := [.ref (sA G 2 0)]) ⟨hx, hb, hml, hown, hts⟩ (kX4_tryOut l G eq32) (cwV 0 hts gX4_fair_X4_tryOut rfl rfl rfl qqX4_tryOut ⟨Nat.le_of_ble_eq_true rfl, Nat.le_of_ble_eq_true rfl⟩) hw (rvOw hw) rfl hl.1 rfl (Nat.le_of_ble_eq_true rfl) dX4_fair_32 ⟨Nat.zero_le _, Nat.zero_le _⟩ rfl (fun H locs hw => ?_)
      refine lv_astore_n (lv' := [(3, .ref (sA G 2 0)), (0, .ref (sA G 0 0)), (1, .int q8), (2, .int x2_26)]) hx hb dX4_fair_35 rfl hl (by decide) rfl (fun ls hl => ?_)
      refine lv_aload_n hx hb dX4_fair_36 rfl (lv_at hl 0 rfl) ?_
      refine lv_iload_n hx hb dX4_fair_37 rfl (lv_at hl 3 rfl) ?_
      refine pTk hx hb hts hiX3 hown hw (Or.inr (Or.inl rfl)) rfl 1 (by decide) (hts (.fieldLink RX4 148 "SecondHome$Track" "least" "I") (by decide +kernel)) dX4_fair_38 rfl (fun H locs hw => ?_)
      obtain ⟨S38, eS38, h⟩ := o_nm h
      rw [← eS38] at hw
      refine lv_aload_n hx hb dX4_fair_41 rfl (lv_at hl 0 rfl) ?_
      obtain ⟨q42, eq42, h⟩ := o_bd h
      refine kV (As := []) (rest := []) (st' := [.int q42.1]) ⟨hx, hb, hml, hown, hts⟩ (kX3_raceOwner l G (Or.inr (Or.inl rfl)) rfl eq42) (cwV 0 hts gX4_fair_X3_raceOwner rfl rfl rfl qqX3_raceOwner ⟨Nat.le_of_ble_eq_true rfl, Nat.le_of_ble_eq_true rfl⟩) hw (rvTk hw (Or.inr (Or.inl rfl))) rfl hl.1 rfl (Nat.le_of_ble_eq_true rfl) dX4_fair_42 ⟨Nat.zero_le _, Nat.zero_le _⟩ rfl (fun H locs hw => ?_)
      obtain ⟨S42, eS42, h⟩ := o_nm h
      rw [← eS42] at hw
      refine lv_iload_n hx hb dX4_fair_45 rfl (lv_at hl 2 rfl) ?_
      refine lv_icmp_ne (tgt := 51) hx hb dX4_fair_46 (by decide) (fun c46 => ?_) (fun c46 => ?_)
      · replace h := o_f c46 h
        obtain ⟨v51, ev51, h⟩ := o_nm h
        refine lv_iinc (v := v51) (lv' := [(2, .int v51), (3, .ref (sA G 2 0)), (0, .ref (sA G 0 0)), (1, .int q8)]) hx hb dX4_fair_51 hl (k := 3) rfl (by rw [ev51]; rfl) (by decide) rfl (fun ls hl => ?_)
        refine lv_goto (tgt := 26) hx hb dX4_fair_54 (by decide) ?_
        exact IH26 v51 S42 h _ _ _ hw (lv_sub hl [2, 3, 0] rfl)
      · replace h := o_t c46 h
        refine lv_iload_n hx hb dX4_fair_49 rfl (lv_at hl 3 rfl) ?_
        exact rI hQ hx hb hr hlk hw dX4_fair_50 (o_2a h) (o_2b h) rfl
  · replace h := o_t c14 h
    refine lv_aload_n hx hb dX4_fair_17 rfl (lv_at hl 1 rfl) ?_
    refine lv_ldc (v := -1000000004) hx hb hown (hts (.constant RX4 178 (-1000000004)) (by decide +kernel)) dX4_fair_18 ?_
    obtain ⟨q20, eq20, h⟩ := o_bd h
    refine kV (As := [.int (-1000000004 : Int32)]) (rest := []) (st' := [.int q20.1]) ⟨hx, hb, hml, hown, hts⟩ (kX4_found l G eq20) (cwV 1 hts gX4_fair_X4_found rfl rfl rfl qqX4_found ⟨Nat.le_of_ble_eq_true rfl, Nat.le_of_ble_eq_true rfl⟩) hw (rvOw hw) rfl hl.1 rfl (Nat.le_of_ble_eq_true rfl) dX4_fair_20 ⟨Nat.zero_le _, Nat.zero_le _⟩ rfl (fun H locs hw => ?_)
    exact rI hQ hx hb hr hlk hw dX4_fair_23 (o_2a h) (o_2b h) rfl
-- X4_odds
def bX4_odds_53 (k98 : Int32 → sWo → Option (Int32 × sWo)) (rc53 : Int32 → Int32 → sWo → Option (Int32 × sWo)) (x4_53 : Int32) (x8_53 : Int32) (S_53 : sWo) : Option (Int32 × sWo) :=
  if ((S_53 2).1 4) ≤ x8_53 then (k98 x4_53 S_53) else (nm ((x4_53 * (1103515245 : Int32)) + (12345 : Int32)) fun v72 => if x8_53 < 0 ∨ 9 ≤ x8_53.toNatClampNeg then none else nm (sUp S_53 2 (sSa (S_53 2) 1 x8_53.toNatClampNeg (((v72.toUInt32 >>> ((8 : Int32).toUInt32 &&& Int32.toUInt32 31)).toInt32 - (v72.toUInt32 >>> ((8 : Int32).toUInt32 &&& Int32.toUInt32 31)).toInt32 / (12 : Int32) * (12 : Int32)) + (1 : Int32)))) fun S91 => nm (x8_53 + (1 : Int32)) fun v92 => rc53 v72 v92 S91)
def bX4_odds_38 (a1 : Int32) (a2 : Int32) (rc38 : Int32 → Int32 → Int32 → sWo → Option (Int32 × sWo)) (x4_38 : Int32) (x5_38 : Int32) (x6_38 : Int32) (S_38 : sWo) : Option (Int32 × sWo) :=
  if a2 ≤ x6_38 then (some (x5_38, S_38)) else ((fX4_tryOut S_38).bind fun q45 => nm (fun (x4_98 : Int32) (S_98 : sWo) => (fX3_raceOwner (S_98 2)).bind fun q100 => nm (sUp S_98 2 q100.2) fun S100 => if q100.1 = a1 then (nm (x5_38 + (1 : Int32)) fun v107 => nm (x6_38 + (1 : Int32)) fun v110 => rc38 x4_98 v107 v110 S100) else (nm (x6_38 + (1 : Int32)) fun v110 => rc38 x4_98 x5_38 v110 S100)) fun k98 => fx3 (bX4_odds_53 k98) FU x4_38 (0 : Int32) q45)
def fX4_odds (S : sWo) (a1 : Int32) (a2 : Int32) (a3 : Int32) : Option (Int32 × sWo) :=
  (fX3_has (S 1) a1).bind fun q5 => if q5 = 0 then ((fX4_found S (-1000000001 : Int32)).bind fun q25 => some (q25.1, q25.2)) else (if a2 < (1 : Int32) then ((fX4_found S (-1000000001 : Int32)).bind fun q25 => some (q25.1, q25.2)) else (if a2 ≤ (20 : Int32) then (fx4 (bX4_odds_38 a1 a2) FU a3 (0 : Int32) (0 : Int32) S) else ((fX4_found S (-1000000001 : Int32)).bind fun q25 => some (q25.1, q25.2))))
def rmX4_odds : Room := { frames := 6, cells := 0, slots := 0, locals := 132 }
theorem qqX4_odds : yX4_odds.cls = RX4 ∧ yX4_odds.cls ≠ "java/lang/invoke/MethodHandle" ∧ yX4_odds.cls ≠ "java/lang/invoke/VarHandle" ∧ (parseMethodDescriptor yX4_odds.desc).map (fun d => d.parameters.length) = some 3 := by decide +kernel
set_option maxRecDepth 100000 in
set_option maxHeartbeats 4000000 in
theorem kX4_odds (l : Launch) (G : sGl) {S : sWo} {M : sOb} {a1 : Int32} {a2 : Int32} {a3 : Int32} {q : (Int32 × sWo)}  (h : fX4_odds S a1 a2 a3 = some q) : sCt l G yX4_odds wsX4_odds rmX4_odds [.ref (sA G 0 0), .int a1, .int a2, .int a3] S M (some (.int q.1)) q.2 M := by
  refine cMk (cc := cX4_odds) (maxL := 9) (ret := (some .int)) (by decide) rfl (Nat.le_of_ble_eq_true rfl) ?_
  intro p e s m args below meth c Q hQ hx hb hr hlk hml hown hts hw ls hl
  have hown : s.vm.findClass RX4 = some m.cls := hown
  have hl : lv_has ls 9 [(0, .ref (sA G 0 0)), (1, .int a1), (2, .int a2), (3, .int a3)] := hl
  have hiX3 : ∀ w ∈ u_ws RX3 TX3 15, w ∈ wsX4_odds := by decide +kernel
  have hiX4 : ∀ w ∈ u_ws RX4 TX4 7, w ∈ wsX4_odds := by decide +kernel
  unfold fX4_odds at h
  refine lv_aload_n hx hb dX4_odds_0 rfl (lv_at hl 0 rfl) ?_
  refine gOw (v := .ref (sA G 1 0)) hx hb hts hiX4 hown hw 0 (by decide) (hts (.fieldLink RX4 10 "SecondHome" "track" "LSecondHome$Track;") (by decide +kernel)) rfl dX4_odds_1 ?_
  refine lv_iload_n hx hb dX4_odds_4 rfl (lv_at hl 1 rfl) ?_
  obtain ⟨q5, eq5, h⟩ := o_bd h
  refine kV (As := [.int a1]) (rest := []) (st' := [.int q5]) ⟨hx, hb, hml, hown, hts⟩ (kX3_has l G (Or.inl rfl) rfl eq5) (cwV 1 hts gX4_odds_X3_has rfl rfl rfl qqX3_has ⟨Nat.le_of_ble_eq_true rfl, Nat.le_of_ble_eq_true rfl⟩) hw (rvTk hw (Or.inl rfl)) rfl hl.1 rfl (Nat.le_of_ble_eq_true rfl) dX4_odds_5 ⟨Nat.zero_le _, Nat.zero_le _⟩ rfl (fun H locs hw => ?_)
  refine lv_if_eq (tgt := 22) hx hb dX4_odds_8 (by decide) (fun c8 => ?_) (fun c8 => ?_)
  · replace h := o_t c8 h
    refine lv_aload_n hx hb dX4_odds_22 rfl (lv_at hl 0 rfl) ?_
    refine lv_ldc (v := -1000000001) hx hb hown (hts (.constant RX4 50 (-1000000001)) (by decide +kernel)) dX4_odds_23 ?_
    obtain ⟨q25, eq25, h⟩ := o_bd h
    refine kV (As := [.int (-1000000001 : Int32)]) (rest := []) (st' := [.int q25.1]) ⟨hx, hb, hml, hown, hts⟩ (kX4_found l G eq25) (cwV 1 hts gX4_odds_X4_found rfl rfl rfl qqX4_found ⟨Nat.le_of_ble_eq_true rfl, Nat.le_of_ble_eq_true rfl⟩) hw (rvOw hw) rfl hl.1 rfl (Nat.le_of_ble_eq_true rfl) dX4_odds_25 ⟨Nat.zero_le _, Nat.zero_le _⟩ rfl (fun H locs hw => ?_)
    exact rI hQ hx hb hr hlk hw dX4_odds_28 (o_2a h) (o_2b h) rfl
  · replace h := o_f c8 h
    refine lv_iload_n hx hb dX4_odds_11 rfl (lv_at hl 2 rfl) ?_
    refine lv_iconst (v := 1) hx hb dX4_odds_12 (by decide) ?_
    refine lv_icmp_lt (tgt := 22) hx hb dX4_odds_13 (by decide) (fun c13 => ?_) (fun c13 => ?_)
    · replace h := o_t c13 h
      refine lv_aload_n hx hb dX4_odds_22 rfl (lv_at hl 0 rfl) ?_
      refine lv_ldc (v := -1000000001) hx hb hown (hts (.constant RX4 50 (-1000000001)) (by decide +kernel)) dX4_odds_23 ?_
      obtain ⟨q25, eq25, h⟩ := o_bd h
      refine kV (As := [.int (-1000000001 : Int32)]) (rest := []) (st' := [.int q25.1]) ⟨hx, hb, hml, hown, hts⟩ (kX4_found l G eq25) (cwV 1 hts gX4_odds_X4_found rfl rfl rfl qqX4_found ⟨Nat.le_of_ble_eq_true rfl, Nat.le_of_ble_eq_true rfl⟩) hw (rvOw hw) rfl hl.1 rfl (Nat.le_of_ble_eq_true rfl) dX4_odds_25 ⟨Nat.zero_le _, Nat.zero_le _⟩ rfl (fun H locs hw => ?_)
      exact rI hQ hx hb hr hlk hw dX4_odds_28 (o_2a h) (o_2b h) rfl
    · replace h := o_f c13 h
      refine lv_iload_n hx hb dX4_odds_16 rfl (lv_at hl 2 rfl) ?_
      refine lv_bipush (v := 20) hx hb dX4_odds_17 (by decide) ?_
      refine lv_icmp_le (tgt := 29) hx hb dX4_odds_19 (by decide) (fun c19 => ?_) (fun c19 => ?_)
      · replace h := o_t c19 h
        refine lv_iload_n hx hb dX4_odds_29 rfl (lv_at hl 3 rfl) ?_
        refine lv_istore (lv' := [(4, .int a3), (0, .ref (sA G 0 0)), (1, .int a1), (2, .int a2), (3, .int a3)]) hx hb dX4_odds_30 hl (by decide) rfl (fun ls hl => ?_)
        refine lv_iconst (v := 0) hx hb dX4_odds_32 (by decide) ?_
        refine lv_istore (lv' := [(5, .int (0 : Int32)), (4, .int a3), (0, .ref (sA G 0 0)), (1, .int a1), (2, .int a2), (3, .int a3)]) hx hb dX4_odds_33 hl (by decide) rfl (fun ls hl => ?_)
        refine lv_iconst (v := 0) hx hb dX4_odds_35 (by decide) ?_
        refine lv_istore (lv' := [(6, .int (0 : Int32)), (5, .int (0 : Int32)), (4, .int a3), (0, .ref (sA G 0 0)), (1, .int a1), (2, .int a2), (3, .int a3)]) hx hb dX4_odds_36 hl (by decide) rfl (fun ls hl => ?_)
        refine fx4_w (F := (bX4_odds_38 a1 a2)) (P := fun x4_38 x5_38 x6_38 S_38 => ∀ (H : Heap) (locs : List Loc) (ls : Array Slot), sHw G s S_38 M H locs → lv_has ls 9 [(0, .ref (sA G 0 0)), (1, .int a1), (2, .int a2), (4, .int x4_38), (5, .int x5_38), (6, .int x6_38)] → W p l e rmX4_odds s m args below meth c H locs 0 0 Q (F0 m 38 ls [])) ?_ _ _ _ _ _ h _ _ _ hw (lv_sub hl [3, 4, 5, 2, 1, 0] rfl)
        intro rc38 IH38 x4_38 x5_38 x6_38 S_38 h H locs ls hw hl
        unfold bX4_odds_38 at h
        refine lv_iload hx hb dX4_odds_38 (lv_at hl 5 rfl) ?_
        refine lv_iload_n hx hb dX4_odds_40 rfl (lv_at hl 2 rfl) ?_
        refine lv_icmp_ge (tgt := 116) hx hb dX4_odds_41 (by decide) (fun c41 => ?_) (fun c41 => ?_)
        · replace h := o_t c41 h
          refine lv_iload hx hb dX4_odds_116 (lv_at hl 4 rfl) ?_
          exact rI hQ hx hb hr hlk hw dX4_odds_118 (o_2a h) (o_2b h) rfl
        · replace h := o_f c41 h
          refine lv_aload_n hx hb dX4_odds_44 rfl (lv_at hl 0 rfl) ?_
          obtain ⟨q45, eq45, h⟩ := o_bd h
          refine kV (As := []) (rest := []) (st' := [.ref (sA G 2 0)]) ⟨hx, hb, hml, hown, hts⟩ (kX4_tryOut l G eq45) (cwV 0 hts gX4_odds_X4_tryOut rfl rfl rfl qqX4_tryOut ⟨Nat.le_of_ble_eq_true rfl, Nat.le_of_ble_eq_true rfl⟩) hw (rvOw hw) rfl hl.1 rfl (Nat.le_of_ble_eq_true rfl) dX4_odds_45 ⟨Nat.zero_le _, Nat.zero_le _⟩ rfl (fun H locs hw => ?_)
          refine lv_astore (lv' := [(7, .ref (sA G 2 0)), (0, .ref (sA G 0 0)), (1, .int a1), (2, .int a2), (4, .int x4_38), (5, .int x5_38), (6, .int x6_38)]) hx hb dX4_odds_48 hl (by decide) rfl (fun ls hl => ?_)
          refine lv_iconst (v := 0) hx hb dX4_odds_50 (by decide) ?_
          refine lv_istore (lv' := [(8, .int (0 : Int32)), (7, .ref (sA G 2 0)), (0, .ref (sA G 0 0)), (1, .int a1), (2, .int a2), (4, .int x4_38), (5, .int x5_38), (6, .int x6_38)]) hx hb dX4_odds_51 hl (by decide) rfl (fun ls hl => ?_)
          obtain ⟨k98, ek98, h⟩ := o_nm h
          have J98 : ∀ (x4_98 : Int32) (S_98 : sWo) (H : Heap) (locs : List Loc) (ls : Array Slot), sHw G s S_98 M H locs → lv_has ls 9 [(0, .ref (sA G 0 0)), (1, .int a1), (2, .int a2), (4, .int x4_98), (5, .int x5_38), (6, .int x6_38), (7, .ref (sA G 2 0))] → k98 x4_98 S_98 = some q → W p l e rmX4_odds s m args below meth c H locs 0 0 Q (F0 m 98 ls []) := by
            intro x4_98 S_98 H locs ls hw hl h
            replace h := o_j2 ek98 h
            refine lv_aload hx hb dX4_odds_98 (lv_at hl 6 rfl) ?_
            obtain ⟨q100, eq100, h⟩ := o_bd h
            refine kV (As := []) (rest := []) (st' := [.int q100.1]) ⟨hx, hb, hml, hown, hts⟩ (kX3_raceOwner l G (Or.inr (Or.inl rfl)) rfl eq100) (cwV 0 hts gX4_odds_X3_raceOwner rfl rfl rfl qqX3_raceOwner ⟨Nat.le_of_ble_eq_true rfl, Nat.le_of_ble_eq_true rfl⟩) hw (rvTk hw (Or.inr (Or.inl rfl))) rfl hl.1 rfl (Nat.le_of_ble_eq_true rfl) dX4_odds_100 ⟨Nat.zero_le _, Nat.zero_le _⟩ rfl (fun H locs hw => ?_)
            obtain ⟨S100, eS100, h⟩ := o_nm h
            rw [← eS100] at hw
            refine lv_iload_n hx hb dX4_odds_103 rfl (lv_at hl 1 rfl) ?_
            refine lv_icmp_ne (tgt := 110) hx hb dX4_odds_104 (by decide) (fun c104 => ?_) (fun c104 => ?_)
            · replace h := o_f c104 h
              obtain ⟨v110, ev110, h⟩ := o_nm h
              refine lv_iinc (v := v110) (lv' := [(6, .int v110), (0, .ref (sA G 0 0)), (1, .int a1), (2, .int a2), (4, .int x4_98), (5, .int x5_38), (7, .ref (sA G 2 0))]) hx hb dX4_odds_110 hl (k := 5) rfl (by rw [ev110]; rfl) (by decide) rfl (fun ls hl => ?_)
              refine lv_goto (tgt := 38) hx hb dX4_odds_113 (by decide) ?_
              exact IH38 x4_98 x5_38 v110 S100 h _ _ _ hw (lv_sub hl [1, 2, 3, 4, 5, 0] rfl)
            · replace h := o_t c104 h
              obtain ⟨v107, ev107, h⟩ := o_nm h
              refine lv_iinc (v := v107) (lv' := [(5, .int v107), (0, .ref (sA G 0 0)), (1, .int a1), (2, .int a2), (4, .int x4_98), (6, .int x6_38), (7, .ref (sA G 2 0))]) hx hb dX4_odds_107 hl (k := 4) rfl (by rw [ev107]; rfl) (by decide) rfl (fun ls hl => ?_)
              obtain ⟨v110, ev110, h⟩ := o_nm h
              refine lv_iinc (v := v110) (lv' := [(6, .int v110), (5, .int v107), (0, .ref (sA G 0 0)), (1, .int a1), (2, .int a2), (4, .int x4_98), (7, .ref (sA G 2 0))]) hx hb dX4_odds_110 hl (k := 5) rfl (by rw [ev110]; rfl) (by decide) rfl (fun ls hl => ?_)
              refine lv_goto (tgt := 38) hx hb dX4_odds_113 (by decide) ?_
              exact IH38 x4_98 v107 v110 S100 h _ _ _ hw (lv_sub hl [2, 3, 4, 5, 1, 0] rfl)
          refine fx3_w (F := (bX4_odds_53 k98)) (P := fun x4_53 x8_53 S_53 => ∀ (H : Heap) (locs : List Loc) (ls : Array Slot), sHw G s S_53 M H locs → lv_has ls 9 [(0, .ref (sA G 0 0)), (1, .int a1), (2, .int a2), (4, .int x4_53), (5, .int x5_38), (6, .int x6_38), (7, .ref (sA G 2 0)), (8, .int x8_53)] → W p l e rmX4_odds s m args below meth c H locs 0 0 Q (F0 m 53 ls [])) ?_ _ _ _ _ h _ _ _ hw (lv_sub hl [2, 3, 4, 5, 6, 7, 1, 0] rfl)
          intro rc53 IH53 x4_53 x8_53 S_53 h H locs ls hw hl
          unfold bX4_odds_53 at h
          refine lv_iload hx hb dX4_odds_53 (lv_at hl 7 rfl) ?_
          refine lv_aload hx hb dX4_odds_55 (lv_at hl 6 rfl) ?_
          refine gTk (v := .int ((S_53 2).1 4)) hx hb hts hiX3 hown hw (Or.inr (Or.inl rfl)) rfl 4 (by decide) (hts (.fieldLink RX4 64 "SecondHome$Track" "count" "I") (by decide +kernel)) rfl dX4_odds_57 ?_
          refine lv_icmp_ge (tgt := 98) hx hb dX4_odds_60 (by decide) (fun c60 => ?_) (fun c60 => ?_)
          · replace h := o_t c60 h
            exact J98 x4_53 S_53 _ _ _ hw (lv_sub hl [0, 1, 2, 3, 4, 5, 6] rfl) h
          · replace h := o_f c60 h
            refine lv_iload hx hb dX4_odds_63 (lv_at hl 3 rfl) ?_
            refine lv_ldc (v := 1103515245) hx hb hown (hts (.constant RX4 192 (1103515245)) (by decide +kernel)) dX4_odds_65 ?_
            refine lv_imul hx hb dX4_odds_67 ?_
            refine lv_sipush (v := 12345) hx hb dX4_odds_68 (by decide) ?_
            refine lv_iadd hx hb dX4_odds_71 ?_
            refine lv_topi (fun v72 ev72 => ?_)
            replace h := o_nx ev72 h
            refine lv_istore (lv' := [(4, .int v72), (0, .ref (sA G 0 0)), (1, .int a1), (2, .int a2), (5, .int x5_38), (6, .int x6_38), (7, .ref (sA G 2 0)), (8, .int x8_53)]) hx hb dX4_odds_72 hl (by decide) rfl (fun ls hl => ?_)
            refine lv_aload hx hb dX4_odds_74 (lv_at hl 6 rfl) ?_
            refine gTk (v := .ref (sA G 2 2)) hx hb hts hiX3 hown hw (Or.inr (Or.inl rfl)) rfl 7 (by decide) (hts (.fieldLink RX4 79 "SecondHome$Track" "paces" "[I") (by decide +kernel)) rfl dX4_odds_76 ?_
            refine lv_iload hx hb dX4_odds_79 (lv_at hl 7 rfl) ?_
            refine lv_iload hx hb dX4_odds_81 (lv_at hl 0 rfl) ?_
            refine lv_bipush (v := 8) hx hb dX4_odds_83 (by decide) ?_
            refine lv_iushr hx hb dX4_odds_85 rfl ?_
            refine lv_bipush (v := 12) hx hb dX4_odds_86 (by decide) ?_
            refine lv_irem hx hb dX4_odds_88 (by decide) ?_
            refine lv_iconst (v := 1) hx hb dX4_odds_89 (by decide) ?_
            refine lv_iadd hx hb dX4_odds_90 ?_
            obtain ⟨b91, h⟩ := o_in h
            refine stTk hx hb hw (Or.inr (Or.inl rfl)) rfl 1 (by decide) b91 dX4_odds_91 rfl (fun H locs hw => ?_)
            obtain ⟨S91, eS91, h⟩ := o_nm h
            rw [← eS91] at hw
            obtain ⟨v92, ev92, h⟩ := o_nm h
            refine lv_iinc (v := v92) (lv' := [(8, .int v92), (4, .int v72), (0, .ref (sA G 0 0)), (1, .int a1), (2, .int a2), (5, .int x5_38), (6, .int x6_38), (7, .ref (sA G 2 0))]) hx hb dX4_odds_92 hl (k := 7) rfl (by rw [ev92]; rfl) (by decide) rfl (fun ls hl => ?_)
            refine lv_goto (tgt := 53) hx hb dX4_odds_95 (by decide) ?_
            exact IH53 v72 v92 S91 h _ _ _ hw (lv_sub hl [2, 3, 4, 1, 5, 6, 7, 0] rfl)
      · replace h := o_f c19 h
        refine lv_aload_n hx hb dX4_odds_22 rfl (lv_at hl 0 rfl) ?_
        refine lv_ldc (v := -1000000001) hx hb hown (hts (.constant RX4 50 (-1000000001)) (by decide +kernel)) dX4_odds_23 ?_
        obtain ⟨q25, eq25, h⟩ := o_bd h
        refine kV (As := [.int (-1000000001 : Int32)]) (rest := []) (st' := [.int q25.1]) ⟨hx, hb, hml, hown, hts⟩ (kX4_found l G eq25) (cwV 1 hts gX4_odds_X4_found rfl rfl rfl qqX4_found ⟨Nat.le_of_ble_eq_true rfl, Nat.le_of_ble_eq_true rfl⟩) hw (rvOw hw) rfl hl.1 rfl (Nat.le_of_ble_eq_true rfl) dX4_odds_25 ⟨Nat.zero_le _, Nat.zero_le _⟩ rfl (fun H locs hw => ?_)
        exact rI hQ hx hb hr hlk hw dX4_odds_28 (o_2a h) (o_2b h) rfl
-- X4_unwilling
def bX4_unwilling_13 (rc13 : Int32 → Int32 → sWo → Option (Int32 × sWo)) (x2_13 : Int32) (x3_13 : Int32) (S_13 : sWo) : Option (Int32 × sWo) :=
  if (2000 : Int32) ≤ x3_13 then (some (x2_13, S_13)) else ((fX3_allHome (S_13 2)).bind fun q21 => if q21 = 0 then ((fX3_firstAlone (S_13 2)).bind fun q28 => (fX3_has (S_13 2) q28).bind fun q36 => nm (fun (y0_66 : Int32) => (fX3_goSecond (S_13 2)).bind fun q69 => nm (sUp S_13 2 q69) fun S69 => if y0_66 = 0 then (nm (x3_13 + (1 : Int32)) fun v101 => rc13 x2_13 v101 S69) else (if q28 < 0 ∨ 9 ≤ q28.toNatClampNeg then none else if ((S69 2).2.1 1 q28.toNatClampNeg) ≤ ((S69 2).2.1 8 q28.toNatClampNeg) then (nm (x3_13 + (1 : Int32)) fun v101 => rc13 x2_13 v101 S69) else (nm (x2_13 ||| ((1 : Int32) <<< (q28 &&& 31))) fun v100 => nm (x3_13 + (1 : Int32)) fun v101 => rc13 v100 v101 S69))) fun k66 => nm (k66 (0 : Int32)) fun k65 => if q36 = 0 then k65 else (if q28 < 0 ∨ 9 ≤ q28.toNatClampNeg then none else if ((S_13 2).2.1 2 q28.toNatClampNeg) < (((S_13 2).2.1 1 q28.toNatClampNeg) - (4 : Int32)) then k65 else (k66 (1 : Int32)))) else (some (x2_13, S_13)))
def fX4_unwilling (S : sWo) : Option (Int32 × sWo) :=
  (fX4_tryOut S).bind fun q1 => (fX3_lineUp (q1 2)).bind fun q6 => nm (sUp q1 2 q6) fun S6 => fx3 bX4_unwilling_13 FU (0 : Int32) (0 : Int32) S6
def rmX4_unwilling : Room := { frames := 4, cells := 0, slots := 0, locals := 90 }
theorem qqX4_unwilling : yX4_unwilling.cls = RX4 ∧ yX4_unwilling.cls ≠ "java/lang/invoke/MethodHandle" ∧ yX4_unwilling.cls ≠ "java/lang/invoke/VarHandle" ∧ (parseMethodDescriptor yX4_unwilling.desc).map (fun d => d.parameters.length) = some 0 := by decide +kernel
set_option maxRecDepth 100000 in
set_option maxHeartbeats 4000000 in
theorem kX4_unwilling (l : Launch) (G : sGl) {S : sWo} {M : sOb}  {q : (Int32 × sWo)}  (h : fX4_unwilling S = some q) : sCt l G yX4_unwilling wsX4_unwilling rmX4_unwilling [.ref (sA G 0 0)] S M (some (.int q.1)) q.2 M := by
  refine cMk (cc := cX4_unwilling) (maxL := 6) (ret := (some .int)) (by decide) rfl (Nat.le_of_ble_eq_true rfl) ?_
  intro p e s m args below meth c Q hQ hx hb hr hlk hml hown hts hw ls hl
  have hown : s.vm.findClass RX4 = some m.cls := hown
  have hl : lv_has ls 6 [(0, .ref (sA G 0 0))] := hl
  have hiX3 : ∀ w ∈ u_ws RX3 TX3 15, w ∈ wsX4_unwilling := by decide +kernel
  unfold fX4_unwilling at h
  refine lv_aload_n hx hb dX4_unwilling_0 rfl (lv_at hl 0 rfl) ?_
  obtain ⟨q1, eq1, h⟩ := o_bd h
  refine kV (As := []) (rest := []) (st' := [.ref (sA G 2 0)]) ⟨hx, hb, hml, hown, hts⟩ (kX4_tryOut l G eq1) (cwV 0 hts gX4_unwilling_X4_tryOut rfl rfl rfl qqX4_tryOut ⟨Nat.le_of_ble_eq_true rfl, Nat.le_of_ble_eq_true rfl⟩) hw (rvOw hw) rfl hl.1 rfl (Nat.le_of_ble_eq_true rfl) dX4_unwilling_1 ⟨Nat.zero_le _, Nat.zero_le _⟩ rfl (fun H locs hw => ?_)
  refine lv_astore_n (lv' := [(1, .ref (sA G 2 0)), (0, .ref (sA G 0 0))]) hx hb dX4_unwilling_4 rfl hl (by decide) rfl (fun ls hl => ?_)
  refine lv_aload_n hx hb dX4_unwilling_5 rfl (lv_at hl 0 rfl) ?_
  obtain ⟨q6, eq6, h⟩ := o_bd h
  refine kV (As := []) (rest := []) (st' := []) ⟨hx, hb, hml, hown, hts⟩ (kX3_lineUp l G (Or.inr (Or.inl rfl)) rfl eq6) (cwV 0 hts gX4_unwilling_X3_lineUp rfl rfl rfl qqX3_lineUp ⟨Nat.le_of_ble_eq_true rfl, Nat.le_of_ble_eq_true rfl⟩) hw (rvTk hw (Or.inr (Or.inl rfl))) rfl hl.1 rfl (Nat.le_of_ble_eq_true rfl) dX4_unwilling_6 ⟨Nat.zero_le _, Nat.zero_le _⟩ rfl (fun H locs hw => ?_)
  obtain ⟨S6, eS6, h⟩ := o_nm h
  rw [← eS6] at hw
  refine lv_iconst (v := 0) hx hb dX4_unwilling_9 (by decide) ?_
  refine lv_istore_n (lv' := [(2, .int (0 : Int32)), (1, .ref (sA G 2 0)), (0, .ref (sA G 0 0))]) hx hb dX4_unwilling_10 rfl hl (by decide) rfl (fun ls hl => ?_)
  refine lv_iconst (v := 0) hx hb dX4_unwilling_11 (by decide) ?_
  refine lv_istore_n (lv' := [(3, .int (0 : Int32)), (2, .int (0 : Int32)), (1, .ref (sA G 2 0)), (0, .ref (sA G 0 0))]) hx hb dX4_unwilling_12 rfl hl (by decide) rfl (fun ls hl => ?_)
  refine fx3_w (F := bX4_unwilling_13) (P := fun x2_13 x3_13 S_13 => ∀ (H : Heap) (locs : List Loc) (ls : Array Slot), sHw G s S_13 M H locs → lv_has ls 6 [(1, .ref (sA G 2 0)), (2, .int x2_13), (3, .int x3_13)] → W p l e rmX4_unwilling s m args below meth c H locs 0 0 Q (F0 m 13 ls [])) ?_ _ _ _ _ h _ _ _ hw (lv_sub hl [2, 1, 0] rfl)
  intro rc13 IH13 x2_13 x3_13 S_13 h H locs ls hw hl
  unfold bX4_unwilling_13 at h
  refine lv_iload_n hx hb dX4_unwilling_13 rfl (lv_at hl 2 rfl) ?_
  refine lv_sipush (v := 2000) hx hb dX4_unwilling_14 (by decide) ?_
  refine lv_icmp_ge (tgt := 107) hx hb dX4_unwilling_17 (by decide) (fun c17 => ?_) (fun c17 => ?_)
  · replace h := o_t c17 h
    refine lv_iload_n hx hb dX4_unwilling_107 rfl (lv_at hl 1 rfl) ?_
    exact rI hQ hx hb hr hlk hw dX4_unwilling_108 (o_2a h) (o_2b h) rfl
  · replace h := o_f c17 h
    refine lv_aload_n hx hb dX4_unwilling_20 rfl (lv_at hl 0 rfl) ?_
    obtain ⟨q21, eq21, h⟩ := o_bd h
    refine kV (As := []) (rest := []) (st' := [.int q21]) ⟨hx, hb, hml, hown, hts⟩ (kX3_allHome l G (Or.inr (Or.inl rfl)) rfl eq21) (cwV 0 hts gX4_unwilling_X3_allHome rfl rfl rfl qqX3_allHome ⟨Nat.le_of_ble_eq_true rfl, Nat.le_of_ble_eq_true rfl⟩) hw (rvTk hw (Or.inr (Or.inl rfl))) rfl hl.1 rfl (Nat.le_of_ble_eq_true rfl) dX4_unwilling_21 ⟨Nat.zero_le _, Nat.zero_le _⟩ rfl (fun H locs hw => ?_)
    refine lv_if_ne (tgt := 107) hx hb dX4_unwilling_24 (by decide) (fun c24 => ?_) (fun c24 => ?_)
    · replace h := o_f c24 h
      refine lv_iload_n hx hb dX4_unwilling_107 rfl (lv_at hl 1 rfl) ?_
      exact rI hQ hx hb hr hlk hw dX4_unwilling_108 (o_2a h) (o_2b h) rfl
    · replace h := o_t c24 h
      refine lv_aload_n hx hb dX4_unwilling_27 rfl (lv_at hl 0 rfl) ?_
      obtain ⟨q28, eq28, h⟩ := o_bd h
      refine kV (As := []) (rest := []) (st' := [.int q28]) ⟨hx, hb, hml, hown, hts⟩ (kX3_firstAlone l G (Or.inr (Or.inl rfl)) rfl eq28) (cwV 0 hts gX4_unwilling_X3_firstAlone rfl rfl rfl qqX3_firstAlone ⟨Nat.le_of_ble_eq_true rfl, Nat.le_of_ble_eq_true rfl⟩) hw (rvTk hw (Or.inr (Or.inl rfl))) rfl hl.1 rfl (Nat.le_of_ble_eq_true rfl) dX4_unwilling_28 ⟨Nat.zero_le _, Nat.zero_le _⟩ rfl (fun H locs hw => ?_)
      refine lv_istore (lv' := [(4, .int q28), (1, .ref (sA G 2 0)), (2, .int x2_13), (3, .int x3_13)]) hx hb dX4_unwilling_31 hl (by decide) rfl (fun ls hl => ?_)
      refine lv_aload_n hx hb dX4_unwilling_33 rfl (lv_at hl 1 rfl) ?_
      refine lv_iload hx hb dX4_unwilling_34 (lv_at hl 0 rfl) ?_
      obtain ⟨q36, eq36, h⟩ := o_bd h
      refine kV (As := [.int q28]) (rest := []) (st' := [.int q36]) ⟨hx, hb, hml, hown, hts⟩ (kX3_has l G (Or.inr (Or.inl rfl)) rfl eq36) (cwV 1 hts gX4_unwilling_X3_has rfl rfl rfl qqX3_has ⟨Nat.le_of_ble_eq_true rfl, Nat.le_of_ble_eq_true rfl⟩) hw (rvTk hw (Or.inr (Or.inl rfl))) rfl hl.1 rfl (Nat.le_of_ble_eq_true rfl) dX4_unwilling_36 ⟨Nat.zero_le _, Nat.zero_le _⟩ rfl (fun H locs hw => ?_)
      obtain ⟨k66, ek66, h⟩ := o_nm h
      have J66 : ∀ (y0_66 : Int32) (H : Heap) (locs : List Loc) (ls : Array Slot), sHw G s S_13 M H locs → lv_has ls 6 [(1, .ref (sA G 2 0)), (2, .int x2_13), (3, .int x3_13), (4, .int q28)] → k66 y0_66 = some q → W p l e rmX4_unwilling s m args below meth c H locs 0 0 Q (F0 m 66 ls [.int y0_66]) := by
        intro y0_66 H locs ls hw hl h
        replace h := o_j1 ek66 h
        refine lv_istore (lv' := [(5, .int y0_66), (1, .ref (sA G 2 0)), (2, .int x2_13), (3, .int x3_13), (4, .int q28)]) hx hb dX4_unwilling_66 hl (by decide) rfl (fun ls hl => ?_)
        refine lv_aload_n hx hb dX4_unwilling_68 rfl (lv_at hl 1 rfl) ?_
        obtain ⟨q69, eq69, h⟩ := o_bd h
        refine kV (As := []) (rest := []) (st' := []) ⟨hx, hb, hml, hown, hts⟩ (kX3_goSecond l G (Or.inr (Or.inl rfl)) rfl eq69) (cwV 0 hts gX4_unwilling_X3_goSecond rfl rfl rfl qqX3_goSecond ⟨Nat.le_of_ble_eq_true rfl, Nat.le_of_ble_eq_true rfl⟩) hw (rvTk hw (Or.inr (Or.inl rfl))) rfl hl.1 rfl (Nat.le_of_ble_eq_true rfl) dX4_unwilling_69 ⟨Nat.zero_le _, Nat.zero_le _⟩ rfl (fun H locs hw => ?_)
        obtain ⟨S69, eS69, h⟩ := o_nm h
        rw [← eS69] at hw
        refine lv_iload hx hb dX4_unwilling_72 (lv_at hl 0 rfl) ?_
        refine lv_if_eq (tgt := 101) hx hb dX4_unwilling_74 (by decide) (fun c74 => ?_) (fun c74 => ?_)
        · replace h := o_t c74 h
          obtain ⟨v101, ev101, h⟩ := o_nm h
          refine lv_iinc (v := v101) (lv' := [(3, .int v101), (5, .int y0_66), (1, .ref (sA G 2 0)), (2, .int x2_13), (4, .int q28)]) hx hb dX4_unwilling_101 hl (k := 3) rfl (by rw [ev101]; rfl) (by decide) rfl (fun ls hl => ?_)
          refine lv_goto (tgt := 13) hx hb dX4_unwilling_104 (by decide) ?_
          exact IH13 x2_13 v101 S69 h _ _ _ hw (lv_sub hl [2, 3, 0] rfl)
        · replace h := o_f c74 h
          refine lv_aload_n hx hb dX4_unwilling_77 rfl (lv_at hl 1 rfl) ?_
          refine gTk (v := .ref (sA G 2 9)) hx hb hts hiX3 hown hw (Or.inr (Or.inl rfl)) rfl 14 (by decide) (hts (.fieldLink RX4 193 "SecondHome$Track" "strides" "[I") (by decide +kernel)) rfl dX4_unwilling_78 ?_
          refine lv_iload hx hb dX4_unwilling_81 (lv_at hl 4 rfl) ?_
          obtain ⟨b83, h⟩ := o_in h
          refine ldTk hx hb hw (Or.inr (Or.inl rfl)) rfl 8 (by decide) b83 dX4_unwilling_83 ?_
          refine lv_aload_n hx hb dX4_unwilling_84 rfl (lv_at hl 1 rfl) ?_
          refine gTk (v := .ref (sA G 2 2)) hx hb hts hiX3 hown hw (Or.inr (Or.inl rfl)) rfl 7 (by decide) (hts (.fieldLink RX4 79 "SecondHome$Track" "paces" "[I") (by decide +kernel)) rfl dX4_unwilling_85 ?_
          refine lv_iload hx hb dX4_unwilling_88 (lv_at hl 4 rfl) ?_
          refine ldTk hx hb hw (Or.inr (Or.inl rfl)) rfl 1 (by decide) b83 dX4_unwilling_90 ?_
          refine lv_icmp_ge (tgt := 101) hx hb dX4_unwilling_91 (by decide) (fun c91 => ?_) (fun c91 => ?_)
          · replace h := o_t c91 h
            obtain ⟨v101, ev101, h⟩ := o_nm h
            refine lv_iinc (v := v101) (lv' := [(3, .int v101), (5, .int y0_66), (1, .ref (sA G 2 0)), (2, .int x2_13), (4, .int q28)]) hx hb dX4_unwilling_101 hl (k := 3) rfl (by rw [ev101]; rfl) (by decide) rfl (fun ls hl => ?_)
            refine lv_goto (tgt := 13) hx hb dX4_unwilling_104 (by decide) ?_
            exact IH13 x2_13 v101 S69 h _ _ _ hw (lv_sub hl [2, 3, 0] rfl)
          · replace h := o_f c91 h
            refine lv_iload_n hx hb dX4_unwilling_94 rfl (lv_at hl 2 rfl) ?_
            refine lv_iconst (v := 1) hx hb dX4_unwilling_95 (by decide) ?_
            refine lv_iload hx hb dX4_unwilling_96 (lv_at hl 4 rfl) ?_
            refine lv_ishl hx hb dX4_unwilling_98 ?_
            refine lv_ior hx hb dX4_unwilling_99 ?_
            refine lv_topi (fun v100 ev100 => ?_)
            replace h := o_nx ev100 h
            refine lv_istore_n (lv' := [(2, .int v100), (5, .int y0_66), (1, .ref (sA G 2 0)), (3, .int x3_13), (4, .int q28)]) hx hb dX4_unwilling_100 rfl hl (by decide) rfl (fun ls hl => ?_)
            obtain ⟨v101, ev101, h⟩ := o_nm h
            refine lv_iinc (v := v101) (lv' := [(3, .int v101), (2, .int v100), (5, .int y0_66), (1, .ref (sA G 2 0)), (4, .int q28)]) hx hb dX4_unwilling_101 hl (k := 3) rfl (by rw [ev101]; rfl) (by decide) rfl (fun ls hl => ?_)
            refine lv_goto (tgt := 13) hx hb dX4_unwilling_104 (by decide) ?_
            exact IH13 v100 v101 S69 h _ _ _ hw (lv_sub hl [3, 1, 0] rfl)
      obtain ⟨k65, ek65, h⟩ := o_nm h
      have J65 : ∀ (H : Heap) (locs : List Loc) (ls : Array Slot), sHw G s S_13 M H locs → lv_has ls 6 [(1, .ref (sA G 2 0)), (2, .int x2_13), (3, .int x3_13), (4, .int q28)] → k65 = some q → W p l e rmX4_unwilling s m args below meth c H locs 0 0 Q (F0 m 65 ls []) := by
        intro H locs ls hw hl h
        replace h := o_j0 ek65 h
        refine lv_iconst (v := 0) hx hb dX4_unwilling_65 (by decide) ?_
        exact J66 (0 : Int32) _ _ _ hw (lv_sub hl [0, 1, 2, 3] rfl) h
      refine lv_if_eq (tgt := 65) hx hb dX4_unwilling_39 (by decide) (fun c39 => ?_) (fun c39 => ?_)
      · replace h := o_t c39 h
        exact J65 _ _ _ hw (lv_sub hl [1, 2, 3, 0] rfl) h
      · replace h := o_f c39 h
        refine lv_aload_n hx hb dX4_unwilling_42 rfl (lv_at hl 1 rfl) ?_
        refine gTk (v := .ref (sA G 2 3)) hx hb hts hiX3 hown hw (Or.inr (Or.inl rfl)) rfl 8 (by decide) (hts (.fieldLink RX4 82 "SecondHome$Track" "breaths" "[I") (by decide +kernel)) rfl dX4_unwilling_43 ?_
        refine lv_iload hx hb dX4_unwilling_46 (lv_at hl 0 rfl) ?_
        obtain ⟨b48, h⟩ := o_in h
        refine ldTk hx hb hw (Or.inr (Or.inl rfl)) rfl 2 (by decide) b48 dX4_unwilling_48 ?_
        refine lv_aload_n hx hb dX4_unwilling_49 rfl (lv_at hl 1 rfl) ?_
        refine gTk (v := .ref (sA G 2 2)) hx hb hts hiX3 hown hw (Or.inr (Or.inl rfl)) rfl 7 (by decide) (hts (.fieldLink RX4 79 "SecondHome$Track" "paces" "[I") (by decide +kernel)) rfl dX4_unwilling_50 ?_
        refine lv_iload hx hb dX4_unwilling_53 (lv_at hl 0 rfl) ?_
        refine ldTk hx hb hw (Or.inr (Or.inl rfl)) rfl 1 (by decide) b48 dX4_unwilling_55 ?_
        refine lv_iconst (v := 4) hx hb dX4_unwilling_56 (by decide) ?_
        refine lv_isub hx hb dX4_unwilling_57 ?_
        refine lv_icmp_lt (tgt := 65) hx hb dX4_unwilling_58 (by decide) (fun c58 => ?_) (fun c58 => ?_)
        · replace h := o_t c58 h
          exact J65 _ _ _ hw (lv_sub hl [1, 2, 3, 0] rfl) h
        · replace h := o_f c58 h
          refine lv_iconst (v := 1) hx hb dX4_unwilling_61 (by decide) ?_
          refine lv_goto (tgt := 66) hx hb dX4_unwilling_62 (by decide) ?_
          exact J66 (1 : Int32) _ _ _ hw (lv_sub hl [1, 2, 3, 0] rfl) h
-- X4_feed
def bX4_feed_42 (a1 : Int32) (rc42 : Int32 → sWo → Option (Int32 × sWo)) (x3_42 : Int32) (S_42 : sWo) : Option (Int32 × sWo) :=
  if x3_42 < 0 then (some (((S_42 4).1 0), S_42)) else ((fX2_add (S_42 4) ((a1.toUInt32 >>> (((8 : Int32) * x3_42).toUInt32 &&& Int32.toUInt32 31)).toInt32)).bind fun q56 => nm (sUp S_42 4 q56) fun S56 => nm (x3_42 + (-1 : Int32)) fun v59 => rc42 v59 S56)
def fX4_feed (S : sWo) (a1 : Int32) (a2 : Int32) : Option (Int32 × sWo) :=
  if a2 < (1 : Int32) then ((fX4_found S (-1000000001 : Int32)).bind fun q13 => some (q13.1, q13.2)) else (if a2 ≤ (4 : Int32) then (if (((S 4).1 0) + a2) ≤ (120 : Int32) then (nm (a2 - (1 : Int32)) fun v41 => fx2 (bX4_feed_42 a1) FU v41 S) else ((fX4_found S (-1000000002 : Int32)).bind fun q34 => some (q34.1, q34.2))) else ((fX4_found S (-1000000001 : Int32)).bind fun q13 => some (q13.1, q13.2)))
def rmX4_feed : Room := { frames := 1, cells := 0, slots := 0, locals := 22 }
theorem qqX4_feed : yX4_feed.cls = RX4 ∧ yX4_feed.cls ≠ "java/lang/invoke/MethodHandle" ∧ yX4_feed.cls ≠ "java/lang/invoke/VarHandle" ∧ (parseMethodDescriptor yX4_feed.desc).map (fun d => d.parameters.length) = some 2 := by decide +kernel
set_option maxRecDepth 100000 in
set_option maxHeartbeats 4000000 in
theorem kX4_feed (l : Launch) (G : sGl) {S : sWo} {M : sOb} {a1 : Int32} {a2 : Int32} {q : (Int32 × sWo)}  (h : fX4_feed S a1 a2 = some q) : sCt l G yX4_feed wsX4_feed rmX4_feed [.ref (sA G 0 0), .int a1, .int a2] S M (some (.int q.1)) q.2 M := by
  refine cMk (cc := cX4_feed) (maxL := 4) (ret := (some .int)) (by decide) rfl (Nat.le_of_ble_eq_true rfl) ?_
  intro p e s m args below meth c Q hQ hx hb hr hlk hml hown hts hw ls hl
  have hown : s.vm.findClass RX4 = some m.cls := hown
  have hl : lv_has ls 4 [(0, .ref (sA G 0 0)), (1, .int a1), (2, .int a2)] := hl
  have hiX2 : ∀ w ∈ u_ws RX2 TX2 6, w ∈ wsX4_feed := by decide +kernel
  have hiX4 : ∀ w ∈ u_ws RX4 TX4 7, w ∈ wsX4_feed := by decide +kernel
  unfold fX4_feed at h
  refine lv_iload_n hx hb dX4_feed_0 rfl (lv_at hl 2 rfl) ?_
  refine lv_iconst (v := 1) hx hb dX4_feed_1 (by decide) ?_
  refine lv_icmp_lt (tgt := 10) hx hb dX4_feed_2 (by decide) (fun c2 => ?_) (fun c2 => ?_)
  · replace h := o_t c2 h
    refine lv_aload_n hx hb dX4_feed_10 rfl (lv_at hl 0 rfl) ?_
    refine lv_ldc (v := -1000000001) hx hb hown (hts (.constant RX4 50 (-1000000001)) (by decide +kernel)) dX4_feed_11 ?_
    obtain ⟨q13, eq13, h⟩ := o_bd h
    refine kV (As := [.int (-1000000001 : Int32)]) (rest := []) (st' := [.int q13.1]) ⟨hx, hb, hml, hown, hts⟩ (kX4_found l G eq13) (cwV 1 hts gX4_feed_X4_found rfl rfl rfl qqX4_found ⟨Nat.le_of_ble_eq_true rfl, Nat.le_of_ble_eq_true rfl⟩) hw (rvOw hw) rfl hl.1 rfl (Nat.le_of_ble_eq_true rfl) dX4_feed_13 ⟨Nat.zero_le _, Nat.zero_le _⟩ rfl (fun H locs hw => ?_)
    exact rI hQ hx hb hr hlk hw dX4_feed_16 (o_2a h) (o_2b h) rfl
  · replace h := o_f c2 h
    refine lv_iload_n hx hb dX4_feed_5 rfl (lv_at hl 2 rfl) ?_
    refine lv_iconst (v := 4) hx hb dX4_feed_6 (by decide) ?_
    refine lv_icmp_le (tgt := 17) hx hb dX4_feed_7 (by decide) (fun c7 => ?_) (fun c7 => ?_)
    · replace h := o_t c7 h
      refine lv_aload_n hx hb dX4_feed_17 rfl (lv_at hl 0 rfl) ?_
      refine gOw (v := .ref (sA G 4 0)) hx hb hts hiX4 hown hw 4 (by decide) (hts (.fieldLink RX4 25 "SecondHome" "tape" "LSecondHome$Tape;") (by decide +kernel)) rfl dX4_feed_18 ?_
      refine gTp (v := .int ((S 4).1 0)) hx hb hts hiX2 hown hw rfl 0 (by decide) (hts (.fieldLink RX4 196 "SecondHome$Tape" "size" "I") (by decide +kernel)) rfl dX4_feed_21 ?_
      refine lv_iload_n hx hb dX4_feed_24 rfl (lv_at hl 2 rfl) ?_
      refine lv_iadd hx hb dX4_feed_25 ?_
      refine lv_bipush (v := 120) hx hb dX4_feed_26 (by decide) ?_
      refine lv_icmp_le (tgt := 38) hx hb dX4_feed_28 (by decide) (fun c28 => ?_) (fun c28 => ?_)
      · replace h := o_t c28 h
        refine lv_iload_n hx hb dX4_feed_38 rfl (lv_at hl 2 rfl) ?_
        refine lv_iconst (v := 1) hx hb dX4_feed_39 (by decide) ?_
        refine lv_isub hx hb dX4_feed_40 ?_
        refine lv_topi (fun v41 ev41 => ?_)
        replace h := o_nx ev41 h
        refine lv_istore_n (lv' := [(3, .int v41), (0, .ref (sA G 0 0)), (1, .int a1), (2, .int a2)]) hx hb dX4_feed_41 rfl hl (by decide) rfl (fun ls hl => ?_)
        refine fx2_w (F := (bX4_feed_42 a1)) (P := fun x3_42 S_42 => ∀ (H : Heap) (locs : List Loc) (ls : Array Slot), sHw G s S_42 M H locs → lv_has ls 4 [(0, .ref (sA G 0 0)), (1, .int a1), (3, .int x3_42)] → W p l e rmX4_feed s m args below meth c H locs 0 0 Q (F0 m 42 ls [])) ?_ _ _ _ h _ _ _ hw (lv_sub hl [1, 2, 0] rfl)
        intro rc42 IH42 x3_42 S_42 h H locs ls hw hl
        unfold bX4_feed_42 at h
        refine lv_iload_n hx hb dX4_feed_42 rfl (lv_at hl 2 rfl) ?_
        refine lv_if_lt (tgt := 65) hx hb dX4_feed_43 (by decide) (fun c43 => ?_) (fun c43 => ?_)
        · replace h := o_t c43 h
          refine lv_aload_n hx hb dX4_feed_65 rfl (lv_at hl 0 rfl) ?_
          refine gOw (v := .ref (sA G 4 0)) hx hb hts hiX4 hown hw 4 (by decide) (hts (.fieldLink RX4 25 "SecondHome" "tape" "LSecondHome$Tape;") (by decide +kernel)) rfl dX4_feed_66 ?_
          refine gTp (v := .int ((S_42 4).1 0)) hx hb hts hiX2 hown hw rfl 0 (by decide) (hts (.fieldLink RX4 196 "SecondHome$Tape" "size" "I") (by decide +kernel)) rfl dX4_feed_69 ?_
          exact rI hQ hx hb hr hlk hw dX4_feed_72 (o_2a h) (o_2b h) rfl
        · replace h := o_f c43 h
          refine lv_aload_n hx hb dX4_feed_46 rfl (lv_at hl 0 rfl) ?_
          refine gOw (v := .ref (sA G 4 0)) hx hb hts hiX4 hown hw 4 (by decide) (hts (.fieldLink RX4 25 "SecondHome" "tape" "LSecondHome$Tape;") (by decide +kernel)) rfl dX4_feed_47 ?_
          refine lv_iload_n hx hb dX4_feed_50 rfl (lv_at hl 1 rfl) ?_
          refine lv_bipush (v := 8) hx hb dX4_feed_51 (by decide) ?_
          refine lv_iload_n hx hb dX4_feed_53 rfl (lv_at hl 2 rfl) ?_
          refine lv_imul hx hb dX4_feed_54 ?_
          refine lv_iushr hx hb dX4_feed_55 rfl ?_
          obtain ⟨q56, eq56, h⟩ := o_bd h
          refine kV (As := [.int ((a1.toUInt32 >>> (((8 : Int32) * x3_42).toUInt32 &&& Int32.toUInt32 31)).toInt32)]) (rest := []) (st' := []) ⟨hx, hb, hml, hown, hts⟩ (kX2_add l G rfl eq56) (cwV 1 hts gX4_feed_X2_add rfl rfl rfl qqX2_add ⟨Nat.le_of_ble_eq_true rfl, Nat.le_of_ble_eq_true rfl⟩) hw (rvTp hw) rfl hl.1 rfl (Nat.le_of_ble_eq_true rfl) dX4_feed_56 ⟨Nat.zero_le _, Nat.zero_le _⟩ rfl (fun H locs hw => ?_)
          obtain ⟨S56, eS56, h⟩ := o_nm h
          rw [← eS56] at hw
          obtain ⟨v59, ev59, h⟩ := o_nm h
          refine lv_iinc (v := v59) (lv' := [(3, .int v59), (0, .ref (sA G 0 0)), (1, .int a1)]) hx hb dX4_feed_59 hl (k := 2) rfl (by rw [ev59]; rfl) (by decide) rfl (fun ls hl => ?_)
          refine lv_goto (tgt := 42) hx hb dX4_feed_62 (by decide) ?_
          exact IH42 v59 S56 h _ _ _ hw (lv_sub hl [1, 2, 0] rfl)
      · replace h := o_f c28 h
        refine lv_aload_n hx hb dX4_feed_31 rfl (lv_at hl 0 rfl) ?_
        refine lv_ldc (v := -1000000002) hx hb hown (hts (.constant RX4 68 (-1000000002)) (by decide +kernel)) dX4_feed_32 ?_
        obtain ⟨q34, eq34, h⟩ := o_bd h
        refine kV (As := [.int (-1000000002 : Int32)]) (rest := []) (st' := [.int q34.1]) ⟨hx, hb, hml, hown, hts⟩ (kX4_found l G eq34) (cwV 1 hts gX4_feed_X4_found rfl rfl rfl qqX4_found ⟨Nat.le_of_ble_eq_true rfl, Nat.le_of_ble_eq_true rfl⟩) hw (rvOw hw) rfl hl.1 rfl (Nat.le_of_ble_eq_true rfl) dX4_feed_34 ⟨Nat.zero_le _, Nat.zero_le _⟩ rfl (fun H locs hw => ?_)
        exact rI hQ hx hb hr hlk hw dX4_feed_37 (o_2a h) (o_2b h) rfl
    · replace h := o_f c7 h
      refine lv_aload_n hx hb dX4_feed_10 rfl (lv_at hl 0 rfl) ?_
      refine lv_ldc (v := -1000000001) hx hb hown (hts (.constant RX4 50 (-1000000001)) (by decide +kernel)) dX4_feed_11 ?_
      obtain ⟨q13, eq13, h⟩ := o_bd h
      refine kV (As := [.int (-1000000001 : Int32)]) (rest := []) (st' := [.int q13.1]) ⟨hx, hb, hml, hown, hts⟩ (kX4_found l G eq13) (cwV 1 hts gX4_feed_X4_found rfl rfl rfl qqX4_found ⟨Nat.le_of_ble_eq_true rfl, Nat.le_of_ble_eq_true rfl⟩) hw (rvOw hw) rfl hl.1 rfl (Nat.le_of_ble_eq_true rfl) dX4_feed_13 ⟨Nat.zero_le _, Nat.zero_le _⟩ rfl (fun H locs hw => ?_)
      exact rI hQ hx hb hr hlk hw dX4_feed_16 (o_2a h) (o_2b h) rfl
-- X4_wipe
def fX4_wipe (S : sWo) : Option (Int32 × sWo) :=
  (fX2_empty (S 4)).bind fun q4 => nm (sUp S 4 q4.2) fun S4 => some (q4.1, S4)
def rmX4_wipe : Room := { frames := 1, cells := 0, slots := 0, locals := 21 }
theorem qqX4_wipe : yX4_wipe.cls = RX4 ∧ yX4_wipe.cls ≠ "java/lang/invoke/MethodHandle" ∧ yX4_wipe.cls ≠ "java/lang/invoke/VarHandle" ∧ (parseMethodDescriptor yX4_wipe.desc).map (fun d => d.parameters.length) = some 0 := by decide +kernel
set_option maxRecDepth 100000 in
set_option maxHeartbeats 4000000 in
theorem kX4_wipe (l : Launch) (G : sGl) {S : sWo} {M : sOb}  {q : (Int32 × sWo)}  (h : fX4_wipe S = some q) : sCt l G yX4_wipe wsX4_wipe rmX4_wipe [.ref (sA G 0 0)] S M (some (.int q.1)) q.2 M := by
  refine cMk (cc := cX4_wipe) (maxL := 1) (ret := (some .int)) (by decide) rfl (Nat.le_of_ble_eq_true rfl) ?_
  intro p e s m args below meth c Q hQ hx hb hr hlk hml hown hts hw ls hl
  have hown : s.vm.findClass RX4 = some m.cls := hown
  have hl : lv_has ls 1 [(0, .ref (sA G 0 0))] := hl
  have hiX4 : ∀ w ∈ u_ws RX4 TX4 7, w ∈ wsX4_wipe := by decide +kernel
  unfold fX4_wipe at h
  refine lv_aload_n hx hb dX4_wipe_0 rfl (lv_at hl 0 rfl) ?_
  refine gOw (v := .ref (sA G 4 0)) hx hb hts hiX4 hown hw 4 (by decide) (hts (.fieldLink RX4 25 "SecondHome" "tape" "LSecondHome$Tape;") (by decide +kernel)) rfl dX4_wipe_1 ?_
  obtain ⟨q4, eq4, h⟩ := o_bd h
  refine kV (As := []) (rest := []) (st' := [.int q4.1]) ⟨hx, hb, hml, hown, hts⟩ (kX2_empty l G rfl eq4) (cwV 0 hts gX4_wipe_X2_empty rfl rfl rfl qqX2_empty ⟨Nat.le_of_ble_eq_true rfl, Nat.le_of_ble_eq_true rfl⟩) hw (rvTp hw) rfl hl.1 rfl (Nat.le_of_ble_eq_true rfl) dX4_wipe_4 ⟨Nat.zero_le _, Nat.zero_le _⟩ rfl (fun H locs hw => ?_)
  obtain ⟨S4, eS4, h⟩ := o_nm h
  rw [← eS4] at hw
  exact rI hQ hx hb hr hlk hw dX4_wipe_7 (o_2a h) (o_2b h) rfl
-- X4_text
def fX4_text (S : sWo) : Option (Int32 × sWo) :=
  (fX4_tryOut S).bind fun q1 => (fX2_readRace q1).bind fun q10 => (fX2_empty (q10.2 4)).bind fun q18 => nm (sUp q10.2 4 q18.2) fun S18 => if q10.1 < 0 then (some (q10.1, S18)) else ((fX3_takeOver (S18 1) (S18 2)).bind fun q31 => nm (sUp S18 1 q31) fun S31 => some (q10.1, S31))
def rmX4_text : Room := { frames := 8, cells := 0, slots := 0, locals := 177 }
theorem qqX4_text : yX4_text.cls = RX4 ∧ yX4_text.cls ≠ "java/lang/invoke/MethodHandle" ∧ yX4_text.cls ≠ "java/lang/invoke/VarHandle" ∧ (parseMethodDescriptor yX4_text.desc).map (fun d => d.parameters.length) = some 0 := by decide +kernel
set_option maxRecDepth 100000 in
set_option maxHeartbeats 4000000 in
theorem kX4_text (l : Launch) (G : sGl) {S : sWo} {M : sOb}  {q : (Int32 × sWo)}  (h : fX4_text S = some q) : sCt l G yX4_text wsX4_text rmX4_text [.ref (sA G 0 0)] S M (some (.int q.1)) q.2 M := by
  refine cMk (cc := cX4_text) (maxL := 3) (ret := (some .int)) (by decide) rfl (Nat.le_of_ble_eq_true rfl) ?_
  intro p e s m args below meth c Q hQ hx hb hr hlk hml hown hts hw ls hl
  have hown : s.vm.findClass RX4 = some m.cls := hown
  have hl : lv_has ls 3 [(0, .ref (sA G 0 0))] := hl
  have hiX4 : ∀ w ∈ u_ws RX4 TX4 7, w ∈ wsX4_text := by decide +kernel
  unfold fX4_text at h
  refine lv_aload_n hx hb dX4_text_0 rfl (lv_at hl 0 rfl) ?_
  obtain ⟨q1, eq1, h⟩ := o_bd h
  refine kV (As := []) (rest := []) (st' := [.ref (sA G 2 0)]) ⟨hx, hb, hml, hown, hts⟩ (kX4_tryOut l G eq1) (cwV 0 hts gX4_text_X4_tryOut rfl rfl rfl qqX4_tryOut ⟨Nat.le_of_ble_eq_true rfl, Nat.le_of_ble_eq_true rfl⟩) hw (rvOw hw) rfl hl.1 rfl (Nat.le_of_ble_eq_true rfl) dX4_text_1 ⟨Nat.zero_le _, Nat.zero_le _⟩ rfl (fun H locs hw => ?_)
  refine lv_astore_n (lv' := [(1, .ref (sA G 2 0)), (0, .ref (sA G 0 0))]) hx hb dX4_text_4 rfl hl (by decide) rfl (fun ls hl => ?_)
  refine lv_aload_n hx hb dX4_text_5 rfl (lv_at hl 1 rfl) ?_
  refine gOw (v := .ref (sA G 4 0)) hx hb hts hiX4 hown hw 4 (by decide) (hts (.fieldLink RX4 25 "SecondHome" "tape" "LSecondHome$Tape;") (by decide +kernel)) rfl dX4_text_6 ?_
  refine lv_aload_n hx hb dX4_text_9 rfl (lv_at hl 0 rfl) ?_
  obtain ⟨q10, eq10, h⟩ := o_bd h
  refine kV (As := [.ref (sA G 2 0)]) (rest := []) (st' := [.int q10.1]) ⟨hx, hb, hml, hown, hts⟩ (kX2_readRace l G eq10) (cwV 1 hts gX4_text_X2_readRace rfl rfl rfl qqX2_readRace ⟨Nat.le_of_ble_eq_true rfl, Nat.le_of_ble_eq_true rfl⟩) hw (rvTp hw) rfl hl.1 rfl (Nat.le_of_ble_eq_true rfl) dX4_text_10 ⟨Nat.zero_le _, Nat.zero_le _⟩ rfl (fun H locs hw => ?_)
  refine lv_istore_n (lv' := [(2, .int q10.1), (1, .ref (sA G 2 0)), (0, .ref (sA G 0 0))]) hx hb dX4_text_13 rfl hl (by decide) rfl (fun ls hl => ?_)
  refine lv_aload_n hx hb dX4_text_14 rfl (lv_at hl 2 rfl) ?_
  refine gOw (v := .ref (sA G 4 0)) hx hb hts hiX4 hown hw 4 (by decide) (hts (.fieldLink RX4 25 "SecondHome" "tape" "LSecondHome$Tape;") (by decide +kernel)) rfl dX4_text_15 ?_
  obtain ⟨q18, eq18, h⟩ := o_bd h
  refine kV (As := []) (rest := []) (st' := [.int q18.1]) ⟨hx, hb, hml, hown, hts⟩ (kX2_empty l G rfl eq18) (cwV 0 hts gX4_text_X2_empty rfl rfl rfl qqX2_empty ⟨Nat.le_of_ble_eq_true rfl, Nat.le_of_ble_eq_true rfl⟩) hw (rvTp hw) rfl hl.1 rfl (Nat.le_of_ble_eq_true rfl) dX4_text_18 ⟨Nat.zero_le _, Nat.zero_le _⟩ rfl (fun H locs hw => ?_)
  obtain ⟨S18, eS18, h⟩ := o_nm h
  rw [← eS18] at hw
  refine lv_pop hx hb dX4_text_21 rfl ?_
  refine lv_iload_n hx hb dX4_text_22 rfl (lv_at hl 0 rfl) ?_
  refine lv_if_lt (tgt := 34) hx hb dX4_text_23 (by decide) (fun c23 => ?_) (fun c23 => ?_)
  · replace h := o_t c23 h
    refine lv_iload_n hx hb dX4_text_34 rfl (lv_at hl 0 rfl) ?_
    exact rI hQ hx hb hr hlk hw dX4_text_35 (o_2a h) (o_2b h) rfl
  · replace h := o_f c23 h
    refine lv_aload_n hx hb dX4_text_26 rfl (lv_at hl 2 rfl) ?_
    refine gOw (v := .ref (sA G 1 0)) hx hb hts hiX4 hown hw 0 (by decide) (hts (.fieldLink RX4 10 "SecondHome" "track" "LSecondHome$Track;") (by decide +kernel)) rfl dX4_text_27 ?_
    refine lv_aload_n hx hb dX4_text_30 rfl (lv_at hl 1 rfl) ?_
    obtain ⟨q31, eq31, h⟩ := o_bd h
    refine kV (As := [.ref (sA G 2 0)]) (rest := []) (st' := []) ⟨hx, hb, hml, hown, hts⟩ (kX3_takeOver l G (Or.inl rfl) (Or.inr (Or.inl rfl)) (by decide) rfl rfl eq31) (cwV 1 hts gX4_text_X3_takeOver rfl rfl rfl qqX3_takeOver ⟨Nat.le_of_ble_eq_true rfl, Nat.le_of_ble_eq_true rfl⟩) hw (rvTk hw (Or.inl rfl)) rfl hl.1 rfl (Nat.le_of_ble_eq_true rfl) dX4_text_31 ⟨Nat.zero_le _, Nat.zero_le _⟩ rfl (fun H locs hw => ?_)
    obtain ⟨S31, eS31, h⟩ := o_nm h
    rw [← eS31] at hw
    refine lv_iload_n hx hb dX4_text_34 rfl (lv_at hl 0 rfl) ?_
    exact rI hQ hx hb hr hlk hw dX4_text_35 (o_2a h) (o_2b h) rfl
-- X4_isSheet
def fX4_isSheet (a0 : Int32) : Option Int32 :=
  if a0 < 0 then (some (0 : Int32)) else (if (4 : Int32) ≤ a0 then (some (0 : Int32)) else (some (1 : Int32)))
def rmX4_isSheet : Room := { frames := 0, cells := 0, slots := 0, locals := 0 }
theorem qqX4_isSheet : yX4_isSheet.cls ≠ "java/lang/invoke/MethodHandle" ∧ yX4_isSheet.cls ≠ "java/lang/invoke/VarHandle" ∧ (parseMethodDescriptor yX4_isSheet.desc).map (fun d => d.parameters.length) = some 1 := by decide +kernel
set_option maxRecDepth 100000 in
set_option maxHeartbeats 4000000 in
theorem kX4_isSheet (l : Launch) (G : sGl) {S : sWo} {M : sOb} {a0 : Int32} {q : Int32}  (h : fX4_isSheet a0 = some q) : sCt l G yX4_isSheet wsX4_isSheet rmX4_isSheet [.int a0] S M (some (.int q)) S M := by
  refine cMk (cc := cX4_isSheet) (maxL := 1) (ret := (some .boolean)) (by decide) rfl (Nat.le_of_ble_eq_true rfl) ?_
  intro p e s m args below meth c Q hQ hx hb hr hlk hml hown hts hw ls hl
  have hown : s.vm.findClass RX4 = some m.cls := hown
  have hl : lv_has ls 1 [(0, .int a0)] := hl
  unfold fX4_isSheet at h
  refine lv_iload_n hx hb dX4_isSheet_0 rfl (lv_at hl 0 rfl) ?_
  refine lv_if_lt (tgt := 13) hx hb dX4_isSheet_1 (by decide) (fun c1 => ?_) (fun c1 => ?_)
  · replace h := o_t c1 h
    refine lv_iconst (v := 0) hx hb dX4_isSheet_13 (by decide) ?_
    exact rZ hQ hx hb hr hlk hw (Or.inl rfl) dX4_isSheet_14 (o_1 h) rfl rfl
  · replace h := o_f c1 h
    refine lv_iload_n hx hb dX4_isSheet_4 rfl (lv_at hl 0 rfl) ?_
    refine lv_iconst (v := 4) hx hb dX4_isSheet_5 (by decide) ?_
    refine lv_icmp_ge (tgt := 13) hx hb dX4_isSheet_6 (by decide) (fun c6 => ?_) (fun c6 => ?_)
    · replace h := o_t c6 h
      refine lv_iconst (v := 0) hx hb dX4_isSheet_13 (by decide) ?_
      exact rZ hQ hx hb hr hlk hw (Or.inl rfl) dX4_isSheet_14 (o_1 h) rfl rfl
    · replace h := o_f c6 h
      refine lv_iconst (v := 1) hx hb dX4_isSheet_9 (by decide) ?_
      refine lv_goto (tgt := 14) hx hb dX4_isSheet_10 (by decide) ?_
      exact rZ hQ hx hb hr hlk hw (Or.inr rfl) dX4_isSheet_14 (o_1 h) rfl rfl
-- X4_isWidth
def fX4_isWidth (a0 : Int32) : Option Int32 :=
  if a0 = 0 then (some (1 : Int32)) else (if a0 = (8 : Int32) then (some (1 : Int32)) else (if a0 = (16 : Int32) then (some (1 : Int32)) else (if a0 = (64 : Int32) then (some (1 : Int32)) else (some (0 : Int32)))))
def rmX4_isWidth : Room := { frames := 0, cells := 0, slots := 0, locals := 0 }
theorem qqX4_isWidth : yX4_isWidth.cls ≠ "java/lang/invoke/MethodHandle" ∧ yX4_isWidth.cls ≠ "java/lang/invoke/VarHandle" ∧ (parseMethodDescriptor yX4_isWidth.desc).map (fun d => d.parameters.length) = some 1 := by decide +kernel
set_option maxRecDepth 100000 in
set_option maxHeartbeats 4000000 in
theorem kX4_isWidth (l : Launch) (G : sGl) {S : sWo} {M : sOb} {a0 : Int32} {q : Int32}  (h : fX4_isWidth a0 = some q) : sCt l G yX4_isWidth wsX4_isWidth rmX4_isWidth [.int a0] S M (some (.int q)) S M := by
  refine cMk (cc := cX4_isWidth) (maxL := 1) (ret := (some .boolean)) (by decide) rfl (Nat.le_of_ble_eq_true rfl) ?_
  intro p e s m args below meth c Q hQ hx hb hr hlk hml hown hts hw ls hl
  have hown : s.vm.findClass RX4 = some m.cls := hown
  have hl : lv_has ls 1 [(0, .int a0)] := hl
  unfold fX4_isWidth at h
  refine lv_iload_n hx hb dX4_isWidth_0 rfl (lv_at hl 0 rfl) ?_
  refine lv_if_eq (tgt := 22) hx hb dX4_isWidth_1 (by decide) (fun c1 => ?_) (fun c1 => ?_)
  · replace h := o_t c1 h
    refine lv_iconst (v := 1) hx hb dX4_isWidth_22 (by decide) ?_
    refine lv_goto (tgt := 27) hx hb dX4_isWidth_23 (by decide) ?_
    exact rZ hQ hx hb hr hlk hw (Or.inr rfl) dX4_isWidth_27 (o_1 h) rfl rfl
  · replace h := o_f c1 h
    refine lv_iload_n hx hb dX4_isWidth_4 rfl (lv_at hl 0 rfl) ?_
    refine lv_bipush (v := 8) hx hb dX4_isWidth_5 (by decide) ?_
    refine lv_icmp_eq (tgt := 22) hx hb dX4_isWidth_7 (by decide) (fun c7 => ?_) (fun c7 => ?_)
    · replace h := o_t c7 h
      refine lv_iconst (v := 1) hx hb dX4_isWidth_22 (by decide) ?_
      refine lv_goto (tgt := 27) hx hb dX4_isWidth_23 (by decide) ?_
      exact rZ hQ hx hb hr hlk hw (Or.inr rfl) dX4_isWidth_27 (o_1 h) rfl rfl
    · replace h := o_f c7 h
      refine lv_iload_n hx hb dX4_isWidth_10 rfl (lv_at hl 0 rfl) ?_
      refine lv_bipush (v := 16) hx hb dX4_isWidth_11 (by decide) ?_
      refine lv_icmp_eq (tgt := 22) hx hb dX4_isWidth_13 (by decide) (fun c13 => ?_) (fun c13 => ?_)
      · replace h := o_t c13 h
        refine lv_iconst (v := 1) hx hb dX4_isWidth_22 (by decide) ?_
        refine lv_goto (tgt := 27) hx hb dX4_isWidth_23 (by decide) ?_
        exact rZ hQ hx hb hr hlk hw (Or.inr rfl) dX4_isWidth_27 (o_1 h) rfl rfl
      · replace h := o_f c13 h
        refine lv_iload_n hx hb dX4_isWidth_16 rfl (lv_at hl 0 rfl) ?_
        refine lv_bipush (v := 64) hx hb dX4_isWidth_17 (by decide) ?_
        refine lv_icmp_ne (tgt := 26) hx hb dX4_isWidth_19 (by decide) (fun c19 => ?_) (fun c19 => ?_)
        · replace h := o_f c19 h
          refine lv_iconst (v := 0) hx hb dX4_isWidth_26 (by decide) ?_
          exact rZ hQ hx hb hr hlk hw (Or.inl rfl) dX4_isWidth_27 (o_1 h) rfl rfl
        · replace h := o_t c19 h
          refine lv_iconst (v := 1) hx hb dX4_isWidth_22 (by decide) ?_
          refine lv_goto (tgt := 27) hx hb dX4_isWidth_23 (by decide) ?_
          exact rZ hQ hx hb hr hlk hw (Or.inr rfl) dX4_isWidth_27 (o_1 h) rfl rfl
-- X4_sheet
def fX4_sheet (S : sWo) (a1 : Int32) (a2 : Int32) (a3 : Int32) : Option (Int32 × sWo) :=
  (fX4_isSheet a1).bind fun q1 => if q1 = 0 then ((fX4_found S (-1000000001 : Int32)).bind fun q17 => some (q17.1, q17.2)) else ((fX4_isWidth a2).bind fun q8 => if q8 = 0 then ((fX4_found S (-1000000001 : Int32)).bind fun q17 => some (q17.1, q17.2)) else (if 0 ≤ a3 then (if a3 ≤ (40 : Int32) then (if a1 < 0 ∨ 4 ≤ a1.toNatClampNeg then none else (fX1_lay (S (5 + a1.toNatClampNeg)) a2 a3).bind fun q53 => nm (sUp S (5 + a1.toNatClampNeg) q53.2) fun S53 => some (q53.1, S53)) else ((fX4_found S (-1000000001 : Int32)).bind fun q41 => some (q41.1, q41.2))) else ((fX4_found S (-1000000007 : Int32)).bind fun q28 => some (q28.1, q28.2))))
def rmX4_sheet : Room := { frames := 2, cells := 0, slots := 0, locals := 46 }
theorem qqX4_sheet : yX4_sheet.cls = RX4 ∧ yX4_sheet.cls ≠ "java/lang/invoke/MethodHandle" ∧ yX4_sheet.cls ≠ "java/lang/invoke/VarHandle" ∧ (parseMethodDescriptor yX4_sheet.desc).map (fun d => d.parameters.length) = some 3 := by decide +kernel
set_option maxRecDepth 100000 in
set_option maxHeartbeats 4000000 in
theorem kX4_sheet (l : Launch) (G : sGl) {S : sWo} {M : sOb} {a1 : Int32} {a2 : Int32} {a3 : Int32} {q : (Int32 × sWo)}  (h : fX4_sheet S a1 a2 a3 = some q) : sCt l G yX4_sheet wsX4_sheet rmX4_sheet [.ref (sA G 0 0), .int a1, .int a2, .int a3] S M (some (.int q.1)) q.2 M := by
  refine cMk (cc := cX4_sheet) (maxL := 4) (ret := (some .int)) (by decide) rfl (Nat.le_of_ble_eq_true rfl) ?_
  intro p e s m args below meth c Q hQ hx hb hr hlk hml hown hts hw ls hl
  have hown : s.vm.findClass RX4 = some m.cls := hown
  have hl : lv_has ls 4 [(0, .ref (sA G 0 0)), (1, .int a1), (2, .int a2), (3, .int a3)] := hl
  have hiX4 : ∀ w ∈ u_ws RX4 TX4 7, w ∈ wsX4_sheet := by decide +kernel
  unfold fX4_sheet at h
  refine lv_iload_n hx hb dX4_sheet_0 rfl (lv_at hl 1 rfl) ?_
  obtain ⟨q1, eq1, h⟩ := o_bd h
  refine kS (As := [.int a1]) (rest := []) (st' := [.int q1]) ⟨hx, hb, hml, hown, hts⟩ (kX4_isSheet l G eq1) (va_cwS 1 hts gX4_sheet_X4_isSheet rfl rfl rfl qqX4_isSheet ⟨Nat.le_of_ble_eq_true rfl, Nat.le_of_ble_eq_true rfl⟩) hw rfl hl.1 rfl (Nat.le_of_ble_eq_true rfl) dX4_sheet_1 ⟨Nat.zero_le _, Nat.zero_le _⟩ rfl (fun H locs hw => ?_)
  refine lv_if_eq (tgt := 14) hx hb dX4_sheet_4 (by decide) (fun c4 => ?_) (fun c4 => ?_)
  · replace h := o_t c4 h
    refine lv_aload_n hx hb dX4_sheet_14 rfl (lv_at hl 0 rfl) ?_
    refine lv_ldc (v := -1000000001) hx hb hown (hts (.constant RX4 50 (-1000000001)) (by decide +kernel)) dX4_sheet_15 ?_
    obtain ⟨q17, eq17, h⟩ := o_bd h
    refine kV (As := [.int (-1000000001 : Int32)]) (rest := []) (st' := [.int q17.1]) ⟨hx, hb, hml, hown, hts⟩ (kX4_found l G eq17) (cwV 1 hts gX4_sheet_X4_found rfl rfl rfl qqX4_found ⟨Nat.le_of_ble_eq_true rfl, Nat.le_of_ble_eq_true rfl⟩) hw (rvOw hw) rfl hl.1 rfl (Nat.le_of_ble_eq_true rfl) dX4_sheet_17 ⟨Nat.zero_le _, Nat.zero_le _⟩ rfl (fun H locs hw => ?_)
    exact rI hQ hx hb hr hlk hw dX4_sheet_20 (o_2a h) (o_2b h) rfl
  · replace h := o_f c4 h
    refine lv_iload_n hx hb dX4_sheet_7 rfl (lv_at hl 2 rfl) ?_
    obtain ⟨q8, eq8, h⟩ := o_bd h
    refine kS (As := [.int a2]) (rest := []) (st' := [.int q8]) ⟨hx, hb, hml, hown, hts⟩ (kX4_isWidth l G eq8) (va_cwS 1 hts gX4_sheet_X4_isWidth rfl rfl rfl qqX4_isWidth ⟨Nat.le_of_ble_eq_true rfl, Nat.le_of_ble_eq_true rfl⟩) hw rfl hl.1 rfl (Nat.le_of_ble_eq_true rfl) dX4_sheet_8 ⟨Nat.zero_le _, Nat.zero_le _⟩ rfl (fun H locs hw => ?_)
    refine lv_if_ne (tgt := 21) hx hb dX4_sheet_11 (by decide) (fun c11 => ?_) (fun c11 => ?_)
    · replace h := o_f c11 h
      refine lv_iload_n hx hb dX4_sheet_21 rfl (lv_at hl 3 rfl) ?_
      refine lv_if_ge (tgt := 32) hx hb dX4_sheet_22 (by decide) (fun c22 => ?_) (fun c22 => ?_)
      · replace h := o_t c22 h
        refine lv_iload_n hx hb dX4_sheet_32 rfl (lv_at hl 3 rfl) ?_
        refine lv_bipush (v := 40) hx hb dX4_sheet_33 (by decide) ?_
        refine lv_icmp_le (tgt := 45) hx hb dX4_sheet_35 (by decide) (fun c35 => ?_) (fun c35 => ?_)
        · replace h := o_t c35 h
          refine lv_aload_n hx hb dX4_sheet_45 rfl (lv_at hl 0 rfl) ?_
          refine gOw (v := .ref (sA G 0 2)) hx hb hts hiX4 hown hw 5 (by decide) (hts (.fieldLink RX4 31 "SecondHome" "sheets" "[LSecondHome$Sheet;") (by decide +kernel)) rfl dX4_sheet_46 ?_
          refine lv_iload_n hx hb dX4_sheet_49 rfl (lv_at hl 1 rfl) ?_
          obtain ⟨b50, h⟩ := o_in h
          refine aaOw hx hb hw b50 dX4_sheet_50 ?_
          refine lv_iload_n hx hb dX4_sheet_51 rfl (lv_at hl 2 rfl) ?_
          refine lv_iload_n hx hb dX4_sheet_52 rfl (lv_at hl 3 rfl) ?_
          obtain ⟨q53, eq53, h⟩ := o_bd h
          refine kV (As := [.int a2, .int a3]) (rest := []) (st' := [.int q53.1]) ⟨hx, hb, hml, hown, hts⟩ (kX1_lay l G (isSh_of b50) rfl eq53) (cwV 2 hts gX4_sheet_X1_lay rfl rfl rfl qqX1_lay ⟨Nat.le_of_ble_eq_true rfl, Nat.le_of_ble_eq_true rfl⟩) hw (rvSh hw (isSh_of b50)) rfl hl.1 rfl (Nat.le_of_ble_eq_true rfl) dX4_sheet_53 ⟨Nat.zero_le _, Nat.zero_le _⟩ rfl (fun H locs hw => ?_)
          obtain ⟨S53, eS53, h⟩ := o_nm h
          rw [← eS53] at hw
          exact rI hQ hx hb hr hlk hw dX4_sheet_56 (o_2a h) (o_2b h) rfl
        · replace h := o_f c35 h
          refine lv_aload_n hx hb dX4_sheet_38 rfl (lv_at hl 0 rfl) ?_
          refine lv_ldc (v := -1000000001) hx hb hown (hts (.constant RX4 50 (-1000000001)) (by decide +kernel)) dX4_sheet_39 ?_
          obtain ⟨q41, eq41, h⟩ := o_bd h
          refine kV (As := [.int (-1000000001 : Int32)]) (rest := []) (st' := [.int q41.1]) ⟨hx, hb, hml, hown, hts⟩ (kX4_found l G eq41) (cwV 1 hts gX4_sheet_X4_found rfl rfl rfl qqX4_found ⟨Nat.le_of_ble_eq_true rfl, Nat.le_of_ble_eq_true rfl⟩) hw (rvOw hw) rfl hl.1 rfl (Nat.le_of_ble_eq_true rfl) dX4_sheet_41 ⟨Nat.zero_le _, Nat.zero_le _⟩ rfl (fun H locs hw => ?_)
          exact rI hQ hx hb hr hlk hw dX4_sheet_44 (o_2a h) (o_2b h) rfl
      · replace h := o_f c22 h
        refine lv_aload_n hx hb dX4_sheet_25 rfl (lv_at hl 0 rfl) ?_
        refine lv_ldc (v := -1000000007) hx hb hown (hts (.constant RX4 218 (-1000000007)) (by decide +kernel)) dX4_sheet_26 ?_
        obtain ⟨q28, eq28, h⟩ := o_bd h
        refine kV (As := [.int (-1000000007 : Int32)]) (rest := []) (st' := [.int q28.1]) ⟨hx, hb, hml, hown, hts⟩ (kX4_found l G eq28) (cwV 1 hts gX4_sheet_X4_found rfl rfl rfl qqX4_found ⟨Nat.le_of_ble_eq_true rfl, Nat.le_of_ble_eq_true rfl⟩) hw (rvOw hw) rfl hl.1 rfl (Nat.le_of_ble_eq_true rfl) dX4_sheet_28 ⟨Nat.zero_le _, Nat.zero_le _⟩ rfl (fun H locs hw => ?_)
        exact rI hQ hx hb hr hlk hw dX4_sheet_31 (o_2a h) (o_2b h) rfl
    · replace h := o_t c11 h
      refine lv_aload_n hx hb dX4_sheet_14 rfl (lv_at hl 0 rfl) ?_
      refine lv_ldc (v := -1000000001) hx hb hown (hts (.constant RX4 50 (-1000000001)) (by decide +kernel)) dX4_sheet_15 ?_
      obtain ⟨q17, eq17, h⟩ := o_bd h
      refine kV (As := [.int (-1000000001 : Int32)]) (rest := []) (st' := [.int q17.1]) ⟨hx, hb, hml, hown, hts⟩ (kX4_found l G eq17) (cwV 1 hts gX4_sheet_X4_found rfl rfl rfl qqX4_found ⟨Nat.le_of_ble_eq_true rfl, Nat.le_of_ble_eq_true rfl⟩) hw (rvOw hw) rfl hl.1 rfl (Nat.le_of_ble_eq_true rfl) dX4_sheet_17 ⟨Nat.zero_le _, Nat.zero_le _⟩ rfl (fun H locs hw => ?_)
      exact rI hQ hx hb hr hlk hw dX4_sheet_20 (o_2a h) (o_2b h) rfl
-- X4_sheetRefusal
def fX4_sheetRefusal (S : sWo) (a1 : Int32) : Option Int32 :=
  (fX4_isSheet a1).bind fun q1 => if q1 = 0 then (some (-1000000001 : Int32)) else (if a1 < 0 ∨ 4 ≤ a1.toNatClampNeg then none else (fX1_isMissing (S (5 + a1.toNatClampNeg))).bind fun q16 => if q16 = 0 then (some (0 : Int32)) else (some (-1000000006 : Int32)))
def rmX4_sheetRefusal : Room := { frames := 1, cells := 0, slots := 0, locals := 20 }
theorem qqX4_sheetRefusal : yX4_sheetRefusal.cls = RX4 ∧ yX4_sheetRefusal.cls ≠ "java/lang/invoke/MethodHandle" ∧ yX4_sheetRefusal.cls ≠ "java/lang/invoke/VarHandle" ∧ (parseMethodDescriptor yX4_sheetRefusal.desc).map (fun d => d.parameters.length) = some 1 := by decide +kernel
set_option maxRecDepth 100000 in
set_option maxHeartbeats 4000000 in
theorem kX4_sheetRefusal (l : Launch) (G : sGl) {S : sWo} {M : sOb} {a1 : Int32} {q : Int32}  (h : fX4_sheetRefusal S a1 = some q) : sCt l G yX4_sheetRefusal wsX4_sheetRefusal rmX4_sheetRefusal [.ref (sA G 0 0), .int a1] S M (some (.int q)) S M := by
  refine cMk (cc := cX4_sheetRefusal) (maxL := 2) (ret := (some .int)) (by decide) rfl (Nat.le_of_ble_eq_true rfl) ?_
  intro p e s m args below meth c Q hQ hx hb hr hlk hml hown hts hw ls hl
  have hown : s.vm.findClass RX4 = some m.cls := hown
  have hl : lv_has ls 2 [(0, .ref (sA G 0 0)), (1, .int a1)] := hl
  have hiX4 : ∀ w ∈ u_ws RX4 TX4 7, w ∈ wsX4_sheetRefusal := by decide +kernel
  unfold fX4_sheetRefusal at h
  refine lv_iload_n hx hb dX4_sheetRefusal_0 rfl (lv_at hl 1 rfl) ?_
  obtain ⟨q1, eq1, h⟩ := o_bd h
  refine kS (As := [.int a1]) (rest := []) (st' := [.int q1]) ⟨hx, hb, hml, hown, hts⟩ (kX4_isSheet l G eq1) (va_cwS 1 hts gX4_sheetRefusal_X4_isSheet rfl rfl rfl qqX4_isSheet ⟨Nat.le_of_ble_eq_true rfl, Nat.le_of_ble_eq_true rfl⟩) hw rfl hl.1 rfl (Nat.le_of_ble_eq_true rfl) dX4_sheetRefusal_1 ⟨Nat.zero_le _, Nat.zero_le _⟩ rfl (fun H locs hw => ?_)
  refine lv_if_ne (tgt := 10) hx hb dX4_sheetRefusal_4 (by decide) (fun c4 => ?_) (fun c4 => ?_)
  · replace h := o_f c4 h
    refine lv_aload_n hx hb dX4_sheetRefusal_10 rfl (lv_at hl 0 rfl) ?_
    refine gOw (v := .ref (sA G 0 2)) hx hb hts hiX4 hown hw 5 (by decide) (hts (.fieldLink RX4 31 "SecondHome" "sheets" "[LSecondHome$Sheet;") (by decide +kernel)) rfl dX4_sheetRefusal_11 ?_
    refine lv_iload_n hx hb dX4_sheetRefusal_14 rfl (lv_at hl 1 rfl) ?_
    obtain ⟨b15, h⟩ := o_in h
    refine aaOw hx hb hw b15 dX4_sheetRefusal_15 ?_
    obtain ⟨q16, eq16, h⟩ := o_bd h
    refine kV (As := []) (rest := []) (st' := [.int q16]) ⟨hx, hb, hml, hown, hts⟩ (kX1_isMissing l G (isSh_of b15) rfl eq16) (cwV 0 hts gX4_sheetRefusal_X1_isMissing rfl rfl rfl qqX1_isMissing ⟨Nat.le_of_ble_eq_true rfl, Nat.le_of_ble_eq_true rfl⟩) hw (rvSh hw (isSh_of b15)) rfl hl.1 rfl (Nat.le_of_ble_eq_true rfl) dX4_sheetRefusal_16 ⟨Nat.zero_le _, Nat.zero_le _⟩ rfl (fun H locs hw => ?_)
    refine lv_if_eq (tgt := 27) hx hb dX4_sheetRefusal_19 (by decide) (fun c19 => ?_) (fun c19 => ?_)
    · replace h := o_t c19 h
      refine lv_iconst (v := 0) hx hb dX4_sheetRefusal_27 (by decide) ?_
      exact rI hQ hx hb hr hlk hw dX4_sheetRefusal_28 (o_1 h) rfl rfl
    · replace h := o_f c19 h
      refine lv_ldc (v := -1000000006) hx hb hown (hts (.constant RX4 237 (-1000000006)) (by decide +kernel)) dX4_sheetRefusal_22 ?_
      refine lv_goto (tgt := 28) hx hb dX4_sheetRefusal_24 (by decide) ?_
      exact rI hQ hx hb hr hlk hw dX4_sheetRefusal_28 (o_1 h) rfl rfl
  · replace h := o_t c4 h
    refine lv_ldc (v := -1000000001) hx hb hown (hts (.constant RX4 50 (-1000000001)) (by decide +kernel)) dX4_sheetRefusal_7 ?_
    exact rI hQ hx hb hr hlk hw dX4_sheetRefusal_9 (o_1 h) rfl rfl
-- X4_write
def fX4_write (S : sWo) (a1 : Int32) (a2 : Int32) (a3 : Int64) : Option (Int64 × sWo) :=
  (fX4_sheetRefusal S a1).bind fun q2 => if q2 = 0 then (if a1 < 0 ∨ 4 ≤ a1.toNatClampNeg then none else (fX1_has (S (5 + a1.toNatClampNeg)) a2).bind fun q27 => if q27 = 0 then ((fX4_found S (-1000000001 : Int32)).bind fun q36 => some (q36.1.toInt64, q36.2)) else (if a2 < 0 ∨ 40 ≤ a2.toNatClampNeg then none else nm ((S (5 + a1.toNatClampNeg)).2.2 a2.toNatClampNeg) fun v52 => (fX1_put (S (5 + a1.toNatClampNeg)) a2 a3).bind fun q62 => nm (sUp S (5 + a1.toNatClampNeg) q62) fun S62 => some (v52, S62))) else ((fX4_found S q2).bind fun q15 => some (q15.1.toInt64, q15.2))
def rmX4_write : Room := { frames := 2, cells := 0, slots := 0, locals := 45 }
theorem qqX4_write : yX4_write.cls = RX4 ∧ yX4_write.cls ≠ "java/lang/invoke/MethodHandle" ∧ yX4_write.cls ≠ "java/lang/invoke/VarHandle" ∧ (parseMethodDescriptor yX4_write.desc).map (fun d => d.parameters.length) = some 3 := by decide +kernel
set_option maxRecDepth 100000 in
set_option maxHeartbeats 4000000 in
theorem kX4_write (l : Launch) (G : sGl) {S : sWo} {M : sOb} {a1 : Int32} {a2 : Int32} {a3 : Int64} {q : (Int64 × sWo)}  (h : fX4_write S a1 a2 a3 = some q) : sCt l G yX4_write wsX4_write rmX4_write [.ref (sA G 0 0), .int a1, .int a2, .long a3] S M (some (.long q.1)) q.2 M := by
  refine cMk (cc := cX4_write) (maxL := 8) (ret := (some .long)) (by decide) rfl (Nat.le_of_ble_eq_true rfl) ?_
  intro p e s m args below meth c Q hQ hx hb hr hlk hml hown hts hw ls hl
  have hown : s.vm.findClass RX4 = some m.cls := hown
  have hl : lv_has ls 8 [(0, .ref (sA G 0 0)), (1, .int a1), (2, .int a2), (3, .long a3)] := hl
  have hiX1 : ∀ w ∈ u_ws RX1 TX1 3, w ∈ wsX4_write := by decide +kernel
  have hiX4 : ∀ w ∈ u_ws RX4 TX4 7, w ∈ wsX4_write := by decide +kernel
  unfold fX4_write at h
  refine lv_aload_n hx hb dX4_write_0 rfl (lv_at hl 0 rfl) ?_
  refine lv_iload_n hx hb dX4_write_1 rfl (lv_at hl 1 rfl) ?_
  obtain ⟨q2, eq2, h⟩ := o_bd h
  refine kV (As := [.int a1]) (rest := []) (st' := [.int q2]) ⟨hx, hb, hml, hown, hts⟩ (kX4_sheetRefusal l G eq2) (cwV 1 hts gX4_write_X4_sheetRefusal rfl rfl rfl qqX4_sheetRefusal ⟨Nat.le_of_ble_eq_true rfl, Nat.le_of_ble_eq_true rfl⟩) hw (rvOw hw) rfl hl.1 rfl (Nat.le_of_ble_eq_true rfl) dX4_write_2 ⟨Nat.zero_le _, Nat.zero_le _⟩ rfl (fun H locs hw => ?_)
  refine lv_istore (lv' := [(5, .int q2), (0, .ref (sA G 0 0)), (1, .int a1), (2, .int a2), (3, .long a3)]) hx hb dX4_write_5 hl (by decide) rfl (fun ls hl => ?_)
  refine lv_iload hx hb dX4_write_7 (lv_at hl 0 rfl) ?_
  refine lv_if_eq (tgt := 20) hx hb dX4_write_9 (by decide) (fun c9 => ?_) (fun c9 => ?_)
  · replace h := o_t c9 h
    refine lv_aload_n hx hb dX4_write_20 rfl (lv_at hl 1 rfl) ?_
    refine gOw (v := .ref (sA G 0 2)) hx hb hts hiX4 hown hw 5 (by decide) (hts (.fieldLink RX4 31 "SecondHome" "sheets" "[LSecondHome$Sheet;") (by decide +kernel)) rfl dX4_write_21 ?_
    refine lv_iload_n hx hb dX4_write_24 rfl (lv_at hl 2 rfl) ?_
    obtain ⟨b25, h⟩ := o_in h
    refine aaOw hx hb hw b25 dX4_write_25 ?_
    refine lv_iload_n hx hb dX4_write_26 rfl (lv_at hl 3 rfl) ?_
    obtain ⟨q27, eq27, h⟩ := o_bd h
    refine kV (As := [.int a2]) (rest := []) (st' := [.int q27]) ⟨hx, hb, hml, hown, hts⟩ (kX1_has l G (isSh_of b25) rfl eq27) (cwV 1 hts gX4_write_X1_has rfl rfl rfl qqX1_has ⟨Nat.le_of_ble_eq_true rfl, Nat.le_of_ble_eq_true rfl⟩) hw (rvSh hw (isSh_of b25)) rfl hl.1 rfl (Nat.le_of_ble_eq_true rfl) dX4_write_27 ⟨Nat.zero_le _, Nat.zero_le _⟩ rfl (fun H locs hw => ?_)
    refine lv_if_ne (tgt := 41) hx hb dX4_write_30 (by decide) (fun c30 => ?_) (fun c30 => ?_)
    · replace h := o_f c30 h
      refine lv_aload_n hx hb dX4_write_41 rfl (lv_at hl 1 rfl) ?_
      refine gOw (v := .ref (sA G 0 2)) hx hb hts hiX4 hown hw 5 (by decide) (hts (.fieldLink RX4 31 "SecondHome" "sheets" "[LSecondHome$Sheet;") (by decide +kernel)) rfl dX4_write_42 ?_
      refine lv_iload_n hx hb dX4_write_45 rfl (lv_at hl 2 rfl) ?_
      refine aaOw hx hb hw b25 dX4_write_46 ?_
      refine gSh (v := .ref (sA G (5 + a1.toNatClampNeg) 1)) hx hb hts hiX1 hown hw (isSh_of b25) rfl 2 (by decide) (hts (.fieldLink RX4 226 "SecondHome$Sheet" "numbers" "[J") (by decide +kernel)) rfl dX4_write_47 ?_
      refine lv_iload_n hx hb dX4_write_50 rfl (lv_at hl 3 rfl) ?_
      obtain ⟨b51, h⟩ := o_in h
      refine ldSh hx hb hw (isSh_of b25) rfl b51 dX4_write_51 ?_
      refine lv_topl (fun v52 ev52 => ?_)
      replace h := o_nx ev52 h
      refine lv_lstore (lv' := [(6, .long v52), (5, .int q2), (0, .ref (sA G 0 0)), (1, .int a1), (2, .int a2), (3, .long a3)]) hx hb dX4_write_52 hl (by decide) rfl (fun ls hl => ?_)
      refine lv_aload_n hx hb dX4_write_54 rfl (lv_at hl 2 rfl) ?_
      refine gOw (v := .ref (sA G 0 2)) hx hb hts hiX4 hown hw 5 (by decide) (hts (.fieldLink RX4 31 "SecondHome" "sheets" "[LSecondHome$Sheet;") (by decide +kernel)) rfl dX4_write_55 ?_
      refine lv_iload_n hx hb dX4_write_58 rfl (lv_at hl 3 rfl) ?_
      refine aaOw hx hb hw b25 dX4_write_59 ?_
      refine lv_iload_n hx hb dX4_write_60 rfl (lv_at hl 4 rfl) ?_
      refine lv_lload_n hx hb dX4_write_61 rfl (lv_at hl 5 rfl) ?_
      obtain ⟨q62, eq62, h⟩ := o_bd h
      refine kV (As := [.int a2, .long a3]) (rest := []) (st' := []) ⟨hx, hb, hml, hown, hts⟩ (kX1_put l G (isSh_of b25) rfl eq62) (cwV 2 hts gX4_write_X1_put rfl rfl rfl qqX1_put ⟨Nat.le_of_ble_eq_true rfl, Nat.le_of_ble_eq_true rfl⟩) hw (rvSh hw (isSh_of b25)) rfl hl.1 rfl (Nat.le_of_ble_eq_true rfl) dX4_write_62 ⟨Nat.zero_le _, Nat.zero_le _⟩ rfl (fun H locs hw => ?_)
      obtain ⟨S62, eS62, h⟩ := o_nm h
      rw [← eS62] at hw
      refine lv_lload hx hb dX4_write_65 (lv_at hl 0 rfl) ?_
      exact rL hQ hx hb hr hlk hw dX4_write_67 (o_2a h) (o_2b h) rfl
    · replace h := o_t c30 h
      refine lv_aload_n hx hb dX4_write_33 rfl (lv_at hl 1 rfl) ?_
      refine lv_ldc (v := -1000000001) hx hb hown (hts (.constant RX4 50 (-1000000001)) (by decide +kernel)) dX4_write_34 ?_
      obtain ⟨q36, eq36, h⟩ := o_bd h
      refine kV (As := [.int (-1000000001 : Int32)]) (rest := []) (st' := [.int q36.1]) ⟨hx, hb, hml, hown, hts⟩ (kX4_found l G eq36) (cwV 1 hts gX4_write_X4_found rfl rfl rfl qqX4_found ⟨Nat.le_of_ble_eq_true rfl, Nat.le_of_ble_eq_true rfl⟩) hw (rvOw hw) rfl hl.1 rfl (Nat.le_of_ble_eq_true rfl) dX4_write_36 ⟨Nat.zero_le _, Nat.zero_le _⟩ rfl (fun H locs hw => ?_)
      refine lv_i2l hx hb dX4_write_39 rfl ?_
      exact rL hQ hx hb hr hlk hw dX4_write_40 (o_2a h) (o_2b h) rfl
  · replace h := o_f c9 h
    refine lv_aload_n hx hb dX4_write_12 rfl (lv_at hl 1 rfl) ?_
    refine lv_iload hx hb dX4_write_13 (lv_at hl 0 rfl) ?_
    obtain ⟨q15, eq15, h⟩ := o_bd h
    refine kV (As := [.int q2]) (rest := []) (st' := [.int q15.1]) ⟨hx, hb, hml, hown, hts⟩ (kX4_found l G eq15) (cwV 1 hts gX4_write_X4_found rfl rfl rfl qqX4_found ⟨Nat.le_of_ble_eq_true rfl, Nat.le_of_ble_eq_true rfl⟩) hw (rvOw hw) rfl hl.1 rfl (Nat.le_of_ble_eq_true rfl) dX4_write_15 ⟨Nat.zero_le _, Nat.zero_le _⟩ rfl (fun H locs hw => ?_)
    refine lv_i2l hx hb dX4_write_18 rfl ?_
    exact rL hQ hx hb hr hlk hw dX4_write_19 (o_2a h) (o_2b h) rfl
-- X4_copy
def fX4_copy (S : sWo) (a1 : Int32) (a2 : Int32) (a3 : Int32) (a4 : Int32) (a5 : Int32) : Option (Int32 × sWo) :=
  (fX4_isSheet a1).bind fun q1 => if q1 = 0 then ((fX4_found S (-1000000001 : Int32)).bind fun q17 => some (q17.1, q17.2)) else ((fX4_isSheet a3).bind fun q8 => if q8 = 0 then ((fX4_found S (-1000000001 : Int32)).bind fun q17 => some (q17.1, q17.2)) else (if a1 < 0 ∨ 4 ≤ a1.toNatClampNeg then none else (fX1_isMissing (S (5 + a1.toNatClampNeg))).bind fun q27 => if q27 = 0 then (if a3 < 0 ∨ 4 ≤ a3.toNatClampNeg then none else (fX1_isMissing (S (5 + a3.toNatClampNeg))).bind fun q39 => if q39 = 0 then (if ((S (5 + a1.toNatClampNeg)).1 0) = ((S (5 + a3.toNatClampNeg)).1 0) then ((fX1_hasRow (S (5 + a1.toNatClampNeg)) a2 a5).bind fun q89 => if q89 = 0 then ((fX4_found S (-1000000001 : Int32)).bind fun q114 => some (q114.1, q114.2)) else ((fX1_hasRow (S (5 + a3.toNatClampNeg)) a4 a5).bind fun q105 => if q105 = 0 then ((fX4_found S (-1000000001 : Int32)).bind fun q114 => some (q114.1, q114.2)) else (if a2 < 0 ∨ a4 < 0 ∨ a5 < 0 ∨ ¬ a2.toNatClampNeg + a5.toNatClampNeg ≤ 40 ∨ ¬ a4.toNatClampNeg + a5.toNatClampNeg ≤ 40 then none else nm (sUp S (5 + a3.toNatClampNeg) (sSL (S (5 + a3.toNatClampNeg)) (va_cpy (S (5 + a1.toNatClampNeg)).2.2 (S (5 + a3.toNatClampNeg)).2.2 a2.toNatClampNeg a4.toNatClampNeg a5.toNatClampNeg))) fun S141 => some (a5, S141)))) else ((fX4_found S (-1000000003 : Int32)).bind fun q76 => some (q76.1, q76.2))) else ((fX4_found S (-1000000006 : Int32)).bind fun q48 => some (q48.1, q48.2))) else ((fX4_found S (-1000000006 : Int32)).bind fun q48 => some (q48.1, q48.2))))
def rmX4_copy : Room := { frames := 1, cells := 0, slots := 0, locals := 72 }
theorem qqX4_copy : yX4_copy.cls = RX4 ∧ yX4_copy.cls ≠ "java/lang/invoke/MethodHandle" ∧ yX4_copy.cls ≠ "java/lang/invoke/VarHandle" ∧ (parseMethodDescriptor yX4_copy.desc).map (fun d => d.parameters.length) = some 5 := by decide +kernel
set_option maxRecDepth 100000 in
set_option maxHeartbeats 4000000 in
theorem kX4_copy (l : Launch) (G : sGl) {S : sWo} {M : sOb} {a1 : Int32} {a2 : Int32} {a3 : Int32} {a4 : Int32} {a5 : Int32} {q : (Int32 × sWo)}  (h : fX4_copy S a1 a2 a3 a4 a5 = some q) : sCt l G yX4_copy wsX4_copy rmX4_copy [.ref (sA G 0 0), .int a1, .int a2, .int a3, .int a4, .int a5] S M (some (.int q.1)) q.2 M := by
  refine cMk (cc := cX4_copy) (maxL := 6) (ret := (some .int)) (by decide) rfl (Nat.le_of_ble_eq_true rfl) ?_
  intro p e s m args below meth c Q hQ hx hb hr hlk hml hown hts hw ls hl
  have hown : s.vm.findClass RX4 = some m.cls := hown
  have hl : lv_has ls 6 [(0, .ref (sA G 0 0)), (1, .int a1), (2, .int a2), (3, .int a3), (4, .int a4), (5, .int a5)] := hl
  have hiX1 : ∀ w ∈ u_ws RX1 TX1 3, w ∈ wsX4_copy := by decide +kernel
  have hiX4 : ∀ w ∈ u_ws RX4 TX4 7, w ∈ wsX4_copy := by decide +kernel
  unfold fX4_copy at h
  refine lv_iload_n hx hb dX4_copy_0 rfl (lv_at hl 1 rfl) ?_
  obtain ⟨q1, eq1, h⟩ := o_bd h
  refine kS (As := [.int a1]) (rest := []) (st' := [.int q1]) ⟨hx, hb, hml, hown, hts⟩ (kX4_isSheet l G eq1) (va_cwS 1 hts gX4_copy_X4_isSheet rfl rfl rfl qqX4_isSheet ⟨Nat.le_of_ble_eq_true rfl, Nat.le_of_ble_eq_true rfl⟩) hw rfl hl.1 rfl (Nat.le_of_ble_eq_true rfl) dX4_copy_1 ⟨Nat.zero_le _, Nat.zero_le _⟩ rfl (fun H locs hw => ?_)
  refine lv_if_eq (tgt := 14) hx hb dX4_copy_4 (by decide) (fun c4 => ?_) (fun c4 => ?_)
  · replace h := o_t c4 h
    refine lv_aload_n hx hb dX4_copy_14 rfl (lv_at hl 0 rfl) ?_
    refine lv_ldc (v := -1000000001) hx hb hown (hts (.constant RX4 50 (-1000000001)) (by decide +kernel)) dX4_copy_15 ?_
    obtain ⟨q17, eq17, h⟩ := o_bd h
    refine kV (As := [.int (-1000000001 : Int32)]) (rest := []) (st' := [.int q17.1]) ⟨hx, hb, hml, hown, hts⟩ (kX4_found l G eq17) (cwV 1 hts gX4_copy_X4_found rfl rfl rfl qqX4_found ⟨Nat.le_of_ble_eq_true rfl, Nat.le_of_ble_eq_true rfl⟩) hw (rvOw hw) rfl hl.1 rfl (Nat.le_of_ble_eq_true rfl) dX4_copy_17 ⟨Nat.zero_le _, Nat.zero_le _⟩ rfl (fun H locs hw => ?_)
    exact rI hQ hx hb hr hlk hw dX4_copy_20 (o_2a h) (o_2b h) rfl
  · replace h := o_f c4 h
    refine lv_iload_n hx hb dX4_copy_7 rfl (lv_at hl 3 rfl) ?_
    obtain ⟨q8, eq8, h⟩ := o_bd h
    refine kS (As := [.int a3]) (rest := []) (st' := [.int q8]) ⟨hx, hb, hml, hown, hts⟩ (kX4_isSheet l G eq8) (va_cwS 1 hts gX4_copy_X4_isSheet rfl rfl rfl qqX4_isSheet ⟨Nat.le_of_ble_eq_true rfl, Nat.le_of_ble_eq_true rfl⟩) hw rfl hl.1 rfl (Nat.le_of_ble_eq_true rfl) dX4_copy_8 ⟨Nat.zero_le _, Nat.zero_le _⟩ rfl (fun H locs hw => ?_)
    refine lv_if_ne (tgt := 21) hx hb dX4_copy_11 (by decide) (fun c11 => ?_) (fun c11 => ?_)
    · replace h := o_f c11 h
      refine lv_aload_n hx hb dX4_copy_21 rfl (lv_at hl 0 rfl) ?_
      refine gOw (v := .ref (sA G 0 2)) hx hb hts hiX4 hown hw 5 (by decide) (hts (.fieldLink RX4 31 "SecondHome" "sheets" "[LSecondHome$Sheet;") (by decide +kernel)) rfl dX4_copy_22 ?_
      refine lv_iload_n hx hb dX4_copy_25 rfl (lv_at hl 1 rfl) ?_
      obtain ⟨b26, h⟩ := o_in h
      refine aaOw hx hb hw b26 dX4_copy_26 ?_
      obtain ⟨q27, eq27, h⟩ := o_bd h
      refine kV (As := []) (rest := []) (st' := [.int q27]) ⟨hx, hb, hml, hown, hts⟩ (kX1_isMissing l G (isSh_of b26) rfl eq27) (cwV 0 hts gX4_copy_X1_isMissing rfl rfl rfl qqX1_isMissing ⟨Nat.le_of_ble_eq_true rfl, Nat.le_of_ble_eq_true rfl⟩) hw (rvSh hw (isSh_of b26)) rfl hl.1 rfl (Nat.le_of_ble_eq_true rfl) dX4_copy_27 ⟨Nat.zero_le _, Nat.zero_le _⟩ rfl (fun H locs hw => ?_)
      refine lv_if_ne (tgt := 45) hx hb dX4_copy_30 (by decide) (fun c30 => ?_) (fun c30 => ?_)
      · replace h := o_f c30 h
        refine lv_aload_n hx hb dX4_copy_45 rfl (lv_at hl 0 rfl) ?_
        refine lv_ldc (v := -1000000006) hx hb hown (hts (.constant RX4 237 (-1000000006)) (by decide +kernel)) dX4_copy_46 ?_
        obtain ⟨q48, eq48, h⟩ := o_bd h
        refine kV (As := [.int (-1000000006 : Int32)]) (rest := []) (st' := [.int q48.1]) ⟨hx, hb, hml, hown, hts⟩ (kX4_found l G eq48) (cwV 1 hts gX4_copy_X4_found rfl rfl rfl qqX4_found ⟨Nat.le_of_ble_eq_true rfl, Nat.le_of_ble_eq_true rfl⟩) hw (rvOw hw) rfl hl.1 rfl (Nat.le_of_ble_eq_true rfl) dX4_copy_48 ⟨Nat.zero_le _, Nat.zero_le _⟩ rfl (fun H locs hw => ?_)
        exact rI hQ hx hb hr hlk hw dX4_copy_51 (o_2a h) (o_2b h) rfl
      · replace h := o_t c30 h
        refine lv_aload_n hx hb dX4_copy_33 rfl (lv_at hl 0 rfl) ?_
        refine gOw (v := .ref (sA G 0 2)) hx hb hts hiX4 hown hw 5 (by decide) (hts (.fieldLink RX4 31 "SecondHome" "sheets" "[LSecondHome$Sheet;") (by decide +kernel)) rfl dX4_copy_34 ?_
        refine lv_iload_n hx hb dX4_copy_37 rfl (lv_at hl 3 rfl) ?_
        obtain ⟨b38, h⟩ := o_in h
        refine aaOw hx hb hw b38 dX4_copy_38 ?_
        obtain ⟨q39, eq39, h⟩ := o_bd h
        refine kV (As := []) (rest := []) (st' := [.int q39]) ⟨hx, hb, hml, hown, hts⟩ (kX1_isMissing l G (isSh_of b38) rfl eq39) (cwV 0 hts gX4_copy_X1_isMissing rfl rfl rfl qqX1_isMissing ⟨Nat.le_of_ble_eq_true rfl, Nat.le_of_ble_eq_true rfl⟩) hw (rvSh hw (isSh_of b38)) rfl hl.1 rfl (Nat.le_of_ble_eq_true rfl) dX4_copy_39 ⟨Nat.zero_le _, Nat.zero_le _⟩ rfl (fun H locs hw => ?_)
        refine lv_if_eq (tgt := 52) hx hb dX4_copy_42 (by decide) (fun c42 => ?_) (fun c42 => ?_)
        · replace h := o_t c42 h
          refine lv_aload_n hx hb dX4_copy_52 rfl (lv_at hl 0 rfl) ?_
          refine gOw (v := .ref (sA G 0 2)) hx hb hts hiX4 hown hw 5 (by decide) (hts (.fieldLink RX4 31 "SecondHome" "sheets" "[LSecondHome$Sheet;") (by decide +kernel)) rfl dX4_copy_53 ?_
          refine lv_iload_n hx hb dX4_copy_56 rfl (lv_at hl 1 rfl) ?_
          refine aaOw hx hb hw b26 dX4_copy_57 ?_
          refine gSh (v := .int ((S (5 + a1.toNatClampNeg)).1 0)) hx hb hts hiX1 hown hw (isSh_of b26) rfl 0 (by decide) (hts (.fieldLink RX4 238 "SecondHome$Sheet" "bits" "I") (by decide +kernel)) rfl dX4_copy_58 ?_
          refine lv_aload_n hx hb dX4_copy_61 rfl (lv_at hl 0 rfl) ?_
          refine gOw (v := .ref (sA G 0 2)) hx hb hts hiX4 hown hw 5 (by decide) (hts (.fieldLink RX4 31 "SecondHome" "sheets" "[LSecondHome$Sheet;") (by decide +kernel)) rfl dX4_copy_62 ?_
          refine lv_iload_n hx hb dX4_copy_65 rfl (lv_at hl 3 rfl) ?_
          refine aaOw hx hb hw b38 dX4_copy_66 ?_
          refine gSh (v := .int ((S (5 + a3.toNatClampNeg)).1 0)) hx hb hts hiX1 hown hw (isSh_of b38) rfl 0 (by decide) (hts (.fieldLink RX4 238 "SecondHome$Sheet" "bits" "I") (by decide +kernel)) rfl dX4_copy_67 ?_
          refine lv_icmp_eq (tgt := 80) hx hb dX4_copy_70 (by decide) (fun c70 => ?_) (fun c70 => ?_)
          · replace h := o_t c70 h
            refine lv_aload_n hx hb dX4_copy_80 rfl (lv_at hl 0 rfl) ?_
            refine gOw (v := .ref (sA G 0 2)) hx hb hts hiX4 hown hw 5 (by decide) (hts (.fieldLink RX4 31 "SecondHome" "sheets" "[LSecondHome$Sheet;") (by decide +kernel)) rfl dX4_copy_81 ?_
            refine lv_iload_n hx hb dX4_copy_84 rfl (lv_at hl 1 rfl) ?_
            refine aaOw hx hb hw b26 dX4_copy_85 ?_
            refine lv_iload_n hx hb dX4_copy_86 rfl (lv_at hl 2 rfl) ?_
            refine lv_iload hx hb dX4_copy_87 (lv_at hl 5 rfl) ?_
            obtain ⟨q89, eq89, h⟩ := o_bd h
            refine kV (As := [.int a2, .int a5]) (rest := []) (st' := [.int q89]) ⟨hx, hb, hml, hown, hts⟩ (kX1_hasRow l G (isSh_of b26) rfl eq89) (cwV 2 hts gX4_copy_X1_hasRow rfl rfl rfl qqX1_hasRow ⟨Nat.le_of_ble_eq_true rfl, Nat.le_of_ble_eq_true rfl⟩) hw (rvSh hw (isSh_of b26)) rfl hl.1 rfl (Nat.le_of_ble_eq_true rfl) dX4_copy_89 ⟨Nat.zero_le _, Nat.zero_le _⟩ rfl (fun H locs hw => ?_)
            refine lv_if_eq (tgt := 111) hx hb dX4_copy_92 (by decide) (fun c92 => ?_) (fun c92 => ?_)
            · replace h := o_t c92 h
              refine lv_aload_n hx hb dX4_copy_111 rfl (lv_at hl 0 rfl) ?_
              refine lv_ldc (v := -1000000001) hx hb hown (hts (.constant RX4 50 (-1000000001)) (by decide +kernel)) dX4_copy_112 ?_
              obtain ⟨q114, eq114, h⟩ := o_bd h
              refine kV (As := [.int (-1000000001 : Int32)]) (rest := []) (st' := [.int q114.1]) ⟨hx, hb, hml, hown, hts⟩ (kX4_found l G eq114) (cwV 1 hts gX4_copy_X4_found rfl rfl rfl qqX4_found ⟨Nat.le_of_ble_eq_true rfl, Nat.le_of_ble_eq_true rfl⟩) hw (rvOw hw) rfl hl.1 rfl (Nat.le_of_ble_eq_true rfl) dX4_copy_114 ⟨Nat.zero_le _, Nat.zero_le _⟩ rfl (fun H locs hw => ?_)
              exact rI hQ hx hb hr hlk hw dX4_copy_117 (o_2a h) (o_2b h) rfl
            · replace h := o_f c92 h
              refine lv_aload_n hx hb dX4_copy_95 rfl (lv_at hl 0 rfl) ?_
              refine gOw (v := .ref (sA G 0 2)) hx hb hts hiX4 hown hw 5 (by decide) (hts (.fieldLink RX4 31 "SecondHome" "sheets" "[LSecondHome$Sheet;") (by decide +kernel)) rfl dX4_copy_96 ?_
              refine lv_iload_n hx hb dX4_copy_99 rfl (lv_at hl 3 rfl) ?_
              refine aaOw hx hb hw b38 dX4_copy_100 ?_
              refine lv_iload hx hb dX4_copy_101 (lv_at hl 4 rfl) ?_
              refine lv_iload hx hb dX4_copy_103 (lv_at hl 5 rfl) ?_
              obtain ⟨q105, eq105, h⟩ := o_bd h
              refine kV (As := [.int a4, .int a5]) (rest := []) (st' := [.int q105]) ⟨hx, hb, hml, hown, hts⟩ (kX1_hasRow l G (isSh_of b38) rfl eq105) (cwV 2 hts gX4_copy_X1_hasRow rfl rfl rfl qqX1_hasRow ⟨Nat.le_of_ble_eq_true rfl, Nat.le_of_ble_eq_true rfl⟩) hw (rvSh hw (isSh_of b38)) rfl hl.1 rfl (Nat.le_of_ble_eq_true rfl) dX4_copy_105 ⟨Nat.zero_le _, Nat.zero_le _⟩ rfl (fun H locs hw => ?_)
              refine lv_if_ne (tgt := 118) hx hb dX4_copy_108 (by decide) (fun c108 => ?_) (fun c108 => ?_)
              · replace h := o_f c108 h
                refine lv_aload_n hx hb dX4_copy_118 rfl (lv_at hl 0 rfl) ?_
                refine gOw (v := .ref (sA G 0 2)) hx hb hts hiX4 hown hw 5 (by decide) (hts (.fieldLink RX4 31 "SecondHome" "sheets" "[LSecondHome$Sheet;") (by decide +kernel)) rfl dX4_copy_119 ?_
                refine lv_iload_n hx hb dX4_copy_122 rfl (lv_at hl 1 rfl) ?_
                refine aaOw hx hb hw b26 dX4_copy_123 ?_
                refine gSh (v := .ref (sA G (5 + a1.toNatClampNeg) 1)) hx hb hts hiX1 hown hw (isSh_of b26) rfl 2 (by decide) (hts (.fieldLink RX4 226 "SecondHome$Sheet" "numbers" "[J") (by decide +kernel)) rfl dX4_copy_124 ?_
                refine lv_iload_n hx hb dX4_copy_127 rfl (lv_at hl 2 rfl) ?_
                refine lv_aload_n hx hb dX4_copy_128 rfl (lv_at hl 0 rfl) ?_
                refine gOw (v := .ref (sA G 0 2)) hx hb hts hiX4 hown hw 5 (by decide) (hts (.fieldLink RX4 31 "SecondHome" "sheets" "[LSecondHome$Sheet;") (by decide +kernel)) rfl dX4_copy_129 ?_
                refine lv_iload_n hx hb dX4_copy_132 rfl (lv_at hl 3 rfl) ?_
                refine aaOw hx hb hw b38 dX4_copy_133 ?_
                refine gSh (v := .ref (sA G (5 + a3.toNatClampNeg) 1)) hx hb hts hiX1 hown hw (isSh_of b38) rfl 2 (by decide) (hts (.fieldLink RX4 226 "SecondHome$Sheet" "numbers" "[J") (by decide +kernel)) rfl dX4_copy_134 ?_
                refine lv_iload hx hb dX4_copy_137 (lv_at hl 4 rfl) ?_
                refine lv_iload hx hb dX4_copy_139 (lv_at hl 5 rfl) ?_
                obtain ⟨b141, h⟩ := o_in h
                refine cpSh hx hb (hml.trans hl.1.symm) hown (hts (.methodLink RX4 244 arraycopyName) (by decide +kernel)) (hts (.native arraycopyName) (by decide +kernel)) (hts (.static arraycopyName) (by decide +kernel)) (hts (.initialized "java/lang/System") (by decide +kernel)) hw (isSh_of b26) (isSh_of b38) b141 (Nat.le_of_ble_eq_true rfl) (Nat.le_of_ble_eq_true rfl) dX4_copy_141 rfl (fun H locs hw => ?_)
                obtain ⟨S141, eS141, h⟩ := o_nm h
                rw [← eS141] at hw
                refine lv_iload hx hb dX4_copy_144 (lv_at hl 5 rfl) ?_
                exact rI hQ hx hb hr hlk hw dX4_copy_146 (o_2a h) (o_2b h) rfl
              · replace h := o_t c108 h
                refine lv_aload_n hx hb dX4_copy_111 rfl (lv_at hl 0 rfl) ?_
                refine lv_ldc (v := -1000000001) hx hb hown (hts (.constant RX4 50 (-1000000001)) (by decide +kernel)) dX4_copy_112 ?_
                obtain ⟨q114, eq114, h⟩ := o_bd h
                refine kV (As := [.int (-1000000001 : Int32)]) (rest := []) (st' := [.int q114.1]) ⟨hx, hb, hml, hown, hts⟩ (kX4_found l G eq114) (cwV 1 hts gX4_copy_X4_found rfl rfl rfl qqX4_found ⟨Nat.le_of_ble_eq_true rfl, Nat.le_of_ble_eq_true rfl⟩) hw (rvOw hw) rfl hl.1 rfl (Nat.le_of_ble_eq_true rfl) dX4_copy_114 ⟨Nat.zero_le _, Nat.zero_le _⟩ rfl (fun H locs hw => ?_)
                exact rI hQ hx hb hr hlk hw dX4_copy_117 (o_2a h) (o_2b h) rfl
          · replace h := o_f c70 h
            refine lv_aload_n hx hb dX4_copy_73 rfl (lv_at hl 0 rfl) ?_
            refine lv_ldc (v := -1000000003) hx hb hown (hts (.constant RX4 119 (-1000000003)) (by decide +kernel)) dX4_copy_74 ?_
            obtain ⟨q76, eq76, h⟩ := o_bd h
            refine kV (As := [.int (-1000000003 : Int32)]) (rest := []) (st' := [.int q76.1]) ⟨hx, hb, hml, hown, hts⟩ (kX4_found l G eq76) (cwV 1 hts gX4_copy_X4_found rfl rfl rfl qqX4_found ⟨Nat.le_of_ble_eq_true rfl, Nat.le_of_ble_eq_true rfl⟩) hw (rvOw hw) rfl hl.1 rfl (Nat.le_of_ble_eq_true rfl) dX4_copy_76 ⟨Nat.zero_le _, Nat.zero_le _⟩ rfl (fun H locs hw => ?_)
            exact rI hQ hx hb hr hlk hw dX4_copy_79 (o_2a h) (o_2b h) rfl
        · replace h := o_f c42 h
          refine lv_aload_n hx hb dX4_copy_45 rfl (lv_at hl 0 rfl) ?_
          refine lv_ldc (v := -1000000006) hx hb hown (hts (.constant RX4 237 (-1000000006)) (by decide +kernel)) dX4_copy_46 ?_
          obtain ⟨q48, eq48, h⟩ := o_bd h
          refine kV (As := [.int (-1000000006 : Int32)]) (rest := []) (st' := [.int q48.1]) ⟨hx, hb, hml, hown, hts⟩ (kX4_found l G eq48) (cwV 1 hts gX4_copy_X4_found rfl rfl rfl qqX4_found ⟨Nat.le_of_ble_eq_true rfl, Nat.le_of_ble_eq_true rfl⟩) hw (rvOw hw) rfl hl.1 rfl (Nat.le_of_ble_eq_true rfl) dX4_copy_48 ⟨Nat.zero_le _, Nat.zero_le _⟩ rfl (fun H locs hw => ?_)
          exact rI hQ hx hb hr hlk hw dX4_copy_51 (o_2a h) (o_2b h) rfl
    · replace h := o_t c11 h
      refine lv_aload_n hx hb dX4_copy_14 rfl (lv_at hl 0 rfl) ?_
      refine lv_ldc (v := -1000000001) hx hb hown (hts (.constant RX4 50 (-1000000001)) (by decide +kernel)) dX4_copy_15 ?_
      obtain ⟨q17, eq17, h⟩ := o_bd h
      refine kV (As := [.int (-1000000001 : Int32)]) (rest := []) (st' := [.int q17.1]) ⟨hx, hb, hml, hown, hts⟩ (kX4_found l G eq17) (cwV 1 hts gX4_copy_X4_found rfl rfl rfl qqX4_found ⟨Nat.le_of_ble_eq_true rfl, Nat.le_of_ble_eq_true rfl⟩) hw (rvOw hw) rfl hl.1 rfl (Nat.le_of_ble_eq_true rfl) dX4_copy_17 ⟨Nat.zero_le _, Nat.zero_le _⟩ rfl (fun H locs hw => ?_)
      exact rI hQ hx hb hr hlk hw dX4_copy_20 (o_2a h) (o_2b h) rfl
-- X4_lays
def bX4_lays_29 (a1 : Int32) (rc29 : Int32 → Int32 → sWo → Option (Int32 × sWo)) (x4_29 : Int32) (x5_29 : Int32) (S_29 : sWo) : Option (Int32 × sWo) :=
  if ((S_29 (5 + a1.toNatClampNeg)).1 1) ≤ x5_29 then (some (x4_29, S_29)) else (if ((S_29 1).1 4) ≤ x5_29 then (some (x4_29, S_29)) else (if x5_29 < 0 ∨ 40 ≤ x5_29.toNatClampNeg then none else nm ((S_29 (5 + a1.toNatClampNeg)).2.2 x5_29.toNatClampNeg) fun v57 => if (lg_cmp v57 (1 : Int64)) < 0 then (nm (x5_29 + (1 : Int32)) fun v91 => rc29 x4_29 v91 S_29) else (if 0 < (lg_cmp v57 (12 : Int64)) then (nm (x5_29 + (1 : Int32)) fun v91 => rc29 x4_29 v91 S_29) else (if x5_29 < 0 ∨ 9 ≤ x5_29.toNatClampNeg then none else nm (sUp S_29 1 (sSa (S_29 1) 1 x5_29.toNatClampNeg v57.toInt32)) fun S87 => nm (x4_29 + (1 : Int32)) fun v88 => nm (x5_29 + (1 : Int32)) fun v91 => rc29 v88 v91 S87))))
def fX4_lays (S : sWo) (a1 : Int32) : Option (Int32 × sWo) :=
  (fX4_sheetRefusal S a1).bind fun q2 => if q2 = 0 then (if a1 < 0 ∨ 4 ≤ a1.toNatClampNeg then none else fx3 (bX4_lays_29 a1) FU (0 : Int32) (0 : Int32) S) else ((fX4_found S q2).bind fun q12 => some (q12.1, q12.2))
def rmX4_lays : Room := { frames := 2, cells := 0, slots := 0, locals := 41 }
theorem qqX4_lays : yX4_lays.cls = RX4 ∧ yX4_lays.cls ≠ "java/lang/invoke/MethodHandle" ∧ yX4_lays.cls ≠ "java/lang/invoke/VarHandle" ∧ (parseMethodDescriptor yX4_lays.desc).map (fun d => d.parameters.length) = some 1 := by decide +kernel
set_option maxRecDepth 100000 in
set_option maxHeartbeats 4000000 in
theorem kX4_lays (l : Launch) (G : sGl) {S : sWo} {M : sOb} {a1 : Int32} {q : (Int32 × sWo)}  (h : fX4_lays S a1 = some q) : sCt l G yX4_lays wsX4_lays rmX4_lays [.ref (sA G 0 0), .int a1] S M (some (.int q.1)) q.2 M := by
  refine cMk (cc := cX4_lays) (maxL := 8) (ret := (some .int)) (by decide) rfl (Nat.le_of_ble_eq_true rfl) ?_
  intro p e s m args below meth c Q hQ hx hb hr hlk hml hown hts hw ls hl
  have hown : s.vm.findClass RX4 = some m.cls := hown
  have hl : lv_has ls 8 [(0, .ref (sA G 0 0)), (1, .int a1)] := hl
  have hiX1 : ∀ w ∈ u_ws RX1 TX1 3, w ∈ wsX4_lays := by decide +kernel
  have hiX3 : ∀ w ∈ u_ws RX3 TX3 15, w ∈ wsX4_lays := by decide +kernel
  have hiX4 : ∀ w ∈ u_ws RX4 TX4 7, w ∈ wsX4_lays := by decide +kernel
  unfold fX4_lays at h
  refine lv_aload_n hx hb dX4_lays_0 rfl (lv_at hl 0 rfl) ?_
  refine lv_iload_n hx hb dX4_lays_1 rfl (lv_at hl 1 rfl) ?_
  obtain ⟨q2, eq2, h⟩ := o_bd h
  refine kV (As := [.int a1]) (rest := []) (st' := [.int q2]) ⟨hx, hb, hml, hown, hts⟩ (kX4_sheetRefusal l G eq2) (cwV 1 hts gX4_lays_X4_sheetRefusal rfl rfl rfl qqX4_sheetRefusal ⟨Nat.le_of_ble_eq_true rfl, Nat.le_of_ble_eq_true rfl⟩) hw (rvOw hw) rfl hl.1 rfl (Nat.le_of_ble_eq_true rfl) dX4_lays_2 ⟨Nat.zero_le _, Nat.zero_le _⟩ rfl (fun H locs hw => ?_)
  refine lv_istore_n (lv' := [(2, .int q2), (0, .ref (sA G 0 0)), (1, .int a1)]) hx hb dX4_lays_5 rfl hl (by decide) rfl (fun ls hl => ?_)
  refine lv_iload_n hx hb dX4_lays_6 rfl (lv_at hl 0 rfl) ?_
  refine lv_if_eq (tgt := 16) hx hb dX4_lays_7 (by decide) (fun c7 => ?_) (fun c7 => ?_)
  · replace h := o_t c7 h
    refine lv_aload_n hx hb dX4_lays_16 rfl (lv_at hl 1 rfl) ?_
    refine gOw (v := .ref (sA G 0 2)) hx hb hts hiX4 hown hw 5 (by decide) (hts (.fieldLink RX4 31 "SecondHome" "sheets" "[LSecondHome$Sheet;") (by decide +kernel)) rfl dX4_lays_17 ?_
    refine lv_iload_n hx hb dX4_lays_20 rfl (lv_at hl 2 rfl) ?_
    obtain ⟨b21, h⟩ := o_in h
    refine aaOw hx hb hw b21 dX4_lays_21 ?_
    refine lv_astore_n (lv' := [(3, .ref (sA G (5 + a1.toNatClampNeg) 0)), (2, .int q2), (0, .ref (sA G 0 0)), (1, .int a1)]) hx hb dX4_lays_22 rfl hl (by decide) rfl (fun ls hl => ?_)
    refine lv_iconst (v := 0) hx hb dX4_lays_23 (by decide) ?_
    refine lv_istore (lv' := [(4, .int (0 : Int32)), (3, .ref (sA G (5 + a1.toNatClampNeg) 0)), (2, .int q2), (0, .ref (sA G 0 0)), (1, .int a1)]) hx hb dX4_lays_24 hl (by decide) rfl (fun ls hl => ?_)
    refine lv_iconst (v := 0) hx hb dX4_lays_26 (by decide) ?_
    refine lv_istore (lv' := [(5, .int (0 : Int32)), (4, .int (0 : Int32)), (3, .ref (sA G (5 + a1.toNatClampNeg) 0)), (2, .int q2), (0, .ref (sA G 0 0)), (1, .int a1)]) hx hb dX4_lays_27 hl (by decide) rfl (fun ls hl => ?_)
    refine fx3_w (F := (bX4_lays_29 a1)) (P := fun x4_29 x5_29 S_29 => ∀ (H : Heap) (locs : List Loc) (ls : Array Slot), sHw G s S_29 M H locs → lv_has ls 8 [(0, .ref (sA G 0 0)), (3, .ref (sA G (5 + a1.toNatClampNeg) 0)), (4, .int x4_29), (5, .int x5_29)] → W p l e rmX4_lays s m args below meth c H locs 0 0 Q (F0 m 29 ls [])) ?_ _ _ _ _ h _ _ _ hw (lv_sub hl [4, 2, 1, 0] rfl)
    intro rc29 IH29 x4_29 x5_29 S_29 h H locs ls hw hl
    unfold bX4_lays_29 at h
    refine lv_iload hx hb dX4_lays_29 (lv_at hl 3 rfl) ?_
    refine lv_aload_n hx hb dX4_lays_31 rfl (lv_at hl 1 rfl) ?_
    refine gSh (v := .int ((S_29 (5 + a1.toNatClampNeg)).1 1)) hx hb hts hiX1 hown hw (isSh_of b21) rfl 1 (by decide) (hts (.fieldLink RX4 250 "SecondHome$Sheet" "size" "I") (by decide +kernel)) rfl dX4_lays_32 ?_
    refine lv_icmp_ge (tgt := 97) hx hb dX4_lays_35 (by decide) (fun c35 => ?_) (fun c35 => ?_)
    · replace h := o_t c35 h
      refine lv_iload hx hb dX4_lays_97 (lv_at hl 2 rfl) ?_
      exact rI hQ hx hb hr hlk hw dX4_lays_99 (o_2a h) (o_2b h) rfl
    · replace h := o_f c35 h
      refine lv_iload hx hb dX4_lays_38 (lv_at hl 3 rfl) ?_
      refine lv_aload_n hx hb dX4_lays_40 rfl (lv_at hl 0 rfl) ?_
      refine gOw (v := .ref (sA G 1 0)) hx hb hts hiX4 hown hw 0 (by decide) (hts (.fieldLink RX4 10 "SecondHome" "track" "LSecondHome$Track;") (by decide +kernel)) rfl dX4_lays_41 ?_
      refine gTk (v := .int ((S_29 1).1 4)) hx hb hts hiX3 hown hw (Or.inl rfl) rfl 4 (by decide) (hts (.fieldLink RX4 64 "SecondHome$Track" "count" "I") (by decide +kernel)) rfl dX4_lays_44 ?_
      refine lv_icmp_ge (tgt := 97) hx hb dX4_lays_47 (by decide) (fun c47 => ?_) (fun c47 => ?_)
      · replace h := o_t c47 h
        refine lv_iload hx hb dX4_lays_97 (lv_at hl 2 rfl) ?_
        exact rI hQ hx hb hr hlk hw dX4_lays_99 (o_2a h) (o_2b h) rfl
      · replace h := o_f c47 h
        refine lv_aload_n hx hb dX4_lays_50 rfl (lv_at hl 1 rfl) ?_
        refine gSh (v := .ref (sA G (5 + a1.toNatClampNeg) 1)) hx hb hts hiX1 hown hw (isSh_of b21) rfl 2 (by decide) (hts (.fieldLink RX4 226 "SecondHome$Sheet" "numbers" "[J") (by decide +kernel)) rfl dX4_lays_51 ?_
        refine lv_iload hx hb dX4_lays_54 (lv_at hl 3 rfl) ?_
        obtain ⟨b56, h⟩ := o_in h
        refine ldSh hx hb hw (isSh_of b21) rfl b56 dX4_lays_56 ?_
        refine lv_topl (fun v57 ev57 => ?_)
        replace h := o_nx ev57 h
        refine lv_lstore (lv' := [(6, .long v57), (0, .ref (sA G 0 0)), (3, .ref (sA G (5 + a1.toNatClampNeg) 0)), (4, .int x4_29), (5, .int x5_29)]) hx hb dX4_lays_57 hl (by decide) rfl (fun ls hl => ?_)
        refine lv_lload hx hb dX4_lays_59 (lv_at hl 0 rfl) ?_
        refine lv_lconst (v := 1) hx hb dX4_lays_61 (by decide) ?_
        refine W.lcmp hx hb dX4_lays_62 ?_
        refine lv_if_lt (tgt := 91) hx hb dX4_lays_63 (by decide) (fun c63 => ?_) (fun c63 => ?_)
        · replace h := o_t c63 h
          obtain ⟨v91, ev91, h⟩ := o_nm h
          refine lv_iinc (v := v91) (lv' := [(5, .int v91), (6, .long v57), (0, .ref (sA G 0 0)), (3, .ref (sA G (5 + a1.toNatClampNeg) 0)), (4, .int x4_29)]) hx hb dX4_lays_91 hl (k := 4) rfl (by rw [ev91]; rfl) (by decide) rfl (fun ls hl => ?_)
          refine lv_goto (tgt := 29) hx hb dX4_lays_94 (by decide) ?_
          exact IH29 x4_29 v91 S_29 h _ _ _ hw (lv_sub hl [2, 3, 4, 0] rfl)
        · replace h := o_f c63 h
          refine lv_lload hx hb dX4_lays_66 (lv_at hl 0 rfl) ?_
          refine lv_ldc2 (v := 12) hx hb hown (hts (.constantLong RX4 251 (12)) (by decide +kernel)) dX4_lays_68 ?_
          refine W.lcmp hx hb dX4_lays_71 ?_
          refine lv_if_gt (tgt := 91) hx hb dX4_lays_72 (by decide) (fun c72 => ?_) (fun c72 => ?_)
          · replace h := o_t c72 h
            obtain ⟨v91, ev91, h⟩ := o_nm h
            refine lv_iinc (v := v91) (lv' := [(5, .int v91), (6, .long v57), (0, .ref (sA G 0 0)), (3, .ref (sA G (5 + a1.toNatClampNeg) 0)), (4, .int x4_29)]) hx hb dX4_lays_91 hl (k := 4) rfl (by rw [ev91]; rfl) (by decide) rfl (fun ls hl => ?_)
            refine lv_goto (tgt := 29) hx hb dX4_lays_94 (by decide) ?_
            exact IH29 x4_29 v91 S_29 h _ _ _ hw (lv_sub hl [2, 3, 4, 0] rfl)
          · replace h := o_f c72 h
            refine lv_aload_n hx hb dX4_lays_75 rfl (lv_at hl 1 rfl) ?_
            refine gOw (v := .ref (sA G 1 0)) hx hb hts hiX4 hown hw 0 (by decide) (hts (.fieldLink RX4 10 "SecondHome" "track" "LSecondHome$Track;") (by decide +kernel)) rfl dX4_lays_76 ?_
            refine gTk (v := .ref (sA G 1 2)) hx hb hts hiX3 hown hw (Or.inl rfl) rfl 7 (by decide) (hts (.fieldLink RX4 79 "SecondHome$Track" "paces" "[I") (by decide +kernel)) rfl dX4_lays_79 ?_
            refine lv_iload hx hb dX4_lays_82 (lv_at hl 4 rfl) ?_
            refine lv_lload hx hb dX4_lays_84 (lv_at hl 0 rfl) ?_
            refine lv_l2i hx hb dX4_lays_86 rfl ?_
            obtain ⟨b87, h⟩ := o_in h
            refine stTk hx hb hw (Or.inl rfl) rfl 1 (by decide) b87 dX4_lays_87 rfl (fun H locs hw => ?_)
            obtain ⟨S87, eS87, h⟩ := o_nm h
            rw [← eS87] at hw
            obtain ⟨v88, ev88, h⟩ := o_nm h
            refine lv_iinc (v := v88) (lv' := [(4, .int v88), (6, .long v57), (0, .ref (sA G 0 0)), (3, .ref (sA G (5 + a1.toNatClampNeg) 0)), (5, .int x5_29)]) hx hb dX4_lays_88 hl (k := 3) rfl (by rw [ev88]; rfl) (by decide) rfl (fun ls hl => ?_)
            obtain ⟨v91, ev91, h⟩ := o_nm h
            refine lv_iinc (v := v91) (lv' := [(5, .int v91), (4, .int v88), (6, .long v57), (0, .ref (sA G 0 0)), (3, .ref (sA G (5 + a1.toNatClampNeg) 0))]) hx hb dX4_lays_91 hl (k := 4) rfl (by rw [ev91]; rfl) (by decide) rfl (fun ls hl => ?_)
            refine lv_goto (tgt := 29) hx hb dX4_lays_94 (by decide) ?_
            exact IH29 v88 v91 S87 h _ _ _ hw (lv_sub hl [3, 4, 1, 0] rfl)
  · replace h := o_f c7 h
    refine lv_aload_n hx hb dX4_lays_10 rfl (lv_at hl 1 rfl) ?_
    refine lv_iload_n hx hb dX4_lays_11 rfl (lv_at hl 0 rfl) ?_
    obtain ⟨q12, eq12, h⟩ := o_bd h
    refine kV (As := [.int q2]) (rest := []) (st' := [.int q12.1]) ⟨hx, hb, hml, hown, hts⟩ (kX4_found l G eq12) (cwV 1 hts gX4_lays_X4_found rfl rfl rfl qqX4_found ⟨Nat.le_of_ble_eq_true rfl, Nat.le_of_ble_eq_true rfl⟩) hw (rvOw hw) rfl hl.1 rfl (Nat.le_of_ble_eq_true rfl) dX4_lays_12 ⟨Nat.zero_le _, Nat.zero_le _⟩ rfl (fun H locs hw => ?_)
    exact rI hQ hx hb hr hlk hw dX4_lays_15 (o_2a h) (o_2b h) rfl
-- X4_film
def bX4_film_51 (a1 : Int32) (a2 : Int32) (rc51 : Int32 → sWo → Option (Int32 × sWo)) (x6_51 : Int32) (S_51 : sWo) : Option (Int32 × sWo) :=
  if ((S_51 (5 + a1.toNatClampNeg)).1 1) ≤ x6_51 then (some (((S_51 (5 + a1.toNatClampNeg)).1 1), S_51)) else (if a2 < 0 ∨ 9 ≤ a2.toNatClampNeg then none else (fX1_put (S_51 (5 + a1.toNatClampNeg)) x6_51 (((S_51 2).2.1 5 a2.toNatClampNeg).toInt64)).bind fun q73 => nm (sUp S_51 (5 + a1.toNatClampNeg) q73) fun S73 => (fX3_goOn (S73 2) (1 : Int32)).bind fun q79 => nm (sUp S73 2 q79) fun S79 => nm (x6_51 + (1 : Int32)) fun v82 => rc51 v82 S79)
def fX4_film (S : sWo) (a1 : Int32) (a2 : Int32) : Option (Int32 × sWo) :=
  (fX4_sheetRefusal S a1).bind fun q2 => if q2 = 0 then ((fX3_has (S 1) a2).bind fun q21 => if q21 = 0 then ((fX4_found S (-1000000001 : Int32)).bind fun q30 => some (q30.1, q30.2)) else (if a1 < 0 ∨ 4 ≤ a1.toNatClampNeg then none else (fX4_tryOut S).bind fun q43 => fx2 (bX4_film_51 a1 a2) FU (0 : Int32) q43)) else ((fX4_found S q2).bind fun q12 => some (q12.1, q12.2))
def rmX4_film : Room := { frames := 5, cells := 0, slots := 0, locals := 112 }
theorem qqX4_film : yX4_film.cls = RX4 ∧ yX4_film.cls ≠ "java/lang/invoke/MethodHandle" ∧ yX4_film.cls ≠ "java/lang/invoke/VarHandle" ∧ (parseMethodDescriptor yX4_film.desc).map (fun d => d.parameters.length) = some 2 := by decide +kernel
set_option maxRecDepth 100000 in
set_option maxHeartbeats 4000000 in
theorem kX4_film (l : Launch) (G : sGl) {S : sWo} {M : sOb} {a1 : Int32} {a2 : Int32} {q : (Int32 × sWo)}  (h : fX4_film S a1 a2 = some q) : sCt l G yX4_film wsX4_film rmX4_film [.ref (sA G 0 0), .int a1, .int a2] S M (some (.int q.1)) q.2 M := by
  refine cMk (cc := cX4_film) (maxL := 7) (ret := (some .int)) (by decide) rfl (Nat.le_of_ble_eq_true rfl) ?_
  intro p e s m args below meth c Q hQ hx hb hr hlk hml hown hts hw ls hl
  have hown : s.vm.findClass RX4 = some m.cls := hown
  have hl : lv_has ls 7 [(0, .ref (sA G 0 0)), (1, .int a1), (2, .int a2)] := hl
  have hiX1 : ∀ w ∈ u_ws RX1 TX1 3, w ∈ wsX4_film := by decide +kernel
  have hiX3 : ∀ w ∈ u_ws RX3 TX3 15, w ∈ wsX4_film := by decide +kernel
  have hiX4 : ∀ w ∈ u_ws RX4 TX4 7, w ∈ wsX4_film := by decide +kernel
  unfold fX4_film at h
  refine lv_aload_n hx hb dX4_film_0 rfl (lv_at hl 0 rfl) ?_
  refine lv_iload_n hx hb dX4_film_1 rfl (lv_at hl 1 rfl) ?_
  obtain ⟨q2, eq2, h⟩ := o_bd h
  refine kV (As := [.int a1]) (rest := []) (st' := [.int q2]) ⟨hx, hb, hml, hown, hts⟩ (kX4_sheetRefusal l G eq2) (cwV 1 hts gX4_film_X4_sheetRefusal rfl rfl rfl qqX4_sheetRefusal ⟨Nat.le_of_ble_eq_true rfl, Nat.le_of_ble_eq_true rfl⟩) hw (rvOw hw) rfl hl.1 rfl (Nat.le_of_ble_eq_true rfl) dX4_film_2 ⟨Nat.zero_le _, Nat.zero_le _⟩ rfl (fun H locs hw => ?_)
  refine lv_istore_n (lv' := [(3, .int q2), (0, .ref (sA G 0 0)), (1, .int a1), (2, .int a2)]) hx hb dX4_film_5 rfl hl (by decide) rfl (fun ls hl => ?_)
  refine lv_iload_n hx hb dX4_film_6 rfl (lv_at hl 0 rfl) ?_
  refine lv_if_eq (tgt := 16) hx hb dX4_film_7 (by decide) (fun c7 => ?_) (fun c7 => ?_)
  · replace h := o_t c7 h
    refine lv_aload_n hx hb dX4_film_16 rfl (lv_at hl 1 rfl) ?_
    refine gOw (v := .ref (sA G 1 0)) hx hb hts hiX4 hown hw 0 (by decide) (hts (.fieldLink RX4 10 "SecondHome" "track" "LSecondHome$Track;") (by decide +kernel)) rfl dX4_film_17 ?_
    refine lv_iload_n hx hb dX4_film_20 rfl (lv_at hl 3 rfl) ?_
    obtain ⟨q21, eq21, h⟩ := o_bd h
    refine kV (As := [.int a2]) (rest := []) (st' := [.int q21]) ⟨hx, hb, hml, hown, hts⟩ (kX3_has l G (Or.inl rfl) rfl eq21) (cwV 1 hts gX4_film_X3_has rfl rfl rfl qqX3_has ⟨Nat.le_of_ble_eq_true rfl, Nat.le_of_ble_eq_true rfl⟩) hw (rvTk hw (Or.inl rfl)) rfl hl.1 rfl (Nat.le_of_ble_eq_true rfl) dX4_film_21 ⟨Nat.zero_le _, Nat.zero_le _⟩ rfl (fun H locs hw => ?_)
    refine lv_if_ne (tgt := 34) hx hb dX4_film_24 (by decide) (fun c24 => ?_) (fun c24 => ?_)
    · replace h := o_f c24 h
      refine lv_aload_n hx hb dX4_film_34 rfl (lv_at hl 1 rfl) ?_
      refine gOw (v := .ref (sA G 0 2)) hx hb hts hiX4 hown hw 5 (by decide) (hts (.fieldLink RX4 31 "SecondHome" "sheets" "[LSecondHome$Sheet;") (by decide +kernel)) rfl dX4_film_35 ?_
      refine lv_iload_n hx hb dX4_film_38 rfl (lv_at hl 2 rfl) ?_
      obtain ⟨b39, h⟩ := o_in h
      refine aaOw hx hb hw b39 dX4_film_39 ?_
      refine lv_astore (lv' := [(4, .ref (sA G (5 + a1.toNatClampNeg) 0)), (3, .int q2), (0, .ref (sA G 0 0)), (1, .int a1), (2, .int a2)]) hx hb dX4_film_40 hl (by decide) rfl (fun ls hl => ?_)
      refine lv_aload_n hx hb dX4_film_42 rfl (lv_at hl 2 rfl) ?_
      obtain ⟨q43, eq43, h⟩ := o_bd h
      refine kV (As := []) (rest := []) (st' := [.ref (sA G 2 0)]) ⟨hx, hb, hml, hown, hts⟩ (kX4_tryOut l G eq43) (cwV 0 hts gX4_film_X4_tryOut rfl rfl rfl qqX4_tryOut ⟨Nat.le_of_ble_eq_true rfl, Nat.le_of_ble_eq_true rfl⟩) hw (rvOw hw) rfl hl.1 rfl (Nat.le_of_ble_eq_true rfl) dX4_film_43 ⟨Nat.zero_le _, Nat.zero_le _⟩ rfl (fun H locs hw => ?_)
      refine lv_astore (lv' := [(5, .ref (sA G 2 0)), (4, .ref (sA G (5 + a1.toNatClampNeg) 0)), (3, .int q2), (0, .ref (sA G 0 0)), (1, .int a1), (2, .int a2)]) hx hb dX4_film_46 hl (by decide) rfl (fun ls hl => ?_)
      refine lv_iconst (v := 0) hx hb dX4_film_48 (by decide) ?_
      refine lv_istore (lv' := [(6, .int (0 : Int32)), (5, .ref (sA G 2 0)), (4, .ref (sA G (5 + a1.toNatClampNeg) 0)), (3, .int q2), (0, .ref (sA G 0 0)), (1, .int a1), (2, .int a2)]) hx hb dX4_film_49 hl (by decide) rfl (fun ls hl => ?_)
      refine fx2_w (F := (bX4_film_51 a1 a2)) (P := fun x6_51 S_51 => ∀ (H : Heap) (locs : List Loc) (ls : Array Slot), sHw G s S_51 M H locs → lv_has ls 7 [(2, .int a2), (4, .ref (sA G (5 + a1.toNatClampNeg) 0)), (5, .ref (sA G 2 0)), (6, .int x6_51)] → W p l e rmX4_film s m args below meth c H locs 0 0 Q (F0 m 51 ls [])) ?_ _ _ _ h _ _ _ hw (lv_sub hl [6, 2, 1, 0] rfl)
      intro rc51 IH51 x6_51 S_51 h H locs ls hw hl
      unfold bX4_film_51 at h
      refine lv_iload hx hb dX4_film_51 (lv_at hl 3 rfl) ?_
      refine lv_aload hx hb dX4_film_53 (lv_at hl 1 rfl) ?_
      refine gSh (v := .int ((S_51 (5 + a1.toNatClampNeg)).1 1)) hx hb hts hiX1 hown hw (isSh_of b39) rfl 1 (by decide) (hts (.fieldLink RX4 250 "SecondHome$Sheet" "size" "I") (by decide +kernel)) rfl dX4_film_55 ?_
      refine lv_icmp_ge (tgt := 88) hx hb dX4_film_58 (by decide) (fun c58 => ?_) (fun c58 => ?_)
      · replace h := o_t c58 h
        refine lv_aload hx hb dX4_film_88 (lv_at hl 1 rfl) ?_
        refine gSh (v := .int ((S_51 (5 + a1.toNatClampNeg)).1 1)) hx hb hts hiX1 hown hw (isSh_of b39) rfl 1 (by decide) (hts (.fieldLink RX4 250 "SecondHome$Sheet" "size" "I") (by decide +kernel)) rfl dX4_film_90 ?_
        exact rI hQ hx hb hr hlk hw dX4_film_93 (o_2a h) (o_2b h) rfl
      · replace h := o_f c58 h
        refine lv_aload hx hb dX4_film_61 (lv_at hl 1 rfl) ?_
        refine lv_iload hx hb dX4_film_63 (lv_at hl 3 rfl) ?_
        refine lv_aload hx hb dX4_film_65 (lv_at hl 2 rfl) ?_
        refine gTk (v := .ref (sA G 2 6)) hx hb hts hiX3 hown hw (Or.inr (Or.inl rfl)) rfl 11 (by decide) (hts (.fieldLink RX4 91 "SecondHome$Track" "yards" "[I") (by decide +kernel)) rfl dX4_film_67 ?_
        refine lv_iload_n hx hb dX4_film_70 rfl (lv_at hl 0 rfl) ?_
        obtain ⟨b71, h⟩ := o_in h
        refine ldTk hx hb hw (Or.inr (Or.inl rfl)) rfl 5 (by decide) b71 dX4_film_71 ?_
        refine lv_i2l hx hb dX4_film_72 rfl ?_
        obtain ⟨q73, eq73, h⟩ := o_bd h
        refine kV (As := [.int x6_51, .long (((S_51 2).2.1 5 a2.toNatClampNeg).toInt64)]) (rest := []) (st' := []) ⟨hx, hb, hml, hown, hts⟩ (kX1_put l G (isSh_of b39) rfl eq73) (cwV 2 hts gX4_film_X1_put rfl rfl rfl qqX1_put ⟨Nat.le_of_ble_eq_true rfl, Nat.le_of_ble_eq_true rfl⟩) hw (rvSh hw (isSh_of b39)) rfl hl.1 rfl (Nat.le_of_ble_eq_true rfl) dX4_film_73 ⟨Nat.zero_le _, Nat.zero_le _⟩ rfl (fun H locs hw => ?_)
        obtain ⟨S73, eS73, h⟩ := o_nm h
        rw [← eS73] at hw
        refine lv_aload hx hb dX4_film_76 (lv_at hl 2 rfl) ?_
        refine lv_iconst (v := 1) hx hb dX4_film_78 (by decide) ?_
        obtain ⟨q79, eq79, h⟩ := o_bd h
        refine kV (As := [.int (1 : Int32)]) (rest := []) (st' := []) ⟨hx, hb, hml, hown, hts⟩ (kX3_goOn l G (Or.inr (Or.inl rfl)) rfl eq79) (cwV 1 hts gX4_film_X3_goOn rfl rfl rfl qqX3_goOn ⟨Nat.le_of_ble_eq_true rfl, Nat.le_of_ble_eq_true rfl⟩) hw (rvTk hw (Or.inr (Or.inl rfl))) rfl hl.1 rfl (Nat.le_of_ble_eq_true rfl) dX4_film_79 ⟨Nat.zero_le _, Nat.zero_le _⟩ rfl (fun H locs hw => ?_)
        obtain ⟨S79, eS79, h⟩ := o_nm h
        rw [← eS79] at hw
        obtain ⟨v82, ev82, h⟩ := o_nm h
        refine lv_iinc (v := v82) (lv' := [(6, .int v82), (2, .int a2), (4, .ref (sA G (5 + a1.toNatClampNeg) 0)), (5, .ref (sA G 2 0))]) hx hb dX4_film_82 hl (k := 3) rfl (by rw [ev82]; rfl) (by decide) rfl (fun ls hl => ?_)
        refine lv_goto (tgt := 51) hx hb dX4_film_85 (by decide) ?_
        exact IH51 v82 S79 h _ _ _ hw (lv_sub hl [1, 2, 3, 0] rfl)
    · replace h := o_t c24 h
      refine lv_aload_n hx hb dX4_film_27 rfl (lv_at hl 1 rfl) ?_
      refine lv_ldc (v := -1000000001) hx hb hown (hts (.constant RX4 50 (-1000000001)) (by decide +kernel)) dX4_film_28 ?_
      obtain ⟨q30, eq30, h⟩ := o_bd h
      refine kV (As := [.int (-1000000001 : Int32)]) (rest := []) (st' := [.int q30.1]) ⟨hx, hb, hml, hown, hts⟩ (kX4_found l G eq30) (cwV 1 hts gX4_film_X4_found rfl rfl rfl qqX4_found ⟨Nat.le_of_ble_eq_true rfl, Nat.le_of_ble_eq_true rfl⟩) hw (rvOw hw) rfl hl.1 rfl (Nat.le_of_ble_eq_true rfl) dX4_film_30 ⟨Nat.zero_le _, Nat.zero_le _⟩ rfl (fun H locs hw => ?_)
      exact rI hQ hx hb hr hlk hw dX4_film_33 (o_2a h) (o_2b h) rfl
  · replace h := o_f c7 h
    refine lv_aload_n hx hb dX4_film_10 rfl (lv_at hl 1 rfl) ?_
    refine lv_iload_n hx hb dX4_film_11 rfl (lv_at hl 0 rfl) ?_
    obtain ⟨q12, eq12, h⟩ := o_bd h
    refine kV (As := [.int q2]) (rest := []) (st' := [.int q12.1]) ⟨hx, hb, hml, hown, hts⟩ (kX4_found l G eq12) (cwV 1 hts gX4_film_X4_found rfl rfl rfl qqX4_found ⟨Nat.le_of_ble_eq_true rfl, Nat.le_of_ble_eq_true rfl⟩) hw (rvOw hw) rfl hl.1 rfl (Nat.le_of_ble_eq_true rfl) dX4_film_12 ⟨Nat.zero_le _, Nat.zero_le _⟩ rfl (fun H locs hw => ?_)
    exact rI hQ hx hb hr hlk hw dX4_film_15 (o_2a h) (o_2b h) rfl
-- X4_allFitting
def bX4_allFitting_33 (j : Nat) (x4_17 : Int32) (S_17 : sWo) (k76 : Int32 → Option (Int32 × sWo)) (rc33 : Int32 → Int32 → Option (Int32 × sWo)) (x3_33 : Int32) (x5_33 : Int32) : Option (Int32 × sWo) :=
  if ((S_17 2).1 4) ≤ x5_33 then (k76 x3_33) else (if x5_33 < 0 ∨ 9 ≤ x5_33.toNatClampNeg then none else if x4_17 < 0 ∨ 40 ≤ x4_17.toNatClampNeg then none else if (lg_cmp (((S_17 2).2.1 5 x5_33.toNatClampNeg).toInt64) ((S_17 j).2.2 x4_17.toNatClampNeg)) = 0 then (nm (x5_33 + (1 : Int32)) fun v70 => rc33 x3_33 v70) else (nm (x3_33 &&& (((1 : Int32) <<< (x5_33 &&& 31)) ^^^ (-1 : Int32))) fun v69 => nm (x5_33 + (1 : Int32)) fun v70 => rc33 v69 v70))
def bX4_allFitting_17 (j : Nat) (rc17 : Int32 → Int32 → sWo → Option (Int32 × sWo)) (x3_17 : Int32) (x4_17 : Int32) (S_17 : sWo) : Option (Int32 × sWo) :=
  if ((S_17 j).1 1) ≤ x4_17 then (some (x3_17, S_17)) else (if x3_17 = 0 then (some (x3_17, S_17)) else (nm (fun (x3_76 : Int32) => (fX3_goOn (S_17 2) (1 : Int32)).bind fun q78 => nm (sUp S_17 2 q78) fun S78 => nm (x4_17 + (1 : Int32)) fun v81 => rc17 x3_76 v81 S78) fun k76 => fx2 (bX4_allFitting_33 j x4_17 S_17 k76) FU x3_17 (0 : Int32)))
def fX4_allFitting (S : sWo) (j : Nat) : Option (Int32 × sWo) :=
  (fX4_tryOut S).bind fun q1 => nm (((1 : Int32) <<< (((q1 2).1 4) &&& 31)) - (1 : Int32)) fun v13 => fx3 (bX4_allFitting_17 j) FU v13 (0 : Int32) q1
def rmX4_allFitting : Room := { frames := 5, cells := 0, slots := 0, locals := 112 }
theorem qqX4_allFitting : yX4_allFitting.cls = RX4 ∧ yX4_allFitting.cls ≠ "java/lang/invoke/MethodHandle" ∧ yX4_allFitting.cls ≠ "java/lang/invoke/VarHandle" ∧ (parseMethodDescriptor yX4_allFitting.desc).map (fun d => d.parameters.length) = some 1 := by decide +kernel
set_option maxRecDepth 100000 in
set_option maxHeartbeats 4000000 in
theorem kX4_allFitting (l : Launch) (G : sGl) {S : sWo} {M : sOb} {j : Nat} {q : (Int32 × sWo)} (hj : isSh j) (h : fX4_allFitting S j = some q) : sCt l G yX4_allFitting wsX4_allFitting rmX4_allFitting [.ref (sA G 0 0), .ref (sA G j 0)] S M (some (.int q.1)) q.2 M := by
  refine cMk (cc := cX4_allFitting) (maxL := 6) (ret := (some .int)) (by decide) rfl (Nat.le_of_ble_eq_true rfl) ?_
  intro p e s m args below meth c Q hQ hx hb hr hlk hml hown hts hw ls hl
  have hown : s.vm.findClass RX4 = some m.cls := hown
  have hl : lv_has ls 6 [(0, .ref (sA G 0 0)), (1, .ref (sA G j 0))] := hl
  have hiX1 : ∀ w ∈ u_ws RX1 TX1 3, w ∈ wsX4_allFitting := by decide +kernel
  have hiX3 : ∀ w ∈ u_ws RX3 TX3 15, w ∈ wsX4_allFitting := by decide +kernel
  unfold fX4_allFitting at h
  refine lv_aload_n hx hb dX4_allFitting_0 rfl (lv_at hl 0 rfl) ?_
  obtain ⟨q1, eq1, h⟩ := o_bd h
  refine kV (As := []) (rest := []) (st' := [.ref (sA G 2 0)]) ⟨hx, hb, hml, hown, hts⟩ (kX4_tryOut l G eq1) (cwV 0 hts gX4_allFitting_X4_tryOut rfl rfl rfl qqX4_tryOut ⟨Nat.le_of_ble_eq_true rfl, Nat.le_of_ble_eq_true rfl⟩) hw (rvOw hw) rfl hl.1 rfl (Nat.le_of_ble_eq_true rfl) dX4_allFitting_1 ⟨Nat.zero_le _, Nat.zero_le _⟩ rfl (fun H locs hw => ?_)
  refine lv_astore_n (lv' := [(2, .ref (sA G 2 0)), (0, .ref (sA G 0 0)), (1, .ref (sA G j 0))]) hx hb dX4_allFitting_4 rfl hl (by decide) rfl (fun ls hl => ?_)
  refine lv_iconst (v := 1) hx hb dX4_allFitting_5 (by decide) ?_
  refine lv_aload_n hx hb dX4_allFitting_6 rfl (lv_at hl 0 rfl) ?_
  refine gTk (v := .int ((q1 2).1 4)) hx hb hts hiX3 hown hw (Or.inr (Or.inl rfl)) rfl 4 (by decide) (hts (.fieldLink RX4 64 "SecondHome$Track" "count" "I") (by decide +kernel)) rfl dX4_allFitting_7 ?_
  refine lv_ishl hx hb dX4_allFitting_10 ?_
  refine lv_iconst (v := 1) hx hb dX4_allFitting_11 (by decide) ?_
  refine lv_isub hx hb dX4_allFitting_12 ?_
  refine lv_topi (fun v13 ev13 => ?_)
  replace h := o_nx ev13 h
  refine lv_istore_n (lv' := [(3, .int v13), (2, .ref (sA G 2 0)), (0, .ref (sA G 0 0)), (1, .ref (sA G j 0))]) hx hb dX4_allFitting_13 rfl hl (by decide) rfl (fun ls hl => ?_)
  refine lv_iconst (v := 0) hx hb dX4_allFitting_14 (by decide) ?_
  refine lv_istore (lv' := [(4, .int (0 : Int32)), (3, .int v13), (2, .ref (sA G 2 0)), (0, .ref (sA G 0 0)), (1, .ref (sA G j 0))]) hx hb dX4_allFitting_15 hl (by decide) rfl (fun ls hl => ?_)
  refine fx3_w (F := (bX4_allFitting_17 j)) (P := fun x3_17 x4_17 S_17 => ∀ (H : Heap) (locs : List Loc) (ls : Array Slot), sHw G s S_17 M H locs → lv_has ls 6 [(1, .ref (sA G j 0)), (2, .ref (sA G 2 0)), (3, .int x3_17), (4, .int x4_17)] → W p l e rmX4_allFitting s m args below meth c H locs 0 0 Q (F0 m 17 ls [])) ?_ _ _ _ _ h _ _ _ hw (lv_sub hl [4, 2, 1, 0] rfl)
  intro rc17 IH17 x3_17 x4_17 S_17 h H locs ls hw hl
  unfold bX4_allFitting_17 at h
  refine lv_iload hx hb dX4_allFitting_17 (lv_at hl 3 rfl) ?_
  refine lv_aload_n hx hb dX4_allFitting_19 rfl (lv_at hl 0 rfl) ?_
  refine gSh (v := .int ((S_17 j).1 1)) hx hb hts hiX1 hown hw hj rfl 1 (by decide) (hts (.fieldLink RX4 250 "SecondHome$Sheet" "size" "I") (by decide +kernel)) rfl dX4_allFitting_20 ?_
  refine lv_icmp_ge (tgt := 87) hx hb dX4_allFitting_23 (by decide) (fun c23 => ?_) (fun c23 => ?_)
  · replace h := o_t c23 h
    refine lv_iload_n hx hb dX4_allFitting_87 rfl (lv_at hl 2 rfl) ?_
    exact rI hQ hx hb hr hlk hw dX4_allFitting_88 (o_2a h) (o_2b h) rfl
  · replace h := o_f c23 h
    refine lv_iload_n hx hb dX4_allFitting_26 rfl (lv_at hl 2 rfl) ?_
    refine lv_if_eq (tgt := 87) hx hb dX4_allFitting_27 (by decide) (fun c27 => ?_) (fun c27 => ?_)
    · replace h := o_t c27 h
      refine lv_iload_n hx hb dX4_allFitting_87 rfl (lv_at hl 2 rfl) ?_
      exact rI hQ hx hb hr hlk hw dX4_allFitting_88 (o_2a h) (o_2b h) rfl
    · replace h := o_f c27 h
      refine lv_iconst (v := 0) hx hb dX4_allFitting_30 (by decide) ?_
      refine lv_istore (lv' := [(5, .int (0 : Int32)), (1, .ref (sA G j 0)), (2, .ref (sA G 2 0)), (3, .int x3_17), (4, .int x4_17)]) hx hb dX4_allFitting_31 hl (by decide) rfl (fun ls hl => ?_)
      obtain ⟨k76, ek76, h⟩ := o_nm h
      have J76 : ∀ (x3_76 : Int32) (H : Heap) (locs : List Loc) (ls : Array Slot), sHw G s S_17 M H locs → lv_has ls 6 [(1, .ref (sA G j 0)), (2, .ref (sA G 2 0)), (3, .int x3_76), (4, .int x4_17)] → k76 x3_76 = some q → W p l e rmX4_allFitting s m args below meth c H locs 0 0 Q (F0 m 76 ls []) := by
        intro x3_76 H locs ls hw hl h
        replace h := o_j1 ek76 h
        refine lv_aload_n hx hb dX4_allFitting_76 rfl (lv_at hl 1 rfl) ?_
        refine lv_iconst (v := 1) hx hb dX4_allFitting_77 (by decide) ?_
        obtain ⟨q78, eq78, h⟩ := o_bd h
        refine kV (As := [.int (1 : Int32)]) (rest := []) (st' := []) ⟨hx, hb, hml, hown, hts⟩ (kX3_goOn l G (Or.inr (Or.inl rfl)) rfl eq78) (cwV 1 hts gX4_allFitting_X3_goOn rfl rfl rfl qqX3_goOn ⟨Nat.le_of_ble_eq_true rfl, Nat.le_of_ble_eq_true rfl⟩) hw (rvTk hw (Or.inr (Or.inl rfl))) rfl hl.1 rfl (Nat.le_of_ble_eq_true rfl) dX4_allFitting_78 ⟨Nat.zero_le _, Nat.zero_le _⟩ rfl (fun H locs hw => ?_)
        obtain ⟨S78, eS78, h⟩ := o_nm h
        rw [← eS78] at hw
        obtain ⟨v81, ev81, h⟩ := o_nm h
        refine lv_iinc (v := v81) (lv' := [(4, .int v81), (1, .ref (sA G j 0)), (2, .ref (sA G 2 0)), (3, .int x3_76)]) hx hb dX4_allFitting_81 hl (k := 3) rfl (by rw [ev81]; rfl) (by decide) rfl (fun ls hl => ?_)
        refine lv_goto (tgt := 17) hx hb dX4_allFitting_84 (by decide) ?_
        exact IH17 x3_76 v81 S78 h _ _ _ hw (lv_sub hl [1, 2, 3, 0] rfl)
      refine fx2_w (F := (bX4_allFitting_33 j x4_17 S_17 k76)) (P := fun x3_33 x5_33 => ∀ (H : Heap) (locs : List Loc) (ls : Array Slot), sHw G s S_17 M H locs → lv_has ls 6 [(1, .ref (sA G j 0)), (2, .ref (sA G 2 0)), (3, .int x3_33), (4, .int x4_17), (5, .int x5_33)] → W p l e rmX4_allFitting s m args below meth c H locs 0 0 Q (F0 m 33 ls [])) ?_ _ _ _ h _ _ _ hw (lv_sub hl [1, 2, 3, 4, 0] rfl)
      intro rc33 IH33 x3_33 x5_33 h H locs ls hw hl
      unfold bX4_allFitting_33 at h
      refine lv_iload hx hb dX4_allFitting_33 (lv_at hl 4 rfl) ?_
      refine lv_aload_n hx hb dX4_allFitting_35 rfl (lv_at hl 1 rfl) ?_
      refine gTk (v := .int ((S_17 2).1 4)) hx hb hts hiX3 hown hw (Or.inr (Or.inl rfl)) rfl 4 (by decide) (hts (.fieldLink RX4 64 "SecondHome$Track" "count" "I") (by decide +kernel)) rfl dX4_allFitting_36 ?_
      refine lv_icmp_ge (tgt := 76) hx hb dX4_allFitting_39 (by decide) (fun c39 => ?_) (fun c39 => ?_)
      · replace h := o_t c39 h
        exact J76 x3_33 _ _ _ hw (lv_sub hl [0, 1, 2, 3] rfl) h
      · replace h := o_f c39 h
        refine lv_aload_n hx hb dX4_allFitting_42 rfl (lv_at hl 1 rfl) ?_
        refine gTk (v := .ref (sA G 2 6)) hx hb hts hiX3 hown hw (Or.inr (Or.inl rfl)) rfl 11 (by decide) (hts (.fieldLink RX4 91 "SecondHome$Track" "yards" "[I") (by decide +kernel)) rfl dX4_allFitting_43 ?_
        refine lv_iload hx hb dX4_allFitting_46 (lv_at hl 4 rfl) ?_
        obtain ⟨b48, h⟩ := o_in h
        refine ldTk hx hb hw (Or.inr (Or.inl rfl)) rfl 5 (by decide) b48 dX4_allFitting_48 ?_
        refine lv_i2l hx hb dX4_allFitting_49 rfl ?_
        refine lv_aload_n hx hb dX4_allFitting_50 rfl (lv_at hl 0 rfl) ?_
        refine gSh (v := .ref (sA G j 1)) hx hb hts hiX1 hown hw hj rfl 2 (by decide) (hts (.fieldLink RX4 226 "SecondHome$Sheet" "numbers" "[J") (by decide +kernel)) rfl dX4_allFitting_51 ?_
        refine lv_iload hx hb dX4_allFitting_54 (lv_at hl 3 rfl) ?_
        obtain ⟨b56, h⟩ := o_in h
        refine ldSh hx hb hw hj rfl b56 dX4_allFitting_56 ?_
        refine W.lcmp hx hb dX4_allFitting_57 ?_
        refine lv_if_eq (tgt := 70) hx hb dX4_allFitting_58 (by decide) (fun c58 => ?_) (fun c58 => ?_)
        · replace h := o_t c58 h
          obtain ⟨v70, ev70, h⟩ := o_nm h
          refine lv_iinc (v := v70) (lv' := [(5, .int v70), (1, .ref (sA G j 0)), (2, .ref (sA G 2 0)), (3, .int x3_33), (4, .int x4_17)]) hx hb dX4_allFitting_70 hl (k := 4) rfl (by rw [ev70]; rfl) (by decide) rfl (fun ls hl => ?_)
          refine lv_goto (tgt := 33) hx hb dX4_allFitting_73 (by decide) ?_
          exact IH33 x3_33 v70 h _ _ _ hw (lv_sub hl [1, 2, 3, 4, 0] rfl)
        · replace h := o_f c58 h
          refine lv_iload_n hx hb dX4_allFitting_61 rfl (lv_at hl 2 rfl) ?_
          refine lv_iconst (v := 1) hx hb dX4_allFitting_62 (by decide) ?_
          refine lv_iload hx hb dX4_allFitting_63 (lv_at hl 4 rfl) ?_
          refine lv_ishl hx hb dX4_allFitting_65 ?_
          refine lv_iconst (v := -1) hx hb dX4_allFitting_66 (by decide) ?_
          refine lv_ixor hx hb dX4_allFitting_67 ?_
          refine lv_iand hx hb dX4_allFitting_68 ?_
          refine lv_topi (fun v69 ev69 => ?_)
          replace h := o_nx ev69 h
          refine lv_istore_n (lv' := [(3, .int v69), (1, .ref (sA G j 0)), (2, .ref (sA G 2 0)), (4, .int x4_17), (5, .int x5_33)]) hx hb dX4_allFitting_69 rfl hl (by decide) rfl (fun ls hl => ?_)
          obtain ⟨v70, ev70, h⟩ := o_nm h
          refine lv_iinc (v := v70) (lv' := [(5, .int v70), (3, .int v69), (1, .ref (sA G j 0)), (2, .ref (sA G 2 0)), (4, .int x4_17)]) hx hb dX4_allFitting_70 hl (k := 4) rfl (by rw [ev70]; rfl) (by decide) rfl (fun ls hl => ?_)
          refine lv_goto (tgt := 33) hx hb dX4_allFitting_73 (by decide) ?_
          exact IH33 v69 v70 h _ _ _ hw (lv_sub hl [2, 3, 1, 4, 0] rfl)
-- X4_read
def bX4_read_30 (q23 : Int32 × sWo) (rc30 : Int32 → Option (Int32 × sWo)) (x4_30 : Int32) : Option (Int32 × sWo) :=
  if ((q23.2 1).1 4) ≤ x4_30 then ((fX4_found q23.2 (-1000000004 : Int32)).bind fun q63 => some (q63.1, q63.2)) else (if (q23.1 &&& ((1 : Int32) <<< (x4_30 &&& 31))) = 0 then (nm (x4_30 + (1 : Int32)) fun v54 => rc30 v54) else (some (x4_30, q23.2)))
def fX4_read (S : sWo) (a1 : Int32) : Option (Int32 × sWo) :=
  (fX4_sheetRefusal S a1).bind fun q2 => if q2 = 0 then (if a1 < 0 ∨ 4 ≤ a1.toNatClampNeg then none else (fX4_allFitting S (5 + a1.toNatClampNeg)).bind fun q23 => fx1 (bX4_read_30 q23) FU (0 : Int32)) else ((fX4_found S q2).bind fun q12 => some (q12.1, q12.2))
def rmX4_read : Room := { frames := 6, cells := 0, slots := 0, locals := 137 }
theorem qqX4_read : yX4_read.cls = RX4 ∧ yX4_read.cls ≠ "java/lang/invoke/MethodHandle" ∧ yX4_read.cls ≠ "java/lang/invoke/VarHandle" ∧ (parseMethodDescriptor yX4_read.desc).map (fun d => d.parameters.length) = some 1 := by decide +kernel
set_option maxRecDepth 100000 in
set_option maxHeartbeats 4000000 in
theorem kX4_read (l : Launch) (G : sGl) {S : sWo} {M : sOb} {a1 : Int32} {q : (Int32 × sWo)}  (h : fX4_read S a1 = some q) : sCt l G yX4_read wsX4_read rmX4_read [.ref (sA G 0 0), .int a1] S M (some (.int q.1)) q.2 M := by
  refine cMk (cc := cX4_read) (maxL := 5) (ret := (some .int)) (by decide) rfl (Nat.le_of_ble_eq_true rfl) ?_
  intro p e s m args below meth c Q hQ hx hb hr hlk hml hown hts hw ls hl
  have hown : s.vm.findClass RX4 = some m.cls := hown
  have hl : lv_has ls 5 [(0, .ref (sA G 0 0)), (1, .int a1)] := hl
  have hiX3 : ∀ w ∈ u_ws RX3 TX3 15, w ∈ wsX4_read := by decide +kernel
  have hiX4 : ∀ w ∈ u_ws RX4 TX4 7, w ∈ wsX4_read := by decide +kernel
  unfold fX4_read at h
  refine lv_aload_n hx hb dX4_read_0 rfl (lv_at hl 0 rfl) ?_
  refine lv_iload_n hx hb dX4_read_1 rfl (lv_at hl 1 rfl) ?_
  obtain ⟨q2, eq2, h⟩ := o_bd h
  refine kV (As := [.int a1]) (rest := []) (st' := [.int q2]) ⟨hx, hb, hml, hown, hts⟩ (kX4_sheetRefusal l G eq2) (cwV 1 hts gX4_read_X4_sheetRefusal rfl rfl rfl qqX4_sheetRefusal ⟨Nat.le_of_ble_eq_true rfl, Nat.le_of_ble_eq_true rfl⟩) hw (rvOw hw) rfl hl.1 rfl (Nat.le_of_ble_eq_true rfl) dX4_read_2 ⟨Nat.zero_le _, Nat.zero_le _⟩ rfl (fun H locs hw => ?_)
  refine lv_istore_n (lv' := [(2, .int q2), (0, .ref (sA G 0 0)), (1, .int a1)]) hx hb dX4_read_5 rfl hl (by decide) rfl (fun ls hl => ?_)
  refine lv_iload_n hx hb dX4_read_6 rfl (lv_at hl 0 rfl) ?_
  refine lv_if_eq (tgt := 16) hx hb dX4_read_7 (by decide) (fun c7 => ?_) (fun c7 => ?_)
  · replace h := o_t c7 h
    refine lv_aload_n hx hb dX4_read_16 rfl (lv_at hl 1 rfl) ?_
    refine lv_aload_n hx hb dX4_read_17 rfl (lv_at hl 1 rfl) ?_
    refine gOw (v := .ref (sA G 0 2)) hx hb hts hiX4 hown hw 5 (by decide) (hts (.fieldLink RX4 31 "SecondHome" "sheets" "[LSecondHome$Sheet;") (by decide +kernel)) rfl dX4_read_18 ?_
    refine lv_iload_n hx hb dX4_read_21 rfl (lv_at hl 2 rfl) ?_
    obtain ⟨b22, h⟩ := o_in h
    refine aaOw hx hb hw b22 dX4_read_22 ?_
    obtain ⟨q23, eq23, h⟩ := o_bd h
    refine kV (As := [.ref (sA G (5 + a1.toNatClampNeg) 0)]) (rest := []) (st' := [.int q23.1]) ⟨hx, hb, hml, hown, hts⟩ (kX4_allFitting l G (isSh_of b22) eq23) (cwV 1 hts gX4_read_X4_allFitting rfl rfl rfl qqX4_allFitting ⟨Nat.le_of_ble_eq_true rfl, Nat.le_of_ble_eq_true rfl⟩) hw (rvOw hw) rfl hl.1 rfl (Nat.le_of_ble_eq_true rfl) dX4_read_23 ⟨Nat.zero_le _, Nat.zero_le _⟩ rfl (fun H locs hw => ?_)
    refine lv_istore_n (lv' := [(3, .int q23.1), (2, .int q2), (0, .ref (sA G 0 0)), (1, .int a1)]) hx hb dX4_read_26 rfl hl (by decide) rfl (fun ls hl => ?_)
    refine lv_iconst (v := 0) hx hb dX4_read_27 (by decide) ?_
    refine lv_istore (lv' := [(4, .int (0 : Int32)), (3, .int q23.1), (2, .int q2), (0, .ref (sA G 0 0)), (1, .int a1)]) hx hb dX4_read_28 hl (by decide) rfl (fun ls hl => ?_)
    refine fx1_w (F := (bX4_read_30 q23)) (P := fun x4_30 => ∀ (H : Heap) (locs : List Loc) (ls : Array Slot), sHw G s q23.2 M H locs → lv_has ls 5 [(0, .ref (sA G 0 0)), (3, .int q23.1), (4, .int x4_30)] → W p l e rmX4_read s m args below meth c H locs 0 0 Q (F0 m 30 ls [])) ?_ _ _ h _ _ _ hw (lv_sub hl [3, 1, 0] rfl)
    intro rc30 IH30 x4_30 h H locs ls hw hl
    unfold bX4_read_30 at h
    refine lv_iload hx hb dX4_read_30 (lv_at hl 2 rfl) ?_
    refine lv_aload_n hx hb dX4_read_32 rfl (lv_at hl 0 rfl) ?_
    refine gOw (v := .ref (sA G 1 0)) hx hb hts hiX4 hown hw 0 (by decide) (hts (.fieldLink RX4 10 "SecondHome" "track" "LSecondHome$Track;") (by decide +kernel)) rfl dX4_read_33 ?_
    refine gTk (v := .int ((q23.2 1).1 4)) hx hb hts hiX3 hown hw (Or.inl rfl) rfl 4 (by decide) (hts (.fieldLink RX4 64 "SecondHome$Track" "count" "I") (by decide +kernel)) rfl dX4_read_36 ?_
    refine lv_icmp_ge (tgt := 60) hx hb dX4_read_39 (by decide) (fun c39 => ?_) (fun c39 => ?_)
    · replace h := o_t c39 h
      refine lv_aload_n hx hb dX4_read_60 rfl (lv_at hl 0 rfl) ?_
      refine lv_ldc (v := -1000000004) hx hb hown (hts (.constant RX4 178 (-1000000004)) (by decide +kernel)) dX4_read_61 ?_
      obtain ⟨q63, eq63, h⟩ := o_bd h
      refine kV (As := [.int (-1000000004 : Int32)]) (rest := []) (st' := [.int q63.1]) ⟨hx, hb, hml, hown, hts⟩ (kX4_found l G eq63) (cwV 1 hts gX4_read_X4_found rfl rfl rfl qqX4_found ⟨Nat.le_of_ble_eq_true rfl, Nat.le_of_ble_eq_true rfl⟩) hw (rvOw hw) rfl hl.1 rfl (Nat.le_of_ble_eq_true rfl) dX4_read_63 ⟨Nat.zero_le _, Nat.zero_le _⟩ rfl (fun H locs hw => ?_)
      exact rI hQ hx hb hr hlk hw dX4_read_66 (o_2a h) (o_2b h) rfl
    · replace h := o_f c39 h
      refine lv_iload_n hx hb dX4_read_42 rfl (lv_at hl 1 rfl) ?_
      refine lv_iconst (v := 1) hx hb dX4_read_43 (by decide) ?_
      refine lv_iload hx hb dX4_read_44 (lv_at hl 2 rfl) ?_
      refine lv_ishl hx hb dX4_read_46 ?_
      refine lv_iand hx hb dX4_read_47 ?_
      refine lv_if_eq (tgt := 54) hx hb dX4_read_48 (by decide) (fun c48 => ?_) (fun c48 => ?_)
      · replace h := o_t c48 h
        obtain ⟨v54, ev54, h⟩ := o_nm h
        refine lv_iinc (v := v54) (lv' := [(4, .int v54), (0, .ref (sA G 0 0)), (3, .int q23.1)]) hx hb dX4_read_54 hl (k := 2) rfl (by rw [ev54]; rfl) (by decide) rfl (fun ls hl => ?_)
        refine lv_goto (tgt := 30) hx hb dX4_read_57 (by decide) ?_
        exact IH30 v54 h _ _ _ hw (lv_sub hl [1, 2, 0] rfl)
      · replace h := o_f c48 h
        refine lv_iload hx hb dX4_read_51 (lv_at hl 2 rfl) ?_
        exact rI hQ hx hb hr hlk hw dX4_read_53 (o_2a h) (o_2b h) rfl
  · replace h := o_f c7 h
    refine lv_aload_n hx hb dX4_read_10 rfl (lv_at hl 1 rfl) ?_
    refine lv_iload_n hx hb dX4_read_11 rfl (lv_at hl 0 rfl) ?_
    obtain ⟨q12, eq12, h⟩ := o_bd h
    refine kV (As := [.int q2]) (rest := []) (st' := [.int q12.1]) ⟨hx, hb, hml, hown, hts⟩ (kX4_found l G eq12) (cwV 1 hts gX4_read_X4_found rfl rfl rfl qqX4_found ⟨Nat.le_of_ble_eq_true rfl, Nat.le_of_ble_eq_true rfl⟩) hw (rvOw hw) rfl hl.1 rfl (Nat.le_of_ble_eq_true rfl) dX4_read_12 ⟨Nat.zero_le _, Nat.zero_le _⟩ rfl (fun H locs hw => ?_)
    exact rI hQ hx hb hr hlk hw dX4_read_15 (o_2a h) (o_2b h) rfl
-- X4_image
def fX4_image (S : sWo) : Option (Int32 × sWo) :=
  (fX3_takeOver (S 3) (S 1)).bind fun q8 => nm (sUp S 3 q8) fun S8 => nm (sUp S8 0 (sSs (S8 0) 0 (1 : Int32))) fun S13 => some ((1 : Int32), S13)
def rmX4_image : Room := { frames := 1, cells := 0, slots := 0, locals := 22 }
theorem qqX4_image : yX4_image.cls = RX4 ∧ yX4_image.cls ≠ "java/lang/invoke/MethodHandle" ∧ yX4_image.cls ≠ "java/lang/invoke/VarHandle" ∧ (parseMethodDescriptor yX4_image.desc).map (fun d => d.parameters.length) = some 0 := by decide +kernel
set_option maxRecDepth 100000 in
set_option maxHeartbeats 4000000 in
theorem kX4_image (l : Launch) (G : sGl) {S : sWo} {M : sOb}  {q : (Int32 × sWo)}  (h : fX4_image S = some q) : sCt l G yX4_image wsX4_image rmX4_image [.ref (sA G 0 0)] S M (some (.int q.1)) q.2 M := by
  refine cMk (cc := cX4_image) (maxL := 1) (ret := (some .int)) (by decide) rfl (Nat.le_of_ble_eq_true rfl) ?_
  intro p e s m args below meth c Q hQ hx hb hr hlk hml hown hts hw ls hl
  have hown : s.vm.findClass RX4 = some m.cls := hown
  have hl : lv_has ls 1 [(0, .ref (sA G 0 0))] := hl
  have hiX4 : ∀ w ∈ u_ws RX4 TX4 7, w ∈ wsX4_image := by decide +kernel
  unfold fX4_image at h
  refine lv_aload_n hx hb dX4_image_0 rfl (lv_at hl 0 rfl) ?_
  refine gOw (v := .ref (sA G 3 0)) hx hb hts hiX4 hown hw 2 (by decide) (hts (.fieldLink RX4 19 "SecondHome" "kept" "LSecondHome$Track;") (by decide +kernel)) rfl dX4_image_1 ?_
  refine lv_aload_n hx hb dX4_image_4 rfl (lv_at hl 0 rfl) ?_
  refine gOw (v := .ref (sA G 1 0)) hx hb hts hiX4 hown hw 0 (by decide) (hts (.fieldLink RX4 10 "SecondHome" "track" "LSecondHome$Track;") (by decide +kernel)) rfl dX4_image_5 ?_
  obtain ⟨q8, eq8, h⟩ := o_bd h
  refine kV (As := [.ref (sA G 1 0)]) (rest := []) (st' := []) ⟨hx, hb, hml, hown, hts⟩ (kX3_takeOver l G (Or.inr (Or.inr rfl)) (Or.inl rfl) (by decide) rfl rfl eq8) (cwV 1 hts gX4_image_X3_takeOver rfl rfl rfl qqX3_takeOver ⟨Nat.le_of_ble_eq_true rfl, Nat.le_of_ble_eq_true rfl⟩) hw (rvTk hw (Or.inr (Or.inr rfl))) rfl hl.1 rfl (Nat.le_of_ble_eq_true rfl) dX4_image_8 ⟨Nat.zero_le _, Nat.zero_le _⟩ rfl (fun H locs hw => ?_)
  obtain ⟨S8, eS8, h⟩ := o_nm h
  rw [← eS8] at hw
  refine lv_aload_n hx hb dX4_image_11 rfl (lv_at hl 0 rfl) ?_
  refine lv_iconst (v := 1) hx hb dX4_image_12 (by decide) ?_
  refine pOw hx hb hts hiX4 hown hw (Or.inr rfl) (hts (.fieldLink RX4 257 "SecondHome" "hasKept" "Z") (by decide +kernel)) dX4_image_13 rfl (fun H locs hw => ?_)
  obtain ⟨S13, eS13, h⟩ := o_nm h
  rw [← eS13] at hw
  refine lv_iconst (v := 1) hx hb dX4_image_16 (by decide) ?_
  exact rI hQ hx hb hr hlk hw dX4_image_17 (o_2a h) (o_2b h) rfl
-- X4_undo
def fX4_undo (S : sWo) : Option (Int32 × sWo) :=
  if ((S 0).1 0) = 0 then ((fX4_found S (-1000000004 : Int32)).bind fun q10 => some (q10.1, q10.2)) else ((fX3_takeOver (S 1) (S 3)).bind fun q22 => nm (sUp S 1 q22) fun S22 => some (((S22 1).1 4), S22))
def rmX4_undo : Room := { frames := 1, cells := 0, slots := 0, locals := 22 }
theorem qqX4_undo : yX4_undo.cls = RX4 ∧ yX4_undo.cls ≠ "java/lang/invoke/MethodHandle" ∧ yX4_undo.cls ≠ "java/lang/invoke/VarHandle" ∧ (parseMethodDescriptor yX4_undo.desc).map (fun d => d.parameters.length) = some 0 := by decide +kernel
set_option maxRecDepth 100000 in
set_option maxHeartbeats 4000000 in
theorem kX4_undo (l : Launch) (G : sGl) {S : sWo} {M : sOb}  {q : (Int32 × sWo)}  (h : fX4_undo S = some q) : sCt l G yX4_undo wsX4_undo rmX4_undo [.ref (sA G 0 0)] S M (some (.int q.1)) q.2 M := by
  refine cMk (cc := cX4_undo) (maxL := 1) (ret := (some .int)) (by decide) rfl (Nat.le_of_ble_eq_true rfl) ?_
  intro p e s m args below meth c Q hQ hx hb hr hlk hml hown hts hw ls hl
  have hown : s.vm.findClass RX4 = some m.cls := hown
  have hl : lv_has ls 1 [(0, .ref (sA G 0 0))] := hl
  have hiX3 : ∀ w ∈ u_ws RX3 TX3 15, w ∈ wsX4_undo := by decide +kernel
  have hiX4 : ∀ w ∈ u_ws RX4 TX4 7, w ∈ wsX4_undo := by decide +kernel
  unfold fX4_undo at h
  refine lv_aload_n hx hb dX4_undo_0 rfl (lv_at hl 0 rfl) ?_
  refine gOw (v := .int ((S 0).1 0)) hx hb hts hiX4 hown hw 3 (by decide) (hts (.fieldLink RX4 257 "SecondHome" "hasKept" "Z") (by decide +kernel)) rfl dX4_undo_1 ?_
  refine lv_if_ne (tgt := 14) hx hb dX4_undo_4 (by decide) (fun c4 => ?_) (fun c4 => ?_)
  · replace h := o_f c4 h
    refine lv_aload_n hx hb dX4_undo_14 rfl (lv_at hl 0 rfl) ?_
    refine gOw (v := .ref (sA G 1 0)) hx hb hts hiX4 hown hw 0 (by decide) (hts (.fieldLink RX4 10 "SecondHome" "track" "LSecondHome$Track;") (by decide +kernel)) rfl dX4_undo_15 ?_
    refine lv_aload_n hx hb dX4_undo_18 rfl (lv_at hl 0 rfl) ?_
    refine gOw (v := .ref (sA G 3 0)) hx hb hts hiX4 hown hw 2 (by decide) (hts (.fieldLink RX4 19 "SecondHome" "kept" "LSecondHome$Track;") (by decide +kernel)) rfl dX4_undo_19 ?_
    obtain ⟨q22, eq22, h⟩ := o_bd h
    refine kV (As := [.ref (sA G 3 0)]) (rest := []) (st' := []) ⟨hx, hb, hml, hown, hts⟩ (kX3_takeOver l G (Or.inl rfl) (Or.inr (Or.inr rfl)) (by decide) rfl rfl eq22) (cwV 1 hts gX4_undo_X3_takeOver rfl rfl rfl qqX3_takeOver ⟨Nat.le_of_ble_eq_true rfl, Nat.le_of_ble_eq_true rfl⟩) hw (rvTk hw (Or.inl rfl)) rfl hl.1 rfl (Nat.le_of_ble_eq_true rfl) dX4_undo_22 ⟨Nat.zero_le _, Nat.zero_le _⟩ rfl (fun H locs hw => ?_)
    obtain ⟨S22, eS22, h⟩ := o_nm h
    rw [← eS22] at hw
    refine lv_aload_n hx hb dX4_undo_25 rfl (lv_at hl 0 rfl) ?_
    refine gOw (v := .ref (sA G 1 0)) hx hb hts hiX4 hown hw 0 (by decide) (hts (.fieldLink RX4 10 "SecondHome" "track" "LSecondHome$Track;") (by decide +kernel)) rfl dX4_undo_26 ?_
    refine gTk (v := .int ((S22 1).1 4)) hx hb hts hiX3 hown hw (Or.inl rfl) rfl 4 (by decide) (hts (.fieldLink RX4 64 "SecondHome$Track" "count" "I") (by decide +kernel)) rfl dX4_undo_29 ?_
    exact rI hQ hx hb hr hlk hw dX4_undo_32 (o_2a h) (o_2b h) rfl
  · replace h := o_t c4 h
    refine lv_aload_n hx hb dX4_undo_7 rfl (lv_at hl 0 rfl) ?_
    refine lv_ldc (v := -1000000004) hx hb hown (hts (.constant RX4 178 (-1000000004)) (by decide +kernel)) dX4_undo_8 ?_
    obtain ⟨q10, eq10, h⟩ := o_bd h
    refine kV (As := [.int (-1000000004 : Int32)]) (rest := []) (st' := [.int q10.1]) ⟨hx, hb, hml, hown, hts⟩ (kX4_found l G eq10) (cwV 1 hts gX4_undo_X4_found rfl rfl rfl qqX4_found ⟨Nat.le_of_ble_eq_true rfl, Nat.le_of_ble_eq_true rfl⟩) hw (rvOw hw) rfl hl.1 rfl (Nat.le_of_ble_eq_true rfl) dX4_undo_10 ⟨Nat.zero_le _, Nat.zero_le _⟩ rfl (fun H locs hw => ?_)
    exact rI hQ hx hb hr hlk hw dX4_undo_13 (o_2a h) (o_2b h) rfl
-- X4_tear
def fX4_tear (S : sWo) : Option (Int32 × sWo) :=
  if ((S 0).1 0) = 0 then (nm (sUp S 0 (sSs (S 0) 0 (0 : Int32))) fun S15 => some ((0 : Int32), S15)) else (nm (sUp S 0 (sSs (S 0) 0 (0 : Int32))) fun S15 => some ((1 : Int32), S15))
def rmX4_tear : Room := { frames := 0, cells := 0, slots := 0, locals := 0 }
theorem qqX4_tear : yX4_tear.cls = RX4 ∧ yX4_tear.cls ≠ "java/lang/invoke/MethodHandle" ∧ yX4_tear.cls ≠ "java/lang/invoke/VarHandle" ∧ (parseMethodDescriptor yX4_tear.desc).map (fun d => d.parameters.length) = some 0 := by decide +kernel
set_option maxRecDepth 100000 in
set_option maxHeartbeats 4000000 in
theorem kX4_tear (l : Launch) (G : sGl) {S : sWo} {M : sOb}  {q : (Int32 × sWo)}  (h : fX4_tear S = some q) : sCt l G yX4_tear wsX4_tear rmX4_tear [.ref (sA G 0 0)] S M (some (.int q.1)) q.2 M := by
  refine cMk (cc := cX4_tear) (maxL := 2) (ret := (some .int)) (by decide) rfl (Nat.le_of_ble_eq_true rfl) ?_
  intro p e s m args below meth c Q hQ hx hb hr hlk hml hown hts hw ls hl
  have hown : s.vm.findClass RX4 = some m.cls := hown
  have hl : lv_has ls 2 [(0, .ref (sA G 0 0))] := hl
  have hiX4 : ∀ w ∈ u_ws RX4 TX4 7, w ∈ wsX4_tear := by decide +kernel
  unfold fX4_tear at h
  refine lv_aload_n hx hb dX4_tear_0 rfl (lv_at hl 0 rfl) ?_
  refine gOw (v := .int ((S 0).1 0)) hx hb hts hiX4 hown hw 3 (by decide) (hts (.fieldLink RX4 257 "SecondHome" "hasKept" "Z") (by decide +kernel)) rfl dX4_tear_1 ?_
  refine lv_if_eq (tgt := 11) hx hb dX4_tear_4 (by decide) (fun c4 => ?_) (fun c4 => ?_)
  · replace h := o_t c4 h
    refine lv_iconst (v := 0) hx hb dX4_tear_11 (by decide) ?_
    refine lv_istore_n (lv' := [(1, .int (0 : Int32)), (0, .ref (sA G 0 0))]) hx hb dX4_tear_12 rfl hl (by decide) rfl (fun ls hl => ?_)
    refine lv_aload_n hx hb dX4_tear_13 rfl (lv_at hl 1 rfl) ?_
    refine lv_iconst (v := 0) hx hb dX4_tear_14 (by decide) ?_
    refine pOw hx hb hts hiX4 hown hw (Or.inl rfl) (hts (.fieldLink RX4 257 "SecondHome" "hasKept" "Z") (by decide +kernel)) dX4_tear_15 rfl (fun H locs hw => ?_)
    obtain ⟨S15, eS15, h⟩ := o_nm h
    rw [← eS15] at hw
    refine lv_iload_n hx hb dX4_tear_18 rfl (lv_at hl 0 rfl) ?_
    exact rI hQ hx hb hr hlk hw dX4_tear_19 (o_2a h) (o_2b h) rfl
  · replace h := o_f c4 h
    refine lv_iconst (v := 1) hx hb dX4_tear_7 (by decide) ?_
    refine lv_goto (tgt := 12) hx hb dX4_tear_8 (by decide) ?_
    refine lv_istore_n (lv' := [(1, .int (1 : Int32)), (0, .ref (sA G 0 0))]) hx hb dX4_tear_12 rfl hl (by decide) rfl (fun ls hl => ?_)
    refine lv_aload_n hx hb dX4_tear_13 rfl (lv_at hl 1 rfl) ?_
    refine lv_iconst (v := 0) hx hb dX4_tear_14 (by decide) ?_
    refine pOw hx hb hts hiX4 hown hw (Or.inl rfl) (hts (.fieldLink RX4 257 "SecondHome" "hasKept" "Z") (by decide +kernel)) dX4_tear_15 rfl (fun H locs hw => ?_)
    obtain ⟨S15, eS15, h⟩ := o_nm h
    rw [← eS15] at hw
    refine lv_iload_n hx hb dX4_tear_18 rfl (lv_at hl 0 rfl) ?_
    exact rI hQ hx hb hr hlk hw dX4_tear_19 (o_2a h) (o_2b h) rfl
-- X4_sum
def bX4_sum_4 (S : sWo) (k : Nat) (rc4 : Int32 → Int32 → Option Int32) (x2_4 : Int32) (x3_4 : Int32) : Option Int32 :=
  if ((S 1).1 4) ≤ x3_4 then (some x2_4) else (if (9 : Int32) ≤ x3_4 then (some x2_4) else (if x3_4 < 0 ∨ 9 ≤ x3_4.toNatClampNeg then none else nm (x2_4 + ((S 1).2.1 k x3_4.toNatClampNeg)) fun v26 => nm (x3_4 + (1 : Int32)) fun v27 => rc4 v26 v27))
def fX4_sum (S : sWo) (k : Nat) : Option Int32 :=
  fx2 (bX4_sum_4 S k) FU (0 : Int32) (0 : Int32)
def rmX4_sum : Room := { frames := 0, cells := 0, slots := 0, locals := 0 }
theorem qqX4_sum : yX4_sum.cls = RX4 ∧ yX4_sum.cls ≠ "java/lang/invoke/MethodHandle" ∧ yX4_sum.cls ≠ "java/lang/invoke/VarHandle" ∧ (parseMethodDescriptor yX4_sum.desc).map (fun d => d.parameters.length) = some 1 := by decide +kernel
set_option maxRecDepth 100000 in
set_option maxHeartbeats 4000000 in
theorem kX4_sum (l : Launch) (G : sGl) {S : sWo} {M : sOb} {k : Nat} {q : Int32} (hk : k < 9) (h : fX4_sum S k = some q) : sCt l G yX4_sum wsX4_sum rmX4_sum [.ref (sA G 0 0), .ref (sA G 1 (k + 1))] S M (some (.int q)) S M := by
  refine cMk (cc := cX4_sum) (maxL := 4) (ret := (some .int)) (by decide) rfl (Nat.le_of_ble_eq_true rfl) ?_
  intro p e s m args below meth c Q hQ hx hb hr hlk hml hown hts hw ls hl
  have hown : s.vm.findClass RX4 = some m.cls := hown
  have hl : lv_has ls 4 [(0, .ref (sA G 0 0)), (1, .ref (sA G 1 (k + 1)))] := hl
  have hiX3 : ∀ w ∈ u_ws RX3 TX3 15, w ∈ wsX4_sum := by decide +kernel
  have hiX4 : ∀ w ∈ u_ws RX4 TX4 7, w ∈ wsX4_sum := by decide +kernel
  unfold fX4_sum at h
  refine lv_iconst (v := 0) hx hb dX4_sum_0 (by decide) ?_
  refine lv_istore_n (lv' := [(2, .int (0 : Int32)), (0, .ref (sA G 0 0)), (1, .ref (sA G 1 (k + 1)))]) hx hb dX4_sum_1 rfl hl (by decide) rfl (fun ls hl => ?_)
  refine lv_iconst (v := 0) hx hb dX4_sum_2 (by decide) ?_
  refine lv_istore_n (lv' := [(3, .int (0 : Int32)), (2, .int (0 : Int32)), (0, .ref (sA G 0 0)), (1, .ref (sA G 1 (k + 1)))]) hx hb dX4_sum_3 rfl hl (by decide) rfl (fun ls hl => ?_)
  refine fx2_w (F := (bX4_sum_4 S k)) (P := fun x2_4 x3_4 => ∀ (H : Heap) (locs : List Loc) (ls : Array Slot), sHw G s S M H locs → lv_has ls 4 [(0, .ref (sA G 0 0)), (1, .ref (sA G 1 (k + 1))), (2, .int x2_4), (3, .int x3_4)] → W p l e rmX4_sum s m args below meth c H locs 0 0 Q (F0 m 4 ls [])) ?_ _ _ _ h _ _ _ hw (lv_sub hl [2, 3, 1, 0] rfl)
  intro rc4 IH4 x2_4 x3_4 h H locs ls hw hl
  unfold bX4_sum_4 at h
  refine lv_iload_n hx hb dX4_sum_4 rfl (lv_at hl 3 rfl) ?_
  refine lv_aload_n hx hb dX4_sum_5 rfl (lv_at hl 0 rfl) ?_
  refine gOw (v := .ref (sA G 1 0)) hx hb hts hiX4 hown hw 0 (by decide) (hts (.fieldLink RX4 10 "SecondHome" "track" "LSecondHome$Track;") (by decide +kernel)) rfl dX4_sum_6 ?_
  refine gTk (v := .int ((S 1).1 4)) hx hb hts hiX3 hown hw (Or.inl rfl) rfl 4 (by decide) (hts (.fieldLink RX4 64 "SecondHome$Track" "count" "I") (by decide +kernel)) rfl dX4_sum_9 ?_
  refine lv_icmp_ge (tgt := 33) hx hb dX4_sum_12 (by decide) (fun c12 => ?_) (fun c12 => ?_)
  · replace h := o_t c12 h
    refine lv_iload_n hx hb dX4_sum_33 rfl (lv_at hl 2 rfl) ?_
    exact rI hQ hx hb hr hlk hw dX4_sum_34 (o_1 h) rfl rfl
  · replace h := o_f c12 h
    refine lv_iload_n hx hb dX4_sum_15 rfl (lv_at hl 3 rfl) ?_
    refine lv_aload_n hx hb dX4_sum_16 rfl (lv_at hl 1 rfl) ?_
    refine lenTk hx hb hw (Or.inl rfl) k hk dX4_sum_17 ?_
    refine lv_icmp_ge (tgt := 33) hx hb dX4_sum_18 (by decide) (fun c18 => ?_) (fun c18 => ?_)
    · replace h := o_t c18 h
      refine lv_iload_n hx hb dX4_sum_33 rfl (lv_at hl 2 rfl) ?_
      exact rI hQ hx hb hr hlk hw dX4_sum_34 (o_1 h) rfl rfl
    · replace h := o_f c18 h
      refine lv_iload_n hx hb dX4_sum_21 rfl (lv_at hl 2 rfl) ?_
      refine lv_aload_n hx hb dX4_sum_22 rfl (lv_at hl 1 rfl) ?_
      refine lv_iload_n hx hb dX4_sum_23 rfl (lv_at hl 3 rfl) ?_
      obtain ⟨b24, h⟩ := o_in h
      refine ldTk hx hb hw (Or.inl rfl) rfl k hk b24 dX4_sum_24 ?_
      refine lv_iadd hx hb dX4_sum_25 ?_
      refine lv_topi (fun v26 ev26 => ?_)
      replace h := o_nx ev26 h
      refine lv_istore_n (lv' := [(2, .int v26), (0, .ref (sA G 0 0)), (1, .ref (sA G 1 (k + 1))), (3, .int x3_4)]) hx hb dX4_sum_26 rfl hl (by decide) rfl (fun ls hl => ?_)
      obtain ⟨v27, ev27, h⟩ := o_nm h
      refine lv_iinc (v := v27) (lv' := [(3, .int v27), (2, .int v26), (0, .ref (sA G 0 0)), (1, .ref (sA G 1 (k + 1)))]) hx hb dX4_sum_27 hl (k := 3) rfl (by rw [ev27]; rfl) (by decide) rfl (fun ls hl => ?_)
      refine lv_goto (tgt := 4) hx hb dX4_sum_30 (by decide) ?_
      exact IH4 v26 v27 h _ _ _ hw (lv_sub hl [2, 3, 1, 0] rfl)
-- X4_count
def fX4_count (S : sWo) (a1 : Int32) : Option (Int32 × sWo) :=
  if a1 = (0 : Int32) then (some (((S 1).1 4), S)) else if a1 = (1 : Int32) then (some (((S 4).1 0), S)) else if a1 = (2 : Int32) then ((fX4_sum S 5).bind fun q60 => some (q60, S)) else if a1 = (3 : Int32) then ((fX4_sum S 2).bind fun q72 => some (q72, S)) else if a1 = (4 : Int32) then ((fX4_sum S 6).bind fun q84 => some (q84, S)) else ((fX4_found S (-1000000001 : Int32)).bind fun q91 => some (q91.1, q91.2))
def rmX4_count : Room := { frames := 1, cells := 0, slots := 0, locals := 23 }
theorem qqX4_count : yX4_count.cls = RX4 ∧ yX4_count.cls ≠ "java/lang/invoke/MethodHandle" ∧ yX4_count.cls ≠ "java/lang/invoke/VarHandle" ∧ (parseMethodDescriptor yX4_count.desc).map (fun d => d.parameters.length) = some 1 := by decide +kernel
set_option maxRecDepth 100000 in
set_option maxHeartbeats 4000000 in
theorem kX4_count (l : Launch) (G : sGl) {S : sWo} {M : sOb} {a1 : Int32} {q : (Int32 × sWo)}  (h : fX4_count S a1 = some q) : sCt l G yX4_count wsX4_count rmX4_count [.ref (sA G 0 0), .int a1] S M (some (.int q.1)) q.2 M := by
  refine cMk (cc := cX4_count) (maxL := 2) (ret := (some .int)) (by decide) rfl (Nat.le_of_ble_eq_true rfl) ?_
  intro p e s m args below meth c Q hQ hx hb hr hlk hml hown hts hw ls hl
  have hown : s.vm.findClass RX4 = some m.cls := hown
  have hl : lv_has ls 2 [(0, .ref (sA G 0 0)), (1, .int a1)] := hl
  have hiX2 : ∀ w ∈ u_ws RX2 TX2 6, w ∈ wsX4_count := by decide +kernel
  have hiX3 : ∀ w ∈ u_ws RX3 TX3 15, w ∈ wsX4_count := by decide +kernel
  have hiX4 : ∀ w ∈ u_ws RX4 TX4 7, w ∈ wsX4_count := by decide +kernel
  unfold fX4_count at h
  refine lv_iload_n hx hb dX4_count_0 rfl (lv_at hl 1 rfl) ?_
  by_cases c1_0 : a1 = (0 : Int32)
  · replace h := o_t c1_0 h
    refine lv_tableIn (tgt := 36) hx hb dX4_count_1 (by rw [c1_0]; decide) (by rw [c1_0]; decide) (by rw [c1_0]; rfl) (by decide) ?_
    refine lv_aload_n hx hb dX4_count_36 rfl (lv_at hl 0 rfl) ?_
    refine gOw (v := .ref (sA G 1 0)) hx hb hts hiX4 hown hw 0 (by decide) (hts (.fieldLink RX4 10 "SecondHome" "track" "LSecondHome$Track;") (by decide +kernel)) rfl dX4_count_37 ?_
    refine gTk (v := .int ((S 1).1 4)) hx hb hts hiX3 hown hw (Or.inl rfl) rfl 4 (by decide) (hts (.fieldLink RX4 64 "SecondHome$Track" "count" "I") (by decide +kernel)) rfl dX4_count_40 ?_
    exact rI hQ hx hb hr hlk hw dX4_count_43 (o_2a h) (o_2b h) rfl
  replace h := o_f c1_0 h
  by_cases c1_1 : a1 = (1 : Int32)
  · replace h := o_t c1_1 h
    refine lv_tableIn (tgt := 44) hx hb dX4_count_1 (by rw [c1_1]; decide) (by rw [c1_1]; decide) (by rw [c1_1]; rfl) (by decide) ?_
    refine lv_aload_n hx hb dX4_count_44 rfl (lv_at hl 0 rfl) ?_
    refine gOw (v := .ref (sA G 4 0)) hx hb hts hiX4 hown hw 4 (by decide) (hts (.fieldLink RX4 25 "SecondHome" "tape" "LSecondHome$Tape;") (by decide +kernel)) rfl dX4_count_45 ?_
    refine gTp (v := .int ((S 4).1 0)) hx hb hts hiX2 hown hw rfl 0 (by decide) (hts (.fieldLink RX4 196 "SecondHome$Tape" "size" "I") (by decide +kernel)) rfl dX4_count_48 ?_
    exact rI hQ hx hb hr hlk hw dX4_count_51 (o_2a h) (o_2b h) rfl
  replace h := o_f c1_1 h
  by_cases c1_2 : a1 = (2 : Int32)
  · replace h := o_t c1_2 h
    refine lv_tableIn (tgt := 52) hx hb dX4_count_1 (by rw [c1_2]; decide) (by rw [c1_2]; decide) (by rw [c1_2]; rfl) (by decide) ?_
    refine lv_aload_n hx hb dX4_count_52 rfl (lv_at hl 0 rfl) ?_
    refine lv_aload_n hx hb dX4_count_53 rfl (lv_at hl 0 rfl) ?_
    refine gOw (v := .ref (sA G 1 0)) hx hb hts hiX4 hown hw 0 (by decide) (hts (.fieldLink RX4 10 "SecondHome" "track" "LSecondHome$Track;") (by decide +kernel)) rfl dX4_count_54 ?_
    refine gTk (v := .ref (sA G 1 6)) hx hb hts hiX3 hown hw (Or.inl rfl) rfl 11 (by decide) (hts (.fieldLink RX4 91 "SecondHome$Track" "yards" "[I") (by decide +kernel)) rfl dX4_count_57 ?_
    obtain ⟨q60, eq60, h⟩ := o_bd h
    refine kV (As := [.ref (sA G 1 6)]) (rest := []) (st' := [.int q60]) ⟨hx, hb, hml, hown, hts⟩ (kX4_sum l G (by decide) eq60) (cwV 1 hts gX4_count_X4_sum rfl rfl rfl qqX4_sum ⟨Nat.le_of_ble_eq_true rfl, Nat.le_of_ble_eq_true rfl⟩) hw (rvOw hw) rfl hl.1 rfl (Nat.le_of_ble_eq_true rfl) dX4_count_60 ⟨Nat.zero_le _, Nat.zero_le _⟩ rfl (fun H locs hw => ?_)
    exact rI hQ hx hb hr hlk hw dX4_count_63 (o_2a h) (o_2b h) rfl
  replace h := o_f c1_2 h
  by_cases c1_3 : a1 = (3 : Int32)
  · replace h := o_t c1_3 h
    refine lv_tableIn (tgt := 64) hx hb dX4_count_1 (by rw [c1_3]; decide) (by rw [c1_3]; decide) (by rw [c1_3]; rfl) (by decide) ?_
    refine lv_aload_n hx hb dX4_count_64 rfl (lv_at hl 0 rfl) ?_
    refine lv_aload_n hx hb dX4_count_65 rfl (lv_at hl 0 rfl) ?_
    refine gOw (v := .ref (sA G 1 0)) hx hb hts hiX4 hown hw 0 (by decide) (hts (.fieldLink RX4 10 "SecondHome" "track" "LSecondHome$Track;") (by decide +kernel)) rfl dX4_count_66 ?_
    refine gTk (v := .ref (sA G 1 3)) hx hb hts hiX3 hown hw (Or.inl rfl) rfl 8 (by decide) (hts (.fieldLink RX4 82 "SecondHome$Track" "breaths" "[I") (by decide +kernel)) rfl dX4_count_69 ?_
    obtain ⟨q72, eq72, h⟩ := o_bd h
    refine kV (As := [.ref (sA G 1 3)]) (rest := []) (st' := [.int q72]) ⟨hx, hb, hml, hown, hts⟩ (kX4_sum l G (by decide) eq72) (cwV 1 hts gX4_count_X4_sum rfl rfl rfl qqX4_sum ⟨Nat.le_of_ble_eq_true rfl, Nat.le_of_ble_eq_true rfl⟩) hw (rvOw hw) rfl hl.1 rfl (Nat.le_of_ble_eq_true rfl) dX4_count_72 ⟨Nat.zero_le _, Nat.zero_le _⟩ rfl (fun H locs hw => ?_)
    exact rI hQ hx hb hr hlk hw dX4_count_75 (o_2a h) (o_2b h) rfl
  replace h := o_f c1_3 h
  by_cases c1_4 : a1 = (4 : Int32)
  · replace h := o_t c1_4 h
    refine lv_tableIn (tgt := 76) hx hb dX4_count_1 (by rw [c1_4]; decide) (by rw [c1_4]; decide) (by rw [c1_4]; rfl) (by decide) ?_
    refine lv_aload_n hx hb dX4_count_76 rfl (lv_at hl 0 rfl) ?_
    refine lv_aload_n hx hb dX4_count_77 rfl (lv_at hl 0 rfl) ?_
    refine gOw (v := .ref (sA G 1 0)) hx hb hts hiX4 hown hw 0 (by decide) (hts (.fieldLink RX4 10 "SecondHome" "track" "LSecondHome$Track;") (by decide +kernel)) rfl dX4_count_78 ?_
    refine gTk (v := .ref (sA G 1 7)) hx hb hts hiX3 hown hw (Or.inl rfl) rfl 12 (by decide) (hts (.fieldLink RX4 94 "SecondHome$Track" "points" "[I") (by decide +kernel)) rfl dX4_count_81 ?_
    obtain ⟨q84, eq84, h⟩ := o_bd h
    refine kV (As := [.ref (sA G 1 7)]) (rest := []) (st' := [.int q84]) ⟨hx, hb, hml, hown, hts⟩ (kX4_sum l G (by decide) eq84) (cwV 1 hts gX4_count_X4_sum rfl rfl rfl qqX4_sum ⟨Nat.le_of_ble_eq_true rfl, Nat.le_of_ble_eq_true rfl⟩) hw (rvOw hw) rfl hl.1 rfl (Nat.le_of_ble_eq_true rfl) dX4_count_84 ⟨Nat.zero_le _, Nat.zero_le _⟩ rfl (fun H locs hw => ?_)
    exact rI hQ hx hb hr hlk hw dX4_count_87 (o_2a h) (o_2b h) rfl
  replace h := o_f c1_4 h
  have sw1 : a1.toInt < 0 ∨ 4 < a1.toInt := by
    have z0 := sw_ne c1_0
    have z1 := sw_ne c1_1
    have z2 := sw_ne c1_2
    have z3 := sw_ne c1_3
    have z4 := sw_ne c1_4
    rw [show ((0 : Int32)).toInt = 0 from rfl] at z0
    rw [show ((1 : Int32)).toInt = 1 from rfl] at z1
    rw [show ((2 : Int32)).toInt = 2 from rfl] at z2
    rw [show ((3 : Int32)).toInt = 3 from rfl] at z3
    rw [show ((4 : Int32)).toInt = 4 from rfl] at z4
    omega
  refine lv_tableOut (tgt := 88) hx hb dX4_count_1 sw1 (by decide) ?_
  refine lv_aload_n hx hb dX4_count_88 rfl (lv_at hl 0 rfl) ?_
  refine lv_ldc (v := -1000000001) hx hb hown (hts (.constant RX4 50 (-1000000001)) (by decide +kernel)) dX4_count_89 ?_
  obtain ⟨q91, eq91, h⟩ := o_bd h
  refine kV (As := [.int (-1000000001 : Int32)]) (rest := []) (st' := [.int q91.1]) ⟨hx, hb, hml, hown, hts⟩ (kX4_found l G eq91) (cwV 1 hts gX4_count_X4_found rfl rfl rfl qqX4_found ⟨Nat.le_of_ble_eq_true rfl, Nat.le_of_ble_eq_true rfl⟩) hw (rvOw hw) rfl hl.1 rfl (Nat.le_of_ble_eq_true rfl) dX4_count_91 ⟨Nat.zero_le _, Nat.zero_le _⟩ rfl (fun H locs hw => ?_)
  exact rI hQ hx hb hr hlk hw dX4_count_94 (o_2a h) (o_2b h) rfl
-- X4_status
def bX4_status_33 (S : sWo) (rc33 : Int32 → Int32 → Option (Int32 × sWo)) (x2_33 : Int32) (x3_33 : Int32) : Option (Int32 × sWo) :=
  if (7 : Int32) ≤ x3_33 then (some (x2_33, S)) else (if x3_33 < 0 ∨ 7 ≤ x3_33.toNatClampNeg then none else nm (x2_33 + ((S 0).2.1 0 x3_33.toNatClampNeg)) fun v47 => nm (x3_33 + (1 : Int32)) fun v48 => rc33 v47 v48)
def fX4_status (S : sWo) (a1 : Int32) : Option (Int32 × sWo) :=
  if a1 < (-1 : Int32) then ((fX4_found S (-1000000001 : Int32)).bind fun q14 => some (q14.1, q14.2)) else (if a1 < (7 : Int32) then (if a1 < 0 then (fx2 (bX4_status_33 S) FU (0 : Int32) (0 : Int32)) else (if a1 < 0 ∨ 7 ≤ a1.toNatClampNeg then none else some (((S 0).2.1 0 a1.toNatClampNeg), S))) else ((fX4_found S (-1000000001 : Int32)).bind fun q14 => some (q14.1, q14.2)))
def rmX4_status : Room := { frames := 1, cells := 0, slots := 0, locals := 22 }
theorem qqX4_status : yX4_status.cls = RX4 ∧ yX4_status.cls ≠ "java/lang/invoke/MethodHandle" ∧ yX4_status.cls ≠ "java/lang/invoke/VarHandle" ∧ (parseMethodDescriptor yX4_status.desc).map (fun d => d.parameters.length) = some 1 := by decide +kernel
set_option maxRecDepth 100000 in
set_option maxHeartbeats 4000000 in
theorem kX4_status (l : Launch) (G : sGl) {S : sWo} {M : sOb} {a1 : Int32} {q : (Int32 × sWo)}  (h : fX4_status S a1 = some q) : sCt l G yX4_status wsX4_status rmX4_status [.ref (sA G 0 0), .int a1] S M (some (.int q.1)) q.2 M := by
  refine cMk (cc := cX4_status) (maxL := 4) (ret := (some .int)) (by decide) rfl (Nat.le_of_ble_eq_true rfl) ?_
  intro p e s m args below meth c Q hQ hx hb hr hlk hml hown hts hw ls hl
  have hown : s.vm.findClass RX4 = some m.cls := hown
  have hl : lv_has ls 4 [(0, .ref (sA G 0 0)), (1, .int a1)] := hl
  have hiX4 : ∀ w ∈ u_ws RX4 TX4 7, w ∈ wsX4_status := by decide +kernel
  unfold fX4_status at h
  refine lv_iload_n hx hb dX4_status_0 rfl (lv_at hl 1 rfl) ?_
  refine lv_iconst (v := -1) hx hb dX4_status_1 (by decide) ?_
  refine lv_icmp_lt (tgt := 11) hx hb dX4_status_2 (by decide) (fun c2 => ?_) (fun c2 => ?_)
  · replace h := o_t c2 h
    refine lv_aload_n hx hb dX4_status_11 rfl (lv_at hl 0 rfl) ?_
    refine lv_ldc (v := -1000000001) hx hb hown (hts (.constant RX4 50 (-1000000001)) (by decide +kernel)) dX4_status_12 ?_
    obtain ⟨q14, eq14, h⟩ := o_bd h
    refine kV (As := [.int (-1000000001 : Int32)]) (rest := []) (st' := [.int q14.1]) ⟨hx, hb, hml, hown, hts⟩ (kX4_found l G eq14) (cwV 1 hts gX4_status_X4_found rfl rfl rfl qqX4_found ⟨Nat.le_of_ble_eq_true rfl, Nat.le_of_ble_eq_true rfl⟩) hw (rvOw hw) rfl hl.1 rfl (Nat.le_of_ble_eq_true rfl) dX4_status_14 ⟨Nat.zero_le _, Nat.zero_le _⟩ rfl (fun H locs hw => ?_)
    exact rI hQ hx hb hr hlk hw dX4_status_17 (o_2a h) (o_2b h) rfl
  · replace h := o_f c2 h
    refine lv_iload_n hx hb dX4_status_5 rfl (lv_at hl 1 rfl) ?_
    refine lv_bipush (v := 7) hx hb dX4_status_6 (by decide) ?_
    refine lv_icmp_lt (tgt := 18) hx hb dX4_status_8 (by decide) (fun c8 => ?_) (fun c8 => ?_)
    · replace h := o_t c8 h
      refine lv_iload_n hx hb dX4_status_18 rfl (lv_at hl 1 rfl) ?_
      refine lv_if_lt (tgt := 29) hx hb dX4_status_19 (by decide) (fun c19 => ?_) (fun c19 => ?_)
      · replace h := o_t c19 h
        refine lv_iconst (v := 0) hx hb dX4_status_29 (by decide) ?_
        refine lv_istore_n (lv' := [(2, .int (0 : Int32)), (0, .ref (sA G 0 0)), (1, .int a1)]) hx hb dX4_status_30 rfl hl (by decide) rfl (fun ls hl => ?_)
        refine lv_iconst (v := 0) hx hb dX4_status_31 (by decide) ?_
        refine lv_istore_n (lv' := [(3, .int (0 : Int32)), (2, .int (0 : Int32)), (0, .ref (sA G 0 0)), (1, .int a1)]) hx hb dX4_status_32 rfl hl (by decide) rfl (fun ls hl => ?_)
        refine fx2_w (F := (bX4_status_33 S)) (P := fun x2_33 x3_33 => ∀ (H : Heap) (locs : List Loc) (ls : Array Slot), sHw G s S M H locs → lv_has ls 4 [(0, .ref (sA G 0 0)), (2, .int x2_33), (3, .int x3_33)] → W p l e rmX4_status s m args below meth c H locs 0 0 Q (F0 m 33 ls [])) ?_ _ _ _ h _ _ _ hw (lv_sub hl [2, 1, 0] rfl)
        intro rc33 IH33 x2_33 x3_33 h H locs ls hw hl
        unfold bX4_status_33 at h
        refine lv_iload_n hx hb dX4_status_33 rfl (lv_at hl 2 rfl) ?_
        refine lv_bipush (v := 7) hx hb dX4_status_34 (by decide) ?_
        refine lv_icmp_ge (tgt := 54) hx hb dX4_status_36 (by decide) (fun c36 => ?_) (fun c36 => ?_)
        · replace h := o_t c36 h
          refine lv_iload_n hx hb dX4_status_54 rfl (lv_at hl 1 rfl) ?_
          exact rI hQ hx hb hr hlk hw dX4_status_55 (o_2a h) (o_2b h) rfl
        · replace h := o_f c36 h
          refine lv_iload_n hx hb dX4_status_39 rfl (lv_at hl 1 rfl) ?_
          refine lv_aload_n hx hb dX4_status_40 rfl (lv_at hl 0 rfl) ?_
          refine gOw (v := .ref (sA G 0 1)) hx hb hts hiX4 hown hw 6 (by decide) (hts (.fieldLink RX4 35 "SecondHome" "findings" "[I") (by decide +kernel)) rfl dX4_status_41 ?_
          refine lv_iload_n hx hb dX4_status_44 rfl (lv_at hl 2 rfl) ?_
          obtain ⟨b45, h⟩ := o_in h
          refine ldOw hx hb hw b45 dX4_status_45 ?_
          refine lv_iadd hx hb dX4_status_46 ?_
          refine lv_topi (fun v47 ev47 => ?_)
          replace h := o_nx ev47 h
          refine lv_istore_n (lv' := [(2, .int v47), (0, .ref (sA G 0 0)), (3, .int x3_33)]) hx hb dX4_status_47 rfl hl (by decide) rfl (fun ls hl => ?_)
          obtain ⟨v48, ev48, h⟩ := o_nm h
          refine lv_iinc (v := v48) (lv' := [(3, .int v48), (2, .int v47), (0, .ref (sA G 0 0))]) hx hb dX4_status_48 hl (k := 2) rfl (by rw [ev48]; rfl) (by decide) rfl (fun ls hl => ?_)
          refine lv_goto (tgt := 33) hx hb dX4_status_51 (by decide) ?_
          exact IH33 v47 v48 h _ _ _ hw (lv_sub hl [2, 1, 0] rfl)
      · replace h := o_f c19 h
        refine lv_aload_n hx hb dX4_status_22 rfl (lv_at hl 0 rfl) ?_
        refine gOw (v := .ref (sA G 0 1)) hx hb hts hiX4 hown hw 6 (by decide) (hts (.fieldLink RX4 35 "SecondHome" "findings" "[I") (by decide +kernel)) rfl dX4_status_23 ?_
        refine lv_iload_n hx hb dX4_status_26 rfl (lv_at hl 1 rfl) ?_
        obtain ⟨b27, h⟩ := o_in h
        refine ldOw hx hb hw b27 dX4_status_27 ?_
        exact rI hQ hx hb hr hlk hw dX4_status_28 (o_2a h) (o_2b h) rfl
    · replace h := o_f c8 h
      refine lv_aload_n hx hb dX4_status_11 rfl (lv_at hl 0 rfl) ?_
      refine lv_ldc (v := -1000000001) hx hb hown (hts (.constant RX4 50 (-1000000001)) (by decide +kernel)) dX4_status_12 ?_
      obtain ⟨q14, eq14, h⟩ := o_bd h
      refine kV (As := [.int (-1000000001 : Int32)]) (rest := []) (st' := [.int q14.1]) ⟨hx, hb, hml, hown, hts⟩ (kX4_found l G eq14) (cwV 1 hts gX4_status_X4_found rfl rfl rfl qqX4_found ⟨Nat.le_of_ble_eq_true rfl, Nat.le_of_ble_eq_true rfl⟩) hw (rvOw hw) rfl hl.1 rfl (Nat.le_of_ble_eq_true rfl) dX4_status_14 ⟨Nat.zero_le _, Nat.zero_le _⟩ rfl (fun H locs hw => ?_)
      exact rI hQ hx hb hr hlk hw dX4_status_17 (o_2a h) (o_2b h) rfl
