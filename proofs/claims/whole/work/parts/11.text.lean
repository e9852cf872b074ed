set_option maxRecDepth 100000 in
set_option maxHeartbeats 4000000 in
theorem kJ3_checkIndex_8e157 (l : Launch) (G : sGl) {S : sWo} {M : sOb} {a0 : Int32} {a1 : Int32} {q : Int32} {fv : Value} (hfv : fv = .null ∨ ∃ t, fv = .ref t) (h : fJ3 a0 a1 = some q) : sCt l G yJ3_checkIndex_8e157 wsJ3_checkIndex_8e157 rmJ3_checkIndex_8e157 [.int a0, .int a1, fv] S M (some (.int q)) S M := by
  refine cMk (cc := cJ3_checkIndex_8e157) (maxL := 3) (ret := (some .int)) (by decide) rfl (by rcases hfv with rfl | ⟨t, rfl⟩ <;> exact Nat.le_of_ble_eq_true rfl) ?_
  intro p e s m args below meth c Q hQ hx hb hr hlk hml hown hts hw ls hl
  have hl : lv_has ls 3 [(0, .int a0), (1, .int a1)] := by
    rcases hfv with rfl | ⟨t, rfl⟩
    · have hl : lv_has ls 3 [(0, .int a0), (1, .int a1), (2, .null)] := hl
      exact lv_sub hl [0, 1] rfl
    · have hl : lv_has ls 3 [(0, .int a0), (1, .int a1), (2, .ref t)] := hl
      exact lv_sub hl [0, 1] rfl
  unfold fJ3 at h
  refine lv_iload_n hx hb dJ3_checkIndex_8e157_0 rfl (lv_at hl 0 rfl) ?_
  refine lv_if_lt (tgt := 9) hx hb dJ3_checkIndex_8e157_1 (by decide) (fun c1 => ?_) (fun c1 => ?_)
  · replace h := o_t c1 h
    cases h
  · replace h := o_f c1 h
    refine lv_iload_n hx hb dJ3_checkIndex_8e157_4 rfl (lv_at hl 0 rfl) ?_
    refine lv_iload_n hx hb dJ3_checkIndex_8e157_5 rfl (lv_at hl 1 rfl) ?_
    refine lv_icmp_lt (tgt := 16) hx hb dJ3_checkIndex_8e157_6 (by decide) (fun c6 => ?_) (fun c6 => ?_)
    · replace h := o_t c6 h
      refine lv_iload_n hx hb dJ3_checkIndex_8e157_16 rfl (lv_at hl 0 rfl) ?_
      exact rI hQ hx hb hr hlk hw dJ3_checkIndex_8e157_17 (o_1 h) rfl rfl
    · replace h := o_f c6 h
      cases h
set_option maxRecDepth 100000 in
set_option maxHeartbeats 4000000 in
theorem kJ0_checkIndex_df160 (l : Launch) (G : sGl) {S : sWo} {M : sOb} {a0 : Int32} {a1 : Int32} {q : Unit} (h : fJ0_checkIndex_df160 a0 a1 = some q) : sCt l G yJ0_checkIndex_df160 wsJ0_checkIndex_df160 rmJ0_checkIndex_df160 [.int a0, .int a1] S M none S M := by
  refine cMk (cc := cJ0_checkIndex_df160) (maxL := 2) (ret := none) (by decide) rfl (Nat.le_of_ble_eq_true rfl) ?_
  intro p e s m args below meth c Q hQ hx hb hr hlk hml hown hts hw ls hl
  have hown : s.vm.findClass RJ0 = some m.cls := hown
  have hl : lv_has ls 2 [(0, .int a0), (1, .int a1)] := hl
  unfold fJ0_checkIndex_df160 at h
  obtain ⟨q5, eq5, h⟩ := o_bd h
  refine lv_iload_n hx hb dJ0_checkIndex_df160_0 rfl (lv_at hl 0 rfl) ?_
  refine lv_iload_n hx hb dJ0_checkIndex_df160_1 rfl (lv_at hl 1 rfl) ?_
  rcases hw.2.2.2.2.2.2.2.1 with hZ | ⟨ft, hZ⟩
  · refine va_gets hx hb hZ hw.2.2.2.1 hown (hts (.fieldLink RJ0 1053 "jdk/internal/util/Preconditions" "SIOOBE_FORMATTER" "Ljava/util/function/BiFunction;") (by decide +kernel)) (fun _ h9 => h9) dJ0_checkIndex_df160_2 ?_
    refine kS (As := [.int a0, .int a1, .null]) (rest := []) (st' := [.int q5]) ⟨hx, hb, hml, hown, hts⟩ (kJ3_checkIndex_8e157 l G (Or.inl rfl) eq5) (va_cwS 3 hts gJ0_checkIndex_df160_J3_checkIndex_8e157 rfl rfl rfl qqJ3_checkIndex_8e157 ⟨Nat.le_of_ble_eq_true rfl, Nat.le_of_ble_eq_true rfl⟩) hw rfl hl.1 rfl (Nat.le_of_ble_eq_true rfl) dJ0_checkIndex_df160_5 ⟨Nat.zero_le _, Nat.zero_le _⟩ rfl (fun H locs hw => ?_)
    refine lv_pop hx hb dJ0_checkIndex_df160_8 rfl ?_
    exact rV hQ hx hb hr hlk hw dJ0_checkIndex_df160_9 rfl rfl
  · refine va_gets hx hb hZ hw.2.2.2.1 hown (hts (.fieldLink RJ0 1053 "jdk/internal/util/Preconditions" "SIOOBE_FORMATTER" "Ljava/util/function/BiFunction;") (by decide +kernel)) (fun _ h9 => h9) dJ0_checkIndex_df160_2 ?_
    refine kS (As := [.int a0, .int a1, .ref ft]) (rest := []) (st' := [.int q5]) ⟨hx, hb, hml, hown, hts⟩ (kJ3_checkIndex_8e157 l G (Or.inr ⟨ft, rfl⟩) eq5) (va_cwS 3 hts gJ0_checkIndex_df160_J3_checkIndex_8e157 rfl rfl rfl qqJ3_checkIndex_8e157 ⟨Nat.le_of_ble_eq_true rfl, Nat.le_of_ble_eq_true rfl⟩) hw rfl hl.1 rfl (Nat.le_of_ble_eq_true rfl) dJ0_checkIndex_df160_5 ⟨Nat.zero_le _, Nat.zero_le _⟩ rfl (fun H locs hw => ?_)
    refine lv_pop hx hb dJ0_checkIndex_df160_8 rfl ?_
    exact rV hQ hx hb hr hlk hw dJ0_checkIndex_df160_9 rfl rfl

-- J0_coder_7d493
set_option maxRecDepth 100000 in
set_option maxHeartbeats 4000000 in
theorem kJ0_coder_7d493 (l : Launch) (G : sGl) {S : sWo} {M : sOb} {w : Nat} {q : Int32} (hw13 : w < 13) (h : fJ0_coder_7d493 w = some q) : sCt l G yJ0_coder_7d493 wsJ0_coder_7d493 rmJ0_coder_7d493 [.ref (sX G (1 + w))] S M (some (.int q)) S M := by
  refine cMk (cc := cJ0_coder_7d493) (maxL := 1) (ret := (some .byte)) (by decide) rfl (Nat.le_of_ble_eq_true rfl) ?_
  intro p e s m args below meth c Q hQ hx hb hr hlk hml hown hts hw ls hl
  have hown : s.vm.findClass RJ0 = some m.cls := hown
  have hl : lv_has ls 1 [(0, .ref (sX G (1 + w)))] := hl
  unfold fJ0_coder_7d493 at h
  refine va_gets hx hb hw.2.2.2.2.2.2.1 hw.2.2.2.1 hown (hts (.fieldLink RJ0 38 "java/lang/String" "COMPACT_STRINGS" "Z") (by decide +kernel)) (fun _ h9 => h9) dJ0_coder_7d493_0 ?_
  refine lv_if_eq (tgt := 13) hx hb dJ0_coder_7d493_3 (by decide) (fun c3 => ?_) (fun c3 => ?_)
  · replace h := o_t c3 h
    refine lv_iconst (v := 1) hx hb dJ0_coder_7d493_13 (by decide) ?_
    exact rB hQ hx hb hr hlk hw rfl dJ0_coder_7d493_14 (o_1 h) rfl rfl
  · replace h := o_f c3 h
    refine lv_aload_n hx hb dJ0_coder_7d493_6 rfl (lv_at hl 0 rfl) ?_
    refine vk_getf hx hb ((hw.2.2.2.2.2.2.2.2.1.1 w hw13).2.1) hw.2.2.2.1 hown (hts (.fieldLink RJ0 15 "java/lang/String" "coder" "B") (by decide +kernel)) (fun _ h9 => h9) dJ0_coder_7d493_7 ?_
    refine lv_goto (tgt := 14) hx hb dJ0_coder_7d493_10 (by decide) ?_
    exact rB hQ hx hb hr hlk hw rfl dJ0_coder_7d493_14 (o_1 h) rfl rfl
-- J0_length_8abf5
set_option maxRecDepth 100000 in
set_option maxHeartbeats 4000000 in
theorem kJ0_length_8abf5 (l : Launch) (G : sGl) {S : sWo} {M : sOb} {w : Nat} {q : Int32} (hw13 : w < 13) (h : fJ0_length_8abf5 w = some q) : sCt l G yJ0_length_8abf5 wsJ0_length_8abf5 rmJ0_length_8abf5 [.ref (sX G (1 + w))] S M (some (.int q)) S M := by
  refine cMk (cc := cJ0_length_8abf5) (maxL := 1) (ret := (some .int)) (by decide) rfl (Nat.le_of_ble_eq_true rfl) ?_
  intro p e s m args below meth c Q hQ hx hb hr hlk hml hown hts hw ls hl
  have hown : s.vm.findClass RJ0 = some m.cls := hown
  have hl : lv_has ls 1 [(0, .ref (sX G (1 + w)))] := hl
  unfold fJ0_length_8abf5 at h
  refine lv_aload_n hx hb dJ0_length_8abf5_0 rfl (lv_at hl 0 rfl) ?_
  refine vk_getf hx hb ((hw.2.2.2.2.2.2.2.2.1.1 w hw13).2.2.1) hw.2.2.2.1 hown (hts (.fieldLink RJ0 9 "java/lang/String" "value" "[B") (by decide +kernel)) (fun _ h9 => h9) dJ0_length_8abf5_1 ?_
  refine va_tlen hx hb ((hw.2.2.2.2.2.2.2.2.1.1 w hw13).2.2.2) hw.2.2.2.1 (v := (Int32.ofNat (kLe.getD w 0))) rfl dJ0_length_8abf5_4 ?_
  refine lv_aload_n hx hb dJ0_length_8abf5_5 rfl (lv_at hl 0 rfl) ?_
  obtain ⟨q6, eq6, h⟩ := o_bd h
  refine kV (As := []) (rest := [.int (Int32.ofNat (kLe.getD w 0))]) (st' := [.int q6, .int (Int32.ofNat (kLe.getD w 0))]) ⟨hx, hb, hml, hown, hts⟩ (kJ0_coder_7d493 l G hw13 eq6) (cwV 0 hts gJ0_length_8abf5_J0_coder_7d493 rfl rfl rfl qqJ0_coder_7d493 ⟨Nat.le_of_ble_eq_true rfl, Nat.le_of_ble_eq_true rfl⟩) hw (vk_recv (adK := fun i => sX G (1 + i)) (i := w) hw.2.2.2.2.2.2.2.2.1 hw13 hw.2.2.2.1) rfl hl.1 rfl (Nat.le_of_ble_eq_true rfl) dJ0_length_8abf5_6 ⟨Nat.zero_le _, Nat.zero_le _⟩ rfl (fun H locs hw => ?_)
  refine lv_ishr hx hb dJ0_length_8abf5_9 ?_
  exact rI hQ hx hb hr hlk hw dJ0_length_8abf5_10 (o_1 h) rfl rfl
-- J0_isLatin1_aae02
set_option maxRecDepth 100000 in
set_option maxHeartbeats 4000000 in
theorem kJ0_isLatin1_aae02 (l : Launch) (G : sGl) {S : sWo} {M : sOb} {w : Nat} {q : Int32} (hw13 : w < 13) (h : fJ0_isLatin1_aae02 w = some q) : sCt l G yJ0_isLatin1_aae02 wsJ0_isLatin1_aae02 rmJ0_isLatin1_aae02 [.ref (sX G (1 + w))] S M (some (.int q)) S M := by
  refine cMk (cc := cJ0_isLatin1_aae02) (maxL := 1) (ret := (some .boolean)) (by decide) rfl (Nat.le_of_ble_eq_true rfl) ?_
  intro p e s m args below meth c Q hQ hx hb hr hlk hml hown hts hw ls hl
  have hown : s.vm.findClass RJ0 = some m.cls := hown
  have hl : lv_has ls 1 [(0, .ref (sX G (1 + w)))] := hl
  unfold fJ0_isLatin1_aae02 at h
  refine va_gets hx hb hw.2.2.2.2.2.2.1 hw.2.2.2.1 hown (hts (.fieldLink RJ0 38 "java/lang/String" "COMPACT_STRINGS" "Z") (by decide +kernel)) (fun _ h9 => h9) dJ0_isLatin1_aae02_0 ?_
  refine lv_if_eq (tgt := 17) hx hb dJ0_isLatin1_aae02_3 (by decide) (fun c3 => ?_) (fun c3 => ?_)
  · replace h := o_t c3 h
    refine lv_iconst (v := 0) hx hb dJ0_isLatin1_aae02_17 (by decide) ?_
    exact rZ hQ hx hb hr hlk hw (Or.inl rfl) dJ0_isLatin1_aae02_18 (o_1 h) rfl rfl
  · replace h := o_f c3 h
    refine lv_aload_n hx hb dJ0_isLatin1_aae02_6 rfl (lv_at hl 0 rfl) ?_
    refine vk_getf hx hb ((hw.2.2.2.2.2.2.2.2.1.1 w hw13).2.1) hw.2.2.2.1 hown (hts (.fieldLink RJ0 15 "java/lang/String" "coder" "B") (by decide +kernel)) (fun _ h9 => h9) dJ0_isLatin1_aae02_7 ?_
    refine lv_if_ne (tgt := 17) hx hb dJ0_isLatin1_aae02_10 (by decide) (fun c10 => ?_) (fun c10 => ?_)
    · replace h := o_f c10 h
      refine lv_iconst (v := 0) hx hb dJ0_isLatin1_aae02_17 (by decide) ?_
      exact rZ hQ hx hb hr hlk hw (Or.inl rfl) dJ0_isLatin1_aae02_18 (o_1 h) rfl rfl
    · replace h := o_t c10 h
      refine lv_iconst (v := 1) hx hb dJ0_isLatin1_aae02_13 (by decide) ?_
      refine lv_goto (tgt := 18) hx hb dJ0_isLatin1_aae02_14 (by decide) ?_
      exact rZ hQ hx hb hr hlk hw (Or.inr rfl) dJ0_isLatin1_aae02_18 (o_1 h) rfl rfl
-- J1_charAt_3b067
set_option maxRecDepth 100000 in
set_option maxHeartbeats 4000000 in
theorem kJ1_charAt_3b067 (l : Launch) (G : sGl) {S : sWo} {M : sOb} {w : Nat} {a1 : Int32} {q : Int32} (hw13 : w < 13) (h : fJ1_charAt_3b067 w a1 = some q) : sCt l G yJ1_charAt_3b067 wsJ1_charAt_3b067 rmJ1_charAt_3b067 [.ref (sX G (20 + w)), .int a1] S M (some (.int q)) S M := by
  refine cMk (cc := cJ1_charAt_3b067) (maxL := 2) (ret := (some .char)) (by decide) rfl (Nat.le_of_ble_eq_true rfl) ?_
  intro p e s m args below meth c Q hQ hx hb hr hlk hml hown hts hw ls hl
  have hown : s.vm.findClass RJ1 = some m.cls := hown
  have hl : lv_has ls 2 [(0, .ref (sX G (20 + w))), (1, .int a1)] := hl
  unfold fJ1_charAt_3b067 at h
  refine lv_iload_n hx hb dJ1_charAt_3b067_0 rfl (lv_at hl 1 rfl) ?_
  refine lv_aload_n hx hb dJ1_charAt_3b067_1 rfl (lv_at hl 0 rfl) ?_
  refine va_tlen hx hb ((hw.2.2.2.2.2.2.2.2.1.1 w hw13).2.2.2) hw.2.2.2.1 (v := (Int32.ofNat (kLe.getD w 0))) rfl dJ1_charAt_3b067_2 ?_
  obtain ⟨q3, eq3, h⟩ := o_bd h
  refine kS (As := [.int a1, .int (Int32.ofNat (kLe.getD w 0))]) (rest := []) (st' := []) ⟨hx, hb, hml, hown, hts⟩ (kJ0_checkIndex_df160 l G eq3) (va_cwS 2 hts gJ1_charAt_3b067_J0_checkIndex_df160 rfl rfl rfl qqJ0_checkIndex_df160 ⟨Nat.le_of_ble_eq_true rfl, Nat.le_of_ble_eq_true rfl⟩) hw rfl hl.1 rfl (Nat.le_of_ble_eq_true rfl) dJ1_charAt_3b067_3 ⟨Nat.zero_le _, Nat.zero_le _⟩ rfl (fun H locs hw => ?_)
  refine lv_aload_n hx hb dJ1_charAt_3b067_6 rfl (lv_at hl 0 rfl) ?_
  refine lv_iload_n hx hb dJ1_charAt_3b067_7 rfl (lv_at hl 1 rfl) ?_
  obtain ⟨b8, h⟩ := o_in h
  refine va_tb hx hb ((hw.2.2.2.2.2.2.2.2.1.1 w hw13).2.2.2) hw.2.2.2.1 b8 (v := .int ((kBy.getD w []).getD a1.toNatClampNeg 0)) rfl dJ1_charAt_3b067_8 ?_
  refine lv_sipush (v := 255) hx hb dJ1_charAt_3b067_9 (by decide) ?_
  refine lv_iand hx hb dJ1_charAt_3b067_12 ?_
  refine lv_i2c hx hb dJ1_charAt_3b067_13 rfl ?_
  obtain ⟨b14, h⟩ := o_in h
  exact rC hQ hx hb hr hlk hw (Decidable.not_not.mp b14) dJ1_charAt_3b067_14 (o_1 h) rfl rfl
-- J0_charAt_5068e
set_option maxRecDepth 100000 in
set_option maxHeartbeats 4000000 in
theorem kJ0_charAt_5068e (l : Launch) (G : sGl) {S : sWo} {M : sOb} {w : Nat} {a1 : Int32} {q : Int32} (hw13 : w < 13) (h : fJ0_charAt_5068e w a1 = some q) : sCt l G yJ0_charAt_5068e wsJ0_charAt_5068e rmJ0_charAt_5068e [.ref (sX G (1 + w)), .int a1] S M (some (.int q)) S M := by
  refine cMk (cc := cJ0_charAt_5068e) (maxL := 2) (ret := (some .char)) (by decide) rfl (Nat.le_of_ble_eq_true rfl) ?_
  intro p e s m args below meth c Q hQ hx hb hr hlk hml hown hts hw ls hl
  have hown : s.vm.findClass RJ0 = some m.cls := hown
  have hl : lv_has ls 2 [(0, .ref (sX G (1 + w))), (1, .int a1)] := hl
  unfold fJ0_charAt_5068e at h
  refine lv_aload_n hx hb dJ0_charAt_5068e_0 rfl (lv_at hl 0 rfl) ?_
  obtain ⟨q1, eq1, h⟩ := o_bd h
  refine kV (As := []) (rest := []) (st' := [.int q1]) ⟨hx, hb, hml, hown, hts⟩ (kJ0_isLatin1_aae02 l G hw13 eq1) (cwV 0 hts gJ0_charAt_5068e_J0_isLatin1_aae02 rfl rfl rfl qqJ0_isLatin1_aae02 ⟨Nat.le_of_ble_eq_true rfl, Nat.le_of_ble_eq_true rfl⟩) hw (vk_recv (adK := fun i => sX G (1 + i)) (i := w) hw.2.2.2.2.2.2.2.2.1 hw13 hw.2.2.2.1) rfl hl.1 rfl (Nat.le_of_ble_eq_true rfl) dJ0_charAt_5068e_1 ⟨Nat.zero_le _, Nat.zero_le _⟩ rfl (fun H locs hw => ?_)
  refine lv_if_eq (tgt := 16) hx hb dJ0_charAt_5068e_4 (by decide) (fun c4 => ?_) (fun c4 => ?_)
  · replace h := o_t c4 h
    refine lv_aload_n hx hb dJ0_charAt_5068e_16 rfl (lv_at hl 0 rfl) ?_
    refine vk_getf hx hb ((hw.2.2.2.2.2.2.2.2.1.1 w hw13).2.2.1) hw.2.2.2.1 hown (hts (.fieldLink RJ0 9 "java/lang/String" "value" "[B") (by decide +kernel)) (fun _ h9 => h9) dJ0_charAt_5068e_17 ?_
    refine lv_iload_n hx hb dJ0_charAt_5068e_20 rfl (lv_at hl 1 rfl) ?_
    cases h
  · replace h := o_f c4 h
    refine lv_aload_n hx hb dJ0_charAt_5068e_7 rfl (lv_at hl 0 rfl) ?_
    refine vk_getf hx hb ((hw.2.2.2.2.2.2.2.2.1.1 w hw13).2.2.1) hw.2.2.2.1 hown (hts (.fieldLink RJ0 9 "java/lang/String" "value" "[B") (by decide +kernel)) (fun _ h9 => h9) dJ0_charAt_5068e_8 ?_
    refine lv_iload_n hx hb dJ0_charAt_5068e_11 rfl (lv_at hl 1 rfl) ?_
    obtain ⟨q12, eq12, h⟩ := o_bd h
    refine kS (As := [.ref (sX G (20 + w)), .int a1]) (rest := []) (st' := [.int q12]) ⟨hx, hb, hml, hown, hts⟩ (kJ1_charAt_3b067 l G hw13 eq12) (va_cwS 2 hts gJ0_charAt_5068e_J1_charAt_3b067 rfl rfl rfl qqJ1_charAt_3b067 ⟨Nat.le_of_ble_eq_true rfl, Nat.le_of_ble_eq_true rfl⟩) hw rfl hl.1 rfl (Nat.le_of_ble_eq_true rfl) dJ0_charAt_5068e_12 ⟨Nat.zero_le _, Nat.zero_le _⟩ rfl (fun H locs hw => ?_)
    obtain ⟨b15, h⟩ := o_in h
    exact rC hQ hx hb hr hlk hw (Decidable.not_not.mp b15) dJ0_charAt_5068e_15 (o_1 h) rfl rfl
