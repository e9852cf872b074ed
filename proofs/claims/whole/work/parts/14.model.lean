-- X5_isIn
def fX5_isIn (a0 : Int64) (a2 : Int64) (a4 : Int64) : Option Int32 :=
  if (lg_cmp a0 a2) < 0 then (some (0 : Int32)) else (if 0 < (lg_cmp a0 a4) then (some (0 : Int32)) else (some (1 : Int32)))
def rmX5_isIn : Room := { frames := 0, cells := 0, slots := 0, locals := 0 }
theorem qqX5_isIn : yX5_isIn.cls ≠ "java/lang/invoke/MethodHandle" ∧ yX5_isIn.cls ≠ "java/lang/invoke/VarHandle" ∧ (parseMethodDescriptor yX5_isIn.desc).map (fun d => d.parameters.length) = some 3 := by decide +kernel
set_option maxRecDepth 100000 in
set_option maxHeartbeats 4000000 in
theorem kX5_isIn (l : Launch) (G : sGl) {S : sWo} {M : sOb} {a0 : Int64} {a2 : Int64} {a4 : Int64} {q : Int32}  (h : fX5_isIn a0 a2 a4 = some q) : sCt l G yX5_isIn wsX5_isIn rmX5_isIn [.long a0, .long a2, .long a4] S M (some (.int q)) S M := by
  refine cMk (cc := cX5_isIn) (maxL := 6) (ret := (some .boolean)) (by decide) rfl (Nat.le_of_ble_eq_true rfl) ?_
  intro p e s m args below meth c Q hQ hx hb hr hlk hml hown hts hw ls hl
  have hown : s.vm.findClass RX5 = some m.cls := hown
  have hl : lv_has ls 6 [(0, .long a0), (2, .long a2), (4, .long a4)] := hl
  unfold fX5_isIn at h
  refine lv_lload_n hx hb dX5_isIn_0 rfl (lv_at hl 0 rfl) ?_
  refine lv_lload_n hx hb dX5_isIn_1 rfl (lv_at hl 1 rfl) ?_
  refine W.lcmp hx hb dX5_isIn_2 ?_
  refine lv_if_lt (tgt := 17) hx hb dX5_isIn_3 (by decide) (fun c3 => ?_) (fun c3 => ?_)
  · replace h := o_t c3 h
    refine lv_iconst (v := 0) hx hb dX5_isIn_17 (by decide) ?_
    exact rZ hQ hx hb hr hlk hw (Or.inl rfl) dX5_isIn_18 (o_1 h) rfl rfl
  · replace h := o_f c3 h
    refine lv_lload_n hx hb dX5_isIn_6 rfl (lv_at hl 0 rfl) ?_
    refine lv_lload hx hb dX5_isIn_7 (lv_at hl 2 rfl) ?_
    refine W.lcmp hx hb dX5_isIn_9 ?_
    refine lv_if_gt (tgt := 17) hx hb dX5_isIn_10 (by decide) (fun c10 => ?_) (fun c10 => ?_)
    · replace h := o_t c10 h
      refine lv_iconst (v := 0) hx hb dX5_isIn_17 (by decide) ?_
      exact rZ hQ hx hb hr hlk hw (Or.inl rfl) dX5_isIn_18 (o_1 h) rfl rfl
    · replace h := o_f c10 h
      refine lv_iconst (v := 1) hx hb dX5_isIn_13 (by decide) ?_
      refine lv_goto (tgt := 18) hx hb dX5_isIn_14 (by decide) ?_
      exact rZ hQ hx hb hr hlk hw (Or.inr rfl) dX5_isIn_18 (o_1 h) rfl rfl
-- X5_finds
def fX5_finds (M : sOb) (a1 : Int32) : Option (Int32 × sOb) :=
  nm (sSa M 3 (0 : Int32).toNatClampNeg ((M.2.1 3 (0 : Int32).toNatClampNeg) + (1 : Int32))) fun M9 => if (((-1000000001 : Int32) - a1) + (1 : Int32)) < 0 ∨ 8 ≤ (((-1000000001 : Int32) - a1) + (1 : Int32)).toNatClampNeg then none else nm (sSa M9 3 (((-1000000001 : Int32) - a1) + (1 : Int32)).toNatClampNeg ((M9.2.1 3 (((-1000000001 : Int32) - a1) + (1 : Int32)).toNatClampNeg) + (1 : Int32))) fun M24 => some (a1, M24)
def rmX5_finds : Room := { frames := 0, cells := 0, slots := 0, locals := 0 }
theorem qqX5_finds : yX5_finds.cls = RX5 ∧ yX5_finds.cls ≠ "java/lang/invoke/MethodHandle" ∧ yX5_finds.cls ≠ "java/lang/invoke/VarHandle" ∧ (parseMethodDescriptor yX5_finds.desc).map (fun d => d.parameters.length) = some 1 := by decide +kernel
set_option maxRecDepth 100000 in
set_option maxHeartbeats 4000000 in
theorem kX5_finds (l : Launch) (G : sGl) {S : sWo} {M : sOb} {a1 : Int32} {q : (Int32 × sOb)}  (h : fX5_finds M a1 = some q) : sCt l G yX5_finds wsX5_finds rmX5_finds [.ref (sA G 9 0), .int a1] S M (some (.int q.1)) S q.2 := by
  refine cMk (cc := cX5_finds) (maxL := 2) (ret := (some .int)) (by decide) rfl (Nat.le_of_ble_eq_true rfl) ?_
  intro p e s m args below meth c Q hQ hx hb hr hlk hml hown hts hw ls hl
  have hown : s.vm.findClass RX5 = some m.cls := hown
  have hl : lv_has ls 2 [(0, .ref (sA G 9 0)), (1, .int a1)] := hl
  have hiX5 : ∀ w ∈ u_ws RX5 TX5 15, w ∈ wsX5_finds := by decide +kernel
  unfold fX5_finds at h
  refine lv_aload_n hx hb dX5_finds_0 rfl (lv_at hl 0 rfl) ?_
  refine gMd (v := .ref (sA G 9 4)) hx hb hts hiX5 hown hw 4 (by decide) (hts (.fieldLink RX5 19 "SecondHomeModel" "findings" "[I") (by decide +kernel)) rfl dX5_finds_1 ?_
  refine lv_iconst (v := 0) hx hb dX5_finds_4 (by decide) ?_
  refine lv_dup2_11 hx hb dX5_finds_5 rfl rfl ?_
  refine ldMd hx hb hw 3 (by decide) (n := 8) rfl (by decide) dX5_finds_6 ?_
  refine lv_iconst (v := 1) hx hb dX5_finds_7 (by decide) ?_
  refine lv_iadd hx hb dX5_finds_8 ?_
  refine stMd hx hb hw 3 (by decide) (n := 8) rfl (by decide) dX5_finds_9 rfl (fun H locs hw => ?_)
  obtain ⟨M9, eM9, h⟩ := o_nm h
  rw [← eM9] at hw
  refine lv_aload_n hx hb dX5_finds_10 rfl (lv_at hl 0 rfl) ?_
  refine gMd (v := .ref (sA G 9 4)) hx hb hts hiX5 hown hw 4 (by decide) (hts (.fieldLink RX5 19 "SecondHomeModel" "findings" "[I") (by decide +kernel)) rfl dX5_finds_11 ?_
  refine lv_ldc (v := -1000000001) hx hb hown (hts (.constant RX5 38 (-1000000001)) (by decide +kernel)) dX5_finds_14 ?_
  refine lv_iload_n hx hb dX5_finds_16 rfl (lv_at hl 1 rfl) ?_
  refine lv_isub hx hb dX5_finds_17 ?_
  refine lv_iconst (v := 1) hx hb dX5_finds_18 (by decide) ?_
  refine lv_iadd hx hb dX5_finds_19 ?_
  refine lv_dup2_11 hx hb dX5_finds_20 rfl rfl ?_
  obtain ⟨b21, h⟩ := o_in h
  refine ldMd hx hb hw 3 (by decide) (n := 8) rfl b21 dX5_finds_21 ?_
  refine lv_iconst (v := 1) hx hb dX5_finds_22 (by decide) ?_
  refine lv_iadd hx hb dX5_finds_23 ?_
  refine stMd hx hb hw 3 (by decide) (n := 8) rfl b21 dX5_finds_24 rfl (fun H locs hw => ?_)
  obtain ⟨M24, eM24, h⟩ := o_nm h
  rw [← eM24] at hw
  refine lv_iload_n hx hb dX5_finds_25 rfl (lv_at hl 1 rfl) ?_
  exact rI hQ hx hb hr hlk hw dX5_finds_26 (o_2a h) rfl (o_2b h)
-- X5_orNone
def fX5_orNone (M : sOb) (a1 : Int32) : Option (Int32 × sOb) :=
  if 0 ≤ a1 then (some (a1, M)) else ((fX5_finds M (-1000000004 : Int32)).bind fun q7 => some (q7.1, q7.2))
def rmX5_orNone : Room := { frames := 1, cells := 0, slots := 0, locals := 21 }
theorem qqX5_orNone : yX5_orNone.cls = RX5 ∧ yX5_orNone.cls ≠ "java/lang/invoke/MethodHandle" ∧ yX5_orNone.cls ≠ "java/lang/invoke/VarHandle" ∧ (parseMethodDescriptor yX5_orNone.desc).map (fun d => d.parameters.length) = some 1 := by decide +kernel
set_option maxRecDepth 100000 in
set_option maxHeartbeats 4000000 in
theorem kX5_orNone (l : Launch) (G : sGl) {S : sWo} {M : sOb} {a1 : Int32} {q : (Int32 × sOb)}  (h : fX5_orNone M a1 = some q) : sCt l G yX5_orNone wsX5_orNone rmX5_orNone [.ref (sA G 9 0), .int a1] S M (some (.int q.1)) S q.2 := by
  refine cMk (cc := cX5_orNone) (maxL := 2) (ret := (some .int)) (by decide) rfl (Nat.le_of_ble_eq_true rfl) ?_
  intro p e s m args below meth c Q hQ hx hb hr hlk hml hown hts hw ls hl
  have hown : s.vm.findClass RX5 = some m.cls := hown
  have hl : lv_has ls 2 [(0, .ref (sA G 9 0)), (1, .int a1)] := hl
  unfold fX5_orNone at h
  refine lv_iload_n hx hb dX5_orNone_0 rfl (lv_at hl 1 rfl) ?_
  refine lv_if_ge (tgt := 13) hx hb dX5_orNone_1 (by decide) (fun c1 => ?_) (fun c1 => ?_)
  · replace h := o_t c1 h
    refine lv_iload_n hx hb dX5_orNone_13 rfl (lv_at hl 1 rfl) ?_
    exact rI hQ hx hb hr hlk hw dX5_orNone_14 (o_2a h) rfl (o_2b h)
  · replace h := o_f c1 h
    refine lv_aload_n hx hb dX5_orNone_4 rfl (lv_at hl 0 rfl) ?_
    refine lv_ldc (v := -1000000004) hx hb hown (hts (.constant RX5 39 (-1000000004)) (by decide +kernel)) dX5_orNone_5 ?_
    obtain ⟨q7, eq7, h⟩ := o_bd h
    refine kV (As := [.int (-1000000004 : Int32)]) (rest := []) (st' := [.int q7.1]) ⟨hx, hb, hml, hown, hts⟩ (kX5_finds l G eq7) (cwV 1 hts gX5_orNone_X5_finds rfl rfl rfl qqX5_finds ⟨Nat.le_of_ble_eq_true rfl, Nat.le_of_ble_eq_true rfl⟩) hw (rvMd hw) rfl hl.1 rfl (Nat.le_of_ble_eq_true rfl) dX5_orNone_7 ⟨Nat.zero_le _, Nat.zero_le _⟩ rfl (fun H locs hw => ?_)
    refine lv_goto (tgt := 14) hx hb dX5_orNone_10 (by decide) ?_
    exact rI hQ hx hb hr hlk hw dX5_orNone_14 (o_2a h) rfl (o_2b h)
-- X5_becomes
def fX5_becomes (M : sOb) (a1 : Int32) (a2 : Int32) : Option (Int32 × sOb) :=
  if a1 < 0 ∨ 77 ≤ a1.toNatClampNeg then none else nm (M.2.1 0 a1.toNatClampNeg) fun v6 => nm (sSa M 0 a1.toNatClampNeg a2) fun M13 => some (v6, M13)
def rmX5_becomes : Room := { frames := 0, cells := 0, slots := 0, locals := 0 }
theorem qqX5_becomes : yX5_becomes.cls = RX5 ∧ yX5_becomes.cls ≠ "java/lang/invoke/MethodHandle" ∧ yX5_becomes.cls ≠ "java/lang/invoke/VarHandle" ∧ (parseMethodDescriptor yX5_becomes.desc).map (fun d => d.parameters.length) = some 2 := by decide +kernel
set_option maxRecDepth 100000 in
set_option maxHeartbeats 4000000 in
theorem kX5_becomes (l : Launch) (G : sGl) {S : sWo} {M : sOb} {a1 : Int32} {a2 : Int32} {q : (Int32 × sOb)}  (h : fX5_becomes M a1 a2 = some q) : sCt l G yX5_becomes wsX5_becomes rmX5_becomes [.ref (sA G 9 0), .int a1, .int a2] S M (some (.int q.1)) S q.2 := by
  refine cMk (cc := cX5_becomes) (maxL := 4) (ret := (some .int)) (by decide) rfl (Nat.le_of_ble_eq_true rfl) ?_
  intro p e s m args below meth c Q hQ hx hb hr hlk hml hown hts hw ls hl
  have hown : s.vm.findClass RX5 = some m.cls := hown
  have hl : lv_has ls 4 [(0, .ref (sA G 9 0)), (1, .int a1), (2, .int a2)] := hl
  have hiX5 : ∀ w ∈ u_ws RX5 TX5 15, w ∈ wsX5_becomes := by decide +kernel
  unfold fX5_becomes at h
  refine lv_aload_n hx hb dX5_becomes_0 rfl (lv_at hl 0 rfl) ?_
  refine gMd (v := .ref (sA G 9 1)) hx hb hts hiX5 hown hw 0 (by decide) (hts (.fieldLink RX5 7 "SecondHomeModel" "s" "[I") (by decide +kernel)) rfl dX5_becomes_1 ?_
  refine lv_iload_n hx hb dX5_becomes_4 rfl (lv_at hl 1 rfl) ?_
  obtain ⟨b5, h⟩ := o_in h
  refine ldMd hx hb hw 0 (by decide) (n := 77) rfl b5 dX5_becomes_5 ?_
  refine lv_topi (fun v6 ev6 => ?_)
  replace h := o_nx ev6 h
  refine lv_istore_n (lv' := [(3, .int v6), (0, .ref (sA G 9 0)), (1, .int a1), (2, .int a2)]) hx hb dX5_becomes_6 rfl hl (by decide) rfl (fun ls hl => ?_)
  refine lv_aload_n hx hb dX5_becomes_7 rfl (lv_at hl 1 rfl) ?_
  refine gMd (v := .ref (sA G 9 1)) hx hb hts hiX5 hown hw 0 (by decide) (hts (.fieldLink RX5 7 "SecondHomeModel" "s" "[I") (by decide +kernel)) rfl dX5_becomes_8 ?_
  refine lv_iload_n hx hb dX5_becomes_11 rfl (lv_at hl 2 rfl) ?_
  refine lv_iload_n hx hb dX5_becomes_12 rfl (lv_at hl 3 rfl) ?_
  refine stMd hx hb hw 0 (by decide) (n := 77) rfl b5 dX5_becomes_13 rfl (fun H locs hw => ?_)
  obtain ⟨M13, eM13, h⟩ := o_nm h
  rw [← eM13] at hw
  refine lv_iload_n hx hb dX5_becomes_14 rfl (lv_at hl 0 rfl) ?_
  exact rI hQ hx hb hr hlk hw dX5_becomes_15 (o_2a h) rfl (o_2b h)
-- X5_is
def fX5_is (M : sOb) (a1 : Int32) (a2 : Int32) : Option Int32 :=
  if (((5 : Int32) + ((8 : Int32) * a1)) + a2) < 0 ∨ 77 ≤ (((5 : Int32) + ((8 : Int32) * a1)) + a2).toNatClampNeg then none else some (M.2.1 0 (((5 : Int32) + ((8 : Int32) * a1)) + a2).toNatClampNeg)
def rmX5_is : Room := { frames := 0, cells := 0, slots := 0, locals := 0 }
theorem qqX5_is : yX5_is.cls = RX5 ∧ yX5_is.cls ≠ "java/lang/invoke/MethodHandle" ∧ yX5_is.cls ≠ "java/lang/invoke/VarHandle" ∧ (parseMethodDescriptor yX5_is.desc).map (fun d => d.parameters.length) = some 2 := by decide +kernel
set_option maxRecDepth 100000 in
set_option maxHeartbeats 4000000 in
theorem kX5_is (l : Launch) (G : sGl) {S : sWo} {M : sOb} {a1 : Int32} {a2 : Int32} {q : Int32}  (h : fX5_is M a1 a2 = some q) : sCt l G yX5_is wsX5_is rmX5_is [.ref (sA G 9 0), .int a1, .int a2] S M (some (.int q)) S M := by
  refine cMk (cc := cX5_is) (maxL := 3) (ret := (some .int)) (by decide) rfl (Nat.le_of_ble_eq_true rfl) ?_
  intro p e s m args below meth c Q hQ hx hb hr hlk hml hown hts hw ls hl
  have hown : s.vm.findClass RX5 = some m.cls := hown
  have hl : lv_has ls 3 [(0, .ref (sA G 9 0)), (1, .int a1), (2, .int a2)] := hl
  have hiX5 : ∀ w ∈ u_ws RX5 TX5 15, w ∈ wsX5_is := by decide +kernel
  unfold fX5_is at h
  refine lv_aload_n hx hb dX5_is_0 rfl (lv_at hl 0 rfl) ?_
  refine gMd (v := .ref (sA G 9 1)) hx hb hts hiX5 hown hw 0 (by decide) (hts (.fieldLink RX5 7 "SecondHomeModel" "s" "[I") (by decide +kernel)) rfl dX5_is_1 ?_
  refine lv_iconst (v := 5) hx hb dX5_is_4 (by decide) ?_
  refine lv_bipush (v := 8) hx hb dX5_is_5 (by decide) ?_
  refine lv_iload_n hx hb dX5_is_7 rfl (lv_at hl 1 rfl) ?_
  refine lv_imul hx hb dX5_is_8 ?_
  refine lv_iadd hx hb dX5_is_9 ?_
  refine lv_iload_n hx hb dX5_is_10 rfl (lv_at hl 2 rfl) ?_
  refine lv_iadd hx hb dX5_is_11 ?_
  obtain ⟨b12, h⟩ := o_in h
  refine ldMd hx hb hw 0 (by decide) (n := 77) rfl b12 dX5_is_12 ?_
  exact rI hQ hx hb hr hlk hw dX5_is_13 (o_1 h) rfl rfl
-- X5_puts
def fX5_puts (M : sOb) (a1 : Int32) (a2 : Int32) (a3 : Int32) : Option sOb :=
  if (((5 : Int32) + ((8 : Int32) * a1)) + a2) < 0 ∨ 77 ≤ (((5 : Int32) + ((8 : Int32) * a1)) + a2).toNatClampNeg then none else nm (sSa M 0 (((5 : Int32) + ((8 : Int32) * a1)) + a2).toNatClampNeg a3) fun M13 => some M13
def rmX5_puts : Room := { frames := 0, cells := 0, slots := 0, locals := 0 }
theorem qqX5_puts : yX5_puts.cls = RX5 ∧ yX5_puts.cls ≠ "java/lang/invoke/MethodHandle" ∧ yX5_puts.cls ≠ "java/lang/invoke/VarHandle" ∧ (parseMethodDescriptor yX5_puts.desc).map (fun d => d.parameters.length) = some 3 := by decide +kernel
set_option maxRecDepth 100000 in
set_option maxHeartbeats 4000000 in
theorem kX5_puts (l : Launch) (G : sGl) {S : sWo} {M : sOb} {a1 : Int32} {a2 : Int32} {a3 : Int32} {q : sOb}  (h : fX5_puts M a1 a2 a3 = some q) : sCt l G yX5_puts wsX5_puts rmX5_puts [.ref (sA G 9 0), .int a1, .int a2, .int a3] S M none S q := by
  refine cMk (cc := cX5_puts) (maxL := 4) (ret := none) (by decide) rfl (Nat.le_of_ble_eq_true rfl) ?_
  intro p e s m args below meth c Q hQ hx hb hr hlk hml hown hts hw ls hl
  have hown : s.vm.findClass RX5 = some m.cls := hown
  have hl : lv_has ls 4 [(0, .ref (sA G 9 0)), (1, .int a1), (2, .int a2), (3, .int a3)] := hl
  have hiX5 : ∀ w ∈ u_ws RX5 TX5 15, w ∈ wsX5_puts := by decide +kernel
  unfold fX5_puts at h
  refine lv_aload_n hx hb dX5_puts_0 rfl (lv_at hl 0 rfl) ?_
  refine gMd (v := .ref (sA G 9 1)) hx hb hts hiX5 hown hw 0 (by decide) (hts (.fieldLink RX5 7 "SecondHomeModel" "s" "[I") (by decide +kernel)) rfl dX5_puts_1 ?_
  refine lv_iconst (v := 5) hx hb dX5_puts_4 (by decide) ?_
  refine lv_bipush (v := 8) hx hb dX5_puts_5 (by decide) ?_
  refine lv_iload_n hx hb dX5_puts_7 rfl (lv_at hl 1 rfl) ?_
  refine lv_imul hx hb dX5_puts_8 ?_
  refine lv_iadd hx hb dX5_puts_9 ?_
  refine lv_iload_n hx hb dX5_puts_10 rfl (lv_at hl 2 rfl) ?_
  refine lv_iadd hx hb dX5_puts_11 ?_
  refine lv_iload_n hx hb dX5_puts_12 rfl (lv_at hl 3 rfl) ?_
  obtain ⟨b13, h⟩ := o_in h
  refine stMd hx hb hw 0 (by decide) (n := 77) rfl b13 dX5_puts_13 rfl (fun H locs hw => ?_)
  obtain ⟨M13, eM13, h⟩ := o_nm h
  rw [← eM13] at hw
  exact rV hQ hx hb hr hlk hw dX5_puts_14 rfl (o_1 h)
-- X5_isRunner
def fX5_isRunner (M : sOb) (a1 : Int32) : Option Int32 :=
  if a1 < 0 then (some (0 : Int32)) else (if (M.2.1 0 (0 : Int32).toNatClampNeg) ≤ a1 then (some (0 : Int32)) else (some (1 : Int32)))
def rmX5_isRunner : Room := { frames := 0, cells := 0, slots := 0, locals := 0 }
theorem qqX5_isRunner : yX5_isRunner.cls = RX5 ∧ yX5_isRunner.cls ≠ "java/lang/invoke/MethodHandle" ∧ yX5_isRunner.cls ≠ "java/lang/invoke/VarHandle" ∧ (parseMethodDescriptor yX5_isRunner.desc).map (fun d => d.parameters.length) = some 1 := by decide +kernel
set_option maxRecDepth 100000 in
set_option maxHeartbeats 4000000 in
theorem kX5_isRunner (l : Launch) (G : sGl) {S : sWo} {M : sOb} {a1 : Int32} {q : Int32}  (h : fX5_isRunner M a1 = some q) : sCt l G yX5_isRunner wsX5_isRunner rmX5_isRunner [.ref (sA G 9 0), .int a1] S M (some (.int q)) S M := by
  refine cMk (cc := cX5_isRunner) (maxL := 2) (ret := (some .boolean)) (by decide) rfl (Nat.le_of_ble_eq_true rfl) ?_
  intro p e s m args below meth c Q hQ hx hb hr hlk hml hown hts hw ls hl
  have hown : s.vm.findClass RX5 = some m.cls := hown
  have hl : lv_has ls 2 [(0, .ref (sA G 9 0)), (1, .int a1)] := hl
  have hiX5 : ∀ w ∈ u_ws RX5 TX5 15, w ∈ wsX5_isRunner := by decide +kernel
  unfold fX5_isRunner at h
  refine lv_iload_n hx hb dX5_isRunner_0 rfl (lv_at hl 1 rfl) ?_
  refine lv_if_lt (tgt := 18) hx hb dX5_isRunner_1 (by decide) (fun c1 => ?_) (fun c1 => ?_)
  · replace h := o_t c1 h
    refine lv_iconst (v := 0) hx hb dX5_isRunner_18 (by decide) ?_
    exact rZ hQ hx hb hr hlk hw (Or.inl rfl) dX5_isRunner_19 (o_1 h) rfl rfl
  · replace h := o_f c1 h
    refine lv_iload_n hx hb dX5_isRunner_4 rfl (lv_at hl 1 rfl) ?_
    refine lv_aload_n hx hb dX5_isRunner_5 rfl (lv_at hl 0 rfl) ?_
    refine gMd (v := .ref (sA G 9 1)) hx hb hts hiX5 hown hw 0 (by decide) (hts (.fieldLink RX5 7 "SecondHomeModel" "s" "[I") (by decide +kernel)) rfl dX5_isRunner_6 ?_
    refine lv_iconst (v := 0) hx hb dX5_isRunner_9 (by decide) ?_
    refine ldMd hx hb hw 0 (by decide) (n := 77) rfl (by decide) dX5_isRunner_10 ?_
    refine lv_icmp_ge (tgt := 18) hx hb dX5_isRunner_11 (by decide) (fun c11 => ?_) (fun c11 => ?_)
    · replace h := o_t c11 h
      refine lv_iconst (v := 0) hx hb dX5_isRunner_18 (by decide) ?_
      exact rZ hQ hx hb hr hlk hw (Or.inl rfl) dX5_isRunner_19 (o_1 h) rfl rfl
    · replace h := o_f c11 h
      refine lv_iconst (v := 1) hx hb dX5_isRunner_14 (by decide) ?_
      refine lv_goto (tgt := 19) hx hb dX5_isRunner_15 (by decide) ?_
      exact rZ hQ hx hb hr hlk hw (Or.inr rfl) dX5_isRunner_19 (o_1 h) rfl rfl
-- X5_isHome
def fX5_isHome (M : sOb) (a1 : Int32) : Option Int32 :=
  (fX5_is M a1 (7 : Int32)).bind fun q4 => if q4 < 0 then (some (0 : Int32)) else (some (1 : Int32))
def rmX5_isHome : Room := { frames := 1, cells := 0, slots := 0, locals := 22 }
theorem qqX5_isHome : yX5_isHome.cls = RX5 ∧ yX5_isHome.cls ≠ "java/lang/invoke/MethodHandle" ∧ yX5_isHome.cls ≠ "java/lang/invoke/VarHandle" ∧ (parseMethodDescriptor yX5_isHome.desc).map (fun d => d.parameters.length) = some 1 := by decide +kernel
set_option maxRecDepth 100000 in
set_option maxHeartbeats 4000000 in
theorem kX5_isHome (l : Launch) (G : sGl) {S : sWo} {M : sOb} {a1 : Int32} {q : Int32}  (h : fX5_isHome M a1 = some q) : sCt l G yX5_isHome wsX5_isHome rmX5_isHome [.ref (sA G 9 0), .int a1] S M (some (.int q)) S M := by
  refine cMk (cc := cX5_isHome) (maxL := 2) (ret := (some .boolean)) (by decide) rfl (Nat.le_of_ble_eq_true rfl) ?_
  intro p e s m args below meth c Q hQ hx hb hr hlk hml hown hts hw ls hl
  have hown : s.vm.findClass RX5 = some m.cls := hown
  have hl : lv_has ls 2 [(0, .ref (sA G 9 0)), (1, .int a1)] := hl
  unfold fX5_isHome at h
  refine lv_aload_n hx hb dX5_isHome_0 rfl (lv_at hl 0 rfl) ?_
  refine lv_iload_n hx hb dX5_isHome_1 rfl (lv_at hl 1 rfl) ?_
  refine lv_bipush (v := 7) hx hb dX5_isHome_2 (by decide) ?_
  obtain ⟨q4, eq4, h⟩ := o_bd h
  refine kV (As := [.int a1, .int (7 : Int32)]) (rest := []) (st' := [.int q4]) ⟨hx, hb, hml, hown, hts⟩ (kX5_is l G eq4) (cwV 2 hts gX5_isHome_X5_is rfl rfl rfl qqX5_is ⟨Nat.le_of_ble_eq_true rfl, Nat.le_of_ble_eq_true rfl⟩) hw (rvMd hw) rfl hl.1 rfl (Nat.le_of_ble_eq_true rfl) dX5_isHome_4 ⟨Nat.zero_le _, Nat.zero_le _⟩ rfl (fun H locs hw => ?_)
  refine lv_if_lt (tgt := 14) hx hb dX5_isHome_7 (by decide) (fun c7 => ?_) (fun c7 => ?_)
  · replace h := o_t c7 h
    refine lv_iconst (v := 0) hx hb dX5_isHome_14 (by decide) ?_
    exact rZ hQ hx hb hr hlk hw (Or.inl rfl) dX5_isHome_15 (o_1 h) rfl rfl
  · replace h := o_f c7 h
    refine lv_iconst (v := 1) hx hb dX5_isHome_10 (by decide) ?_
    refine lv_goto (tgt := 15) hx hb dX5_isHome_11 (by decide) ?_
    exact rZ hQ hx hb hr hlk hw (Or.inr rfl) dX5_isHome_15 (o_1 h) rfl rfl
-- X5_laysBy
def bX5_laysBy_2 (rc2 : Int32 → sOb → Option sOb) (x1_2 : Int32) (T_2 : sOb) : Option sOb :=
  if (77 : Int32) ≤ x1_2 then (some T_2) else (if x1_2 < 0 ∨ 77 ≤ x1_2.toNatClampNeg then none else nm (sSa T_2 2 x1_2.toNatClampNeg (T_2.2.1 0 x1_2.toNatClampNeg)) fun M19 => nm (x1_2 + (1 : Int32)) fun v20 => rc2 v20 M19)
def fX5_laysBy (M : sOb) : Option sOb :=
  fx2 bX5_laysBy_2 FU (0 : Int32) M
def rmX5_laysBy : Room := { frames := 0, cells := 0, slots := 0, locals := 0 }
theorem qqX5_laysBy : yX5_laysBy.cls = RX5 ∧ yX5_laysBy.cls ≠ "java/lang/invoke/MethodHandle" ∧ yX5_laysBy.cls ≠ "java/lang/invoke/VarHandle" ∧ (parseMethodDescriptor yX5_laysBy.desc).map (fun d => d.parameters.length) = some 0 := by decide +kernel
set_option maxRecDepth 100000 in
set_option maxHeartbeats 4000000 in
theorem kX5_laysBy (l : Launch) (G : sGl) {S : sWo} {M : sOb}  {q : sOb}  (h : fX5_laysBy M = some q) : sCt l G yX5_laysBy wsX5_laysBy rmX5_laysBy [.ref (sA G 9 0)] S M none S q := by
  refine cMk (cc := cX5_laysBy) (maxL := 2) (ret := none) (by decide) rfl (Nat.le_of_ble_eq_true rfl) ?_
  intro p e s m args below meth c Q hQ hx hb hr hlk hml hown hts hw ls hl
  have hown : s.vm.findClass RX5 = some m.cls := hown
  have hl : lv_has ls 2 [(0, .ref (sA G 9 0))] := hl
  have hiX5 : ∀ w ∈ u_ws RX5 TX5 15, w ∈ wsX5_laysBy := by decide +kernel
  unfold fX5_laysBy at h
  refine lv_iconst (v := 0) hx hb dX5_laysBy_0 (by decide) ?_
  refine lv_istore_n (lv' := [(1, .int (0 : Int32)), (0, .ref (sA G 9 0))]) hx hb dX5_laysBy_1 rfl hl (by decide) rfl (fun ls hl => ?_)
  refine fx2_w (F := bX5_laysBy_2) (P := fun x1_2 T_2 => ∀ (H : Heap) (locs : List Loc) (ls : Array Slot), sHw G s S T_2 H locs → lv_has ls 2 [(0, .ref (sA G 9 0)), (1, .int x1_2)] → W p l e rmX5_laysBy s m args below meth c H locs 0 0 Q (F0 m 2 ls [])) ?_ _ _ _ h _ _ _ hw (lv_sub hl [1, 0] rfl)
  intro rc2 IH2 x1_2 T_2 h H locs ls hw hl
  unfold bX5_laysBy_2 at h
  refine lv_iload_n hx hb dX5_laysBy_2 rfl (lv_at hl 1 rfl) ?_
  refine lv_bipush (v := 77) hx hb dX5_laysBy_3 (by decide) ?_
  refine lv_icmp_ge (tgt := 26) hx hb dX5_laysBy_5 (by decide) (fun c5 => ?_) (fun c5 => ?_)
  · replace h := o_t c5 h
    exact rV hQ hx hb hr hlk hw dX5_laysBy_26 rfl (o_1 h)
  · replace h := o_f c5 h
    refine lv_aload_n hx hb dX5_laysBy_8 rfl (lv_at hl 0 rfl) ?_
    refine gMd (v := .ref (sA G 9 3)) hx hb hts hiX5 hown hw 2 (by decide) (hts (.fieldLink RX5 16 "SecondHomeModel" "close" "[I") (by decide +kernel)) rfl dX5_laysBy_9 ?_
    refine lv_iload_n hx hb dX5_laysBy_12 rfl (lv_at hl 1 rfl) ?_
    refine lv_aload_n hx hb dX5_laysBy_13 rfl (lv_at hl 0 rfl) ?_
    refine gMd (v := .ref (sA G 9 1)) hx hb hts hiX5 hown hw 0 (by decide) (hts (.fieldLink RX5 7 "SecondHomeModel" "s" "[I") (by decide +kernel)) rfl dX5_laysBy_14 ?_
    refine lv_iload_n hx hb dX5_laysBy_17 rfl (lv_at hl 1 rfl) ?_
    obtain ⟨b18, h⟩ := o_in h
    refine ldMd hx hb hw 0 (by decide) (n := 77) rfl b18 dX5_laysBy_18 ?_
    refine stMd hx hb hw 2 (by decide) (n := 77) rfl b18 dX5_laysBy_19 rfl (fun H locs hw => ?_)
    obtain ⟨M19, eM19, h⟩ := o_nm h
    rw [← eM19] at hw
    obtain ⟨v20, ev20, h⟩ := o_nm h
    refine lv_iinc (v := v20) (lv' := [(1, .int v20), (0, .ref (sA G 9 0))]) hx hb dX5_laysBy_20 hl (k := 1) rfl (by rw [ev20]; rfl) (by decide) rfl (fun ls hl => ?_)
    refine lv_goto (tgt := 2) hx hb dX5_laysBy_23 (by decide) ?_
    exact IH2 v20 M19 h _ _ _ hw (lv_sub hl [1, 0] rfl)
-- X5_laysBack
def bX5_laysBack_2 (rc2 : Int32 → sOb → Option sOb) (x1_2 : Int32) (T_2 : sOb) : Option sOb :=
  if (77 : Int32) ≤ x1_2 then (some T_2) else (if x1_2 < 0 ∨ 77 ≤ x1_2.toNatClampNeg then none else nm (sSa T_2 0 x1_2.toNatClampNeg (T_2.2.1 2 x1_2.toNatClampNeg)) fun M19 => nm (x1_2 + (1 : Int32)) fun v20 => rc2 v20 M19)
def fX5_laysBack (M : sOb) : Option sOb :=
  fx2 bX5_laysBack_2 FU (0 : Int32) M
def rmX5_laysBack : Room := { frames := 0, cells := 0, slots := 0, locals := 0 }
theorem qqX5_laysBack : yX5_laysBack.cls = RX5 ∧ yX5_laysBack.cls ≠ "java/lang/invoke/MethodHandle" ∧ yX5_laysBack.cls ≠ "java/lang/invoke/VarHandle" ∧ (parseMethodDescriptor yX5_laysBack.desc).map (fun d => d.parameters.length) = some 0 := by decide +kernel
set_option maxRecDepth 100000 in
set_option maxHeartbeats 4000000 in
theorem kX5_laysBack (l : Launch) (G : sGl) {S : sWo} {M : sOb}  {q : sOb}  (h : fX5_laysBack M = some q) : sCt l G yX5_laysBack wsX5_laysBack rmX5_laysBack [.ref (sA G 9 0)] S M none S q := by
  refine cMk (cc := cX5_laysBack) (maxL := 2) (ret := none) (by decide) rfl (Nat.le_of_ble_eq_true rfl) ?_
  intro p e s m args below meth c Q hQ hx hb hr hlk hml hown hts hw ls hl
  have hown : s.vm.findClass RX5 = some m.cls := hown
  have hl : lv_has ls 2 [(0, .ref (sA G 9 0))] := hl
  have hiX5 : ∀ w ∈ u_ws RX5 TX5 15, w ∈ wsX5_laysBack := by decide +kernel
  unfold fX5_laysBack at h
  refine lv_iconst (v := 0) hx hb dX5_laysBack_0 (by decide) ?_
  refine lv_istore_n (lv' := [(1, .int (0 : Int32)), (0, .ref (sA G 9 0))]) hx hb dX5_laysBack_1 rfl hl (by decide) rfl (fun ls hl => ?_)
  refine fx2_w (F := bX5_laysBack_2) (P := fun x1_2 T_2 => ∀ (H : Heap) (locs : List Loc) (ls : Array Slot), sHw G s S T_2 H locs → lv_has ls 2 [(0, .ref (sA G 9 0)), (1, .int x1_2)] → W p l e rmX5_laysBack s m args below meth c H locs 0 0 Q (F0 m 2 ls [])) ?_ _ _ _ h _ _ _ hw (lv_sub hl [1, 0] rfl)
  intro rc2 IH2 x1_2 T_2 h H locs ls hw hl
  unfold bX5_laysBack_2 at h
  refine lv_iload_n hx hb dX5_laysBack_2 rfl (lv_at hl 1 rfl) ?_
  refine lv_bipush (v := 77) hx hb dX5_laysBack_3 (by decide) ?_
  refine lv_icmp_ge (tgt := 26) hx hb dX5_laysBack_5 (by decide) (fun c5 => ?_) (fun c5 => ?_)
  · replace h := o_t c5 h
    exact rV hQ hx hb hr hlk hw dX5_laysBack_26 rfl (o_1 h)
  · replace h := o_f c5 h
    refine lv_aload_n hx hb dX5_laysBack_8 rfl (lv_at hl 0 rfl) ?_
    refine gMd (v := .ref (sA G 9 1)) hx hb hts hiX5 hown hw 0 (by decide) (hts (.fieldLink RX5 7 "SecondHomeModel" "s" "[I") (by decide +kernel)) rfl dX5_laysBack_9 ?_
    refine lv_iload_n hx hb dX5_laysBack_12 rfl (lv_at hl 1 rfl) ?_
    refine lv_aload_n hx hb dX5_laysBack_13 rfl (lv_at hl 0 rfl) ?_
    refine gMd (v := .ref (sA G 9 3)) hx hb hts hiX5 hown hw 2 (by decide) (hts (.fieldLink RX5 16 "SecondHomeModel" "close" "[I") (by decide +kernel)) rfl dX5_laysBack_14 ?_
    refine lv_iload_n hx hb dX5_laysBack_17 rfl (lv_at hl 1 rfl) ?_
    obtain ⟨b18, h⟩ := o_in h
    refine ldMd hx hb hw 2 (by decide) (n := 77) rfl b18 dX5_laysBack_18 ?_
    refine stMd hx hb hw 0 (by decide) (n := 77) rfl b18 dX5_laysBack_19 rfl (fun H locs hw => ?_)
    obtain ⟨M19, eM19, h⟩ := o_nm h
    rw [← eM19] at hw
    obtain ⟨v20, ev20, h⟩ := o_nm h
    refine lv_iinc (v := v20) (lv' := [(1, .int v20), (0, .ref (sA G 9 0))]) hx hb dX5_laysBack_20 hl (k := 1) rfl (by rw [ev20]; rfl) (by decide) rfl (fun ls hl => ?_)
    refine lv_goto (tgt := 2) hx hb dX5_laysBack_23 (by decide) ?_
    exact IH2 v20 M19 h _ _ _ hw (lv_sub hl [1, 0] rfl)
-- X5_leastOf
def fX5_leastOf (a0 : Int32) : Option Int32 :=
  if a0 = 0 then (some (10 : Int32)) else (some (0 : Int32))
def rmX5_leastOf : Room := { frames := 0, cells := 0, slots := 0, locals := 0 }
theorem qqX5_leastOf : yX5_leastOf.cls ≠ "java/lang/invoke/MethodHandle" ∧ yX5_leastOf.cls ≠ "java/lang/invoke/VarHandle" ∧ (parseMethodDescriptor yX5_leastOf.desc).map (fun d => d.parameters.length) = some 1 := by decide +kernel
set_option maxRecDepth 100000 in
set_option maxHeartbeats 4000000 in
theorem kX5_leastOf (l : Launch) (G : sGl) {S : sWo} {M : sOb} {a0 : Int32} {q : Int32}  (h : fX5_leastOf a0 = some q) : sCt l G yX5_leastOf wsX5_leastOf rmX5_leastOf [.int a0] S M (some (.int q)) S M := by
  refine cMk (cc := cX5_leastOf) (maxL := 1) (ret := (some .int)) (by decide) rfl (Nat.le_of_ble_eq_true rfl) ?_
  intro p e s m args below meth c Q hQ hx hb hr hlk hml hown hts hw ls hl
  have hown : s.vm.findClass RX5 = some m.cls := hown
  have hl : lv_has ls 1 [(0, .int a0)] := hl
  unfold fX5_leastOf at h
  refine lv_iload_n hx hb dX5_leastOf_0 rfl (lv_at hl 0 rfl) ?_
  refine lv_if_ne (tgt := 9) hx hb dX5_leastOf_1 (by decide) (fun c1 => ?_) (fun c1 => ?_)
  · replace h := o_f c1 h
    refine lv_iconst (v := 0) hx hb dX5_leastOf_9 (by decide) ?_
    exact rI hQ hx hb hr hlk hw dX5_leastOf_10 (o_1 h) rfl rfl
  · replace h := o_t c1 h
    refine lv_bipush (v := 10) hx hb dX5_leastOf_4 (by decide) ?_
    refine lv_goto (tgt := 10) hx hb dX5_leastOf_6 (by decide) ?_
    exact rI hQ hx hb hr hlk hw dX5_leastOf_10 (o_1 h) rfl rfl
-- X5_mostOf
def fX5_mostOf (a0 : Int32) : Option Int32 :=
  if a0 = 0 then (some (9999 : Int32)) else (if a0 = (1 : Int32) then (some (5 : Int32)) else (some (3 : Int32)))
def rmX5_mostOf : Room := { frames := 0, cells := 0, slots := 0, locals := 0 }
theorem qqX5_mostOf : yX5_mostOf.cls ≠ "java/lang/invoke/MethodHandle" ∧ yX5_mostOf.cls ≠ "java/lang/invoke/VarHandle" ∧ (parseMethodDescriptor yX5_mostOf.desc).map (fun d => d.parameters.length) = some 1 := by decide +kernel
set_option maxRecDepth 100000 in
set_option maxHeartbeats 4000000 in
theorem kX5_mostOf (l : Launch) (G : sGl) {S : sWo} {M : sOb} {a0 : Int32} {q : Int32}  (h : fX5_mostOf a0 = some q) : sCt l G yX5_mostOf wsX5_mostOf rmX5_mostOf [.int a0] S M (some (.int q)) S M := by
  refine cMk (cc := cX5_mostOf) (maxL := 1) (ret := (some .int)) (by decide) rfl (Nat.le_of_ble_eq_true rfl) ?_
  intro p e s m args below meth c Q hQ hx hb hr hlk hml hown hts hw ls hl
  have hown : s.vm.findClass RX5 = some m.cls := hown
  have hl : lv_has ls 1 [(0, .int a0)] := hl
  unfold fX5_mostOf at h
  refine lv_iload_n hx hb dX5_mostOf_0 rfl (lv_at hl 0 rfl) ?_
  refine lv_if_ne (tgt := 10) hx hb dX5_mostOf_1 (by decide) (fun c1 => ?_) (fun c1 => ?_)
  · replace h := o_f c1 h
    refine lv_iload_n hx hb dX5_mostOf_10 rfl (lv_at hl 0 rfl) ?_
    refine lv_iconst (v := 1) hx hb dX5_mostOf_11 (by decide) ?_
    refine lv_icmp_ne (tgt := 19) hx hb dX5_mostOf_12 (by decide) (fun c12 => ?_) (fun c12 => ?_)
    · replace h := o_f c12 h
      refine lv_iconst (v := 3) hx hb dX5_mostOf_19 (by decide) ?_
      exact rI hQ hx hb hr hlk hw dX5_mostOf_20 (o_1 h) rfl rfl
    · replace h := o_t c12 h
      refine lv_iconst (v := 5) hx hb dX5_mostOf_15 (by decide) ?_
      refine lv_goto (tgt := 20) hx hb dX5_mostOf_16 (by decide) ?_
      exact rI hQ hx hb hr hlk hw dX5_mostOf_20 (o_1 h) rfl rfl
  · replace h := o_t c1 h
    refine lv_sipush (v := 9999) hx hb dX5_mostOf_4 (by decide) ?_
    refine lv_goto (tgt := 20) hx hb dX5_mostOf_7 (by decide) ?_
    exact rI hQ hx hb hr hlk hw dX5_mostOf_20 (o_1 h) rfl rfl
-- X5_let
def fX5_let (M : sOb) (a1 : Int32) (a2 : Int32) : Option (Int32 × sOb) :=
  (fX5_isIn a1.toInt64 (0 : Int64) (2 : Int64)).bind fun q6 => if q6 = 0 then ((fX5_finds M (-1000000001 : Int32)).bind fun q33 => some (q33.1, q33.2)) else ((fX5_leastOf a1).bind fun q15 => (fX5_mostOf a1).bind fun q20 => (fX5_isIn a2.toInt64 q15.toInt64 q20.toInt64).bind fun q24 => if q24 = 0 then ((fX5_finds M (-1000000001 : Int32)).bind fun q33 => some (q33.1, q33.2)) else (nm ((fX5_becomes M ((1 : Int32) + a1) a2).bind fun q62 => some (q62.1, q62.2)) fun k57 => if a1 = 0 then (if (M.2.1 0 (0 : Int32).toNatClampNeg) ≤ 0 then k57 else ((fX5_finds M (-1000000005 : Int32)).bind fun q53 => some (q53.1, q53.2))) else k57))
def rmX5_let : Room := { frames := 1, cells := 0, slots := 0, locals := 25 }
theorem qqX5_let : yX5_let.cls = RX5 ∧ yX5_let.cls ≠ "java/lang/invoke/MethodHandle" ∧ yX5_let.cls ≠ "java/lang/invoke/VarHandle" ∧ (parseMethodDescriptor yX5_let.desc).map (fun d => d.parameters.length) = some 2 := by decide +kernel
set_option maxRecDepth 100000 in
set_option maxHeartbeats 4000000 in
theorem kX5_let (l : Launch) (G : sGl) {S : sWo} {M : sOb} {a1 : Int32} {a2 : Int32} {q : (Int32 × sOb)}  (h : fX5_let M a1 a2 = some q) : sCt l G yX5_let wsX5_let rmX5_let [.ref (sA G 9 0), .int a1, .int a2] S M (some (.int q.1)) S q.2 := by
  refine cMk (cc := cX5_let) (maxL := 3) (ret := (some .int)) (by decide) rfl (Nat.le_of_ble_eq_true rfl) ?_
  intro p e s m args below meth c Q hQ hx hb hr hlk hml hown hts hw ls hl
  have hown : s.vm.findClass RX5 = some m.cls := hown
  have hl : lv_has ls 3 [(0, .ref (sA G 9 0)), (1, .int a1), (2, .int a2)] := hl
  have hiX5 : ∀ w ∈ u_ws RX5 TX5 15, w ∈ wsX5_let := by decide +kernel
  unfold fX5_let at h
  refine lv_iload_n hx hb dX5_let_0 rfl (lv_at hl 1 rfl) ?_
  refine lv_i2l hx hb dX5_let_1 rfl ?_
  refine lv_lconst (v := 0) hx hb dX5_let_2 (by decide) ?_
  refine lv_ldc2 (v := 2) hx hb hown (hts (.constantLong RX5 48 (2)) (by decide +kernel)) dX5_let_3 ?_
  obtain ⟨q6, eq6, h⟩ := o_bd h
  refine kS (As := [.long a1.toInt64, .long (0 : Int64), .long (2 : Int64)]) (rest := []) (st' := [.int q6]) ⟨hx, hb, hml, hown, hts⟩ (kX5_isIn l G eq6) (va_cwS 3 hts gX5_let_X5_isIn rfl rfl rfl qqX5_isIn ⟨Nat.le_of_ble_eq_true rfl, Nat.le_of_ble_eq_true rfl⟩) hw rfl hl.1 rfl (Nat.le_of_ble_eq_true rfl) dX5_let_6 ⟨Nat.zero_le _, Nat.zero_le _⟩ rfl (fun H locs hw => ?_)
  refine lv_if_eq (tgt := 30) hx hb dX5_let_9 (by decide) (fun c9 => ?_) (fun c9 => ?_)
  · replace h := o_t c9 h
    refine lv_aload_n hx hb dX5_let_30 rfl (lv_at hl 0 rfl) ?_
    refine lv_ldc (v := -1000000001) hx hb hown (hts (.constant RX5 38 (-1000000001)) (by decide +kernel)) dX5_let_31 ?_
    obtain ⟨q33, eq33, h⟩ := o_bd h
    refine kV (As := [.int (-1000000001 : Int32)]) (rest := []) (st' := [.int q33.1]) ⟨hx, hb, hml, hown, hts⟩ (kX5_finds l G eq33) (cwV 1 hts gX5_let_X5_finds rfl rfl rfl qqX5_finds ⟨Nat.le_of_ble_eq_true rfl, Nat.le_of_ble_eq_true rfl⟩) hw (rvMd hw) rfl hl.1 rfl (Nat.le_of_ble_eq_true rfl) dX5_let_33 ⟨Nat.zero_le _, Nat.zero_le _⟩ rfl (fun H locs hw => ?_)
    exact rI hQ hx hb hr hlk hw dX5_let_36 (o_2a h) rfl (o_2b h)
  · replace h := o_f c9 h
    refine lv_iload_n hx hb dX5_let_12 rfl (lv_at hl 2 rfl) ?_
    refine lv_i2l hx hb dX5_let_13 rfl ?_
    refine lv_iload_n hx hb dX5_let_14 rfl (lv_at hl 1 rfl) ?_
    obtain ⟨q15, eq15, h⟩ := o_bd h
    refine kS (As := [.int a1]) (rest := [.long a2.toInt64]) (st' := [.int q15, .long a2.toInt64]) ⟨hx, hb, hml, hown, hts⟩ (kX5_leastOf l G eq15) (va_cwS 1 hts gX5_let_X5_leastOf rfl rfl rfl qqX5_leastOf ⟨Nat.le_of_ble_eq_true rfl, Nat.le_of_ble_eq_true rfl⟩) hw rfl hl.1 rfl (Nat.le_of_ble_eq_true rfl) dX5_let_15 ⟨Nat.zero_le _, Nat.zero_le _⟩ rfl (fun H locs hw => ?_)
    refine lv_i2l hx hb dX5_let_18 rfl ?_
    refine lv_iload_n hx hb dX5_let_19 rfl (lv_at hl 1 rfl) ?_
    obtain ⟨q20, eq20, h⟩ := o_bd h
    refine kS (As := [.int a1]) (rest := [.long q15.toInt64, .long a2.toInt64]) (st' := [.int q20, .long q15.toInt64, .long a2.toInt64]) ⟨hx, hb, hml, hown, hts⟩ (kX5_mostOf l G eq20) (va_cwS 1 hts gX5_let_X5_mostOf rfl rfl rfl qqX5_mostOf ⟨Nat.le_of_ble_eq_true rfl, Nat.le_of_ble_eq_true rfl⟩) hw rfl hl.1 rfl (Nat.le_of_ble_eq_true rfl) dX5_let_20 ⟨Nat.zero_le _, Nat.zero_le _⟩ rfl (fun H locs hw => ?_)
    refine lv_i2l hx hb dX5_let_23 rfl ?_
    obtain ⟨q24, eq24, h⟩ := o_bd h
    refine kS (As := [.long a2.toInt64, .long q15.toInt64, .long q20.toInt64]) (rest := []) (st' := [.int q24]) ⟨hx, hb, hml, hown, hts⟩ (kX5_isIn l G eq24) (va_cwS 3 hts gX5_let_X5_isIn rfl rfl rfl qqX5_isIn ⟨Nat.le_of_ble_eq_true rfl, Nat.le_of_ble_eq_true rfl⟩) hw rfl hl.1 rfl (Nat.le_of_ble_eq_true rfl) dX5_let_24 ⟨Nat.zero_le _, Nat.zero_le _⟩ rfl (fun H locs hw => ?_)
    refine lv_if_ne (tgt := 37) hx hb dX5_let_27 (by decide) (fun c27 => ?_) (fun c27 => ?_)
    · replace h := o_f c27 h
      refine lv_iload_n hx hb dX5_let_37 rfl (lv_at hl 1 rfl) ?_
      obtain ⟨k57, ek57, h⟩ := o_nm h
      have J57 : ∀ (H : Heap) (locs : List Loc) (ls : Array Slot), sHw G s S M H locs → lv_has ls 3 [(0, .ref (sA G 9 0)), (1, .int a1), (2, .int a2)] → k57 = some q → W p l e rmX5_let s m args below meth c H locs 0 0 Q (F0 m 57 ls []) := by
        intro H locs ls hw hl h
        replace h := o_j0 ek57 h
        refine lv_aload_n hx hb dX5_let_57 rfl (lv_at hl 0 rfl) ?_
        refine lv_iconst (v := 1) hx hb dX5_let_58 (by decide) ?_
        refine lv_iload_n hx hb dX5_let_59 rfl (lv_at hl 1 rfl) ?_
        refine lv_iadd hx hb dX5_let_60 ?_
        refine lv_iload_n hx hb dX5_let_61 rfl (lv_at hl 2 rfl) ?_
        obtain ⟨q62, eq62, h⟩ := o_bd h
        refine kV (As := [.int ((1 : Int32) + a1), .int a2]) (rest := []) (st' := [.int q62.1]) ⟨hx, hb, hml, hown, hts⟩ (kX5_becomes l G eq62) (cwV 2 hts gX5_let_X5_becomes rfl rfl rfl qqX5_becomes ⟨Nat.le_of_ble_eq_true rfl, Nat.le_of_ble_eq_true rfl⟩) hw (rvMd hw) rfl hl.1 rfl (Nat.le_of_ble_eq_true rfl) dX5_let_62 ⟨Nat.zero_le _, Nat.zero_le _⟩ rfl (fun H locs hw => ?_)
        exact rI hQ hx hb hr hlk hw dX5_let_65 (o_2a h) rfl (o_2b h)
      refine lv_if_ne (tgt := 57) hx hb dX5_let_38 (by decide) (fun c38 => ?_) (fun c38 => ?_)
      · replace h := o_f c38 h
        exact J57 _ _ _ hw (lv_sub hl [0, 1, 2] rfl) h
      · replace h := o_t c38 h
        refine lv_aload_n hx hb dX5_let_41 rfl (lv_at hl 0 rfl) ?_
        refine gMd (v := .ref (sA G 9 1)) hx hb hts hiX5 hown hw 0 (by decide) (hts (.fieldLink RX5 7 "SecondHomeModel" "s" "[I") (by decide +kernel)) rfl dX5_let_42 ?_
        refine lv_iconst (v := 0) hx hb dX5_let_45 (by decide) ?_
        refine ldMd hx hb hw 0 (by decide) (n := 77) rfl (by decide) dX5_let_46 ?_
        refine lv_if_le (tgt := 57) hx hb dX5_let_47 (by decide) (fun c47 => ?_) (fun c47 => ?_)
        · replace h := o_t c47 h
          exact J57 _ _ _ hw (lv_sub hl [0, 1, 2] rfl) h
        · replace h := o_f c47 h
          refine lv_aload_n hx hb dX5_let_50 rfl (lv_at hl 0 rfl) ?_
          refine lv_ldc (v := -1000000005) hx hb hown (hts (.constant RX5 60 (-1000000005)) (by decide +kernel)) dX5_let_51 ?_
          obtain ⟨q53, eq53, h⟩ := o_bd h
          refine kV (As := [.int (-1000000005 : Int32)]) (rest := []) (st' := [.int q53.1]) ⟨hx, hb, hml, hown, hts⟩ (kX5_finds l G eq53) (cwV 1 hts gX5_let_X5_finds rfl rfl rfl qqX5_finds ⟨Nat.le_of_ble_eq_true rfl, Nat.le_of_ble_eq_true rfl⟩) hw (rvMd hw) rfl hl.1 rfl (Nat.le_of_ble_eq_true rfl) dX5_let_53 ⟨Nat.zero_le _, Nat.zero_le _⟩ rfl (fun H locs hw => ?_)
          exact rI hQ hx hb hr hlk hw dX5_let_56 (o_2a h) rfl (o_2b h)
    · replace h := o_t c27 h
      refine lv_aload_n hx hb dX5_let_30 rfl (lv_at hl 0 rfl) ?_
      refine lv_ldc (v := -1000000001) hx hb hown (hts (.constant RX5 38 (-1000000001)) (by decide +kernel)) dX5_let_31 ?_
      obtain ⟨q33, eq33, h⟩ := o_bd h
      refine kV (As := [.int (-1000000001 : Int32)]) (rest := []) (st' := [.int q33.1]) ⟨hx, hb, hml, hown, hts⟩ (kX5_finds l G eq33) (cwV 1 hts gX5_let_X5_finds rfl rfl rfl qqX5_finds ⟨Nat.le_of_ble_eq_true rfl, Nat.le_of_ble_eq_true rfl⟩) hw (rvMd hw) rfl hl.1 rfl (Nat.le_of_ble_eq_true rfl) dX5_let_33 ⟨Nat.zero_le _, Nat.zero_le _⟩ rfl (fun H locs hw => ?_)
      exact rI hQ hx hb hr hlk hw dX5_let_36 (o_2a h) rfl (o_2b h)
-- X5_comes
def fX5_comes (M : sOb) (a1 : Int32) (a2 : Int32) : Option (Int32 × sOb) :=
  nm (M.2.1 0 (0 : Int32).toNatClampNeg) fun v6 => nm (sSa M 0 (0 : Int32).toNatClampNeg ((M.2.1 0 (0 : Int32).toNatClampNeg) + (1 : Int32))) fun M16 => (fX5_puts M16 v6 (0 : Int32) a1).bind fun q21 => (fX5_puts q21 v6 (1 : Int32) a2).bind fun q28 => (fX5_puts q28 v6 (2 : Int32) (100 : Int32)).bind fun q36 => (fX5_puts q36 v6 (3 : Int32) (-1 : Int32)).bind fun q43 => (fX5_puts q43 v6 (4 : Int32) (0 : Int32)).bind fun q50 => (fX5_puts q50 v6 (5 : Int32) (0 : Int32)).bind fun q57 => (fX5_puts q57 v6 (6 : Int32) (0 : Int32)).bind fun q65 => (fX5_puts q65 v6 (7 : Int32) (-1 : Int32)).bind fun q73 => some (v6, q73)
def rmX5_comes : Room := { frames := 1, cells := 0, slots := 0, locals := 23 }
theorem qqX5_comes : yX5_comes.cls = RX5 ∧ yX5_comes.cls ≠ "java/lang/invoke/MethodHandle" ∧ yX5_comes.cls ≠ "java/lang/invoke/VarHandle" ∧ (parseMethodDescriptor yX5_comes.desc).map (fun d => d.parameters.length) = some 2 := by decide +kernel
set_option maxRecDepth 100000 in
set_option maxHeartbeats 4000000 in
theorem kX5_comes (l : Launch) (G : sGl) {S : sWo} {M : sOb} {a1 : Int32} {a2 : Int32} {q : (Int32 × sOb)}  (h : fX5_comes M a1 a2 = some q) : sCt l G yX5_comes wsX5_comes rmX5_comes [.ref (sA G 9 0), .int a1, .int a2] S M (some (.int q.1)) S q.2 := by
  refine cMk (cc := cX5_comes) (maxL := 4) (ret := (some .int)) (by decide) rfl (Nat.le_of_ble_eq_true rfl) ?_
  intro p e s m args below meth c Q hQ hx hb hr hlk hml hown hts hw ls hl
  have hown : s.vm.findClass RX5 = some m.cls := hown
  have hl : lv_has ls 4 [(0, .ref (sA G 9 0)), (1, .int a1), (2, .int a2)] := hl
  have hiX5 : ∀ w ∈ u_ws RX5 TX5 15, w ∈ wsX5_comes := by decide +kernel
  unfold fX5_comes at h
  refine lv_aload_n hx hb dX5_comes_0 rfl (lv_at hl 0 rfl) ?_
  refine gMd (v := .ref (sA G 9 1)) hx hb hts hiX5 hown hw 0 (by decide) (hts (.fieldLink RX5 7 "SecondHomeModel" "s" "[I") (by decide +kernel)) rfl dX5_comes_1 ?_
  refine lv_iconst (v := 0) hx hb dX5_comes_4 (by decide) ?_
  refine ldMd hx hb hw 0 (by decide) (n := 77) rfl (by decide) dX5_comes_5 ?_
  refine lv_topi (fun v6 ev6 => ?_)
  replace h := o_nx ev6 h
  refine lv_istore_n (lv' := [(3, .int v6), (0, .ref (sA G 9 0)), (1, .int a1), (2, .int a2)]) hx hb dX5_comes_6 rfl hl (by decide) rfl (fun ls hl => ?_)
  refine lv_aload_n hx hb dX5_comes_7 rfl (lv_at hl 1 rfl) ?_
  refine gMd (v := .ref (sA G 9 1)) hx hb hts hiX5 hown hw 0 (by decide) (hts (.fieldLink RX5 7 "SecondHomeModel" "s" "[I") (by decide +kernel)) rfl dX5_comes_8 ?_
  refine lv_iconst (v := 0) hx hb dX5_comes_11 (by decide) ?_
  refine lv_dup2_11 hx hb dX5_comes_12 rfl rfl ?_
  refine ldMd hx hb hw 0 (by decide) (n := 77) rfl (by decide) dX5_comes_13 ?_
  refine lv_iconst (v := 1) hx hb dX5_comes_14 (by decide) ?_
  refine lv_iadd hx hb dX5_comes_15 ?_
  refine stMd hx hb hw 0 (by decide) (n := 77) rfl (by decide) dX5_comes_16 rfl (fun H locs hw => ?_)
  obtain ⟨M16, eM16, h⟩ := o_nm h
  rw [← eM16] at hw
  refine lv_aload_n hx hb dX5_comes_17 rfl (lv_at hl 1 rfl) ?_
  refine lv_iload_n hx hb dX5_comes_18 rfl (lv_at hl 0 rfl) ?_
  refine lv_iconst (v := 0) hx hb dX5_comes_19 (by decide) ?_
  refine lv_iload_n hx hb dX5_comes_20 rfl (lv_at hl 2 rfl) ?_
  obtain ⟨q21, eq21, h⟩ := o_bd h
  refine kV (As := [.int v6, .int (0 : Int32), .int a1]) (rest := []) (st' := []) ⟨hx, hb, hml, hown, hts⟩ (kX5_puts l G eq21) (cwV 3 hts gX5_comes_X5_puts rfl rfl rfl qqX5_puts ⟨Nat.le_of_ble_eq_true rfl, Nat.le_of_ble_eq_true rfl⟩) hw (rvMd hw) rfl hl.1 rfl (Nat.le_of_ble_eq_true rfl) dX5_comes_21 ⟨Nat.zero_le _, Nat.zero_le _⟩ rfl (fun H locs hw => ?_)
  refine lv_aload_n hx hb dX5_comes_24 rfl (lv_at hl 1 rfl) ?_
  refine lv_iload_n hx hb dX5_comes_25 rfl (lv_at hl 0 rfl) ?_
  refine lv_iconst (v := 1) hx hb dX5_comes_26 (by decide) ?_
  refine lv_iload_n hx hb dX5_comes_27 rfl (lv_at hl 3 rfl) ?_
  obtain ⟨q28, eq28, h⟩ := o_bd h
  refine kV (As := [.int v6, .int (1 : Int32), .int a2]) (rest := []) (st' := []) ⟨hx, hb, hml, hown, hts⟩ (kX5_puts l G eq28) (cwV 3 hts gX5_comes_X5_puts rfl rfl rfl qqX5_puts ⟨Nat.le_of_ble_eq_true rfl, Nat.le_of_ble_eq_true rfl⟩) hw (rvMd hw) rfl hl.1 rfl (Nat.le_of_ble_eq_true rfl) dX5_comes_28 ⟨Nat.zero_le _, Nat.zero_le _⟩ rfl (fun H locs hw => ?_)
  refine lv_aload_n hx hb dX5_comes_31 rfl (lv_at hl 1 rfl) ?_
  refine lv_iload_n hx hb dX5_comes_32 rfl (lv_at hl 0 rfl) ?_
  refine lv_iconst (v := 2) hx hb dX5_comes_33 (by decide) ?_
  refine lv_bipush (v := 100) hx hb dX5_comes_34 (by decide) ?_
  obtain ⟨q36, eq36, h⟩ := o_bd h
  refine kV (As := [.int v6, .int (2 : Int32), .int (100 : Int32)]) (rest := []) (st' := []) ⟨hx, hb, hml, hown, hts⟩ (kX5_puts l G eq36) (cwV 3 hts gX5_comes_X5_puts rfl rfl rfl qqX5_puts ⟨Nat.le_of_ble_eq_true rfl, Nat.le_of_ble_eq_true rfl⟩) hw (rvMd hw) rfl hl.1 rfl (Nat.le_of_ble_eq_true rfl) dX5_comes_36 ⟨Nat.zero_le _, Nat.zero_le _⟩ rfl (fun H locs hw => ?_)
  refine lv_aload_n hx hb dX5_comes_39 rfl (lv_at hl 1 rfl) ?_
  refine lv_iload_n hx hb dX5_comes_40 rfl (lv_at hl 0 rfl) ?_
  refine lv_iconst (v := 3) hx hb dX5_comes_41 (by decide) ?_
  refine lv_iconst (v := -1) hx hb dX5_comes_42 (by decide) ?_
  obtain ⟨q43, eq43, h⟩ := o_bd h
  refine kV (As := [.int v6, .int (3 : Int32), .int (-1 : Int32)]) (rest := []) (st' := []) ⟨hx, hb, hml, hown, hts⟩ (kX5_puts l G eq43) (cwV 3 hts gX5_comes_X5_puts rfl rfl rfl qqX5_puts ⟨Nat.le_of_ble_eq_true rfl, Nat.le_of_ble_eq_true rfl⟩) hw (rvMd hw) rfl hl.1 rfl (Nat.le_of_ble_eq_true rfl) dX5_comes_43 ⟨Nat.zero_le _, Nat.zero_le _⟩ rfl (fun H locs hw => ?_)
  refine lv_aload_n hx hb dX5_comes_46 rfl (lv_at hl 1 rfl) ?_
  refine lv_iload_n hx hb dX5_comes_47 rfl (lv_at hl 0 rfl) ?_
  refine lv_iconst (v := 4) hx hb dX5_comes_48 (by decide) ?_
  refine lv_iconst (v := 0) hx hb dX5_comes_49 (by decide) ?_
  obtain ⟨q50, eq50, h⟩ := o_bd h
  refine kV (As := [.int v6, .int (4 : Int32), .int (0 : Int32)]) (rest := []) (st' := []) ⟨hx, hb, hml, hown, hts⟩ (kX5_puts l G eq50) (cwV 3 hts gX5_comes_X5_puts rfl rfl rfl qqX5_puts ⟨Nat.le_of_ble_eq_true rfl, Nat.le_of_ble_eq_true rfl⟩) hw (rvMd hw) rfl hl.1 rfl (Nat.le_of_ble_eq_true rfl) dX5_comes_50 ⟨Nat.zero_le _, Nat.zero_le _⟩ rfl (fun H locs hw => ?_)
  refine lv_aload_n hx hb dX5_comes_53 rfl (lv_at hl 1 rfl) ?_
  refine lv_iload_n hx hb dX5_comes_54 rfl (lv_at hl 0 rfl) ?_
  refine lv_iconst (v := 5) hx hb dX5_comes_55 (by decide) ?_
  refine lv_iconst (v := 0) hx hb dX5_comes_56 (by decide) ?_
  obtain ⟨q57, eq57, h⟩ := o_bd h
  refine kV (As := [.int v6, .int (5 : Int32), .int (0 : Int32)]) (rest := []) (st' := []) ⟨hx, hb, hml, hown, hts⟩ (kX5_puts l G eq57) (cwV 3 hts gX5_comes_X5_puts rfl rfl rfl qqX5_puts ⟨Nat.le_of_ble_eq_true rfl, Nat.le_of_ble_eq_true rfl⟩) hw (rvMd hw) rfl hl.1 rfl (Nat.le_of_ble_eq_true rfl) dX5_comes_57 ⟨Nat.zero_le _, Nat.zero_le _⟩ rfl (fun H locs hw => ?_)
  refine lv_aload_n hx hb dX5_comes_60 rfl (lv_at hl 1 rfl) ?_
  refine lv_iload_n hx hb dX5_comes_61 rfl (lv_at hl 0 rfl) ?_
  refine lv_bipush (v := 6) hx hb dX5_comes_62 (by decide) ?_
  refine lv_iconst (v := 0) hx hb dX5_comes_64 (by decide) ?_
  obtain ⟨q65, eq65, h⟩ := o_bd h
  refine kV (As := [.int v6, .int (6 : Int32), .int (0 : Int32)]) (rest := []) (st' := []) ⟨hx, hb, hml, hown, hts⟩ (kX5_puts l G eq65) (cwV 3 hts gX5_comes_X5_puts rfl rfl rfl qqX5_puts ⟨Nat.le_of_ble_eq_true rfl, Nat.le_of_ble_eq_true rfl⟩) hw (rvMd hw) rfl hl.1 rfl (Nat.le_of_ble_eq_true rfl) dX5_comes_65 ⟨Nat.zero_le _, Nat.zero_le _⟩ rfl (fun H locs hw => ?_)
  refine lv_aload_n hx hb dX5_comes_68 rfl (lv_at hl 1 rfl) ?_
  refine lv_iload_n hx hb dX5_comes_69 rfl (lv_at hl 0 rfl) ?_
  refine lv_bipush (v := 7) hx hb dX5_comes_70 (by decide) ?_
  refine lv_iconst (v := -1) hx hb dX5_comes_72 (by decide) ?_
  obtain ⟨q73, eq73, h⟩ := o_bd h
  refine kV (As := [.int v6, .int (7 : Int32), .int (-1 : Int32)]) (rest := []) (st' := []) ⟨hx, hb, hml, hown, hts⟩ (kX5_puts l G eq73) (cwV 3 hts gX5_comes_X5_puts rfl rfl rfl qqX5_puts ⟨Nat.le_of_ble_eq_true rfl, Nat.le_of_ble_eq_true rfl⟩) hw (rvMd hw) rfl hl.1 rfl (Nat.le_of_ble_eq_true rfl) dX5_comes_73 ⟨Nat.zero_le _, Nat.zero_le _⟩ rfl (fun H locs hw => ?_)
  refine lv_iload_n hx hb dX5_comes_76 rfl (lv_at hl 0 rfl) ?_
  exact rI hQ hx hb hr hlk hw dX5_comes_77 (o_2a h) rfl (o_2b h)
-- X5_runner
def fX5_runner (M : sOb) (a1 : Int32) (a2 : Int32) (a3 : Int32) : Option (Int32 × sOb) :=
  (fX5_isIn a1.toInt64 (0 : Int64) (5 : Int64)).bind fun q6 => if q6 = 0 then ((fX5_finds M (-1000000001 : Int32)).bind fun q39 => some (q39.1, q39.2)) else ((fX5_isIn a2.toInt64 (1 : Int64) (12 : Int64)).bind fun q18 => if q18 = 0 then ((fX5_finds M (-1000000001 : Int32)).bind fun q39 => some (q39.1, q39.2)) else ((fX5_isIn a3.toInt64 (0 : Int64) (999 : Int64)).bind fun q30 => if q30 = 0 then ((fX5_finds M (-1000000001 : Int32)).bind fun q39 => some (q39.1, q39.2)) else (if (M.2.1 0 (0 : Int32).toNatClampNeg) = (9 : Int32) then ((fX5_finds M (-1000000002 : Int32)).bind fun q57 => some (q57.1, q57.2)) else ((fX5_comes M a1 a2).bind fun q64 => (fX5_puts q64.2 q64.1 (2 : Int32) a3).bind fun q74 => some (q64.1, q74)))))
def rmX5_runner : Room := { frames := 2, cells := 0, slots := 0, locals := 46 }
theorem qqX5_runner : yX5_runner.cls = RX5 ∧ yX5_runner.cls ≠ "java/lang/invoke/MethodHandle" ∧ yX5_runner.cls ≠ "java/lang/invoke/VarHandle" ∧ (parseMethodDescriptor yX5_runner.desc).map (fun d => d.parameters.length) = some 3 := by decide +kernel
set_option maxRecDepth 100000 in
set_option maxHeartbeats 4000000 in
theorem kX5_runner (l : Launch) (G : sGl) {S : sWo} {M : sOb} {a1 : Int32} {a2 : Int32} {a3 : Int32} {q : (Int32 × sOb)}  (h : fX5_runner M a1 a2 a3 = some q) : sCt l G yX5_runner wsX5_runner rmX5_runner [.ref (sA G 9 0), .int a1, .int a2, .int a3] S M (some (.int q.1)) S q.2 := by
  refine cMk (cc := cX5_runner) (maxL := 5) (ret := (some .int)) (by decide) rfl (Nat.le_of_ble_eq_true rfl) ?_
  intro p e s m args below meth c Q hQ hx hb hr hlk hml hown hts hw ls hl
  have hown : s.vm.findClass RX5 = some m.cls := hown
  have hl : lv_has ls 5 [(0, .ref (sA G 9 0)), (1, .int a1), (2, .int a2), (3, .int a3)] := hl
  have hiX5 : ∀ w ∈ u_ws RX5 TX5 15, w ∈ wsX5_runner := by decide +kernel
  unfold fX5_runner at h
  refine lv_iload_n hx hb dX5_runner_0 rfl (lv_at hl 1 rfl) ?_
  refine lv_i2l hx hb dX5_runner_1 rfl ?_
  refine lv_lconst (v := 0) hx hb dX5_runner_2 (by decide) ?_
  refine lv_ldc2 (v := 5) hx hb hown (hts (.constantLong RX5 68 (5)) (by decide +kernel)) dX5_runner_3 ?_
  obtain ⟨q6, eq6, h⟩ := o_bd h
  refine kS (As := [.long a1.toInt64, .long (0 : Int64), .long (5 : Int64)]) (rest := []) (st' := [.int q6]) ⟨hx, hb, hml, hown, hts⟩ (kX5_isIn l G eq6) (va_cwS 3 hts gX5_runner_X5_isIn rfl rfl rfl qqX5_isIn ⟨Nat.le_of_ble_eq_true rfl, Nat.le_of_ble_eq_true rfl⟩) hw rfl hl.1 rfl (Nat.le_of_ble_eq_true rfl) dX5_runner_6 ⟨Nat.zero_le _, Nat.zero_le _⟩ rfl (fun H locs hw => ?_)
  refine lv_if_eq (tgt := 36) hx hb dX5_runner_9 (by decide) (fun c9 => ?_) (fun c9 => ?_)
  · replace h := o_t c9 h
    refine lv_aload_n hx hb dX5_runner_36 rfl (lv_at hl 0 rfl) ?_
    refine lv_ldc (v := -1000000001) hx hb hown (hts (.constant RX5 38 (-1000000001)) (by decide +kernel)) dX5_runner_37 ?_
    obtain ⟨q39, eq39, h⟩ := o_bd h
    refine kV (As := [.int (-1000000001 : Int32)]) (rest := []) (st' := [.int q39.1]) ⟨hx, hb, hml, hown, hts⟩ (kX5_finds l G eq39) (cwV 1 hts gX5_runner_X5_finds rfl rfl rfl qqX5_finds ⟨Nat.le_of_ble_eq_true rfl, Nat.le_of_ble_eq_true rfl⟩) hw (rvMd hw) rfl hl.1 rfl (Nat.le_of_ble_eq_true rfl) dX5_runner_39 ⟨Nat.zero_le _, Nat.zero_le _⟩ rfl (fun H locs hw => ?_)
    exact rI hQ hx hb hr hlk hw dX5_runner_42 (o_2a h) rfl (o_2b h)
  · replace h := o_f c9 h
    refine lv_iload_n hx hb dX5_runner_12 rfl (lv_at hl 2 rfl) ?_
    refine lv_i2l hx hb dX5_runner_13 rfl ?_
    refine lv_lconst (v := 1) hx hb dX5_runner_14 (by decide) ?_
    refine lv_ldc2 (v := 12) hx hb hown (hts (.constantLong RX5 70 (12)) (by decide +kernel)) dX5_runner_15 ?_
    obtain ⟨q18, eq18, h⟩ := o_bd h
    refine kS (As := [.long a2.toInt64, .long (1 : Int64), .long (12 : Int64)]) (rest := []) (st' := [.int q18]) ⟨hx, hb, hml, hown, hts⟩ (kX5_isIn l G eq18) (va_cwS 3 hts gX5_runner_X5_isIn rfl rfl rfl qqX5_isIn ⟨Nat.le_of_ble_eq_true rfl, Nat.le_of_ble_eq_true rfl⟩) hw rfl hl.1 rfl (Nat.le_of_ble_eq_true rfl) dX5_runner_18 ⟨Nat.zero_le _, Nat.zero_le _⟩ rfl (fun H locs hw => ?_)
    refine lv_if_eq (tgt := 36) hx hb dX5_runner_21 (by decide) (fun c21 => ?_) (fun c21 => ?_)
    · replace h := o_t c21 h
      refine lv_aload_n hx hb dX5_runner_36 rfl (lv_at hl 0 rfl) ?_
      refine lv_ldc (v := -1000000001) hx hb hown (hts (.constant RX5 38 (-1000000001)) (by decide +kernel)) dX5_runner_37 ?_
      obtain ⟨q39, eq39, h⟩ := o_bd h
      refine kV (As := [.int (-1000000001 : Int32)]) (rest := []) (st' := [.int q39.1]) ⟨hx, hb, hml, hown, hts⟩ (kX5_finds l G eq39) (cwV 1 hts gX5_runner_X5_finds rfl rfl rfl qqX5_finds ⟨Nat.le_of_ble_eq_true rfl, Nat.le_of_ble_eq_true rfl⟩) hw (rvMd hw) rfl hl.1 rfl (Nat.le_of_ble_eq_true rfl) dX5_runner_39 ⟨Nat.zero_le _, Nat.zero_le _⟩ rfl (fun H locs hw => ?_)
      exact rI hQ hx hb hr hlk hw dX5_runner_42 (o_2a h) rfl (o_2b h)
    · replace h := o_f c21 h
      refine lv_iload_n hx hb dX5_runner_24 rfl (lv_at hl 3 rfl) ?_
      refine lv_i2l hx hb dX5_runner_25 rfl ?_
      refine lv_lconst (v := 0) hx hb dX5_runner_26 (by decide) ?_
      refine lv_ldc2 (v := 999) hx hb hown (hts (.constantLong RX5 72 (999)) (by decide +kernel)) dX5_runner_27 ?_
      obtain ⟨q30, eq30, h⟩ := o_bd h
      refine kS (As := [.long a3.toInt64, .long (0 : Int64), .long (999 : Int64)]) (rest := []) (st' := [.int q30]) ⟨hx, hb, hml, hown, hts⟩ (kX5_isIn l G eq30) (va_cwS 3 hts gX5_runner_X5_isIn rfl rfl rfl qqX5_isIn ⟨Nat.le_of_ble_eq_true rfl, Nat.le_of_ble_eq_true rfl⟩) hw rfl hl.1 rfl (Nat.le_of_ble_eq_true rfl) dX5_runner_30 ⟨Nat.zero_le _, Nat.zero_le _⟩ rfl (fun H locs hw => ?_)
      refine lv_if_ne (tgt := 43) hx hb dX5_runner_33 (by decide) (fun c33 => ?_) (fun c33 => ?_)
      · replace h := o_f c33 h
        refine lv_aload_n hx hb dX5_runner_43 rfl (lv_at hl 0 rfl) ?_
        refine gMd (v := .ref (sA G 9 1)) hx hb hts hiX5 hown hw 0 (by decide) (hts (.fieldLink RX5 7 "SecondHomeModel" "s" "[I") (by decide +kernel)) rfl dX5_runner_44 ?_
        refine lv_iconst (v := 0) hx hb dX5_runner_47 (by decide) ?_
        refine ldMd hx hb hw 0 (by decide) (n := 77) rfl (by decide) dX5_runner_48 ?_
        refine lv_bipush (v := 9) hx hb dX5_runner_49 (by decide) ?_
        refine lv_icmp_ne (tgt := 61) hx hb dX5_runner_51 (by decide) (fun c51 => ?_) (fun c51 => ?_)
        · replace h := o_f c51 h
          refine lv_aload_n hx hb dX5_runner_61 rfl (lv_at hl 0 rfl) ?_
          refine lv_iload_n hx hb dX5_runner_62 rfl (lv_at hl 1 rfl) ?_
          refine lv_iload_n hx hb dX5_runner_63 rfl (lv_at hl 2 rfl) ?_
          obtain ⟨q64, eq64, h⟩ := o_bd h
          refine kV (As := [.int a1, .int a2]) (rest := []) (st' := [.int q64.1]) ⟨hx, hb, hml, hown, hts⟩ (kX5_comes l G eq64) (cwV 2 hts gX5_runner_X5_comes rfl rfl rfl qqX5_comes ⟨Nat.le_of_ble_eq_true rfl, Nat.le_of_ble_eq_true rfl⟩) hw (rvMd hw) rfl hl.1 rfl (Nat.le_of_ble_eq_true rfl) dX5_runner_64 ⟨Nat.zero_le _, Nat.zero_le _⟩ rfl (fun H locs hw => ?_)
          refine lv_istore (lv' := [(4, .int q64.1), (0, .ref (sA G 9 0)), (1, .int a1), (2, .int a2), (3, .int a3)]) hx hb dX5_runner_67 hl (by decide) rfl (fun ls hl => ?_)
          refine lv_aload_n hx hb dX5_runner_69 rfl (lv_at hl 1 rfl) ?_
          refine lv_iload hx hb dX5_runner_70 (lv_at hl 0 rfl) ?_
          refine lv_iconst (v := 2) hx hb dX5_runner_72 (by decide) ?_
          refine lv_iload_n hx hb dX5_runner_73 rfl (lv_at hl 4 rfl) ?_
          obtain ⟨q74, eq74, h⟩ := o_bd h
          refine kV (As := [.int q64.1, .int (2 : Int32), .int a3]) (rest := []) (st' := []) ⟨hx, hb, hml, hown, hts⟩ (kX5_puts l G eq74) (cwV 3 hts gX5_runner_X5_puts rfl rfl rfl qqX5_puts ⟨Nat.le_of_ble_eq_true rfl, Nat.le_of_ble_eq_true rfl⟩) hw (rvMd hw) rfl hl.1 rfl (Nat.le_of_ble_eq_true rfl) dX5_runner_74 ⟨Nat.zero_le _, Nat.zero_le _⟩ rfl (fun H locs hw => ?_)
          refine lv_iload hx hb dX5_runner_77 (lv_at hl 0 rfl) ?_
          exact rI hQ hx hb hr hlk hw dX5_runner_79 (o_2a h) rfl (o_2b h)
        · replace h := o_t c51 h
          refine lv_aload_n hx hb dX5_runner_54 rfl (lv_at hl 0 rfl) ?_
          refine lv_ldc (v := -1000000002) hx hb hown (hts (.constant RX5 74 (-1000000002)) (by decide +kernel)) dX5_runner_55 ?_
          obtain ⟨q57, eq57, h⟩ := o_bd h
          refine kV (As := [.int (-1000000002 : Int32)]) (rest := []) (st' := [.int q57.1]) ⟨hx, hb, hml, hown, hts⟩ (kX5_finds l G eq57) (cwV 1 hts gX5_runner_X5_finds rfl rfl rfl qqX5_finds ⟨Nat.le_of_ble_eq_true rfl, Nat.le_of_ble_eq_true rfl⟩) hw (rvMd hw) rfl hl.1 rfl (Nat.le_of_ble_eq_true rfl) dX5_runner_57 ⟨Nat.zero_le _, Nat.zero_le _⟩ rfl (fun H locs hw => ?_)
          exact rI hQ hx hb hr hlk hw dX5_runner_60 (o_2a h) rfl (o_2b h)
      · replace h := o_t c33 h
        refine lv_aload_n hx hb dX5_runner_36 rfl (lv_at hl 0 rfl) ?_
        refine lv_ldc (v := -1000000001) hx hb hown (hts (.constant RX5 38 (-1000000001)) (by decide +kernel)) dX5_runner_37 ?_
        obtain ⟨q39, eq39, h⟩ := o_bd h
        refine kV (As := [.int (-1000000001 : Int32)]) (rest := []) (st' := [.int q39.1]) ⟨hx, hb, hml, hown, hts⟩ (kX5_finds l G eq39) (cwV 1 hts gX5_runner_X5_finds rfl rfl rfl qqX5_finds ⟨Nat.le_of_ble_eq_true rfl, Nat.le_of_ble_eq_true rfl⟩) hw (rvMd hw) rfl hl.1 rfl (Nat.le_of_ble_eq_true rfl) dX5_runner_39 ⟨Nat.zero_le _, Nat.zero_le _⟩ rfl (fun H locs hw => ?_)
        exact rI hQ hx hb hr hlk hw dX5_runner_42 (o_2a h) rfl (o_2b h)
-- X5_isAhead
def fX5_isAhead (M : sOb) (a1 : Int32) (a2 : Int32) : Option Int32 :=
  (fX5_isHome M a1).bind fun q2 => (fX5_isHome M a2).bind fun q7 => if q2 = q7 then ((fX5_is M a1 (7 : Int32)).bind fun q23 => (fX5_is M a2 (7 : Int32)).bind fun q30 => if q23 = q30 then ((fX5_is M a1 (5 : Int32)).bind fun q62 => (fX5_is M a2 (5 : Int32)).bind fun q68 => if q62 = q68 then (if a2 ≤ a1 then (some (0 : Int32)) else (some (1 : Int32))) else ((fX5_is M a1 (5 : Int32)).bind fun q77 => (fX5_is M a2 (5 : Int32)).bind fun q83 => if q77 ≤ q83 then (some (0 : Int32)) else (some (1 : Int32)))) else ((fX5_is M a1 (7 : Int32)).bind fun q40 => (fX5_is M a2 (7 : Int32)).bind fun q47 => if q47 ≤ q40 then (some (0 : Int32)) else (some (1 : Int32)))) else ((fX5_isHome M a1).bind fun q15 => if ¬ (q15 = 0 ∨ q15 = 1) then none else some q15)
def rmX5_isAhead : Room := { frames := 2, cells := 0, slots := 0, locals := 43 }
theorem qqX5_isAhead : yX5_isAhead.cls = RX5 ∧ yX5_isAhead.cls ≠ "java/lang/invoke/MethodHandle" ∧ yX5_isAhead.cls ≠ "java/lang/invoke/VarHandle" ∧ (parseMethodDescriptor yX5_isAhead.desc).map (fun d => d.parameters.length) = some 2 := by decide +kernel
set_option maxRecDepth 100000 in
set_option maxHeartbeats 4000000 in
theorem kX5_isAhead (l : Launch) (G : sGl) {S : sWo} {M : sOb} {a1 : Int32} {a2 : Int32} {q : Int32}  (h : fX5_isAhead M a1 a2 = some q) : sCt l G yX5_isAhead wsX5_isAhead rmX5_isAhead [.ref (sA G 9 0), .int a1, .int a2] S M (some (.int q)) S M := by
  refine cMk (cc := cX5_isAhead) (maxL := 3) (ret := (some .boolean)) (by decide) rfl (Nat.le_of_ble_eq_true rfl) ?_
  intro p e s m args below meth c Q hQ hx hb hr hlk hml hown hts hw ls hl
  have hown : s.vm.findClass RX5 = some m.cls := hown
  have hl : lv_has ls 3 [(0, .ref (sA G 9 0)), (1, .int a1), (2, .int a2)] := hl
  unfold fX5_isAhead at h
  refine lv_aload_n hx hb dX5_isAhead_0 rfl (lv_at hl 0 rfl) ?_
  refine lv_iload_n hx hb dX5_isAhead_1 rfl (lv_at hl 1 rfl) ?_
  obtain ⟨q2, eq2, h⟩ := o_bd h
  refine kV (As := [.int a1]) (rest := []) (st' := [.int q2]) ⟨hx, hb, hml, hown, hts⟩ (kX5_isHome l G eq2) (cwV 1 hts gX5_isAhead_X5_isHome rfl rfl rfl qqX5_isHome ⟨Nat.le_of_ble_eq_true rfl, Nat.le_of_ble_eq_true rfl⟩) hw (rvMd hw) rfl hl.1 rfl (Nat.le_of_ble_eq_true rfl) dX5_isAhead_2 ⟨Nat.zero_le _, Nat.zero_le _⟩ rfl (fun H locs hw => ?_)
  refine lv_aload_n hx hb dX5_isAhead_5 rfl (lv_at hl 0 rfl) ?_
  refine lv_iload_n hx hb dX5_isAhead_6 rfl (lv_at hl 2 rfl) ?_
  obtain ⟨q7, eq7, h⟩ := o_bd h
  refine kV (As := [.int a2]) (rest := [.int q2]) (st' := [.int q7, .int q2]) ⟨hx, hb, hml, hown, hts⟩ (kX5_isHome l G eq7) (cwV 1 hts gX5_isAhead_X5_isHome rfl rfl rfl qqX5_isHome ⟨Nat.le_of_ble_eq_true rfl, Nat.le_of_ble_eq_true rfl⟩) hw (rvMd hw) rfl hl.1 rfl (Nat.le_of_ble_eq_true rfl) dX5_isAhead_7 ⟨Nat.zero_le _, Nat.zero_le _⟩ rfl (fun H locs hw => ?_)
  refine lv_icmp_eq (tgt := 19) hx hb dX5_isAhead_10 (by decide) (fun c10 => ?_) (fun c10 => ?_)
  · replace h := o_t c10 h
    refine lv_aload_n hx hb dX5_isAhead_19 rfl (lv_at hl 0 rfl) ?_
    refine lv_iload_n hx hb dX5_isAhead_20 rfl (lv_at hl 1 rfl) ?_
    refine lv_bipush (v := 7) hx hb dX5_isAhead_21 (by decide) ?_
    obtain ⟨q23, eq23, h⟩ := o_bd h
    refine kV (As := [.int a1, .int (7 : Int32)]) (rest := []) (st' := [.int q23]) ⟨hx, hb, hml, hown, hts⟩ (kX5_is l G eq23) (cwV 2 hts gX5_isAhead_X5_is rfl rfl rfl qqX5_is ⟨Nat.le_of_ble_eq_true rfl, Nat.le_of_ble_eq_true rfl⟩) hw (rvMd hw) rfl hl.1 rfl (Nat.le_of_ble_eq_true rfl) dX5_isAhead_23 ⟨Nat.zero_le _, Nat.zero_le _⟩ rfl (fun H locs hw => ?_)
    refine lv_aload_n hx hb dX5_isAhead_26 rfl (lv_at hl 0 rfl) ?_
    refine lv_iload_n hx hb dX5_isAhead_27 rfl (lv_at hl 2 rfl) ?_
    refine lv_bipush (v := 7) hx hb dX5_isAhead_28 (by decide) ?_
    obtain ⟨q30, eq30, h⟩ := o_bd h
    refine kV (As := [.int a2, .int (7 : Int32)]) (rest := [.int q23]) (st' := [.int q30, .int q23]) ⟨hx, hb, hml, hown, hts⟩ (kX5_is l G eq30) (cwV 2 hts gX5_isAhead_X5_is rfl rfl rfl qqX5_is ⟨Nat.le_of_ble_eq_true rfl, Nat.le_of_ble_eq_true rfl⟩) hw (rvMd hw) rfl hl.1 rfl (Nat.le_of_ble_eq_true rfl) dX5_isAhead_30 ⟨Nat.zero_le _, Nat.zero_le _⟩ rfl (fun H locs hw => ?_)
    refine lv_icmp_eq (tgt := 59) hx hb dX5_isAhead_33 (by decide) (fun c33 => ?_) (fun c33 => ?_)
    · replace h := o_t c33 h
      refine lv_aload_n hx hb dX5_isAhead_59 rfl (lv_at hl 0 rfl) ?_
      refine lv_iload_n hx hb dX5_isAhead_60 rfl (lv_at hl 1 rfl) ?_
      refine lv_iconst (v := 5) hx hb dX5_isAhead_61 (by decide) ?_
      obtain ⟨q62, eq62, h⟩ := o_bd h
      refine kV (As := [.int a1, .int (5 : Int32)]) (rest := []) (st' := [.int q62]) ⟨hx, hb, hml, hown, hts⟩ (kX5_is l G eq62) (cwV 2 hts gX5_isAhead_X5_is rfl rfl rfl qqX5_is ⟨Nat.le_of_ble_eq_true rfl, Nat.le_of_ble_eq_true rfl⟩) hw (rvMd hw) rfl hl.1 rfl (Nat.le_of_ble_eq_true rfl) dX5_isAhead_62 ⟨Nat.zero_le _, Nat.zero_le _⟩ rfl (fun H locs hw => ?_)
      refine lv_aload_n hx hb dX5_isAhead_65 rfl (lv_at hl 0 rfl) ?_
      refine lv_iload_n hx hb dX5_isAhead_66 rfl (lv_at hl 2 rfl) ?_
      refine lv_iconst (v := 5) hx hb dX5_isAhead_67 (by decide) ?_
      obtain ⟨q68, eq68, h⟩ := o_bd h
      refine kV (As := [.int a2, .int (5 : Int32)]) (rest := [.int q62]) (st' := [.int q68, .int q62]) ⟨hx, hb, hml, hown, hts⟩ (kX5_is l G eq68) (cwV 2 hts gX5_isAhead_X5_is rfl rfl rfl qqX5_is ⟨Nat.le_of_ble_eq_true rfl, Nat.le_of_ble_eq_true rfl⟩) hw (rvMd hw) rfl hl.1 rfl (Nat.le_of_ble_eq_true rfl) dX5_isAhead_68 ⟨Nat.zero_le _, Nat.zero_le _⟩ rfl (fun H locs hw => ?_)
      refine lv_icmp_eq (tgt := 97) hx hb dX5_isAhead_71 (by decide) (fun c71 => ?_) (fun c71 => ?_)
      · replace h := o_t c71 h
        refine lv_iload_n hx hb dX5_isAhead_97 rfl (lv_at hl 1 rfl) ?_
        refine lv_iload_n hx hb dX5_isAhead_98 rfl (lv_at hl 2 rfl) ?_
        refine lv_icmp_ge (tgt := 106) hx hb dX5_isAhead_99 (by decide) (fun c99 => ?_) (fun c99 => ?_)
        · replace h := o_t c99 h
          refine lv_iconst (v := 0) hx hb dX5_isAhead_106 (by decide) ?_
          exact rZ hQ hx hb hr hlk hw (Or.inl rfl) dX5_isAhead_107 (o_1 h) rfl rfl
        · replace h := o_f c99 h
          refine lv_iconst (v := 1) hx hb dX5_isAhead_102 (by decide) ?_
          refine lv_goto (tgt := 107) hx hb dX5_isAhead_103 (by decide) ?_
          exact rZ hQ hx hb hr hlk hw (Or.inr rfl) dX5_isAhead_107 (o_1 h) rfl rfl
      · replace h := o_f c71 h
        refine lv_aload_n hx hb dX5_isAhead_74 rfl (lv_at hl 0 rfl) ?_
        refine lv_iload_n hx hb dX5_isAhead_75 rfl (lv_at hl 1 rfl) ?_
        refine lv_iconst (v := 5) hx hb dX5_isAhead_76 (by decide) ?_
        obtain ⟨q77, eq77, h⟩ := o_bd h
        refine kV (As := [.int a1, .int (5 : Int32)]) (rest := []) (st' := [.int q77]) ⟨hx, hb, hml, hown, hts⟩ (kX5_is l G eq77) (cwV 2 hts gX5_isAhead_X5_is rfl rfl rfl qqX5_is ⟨Nat.le_of_ble_eq_true rfl, Nat.le_of_ble_eq_true rfl⟩) hw (rvMd hw) rfl hl.1 rfl (Nat.le_of_ble_eq_true rfl) dX5_isAhead_77 ⟨Nat.zero_le _, Nat.zero_le _⟩ rfl (fun H locs hw => ?_)
        refine lv_aload_n hx hb dX5_isAhead_80 rfl (lv_at hl 0 rfl) ?_
        refine lv_iload_n hx hb dX5_isAhead_81 rfl (lv_at hl 2 rfl) ?_
        refine lv_iconst (v := 5) hx hb dX5_isAhead_82 (by decide) ?_
        obtain ⟨q83, eq83, h⟩ := o_bd h
        refine kV (As := [.int a2, .int (5 : Int32)]) (rest := [.int q77]) (st' := [.int q83, .int q77]) ⟨hx, hb, hml, hown, hts⟩ (kX5_is l G eq83) (cwV 2 hts gX5_isAhead_X5_is rfl rfl rfl qqX5_is ⟨Nat.le_of_ble_eq_true rfl, Nat.le_of_ble_eq_true rfl⟩) hw (rvMd hw) rfl hl.1 rfl (Nat.le_of_ble_eq_true rfl) dX5_isAhead_83 ⟨Nat.zero_le _, Nat.zero_le _⟩ rfl (fun H locs hw => ?_)
        refine lv_icmp_le (tgt := 93) hx hb dX5_isAhead_86 (by decide) (fun c86 => ?_) (fun c86 => ?_)
        · replace h := o_t c86 h
          refine lv_iconst (v := 0) hx hb dX5_isAhead_93 (by decide) ?_
          refine lv_goto (tgt := 107) hx hb dX5_isAhead_94 (by decide) ?_
          exact rZ hQ hx hb hr hlk hw (Or.inl rfl) dX5_isAhead_107 (o_1 h) rfl rfl
        · replace h := o_f c86 h
          refine lv_iconst (v := 1) hx hb dX5_isAhead_89 (by decide) ?_
          refine lv_goto (tgt := 107) hx hb dX5_isAhead_90 (by decide) ?_
          exact rZ hQ hx hb hr hlk hw (Or.inr rfl) dX5_isAhead_107 (o_1 h) rfl rfl
    · replace h := o_f c33 h
      refine lv_aload_n hx hb dX5_isAhead_36 rfl (lv_at hl 0 rfl) ?_
      refine lv_iload_n hx hb dX5_isAhead_37 rfl (lv_at hl 1 rfl) ?_
      refine lv_bipush (v := 7) hx hb dX5_isAhead_38 (by decide) ?_
      obtain ⟨q40, eq40, h⟩ := o_bd h
      refine kV (As := [.int a1, .int (7 : Int32)]) (rest := []) (st' := [.int q40]) ⟨hx, hb, hml, hown, hts⟩ (kX5_is l G eq40) (cwV 2 hts gX5_isAhead_X5_is rfl rfl rfl qqX5_is ⟨Nat.le_of_ble_eq_true rfl, Nat.le_of_ble_eq_true rfl⟩) hw (rvMd hw) rfl hl.1 rfl (Nat.le_of_ble_eq_true rfl) dX5_isAhead_40 ⟨Nat.zero_le _, Nat.zero_le _⟩ rfl (fun H locs hw => ?_)
      refine lv_aload_n hx hb dX5_isAhead_43 rfl (lv_at hl 0 rfl) ?_
      refine lv_iload_n hx hb dX5_isAhead_44 rfl (lv_at hl 2 rfl) ?_
      refine lv_bipush (v := 7) hx hb dX5_isAhead_45 (by decide) ?_
      obtain ⟨q47, eq47, h⟩ := o_bd h
      refine kV (As := [.int a2, .int (7 : Int32)]) (rest := [.int q40]) (st' := [.int q47, .int q40]) ⟨hx, hb, hml, hown, hts⟩ (kX5_is l G eq47) (cwV 2 hts gX5_isAhead_X5_is rfl rfl rfl qqX5_is ⟨Nat.le_of_ble_eq_true rfl, Nat.le_of_ble_eq_true rfl⟩) hw (rvMd hw) rfl hl.1 rfl (Nat.le_of_ble_eq_true rfl) dX5_isAhead_47 ⟨Nat.zero_le _, Nat.zero_le _⟩ rfl (fun H locs hw => ?_)
      refine lv_icmp_ge (tgt := 57) hx hb dX5_isAhead_50 (by decide) (fun c50 => ?_) (fun c50 => ?_)
      · replace h := o_t c50 h
        refine lv_iconst (v := 0) hx hb dX5_isAhead_57 (by decide) ?_
        exact rZ hQ hx hb hr hlk hw (Or.inl rfl) dX5_isAhead_58 (o_1 h) rfl rfl
      · replace h := o_f c50 h
        refine lv_iconst (v := 1) hx hb dX5_isAhead_53 (by decide) ?_
        refine lv_goto (tgt := 58) hx hb dX5_isAhead_54 (by decide) ?_
        exact rZ hQ hx hb hr hlk hw (Or.inr rfl) dX5_isAhead_58 (o_1 h) rfl rfl
  · replace h := o_f c10 h
    refine lv_aload_n hx hb dX5_isAhead_13 rfl (lv_at hl 0 rfl) ?_
    refine lv_iload_n hx hb dX5_isAhead_14 rfl (lv_at hl 1 rfl) ?_
    obtain ⟨q15, eq15, h⟩ := o_bd h
    refine kV (As := [.int a1]) (rest := []) (st' := [.int q15]) ⟨hx, hb, hml, hown, hts⟩ (kX5_isHome l G eq15) (cwV 1 hts gX5_isAhead_X5_isHome rfl rfl rfl qqX5_isHome ⟨Nat.le_of_ble_eq_true rfl, Nat.le_of_ble_eq_true rfl⟩) hw (rvMd hw) rfl hl.1 rfl (Nat.le_of_ble_eq_true rfl) dX5_isAhead_15 ⟨Nat.zero_le _, Nat.zero_le _⟩ rfl (fun H locs hw => ?_)
    obtain ⟨b18, h⟩ := o_in h
    exact rZ hQ hx hb hr hlk hw (Decidable.not_not.mp b18) dX5_isAhead_18 (o_1 h) rfl rfl
-- X5_placeOf
def bX5_placeOf_4 (M : sOb) (a1 : Int32) (rc4 : Int32 → Int32 → Option Int32) (x2_4 : Int32) (x3_4 : Int32) : Option Int32 :=
  if (M.2.1 0 (0 : Int32).toNatClampNeg) ≤ x3_4 then (some x2_4) else (if x3_4 = a1 then (nm (x2_4 + (0 : Int32)) fun v35 => nm (x3_4 + (1 : Int32)) fun v36 => rc4 v35 v36) else ((fX5_isAhead M x3_4 a1).bind fun q23 => if q23 = 0 then (nm (x2_4 + (0 : Int32)) fun v35 => nm (x3_4 + (1 : Int32)) fun v36 => rc4 v35 v36) else (nm (x2_4 + (1 : Int32)) fun v35 => nm (x3_4 + (1 : Int32)) fun v36 => rc4 v35 v36)))
def fX5_placeOf (M : sOb) (a1 : Int32) : Option Int32 :=
  fx2 (bX5_placeOf_4 M a1) FU (0 : Int32) (0 : Int32)
def rmX5_placeOf : Room := { frames := 3, cells := 0, slots := 0, locals := 65 }
theorem qqX5_placeOf : yX5_placeOf.cls = RX5 ∧ yX5_placeOf.cls ≠ "java/lang/invoke/MethodHandle" ∧ yX5_placeOf.cls ≠ "java/lang/invoke/VarHandle" ∧ (parseMethodDescriptor yX5_placeOf.desc).map (fun d => d.parameters.length) = some 1 := by decide +kernel
set_option maxRecDepth 100000 in
set_option maxHeartbeats 4000000 in
theorem kX5_placeOf (l : Launch) (G : sGl) {S : sWo} {M : sOb} {a1 : Int32} {q : Int32}  (h : fX5_placeOf M a1 = some q) : sCt l G yX5_placeOf wsX5_placeOf rmX5_placeOf [.ref (sA G 9 0), .int a1] S M (some (.int q)) S M := by
  refine cMk (cc := cX5_placeOf) (maxL := 4) (ret := (some .int)) (by decide) rfl (Nat.le_of_ble_eq_true rfl) ?_
  intro p e s m args below meth c Q hQ hx hb hr hlk hml hown hts hw ls hl
  have hown : s.vm.findClass RX5 = some m.cls := hown
  have hl : lv_has ls 4 [(0, .ref (sA G 9 0)), (1, .int a1)] := hl
  have hiX5 : ∀ w ∈ u_ws RX5 TX5 15, w ∈ wsX5_placeOf := by decide +kernel
  unfold fX5_placeOf at h
  refine lv_iconst (v := 0) hx hb dX5_placeOf_0 (by decide) ?_
  refine lv_istore_n (lv' := [(2, .int (0 : Int32)), (0, .ref (sA G 9 0)), (1, .int a1)]) hx hb dX5_placeOf_1 rfl hl (by decide) rfl (fun ls hl => ?_)
  refine lv_iconst (v := 0) hx hb dX5_placeOf_2 (by decide) ?_
  refine lv_istore_n (lv' := [(3, .int (0 : Int32)), (2, .int (0 : Int32)), (0, .ref (sA G 9 0)), (1, .int a1)]) hx hb dX5_placeOf_3 rfl hl (by decide) rfl (fun ls hl => ?_)
  refine fx2_w (F := (bX5_placeOf_4 M a1)) (P := fun x2_4 x3_4 => ∀ (H : Heap) (locs : List Loc) (ls : Array Slot), sHw G s S M H locs → lv_has ls 4 [(0, .ref (sA G 9 0)), (1, .int a1), (2, .int x2_4), (3, .int x3_4)] → W p l e rmX5_placeOf s m args below meth c H locs 0 0 Q (F0 m 4 ls [])) ?_ _ _ _ h _ _ _ hw (lv_sub hl [2, 3, 1, 0] rfl)
  intro rc4 IH4 x2_4 x3_4 h H locs ls hw hl
  unfold bX5_placeOf_4 at h
  refine lv_iload_n hx hb dX5_placeOf_4 rfl (lv_at hl 3 rfl) ?_
  refine lv_aload_n hx hb dX5_placeOf_5 rfl (lv_at hl 0 rfl) ?_
  refine gMd (v := .ref (sA G 9 1)) hx hb hts hiX5 hown hw 0 (by decide) (hts (.fieldLink RX5 7 "SecondHomeModel" "s" "[I") (by decide +kernel)) rfl dX5_placeOf_6 ?_
  refine lv_iconst (v := 0) hx hb dX5_placeOf_9 (by decide) ?_
  refine ldMd hx hb hw 0 (by decide) (n := 77) rfl (by decide) dX5_placeOf_10 ?_
  refine lv_icmp_ge (tgt := 42) hx hb dX5_placeOf_11 (by decide) (fun c11 => ?_) (fun c11 => ?_)
  · replace h := o_t c11 h
    refine lv_iload_n hx hb dX5_placeOf_42 rfl (lv_at hl 2 rfl) ?_
    exact rI hQ hx hb hr hlk hw dX5_placeOf_43 (o_1 h) rfl rfl
  · replace h := o_f c11 h
    refine lv_iload_n hx hb dX5_placeOf_14 rfl (lv_at hl 2 rfl) ?_
    refine lv_iload_n hx hb dX5_placeOf_15 rfl (lv_at hl 3 rfl) ?_
    refine lv_iload_n hx hb dX5_placeOf_16 rfl (lv_at hl 1 rfl) ?_
    refine lv_icmp_eq (tgt := 33) hx hb dX5_placeOf_17 (by decide) (fun c17 => ?_) (fun c17 => ?_)
    · replace h := o_t c17 h
      refine lv_iconst (v := 0) hx hb dX5_placeOf_33 (by decide) ?_
      refine lv_iadd hx hb dX5_placeOf_34 ?_
      refine lv_topi (fun v35 ev35 => ?_)
      replace h := o_nx ev35 h
      refine lv_istore_n (lv' := [(2, .int v35), (0, .ref (sA G 9 0)), (1, .int a1), (3, .int x3_4)]) hx hb dX5_placeOf_35 rfl hl (by decide) rfl (fun ls hl => ?_)
      obtain ⟨v36, ev36, h⟩ := o_nm h
      refine lv_iinc (v := v36) (lv' := [(3, .int v36), (2, .int v35), (0, .ref (sA G 9 0)), (1, .int a1)]) hx hb dX5_placeOf_36 hl (k := 3) rfl (by rw [ev36]; rfl) (by decide) rfl (fun ls hl => ?_)
      refine lv_goto (tgt := 4) hx hb dX5_placeOf_39 (by decide) ?_
      exact IH4 v35 v36 h _ _ _ hw (lv_sub hl [2, 3, 1, 0] rfl)
    · replace h := o_f c17 h
      refine lv_aload_n hx hb dX5_placeOf_20 rfl (lv_at hl 0 rfl) ?_
      refine lv_iload_n hx hb dX5_placeOf_21 rfl (lv_at hl 3 rfl) ?_
      refine lv_iload_n hx hb dX5_placeOf_22 rfl (lv_at hl 1 rfl) ?_
      obtain ⟨q23, eq23, h⟩ := o_bd h
      refine kV (As := [.int x3_4, .int a1]) (rest := [.int x2_4]) (st' := [.int q23, .int x2_4]) ⟨hx, hb, hml, hown, hts⟩ (kX5_isAhead l G eq23) (cwV 2 hts gX5_placeOf_X5_isAhead rfl rfl rfl qqX5_isAhead ⟨Nat.le_of_ble_eq_true rfl, Nat.le_of_ble_eq_true rfl⟩) hw (rvMd hw) rfl hl.1 rfl (Nat.le_of_ble_eq_true rfl) dX5_placeOf_23 ⟨Nat.zero_le _, Nat.zero_le _⟩ rfl (fun H locs hw => ?_)
      refine lv_if_eq (tgt := 33) hx hb dX5_placeOf_26 (by decide) (fun c26 => ?_) (fun c26 => ?_)
      · replace h := o_t c26 h
        refine lv_iconst (v := 0) hx hb dX5_placeOf_33 (by decide) ?_
        refine lv_iadd hx hb dX5_placeOf_34 ?_
        refine lv_topi (fun v35 ev35 => ?_)
        replace h := o_nx ev35 h
        refine lv_istore_n (lv' := [(2, .int v35), (0, .ref (sA G 9 0)), (1, .int a1), (3, .int x3_4)]) hx hb dX5_placeOf_35 rfl hl (by decide) rfl (fun ls hl => ?_)
        obtain ⟨v36, ev36, h⟩ := o_nm h
        refine lv_iinc (v := v36) (lv' := [(3, .int v36), (2, .int v35), (0, .ref (sA G 9 0)), (1, .int a1)]) hx hb dX5_placeOf_36 hl (k := 3) rfl (by rw [ev36]; rfl) (by decide) rfl (fun ls hl => ?_)
        refine lv_goto (tgt := 4) hx hb dX5_placeOf_39 (by decide) ?_
        exact IH4 v35 v36 h _ _ _ hw (lv_sub hl [2, 3, 1, 0] rfl)
      · replace h := o_f c26 h
        refine lv_iconst (v := 1) hx hb dX5_placeOf_29 (by decide) ?_
        refine lv_goto (tgt := 34) hx hb dX5_placeOf_30 (by decide) ?_
        refine lv_iadd hx hb dX5_placeOf_34 ?_
        refine lv_topi (fun v35 ev35 => ?_)
        replace h := o_nx ev35 h
        refine lv_istore_n (lv' := [(2, .int v35), (0, .ref (sA G 9 0)), (1, .int a1), (3, .int x3_4)]) hx hb dX5_placeOf_35 rfl hl (by decide) rfl (fun ls hl => ?_)
        obtain ⟨v36, ev36, h⟩ := o_nm h
        refine lv_iinc (v := v36) (lv' := [(3, .int v36), (2, .int v35), (0, .ref (sA G 9 0)), (1, .int a1)]) hx hb dX5_placeOf_36 hl (k := 3) rfl (by rw [ev36]; rfl) (by decide) rfl (fun ls hl => ?_)
        refine lv_goto (tgt := 4) hx hb dX5_placeOf_39 (by decide) ?_
        exact IH4 v35 v36 h _ _ _ hw (lv_sub hl [2, 3, 1, 0] rfl)
-- X5_of
def fX5_of (M : sOb) (a1 : Int32) (a2 : Int32) : Option (Int32 × sOb) :=
  (fX5_isRunner M a1).bind fun q2 => if q2 = 0 then ((fX5_finds M (-1000000001 : Int32)).bind fun q23 => some (q23.1, q23.2)) else ((fX5_isIn a2.toInt64 (0 : Int64) (8 : Int64)).bind fun q14 => if q14 = 0 then ((fX5_finds M (-1000000001 : Int32)).bind fun q23 => some (q23.1, q23.2)) else (if (8 : Int32) ≤ a2 then ((fX5_placeOf M a1).bind fun q44 => some (q44, M)) else ((fX5_is M a1 a2).bind fun q36 => some (q36, M))))
def rmX5_of : Room := { frames := 4, cells := 0, slots := 0, locals := 88 }
theorem qqX5_of : yX5_of.cls = RX5 ∧ yX5_of.cls ≠ "java/lang/invoke/MethodHandle" ∧ yX5_of.cls ≠ "java/lang/invoke/VarHandle" ∧ (parseMethodDescriptor yX5_of.desc).map (fun d => d.parameters.length) = some 2 := by decide +kernel
set_option maxRecDepth 100000 in
set_option maxHeartbeats 4000000 in
theorem kX5_of (l : Launch) (G : sGl) {S : sWo} {M : sOb} {a1 : Int32} {a2 : Int32} {q : (Int32 × sOb)}  (h : fX5_of M a1 a2 = some q) : sCt l G yX5_of wsX5_of rmX5_of [.ref (sA G 9 0), .int a1, .int a2] S M (some (.int q.1)) S q.2 := by
  refine cMk (cc := cX5_of) (maxL := 3) (ret := (some .int)) (by decide) rfl (Nat.le_of_ble_eq_true rfl) ?_
  intro p e s m args below meth c Q hQ hx hb hr hlk hml hown hts hw ls hl
  have hown : s.vm.findClass RX5 = some m.cls := hown
  have hl : lv_has ls 3 [(0, .ref (sA G 9 0)), (1, .int a1), (2, .int a2)] := hl
  unfold fX5_of at h
  refine lv_aload_n hx hb dX5_of_0 rfl (lv_at hl 0 rfl) ?_
  refine lv_iload_n hx hb dX5_of_1 rfl (lv_at hl 1 rfl) ?_
  obtain ⟨q2, eq2, h⟩ := o_bd h
  refine kV (As := [.int a1]) (rest := []) (st' := [.int q2]) ⟨hx, hb, hml, hown, hts⟩ (kX5_isRunner l G eq2) (cwV 1 hts gX5_of_X5_isRunner rfl rfl rfl qqX5_isRunner ⟨Nat.le_of_ble_eq_true rfl, Nat.le_of_ble_eq_true rfl⟩) hw (rvMd hw) rfl hl.1 rfl (Nat.le_of_ble_eq_true rfl) dX5_of_2 ⟨Nat.zero_le _, Nat.zero_le _⟩ rfl (fun H locs hw => ?_)
  refine lv_if_eq (tgt := 20) hx hb dX5_of_5 (by decide) (fun c5 => ?_) (fun c5 => ?_)
  · replace h := o_t c5 h
    refine lv_aload_n hx hb dX5_of_20 rfl (lv_at hl 0 rfl) ?_
    refine lv_ldc (v := -1000000001) hx hb hown (hts (.constant RX5 38 (-1000000001)) (by decide +kernel)) dX5_of_21 ?_
    obtain ⟨q23, eq23, h⟩ := o_bd h
    refine kV (As := [.int (-1000000001 : Int32)]) (rest := []) (st' := [.int q23.1]) ⟨hx, hb, hml, hown, hts⟩ (kX5_finds l G eq23) (cwV 1 hts gX5_of_X5_finds rfl rfl rfl qqX5_finds ⟨Nat.le_of_ble_eq_true rfl, Nat.le_of_ble_eq_true rfl⟩) hw (rvMd hw) rfl hl.1 rfl (Nat.le_of_ble_eq_true rfl) dX5_of_23 ⟨Nat.zero_le _, Nat.zero_le _⟩ rfl (fun H locs hw => ?_)
    exact rI hQ hx hb hr hlk hw dX5_of_26 (o_2a h) rfl (o_2b h)
  · replace h := o_f c5 h
    refine lv_iload_n hx hb dX5_of_8 rfl (lv_at hl 2 rfl) ?_
    refine lv_i2l hx hb dX5_of_9 rfl ?_
    refine lv_lconst (v := 0) hx hb dX5_of_10 (by decide) ?_
    refine lv_ldc2 (v := 8) hx hb hown (hts (.constantLong RX5 89 (8)) (by decide +kernel)) dX5_of_11 ?_
    obtain ⟨q14, eq14, h⟩ := o_bd h
    refine kS (As := [.long a2.toInt64, .long (0 : Int64), .long (8 : Int64)]) (rest := []) (st' := [.int q14]) ⟨hx, hb, hml, hown, hts⟩ (kX5_isIn l G eq14) (va_cwS 3 hts gX5_of_X5_isIn rfl rfl rfl qqX5_isIn ⟨Nat.le_of_ble_eq_true rfl, Nat.le_of_ble_eq_true rfl⟩) hw rfl hl.1 rfl (Nat.le_of_ble_eq_true rfl) dX5_of_14 ⟨Nat.zero_le _, Nat.zero_le _⟩ rfl (fun H locs hw => ?_)
    refine lv_if_ne (tgt := 27) hx hb dX5_of_17 (by decide) (fun c17 => ?_) (fun c17 => ?_)
    · replace h := o_f c17 h
      refine lv_iload_n hx hb dX5_of_27 rfl (lv_at hl 2 rfl) ?_
      refine lv_bipush (v := 8) hx hb dX5_of_28 (by decide) ?_
      refine lv_icmp_ge (tgt := 42) hx hb dX5_of_30 (by decide) (fun c30 => ?_) (fun c30 => ?_)
      · replace h := o_t c30 h
        refine lv_aload_n hx hb dX5_of_42 rfl (lv_at hl 0 rfl) ?_
        refine lv_iload_n hx hb dX5_of_43 rfl (lv_at hl 1 rfl) ?_
        obtain ⟨q44, eq44, h⟩ := o_bd h
        refine kV (As := [.int a1]) (rest := []) (st' := [.int q44]) ⟨hx, hb, hml, hown, hts⟩ (kX5_placeOf l G eq44) (cwV 1 hts gX5_of_X5_placeOf rfl rfl rfl qqX5_placeOf ⟨Nat.le_of_ble_eq_true rfl, Nat.le_of_ble_eq_true rfl⟩) hw (rvMd hw) rfl hl.1 rfl (Nat.le_of_ble_eq_true rfl) dX5_of_44 ⟨Nat.zero_le _, Nat.zero_le _⟩ rfl (fun H locs hw => ?_)
        exact rI hQ hx hb hr hlk hw dX5_of_47 (o_2a h) rfl (o_2b h)
      · replace h := o_f c30 h
        refine lv_aload_n hx hb dX5_of_33 rfl (lv_at hl 0 rfl) ?_
        refine lv_iload_n hx hb dX5_of_34 rfl (lv_at hl 1 rfl) ?_
        refine lv_iload_n hx hb dX5_of_35 rfl (lv_at hl 2 rfl) ?_
        obtain ⟨q36, eq36, h⟩ := o_bd h
        refine kV (As := [.int a1, .int a2]) (rest := []) (st' := [.int q36]) ⟨hx, hb, hml, hown, hts⟩ (kX5_is l G eq36) (cwV 2 hts gX5_of_X5_is rfl rfl rfl qqX5_is ⟨Nat.le_of_ble_eq_true rfl, Nat.le_of_ble_eq_true rfl⟩) hw (rvMd hw) rfl hl.1 rfl (Nat.le_of_ble_eq_true rfl) dX5_of_36 ⟨Nat.zero_le _, Nat.zero_le _⟩ rfl (fun H locs hw => ?_)
        refine lv_goto (tgt := 47) hx hb dX5_of_39 (by decide) ?_
        exact rI hQ hx hb hr hlk hw dX5_of_47 (o_2a h) rfl (o_2b h)
    · replace h := o_t c17 h
      refine lv_aload_n hx hb dX5_of_20 rfl (lv_at hl 0 rfl) ?_
      refine lv_ldc (v := -1000000001) hx hb hown (hts (.constant RX5 38 (-1000000001)) (by decide +kernel)) dX5_of_21 ?_
      obtain ⟨q23, eq23, h⟩ := o_bd h
      refine kV (As := [.int (-1000000001 : Int32)]) (rest := []) (st' := [.int q23.1]) ⟨hx, hb, hml, hown, hts⟩ (kX5_finds l G eq23) (cwV 1 hts gX5_of_X5_finds rfl rfl rfl qqX5_finds ⟨Nat.le_of_ble_eq_true rfl, Nat.le_of_ble_eq_true rfl⟩) hw (rvMd hw) rfl hl.1 rfl (Nat.le_of_ble_eq_true rfl) dX5_of_23 ⟨Nat.zero_le _, Nat.zero_le _⟩ rfl (fun H locs hw => ?_)
      exact rI hQ hx hb hr hlk hw dX5_of_26 (o_2a h) rfl (o_2b h)
-- X5_mayBe
def fX5_mayBe (M : sOb) (a1 : Int32) (a2 : Int32) (a3 : Int32) : Option Int32 :=
  if a2 = (1 : Int32) then ((fX5_isIn a3.toInt64 (1 : Int64) (12 : Int64)).bind fun q38 => if ¬ (q38 = 0 ∨ q38 = 1) then none else some q38) else if a2 = (2 : Int32) then ((fX5_isIn a3.toInt64 (0 : Int64) (999 : Int64)).bind fun q48 => if ¬ (q48 = 0 ∨ q48 = 1) then none else some q48) else if a2 = (3 : Int32) then (if a3 = (-1 : Int32) then (some (1 : Int32)) else ((fX5_isRunner M a3).bind fun q59 => if q59 = 0 then (some (0 : Int32)) else (if a3 = a1 then (some (0 : Int32)) else (some (1 : Int32))))) else if a2 = (4 : Int32) then ((fX5_isIn a3.toInt64 (0 : Int64) (((M.2.1 0 (1 : Int32).toNatClampNeg) - (1 : Int32)).toInt64)).bind fun q88 => if ¬ (q88 = 0 ∨ q88 = 1) then none else some q88) else (some (0 : Int32))
def rmX5_mayBe : Room := { frames := 1, cells := 0, slots := 0, locals := 25 }
theorem qqX5_mayBe : yX5_mayBe.cls = RX5 ∧ yX5_mayBe.cls ≠ "java/lang/invoke/MethodHandle" ∧ yX5_mayBe.cls ≠ "java/lang/invoke/VarHandle" ∧ (parseMethodDescriptor yX5_mayBe.desc).map (fun d => d.parameters.length) = some 3 := by decide +kernel
set_option maxRecDepth 100000 in
set_option maxHeartbeats 4000000 in
theorem kX5_mayBe (l : Launch) (G : sGl) {S : sWo} {M : sOb} {a1 : Int32} {a2 : Int32} {a3 : Int32} {q : Int32}  (h : fX5_mayBe M a1 a2 a3 = some q) : sCt l G yX5_mayBe wsX5_mayBe rmX5_mayBe [.ref (sA G 9 0), .int a1, .int a2, .int a3] S M (some (.int q)) S M := by
  refine cMk (cc := cX5_mayBe) (maxL := 4) (ret := (some .boolean)) (by decide) rfl (Nat.le_of_ble_eq_true rfl) ?_
  intro p e s m args below meth c Q hQ hx hb hr hlk hml hown hts hw ls hl
  have hown : s.vm.findClass RX5 = some m.cls := hown
  have hl : lv_has ls 4 [(0, .ref (sA G 9 0)), (1, .int a1), (2, .int a2), (3, .int a3)] := hl
  have hiX5 : ∀ w ∈ u_ws RX5 TX5 15, w ∈ wsX5_mayBe := by decide +kernel
  unfold fX5_mayBe at h
  refine lv_iload_n hx hb dX5_mayBe_0 rfl (lv_at hl 2 rfl) ?_
  by_cases c1_1 : a2 = (1 : Int32)
  · replace h := o_t c1_1 h
    refine lv_tableIn (tgt := 32) hx hb dX5_mayBe_1 (by rw [c1_1]; decide) (by rw [c1_1]; decide) (by rw [c1_1]; rfl) (by decide) ?_
    refine lv_iload_n hx hb dX5_mayBe_32 rfl (lv_at hl 3 rfl) ?_
    refine lv_i2l hx hb dX5_mayBe_33 rfl ?_
    refine lv_lconst (v := 1) hx hb dX5_mayBe_34 (by decide) ?_
    refine lv_ldc2 (v := 12) hx hb hown (hts (.constantLong RX5 70 (12)) (by decide +kernel)) dX5_mayBe_35 ?_
    obtain ⟨q38, eq38, h⟩ := o_bd h
    refine kS (As := [.long a3.toInt64, .long (1 : Int64), .long (12 : Int64)]) (rest := []) (st' := [.int q38]) ⟨hx, hb, hml, hown, hts⟩ (kX5_isIn l G eq38) (va_cwS 3 hts gX5_mayBe_X5_isIn rfl rfl rfl qqX5_isIn ⟨Nat.le_of_ble_eq_true rfl, Nat.le_of_ble_eq_true rfl⟩) hw rfl hl.1 rfl (Nat.le_of_ble_eq_true rfl) dX5_mayBe_38 ⟨Nat.zero_le _, Nat.zero_le _⟩ rfl (fun H locs hw => ?_)
    obtain ⟨b41, h⟩ := o_in h
    exact rZ hQ hx hb hr hlk hw (Decidable.not_not.mp b41) dX5_mayBe_41 (o_1 h) rfl rfl
  replace h := o_f c1_1 h
  by_cases c1_2 : a2 = (2 : Int32)
  · replace h := o_t c1_2 h
    refine lv_tableIn (tgt := 42) hx hb dX5_mayBe_1 (by rw [c1_2]; decide) (by rw [c1_2]; decide) (by rw [c1_2]; rfl) (by decide) ?_
    refine lv_iload_n hx hb dX5_mayBe_42 rfl (lv_at hl 3 rfl) ?_
    refine lv_i2l hx hb dX5_mayBe_43 rfl ?_
    refine lv_lconst (v := 0) hx hb dX5_mayBe_44 (by decide) ?_
    refine lv_ldc2 (v := 999) hx hb hown (hts (.constantLong RX5 72 (999)) (by decide +kernel)) dX5_mayBe_45 ?_
    obtain ⟨q48, eq48, h⟩ := o_bd h
    refine kS (As := [.long a3.toInt64, .long (0 : Int64), .long (999 : Int64)]) (rest := []) (st' := [.int q48]) ⟨hx, hb, hml, hown, hts⟩ (kX5_isIn l G eq48) (va_cwS 3 hts gX5_mayBe_X5_isIn rfl rfl rfl qqX5_isIn ⟨Nat.le_of_ble_eq_true rfl, Nat.le_of_ble_eq_true rfl⟩) hw rfl hl.1 rfl (Nat.le_of_ble_eq_true rfl) dX5_mayBe_48 ⟨Nat.zero_le _, Nat.zero_le _⟩ rfl (fun H locs hw => ?_)
    obtain ⟨b51, h⟩ := o_in h
    exact rZ hQ hx hb hr hlk hw (Decidable.not_not.mp b51) dX5_mayBe_51 (o_1 h) rfl rfl
  replace h := o_f c1_2 h
  by_cases c1_3 : a2 = (3 : Int32)
  · replace h := o_t c1_3 h
    refine lv_tableIn (tgt := 52) hx hb dX5_mayBe_1 (by rw [c1_3]; decide) (by rw [c1_3]; decide) (by rw [c1_3]; rfl) (by decide) ?_
    refine lv_iload_n hx hb dX5_mayBe_52 rfl (lv_at hl 3 rfl) ?_
    refine lv_iconst (v := -1) hx hb dX5_mayBe_53 (by decide) ?_
    refine lv_icmp_eq (tgt := 70) hx hb dX5_mayBe_54 (by decide) (fun c54 => ?_) (fun c54 => ?_)
    · replace h := o_t c54 h
      refine lv_iconst (v := 1) hx hb dX5_mayBe_70 (by decide) ?_
      refine lv_goto (tgt := 75) hx hb dX5_mayBe_71 (by decide) ?_
      exact rZ hQ hx hb hr hlk hw (Or.inr rfl) dX5_mayBe_75 (o_1 h) rfl rfl
    · replace h := o_f c54 h
      refine lv_aload_n hx hb dX5_mayBe_57 rfl (lv_at hl 0 rfl) ?_
      refine lv_iload_n hx hb dX5_mayBe_58 rfl (lv_at hl 3 rfl) ?_
      obtain ⟨q59, eq59, h⟩ := o_bd h
      refine kV (As := [.int a3]) (rest := []) (st' := [.int q59]) ⟨hx, hb, hml, hown, hts⟩ (kX5_isRunner l G eq59) (cwV 1 hts gX5_mayBe_X5_isRunner rfl rfl rfl qqX5_isRunner ⟨Nat.le_of_ble_eq_true rfl, Nat.le_of_ble_eq_true rfl⟩) hw (rvMd hw) rfl hl.1 rfl (Nat.le_of_ble_eq_true rfl) dX5_mayBe_59 ⟨Nat.zero_le _, Nat.zero_le _⟩ rfl (fun H locs hw => ?_)
      refine lv_if_eq (tgt := 74) hx hb dX5_mayBe_62 (by decide) (fun c62 => ?_) (fun c62 => ?_)
      · replace h := o_t c62 h
        refine lv_iconst (v := 0) hx hb dX5_mayBe_74 (by decide) ?_
        exact rZ hQ hx hb hr hlk hw (Or.inl rfl) dX5_mayBe_75 (o_1 h) rfl rfl
      · replace h := o_f c62 h
        refine lv_iload_n hx hb dX5_mayBe_65 rfl (lv_at hl 3 rfl) ?_
        refine lv_iload_n hx hb dX5_mayBe_66 rfl (lv_at hl 1 rfl) ?_
        refine lv_icmp_eq (tgt := 74) hx hb dX5_mayBe_67 (by decide) (fun c67 => ?_) (fun c67 => ?_)
        · replace h := o_t c67 h
          refine lv_iconst (v := 0) hx hb dX5_mayBe_74 (by decide) ?_
          exact rZ hQ hx hb hr hlk hw (Or.inl rfl) dX5_mayBe_75 (o_1 h) rfl rfl
        · replace h := o_f c67 h
          refine lv_iconst (v := 1) hx hb dX5_mayBe_70 (by decide) ?_
          refine lv_goto (tgt := 75) hx hb dX5_mayBe_71 (by decide) ?_
          exact rZ hQ hx hb hr hlk hw (Or.inr rfl) dX5_mayBe_75 (o_1 h) rfl rfl
  replace h := o_f c1_3 h
  by_cases c1_4 : a2 = (4 : Int32)
  · replace h := o_t c1_4 h
    refine lv_tableIn (tgt := 76) hx hb dX5_mayBe_1 (by rw [c1_4]; decide) (by rw [c1_4]; decide) (by rw [c1_4]; rfl) (by decide) ?_
    refine lv_iload_n hx hb dX5_mayBe_76 rfl (lv_at hl 3 rfl) ?_
    refine lv_i2l hx hb dX5_mayBe_77 rfl ?_
    refine lv_lconst (v := 0) hx hb dX5_mayBe_78 (by decide) ?_
    refine lv_aload_n hx hb dX5_mayBe_79 rfl (lv_at hl 0 rfl) ?_
    refine gMd (v := .ref (sA G 9 1)) hx hb hts hiX5 hown hw 0 (by decide) (hts (.fieldLink RX5 7 "SecondHomeModel" "s" "[I") (by decide +kernel)) rfl dX5_mayBe_80 ?_
    refine lv_iconst (v := 1) hx hb dX5_mayBe_83 (by decide) ?_
    refine ldMd hx hb hw 0 (by decide) (n := 77) rfl (by decide) dX5_mayBe_84 ?_
    refine lv_iconst (v := 1) hx hb dX5_mayBe_85 (by decide) ?_
    refine lv_isub hx hb dX5_mayBe_86 ?_
    refine lv_i2l hx hb dX5_mayBe_87 rfl ?_
    obtain ⟨q88, eq88, h⟩ := o_bd h
    refine kS (As := [.long a3.toInt64, .long (0 : Int64), .long (((M.2.1 0 (1 : Int32).toNatClampNeg) - (1 : Int32)).toInt64)]) (rest := []) (st' := [.int q88]) ⟨hx, hb, hml, hown, hts⟩ (kX5_isIn l G eq88) (va_cwS 3 hts gX5_mayBe_X5_isIn rfl rfl rfl qqX5_isIn ⟨Nat.le_of_ble_eq_true rfl, Nat.le_of_ble_eq_true rfl⟩) hw rfl hl.1 rfl (Nat.le_of_ble_eq_true rfl) dX5_mayBe_88 ⟨Nat.zero_le _, Nat.zero_le _⟩ rfl (fun H locs hw => ?_)
    obtain ⟨b91, h⟩ := o_in h
    exact rZ hQ hx hb hr hlk hw (Decidable.not_not.mp b91) dX5_mayBe_91 (o_1 h) rfl rfl
  replace h := o_f c1_4 h
  have sw1 : a2.toInt < 1 ∨ 4 < a2.toInt := by
    have z1 := sw_ne c1_1
    have z2 := sw_ne c1_2
    have z3 := sw_ne c1_3
    have z4 := sw_ne c1_4
    rw [show ((1 : Int32)).toInt = 1 from rfl] at z1
    rw [show ((2 : Int32)).toInt = 2 from rfl] at z2
    rw [show ((3 : Int32)).toInt = 3 from rfl] at z3
    rw [show ((4 : Int32)).toInt = 4 from rfl] at z4
    omega
  refine lv_tableOut (tgt := 92) hx hb dX5_mayBe_1 sw1 (by decide) ?_
  refine lv_iconst (v := 0) hx hb dX5_mayBe_92 (by decide) ?_
  exact rZ hQ hx hb hr hlk hw (Or.inl rfl) dX5_mayBe_93 (o_1 h) rfl rfl
-- X5_set
def fX5_set (M : sOb) (a1 : Int32) (a2 : Int32) (a3 : Int32) : Option (Int32 × sOb) :=
  (fX5_isRunner M a1).bind fun q2 => if q2 = 0 then ((fX5_finds M (-1000000001 : Int32)).bind fun q37 => some (q37.1, q37.2)) else ((fX5_mayBe M a1 a2 a3).bind fun q12 => if q12 = 0 then ((fX5_finds M (-1000000001 : Int32)).bind fun q37 => some (q37.1, q37.2)) else ((fX5_becomes M (((5 : Int32) + ((8 : Int32) * a1)) + a2) a3).bind fun q28 => some (q28.1, q28.2)))
def rmX5_set : Room := { frames := 2, cells := 0, slots := 0, locals := 48 }
theorem qqX5_set : yX5_set.cls = RX5 ∧ yX5_set.cls ≠ "java/lang/invoke/MethodHandle" ∧ yX5_set.cls ≠ "java/lang/invoke/VarHandle" ∧ (parseMethodDescriptor yX5_set.desc).map (fun d => d.parameters.length) = some 3 := by decide +kernel
set_option maxRecDepth 100000 in
set_option maxHeartbeats 4000000 in
theorem kX5_set (l : Launch) (G : sGl) {S : sWo} {M : sOb} {a1 : Int32} {a2 : Int32} {a3 : Int32} {q : (Int32 × sOb)}  (h : fX5_set M a1 a2 a3 = some q) : sCt l G yX5_set wsX5_set rmX5_set [.ref (sA G 9 0), .int a1, .int a2, .int a3] S M (some (.int q.1)) S q.2 := by
  refine cMk (cc := cX5_set) (maxL := 4) (ret := (some .int)) (by decide) rfl (Nat.le_of_ble_eq_true rfl) ?_
  intro p e s m args below meth c Q hQ hx hb hr hlk hml hown hts hw ls hl
  have hown : s.vm.findClass RX5 = some m.cls := hown
  have hl : lv_has ls 4 [(0, .ref (sA G 9 0)), (1, .int a1), (2, .int a2), (3, .int a3)] := hl
  unfold fX5_set at h
  refine lv_aload_n hx hb dX5_set_0 rfl (lv_at hl 0 rfl) ?_
  refine lv_iload_n hx hb dX5_set_1 rfl (lv_at hl 1 rfl) ?_
  obtain ⟨q2, eq2, h⟩ := o_bd h
  refine kV (As := [.int a1]) (rest := []) (st' := [.int q2]) ⟨hx, hb, hml, hown, hts⟩ (kX5_isRunner l G eq2) (cwV 1 hts gX5_set_X5_isRunner rfl rfl rfl qqX5_isRunner ⟨Nat.le_of_ble_eq_true rfl, Nat.le_of_ble_eq_true rfl⟩) hw (rvMd hw) rfl hl.1 rfl (Nat.le_of_ble_eq_true rfl) dX5_set_2 ⟨Nat.zero_le _, Nat.zero_le _⟩ rfl (fun H locs hw => ?_)
  refine lv_if_eq (tgt := 34) hx hb dX5_set_5 (by decide) (fun c5 => ?_) (fun c5 => ?_)
  · replace h := o_t c5 h
    refine lv_aload_n hx hb dX5_set_34 rfl (lv_at hl 0 rfl) ?_
    refine lv_ldc (v := -1000000001) hx hb hown (hts (.constant RX5 38 (-1000000001)) (by decide +kernel)) dX5_set_35 ?_
    obtain ⟨q37, eq37, h⟩ := o_bd h
    refine kV (As := [.int (-1000000001 : Int32)]) (rest := []) (st' := [.int q37.1]) ⟨hx, hb, hml, hown, hts⟩ (kX5_finds l G eq37) (cwV 1 hts gX5_set_X5_finds rfl rfl rfl qqX5_finds ⟨Nat.le_of_ble_eq_true rfl, Nat.le_of_ble_eq_true rfl⟩) hw (rvMd hw) rfl hl.1 rfl (Nat.le_of_ble_eq_true rfl) dX5_set_37 ⟨Nat.zero_le _, Nat.zero_le _⟩ rfl (fun H locs hw => ?_)
    exact rI hQ hx hb hr hlk hw dX5_set_40 (o_2a h) rfl (o_2b h)
  · replace h := o_f c5 h
    refine lv_aload_n hx hb dX5_set_8 rfl (lv_at hl 0 rfl) ?_
    refine lv_iload_n hx hb dX5_set_9 rfl (lv_at hl 1 rfl) ?_
    refine lv_iload_n hx hb dX5_set_10 rfl (lv_at hl 2 rfl) ?_
    refine lv_iload_n hx hb dX5_set_11 rfl (lv_at hl 3 rfl) ?_
    obtain ⟨q12, eq12, h⟩ := o_bd h
    refine kV (As := [.int a1, .int a2, .int a3]) (rest := []) (st' := [.int q12]) ⟨hx, hb, hml, hown, hts⟩ (kX5_mayBe l G eq12) (cwV 3 hts gX5_set_X5_mayBe rfl rfl rfl qqX5_mayBe ⟨Nat.le_of_ble_eq_true rfl, Nat.le_of_ble_eq_true rfl⟩) hw (rvMd hw) rfl hl.1 rfl (Nat.le_of_ble_eq_true rfl) dX5_set_12 ⟨Nat.zero_le _, Nat.zero_le _⟩ rfl (fun H locs hw => ?_)
    refine lv_if_eq (tgt := 34) hx hb dX5_set_15 (by decide) (fun c15 => ?_) (fun c15 => ?_)
    · replace h := o_t c15 h
      refine lv_aload_n hx hb dX5_set_34 rfl (lv_at hl 0 rfl) ?_
      refine lv_ldc (v := -1000000001) hx hb hown (hts (.constant RX5 38 (-1000000001)) (by decide +kernel)) dX5_set_35 ?_
      obtain ⟨q37, eq37, h⟩ := o_bd h
      refine kV (As := [.int (-1000000001 : Int32)]) (rest := []) (st' := [.int q37.1]) ⟨hx, hb, hml, hown, hts⟩ (kX5_finds l G eq37) (cwV 1 hts gX5_set_X5_finds rfl rfl rfl qqX5_finds ⟨Nat.le_of_ble_eq_true rfl, Nat.le_of_ble_eq_true rfl⟩) hw (rvMd hw) rfl hl.1 rfl (Nat.le_of_ble_eq_true rfl) dX5_set_37 ⟨Nat.zero_le _, Nat.zero_le _⟩ rfl (fun H locs hw => ?_)
      exact rI hQ hx hb hr hlk hw dX5_set_40 (o_2a h) rfl (o_2b h)
    · replace h := o_f c15 h
      refine lv_aload_n hx hb dX5_set_18 rfl (lv_at hl 0 rfl) ?_
      refine lv_iconst (v := 5) hx hb dX5_set_19 (by decide) ?_
      refine lv_bipush (v := 8) hx hb dX5_set_20 (by decide) ?_
      refine lv_iload_n hx hb dX5_set_22 rfl (lv_at hl 1 rfl) ?_
      refine lv_imul hx hb dX5_set_23 ?_
      refine lv_iadd hx hb dX5_set_24 ?_
      refine lv_iload_n hx hb dX5_set_25 rfl (lv_at hl 2 rfl) ?_
      refine lv_iadd hx hb dX5_set_26 ?_
      refine lv_iload_n hx hb dX5_set_27 rfl (lv_at hl 3 rfl) ?_
      obtain ⟨q28, eq28, h⟩ := o_bd h
      refine kV (As := [.int (((5 : Int32) + ((8 : Int32) * a1)) + a2), .int a3]) (rest := []) (st' := [.int q28.1]) ⟨hx, hb, hml, hown, hts⟩ (kX5_becomes l G eq28) (cwV 2 hts gX5_set_X5_becomes rfl rfl rfl qqX5_becomes ⟨Nat.le_of_ble_eq_true rfl, Nat.le_of_ble_eq_true rfl⟩) hw (rvMd hw) rfl hl.1 rfl (Nat.le_of_ble_eq_true rfl) dX5_set_28 ⟨Nat.zero_le _, Nat.zero_le _⟩ rfl (fun H locs hw => ?_)
      refine lv_goto (tgt := 40) hx hb dX5_set_31 (by decide) ?_
      exact rI hQ hx hb hr hlk hw dX5_set_40 (o_2a h) rfl (o_2b h)
-- X5_turn
def fX5_turn (M : sOb) (a1 : Int32) (a2 : Int32) : Option (Int32 × sOb) :=
  (fX5_isRunner M a1).bind fun q2 => if q2 = 0 then ((fX5_finds M (-1000000001 : Int32)).bind fun q37 => some (q37.1, q37.2)) else ((fX5_isIn a2.toInt64 (0 : Int64) (5 : Int64)).bind fun q14 => if q14 = 0 then ((fX5_finds M (-1000000001 : Int32)).bind fun q37 => some (q37.1, q37.2)) else ((fX5_becomes M ((5 : Int32) + ((8 : Int32) * a1)) a2).bind fun q28 => some (q28.1, q28.2)))
def rmX5_turn : Room := { frames := 1, cells := 0, slots := 0, locals := 25 }
theorem qqX5_turn : yX5_turn.cls = RX5 ∧ yX5_turn.cls ≠ "java/lang/invoke/MethodHandle" ∧ yX5_turn.cls ≠ "java/lang/invoke/VarHandle" ∧ (parseMethodDescriptor yX5_turn.desc).map (fun d => d.parameters.length) = some 2 := by decide +kernel
set_option maxRecDepth 100000 in
set_option maxHeartbeats 4000000 in
theorem kX5_turn (l : Launch) (G : sGl) {S : sWo} {M : sOb} {a1 : Int32} {a2 : Int32} {q : (Int32 × sOb)}  (h : fX5_turn M a1 a2 = some q) : sCt l G yX5_turn wsX5_turn rmX5_turn [.ref (sA G 9 0), .int a1, .int a2] S M (some (.int q.1)) S q.2 := by
  refine cMk (cc := cX5_turn) (maxL := 3) (ret := (some .int)) (by decide) rfl (Nat.le_of_ble_eq_true rfl) ?_
  intro p e s m args below meth c Q hQ hx hb hr hlk hml hown hts hw ls hl
  have hown : s.vm.findClass RX5 = some m.cls := hown
  have hl : lv_has ls 3 [(0, .ref (sA G 9 0)), (1, .int a1), (2, .int a2)] := hl
  unfold fX5_turn at h
  refine lv_aload_n hx hb dX5_turn_0 rfl (lv_at hl 0 rfl) ?_
  refine lv_iload_n hx hb dX5_turn_1 rfl (lv_at hl 1 rfl) ?_
  obtain ⟨q2, eq2, h⟩ := o_bd h
  refine kV (As := [.int a1]) (rest := []) (st' := [.int q2]) ⟨hx, hb, hml, hown, hts⟩ (kX5_isRunner l G eq2) (cwV 1 hts gX5_turn_X5_isRunner rfl rfl rfl qqX5_isRunner ⟨Nat.le_of_ble_eq_true rfl, Nat.le_of_ble_eq_true rfl⟩) hw (rvMd hw) rfl hl.1 rfl (Nat.le_of_ble_eq_true rfl) dX5_turn_2 ⟨Nat.zero_le _, Nat.zero_le _⟩ rfl (fun H locs hw => ?_)
  refine lv_if_eq (tgt := 34) hx hb dX5_turn_5 (by decide) (fun c5 => ?_) (fun c5 => ?_)
  · replace h := o_t c5 h
    refine lv_aload_n hx hb dX5_turn_34 rfl (lv_at hl 0 rfl) ?_
    refine lv_ldc (v := -1000000001) hx hb hown (hts (.constant RX5 38 (-1000000001)) (by decide +kernel)) dX5_turn_35 ?_
    obtain ⟨q37, eq37, h⟩ := o_bd h
    refine kV (As := [.int (-1000000001 : Int32)]) (rest := []) (st' := [.int q37.1]) ⟨hx, hb, hml, hown, hts⟩ (kX5_finds l G eq37) (cwV 1 hts gX5_turn_X5_finds rfl rfl rfl qqX5_finds ⟨Nat.le_of_ble_eq_true rfl, Nat.le_of_ble_eq_true rfl⟩) hw (rvMd hw) rfl hl.1 rfl (Nat.le_of_ble_eq_true rfl) dX5_turn_37 ⟨Nat.zero_le _, Nat.zero_le _⟩ rfl (fun H locs hw => ?_)
    exact rI hQ hx hb hr hlk hw dX5_turn_40 (o_2a h) rfl (o_2b h)
  · replace h := o_f c5 h
    refine lv_iload_n hx hb dX5_turn_8 rfl (lv_at hl 2 rfl) ?_
    refine lv_i2l hx hb dX5_turn_9 rfl ?_
    refine lv_lconst (v := 0) hx hb dX5_turn_10 (by decide) ?_
    refine lv_ldc2 (v := 5) hx hb hown (hts (.constantLong RX5 68 (5)) (by decide +kernel)) dX5_turn_11 ?_
    obtain ⟨q14, eq14, h⟩ := o_bd h
    refine kS (As := [.long a2.toInt64, .long (0 : Int64), .long (5 : Int64)]) (rest := []) (st' := [.int q14]) ⟨hx, hb, hml, hown, hts⟩ (kX5_isIn l G eq14) (va_cwS 3 hts gX5_turn_X5_isIn rfl rfl rfl qqX5_isIn ⟨Nat.le_of_ble_eq_true rfl, Nat.le_of_ble_eq_true rfl⟩) hw rfl hl.1 rfl (Nat.le_of_ble_eq_true rfl) dX5_turn_14 ⟨Nat.zero_le _, Nat.zero_le _⟩ rfl (fun H locs hw => ?_)
    refine lv_if_eq (tgt := 34) hx hb dX5_turn_17 (by decide) (fun c17 => ?_) (fun c17 => ?_)
    · replace h := o_t c17 h
      refine lv_aload_n hx hb dX5_turn_34 rfl (lv_at hl 0 rfl) ?_
      refine lv_ldc (v := -1000000001) hx hb hown (hts (.constant RX5 38 (-1000000001)) (by decide +kernel)) dX5_turn_35 ?_
      obtain ⟨q37, eq37, h⟩ := o_bd h
      refine kV (As := [.int (-1000000001 : Int32)]) (rest := []) (st' := [.int q37.1]) ⟨hx, hb, hml, hown, hts⟩ (kX5_finds l G eq37) (cwV 1 hts gX5_turn_X5_finds rfl rfl rfl qqX5_finds ⟨Nat.le_of_ble_eq_true rfl, Nat.le_of_ble_eq_true rfl⟩) hw (rvMd hw) rfl hl.1 rfl (Nat.le_of_ble_eq_true rfl) dX5_turn_37 ⟨Nat.zero_le _, Nat.zero_le _⟩ rfl (fun H locs hw => ?_)
      exact rI hQ hx hb hr hlk hw dX5_turn_40 (o_2a h) rfl (o_2b h)
    · replace h := o_f c17 h
      refine lv_aload_n hx hb dX5_turn_20 rfl (lv_at hl 0 rfl) ?_
      refine lv_iconst (v := 5) hx hb dX5_turn_21 (by decide) ?_
      refine lv_bipush (v := 8) hx hb dX5_turn_22 (by decide) ?_
      refine lv_iload_n hx hb dX5_turn_24 rfl (lv_at hl 1 rfl) ?_
      refine lv_imul hx hb dX5_turn_25 ?_
      refine lv_iadd hx hb dX5_turn_26 ?_
      refine lv_iload_n hx hb dX5_turn_27 rfl (lv_at hl 2 rfl) ?_
      obtain ⟨q28, eq28, h⟩ := o_bd h
      refine kV (As := [.int ((5 : Int32) + ((8 : Int32) * a1)), .int a2]) (rest := []) (st' := [.int q28.1]) ⟨hx, hb, hml, hown, hts⟩ (kX5_becomes l G eq28) (cwV 2 hts gX5_turn_X5_becomes rfl rfl rfl qqX5_becomes ⟨Nat.le_of_ble_eq_true rfl, Nat.le_of_ble_eq_true rfl⟩) hw (rvMd hw) rfl hl.1 rfl (Nat.le_of_ble_eq_true rfl) dX5_turn_28 ⟨Nat.zero_le _, Nat.zero_le _⟩ rfl (fun H locs hw => ?_)
      refine lv_goto (tgt := 40) hx hb dX5_turn_31 (by decide) ?_
      exact rI hQ hx hb hr hlk hw dX5_turn_40 (o_2a h) rfl (o_2b h)
-- X5_isUnder
def fX5_isUnder (a0 : Int32) (a1 : Int32) : Option Int32 :=
  if a0 = a1 then (some (1 : Int32)) else (if a1 = 0 then (some (1 : Int32)) else (nm (if a1 = (2 : Int32) then (if a0 = (3 : Int32) then (some (1 : Int32)) else (some (0 : Int32))) else (some (0 : Int32))) fun k19 => if a1 = (1 : Int32) then (if (3 : Int32) < a0 then (some (1 : Int32)) else k19) else k19))
def rmX5_isUnder : Room := { frames := 0, cells := 0, slots := 0, locals := 0 }
theorem qqX5_isUnder : yX5_isUnder.cls ≠ "java/lang/invoke/MethodHandle" ∧ yX5_isUnder.cls ≠ "java/lang/invoke/VarHandle" ∧ (parseMethodDescriptor yX5_isUnder.desc).map (fun d => d.parameters.length) = some 2 := by decide +kernel
set_option maxRecDepth 100000 in
set_option maxHeartbeats 4000000 in
theorem kX5_isUnder (l : Launch) (G : sGl) {S : sWo} {M : sOb} {a0 : Int32} {a1 : Int32} {q : Int32}  (h : fX5_isUnder a0 a1 = some q) : sCt l G yX5_isUnder wsX5_isUnder rmX5_isUnder [.int a0, .int a1] S M (some (.int q)) S M := by
  refine cMk (cc := cX5_isUnder) (maxL := 2) (ret := (some .boolean)) (by decide) rfl (Nat.le_of_ble_eq_true rfl) ?_
  intro p e s m args below meth c Q hQ hx hb hr hlk hml hown hts hw ls hl
  have hown : s.vm.findClass RX5 = some m.cls := hown
  have hl : lv_has ls 2 [(0, .int a0), (1, .int a1)] := hl
  unfold fX5_isUnder at h
  refine lv_iload_n hx hb dX5_isUnder_0 rfl (lv_at hl 0 rfl) ?_
  refine lv_iload_n hx hb dX5_isUnder_1 rfl (lv_at hl 1 rfl) ?_
  refine lv_icmp_eq (tgt := 29) hx hb dX5_isUnder_2 (by decide) (fun c2 => ?_) (fun c2 => ?_)
  · replace h := o_t c2 h
    refine lv_iconst (v := 1) hx hb dX5_isUnder_29 (by decide) ?_
    refine lv_goto (tgt := 34) hx hb dX5_isUnder_30 (by decide) ?_
    exact rZ hQ hx hb hr hlk hw (Or.inr rfl) dX5_isUnder_34 (o_1 h) rfl rfl
  · replace h := o_f c2 h
    refine lv_iload_n hx hb dX5_isUnder_5 rfl (lv_at hl 1 rfl) ?_
    refine lv_if_eq (tgt := 29) hx hb dX5_isUnder_6 (by decide) (fun c6 => ?_) (fun c6 => ?_)
    · replace h := o_t c6 h
      refine lv_iconst (v := 1) hx hb dX5_isUnder_29 (by decide) ?_
      refine lv_goto (tgt := 34) hx hb dX5_isUnder_30 (by decide) ?_
      exact rZ hQ hx hb hr hlk hw (Or.inr rfl) dX5_isUnder_34 (o_1 h) rfl rfl
    · replace h := o_f c6 h
      refine lv_iload_n hx hb dX5_isUnder_9 rfl (lv_at hl 1 rfl) ?_
      refine lv_iconst (v := 1) hx hb dX5_isUnder_10 (by decide) ?_
      obtain ⟨k19, ek19, h⟩ := o_nm h
      have J19 : ∀ (H : Heap) (locs : List Loc) (ls : Array Slot), sHw G s S M H locs → lv_has ls 2 [(0, .int a0), (1, .int a1)] → k19 = some q → W p l e rmX5_isUnder s m args below meth c H locs 0 0 Q (F0 m 19 ls []) := by
        intro H locs ls hw hl h
        replace h := o_j0 ek19 h
        refine lv_iload_n hx hb dX5_isUnder_19 rfl (lv_at hl 1 rfl) ?_
        refine lv_iconst (v := 2) hx hb dX5_isUnder_20 (by decide) ?_
        refine lv_icmp_ne (tgt := 33) hx hb dX5_isUnder_21 (by decide) (fun c21 => ?_) (fun c21 => ?_)
        · replace h := o_f c21 h
          refine lv_iconst (v := 0) hx hb dX5_isUnder_33 (by decide) ?_
          exact rZ hQ hx hb hr hlk hw (Or.inl rfl) dX5_isUnder_34 (o_1 h) rfl rfl
        · replace h := o_t c21 h
          refine lv_iload_n hx hb dX5_isUnder_24 rfl (lv_at hl 0 rfl) ?_
          refine lv_iconst (v := 3) hx hb dX5_isUnder_25 (by decide) ?_
          refine lv_icmp_ne (tgt := 33) hx hb dX5_isUnder_26 (by decide) (fun c26 => ?_) (fun c26 => ?_)
          · replace h := o_f c26 h
            refine lv_iconst (v := 0) hx hb dX5_isUnder_33 (by decide) ?_
            exact rZ hQ hx hb hr hlk hw (Or.inl rfl) dX5_isUnder_34 (o_1 h) rfl rfl
          · replace h := o_t c26 h
            refine lv_iconst (v := 1) hx hb dX5_isUnder_29 (by decide) ?_
            refine lv_goto (tgt := 34) hx hb dX5_isUnder_30 (by decide) ?_
            exact rZ hQ hx hb hr hlk hw (Or.inr rfl) dX5_isUnder_34 (o_1 h) rfl rfl
      refine lv_icmp_ne (tgt := 19) hx hb dX5_isUnder_11 (by decide) (fun c11 => ?_) (fun c11 => ?_)
      · replace h := o_f c11 h
        exact J19 _ _ _ hw (lv_sub hl [0, 1] rfl) h
      · replace h := o_t c11 h
        refine lv_iload_n hx hb dX5_isUnder_14 rfl (lv_at hl 0 rfl) ?_
        refine lv_iconst (v := 3) hx hb dX5_isUnder_15 (by decide) ?_
        refine lv_icmp_gt (tgt := 29) hx hb dX5_isUnder_16 (by decide) (fun c16 => ?_) (fun c16 => ?_)
        · replace h := o_t c16 h
          refine lv_iconst (v := 1) hx hb dX5_isUnder_29 (by decide) ?_
          refine lv_goto (tgt := 34) hx hb dX5_isUnder_30 (by decide) ?_
          exact rZ hQ hx hb hr hlk hw (Or.inr rfl) dX5_isUnder_34 (o_1 h) rfl rfl
        · replace h := o_f c16 h
          exact J19 _ _ _ hw (lv_sub hl [0, 1] rfl) h
-- X5_as
def fX5_as (M : sOb) (a1 : Int32) (a2 : Int32) : Option (Int32 × sOb) :=
  (fX5_isRunner M a1).bind fun q2 => if q2 = 0 then ((fX5_finds M (-1000000001 : Int32)).bind fun q23 => some (q23.1, q23.2)) else ((fX5_isIn a2.toInt64 (0 : Int64) (5 : Int64)).bind fun q14 => if q14 = 0 then ((fX5_finds M (-1000000001 : Int32)).bind fun q23 => some (q23.1, q23.2)) else ((fX5_is M a1 (0 : Int32)).bind fun q30 => (fX5_isUnder q30 a2).bind fun q34 => if q34 = 0 then ((fX5_finds M (-1000000003 : Int32)).bind fun q52 => some (q52.1, q52.2)) else ((fX5_is M a1 (1 : Int32)).bind fun q43 => some (q43, M))))
def rmX5_as : Room := { frames := 1, cells := 0, slots := 0, locals := 25 }
theorem qqX5_as : yX5_as.cls = RX5 ∧ yX5_as.cls ≠ "java/lang/invoke/MethodHandle" ∧ yX5_as.cls ≠ "java/lang/invoke/VarHandle" ∧ (parseMethodDescriptor yX5_as.desc).map (fun d => d.parameters.length) = some 2 := by decide +kernel
set_option maxRecDepth 100000 in
set_option maxHeartbeats 4000000 in
theorem kX5_as (l : Launch) (G : sGl) {S : sWo} {M : sOb} {a1 : Int32} {a2 : Int32} {q : (Int32 × sOb)}  (h : fX5_as M a1 a2 = some q) : sCt l G yX5_as wsX5_as rmX5_as [.ref (sA G 9 0), .int a1, .int a2] S M (some (.int q.1)) S q.2 := by
  refine cMk (cc := cX5_as) (maxL := 3) (ret := (some .int)) (by decide) rfl (Nat.le_of_ble_eq_true rfl) ?_
  intro p e s m args below meth c Q hQ hx hb hr hlk hml hown hts hw ls hl
  have hown : s.vm.findClass RX5 = some m.cls := hown
  have hl : lv_has ls 3 [(0, .ref (sA G 9 0)), (1, .int a1), (2, .int a2)] := hl
  unfold fX5_as at h
  refine lv_aload_n hx hb dX5_as_0 rfl (lv_at hl 0 rfl) ?_
  refine lv_iload_n hx hb dX5_as_1 rfl (lv_at hl 1 rfl) ?_
  obtain ⟨q2, eq2, h⟩ := o_bd h
  refine kV (As := [.int a1]) (rest := []) (st' := [.int q2]) ⟨hx, hb, hml, hown, hts⟩ (kX5_isRunner l G eq2) (cwV 1 hts gX5_as_X5_isRunner rfl rfl rfl qqX5_isRunner ⟨Nat.le_of_ble_eq_true rfl, Nat.le_of_ble_eq_true rfl⟩) hw (rvMd hw) rfl hl.1 rfl (Nat.le_of_ble_eq_true rfl) dX5_as_2 ⟨Nat.zero_le _, Nat.zero_le _⟩ rfl (fun H locs hw => ?_)
  refine lv_if_eq (tgt := 20) hx hb dX5_as_5 (by decide) (fun c5 => ?_) (fun c5 => ?_)
  · replace h := o_t c5 h
    refine lv_aload_n hx hb dX5_as_20 rfl (lv_at hl 0 rfl) ?_
    refine lv_ldc (v := -1000000001) hx hb hown (hts (.constant RX5 38 (-1000000001)) (by decide +kernel)) dX5_as_21 ?_
    obtain ⟨q23, eq23, h⟩ := o_bd h
    refine kV (As := [.int (-1000000001 : Int32)]) (rest := []) (st' := [.int q23.1]) ⟨hx, hb, hml, hown, hts⟩ (kX5_finds l G eq23) (cwV 1 hts gX5_as_X5_finds rfl rfl rfl qqX5_finds ⟨Nat.le_of_ble_eq_true rfl, Nat.le_of_ble_eq_true rfl⟩) hw (rvMd hw) rfl hl.1 rfl (Nat.le_of_ble_eq_true rfl) dX5_as_23 ⟨Nat.zero_le _, Nat.zero_le _⟩ rfl (fun H locs hw => ?_)
    exact rI hQ hx hb hr hlk hw dX5_as_26 (o_2a h) rfl (o_2b h)
  · replace h := o_f c5 h
    refine lv_iload_n hx hb dX5_as_8 rfl (lv_at hl 2 rfl) ?_
    refine lv_i2l hx hb dX5_as_9 rfl ?_
    refine lv_lconst (v := 0) hx hb dX5_as_10 (by decide) ?_
    refine lv_ldc2 (v := 5) hx hb hown (hts (.constantLong RX5 68 (5)) (by decide +kernel)) dX5_as_11 ?_
    obtain ⟨q14, eq14, h⟩ := o_bd h
    refine kS (As := [.long a2.toInt64, .long (0 : Int64), .long (5 : Int64)]) (rest := []) (st' := [.int q14]) ⟨hx, hb, hml, hown, hts⟩ (kX5_isIn l G eq14) (va_cwS 3 hts gX5_as_X5_isIn rfl rfl rfl qqX5_isIn ⟨Nat.le_of_ble_eq_true rfl, Nat.le_of_ble_eq_true rfl⟩) hw rfl hl.1 rfl (Nat.le_of_ble_eq_true rfl) dX5_as_14 ⟨Nat.zero_le _, Nat.zero_le _⟩ rfl (fun H locs hw => ?_)
    refine lv_if_ne (tgt := 27) hx hb dX5_as_17 (by decide) (fun c17 => ?_) (fun c17 => ?_)
    · replace h := o_f c17 h
      refine lv_aload_n hx hb dX5_as_27 rfl (lv_at hl 0 rfl) ?_
      refine lv_iload_n hx hb dX5_as_28 rfl (lv_at hl 1 rfl) ?_
      refine lv_iconst (v := 0) hx hb dX5_as_29 (by decide) ?_
      obtain ⟨q30, eq30, h⟩ := o_bd h
      refine kV (As := [.int a1, .int (0 : Int32)]) (rest := []) (st' := [.int q30]) ⟨hx, hb, hml, hown, hts⟩ (kX5_is l G eq30) (cwV 2 hts gX5_as_X5_is rfl rfl rfl qqX5_is ⟨Nat.le_of_ble_eq_true rfl, Nat.le_of_ble_eq_true rfl⟩) hw (rvMd hw) rfl hl.1 rfl (Nat.le_of_ble_eq_true rfl) dX5_as_30 ⟨Nat.zero_le _, Nat.zero_le _⟩ rfl (fun H locs hw => ?_)
      refine lv_iload_n hx hb dX5_as_33 rfl (lv_at hl 2 rfl) ?_
      obtain ⟨q34, eq34, h⟩ := o_bd h
      refine kS (As := [.int q30, .int a2]) (rest := []) (st' := [.int q34]) ⟨hx, hb, hml, hown, hts⟩ (kX5_isUnder l G eq34) (va_cwS 2 hts gX5_as_X5_isUnder rfl rfl rfl qqX5_isUnder ⟨Nat.le_of_ble_eq_true rfl, Nat.le_of_ble_eq_true rfl⟩) hw rfl hl.1 rfl (Nat.le_of_ble_eq_true rfl) dX5_as_34 ⟨Nat.zero_le _, Nat.zero_le _⟩ rfl (fun H locs hw => ?_)
      refine lv_if_eq (tgt := 49) hx hb dX5_as_37 (by decide) (fun c37 => ?_) (fun c37 => ?_)
      · replace h := o_t c37 h
        refine lv_aload_n hx hb dX5_as_49 rfl (lv_at hl 0 rfl) ?_
        refine lv_ldc (v := -1000000003) hx hb hown (hts (.constant RX5 101 (-1000000003)) (by decide +kernel)) dX5_as_50 ?_
        obtain ⟨q52, eq52, h⟩ := o_bd h
        refine kV (As := [.int (-1000000003 : Int32)]) (rest := []) (st' := [.int q52.1]) ⟨hx, hb, hml, hown, hts⟩ (kX5_finds l G eq52) (cwV 1 hts gX5_as_X5_finds rfl rfl rfl qqX5_finds ⟨Nat.le_of_ble_eq_true rfl, Nat.le_of_ble_eq_true rfl⟩) hw (rvMd hw) rfl hl.1 rfl (Nat.le_of_ble_eq_true rfl) dX5_as_52 ⟨Nat.zero_le _, Nat.zero_le _⟩ rfl (fun H locs hw => ?_)
        exact rI hQ hx hb hr hlk hw dX5_as_55 (o_2a h) rfl (o_2b h)
      · replace h := o_f c37 h
        refine lv_aload_n hx hb dX5_as_40 rfl (lv_at hl 0 rfl) ?_
        refine lv_iload_n hx hb dX5_as_41 rfl (lv_at hl 1 rfl) ?_
        refine lv_iconst (v := 1) hx hb dX5_as_42 (by decide) ?_
        obtain ⟨q43, eq43, h⟩ := o_bd h
        refine kV (As := [.int a1, .int (1 : Int32)]) (rest := []) (st' := [.int q43]) ⟨hx, hb, hml, hown, hts⟩ (kX5_is l G eq43) (cwV 2 hts gX5_as_X5_is rfl rfl rfl qqX5_is ⟨Nat.le_of_ble_eq_true rfl, Nat.le_of_ble_eq_true rfl⟩) hw (rvMd hw) rfl hl.1 rfl (Nat.le_of_ble_eq_true rfl) dX5_as_43 ⟨Nat.zero_le _, Nat.zero_le _⟩ rfl (fun H locs hw => ?_)
        refine lv_goto (tgt := 55) hx hb dX5_as_46 (by decide) ?_
        exact rI hQ hx hb hr hlk hw dX5_as_55 (o_2a h) rfl (o_2b h)
    · replace h := o_t c17 h
      refine lv_aload_n hx hb dX5_as_20 rfl (lv_at hl 0 rfl) ?_
      refine lv_ldc (v := -1000000001) hx hb hown (hts (.constant RX5 38 (-1000000001)) (by decide +kernel)) dX5_as_21 ?_
      obtain ⟨q23, eq23, h⟩ := o_bd h
      refine kV (As := [.int (-1000000001 : Int32)]) (rest := []) (st' := [.int q23.1]) ⟨hx, hb, hml, hown, hts⟩ (kX5_finds l G eq23) (cwV 1 hts gX5_as_X5_finds rfl rfl rfl qqX5_finds ⟨Nat.le_of_ble_eq_true rfl, Nat.le_of_ble_eq_true rfl⟩) hw (rvMd hw) rfl hl.1 rfl (Nat.le_of_ble_eq_true rfl) dX5_as_23 ⟨Nat.zero_le _, Nat.zero_le _⟩ rfl (fun H locs hw => ?_)
      exact rI hQ hx hb hr hlk hw dX5_as_26 (o_2a h) rfl (o_2b h)
-- X5_firstAlone
def bX5_firstAlone_6 (M : sOb) (k76 : Int32 → Int32 → Option Int32) (rc6 : Int32 → Int32 → Int32 → Option Int32) (x1_6 : Int32) (x2_6 : Int32) (x3_6 : Int32) : Option Int32 :=
  if (M.2.1 0 (0 : Int32).toNatClampNeg) ≤ x3_6 then (k76 x1_6 x2_6) else ((fX5_isHome M x3_6).bind fun q18 => if q18 = 0 then (if x1_6 < 0 then (nm (x3_6 + (1 : Int32)) fun v70 => rc6 x3_6 (1 : Int32) v70) else ((fX5_is M x3_6 (5 : Int32)).bind fun q34 => (fX5_is M x1_6 (5 : Int32)).bind fun q40 => if q34 ≤ q40 then ((fX5_is M x3_6 (5 : Int32)).bind fun q56 => (fX5_is M x1_6 (5 : Int32)).bind fun q62 => if q56 = q62 then (nm (x3_6 + (1 : Int32)) fun v70 => rc6 x1_6 (0 : Int32) v70) else (nm (x3_6 + (1 : Int32)) fun v70 => rc6 x1_6 x2_6 v70)) else (nm (x3_6 + (1 : Int32)) fun v70 => rc6 x3_6 (1 : Int32) v70))) else (nm (x3_6 + (1 : Int32)) fun v70 => rc6 x1_6 x2_6 v70))
def fX5_firstAlone (M : sOb) : Option Int32 :=
  nm (fun (x1_76 : Int32) (x2_76 : Int32) => if x2_76 = 0 then (some (-1 : Int32)) else (some x1_76)) fun k76 => fx3 (bX5_firstAlone_6 M k76) FU (-1 : Int32) (0 : Int32) (0 : Int32)
def rmX5_firstAlone : Room := { frames := 2, cells := 0, slots := 0, locals := 43 }
theorem qqX5_firstAlone : yX5_firstAlone.cls = RX5 ∧ yX5_firstAlone.cls ≠ "java/lang/invoke/MethodHandle" ∧ yX5_firstAlone.cls ≠ "java/lang/invoke/VarHandle" ∧ (parseMethodDescriptor yX5_firstAlone.desc).map (fun d => d.parameters.length) = some 0 := by decide +kernel
set_option maxRecDepth 100000 in
set_option maxHeartbeats 4000000 in
theorem kX5_firstAlone (l : Launch) (G : sGl) {S : sWo} {M : sOb}  {q : Int32}  (h : fX5_firstAlone M = some q) : sCt l G yX5_firstAlone wsX5_firstAlone rmX5_firstAlone [.ref (sA G 9 0)] S M (some (.int q)) S M := by
  refine cMk (cc := cX5_firstAlone) (maxL := 4) (ret := (some .int)) (by decide) rfl (Nat.le_of_ble_eq_true rfl) ?_
  intro p e s m args below meth c Q hQ hx hb hr hlk hml hown hts hw ls hl
  have hown : s.vm.findClass RX5 = some m.cls := hown
  have hl : lv_has ls 4 [(0, .ref (sA G 9 0))] := hl
  have hiX5 : ∀ w ∈ u_ws RX5 TX5 15, w ∈ wsX5_firstAlone := by decide +kernel
  unfold fX5_firstAlone at h
  refine lv_iconst (v := -1) hx hb dX5_firstAlone_0 (by decide) ?_
  refine lv_istore_n (lv' := [(1, .int (-1 : Int32)), (0, .ref (sA G 9 0))]) hx hb dX5_firstAlone_1 rfl hl (by decide) rfl (fun ls hl => ?_)
  refine lv_iconst (v := 0) hx hb dX5_firstAlone_2 (by decide) ?_
  refine lv_istore_n (lv' := [(2, .int (0 : Int32)), (1, .int (-1 : Int32)), (0, .ref (sA G 9 0))]) hx hb dX5_firstAlone_3 rfl hl (by decide) rfl (fun ls hl => ?_)
  refine lv_iconst (v := 0) hx hb dX5_firstAlone_4 (by decide) ?_
  refine lv_istore_n (lv' := [(3, .int (0 : Int32)), (2, .int (0 : Int32)), (1, .int (-1 : Int32)), (0, .ref (sA G 9 0))]) hx hb dX5_firstAlone_5 rfl hl (by decide) rfl (fun ls hl => ?_)
  obtain ⟨k76, ek76, h⟩ := o_nm h
  have J76 : ∀ (x1_76 : Int32) (x2_76 : Int32) (H : Heap) (locs : List Loc) (ls : Array Slot), sHw G s S M H locs → lv_has ls 4 [(1, .int x1_76), (2, .int x2_76)] → k76 x1_76 x2_76 = some q → W p l e rmX5_firstAlone s m args below meth c H locs 0 0 Q (F0 m 76 ls []) := by
    intro x1_76 x2_76 H locs ls hw hl h
    replace h := o_j2 ek76 h
    refine lv_iload_n hx hb dX5_firstAlone_76 rfl (lv_at hl 1 rfl) ?_
    refine lv_if_eq (tgt := 84) hx hb dX5_firstAlone_77 (by decide) (fun c77 => ?_) (fun c77 => ?_)
    · replace h := o_t c77 h
      refine lv_iconst (v := -1) hx hb dX5_firstAlone_84 (by decide) ?_
      exact rI hQ hx hb hr hlk hw dX5_firstAlone_85 (o_1 h) rfl rfl
    · replace h := o_f c77 h
      refine lv_iload_n hx hb dX5_firstAlone_80 rfl (lv_at hl 0 rfl) ?_
      refine lv_goto (tgt := 85) hx hb dX5_firstAlone_81 (by decide) ?_
      exact rI hQ hx hb hr hlk hw dX5_firstAlone_85 (o_1 h) rfl rfl
  refine fx3_w (F := (bX5_firstAlone_6 M k76)) (P := fun x1_6 x2_6 x3_6 => ∀ (H : Heap) (locs : List Loc) (ls : Array Slot), sHw G s S M H locs → lv_has ls 4 [(0, .ref (sA G 9 0)), (1, .int x1_6), (2, .int x2_6), (3, .int x3_6)] → W p l e rmX5_firstAlone s m args below meth c H locs 0 0 Q (F0 m 6 ls [])) ?_ _ _ _ _ h _ _ _ hw (lv_sub hl [3, 2, 1, 0] rfl)
  intro rc6 IH6 x1_6 x2_6 x3_6 h H locs ls hw hl
  unfold bX5_firstAlone_6 at h
  refine lv_iload_n hx hb dX5_firstAlone_6 rfl (lv_at hl 3 rfl) ?_
  refine lv_aload_n hx hb dX5_firstAlone_7 rfl (lv_at hl 0 rfl) ?_
  refine gMd (v := .ref (sA G 9 1)) hx hb hts hiX5 hown hw 0 (by decide) (hts (.fieldLink RX5 7 "SecondHomeModel" "s" "[I") (by decide +kernel)) rfl dX5_firstAlone_8 ?_
  refine lv_iconst (v := 0) hx hb dX5_firstAlone_11 (by decide) ?_
  refine ldMd hx hb hw 0 (by decide) (n := 77) rfl (by decide) dX5_firstAlone_12 ?_
  refine lv_icmp_ge (tgt := 76) hx hb dX5_firstAlone_13 (by decide) (fun c13 => ?_) (fun c13 => ?_)
  · replace h := o_t c13 h
    exact J76 x1_6 x2_6 _ _ _ hw (lv_sub hl [1, 2] rfl) h
  · replace h := o_f c13 h
    refine lv_aload_n hx hb dX5_firstAlone_16 rfl (lv_at hl 0 rfl) ?_
    refine lv_iload_n hx hb dX5_firstAlone_17 rfl (lv_at hl 3 rfl) ?_
    obtain ⟨q18, eq18, h⟩ := o_bd h
    refine kV (As := [.int x3_6]) (rest := []) (st' := [.int q18]) ⟨hx, hb, hml, hown, hts⟩ (kX5_isHome l G eq18) (cwV 1 hts gX5_firstAlone_X5_isHome rfl rfl rfl qqX5_isHome ⟨Nat.le_of_ble_eq_true rfl, Nat.le_of_ble_eq_true rfl⟩) hw (rvMd hw) rfl hl.1 rfl (Nat.le_of_ble_eq_true rfl) dX5_firstAlone_18 ⟨Nat.zero_le _, Nat.zero_le _⟩ rfl (fun H locs hw => ?_)
    refine lv_if_eq (tgt := 27) hx hb dX5_firstAlone_21 (by decide) (fun c21 => ?_) (fun c21 => ?_)
    · replace h := o_t c21 h
      refine lv_iload_n hx hb dX5_firstAlone_27 rfl (lv_at hl 1 rfl) ?_
      refine lv_if_lt (tgt := 46) hx hb dX5_firstAlone_28 (by decide) (fun c28 => ?_) (fun c28 => ?_)
      · replace h := o_t c28 h
        refine lv_iload_n hx hb dX5_firstAlone_46 rfl (lv_at hl 3 rfl) ?_
        refine lv_istore_n (lv' := [(1, .int x3_6), (0, .ref (sA G 9 0)), (2, .int x2_6), (3, .int x3_6)]) hx hb dX5_firstAlone_47 rfl hl (by decide) rfl (fun ls hl => ?_)
        refine lv_iconst (v := 1) hx hb dX5_firstAlone_48 (by decide) ?_
        refine lv_istore_n (lv' := [(2, .int (1 : Int32)), (1, .int x3_6), (0, .ref (sA G 9 0)), (3, .int x3_6)]) hx hb dX5_firstAlone_49 rfl hl (by decide) rfl (fun ls hl => ?_)
        refine lv_goto (tgt := 70) hx hb dX5_firstAlone_50 (by decide) ?_
        obtain ⟨v70, ev70, h⟩ := o_nm h
        refine lv_iinc (v := v70) (lv' := [(3, .int v70), (2, .int (1 : Int32)), (1, .int x3_6), (0, .ref (sA G 9 0))]) hx hb dX5_firstAlone_70 hl (k := 3) rfl (by rw [ev70]; rfl) (by decide) rfl (fun ls hl => ?_)
        refine lv_goto (tgt := 6) hx hb dX5_firstAlone_73 (by decide) ?_
        exact IH6 x3_6 (1 : Int32) v70 h _ _ _ hw (lv_sub hl [3, 2, 1, 0] rfl)
      · replace h := o_f c28 h
        refine lv_aload_n hx hb dX5_firstAlone_31 rfl (lv_at hl 0 rfl) ?_
        refine lv_iload_n hx hb dX5_firstAlone_32 rfl (lv_at hl 3 rfl) ?_
        refine lv_iconst (v := 5) hx hb dX5_firstAlone_33 (by decide) ?_
        obtain ⟨q34, eq34, h⟩ := o_bd h
        refine kV (As := [.int x3_6, .int (5 : Int32)]) (rest := []) (st' := [.int q34]) ⟨hx, hb, hml, hown, hts⟩ (kX5_is l G eq34) (cwV 2 hts gX5_firstAlone_X5_is rfl rfl rfl qqX5_is ⟨Nat.le_of_ble_eq_true rfl, Nat.le_of_ble_eq_true rfl⟩) hw (rvMd hw) rfl hl.1 rfl (Nat.le_of_ble_eq_true rfl) dX5_firstAlone_34 ⟨Nat.zero_le _, Nat.zero_le _⟩ rfl (fun H locs hw => ?_)
        refine lv_aload_n hx hb dX5_firstAlone_37 rfl (lv_at hl 0 rfl) ?_
        refine lv_iload_n hx hb dX5_firstAlone_38 rfl (lv_at hl 1 rfl) ?_
        refine lv_iconst (v := 5) hx hb dX5_firstAlone_39 (by decide) ?_
        obtain ⟨q40, eq40, h⟩ := o_bd h
        refine kV (As := [.int x1_6, .int (5 : Int32)]) (rest := [.int q34]) (st' := [.int q40, .int q34]) ⟨hx, hb, hml, hown, hts⟩ (kX5_is l G eq40) (cwV 2 hts gX5_firstAlone_X5_is rfl rfl rfl qqX5_is ⟨Nat.le_of_ble_eq_true rfl, Nat.le_of_ble_eq_true rfl⟩) hw (rvMd hw) rfl hl.1 rfl (Nat.le_of_ble_eq_true rfl) dX5_firstAlone_40 ⟨Nat.zero_le _, Nat.zero_le _⟩ rfl (fun H locs hw => ?_)
        refine lv_icmp_le (tgt := 53) hx hb dX5_firstAlone_43 (by decide) (fun c43 => ?_) (fun c43 => ?_)
        · replace h := o_t c43 h
          refine lv_aload_n hx hb dX5_firstAlone_53 rfl (lv_at hl 0 rfl) ?_
          refine lv_iload_n hx hb dX5_firstAlone_54 rfl (lv_at hl 3 rfl) ?_
          refine lv_iconst (v := 5) hx hb dX5_firstAlone_55 (by decide) ?_
          obtain ⟨q56, eq56, h⟩ := o_bd h
          refine kV (As := [.int x3_6, .int (5 : Int32)]) (rest := []) (st' := [.int q56]) ⟨hx, hb, hml, hown, hts⟩ (kX5_is l G eq56) (cwV 2 hts gX5_firstAlone_X5_is rfl rfl rfl qqX5_is ⟨Nat.le_of_ble_eq_true rfl, Nat.le_of_ble_eq_true rfl⟩) hw (rvMd hw) rfl hl.1 rfl (Nat.le_of_ble_eq_true rfl) dX5_firstAlone_56 ⟨Nat.zero_le _, Nat.zero_le _⟩ rfl (fun H locs hw => ?_)
          refine lv_aload_n hx hb dX5_firstAlone_59 rfl (lv_at hl 0 rfl) ?_
          refine lv_iload_n hx hb dX5_firstAlone_60 rfl (lv_at hl 1 rfl) ?_
          refine lv_iconst (v := 5) hx hb dX5_firstAlone_61 (by decide) ?_
          obtain ⟨q62, eq62, h⟩ := o_bd h
          refine kV (As := [.int x1_6, .int (5 : Int32)]) (rest := [.int q56]) (st' := [.int q62, .int q56]) ⟨hx, hb, hml, hown, hts⟩ (kX5_is l G eq62) (cwV 2 hts gX5_firstAlone_X5_is rfl rfl rfl qqX5_is ⟨Nat.le_of_ble_eq_true rfl, Nat.le_of_ble_eq_true rfl⟩) hw (rvMd hw) rfl hl.1 rfl (Nat.le_of_ble_eq_true rfl) dX5_firstAlone_62 ⟨Nat.zero_le _, Nat.zero_le _⟩ rfl (fun H locs hw => ?_)
          refine lv_icmp_ne (tgt := 70) hx hb dX5_firstAlone_65 (by decide) (fun c65 => ?_) (fun c65 => ?_)
          · replace h := o_f c65 h
            obtain ⟨v70, ev70, h⟩ := o_nm h
            refine lv_iinc (v := v70) (lv' := [(3, .int v70), (0, .ref (sA G 9 0)), (1, .int x1_6), (2, .int x2_6)]) hx hb dX5_firstAlone_70 hl (k := 3) rfl (by rw [ev70]; rfl) (by decide) rfl (fun ls hl => ?_)
            refine lv_goto (tgt := 6) hx hb dX5_firstAlone_73 (by decide) ?_
            exact IH6 x1_6 x2_6 v70 h _ _ _ hw (lv_sub hl [1, 2, 3, 0] rfl)
          · replace h := o_t c65 h
            refine lv_iconst (v := 0) hx hb dX5_firstAlone_68 (by decide) ?_
            refine lv_istore_n (lv' := [(2, .int (0 : Int32)), (0, .ref (sA G 9 0)), (1, .int x1_6), (3, .int x3_6)]) hx hb dX5_firstAlone_69 rfl hl (by decide) rfl (fun ls hl => ?_)
            obtain ⟨v70, ev70, h⟩ := o_nm h
            refine lv_iinc (v := v70) (lv' := [(3, .int v70), (2, .int (0 : Int32)), (0, .ref (sA G 9 0)), (1, .int x1_6)]) hx hb dX5_firstAlone_70 hl (k := 3) rfl (by rw [ev70]; rfl) (by decide) rfl (fun ls hl => ?_)
            refine lv_goto (tgt := 6) hx hb dX5_firstAlone_73 (by decide) ?_
            exact IH6 x1_6 (0 : Int32) v70 h _ _ _ hw (lv_sub hl [2, 3, 1, 0] rfl)
        · replace h := o_f c43 h
          refine lv_iload_n hx hb dX5_firstAlone_46 rfl (lv_at hl 3 rfl) ?_
          refine lv_istore_n (lv' := [(1, .int x3_6), (0, .ref (sA G 9 0)), (2, .int x2_6), (3, .int x3_6)]) hx hb dX5_firstAlone_47 rfl hl (by decide) rfl (fun ls hl => ?_)
          refine lv_iconst (v := 1) hx hb dX5_firstAlone_48 (by decide) ?_
          refine lv_istore_n (lv' := [(2, .int (1 : Int32)), (1, .int x3_6), (0, .ref (sA G 9 0)), (3, .int x3_6)]) hx hb dX5_firstAlone_49 rfl hl (by decide) rfl (fun ls hl => ?_)
          refine lv_goto (tgt := 70) hx hb dX5_firstAlone_50 (by decide) ?_
          obtain ⟨v70, ev70, h⟩ := o_nm h
          refine lv_iinc (v := v70) (lv' := [(3, .int v70), (2, .int (1 : Int32)), (1, .int x3_6), (0, .ref (sA G 9 0))]) hx hb dX5_firstAlone_70 hl (k := 3) rfl (by rw [ev70]; rfl) (by decide) rfl (fun ls hl => ?_)
          refine lv_goto (tgt := 6) hx hb dX5_firstAlone_73 (by decide) ?_
          exact IH6 x3_6 (1 : Int32) v70 h _ _ _ hw (lv_sub hl [3, 2, 1, 0] rfl)
    · replace h := o_f c21 h
      refine lv_goto (tgt := 70) hx hb dX5_firstAlone_24 (by decide) ?_
      obtain ⟨v70, ev70, h⟩ := o_nm h
      refine lv_iinc (v := v70) (lv' := [(3, .int v70), (0, .ref (sA G 9 0)), (1, .int x1_6), (2, .int x2_6)]) hx hb dX5_firstAlone_70 hl (k := 3) rfl (by rw [ev70]; rfl) (by decide) rfl (fun ls hl => ?_)
      refine lv_goto (tgt := 6) hx hb dX5_firstAlone_73 (by decide) ?_
      exact IH6 x1_6 x2_6 v70 h _ _ _ hw (lv_sub hl [1, 2, 3, 0] rfl)
-- X5_homeMany
def bX5_homeMany_4 (M : sOb) (rc4 : Int32 → Int32 → Option Int32) (x1_4 : Int32) (x2_4 : Int32) : Option Int32 :=
  if (M.2.1 0 (0 : Int32).toNatClampNeg) ≤ x2_4 then (some x1_4) else ((fX5_isHome M x2_4).bind fun q17 => if q17 = 0 then (nm (x1_4 + (0 : Int32)) fun v29 => nm (x2_4 + (1 : Int32)) fun v30 => rc4 v29 v30) else (nm (x1_4 + (1 : Int32)) fun v29 => nm (x2_4 + (1 : Int32)) fun v30 => rc4 v29 v30))
def fX5_homeMany (M : sOb) : Option Int32 :=
  fx2 (bX5_homeMany_4 M) FU (0 : Int32) (0 : Int32)
def rmX5_homeMany : Room := { frames := 2, cells := 0, slots := 0, locals := 43 }
theorem qqX5_homeMany : yX5_homeMany.cls = RX5 ∧ yX5_homeMany.cls ≠ "java/lang/invoke/MethodHandle" ∧ yX5_homeMany.cls ≠ "java/lang/invoke/VarHandle" ∧ (parseMethodDescriptor yX5_homeMany.desc).map (fun d => d.parameters.length) = some 0 := by decide +kernel
set_option maxRecDepth 100000 in
set_option maxHeartbeats 4000000 in
theorem kX5_homeMany (l : Launch) (G : sGl) {S : sWo} {M : sOb}  {q : Int32}  (h : fX5_homeMany M = some q) : sCt l G yX5_homeMany wsX5_homeMany rmX5_homeMany [.ref (sA G 9 0)] S M (some (.int q)) S M := by
  refine cMk (cc := cX5_homeMany) (maxL := 3) (ret := (some .int)) (by decide) rfl (Nat.le_of_ble_eq_true rfl) ?_
  intro p e s m args below meth c Q hQ hx hb hr hlk hml hown hts hw ls hl
  have hown : s.vm.findClass RX5 = some m.cls := hown
  have hl : lv_has ls 3 [(0, .ref (sA G 9 0))] := hl
  have hiX5 : ∀ w ∈ u_ws RX5 TX5 15, w ∈ wsX5_homeMany := by decide +kernel
  unfold fX5_homeMany at h
  refine lv_iconst (v := 0) hx hb dX5_homeMany_0 (by decide) ?_
  refine lv_istore_n (lv' := [(1, .int (0 : Int32)), (0, .ref (sA G 9 0))]) hx hb dX5_homeMany_1 rfl hl (by decide) rfl (fun ls hl => ?_)
  refine lv_iconst (v := 0) hx hb dX5_homeMany_2 (by decide) ?_
  refine lv_istore_n (lv' := [(2, .int (0 : Int32)), (1, .int (0 : Int32)), (0, .ref (sA G 9 0))]) hx hb dX5_homeMany_3 rfl hl (by decide) rfl (fun ls hl => ?_)
  refine fx2_w (F := (bX5_homeMany_4 M)) (P := fun x1_4 x2_4 => ∀ (H : Heap) (locs : List Loc) (ls : Array Slot), sHw G s S M H locs → lv_has ls 3 [(0, .ref (sA G 9 0)), (1, .int x1_4), (2, .int x2_4)] → W p l e rmX5_homeMany s m args below meth c H locs 0 0 Q (F0 m 4 ls [])) ?_ _ _ _ h _ _ _ hw (lv_sub hl [2, 1, 0] rfl)
  intro rc4 IH4 x1_4 x2_4 h H locs ls hw hl
  unfold bX5_homeMany_4 at h
  refine lv_iload_n hx hb dX5_homeMany_4 rfl (lv_at hl 2 rfl) ?_
  refine lv_aload_n hx hb dX5_homeMany_5 rfl (lv_at hl 0 rfl) ?_
  refine gMd (v := .ref (sA G 9 1)) hx hb hts hiX5 hown hw 0 (by decide) (hts (.fieldLink RX5 7 "SecondHomeModel" "s" "[I") (by decide +kernel)) rfl dX5_homeMany_6 ?_
  refine lv_iconst (v := 0) hx hb dX5_homeMany_9 (by decide) ?_
  refine ldMd hx hb hw 0 (by decide) (n := 77) rfl (by decide) dX5_homeMany_10 ?_
  refine lv_icmp_ge (tgt := 36) hx hb dX5_homeMany_11 (by decide) (fun c11 => ?_) (fun c11 => ?_)
  · replace h := o_t c11 h
    refine lv_iload_n hx hb dX5_homeMany_36 rfl (lv_at hl 1 rfl) ?_
    exact rI hQ hx hb hr hlk hw dX5_homeMany_37 (o_1 h) rfl rfl
  · replace h := o_f c11 h
    refine lv_iload_n hx hb dX5_homeMany_14 rfl (lv_at hl 1 rfl) ?_
    refine lv_aload_n hx hb dX5_homeMany_15 rfl (lv_at hl 0 rfl) ?_
    refine lv_iload_n hx hb dX5_homeMany_16 rfl (lv_at hl 2 rfl) ?_
    obtain ⟨q17, eq17, h⟩ := o_bd h
    refine kV (As := [.int x2_4]) (rest := [.int x1_4]) (st' := [.int q17, .int x1_4]) ⟨hx, hb, hml, hown, hts⟩ (kX5_isHome l G eq17) (cwV 1 hts gX5_homeMany_X5_isHome rfl rfl rfl qqX5_isHome ⟨Nat.le_of_ble_eq_true rfl, Nat.le_of_ble_eq_true rfl⟩) hw (rvMd hw) rfl hl.1 rfl (Nat.le_of_ble_eq_true rfl) dX5_homeMany_17 ⟨Nat.zero_le _, Nat.zero_le _⟩ rfl (fun H locs hw => ?_)
    refine lv_if_eq (tgt := 27) hx hb dX5_homeMany_20 (by decide) (fun c20 => ?_) (fun c20 => ?_)
    · replace h := o_t c20 h
      refine lv_iconst (v := 0) hx hb dX5_homeMany_27 (by decide) ?_
      refine lv_iadd hx hb dX5_homeMany_28 ?_
      refine lv_topi (fun v29 ev29 => ?_)
      replace h := o_nx ev29 h
      refine lv_istore_n (lv' := [(1, .int v29), (0, .ref (sA G 9 0)), (2, .int x2_4)]) hx hb dX5_homeMany_29 rfl hl (by decide) rfl (fun ls hl => ?_)
      obtain ⟨v30, ev30, h⟩ := o_nm h
      refine lv_iinc (v := v30) (lv' := [(2, .int v30), (1, .int v29), (0, .ref (sA G 9 0))]) hx hb dX5_homeMany_30 hl (k := 2) rfl (by rw [ev30]; rfl) (by decide) rfl (fun ls hl => ?_)
      refine lv_goto (tgt := 4) hx hb dX5_homeMany_33 (by decide) ?_
      exact IH4 v29 v30 h _ _ _ hw (lv_sub hl [2, 1, 0] rfl)
    · replace h := o_f c20 h
      refine lv_iconst (v := 1) hx hb dX5_homeMany_23 (by decide) ?_
      refine lv_goto (tgt := 28) hx hb dX5_homeMany_24 (by decide) ?_
      refine lv_iadd hx hb dX5_homeMany_28 ?_
      refine lv_topi (fun v29 ev29 => ?_)
      replace h := o_nx ev29 h
      refine lv_istore_n (lv' := [(1, .int v29), (0, .ref (sA G 9 0)), (2, .int x2_4)]) hx hb dX5_homeMany_29 rfl hl (by decide) rfl (fun ls hl => ?_)
      obtain ⟨v30, ev30, h⟩ := o_nm h
      refine lv_iinc (v := v30) (lv' := [(2, .int v30), (1, .int v29), (0, .ref (sA G 9 0))]) hx hb dX5_homeMany_30 hl (k := 2) rfl (by rw [ev30]; rfl) (by decide) rfl (fun ls hl => ?_)
      refine lv_goto (tgt := 4) hx hb dX5_homeMany_33 (by decide) ?_
      exact IH4 v29 v30 h _ _ _ hw (lv_sub hl [2, 1, 0] rfl)
-- X5_asHolder
def fX5_asHolder (M : sOb) (a1 : Int32) (a2 : Int32) : Option Int32 :=
  nm ((fX5_is M a1 (1 : Int32)).bind fun q36 => some q36) fun k33 => if a1 = a2 then ((fX5_is M a1 (5 : Int32)).bind fun q9 => if ((4 : Int32) * q9) < ((3 : Int32) * (M.2.1 0 (1 : Int32).toNatClampNeg)) then k33 else (some (M.2.1 0 (2 : Int32).toNatClampNeg))) else k33
def rmX5_asHolder : Room := { frames := 1, cells := 0, slots := 0, locals := 22 }
theorem qqX5_asHolder : yX5_asHolder.cls = RX5 ∧ yX5_asHolder.cls ≠ "java/lang/invoke/MethodHandle" ∧ yX5_asHolder.cls ≠ "java/lang/invoke/VarHandle" ∧ (parseMethodDescriptor yX5_asHolder.desc).map (fun d => d.parameters.length) = some 2 := by decide +kernel
set_option maxRecDepth 100000 in
set_option maxHeartbeats 4000000 in
theorem kX5_asHolder (l : Launch) (G : sGl) {S : sWo} {M : sOb} {a1 : Int32} {a2 : Int32} {q : Int32}  (h : fX5_asHolder M a1 a2 = some q) : sCt l G yX5_asHolder wsX5_asHolder rmX5_asHolder [.ref (sA G 9 0), .int a1, .int a2] S M (some (.int q)) S M := by
  refine cMk (cc := cX5_asHolder) (maxL := 3) (ret := (some .int)) (by decide) rfl (Nat.le_of_ble_eq_true rfl) ?_
  intro p e s m args below meth c Q hQ hx hb hr hlk hml hown hts hw ls hl
  have hown : s.vm.findClass RX5 = some m.cls := hown
  have hl : lv_has ls 3 [(0, .ref (sA G 9 0)), (1, .int a1), (2, .int a2)] := hl
  have hiX5 : ∀ w ∈ u_ws RX5 TX5 15, w ∈ wsX5_asHolder := by decide +kernel
  unfold fX5_asHolder at h
  refine lv_iload_n hx hb dX5_asHolder_0 rfl (lv_at hl 1 rfl) ?_
  refine lv_iload_n hx hb dX5_asHolder_1 rfl (lv_at hl 2 rfl) ?_
  obtain ⟨k33, ek33, h⟩ := o_nm h
  have J33 : ∀ (H : Heap) (locs : List Loc) (ls : Array Slot), sHw G s S M H locs → lv_has ls 3 [(0, .ref (sA G 9 0)), (1, .int a1)] → k33 = some q → W p l e rmX5_asHolder s m args below meth c H locs 0 0 Q (F0 m 33 ls []) := by
    intro H locs ls hw hl h
    replace h := o_j0 ek33 h
    refine lv_aload_n hx hb dX5_asHolder_33 rfl (lv_at hl 0 rfl) ?_
    refine lv_iload_n hx hb dX5_asHolder_34 rfl (lv_at hl 1 rfl) ?_
    refine lv_iconst (v := 1) hx hb dX5_asHolder_35 (by decide) ?_
    obtain ⟨q36, eq36, h⟩ := o_bd h
    refine kV (As := [.int a1, .int (1 : Int32)]) (rest := []) (st' := [.int q36]) ⟨hx, hb, hml, hown, hts⟩ (kX5_is l G eq36) (cwV 2 hts gX5_asHolder_X5_is rfl rfl rfl qqX5_is ⟨Nat.le_of_ble_eq_true rfl, Nat.le_of_ble_eq_true rfl⟩) hw (rvMd hw) rfl hl.1 rfl (Nat.le_of_ble_eq_true rfl) dX5_asHolder_36 ⟨Nat.zero_le _, Nat.zero_le _⟩ rfl (fun H locs hw => ?_)
    exact rI hQ hx hb hr hlk hw dX5_asHolder_39 (o_1 h) rfl rfl
  refine lv_icmp_ne (tgt := 33) hx hb dX5_asHolder_2 (by decide) (fun c2 => ?_) (fun c2 => ?_)
  · replace h := o_f c2 h
    exact J33 _ _ _ hw (lv_sub hl [0, 1] rfl) h
  · replace h := o_t c2 h
    refine lv_iconst (v := 4) hx hb dX5_asHolder_5 (by decide) ?_
    refine lv_aload_n hx hb dX5_asHolder_6 rfl (lv_at hl 0 rfl) ?_
    refine lv_iload_n hx hb dX5_asHolder_7 rfl (lv_at hl 1 rfl) ?_
    refine lv_iconst (v := 5) hx hb dX5_asHolder_8 (by decide) ?_
    obtain ⟨q9, eq9, h⟩ := o_bd h
    refine kV (As := [.int a1, .int (5 : Int32)]) (rest := [.int (4 : Int32)]) (st' := [.int q9, .int (4 : Int32)]) ⟨hx, hb, hml, hown, hts⟩ (kX5_is l G eq9) (cwV 2 hts gX5_asHolder_X5_is rfl rfl rfl qqX5_is ⟨Nat.le_of_ble_eq_true rfl, Nat.le_of_ble_eq_true rfl⟩) hw (rvMd hw) rfl hl.1 rfl (Nat.le_of_ble_eq_true rfl) dX5_asHolder_9 ⟨Nat.zero_le _, Nat.zero_le _⟩ rfl (fun H locs hw => ?_)
    refine lv_imul hx hb dX5_asHolder_12 ?_
    refine lv_iconst (v := 3) hx hb dX5_asHolder_13 (by decide) ?_
    refine lv_aload_n hx hb dX5_asHolder_14 rfl (lv_at hl 0 rfl) ?_
    refine gMd (v := .ref (sA G 9 1)) hx hb hts hiX5 hown hw 0 (by decide) (hts (.fieldLink RX5 7 "SecondHomeModel" "s" "[I") (by decide +kernel)) rfl dX5_asHolder_15 ?_
    refine lv_iconst (v := 1) hx hb dX5_asHolder_18 (by decide) ?_
    refine ldMd hx hb hw 0 (by decide) (n := 77) rfl (by decide) dX5_asHolder_19 ?_
    refine lv_imul hx hb dX5_asHolder_20 ?_
    refine lv_icmp_lt (tgt := 33) hx hb dX5_asHolder_21 (by decide) (fun c21 => ?_) (fun c21 => ?_)
    · replace h := o_t c21 h
      exact J33 _ _ _ hw (lv_sub hl [0, 1] rfl) h
    · replace h := o_f c21 h
      refine lv_aload_n hx hb dX5_asHolder_24 rfl (lv_at hl 0 rfl) ?_
      refine gMd (v := .ref (sA G 9 1)) hx hb hts hiX5 hown hw 0 (by decide) (hts (.fieldLink RX5 7 "SecondHomeModel" "s" "[I") (by decide +kernel)) rfl dX5_asHolder_25 ?_
      refine lv_iconst (v := 2) hx hb dX5_asHolder_28 (by decide) ?_
      refine ldMd hx hb hw 0 (by decide) (n := 77) rfl (by decide) dX5_asHolder_29 ?_
      refine lv_goto (tgt := 39) hx hb dX5_asHolder_30 (by decide) ?_
      exact rI hQ hx hb hr hlk hw dX5_asHolder_39 (o_1 h) rfl rfl
-- X5_asKeeper
def fX5_asKeeper (M : sOb) (a1 : Int32) : Option Int32 :=
  (fX5_is M a1 (3 : Int32)).bind fun q3 => nm ((fX5_is M a1 (1 : Int32)).bind fun q22 => some q22) fun k19 => if q3 < 0 then k19 else ((fX5_isHome M q3).bind fun q13 => if q13 = 0 then ((fX5_is M q3 (5 : Int32)).bind fun q29 => (fX5_is M a1 (5 : Int32)).bind fun q35 => nm (q29 - q35) fun v39 => (fX5_is M a1 (1 : Int32)).bind fun q44 => nm (fun (y0_60 : Int32) => if (1 : Int32) ≤ y0_60 then (some y0_60) else (some (1 : Int32))) fun k60 => if q44 ≤ v39 then ((fX5_is M a1 (1 : Int32)).bind fun q57 => k60 q57) else (k60 v39)) else k19)
def rmX5_asKeeper : Room := { frames := 2, cells := 0, slots := 0, locals := 43 }
theorem qqX5_asKeeper : yX5_asKeeper.cls = RX5 ∧ yX5_asKeeper.cls ≠ "java/lang/invoke/MethodHandle" ∧ yX5_asKeeper.cls ≠ "java/lang/invoke/VarHandle" ∧ (parseMethodDescriptor yX5_asKeeper.desc).map (fun d => d.parameters.length) = some 1 := by decide +kernel
set_option maxRecDepth 100000 in
set_option maxHeartbeats 4000000 in
theorem kX5_asKeeper (l : Launch) (G : sGl) {S : sWo} {M : sOb} {a1 : Int32} {q : Int32}  (h : fX5_asKeeper M a1 = some q) : sCt l G yX5_asKeeper wsX5_asKeeper rmX5_asKeeper [.ref (sA G 9 0), .int a1] S M (some (.int q)) S M := by
  refine cMk (cc := cX5_asKeeper) (maxL := 5) (ret := (some .int)) (by decide) rfl (Nat.le_of_ble_eq_true rfl) ?_
  intro p e s m args below meth c Q hQ hx hb hr hlk hml hown hts hw ls hl
  have hown : s.vm.findClass RX5 = some m.cls := hown
  have hl : lv_has ls 5 [(0, .ref (sA G 9 0)), (1, .int a1)] := hl
  unfold fX5_asKeeper at h
  refine lv_aload_n hx hb dX5_asKeeper_0 rfl (lv_at hl 0 rfl) ?_
  refine lv_iload_n hx hb dX5_asKeeper_1 rfl (lv_at hl 1 rfl) ?_
  refine lv_iconst (v := 3) hx hb dX5_asKeeper_2 (by decide) ?_
  obtain ⟨q3, eq3, h⟩ := o_bd h
  refine kV (As := [.int a1, .int (3 : Int32)]) (rest := []) (st' := [.int q3]) ⟨hx, hb, hml, hown, hts⟩ (kX5_is l G eq3) (cwV 2 hts gX5_asKeeper_X5_is rfl rfl rfl qqX5_is ⟨Nat.le_of_ble_eq_true rfl, Nat.le_of_ble_eq_true rfl⟩) hw (rvMd hw) rfl hl.1 rfl (Nat.le_of_ble_eq_true rfl) dX5_asKeeper_3 ⟨Nat.zero_le _, Nat.zero_le _⟩ rfl (fun H locs hw => ?_)
  refine lv_istore_n (lv' := [(2, .int q3), (0, .ref (sA G 9 0)), (1, .int a1)]) hx hb dX5_asKeeper_6 rfl hl (by decide) rfl (fun ls hl => ?_)
  refine lv_iload_n hx hb dX5_asKeeper_7 rfl (lv_at hl 0 rfl) ?_
  obtain ⟨k19, ek19, h⟩ := o_nm h
  have J19 : ∀ (H : Heap) (locs : List Loc) (ls : Array Slot), sHw G s S M H locs → lv_has ls 5 [(0, .ref (sA G 9 0)), (1, .int a1)] → k19 = some q → W p l e rmX5_asKeeper s m args below meth c H locs 0 0 Q (F0 m 19 ls []) := by
    intro H locs ls hw hl h
    replace h := o_j0 ek19 h
    refine lv_aload_n hx hb dX5_asKeeper_19 rfl (lv_at hl 0 rfl) ?_
    refine lv_iload_n hx hb dX5_asKeeper_20 rfl (lv_at hl 1 rfl) ?_
    refine lv_iconst (v := 1) hx hb dX5_asKeeper_21 (by decide) ?_
    obtain ⟨q22, eq22, h⟩ := o_bd h
    refine kV (As := [.int a1, .int (1 : Int32)]) (rest := []) (st' := [.int q22]) ⟨hx, hb, hml, hown, hts⟩ (kX5_is l G eq22) (cwV 2 hts gX5_asKeeper_X5_is rfl rfl rfl qqX5_is ⟨Nat.le_of_ble_eq_true rfl, Nat.le_of_ble_eq_true rfl⟩) hw (rvMd hw) rfl hl.1 rfl (Nat.le_of_ble_eq_true rfl) dX5_asKeeper_22 ⟨Nat.zero_le _, Nat.zero_le _⟩ rfl (fun H locs hw => ?_)
    exact rI hQ hx hb hr hlk hw dX5_asKeeper_25 (o_1 h) rfl rfl
  refine lv_if_lt (tgt := 19) hx hb dX5_asKeeper_8 (by decide) (fun c8 => ?_) (fun c8 => ?_)
  · replace h := o_t c8 h
    exact J19 _ _ _ hw (lv_sub hl [1, 2] rfl) h
  · replace h := o_f c8 h
    refine lv_aload_n hx hb dX5_asKeeper_11 rfl (lv_at hl 1 rfl) ?_
    refine lv_iload_n hx hb dX5_asKeeper_12 rfl (lv_at hl 0 rfl) ?_
    obtain ⟨q13, eq13, h⟩ := o_bd h
    refine kV (As := [.int q3]) (rest := []) (st' := [.int q13]) ⟨hx, hb, hml, hown, hts⟩ (kX5_isHome l G eq13) (cwV 1 hts gX5_asKeeper_X5_isHome rfl rfl rfl qqX5_isHome ⟨Nat.le_of_ble_eq_true rfl, Nat.le_of_ble_eq_true rfl⟩) hw (rvMd hw) rfl hl.1 rfl (Nat.le_of_ble_eq_true rfl) dX5_asKeeper_13 ⟨Nat.zero_le _, Nat.zero_le _⟩ rfl (fun H locs hw => ?_)
    refine lv_if_eq (tgt := 26) hx hb dX5_asKeeper_16 (by decide) (fun c16 => ?_) (fun c16 => ?_)
    · replace h := o_t c16 h
      refine lv_aload_n hx hb dX5_asKeeper_26 rfl (lv_at hl 1 rfl) ?_
      refine lv_iload_n hx hb dX5_asKeeper_27 rfl (lv_at hl 0 rfl) ?_
      refine lv_iconst (v := 5) hx hb dX5_asKeeper_28 (by decide) ?_
      obtain ⟨q29, eq29, h⟩ := o_bd h
      refine kV (As := [.int q3, .int (5 : Int32)]) (rest := []) (st' := [.int q29]) ⟨hx, hb, hml, hown, hts⟩ (kX5_is l G eq29) (cwV 2 hts gX5_asKeeper_X5_is rfl rfl rfl qqX5_is ⟨Nat.le_of_ble_eq_true rfl, Nat.le_of_ble_eq_true rfl⟩) hw (rvMd hw) rfl hl.1 rfl (Nat.le_of_ble_eq_true rfl) dX5_asKeeper_29 ⟨Nat.zero_le _, Nat.zero_le _⟩ rfl (fun H locs hw => ?_)
      refine lv_aload_n hx hb dX5_asKeeper_32 rfl (lv_at hl 1 rfl) ?_
      refine lv_iload_n hx hb dX5_asKeeper_33 rfl (lv_at hl 2 rfl) ?_
      refine lv_iconst (v := 5) hx hb dX5_asKeeper_34 (by decide) ?_
      obtain ⟨q35, eq35, h⟩ := o_bd h
      refine kV (As := [.int a1, .int (5 : Int32)]) (rest := [.int q29]) (st' := [.int q35, .int q29]) ⟨hx, hb, hml, hown, hts⟩ (kX5_is l G eq35) (cwV 2 hts gX5_asKeeper_X5_is rfl rfl rfl qqX5_is ⟨Nat.le_of_ble_eq_true rfl, Nat.le_of_ble_eq_true rfl⟩) hw (rvMd hw) rfl hl.1 rfl (Nat.le_of_ble_eq_true rfl) dX5_asKeeper_35 ⟨Nat.zero_le _, Nat.zero_le _⟩ rfl (fun H locs hw => ?_)
      refine lv_isub hx hb dX5_asKeeper_38 ?_
      refine lv_topi (fun v39 ev39 => ?_)
      replace h := o_nx ev39 h
      refine lv_istore_n (lv' := [(3, .int v39), (2, .int q3), (0, .ref (sA G 9 0)), (1, .int a1)]) hx hb dX5_asKeeper_39 rfl hl (by decide) rfl (fun ls hl => ?_)
      refine lv_iload_n hx hb dX5_asKeeper_40 rfl (lv_at hl 0 rfl) ?_
      refine lv_aload_n hx hb dX5_asKeeper_41 rfl (lv_at hl 2 rfl) ?_
      refine lv_iload_n hx hb dX5_asKeeper_42 rfl (lv_at hl 3 rfl) ?_
      refine lv_iconst (v := 1) hx hb dX5_asKeeper_43 (by decide) ?_
      obtain ⟨q44, eq44, h⟩ := o_bd h
      refine kV (As := [.int a1, .int (1 : Int32)]) (rest := [.int v39]) (st' := [.int q44, .int v39]) ⟨hx, hb, hml, hown, hts⟩ (kX5_is l G eq44) (cwV 2 hts gX5_asKeeper_X5_is rfl rfl rfl qqX5_is ⟨Nat.le_of_ble_eq_true rfl, Nat.le_of_ble_eq_true rfl⟩) hw (rvMd hw) rfl hl.1 rfl (Nat.le_of_ble_eq_true rfl) dX5_asKeeper_44 ⟨Nat.zero_le _, Nat.zero_le _⟩ rfl (fun H locs hw => ?_)
      obtain ⟨k60, ek60, h⟩ := o_nm h
      have J60 : ∀ (y0_60 : Int32) (H : Heap) (locs : List Loc) (ls : Array Slot), sHw G s S M H locs → lv_has ls 5 [] → k60 y0_60 = some q → W p l e rmX5_asKeeper s m args below meth c H locs 0 0 Q (F0 m 60 ls [.int y0_60]) := by
        intro y0_60 H locs ls hw hl h
        replace h := o_j1 ek60 h
        refine lv_istore (lv' := [(4, .int y0_60)]) hx hb dX5_asKeeper_60 hl (by decide) rfl (fun ls hl => ?_)
        refine lv_iload hx hb dX5_asKeeper_62 (lv_at hl 0 rfl) ?_
        refine lv_iconst (v := 1) hx hb dX5_asKeeper_64 (by decide) ?_
        refine lv_icmp_ge (tgt := 72) hx hb dX5_asKeeper_65 (by decide) (fun c65 => ?_) (fun c65 => ?_)
        · replace h := o_t c65 h
          refine lv_iload hx hb dX5_asKeeper_72 (lv_at hl 0 rfl) ?_
          exact rI hQ hx hb hr hlk hw dX5_asKeeper_74 (o_1 h) rfl rfl
        · replace h := o_f c65 h
          refine lv_iconst (v := 1) hx hb dX5_asKeeper_68 (by decide) ?_
          refine lv_goto (tgt := 74) hx hb dX5_asKeeper_69 (by decide) ?_
          exact rI hQ hx hb hr hlk hw dX5_asKeeper_74 (o_1 h) rfl rfl
      refine lv_icmp_ge (tgt := 54) hx hb dX5_asKeeper_47 (by decide) (fun c47 => ?_) (fun c47 => ?_)
      · replace h := o_t c47 h
        refine lv_aload_n hx hb dX5_asKeeper_54 rfl (lv_at hl 2 rfl) ?_
        refine lv_iload_n hx hb dX5_asKeeper_55 rfl (lv_at hl 3 rfl) ?_
        refine lv_iconst (v := 1) hx hb dX5_asKeeper_56 (by decide) ?_
        obtain ⟨q57, eq57, h⟩ := o_bd h
        refine kV (As := [.int a1, .int (1 : Int32)]) (rest := []) (st' := [.int q57]) ⟨hx, hb, hml, hown, hts⟩ (kX5_is l G eq57) (cwV 2 hts gX5_asKeeper_X5_is rfl rfl rfl qqX5_is ⟨Nat.le_of_ble_eq_true rfl, Nat.le_of_ble_eq_true rfl⟩) hw (rvMd hw) rfl hl.1 rfl (Nat.le_of_ble_eq_true rfl) dX5_asKeeper_57 ⟨Nat.zero_le _, Nat.zero_le _⟩ rfl (fun H locs hw => ?_)
        exact J60 q57 _ _ _ hw (lv_sub hl [] rfl) h
      · replace h := o_f c47 h
        refine lv_iload_n hx hb dX5_asKeeper_50 rfl (lv_at hl 0 rfl) ?_
        refine lv_goto (tgt := 60) hx hb dX5_asKeeper_51 (by decide) ?_
        exact J60 v39 _ _ _ hw (lv_sub hl [] rfl) h
    · replace h := o_f c16 h
      exact J19 _ _ _ hw (lv_sub hl [1, 2] rfl) h
-- X5_wishOf
def fX5_wishOf (M : sOb) (a1 : Int32) (a2 : Int32) (a3 : Int32) : Option Int32 :=
  (fX5_is M a1 (0 : Int32)).bind fun q3 => if q3 = (1 : Int32) then ((fX5_asHolder M a1 a2).bind fun q43 => some q43) else if q3 = (2 : Int32) then ((fX5_asKeeper M a1).bind fun q49 => some q49) else if q3 = (3 : Int32) then ((fX5_is M a1 (3 : Int32)).bind fun q56 => if q56 < 0 then ((fX5_asKeeper M a1).bind fun q86 => some q86) else ((fX5_is M a1 (3 : Int32)).bind fun q66 => (fX5_isHome M q66).bind fun q69 => if q69 = 0 then ((fX5_asKeeper M a1).bind fun q86 => some q86) else (some (M.2.1 0 (2 : Int32).toNatClampNeg)))) else if q3 = (4 : Int32) then ((fX5_is M a1 (5 : Int32)).bind fun q93 => nm ((fX5_asHolder M a1 a2).bind fun q131 => some q131) fun k128 => if q93 < ((M.2.1 0 (1 : Int32).toNatClampNeg) - (40 : Int32)) then k128 else (nm ((fX5_asHolder M a1 a2).bind fun q121 => some ((2 : Int32) * q121)) fun k117 => if 0 < a3 then k117 else (if a1 = a2 then k128 else k117))) else if q3 = (5 : Int32) then ((fX5_asHolder M a1 a2).bind fun q138 => if ((M.2.1 0 (2 : Int32).toNatClampNeg) + (2 : Int32)) ≤ q138 then (some ((M.2.1 0 (2 : Int32).toNatClampNeg) + (2 : Int32))) else ((fX5_asHolder M a1 a2).bind fun q155 => some q155)) else ((fX5_is M a1 (1 : Int32)).bind fun q173 => some q173)
def rmX5_wishOf : Room := { frames := 3, cells := 0, slots := 0, locals := 67 }
theorem qqX5_wishOf : yX5_wishOf.cls = RX5 ∧ yX5_wishOf.cls ≠ "java/lang/invoke/MethodHandle" ∧ yX5_wishOf.cls ≠ "java/lang/invoke/VarHandle" ∧ (parseMethodDescriptor yX5_wishOf.desc).map (fun d => d.parameters.length) = some 3 := by decide +kernel
set_option maxRecDepth 100000 in
set_option maxHeartbeats 4000000 in
theorem kX5_wishOf (l : Launch) (G : sGl) {S : sWo} {M : sOb} {a1 : Int32} {a2 : Int32} {a3 : Int32} {q : Int32}  (h : fX5_wishOf M a1 a2 a3 = some q) : sCt l G yX5_wishOf wsX5_wishOf rmX5_wishOf [.ref (sA G 9 0), .int a1, .int a2, .int a3] S M (some (.int q)) S M := by
  refine cMk (cc := cX5_wishOf) (maxL := 4) (ret := (some .int)) (by decide) rfl (Nat.le_of_ble_eq_true rfl) ?_
  intro p e s m args below meth c Q hQ hx hb hr hlk hml hown hts hw ls hl
  have hown : s.vm.findClass RX5 = some m.cls := hown
  have hl : lv_has ls 4 [(0, .ref (sA G 9 0)), (1, .int a1), (2, .int a2), (3, .int a3)] := hl
  have hiX5 : ∀ w ∈ u_ws RX5 TX5 15, w ∈ wsX5_wishOf := by decide +kernel
  unfold fX5_wishOf at h
  refine lv_aload_n hx hb dX5_wishOf_0 rfl (lv_at hl 0 rfl) ?_
  refine lv_iload_n hx hb dX5_wishOf_1 rfl (lv_at hl 1 rfl) ?_
  refine lv_iconst (v := 0) hx hb dX5_wishOf_2 (by decide) ?_
  obtain ⟨q3, eq3, h⟩ := o_bd h
  refine kV (As := [.int a1, .int (0 : Int32)]) (rest := []) (st' := [.int q3]) ⟨hx, hb, hml, hown, hts⟩ (kX5_is l G eq3) (cwV 2 hts gX5_wishOf_X5_is rfl rfl rfl qqX5_is ⟨Nat.le_of_ble_eq_true rfl, Nat.le_of_ble_eq_true rfl⟩) hw (rvMd hw) rfl hl.1 rfl (Nat.le_of_ble_eq_true rfl) dX5_wishOf_3 ⟨Nat.zero_le _, Nat.zero_le _⟩ rfl (fun H locs hw => ?_)
  by_cases c6_1 : q3 = (1 : Int32)
  · replace h := o_t c6_1 h
    refine lv_tableIn (tgt := 40) hx hb dX5_wishOf_6 (by rw [c6_1]; decide) (by rw [c6_1]; decide) (by rw [c6_1]; rfl) (by decide) ?_
    refine lv_aload_n hx hb dX5_wishOf_40 rfl (lv_at hl 0 rfl) ?_
    refine lv_iload_n hx hb dX5_wishOf_41 rfl (lv_at hl 1 rfl) ?_
    refine lv_iload_n hx hb dX5_wishOf_42 rfl (lv_at hl 2 rfl) ?_
    obtain ⟨q43, eq43, h⟩ := o_bd h
    refine kV (As := [.int a1, .int a2]) (rest := []) (st' := [.int q43]) ⟨hx, hb, hml, hown, hts⟩ (kX5_asHolder l G eq43) (cwV 2 hts gX5_wishOf_X5_asHolder rfl rfl rfl qqX5_asHolder ⟨Nat.le_of_ble_eq_true rfl, Nat.le_of_ble_eq_true rfl⟩) hw (rvMd hw) rfl hl.1 rfl (Nat.le_of_ble_eq_true rfl) dX5_wishOf_43 ⟨Nat.zero_le _, Nat.zero_le _⟩ rfl (fun H locs hw => ?_)
    exact rI hQ hx hb hr hlk hw dX5_wishOf_46 (o_1 h) rfl rfl
  replace h := o_f c6_1 h
  by_cases c6_2 : q3 = (2 : Int32)
  · replace h := o_t c6_2 h
    refine lv_tableIn (tgt := 47) hx hb dX5_wishOf_6 (by rw [c6_2]; decide) (by rw [c6_2]; decide) (by rw [c6_2]; rfl) (by decide) ?_
    refine lv_aload_n hx hb dX5_wishOf_47 rfl (lv_at hl 0 rfl) ?_
    refine lv_iload_n hx hb dX5_wishOf_48 rfl (lv_at hl 1 rfl) ?_
    obtain ⟨q49, eq49, h⟩ := o_bd h
    refine kV (As := [.int a1]) (rest := []) (st' := [.int q49]) ⟨hx, hb, hml, hown, hts⟩ (kX5_asKeeper l G eq49) (cwV 1 hts gX5_wishOf_X5_asKeeper rfl rfl rfl qqX5_asKeeper ⟨Nat.le_of_ble_eq_true rfl, Nat.le_of_ble_eq_true rfl⟩) hw (rvMd hw) rfl hl.1 rfl (Nat.le_of_ble_eq_true rfl) dX5_wishOf_49 ⟨Nat.zero_le _, Nat.zero_le _⟩ rfl (fun H locs hw => ?_)
    exact rI hQ hx hb hr hlk hw dX5_wishOf_52 (o_1 h) rfl rfl
  replace h := o_f c6_2 h
  by_cases c6_3 : q3 = (3 : Int32)
  · replace h := o_t c6_3 h
    refine lv_tableIn (tgt := 53) hx hb dX5_wishOf_6 (by rw [c6_3]; decide) (by rw [c6_3]; decide) (by rw [c6_3]; rfl) (by decide) ?_
    refine lv_aload_n hx hb dX5_wishOf_53 rfl (lv_at hl 0 rfl) ?_
    refine lv_iload_n hx hb dX5_wishOf_54 rfl (lv_at hl 1 rfl) ?_
    refine lv_iconst (v := 3) hx hb dX5_wishOf_55 (by decide) ?_
    obtain ⟨q56, eq56, h⟩ := o_bd h
    refine kV (As := [.int a1, .int (3 : Int32)]) (rest := []) (st' := [.int q56]) ⟨hx, hb, hml, hown, hts⟩ (kX5_is l G eq56) (cwV 2 hts gX5_wishOf_X5_is rfl rfl rfl qqX5_is ⟨Nat.le_of_ble_eq_true rfl, Nat.le_of_ble_eq_true rfl⟩) hw (rvMd hw) rfl hl.1 rfl (Nat.le_of_ble_eq_true rfl) dX5_wishOf_56 ⟨Nat.zero_le _, Nat.zero_le _⟩ rfl (fun H locs hw => ?_)
    refine lv_if_lt (tgt := 84) hx hb dX5_wishOf_59 (by decide) (fun c59 => ?_) (fun c59 => ?_)
    · replace h := o_t c59 h
      refine lv_aload_n hx hb dX5_wishOf_84 rfl (lv_at hl 0 rfl) ?_
      refine lv_iload_n hx hb dX5_wishOf_85 rfl (lv_at hl 1 rfl) ?_
      obtain ⟨q86, eq86, h⟩ := o_bd h
      refine kV (As := [.int a1]) (rest := []) (st' := [.int q86]) ⟨hx, hb, hml, hown, hts⟩ (kX5_asKeeper l G eq86) (cwV 1 hts gX5_wishOf_X5_asKeeper rfl rfl rfl qqX5_asKeeper ⟨Nat.le_of_ble_eq_true rfl, Nat.le_of_ble_eq_true rfl⟩) hw (rvMd hw) rfl hl.1 rfl (Nat.le_of_ble_eq_true rfl) dX5_wishOf_86 ⟨Nat.zero_le _, Nat.zero_le _⟩ rfl (fun H locs hw => ?_)
      exact rI hQ hx hb hr hlk hw dX5_wishOf_89 (o_1 h) rfl rfl
    · replace h := o_f c59 h
      refine lv_aload_n hx hb dX5_wishOf_62 rfl (lv_at hl 0 rfl) ?_
      refine lv_aload_n hx hb dX5_wishOf_63 rfl (lv_at hl 0 rfl) ?_
      refine lv_iload_n hx hb dX5_wishOf_64 rfl (lv_at hl 1 rfl) ?_
      refine lv_iconst (v := 3) hx hb dX5_wishOf_65 (by decide) ?_
      obtain ⟨q66, eq66, h⟩ := o_bd h
      refine kV (As := [.int a1, .int (3 : Int32)]) (rest := [.ref (sA G 9 0)]) (st' := [.int q66, .ref (sA G 9 0)]) ⟨hx, hb, hml, hown, hts⟩ (kX5_is l G eq66) (cwV 2 hts gX5_wishOf_X5_is rfl rfl rfl qqX5_is ⟨Nat.le_of_ble_eq_true rfl, Nat.le_of_ble_eq_true rfl⟩) hw (rvMd hw) rfl hl.1 rfl (Nat.le_of_ble_eq_true rfl) dX5_wishOf_66 ⟨Nat.zero_le _, Nat.zero_le _⟩ rfl (fun H locs hw => ?_)
      obtain ⟨q69, eq69, h⟩ := o_bd h
      refine kV (As := [.int q66]) (rest := []) (st' := [.int q69]) ⟨hx, hb, hml, hown, hts⟩ (kX5_isHome l G eq69) (cwV 1 hts gX5_wishOf_X5_isHome rfl rfl rfl qqX5_isHome ⟨Nat.le_of_ble_eq_true rfl, Nat.le_of_ble_eq_true rfl⟩) hw (rvMd hw) rfl hl.1 rfl (Nat.le_of_ble_eq_true rfl) dX5_wishOf_69 ⟨Nat.zero_le _, Nat.zero_le _⟩ rfl (fun H locs hw => ?_)
      refine lv_if_eq (tgt := 84) hx hb dX5_wishOf_72 (by decide) (fun c72 => ?_) (fun c72 => ?_)
      · replace h := o_t c72 h
        refine lv_aload_n hx hb dX5_wishOf_84 rfl (lv_at hl 0 rfl) ?_
        refine lv_iload_n hx hb dX5_wishOf_85 rfl (lv_at hl 1 rfl) ?_
        obtain ⟨q86, eq86, h⟩ := o_bd h
        refine kV (As := [.int a1]) (rest := []) (st' := [.int q86]) ⟨hx, hb, hml, hown, hts⟩ (kX5_asKeeper l G eq86) (cwV 1 hts gX5_wishOf_X5_asKeeper rfl rfl rfl qqX5_asKeeper ⟨Nat.le_of_ble_eq_true rfl, Nat.le_of_ble_eq_true rfl⟩) hw (rvMd hw) rfl hl.1 rfl (Nat.le_of_ble_eq_true rfl) dX5_wishOf_86 ⟨Nat.zero_le _, Nat.zero_le _⟩ rfl (fun H locs hw => ?_)
        exact rI hQ hx hb hr hlk hw dX5_wishOf_89 (o_1 h) rfl rfl
      · replace h := o_f c72 h
        refine lv_aload_n hx hb dX5_wishOf_75 rfl (lv_at hl 0 rfl) ?_
        refine gMd (v := .ref (sA G 9 1)) hx hb hts hiX5 hown hw 0 (by decide) (hts (.fieldLink RX5 7 "SecondHomeModel" "s" "[I") (by decide +kernel)) rfl dX5_wishOf_76 ?_
        refine lv_iconst (v := 2) hx hb dX5_wishOf_79 (by decide) ?_
        refine ldMd hx hb hw 0 (by decide) (n := 77) rfl (by decide) dX5_wishOf_80 ?_
        refine lv_goto (tgt := 89) hx hb dX5_wishOf_81 (by decide) ?_
        exact rI hQ hx hb hr hlk hw dX5_wishOf_89 (o_1 h) rfl rfl
  replace h := o_f c6_3 h
  by_cases c6_4 : q3 = (4 : Int32)
  · replace h := o_t c6_4 h
    refine lv_tableIn (tgt := 90) hx hb dX5_wishOf_6 (by rw [c6_4]; decide) (by rw [c6_4]; decide) (by rw [c6_4]; rfl) (by decide) ?_
    refine lv_aload_n hx hb dX5_wishOf_90 rfl (lv_at hl 0 rfl) ?_
    refine lv_iload_n hx hb dX5_wishOf_91 rfl (lv_at hl 1 rfl) ?_
    refine lv_iconst (v := 5) hx hb dX5_wishOf_92 (by decide) ?_
    obtain ⟨q93, eq93, h⟩ := o_bd h
    refine kV (As := [.int a1, .int (5 : Int32)]) (rest := []) (st' := [.int q93]) ⟨hx, hb, hml, hown, hts⟩ (kX5_is l G eq93) (cwV 2 hts gX5_wishOf_X5_is rfl rfl rfl qqX5_is ⟨Nat.le_of_ble_eq_true rfl, Nat.le_of_ble_eq_true rfl⟩) hw (rvMd hw) rfl hl.1 rfl (Nat.le_of_ble_eq_true rfl) dX5_wishOf_93 ⟨Nat.zero_le _, Nat.zero_le _⟩ rfl (fun H locs hw => ?_)
    refine lv_aload_n hx hb dX5_wishOf_96 rfl (lv_at hl 0 rfl) ?_
    refine gMd (v := .ref (sA G 9 1)) hx hb hts hiX5 hown hw 0 (by decide) (hts (.fieldLink RX5 7 "SecondHomeModel" "s" "[I") (by decide +kernel)) rfl dX5_wishOf_97 ?_
    refine lv_iconst (v := 1) hx hb dX5_wishOf_100 (by decide) ?_
    refine ldMd hx hb hw 0 (by decide) (n := 77) rfl (by decide) dX5_wishOf_101 ?_
    refine lv_bipush (v := 40) hx hb dX5_wishOf_102 (by decide) ?_
    refine lv_isub hx hb dX5_wishOf_104 ?_
    obtain ⟨k128, ek128, h⟩ := o_nm h
    have J128 : ∀ (H : Heap) (locs : List Loc) (ls : Array Slot), sHw G s S M H locs → lv_has ls 4 [(0, .ref (sA G 9 0)), (1, .int a1), (2, .int a2)] → k128 = some q → W p l e rmX5_wishOf s m args below meth c H locs 0 0 Q (F0 m 128 ls []) := by
      intro H locs ls hw hl h
      replace h := o_j0 ek128 h
      refine lv_aload_n hx hb dX5_wishOf_128 rfl (lv_at hl 0 rfl) ?_
      refine lv_iload_n hx hb dX5_wishOf_129 rfl (lv_at hl 1 rfl) ?_
      refine lv_iload_n hx hb dX5_wishOf_130 rfl (lv_at hl 2 rfl) ?_
      obtain ⟨q131, eq131, h⟩ := o_bd h
      refine kV (As := [.int a1, .int a2]) (rest := []) (st' := [.int q131]) ⟨hx, hb, hml, hown, hts⟩ (kX5_asHolder l G eq131) (cwV 2 hts gX5_wishOf_X5_asHolder rfl rfl rfl qqX5_asHolder ⟨Nat.le_of_ble_eq_true rfl, Nat.le_of_ble_eq_true rfl⟩) hw (rvMd hw) rfl hl.1 rfl (Nat.le_of_ble_eq_true rfl) dX5_wishOf_131 ⟨Nat.zero_le _, Nat.zero_le _⟩ rfl (fun H locs hw => ?_)
      exact rI hQ hx hb hr hlk hw dX5_wishOf_134 (o_1 h) rfl rfl
    refine lv_icmp_lt (tgt := 128) hx hb dX5_wishOf_105 (by decide) (fun c105 => ?_) (fun c105 => ?_)
    · replace h := o_t c105 h
      exact J128 _ _ _ hw (lv_sub hl [0, 1, 2] rfl) h
    · replace h := o_f c105 h
      refine lv_iload_n hx hb dX5_wishOf_108 rfl (lv_at hl 3 rfl) ?_
      obtain ⟨k117, ek117, h⟩ := o_nm h
      have J117 : ∀ (H : Heap) (locs : List Loc) (ls : Array Slot), sHw G s S M H locs → lv_has ls 4 [(0, .ref (sA G 9 0)), (1, .int a1), (2, .int a2)] → k117 = some q → W p l e rmX5_wishOf s m args below meth c H locs 0 0 Q (F0 m 117 ls []) := by
        intro H locs ls hw hl h
        replace h := o_j0 ek117 h
        refine lv_iconst (v := 2) hx hb dX5_wishOf_117 (by decide) ?_
        refine lv_aload_n hx hb dX5_wishOf_118 rfl (lv_at hl 0 rfl) ?_
        refine lv_iload_n hx hb dX5_wishOf_119 rfl (lv_at hl 1 rfl) ?_
        refine lv_iload_n hx hb dX5_wishOf_120 rfl (lv_at hl 2 rfl) ?_
        obtain ⟨q121, eq121, h⟩ := o_bd h
        refine kV (As := [.int a1, .int a2]) (rest := [.int (2 : Int32)]) (st' := [.int q121, .int (2 : Int32)]) ⟨hx, hb, hml, hown, hts⟩ (kX5_asHolder l G eq121) (cwV 2 hts gX5_wishOf_X5_asHolder rfl rfl rfl qqX5_asHolder ⟨Nat.le_of_ble_eq_true rfl, Nat.le_of_ble_eq_true rfl⟩) hw (rvMd hw) rfl hl.1 rfl (Nat.le_of_ble_eq_true rfl) dX5_wishOf_121 ⟨Nat.zero_le _, Nat.zero_le _⟩ rfl (fun H locs hw => ?_)
        refine lv_imul hx hb dX5_wishOf_124 ?_
        refine lv_goto (tgt := 134) hx hb dX5_wishOf_125 (by decide) ?_
        exact rI hQ hx hb hr hlk hw dX5_wishOf_134 (o_1 h) rfl rfl
      refine lv_if_gt (tgt := 117) hx hb dX5_wishOf_109 (by decide) (fun c109 => ?_) (fun c109 => ?_)
      · replace h := o_t c109 h
        exact J117 _ _ _ hw (lv_sub hl [0, 1, 2] rfl) h
      · replace h := o_f c109 h
        refine lv_iload_n hx hb dX5_wishOf_112 rfl (lv_at hl 1 rfl) ?_
        refine lv_iload_n hx hb dX5_wishOf_113 rfl (lv_at hl 2 rfl) ?_
        refine lv_icmp_eq (tgt := 128) hx hb dX5_wishOf_114 (by decide) (fun c114 => ?_) (fun c114 => ?_)
        · replace h := o_t c114 h
          exact J128 _ _ _ hw (lv_sub hl [0, 1, 2] rfl) h
        · replace h := o_f c114 h
          exact J117 _ _ _ hw (lv_sub hl [0, 1, 2] rfl) h
  replace h := o_f c6_4 h
  by_cases c6_5 : q3 = (5 : Int32)
  · replace h := o_t c6_5 h
    refine lv_tableIn (tgt := 135) hx hb dX5_wishOf_6 (by rw [c6_5]; decide) (by rw [c6_5]; decide) (by rw [c6_5]; rfl) (by decide) ?_
    refine lv_aload_n hx hb dX5_wishOf_135 rfl (lv_at hl 0 rfl) ?_
    refine lv_iload_n hx hb dX5_wishOf_136 rfl (lv_at hl 1 rfl) ?_
    refine lv_iload_n hx hb dX5_wishOf_137 rfl (lv_at hl 2 rfl) ?_
    obtain ⟨q138, eq138, h⟩ := o_bd h
    refine kV (As := [.int a1, .int a2]) (rest := []) (st' := [.int q138]) ⟨hx, hb, hml, hown, hts⟩ (kX5_asHolder l G eq138) (cwV 2 hts gX5_wishOf_X5_asHolder rfl rfl rfl qqX5_asHolder ⟨Nat.le_of_ble_eq_true rfl, Nat.le_of_ble_eq_true rfl⟩) hw (rvMd hw) rfl hl.1 rfl (Nat.le_of_ble_eq_true rfl) dX5_wishOf_138 ⟨Nat.zero_le _, Nat.zero_le _⟩ rfl (fun H locs hw => ?_)
    refine lv_aload_n hx hb dX5_wishOf_141 rfl (lv_at hl 0 rfl) ?_
    refine gMd (v := .ref (sA G 9 1)) hx hb hts hiX5 hown hw 0 (by decide) (hts (.fieldLink RX5 7 "SecondHomeModel" "s" "[I") (by decide +kernel)) rfl dX5_wishOf_142 ?_
    refine lv_iconst (v := 2) hx hb dX5_wishOf_145 (by decide) ?_
    refine ldMd hx hb hw 0 (by decide) (n := 77) rfl (by decide) dX5_wishOf_146 ?_
    refine lv_iconst (v := 2) hx hb dX5_wishOf_147 (by decide) ?_
    refine lv_iadd hx hb dX5_wishOf_148 ?_
    refine lv_icmp_ge (tgt := 161) hx hb dX5_wishOf_149 (by decide) (fun c149 => ?_) (fun c149 => ?_)
    · replace h := o_t c149 h
      refine lv_aload_n hx hb dX5_wishOf_161 rfl (lv_at hl 0 rfl) ?_
      refine gMd (v := .ref (sA G 9 1)) hx hb hts hiX5 hown hw 0 (by decide) (hts (.fieldLink RX5 7 "SecondHomeModel" "s" "[I") (by decide +kernel)) rfl dX5_wishOf_162 ?_
      refine lv_iconst (v := 2) hx hb dX5_wishOf_165 (by decide) ?_
      refine ldMd hx hb hw 0 (by decide) (n := 77) rfl (by decide) dX5_wishOf_166 ?_
      refine lv_iconst (v := 2) hx hb dX5_wishOf_167 (by decide) ?_
      refine lv_iadd hx hb dX5_wishOf_168 ?_
      exact rI hQ hx hb hr hlk hw dX5_wishOf_169 (o_1 h) rfl rfl
    · replace h := o_f c149 h
      refine lv_aload_n hx hb dX5_wishOf_152 rfl (lv_at hl 0 rfl) ?_
      refine lv_iload_n hx hb dX5_wishOf_153 rfl (lv_at hl 1 rfl) ?_
      refine lv_iload_n hx hb dX5_wishOf_154 rfl (lv_at hl 2 rfl) ?_
      obtain ⟨q155, eq155, h⟩ := o_bd h
      refine kV (As := [.int a1, .int a2]) (rest := []) (st' := [.int q155]) ⟨hx, hb, hml, hown, hts⟩ (kX5_asHolder l G eq155) (cwV 2 hts gX5_wishOf_X5_asHolder rfl rfl rfl qqX5_asHolder ⟨Nat.le_of_ble_eq_true rfl, Nat.le_of_ble_eq_true rfl⟩) hw (rvMd hw) rfl hl.1 rfl (Nat.le_of_ble_eq_true rfl) dX5_wishOf_155 ⟨Nat.zero_le _, Nat.zero_le _⟩ rfl (fun H locs hw => ?_)
      refine lv_goto (tgt := 169) hx hb dX5_wishOf_158 (by decide) ?_
      exact rI hQ hx hb hr hlk hw dX5_wishOf_169 (o_1 h) rfl rfl
  replace h := o_f c6_5 h
  have sw6 : q3.toInt < 1 ∨ 5 < q3.toInt := by
    have z1 := sw_ne c6_1
    have z2 := sw_ne c6_2
    have z3 := sw_ne c6_3
    have z4 := sw_ne c6_4
    have z5 := sw_ne c6_5
    rw [show ((1 : Int32)).toInt = 1 from rfl] at z1
    rw [show ((2 : Int32)).toInt = 2 from rfl] at z2
    rw [show ((3 : Int32)).toInt = 3 from rfl] at z3
    rw [show ((4 : Int32)).toInt = 4 from rfl] at z4
    rw [show ((5 : Int32)).toInt = 5 from rfl] at z5
    omega
  refine lv_tableOut (tgt := 170) hx hb dX5_wishOf_6 sw6 (by decide) ?_
  refine lv_aload_n hx hb dX5_wishOf_170 rfl (lv_at hl 0 rfl) ?_
  refine lv_iload_n hx hb dX5_wishOf_171 rfl (lv_at hl 1 rfl) ?_
  refine lv_iconst (v := 1) hx hb dX5_wishOf_172 (by decide) ?_
  obtain ⟨q173, eq173, h⟩ := o_bd h
  refine kV (As := [.int a1, .int (1 : Int32)]) (rest := []) (st' := [.int q173]) ⟨hx, hb, hml, hown, hts⟩ (kX5_is l G eq173) (cwV 2 hts gX5_wishOf_X5_is rfl rfl rfl qqX5_is ⟨Nat.le_of_ble_eq_true rfl, Nat.le_of_ble_eq_true rfl⟩) hw (rvMd hw) rfl hl.1 rfl (Nat.le_of_ble_eq_true rfl) dX5_wishOf_173 ⟨Nat.zero_le _, Nat.zero_le _⟩ rfl (fun H locs hw => ?_)
  exact rI hQ hx hb hr hlk hw dX5_wishOf_176 (o_1 h) rfl rfl
-- X5_wish
def fX5_wish (M : sOb) (a1 : Int32) : Option (Int32 × sOb) :=
  (fX5_isRunner M a1).bind fun q2 => if q2 = 0 then ((fX5_finds M (-1000000001 : Int32)).bind fun q11 => some (q11.1, q11.2)) else ((fX5_isHome M a1).bind fun q17 => if q17 = 0 then ((fX5_firstAlone M).bind fun q35 => (fX5_homeMany M).bind fun q39 => (fX5_wishOf M a1 q35 q39).bind fun q42 => some (q42, M)) else ((fX5_finds M (-1000000005 : Int32)).bind fun q26 => some (q26.1, q26.2)))
def rmX5_wish : Room := { frames := 4, cells := 0, slots := 0, locals := 90 }
theorem qqX5_wish : yX5_wish.cls = RX5 ∧ yX5_wish.cls ≠ "java/lang/invoke/MethodHandle" ∧ yX5_wish.cls ≠ "java/lang/invoke/VarHandle" ∧ (parseMethodDescriptor yX5_wish.desc).map (fun d => d.parameters.length) = some 1 := by decide +kernel
set_option maxRecDepth 100000 in
set_option maxHeartbeats 4000000 in
theorem kX5_wish (l : Launch) (G : sGl) {S : sWo} {M : sOb} {a1 : Int32} {q : (Int32 × sOb)}  (h : fX5_wish M a1 = some q) : sCt l G yX5_wish wsX5_wish rmX5_wish [.ref (sA G 9 0), .int a1] S M (some (.int q.1)) S q.2 := by
  refine cMk (cc := cX5_wish) (maxL := 2) (ret := (some .int)) (by decide) rfl (Nat.le_of_ble_eq_true rfl) ?_
  intro p e s m args below meth c Q hQ hx hb hr hlk hml hown hts hw ls hl
  have hown : s.vm.findClass RX5 = some m.cls := hown
  have hl : lv_has ls 2 [(0, .ref (sA G 9 0)), (1, .int a1)] := hl
  unfold fX5_wish at h
  refine lv_aload_n hx hb dX5_wish_0 rfl (lv_at hl 0 rfl) ?_
  refine lv_iload_n hx hb dX5_wish_1 rfl (lv_at hl 1 rfl) ?_
  obtain ⟨q2, eq2, h⟩ := o_bd h
  refine kV (As := [.int a1]) (rest := []) (st' := [.int q2]) ⟨hx, hb, hml, hown, hts⟩ (kX5_isRunner l G eq2) (cwV 1 hts gX5_wish_X5_isRunner rfl rfl rfl qqX5_isRunner ⟨Nat.le_of_ble_eq_true rfl, Nat.le_of_ble_eq_true rfl⟩) hw (rvMd hw) rfl hl.1 rfl (Nat.le_of_ble_eq_true rfl) dX5_wish_2 ⟨Nat.zero_le _, Nat.zero_le _⟩ rfl (fun H locs hw => ?_)
  refine lv_if_ne (tgt := 15) hx hb dX5_wish_5 (by decide) (fun c5 => ?_) (fun c5 => ?_)
  · replace h := o_f c5 h
    refine lv_aload_n hx hb dX5_wish_15 rfl (lv_at hl 0 rfl) ?_
    refine lv_iload_n hx hb dX5_wish_16 rfl (lv_at hl 1 rfl) ?_
    obtain ⟨q17, eq17, h⟩ := o_bd h
    refine kV (As := [.int a1]) (rest := []) (st' := [.int q17]) ⟨hx, hb, hml, hown, hts⟩ (kX5_isHome l G eq17) (cwV 1 hts gX5_wish_X5_isHome rfl rfl rfl qqX5_isHome ⟨Nat.le_of_ble_eq_true rfl, Nat.le_of_ble_eq_true rfl⟩) hw (rvMd hw) rfl hl.1 rfl (Nat.le_of_ble_eq_true rfl) dX5_wish_17 ⟨Nat.zero_le _, Nat.zero_le _⟩ rfl (fun H locs hw => ?_)
    refine lv_if_eq (tgt := 32) hx hb dX5_wish_20 (by decide) (fun c20 => ?_) (fun c20 => ?_)
    · replace h := o_t c20 h
      refine lv_aload_n hx hb dX5_wish_32 rfl (lv_at hl 0 rfl) ?_
      refine lv_iload_n hx hb dX5_wish_33 rfl (lv_at hl 1 rfl) ?_
      refine lv_aload_n hx hb dX5_wish_34 rfl (lv_at hl 0 rfl) ?_
      obtain ⟨q35, eq35, h⟩ := o_bd h
      refine kV (As := []) (rest := [.int a1, .ref (sA G 9 0)]) (st' := [.int q35, .int a1, .ref (sA G 9 0)]) ⟨hx, hb, hml, hown, hts⟩ (kX5_firstAlone l G eq35) (cwV 0 hts gX5_wish_X5_firstAlone rfl rfl rfl qqX5_firstAlone ⟨Nat.le_of_ble_eq_true rfl, Nat.le_of_ble_eq_true rfl⟩) hw (rvMd hw) rfl hl.1 rfl (Nat.le_of_ble_eq_true rfl) dX5_wish_35 ⟨Nat.zero_le _, Nat.zero_le _⟩ rfl (fun H locs hw => ?_)
      refine lv_aload_n hx hb dX5_wish_38 rfl (lv_at hl 0 rfl) ?_
      obtain ⟨q39, eq39, h⟩ := o_bd h
      refine kV (As := []) (rest := [.int q35, .int a1, .ref (sA G 9 0)]) (st' := [.int q39, .int q35, .int a1, .ref (sA G 9 0)]) ⟨hx, hb, hml, hown, hts⟩ (kX5_homeMany l G eq39) (cwV 0 hts gX5_wish_X5_homeMany rfl rfl rfl qqX5_homeMany ⟨Nat.le_of_ble_eq_true rfl, Nat.le_of_ble_eq_true rfl⟩) hw (rvMd hw) rfl hl.1 rfl (Nat.le_of_ble_eq_true rfl) dX5_wish_39 ⟨Nat.zero_le _, Nat.zero_le _⟩ rfl (fun H locs hw => ?_)
      obtain ⟨q42, eq42, h⟩ := o_bd h
      refine kV (As := [.int a1, .int q35, .int q39]) (rest := []) (st' := [.int q42]) ⟨hx, hb, hml, hown, hts⟩ (kX5_wishOf l G eq42) (cwV 3 hts gX5_wish_X5_wishOf rfl rfl rfl qqX5_wishOf ⟨Nat.le_of_ble_eq_true rfl, Nat.le_of_ble_eq_true rfl⟩) hw (rvMd hw) rfl hl.1 rfl (Nat.le_of_ble_eq_true rfl) dX5_wish_42 ⟨Nat.zero_le _, Nat.zero_le _⟩ rfl (fun H locs hw => ?_)
      exact rI hQ hx hb hr hlk hw dX5_wish_45 (o_2a h) rfl (o_2b h)
    · replace h := o_f c20 h
      refine lv_aload_n hx hb dX5_wish_23 rfl (lv_at hl 0 rfl) ?_
      refine lv_ldc (v := -1000000005) hx hb hown (hts (.constant RX5 60 (-1000000005)) (by decide +kernel)) dX5_wish_24 ?_
      obtain ⟨q26, eq26, h⟩ := o_bd h
      refine kV (As := [.int (-1000000005 : Int32)]) (rest := []) (st' := [.int q26.1]) ⟨hx, hb, hml, hown, hts⟩ (kX5_finds l G eq26) (cwV 1 hts gX5_wish_X5_finds rfl rfl rfl qqX5_finds ⟨Nat.le_of_ble_eq_true rfl, Nat.le_of_ble_eq_true rfl⟩) hw (rvMd hw) rfl hl.1 rfl (Nat.le_of_ble_eq_true rfl) dX5_wish_26 ⟨Nat.zero_le _, Nat.zero_le _⟩ rfl (fun H locs hw => ?_)
      refine lv_goto (tgt := 45) hx hb dX5_wish_29 (by decide) ?_
      exact rI hQ hx hb hr hlk hw dX5_wish_45 (o_2a h) rfl (o_2b h)
  · replace h := o_t c5 h
    refine lv_aload_n hx hb dX5_wish_8 rfl (lv_at hl 0 rfl) ?_
    refine lv_ldc (v := -1000000001) hx hb hown (hts (.constant RX5 38 (-1000000001)) (by decide +kernel)) dX5_wish_9 ?_
    obtain ⟨q11, eq11, h⟩ := o_bd h
    refine kV (As := [.int (-1000000001 : Int32)]) (rest := []) (st' := [.int q11.1]) ⟨hx, hb, hml, hown, hts⟩ (kX5_finds l G eq11) (cwV 1 hts gX5_wish_X5_finds rfl rfl rfl qqX5_finds ⟨Nat.le_of_ble_eq_true rfl, Nat.le_of_ble_eq_true rfl⟩) hw (rvMd hw) rfl hl.1 rfl (Nat.le_of_ble_eq_true rfl) dX5_wish_11 ⟨Nat.zero_le _, Nat.zero_le _⟩ rfl (fun H locs hw => ?_)
    exact rI hQ hx hb hr hlk hw dX5_wish_14 (o_2a h) rfl (o_2b h)
-- X5_lines
def bX5_lines_2 (rc2 : Int32 → sOb → Option sOb) (x1_2 : Int32) (T_2 : sOb) : Option sOb :=
  if (T_2.2.1 0 (0 : Int32).toNatClampNeg) ≤ x1_2 then (nm (sSa T_2 0 (4 : Int32).toNatClampNeg (0 : Int32)) fun M44 => some M44) else ((fX5_is T_2 x1_2 (4 : Int32)).bind fun q18 => (fX5_puts T_2 x1_2 (5 : Int32) q18).bind fun q21 => (fX5_puts q21 x1_2 (7 : Int32) (-1 : Int32)).bind fun q29 => nm (x1_2 + (1 : Int32)) fun v32 => rc2 v32 q29)
def fX5_lines (M : sOb) : Option sOb :=
  fx2 bX5_lines_2 FU (0 : Int32) M
def rmX5_lines : Room := { frames := 1, cells := 0, slots := 0, locals := 23 }
theorem qqX5_lines : yX5_lines.cls = RX5 ∧ yX5_lines.cls ≠ "java/lang/invoke/MethodHandle" ∧ yX5_lines.cls ≠ "java/lang/invoke/VarHandle" ∧ (parseMethodDescriptor yX5_lines.desc).map (fun d => d.parameters.length) = some 0 := by decide +kernel
set_option maxRecDepth 100000 in
set_option maxHeartbeats 4000000 in
theorem kX5_lines (l : Launch) (G : sGl) {S : sWo} {M : sOb}  {q : sOb}  (h : fX5_lines M = some q) : sCt l G yX5_lines wsX5_lines rmX5_lines [.ref (sA G 9 0)] S M none S q := by
  refine cMk (cc := cX5_lines) (maxL := 2) (ret := none) (by decide) rfl (Nat.le_of_ble_eq_true rfl) ?_
  intro p e s m args below meth c Q hQ hx hb hr hlk hml hown hts hw ls hl
  have hown : s.vm.findClass RX5 = some m.cls := hown
  have hl : lv_has ls 2 [(0, .ref (sA G 9 0))] := hl
  have hiX5 : ∀ w ∈ u_ws RX5 TX5 15, w ∈ wsX5_lines := by decide +kernel
  unfold fX5_lines at h
  refine lv_iconst (v := 0) hx hb dX5_lines_0 (by decide) ?_
  refine lv_istore_n (lv' := [(1, .int (0 : Int32)), (0, .ref (sA G 9 0))]) hx hb dX5_lines_1 rfl hl (by decide) rfl (fun ls hl => ?_)
  refine fx2_w (F := bX5_lines_2) (P := fun x1_2 T_2 => ∀ (H : Heap) (locs : List Loc) (ls : Array Slot), sHw G s S T_2 H locs → lv_has ls 2 [(0, .ref (sA G 9 0)), (1, .int x1_2)] → W p l e rmX5_lines s m args below meth c H locs 0 0 Q (F0 m 2 ls [])) ?_ _ _ _ h _ _ _ hw (lv_sub hl [1, 0] rfl)
  intro rc2 IH2 x1_2 T_2 h H locs ls hw hl
  unfold bX5_lines_2 at h
  refine lv_iload_n hx hb dX5_lines_2 rfl (lv_at hl 1 rfl) ?_
  refine lv_aload_n hx hb dX5_lines_3 rfl (lv_at hl 0 rfl) ?_
  refine gMd (v := .ref (sA G 9 1)) hx hb hts hiX5 hown hw 0 (by decide) (hts (.fieldLink RX5 7 "SecondHomeModel" "s" "[I") (by decide +kernel)) rfl dX5_lines_4 ?_
  refine lv_iconst (v := 0) hx hb dX5_lines_7 (by decide) ?_
  refine ldMd hx hb hw 0 (by decide) (n := 77) rfl (by decide) dX5_lines_8 ?_
  refine lv_icmp_ge (tgt := 38) hx hb dX5_lines_9 (by decide) (fun c9 => ?_) (fun c9 => ?_)
  · replace h := o_t c9 h
    refine lv_aload_n hx hb dX5_lines_38 rfl (lv_at hl 0 rfl) ?_
    refine gMd (v := .ref (sA G 9 1)) hx hb hts hiX5 hown hw 0 (by decide) (hts (.fieldLink RX5 7 "SecondHomeModel" "s" "[I") (by decide +kernel)) rfl dX5_lines_39 ?_
    refine lv_iconst (v := 4) hx hb dX5_lines_42 (by decide) ?_
    refine lv_iconst (v := 0) hx hb dX5_lines_43 (by decide) ?_
    refine stMd hx hb hw 0 (by decide) (n := 77) rfl (by decide) dX5_lines_44 rfl (fun H locs hw => ?_)
    obtain ⟨M44, eM44, h⟩ := o_nm h
    rw [← eM44] at hw
    exact rV hQ hx hb hr hlk hw dX5_lines_45 rfl (o_1 h)
  · replace h := o_f c9 h
    refine lv_aload_n hx hb dX5_lines_12 rfl (lv_at hl 0 rfl) ?_
    refine lv_iload_n hx hb dX5_lines_13 rfl (lv_at hl 1 rfl) ?_
    refine lv_iconst (v := 5) hx hb dX5_lines_14 (by decide) ?_
    refine lv_aload_n hx hb dX5_lines_15 rfl (lv_at hl 0 rfl) ?_
    refine lv_iload_n hx hb dX5_lines_16 rfl (lv_at hl 1 rfl) ?_
    refine lv_iconst (v := 4) hx hb dX5_lines_17 (by decide) ?_
    obtain ⟨q18, eq18, h⟩ := o_bd h
    refine kV (As := [.int x1_2, .int (4 : Int32)]) (rest := [.int (5 : Int32), .int x1_2, .ref (sA G 9 0)]) (st' := [.int q18, .int (5 : Int32), .int x1_2, .ref (sA G 9 0)]) ⟨hx, hb, hml, hown, hts⟩ (kX5_is l G eq18) (cwV 2 hts gX5_lines_X5_is rfl rfl rfl qqX5_is ⟨Nat.le_of_ble_eq_true rfl, Nat.le_of_ble_eq_true rfl⟩) hw (rvMd hw) rfl hl.1 rfl (Nat.le_of_ble_eq_true rfl) dX5_lines_18 ⟨Nat.zero_le _, Nat.zero_le _⟩ rfl (fun H locs hw => ?_)
    obtain ⟨q21, eq21, h⟩ := o_bd h
    refine kV (As := [.int x1_2, .int (5 : Int32), .int q18]) (rest := []) (st' := []) ⟨hx, hb, hml, hown, hts⟩ (kX5_puts l G eq21) (cwV 3 hts gX5_lines_X5_puts rfl rfl rfl qqX5_puts ⟨Nat.le_of_ble_eq_true rfl, Nat.le_of_ble_eq_true rfl⟩) hw (rvMd hw) rfl hl.1 rfl (Nat.le_of_ble_eq_true rfl) dX5_lines_21 ⟨Nat.zero_le _, Nat.zero_le _⟩ rfl (fun H locs hw => ?_)
    refine lv_aload_n hx hb dX5_lines_24 rfl (lv_at hl 0 rfl) ?_
    refine lv_iload_n hx hb dX5_lines_25 rfl (lv_at hl 1 rfl) ?_
    refine lv_bipush (v := 7) hx hb dX5_lines_26 (by decide) ?_
    refine lv_iconst (v := -1) hx hb dX5_lines_28 (by decide) ?_
    obtain ⟨q29, eq29, h⟩ := o_bd h
    refine kV (As := [.int x1_2, .int (7 : Int32), .int (-1 : Int32)]) (rest := []) (st' := []) ⟨hx, hb, hml, hown, hts⟩ (kX5_puts l G eq29) (cwV 3 hts gX5_lines_X5_puts rfl rfl rfl qqX5_puts ⟨Nat.le_of_ble_eq_true rfl, Nat.le_of_ble_eq_true rfl⟩) hw (rvMd hw) rfl hl.1 rfl (Nat.le_of_ble_eq_true rfl) dX5_lines_29 ⟨Nat.zero_le _, Nat.zero_le _⟩ rfl (fun H locs hw => ?_)
    obtain ⟨v32, ev32, h⟩ := o_nm h
    refine lv_iinc (v := v32) (lv' := [(1, .int v32), (0, .ref (sA G 9 0))]) hx hb dX5_lines_32 hl (k := 1) rfl (by rw [ev32]; rfl) (by decide) rfl (fun ls hl => ?_)
    refine lv_goto (tgt := 2) hx hb dX5_lines_35 (by decide) ?_
    exact IH2 v32 q29 h _ _ _ hw (lv_sub hl [1, 0] rfl)
-- X5_line
def fX5_line (M : sOb) : Option (Int32 × sOb) :=
  (fX5_homeMany M).bind fun q1 => (fX5_lines M).bind fun q6 => some (q1, q6)
def rmX5_line : Room := { frames := 3, cells := 0, slots := 0, locals := 65 }
theorem qqX5_line : yX5_line.cls = RX5 ∧ yX5_line.cls ≠ "java/lang/invoke/MethodHandle" ∧ yX5_line.cls ≠ "java/lang/invoke/VarHandle" ∧ (parseMethodDescriptor yX5_line.desc).map (fun d => d.parameters.length) = some 0 := by decide +kernel
set_option maxRecDepth 100000 in
set_option maxHeartbeats 4000000 in
theorem kX5_line (l : Launch) (G : sGl) {S : sWo} {M : sOb}  {q : (Int32 × sOb)}  (h : fX5_line M = some q) : sCt l G yX5_line wsX5_line rmX5_line [.ref (sA G 9 0)] S M (some (.int q.1)) S q.2 := by
  refine cMk (cc := cX5_line) (maxL := 2) (ret := (some .int)) (by decide) rfl (Nat.le_of_ble_eq_true rfl) ?_
  intro p e s m args below meth c Q hQ hx hb hr hlk hml hown hts hw ls hl
  have hown : s.vm.findClass RX5 = some m.cls := hown
  have hl : lv_has ls 2 [(0, .ref (sA G 9 0))] := hl
  unfold fX5_line at h
  refine lv_aload_n hx hb dX5_line_0 rfl (lv_at hl 0 rfl) ?_
  obtain ⟨q1, eq1, h⟩ := o_bd h
  refine kV (As := []) (rest := []) (st' := [.int q1]) ⟨hx, hb, hml, hown, hts⟩ (kX5_homeMany l G eq1) (cwV 0 hts gX5_line_X5_homeMany rfl rfl rfl qqX5_homeMany ⟨Nat.le_of_ble_eq_true rfl, Nat.le_of_ble_eq_true rfl⟩) hw (rvMd hw) rfl hl.1 rfl (Nat.le_of_ble_eq_true rfl) dX5_line_1 ⟨Nat.zero_le _, Nat.zero_le _⟩ rfl (fun H locs hw => ?_)
  refine lv_istore_n (lv' := [(1, .int q1), (0, .ref (sA G 9 0))]) hx hb dX5_line_4 rfl hl (by decide) rfl (fun ls hl => ?_)
  refine lv_aload_n hx hb dX5_line_5 rfl (lv_at hl 1 rfl) ?_
  obtain ⟨q6, eq6, h⟩ := o_bd h
  refine kV (As := []) (rest := []) (st' := []) ⟨hx, hb, hml, hown, hts⟩ (kX5_lines l G eq6) (cwV 0 hts gX5_line_X5_lines rfl rfl rfl qqX5_lines ⟨Nat.le_of_ble_eq_true rfl, Nat.le_of_ble_eq_true rfl⟩) hw (rvMd hw) rfl hl.1 rfl (Nat.le_of_ble_eq_true rfl) dX5_line_6 ⟨Nat.zero_le _, Nat.zero_le _⟩ rfl (fun H locs hw => ?_)
  refine lv_iload_n hx hb dX5_line_9 rfl (lv_at hl 0 rfl) ?_
  exact rI hQ hx hb hr hlk hw dX5_line_10 (o_2a h) rfl (o_2b h)
-- X5_goesOn
def bX5_goesOn_116 (rc116 : Int32 → Int32 → sOb → Option (Int32 × sOb)) (x3_116 : Int32) (x4_116 : Int32) (T_116 : sOb) : Option (Int32 × sOb) :=
  if (T_116.2.1 0 (0 : Int32).toNatClampNeg) ≤ x4_116 then (some (x3_116, T_116)) else ((fX5_isHome T_116 x4_116).bind fun q130 => if q130 = 0 then (if x4_116 < 0 ∨ 9 ≤ x4_116.toNatClampNeg then none else nm (fun (y0_163 : Int32) => (fX5_is T_116 x4_116 (2 : Int32)).bind fun q169 => nm (fun (T_259 : sOb) => (fX5_is T_259 x4_116 (5 : Int32)).bind fun q267 => (fX5_puts T_259 x4_116 (5 : Int32) (q267 + (T_259.2.1 7 x4_116.toNatClampNeg))).bind fun q278 => (fX5_is q278 x4_116 (5 : Int32)).bind fun q285 => if q285 < (q278.2.1 0 (1 : Int32).toNatClampNeg) then (nm (x4_116 + (1 : Int32)) fun v314 => rc116 x3_116 v314 q278) else ((fX5_puts q278 x4_116 (7 : Int32) (q278.2.1 0 (4 : Int32).toNatClampNeg)).bind fun q308 => nm (x3_116 + (1 : Int32)) fun v311 => nm (x4_116 + (1 : Int32)) fun v314 => rc116 v311 v314 q308)) fun k259 => if y0_163 ≤ q169 then ((fX5_is T_116 x4_116 (2 : Int32)).bind fun q211 => nm (fun (y0_233 : Int32) => nm ((q211 - y0_163) + y0_233) fun v234 => nm (fun (y0_256 : Int32) => (fX5_puts T_116 x4_116 (2 : Int32) y0_256).bind fun q256 => k259 q256) fun k256 => if v234 ≤ (999 : Int32) then (k256 v234) else (k256 (999 : Int32))) fun k233 => if (4 : Int32) ≤ (T_116.2.1 7 x4_116.toNatClampNeg) then (k233 (0 : Int32)) else (k233 (1 : Int32))) else (nm (fun (y0_203 : Int32) => nm (sSa T_116 7 x4_116.toNatClampNeg y0_203) fun M203 => k259 M203) fun k203 => if (T_116.2.1 0 (2 : Int32).toNatClampNeg) ≤ (4 : Int32) then (k203 (4 : Int32)) else (k203 (T_116.2.1 0 (2 : Int32).toNatClampNeg)))) fun k163 => if (T_116.2.1 7 x4_116.toNatClampNeg) ≤ (4 : Int32) then (k163 (0 : Int32)) else (k163 ((T_116.2.1 7 x4_116.toNatClampNeg) - (4 : Int32)))) else (nm (x4_116 + (1 : Int32)) fun v314 => rc116 x3_116 v314 T_116))
def bX5_goesOn_24 (q1 : Int32) (q18 : Int32) (k101 : sOb → Option (Int32 × sOb)) (rc24 : Int32 → sOb → Option (Int32 × sOb)) (x3_24 : Int32) (T_24 : sOb) : Option (Int32 × sOb) :=
  if (T_24.2.1 0 (0 : Int32).toNatClampNeg) ≤ x3_24 then (k101 T_24) else ((fX5_isHome T_24 x3_24).bind fun q36 => nm (fun (y0_53 : Int32) => (fX5_isHome T_24 x3_24).bind fun q62 => if q62 = 0 then (if (T_24.2.1 0 (2 : Int32).toNatClampNeg) ≤ y0_53 then (if x3_24 < 0 ∨ 9 ≤ x3_24.toNatClampNeg then none else nm (sSa T_24 7 x3_24.toNatClampNeg y0_53) fun M94 => nm (x3_24 + (1 : Int32)) fun v95 => rc24 v95 M94) else (if x3_24 < 0 ∨ 9 ≤ x3_24.toNatClampNeg then none else nm (sSa T_24 7 x3_24.toNatClampNeg (T_24.2.1 0 (2 : Int32).toNatClampNeg)) fun M94 => nm (x3_24 + (1 : Int32)) fun v95 => rc24 v95 M94)) else (if x3_24 < 0 ∨ 9 ≤ x3_24.toNatClampNeg then none else nm (sSa T_24 7 x3_24.toNatClampNeg (0 : Int32)) fun M94 => nm (x3_24 + (1 : Int32)) fun v95 => rc24 v95 M94)) fun k53 => if q36 = 0 then ((fX5_wishOf T_24 x3_24 q18 q1).bind fun q50 => k53 q50) else (k53 (0 : Int32)))
def fX5_goesOn (M : sOb) : Option (Int32 × sOb) :=
  (fX5_homeMany M).bind fun q1 => if q1 = (M.2.1 0 (0 : Int32).toNatClampNeg) then (some ((0 : Int32), M)) else ((fX5_firstAlone M).bind fun q18 => nm (fun (T_101 : sOb) => nm (sSa T_101 0 (4 : Int32).toNatClampNeg ((T_101.2.1 0 (4 : Int32).toNatClampNeg) + (1 : Int32))) fun M110 => fx3 bX5_goesOn_116 FU (0 : Int32) (0 : Int32) M110) fun k101 => fx2 (bX5_goesOn_24 q1 q18 k101) FU (0 : Int32) M)
def rmX5_goesOn : Room := { frames := 4, cells := 0, slots := 0, locals := 90 }
theorem qqX5_goesOn : yX5_goesOn.cls = RX5 ∧ yX5_goesOn.cls ≠ "java/lang/invoke/MethodHandle" ∧ yX5_goesOn.cls ≠ "java/lang/invoke/VarHandle" ∧ (parseMethodDescriptor yX5_goesOn.desc).map (fun d => d.parameters.length) = some 0 := by decide +kernel
set_option maxRecDepth 100000 in
set_option maxHeartbeats 4000000 in
theorem kX5_goesOn (l : Launch) (G : sGl) {S : sWo} {M : sOb}  {q : (Int32 × sOb)}  (h : fX5_goesOn M = some q) : sCt l G yX5_goesOn wsX5_goesOn rmX5_goesOn [.ref (sA G 9 0)] S M (some (.int q.1)) S q.2 := by
  refine cMk (cc := cX5_goesOn) (maxL := 7) (ret := (some .int)) (by decide) rfl (Nat.le_of_ble_eq_true rfl) ?_
  intro p e s m args below meth c Q hQ hx hb hr hlk hml hown hts hw ls hl
  have hown : s.vm.findClass RX5 = some m.cls := hown
  have hl : lv_has ls 7 [(0, .ref (sA G 9 0))] := hl
  have hiX5 : ∀ w ∈ u_ws RX5 TX5 15, w ∈ wsX5_goesOn := by decide +kernel
  unfold fX5_goesOn at h
  refine lv_aload_n hx hb dX5_goesOn_0 rfl (lv_at hl 0 rfl) ?_
  obtain ⟨q1, eq1, h⟩ := o_bd h
  refine kV (As := []) (rest := []) (st' := [.int q1]) ⟨hx, hb, hml, hown, hts⟩ (kX5_homeMany l G eq1) (cwV 0 hts gX5_goesOn_X5_homeMany rfl rfl rfl qqX5_homeMany ⟨Nat.le_of_ble_eq_true rfl, Nat.le_of_ble_eq_true rfl⟩) hw (rvMd hw) rfl hl.1 rfl (Nat.le_of_ble_eq_true rfl) dX5_goesOn_1 ⟨Nat.zero_le _, Nat.zero_le _⟩ rfl (fun H locs hw => ?_)
  refine lv_istore_n (lv' := [(1, .int q1), (0, .ref (sA G 9 0))]) hx hb dX5_goesOn_4 rfl hl (by decide) rfl (fun ls hl => ?_)
  refine lv_iload_n hx hb dX5_goesOn_5 rfl (lv_at hl 0 rfl) ?_
  refine lv_aload_n hx hb dX5_goesOn_6 rfl (lv_at hl 1 rfl) ?_
  refine gMd (v := .ref (sA G 9 1)) hx hb hts hiX5 hown hw 0 (by decide) (hts (.fieldLink RX5 7 "SecondHomeModel" "s" "[I") (by decide +kernel)) rfl dX5_goesOn_7 ?_
  refine lv_iconst (v := 0) hx hb dX5_goesOn_10 (by decide) ?_
  refine ldMd hx hb hw 0 (by decide) (n := 77) rfl (by decide) dX5_goesOn_11 ?_
  refine lv_icmp_ne (tgt := 17) hx hb dX5_goesOn_12 (by decide) (fun c12 => ?_) (fun c12 => ?_)
  · replace h := o_f c12 h
    refine lv_aload_n hx hb dX5_goesOn_17 rfl (lv_at hl 1 rfl) ?_
    obtain ⟨q18, eq18, h⟩ := o_bd h
    refine kV (As := []) (rest := []) (st' := [.int q18]) ⟨hx, hb, hml, hown, hts⟩ (kX5_firstAlone l G eq18) (cwV 0 hts gX5_goesOn_X5_firstAlone rfl rfl rfl qqX5_firstAlone ⟨Nat.le_of_ble_eq_true rfl, Nat.le_of_ble_eq_true rfl⟩) hw (rvMd hw) rfl hl.1 rfl (Nat.le_of_ble_eq_true rfl) dX5_goesOn_18 ⟨Nat.zero_le _, Nat.zero_le _⟩ rfl (fun H locs hw => ?_)
    refine lv_istore_n (lv' := [(2, .int q18), (1, .int q1), (0, .ref (sA G 9 0))]) hx hb dX5_goesOn_21 rfl hl (by decide) rfl (fun ls hl => ?_)
    refine lv_iconst (v := 0) hx hb dX5_goesOn_22 (by decide) ?_
    refine lv_istore_n (lv' := [(3, .int (0 : Int32)), (2, .int q18), (1, .int q1), (0, .ref (sA G 9 0))]) hx hb dX5_goesOn_23 rfl hl (by decide) rfl (fun ls hl => ?_)
    obtain ⟨k101, ek101, h⟩ := o_nm h
    have J101 : ∀ (T_101 : sOb) (H : Heap) (locs : List Loc) (ls : Array Slot), sHw G s S T_101 H locs → lv_has ls 7 [(0, .ref (sA G 9 0))] → k101 T_101 = some q → W p l e rmX5_goesOn s m args below meth c H locs 0 0 Q (F0 m 101 ls []) := by
      intro T_101 H locs ls hw hl h
      replace h := o_j1 ek101 h
      refine lv_aload_n hx hb dX5_goesOn_101 rfl (lv_at hl 0 rfl) ?_
      refine gMd (v := .ref (sA G 9 1)) hx hb hts hiX5 hown hw 0 (by decide) (hts (.fieldLink RX5 7 "SecondHomeModel" "s" "[I") (by decide +kernel)) rfl dX5_goesOn_102 ?_
      refine lv_iconst (v := 4) hx hb dX5_goesOn_105 (by decide) ?_
      refine lv_dup2_11 hx hb dX5_goesOn_106 rfl rfl ?_
      refine ldMd hx hb hw 0 (by decide) (n := 77) rfl (by decide) dX5_goesOn_107 ?_
      refine lv_iconst (v := 1) hx hb dX5_goesOn_108 (by decide) ?_
      refine lv_iadd hx hb dX5_goesOn_109 ?_
      refine stMd hx hb hw 0 (by decide) (n := 77) rfl (by decide) dX5_goesOn_110 rfl (fun H locs hw => ?_)
      obtain ⟨M110, eM110, h⟩ := o_nm h
      rw [← eM110] at hw
      refine lv_iconst (v := 0) hx hb dX5_goesOn_111 (by decide) ?_
      refine lv_istore_n (lv' := [(3, .int (0 : Int32)), (0, .ref (sA G 9 0))]) hx hb dX5_goesOn_112 rfl hl (by decide) rfl (fun ls hl => ?_)
      refine lv_iconst (v := 0) hx hb dX5_goesOn_113 (by decide) ?_
      refine lv_istore (lv' := [(4, .int (0 : Int32)), (3, .int (0 : Int32)), (0, .ref (sA G 9 0))]) hx hb dX5_goesOn_114 hl (by decide) rfl (fun ls hl => ?_)
      refine fx3_w (F := bX5_goesOn_116) (P := fun x3_116 x4_116 T_116 => ∀ (H : Heap) (locs : List Loc) (ls : Array Slot), sHw G s S T_116 H locs → lv_has ls 7 [(0, .ref (sA G 9 0)), (3, .int x3_116), (4, .int x4_116)] → W p l e rmX5_goesOn s m args below meth c H locs 0 0 Q (F0 m 116 ls [])) ?_ _ _ _ _ h _ _ _ hw (lv_sub hl [2, 1, 0] rfl)
      intro rc116 IH116 x3_116 x4_116 T_116 h H locs ls hw hl
      unfold bX5_goesOn_116 at h
      refine lv_iload hx hb dX5_goesOn_116 (lv_at hl 2 rfl) ?_
      refine lv_aload_n hx hb dX5_goesOn_118 rfl (lv_at hl 0 rfl) ?_
      refine gMd (v := .ref (sA G 9 1)) hx hb hts hiX5 hown hw 0 (by decide) (hts (.fieldLink RX5 7 "SecondHomeModel" "s" "[I") (by decide +kernel)) rfl dX5_goesOn_119 ?_
      refine lv_iconst (v := 0) hx hb dX5_goesOn_122 (by decide) ?_
      refine ldMd hx hb hw 0 (by decide) (n := 77) rfl (by decide) dX5_goesOn_123 ?_
      refine lv_icmp_ge (tgt := 320) hx hb dX5_goesOn_124 (by decide) (fun c124 => ?_) (fun c124 => ?_)
      · replace h := o_t c124 h
        refine lv_iload_n hx hb dX5_goesOn_320 rfl (lv_at hl 1 rfl) ?_
        exact rI hQ hx hb hr hlk hw dX5_goesOn_321 (o_2a h) rfl (o_2b h)
      · replace h := o_f c124 h
        refine lv_aload_n hx hb dX5_goesOn_127 rfl (lv_at hl 0 rfl) ?_
        refine lv_iload hx hb dX5_goesOn_128 (lv_at hl 2 rfl) ?_
        obtain ⟨q130, eq130, h⟩ := o_bd h
        refine kV (As := [.int x4_116]) (rest := []) (st' := [.int q130]) ⟨hx, hb, hml, hown, hts⟩ (kX5_isHome l G eq130) (cwV 1 hts gX5_goesOn_X5_isHome rfl rfl rfl qqX5_isHome ⟨Nat.le_of_ble_eq_true rfl, Nat.le_of_ble_eq_true rfl⟩) hw (rvMd hw) rfl hl.1 rfl (Nat.le_of_ble_eq_true rfl) dX5_goesOn_130 ⟨Nat.zero_le _, Nat.zero_le _⟩ rfl (fun H locs hw => ?_)
        refine lv_if_eq (tgt := 139) hx hb dX5_goesOn_133 (by decide) (fun c133 => ?_) (fun c133 => ?_)
        · replace h := o_t c133 h
          refine lv_aload_n hx hb dX5_goesOn_139 rfl (lv_at hl 0 rfl) ?_
          refine gMd (v := .ref (sA G 9 8)) hx hb hts hiX5 hown hw 10 (by decide) (hts (.fieldLink RX5 35 "SecondHomeModel" "runs" "[I") (by decide +kernel)) rfl dX5_goesOn_140 ?_
          refine lv_iload hx hb dX5_goesOn_143 (lv_at hl 2 rfl) ?_
          obtain ⟨b145, h⟩ := o_in h
          refine ldMd hx hb hw 7 (by decide) (n := 9) rfl b145 dX5_goesOn_145 ?_
          refine lv_iconst (v := 4) hx hb dX5_goesOn_146 (by decide) ?_
          obtain ⟨k163, ek163, h⟩ := o_nm h
          have J163 : ∀ (y0_163 : Int32) (H : Heap) (locs : List Loc) (ls : Array Slot), sHw G s S T_116 H locs → lv_has ls 7 [(0, .ref (sA G 9 0)), (3, .int x3_116), (4, .int x4_116)] → k163 y0_163 = some q → W p l e rmX5_goesOn s m args below meth c H locs 0 0 Q (F0 m 163 ls [.int y0_163]) := by
            intro y0_163 H locs ls hw hl h
            replace h := o_j1 ek163 h
            refine lv_istore (lv' := [(5, .int y0_163), (0, .ref (sA G 9 0)), (3, .int x3_116), (4, .int x4_116)]) hx hb dX5_goesOn_163 hl (by decide) rfl (fun ls hl => ?_)
            refine lv_aload_n hx hb dX5_goesOn_165 rfl (lv_at hl 1 rfl) ?_
            refine lv_iload hx hb dX5_goesOn_166 (lv_at hl 3 rfl) ?_
            refine lv_iconst (v := 2) hx hb dX5_goesOn_168 (by decide) ?_
            obtain ⟨q169, eq169, h⟩ := o_bd h
            refine kV (As := [.int x4_116, .int (2 : Int32)]) (rest := []) (st' := [.int q169]) ⟨hx, hb, hml, hown, hts⟩ (kX5_is l G eq169) (cwV 2 hts gX5_goesOn_X5_is rfl rfl rfl qqX5_is ⟨Nat.le_of_ble_eq_true rfl, Nat.le_of_ble_eq_true rfl⟩) hw (rvMd hw) rfl hl.1 rfl (Nat.le_of_ble_eq_true rfl) dX5_goesOn_169 ⟨Nat.zero_le _, Nat.zero_le _⟩ rfl (fun H locs hw => ?_)
            refine lv_iload hx hb dX5_goesOn_172 (lv_at hl 0 rfl) ?_
            obtain ⟨k259, ek259, h⟩ := o_nm h
            have J259 : ∀ (T_259 : sOb) (H : Heap) (locs : List Loc) (ls : Array Slot), sHw G s S T_259 H locs → lv_has ls 7 [(0, .ref (sA G 9 0)), (3, .int x3_116), (4, .int x4_116)] → k259 T_259 = some q → W p l e rmX5_goesOn s m args below meth c H locs 0 0 Q (F0 m 259 ls []) := by
              intro T_259 H locs ls hw hl h
              replace h := o_j1 ek259 h
              refine lv_aload_n hx hb dX5_goesOn_259 rfl (lv_at hl 0 rfl) ?_
              refine lv_iload hx hb dX5_goesOn_260 (lv_at hl 2 rfl) ?_
              refine lv_iconst (v := 5) hx hb dX5_goesOn_262 (by decide) ?_
              refine lv_aload_n hx hb dX5_goesOn_263 rfl (lv_at hl 0 rfl) ?_
              refine lv_iload hx hb dX5_goesOn_264 (lv_at hl 2 rfl) ?_
              refine lv_iconst (v := 5) hx hb dX5_goesOn_266 (by decide) ?_
              obtain ⟨q267, eq267, h⟩ := o_bd h
              refine kV (As := [.int x4_116, .int (5 : Int32)]) (rest := [.int (5 : Int32), .int x4_116, .ref (sA G 9 0)]) (st' := [.int q267, .int (5 : Int32), .int x4_116, .ref (sA G 9 0)]) ⟨hx, hb, hml, hown, hts⟩ (kX5_is l G eq267) (cwV 2 hts gX5_goesOn_X5_is rfl rfl rfl qqX5_is ⟨Nat.le_of_ble_eq_true rfl, Nat.le_of_ble_eq_true rfl⟩) hw (rvMd hw) rfl hl.1 rfl (Nat.le_of_ble_eq_true rfl) dX5_goesOn_267 ⟨Nat.zero_le _, Nat.zero_le _⟩ rfl (fun H locs hw => ?_)
              refine lv_aload_n hx hb dX5_goesOn_270 rfl (lv_at hl 0 rfl) ?_
              refine gMd (v := .ref (sA G 9 8)) hx hb hts hiX5 hown hw 10 (by decide) (hts (.fieldLink RX5 35 "SecondHomeModel" "runs" "[I") (by decide +kernel)) rfl dX5_goesOn_271 ?_
              refine lv_iload hx hb dX5_goesOn_274 (lv_at hl 2 rfl) ?_
              refine ldMd hx hb hw 7 (by decide) (n := 9) rfl b145 dX5_goesOn_276 ?_
              refine lv_iadd hx hb dX5_goesOn_277 ?_
              obtain ⟨q278, eq278, h⟩ := o_bd h
              refine kV (As := [.int x4_116, .int (5 : Int32), .int (q267 + (T_259.2.1 7 x4_116.toNatClampNeg))]) (rest := []) (st' := []) ⟨hx, hb, hml, hown, hts⟩ (kX5_puts l G eq278) (cwV 3 hts gX5_goesOn_X5_puts rfl rfl rfl qqX5_puts ⟨Nat.le_of_ble_eq_true rfl, Nat.le_of_ble_eq_true rfl⟩) hw (rvMd hw) rfl hl.1 rfl (Nat.le_of_ble_eq_true rfl) dX5_goesOn_278 ⟨Nat.zero_le _, Nat.zero_le _⟩ rfl (fun H locs hw => ?_)
              refine lv_aload_n hx hb dX5_goesOn_281 rfl (lv_at hl 0 rfl) ?_
              refine lv_iload hx hb dX5_goesOn_282 (lv_at hl 2 rfl) ?_
              refine lv_iconst (v := 5) hx hb dX5_goesOn_284 (by decide) ?_
              obtain ⟨q285, eq285, h⟩ := o_bd h
              refine kV (As := [.int x4_116, .int (5 : Int32)]) (rest := []) (st' := [.int q285]) ⟨hx, hb, hml, hown, hts⟩ (kX5_is l G eq285) (cwV 2 hts gX5_goesOn_X5_is rfl rfl rfl qqX5_is ⟨Nat.le_of_ble_eq_true rfl, Nat.le_of_ble_eq_true rfl⟩) hw (rvMd hw) rfl hl.1 rfl (Nat.le_of_ble_eq_true rfl) dX5_goesOn_285 ⟨Nat.zero_le _, Nat.zero_le _⟩ rfl (fun H locs hw => ?_)
              refine lv_aload_n hx hb dX5_goesOn_288 rfl (lv_at hl 0 rfl) ?_
              refine gMd (v := .ref (sA G 9 1)) hx hb hts hiX5 hown hw 0 (by decide) (hts (.fieldLink RX5 7 "SecondHomeModel" "s" "[I") (by decide +kernel)) rfl dX5_goesOn_289 ?_
              refine lv_iconst (v := 1) hx hb dX5_goesOn_292 (by decide) ?_
              refine ldMd hx hb hw 0 (by decide) (n := 77) rfl (by decide) dX5_goesOn_293 ?_
              refine lv_icmp_lt (tgt := 314) hx hb dX5_goesOn_294 (by decide) (fun c294 => ?_) (fun c294 => ?_)
              · replace h := o_t c294 h
                obtain ⟨v314, ev314, h⟩ := o_nm h
                refine lv_iinc (v := v314) (lv' := [(4, .int v314), (0, .ref (sA G 9 0)), (3, .int x3_116)]) hx hb dX5_goesOn_314 hl (k := 2) rfl (by rw [ev314]; rfl) (by decide) rfl (fun ls hl => ?_)
                refine lv_goto (tgt := 116) hx hb dX5_goesOn_317 (by decide) ?_
                exact IH116 x3_116 v314 q278 h _ _ _ hw (lv_sub hl [1, 2, 0] rfl)
              · replace h := o_f c294 h
                refine lv_aload_n hx hb dX5_goesOn_297 rfl (lv_at hl 0 rfl) ?_
                refine lv_iload hx hb dX5_goesOn_298 (lv_at hl 2 rfl) ?_
                refine lv_bipush (v := 7) hx hb dX5_goesOn_300 (by decide) ?_
                refine lv_aload_n hx hb dX5_goesOn_302 rfl (lv_at hl 0 rfl) ?_
                refine gMd (v := .ref (sA G 9 1)) hx hb hts hiX5 hown hw 0 (by decide) (hts (.fieldLink RX5 7 "SecondHomeModel" "s" "[I") (by decide +kernel)) rfl dX5_goesOn_303 ?_
                refine lv_iconst (v := 4) hx hb dX5_goesOn_306 (by decide) ?_
                refine ldMd hx hb hw 0 (by decide) (n := 77) rfl (by decide) dX5_goesOn_307 ?_
                obtain ⟨q308, eq308, h⟩ := o_bd h
                refine kV (As := [.int x4_116, .int (7 : Int32), .int (q278.2.1 0 (4 : Int32).toNatClampNeg)]) (rest := []) (st' := []) ⟨hx, hb, hml, hown, hts⟩ (kX5_puts l G eq308) (cwV 3 hts gX5_goesOn_X5_puts rfl rfl rfl qqX5_puts ⟨Nat.le_of_ble_eq_true rfl, Nat.le_of_ble_eq_true rfl⟩) hw (rvMd hw) rfl hl.1 rfl (Nat.le_of_ble_eq_true rfl) dX5_goesOn_308 ⟨Nat.zero_le _, Nat.zero_le _⟩ rfl (fun H locs hw => ?_)
                obtain ⟨v311, ev311, h⟩ := o_nm h
                refine lv_iinc (v := v311) (lv' := [(3, .int v311), (0, .ref (sA G 9 0)), (4, .int x4_116)]) hx hb dX5_goesOn_311 hl (k := 1) rfl (by rw [ev311]; rfl) (by decide) rfl (fun ls hl => ?_)
                obtain ⟨v314, ev314, h⟩ := o_nm h
                refine lv_iinc (v := v314) (lv' := [(4, .int v314), (3, .int v311), (0, .ref (sA G 9 0))]) hx hb dX5_goesOn_314 hl (k := 2) rfl (by rw [ev314]; rfl) (by decide) rfl (fun ls hl => ?_)
                refine lv_goto (tgt := 116) hx hb dX5_goesOn_317 (by decide) ?_
                exact IH116 v311 v314 q308 h _ _ _ hw (lv_sub hl [2, 1, 0] rfl)
            refine lv_icmp_ge (tgt := 207) hx hb dX5_goesOn_174 (by decide) (fun c174 => ?_) (fun c174 => ?_)
            · replace h := o_t c174 h
              refine lv_aload_n hx hb dX5_goesOn_207 rfl (lv_at hl 1 rfl) ?_
              refine lv_iload hx hb dX5_goesOn_208 (lv_at hl 3 rfl) ?_
              refine lv_iconst (v := 2) hx hb dX5_goesOn_210 (by decide) ?_
              obtain ⟨q211, eq211, h⟩ := o_bd h
              refine kV (As := [.int x4_116, .int (2 : Int32)]) (rest := []) (st' := [.int q211]) ⟨hx, hb, hml, hown, hts⟩ (kX5_is l G eq211) (cwV 2 hts gX5_goesOn_X5_is rfl rfl rfl qqX5_is ⟨Nat.le_of_ble_eq_true rfl, Nat.le_of_ble_eq_true rfl⟩) hw (rvMd hw) rfl hl.1 rfl (Nat.le_of_ble_eq_true rfl) dX5_goesOn_211 ⟨Nat.zero_le _, Nat.zero_le _⟩ rfl (fun H locs hw => ?_)
              refine lv_iload hx hb dX5_goesOn_214 (lv_at hl 0 rfl) ?_
              refine lv_isub hx hb dX5_goesOn_216 ?_
              refine lv_aload_n hx hb dX5_goesOn_217 rfl (lv_at hl 1 rfl) ?_
              refine gMd (v := .ref (sA G 9 8)) hx hb hts hiX5 hown hw 10 (by decide) (hts (.fieldLink RX5 35 "SecondHomeModel" "runs" "[I") (by decide +kernel)) rfl dX5_goesOn_218 ?_
              refine lv_iload hx hb dX5_goesOn_221 (lv_at hl 3 rfl) ?_
              refine ldMd hx hb hw 7 (by decide) (n := 9) rfl b145 dX5_goesOn_223 ?_
              refine lv_iconst (v := 4) hx hb dX5_goesOn_224 (by decide) ?_
              obtain ⟨k233, ek233, h⟩ := o_nm h
              have J233 : ∀ (y0_233 : Int32) (H : Heap) (locs : List Loc) (ls : Array Slot), sHw G s S T_116 H locs → lv_has ls 7 [(0, .ref (sA G 9 0)), (3, .int x3_116), (4, .int x4_116)] → k233 y0_233 = some q → W p l e rmX5_goesOn s m args below meth c H locs 0 0 Q (F0 m 233 ls [.int y0_233, .int (q211 - y0_163)]) := by
                intro y0_233 H locs ls hw hl h
                replace h := o_j1 ek233 h
                refine lv_iadd hx hb dX5_goesOn_233 ?_
                refine lv_topi (fun v234 ev234 => ?_)
                replace h := o_nx ev234 h
                refine lv_istore (lv' := [(6, .int v234), (0, .ref (sA G 9 0)), (3, .int x3_116), (4, .int x4_116)]) hx hb dX5_goesOn_234 hl (by decide) rfl (fun ls hl => ?_)
                refine lv_aload_n hx hb dX5_goesOn_236 rfl (lv_at hl 1 rfl) ?_
                refine lv_iload hx hb dX5_goesOn_237 (lv_at hl 3 rfl) ?_
                refine lv_iconst (v := 2) hx hb dX5_goesOn_239 (by decide) ?_
                refine lv_iload hx hb dX5_goesOn_240 (lv_at hl 0 rfl) ?_
                refine lv_sipush (v := 999) hx hb dX5_goesOn_242 (by decide) ?_
                obtain ⟨k256, ek256, h⟩ := o_nm h
                have J256 : ∀ (y0_256 : Int32) (H : Heap) (locs : List Loc) (ls : Array Slot), sHw G s S T_116 H locs → lv_has ls 7 [(0, .ref (sA G 9 0)), (3, .int x3_116), (4, .int x4_116)] → k256 y0_256 = some q → W p l e rmX5_goesOn s m args below meth c H locs 0 0 Q (F0 m 256 ls [.int y0_256, .int (2 : Int32), .int x4_116, .ref (sA G 9 0)]) := by
                  intro y0_256 H locs ls hw hl h
                  replace h := o_j1 ek256 h
                  obtain ⟨q256, eq256, h⟩ := o_bd h
                  refine kV (As := [.int x4_116, .int (2 : Int32), .int y0_256]) (rest := []) (st' := []) ⟨hx, hb, hml, hown, hts⟩ (kX5_puts l G eq256) (cwV 3 hts gX5_goesOn_X5_puts rfl rfl rfl qqX5_puts ⟨Nat.le_of_ble_eq_true rfl, Nat.le_of_ble_eq_true rfl⟩) hw (rvMd hw) rfl hl.1 rfl (Nat.le_of_ble_eq_true rfl) dX5_goesOn_256 ⟨Nat.zero_le _, Nat.zero_le _⟩ rfl (fun H locs hw => ?_)
                  exact J259 q256 _ _ _ hw (lv_sub hl [0, 1, 2] rfl) h
                refine lv_icmp_le (tgt := 254) hx hb dX5_goesOn_245 (by decide) (fun c245 => ?_) (fun c245 => ?_)
                · replace h := o_t c245 h
                  refine lv_iload hx hb dX5_goesOn_254 (lv_at hl 0 rfl) ?_
                  exact J256 v234 _ _ _ hw (lv_sub hl [1, 2, 3] rfl) h
                · replace h := o_f c245 h
                  refine lv_sipush (v := 999) hx hb dX5_goesOn_248 (by decide) ?_
                  refine lv_goto (tgt := 256) hx hb dX5_goesOn_251 (by decide) ?_
                  exact J256 (999 : Int32) _ _ _ hw (lv_sub hl [1, 2, 3] rfl) h
              refine lv_icmp_ge (tgt := 232) hx hb dX5_goesOn_225 (by decide) (fun c225 => ?_) (fun c225 => ?_)
              · replace h := o_t c225 h
                refine lv_iconst (v := 0) hx hb dX5_goesOn_232 (by decide) ?_
                exact J233 (0 : Int32) _ _ _ hw (lv_sub hl [1, 2, 3] rfl) h
              · replace h := o_f c225 h
                refine lv_iconst (v := 1) hx hb dX5_goesOn_228 (by decide) ?_
                refine lv_goto (tgt := 233) hx hb dX5_goesOn_229 (by decide) ?_
                exact J233 (1 : Int32) _ _ _ hw (lv_sub hl [1, 2, 3] rfl) h
            · replace h := o_f c174 h
              refine lv_aload_n hx hb dX5_goesOn_177 rfl (lv_at hl 1 rfl) ?_
              refine gMd (v := .ref (sA G 9 8)) hx hb hts hiX5 hown hw 10 (by decide) (hts (.fieldLink RX5 35 "SecondHomeModel" "runs" "[I") (by decide +kernel)) rfl dX5_goesOn_178 ?_
              refine lv_iload hx hb dX5_goesOn_181 (lv_at hl 3 rfl) ?_
              refine lv_aload_n hx hb dX5_goesOn_183 rfl (lv_at hl 1 rfl) ?_
              refine gMd (v := .ref (sA G 9 1)) hx hb hts hiX5 hown hw 0 (by decide) (hts (.fieldLink RX5 7 "SecondHomeModel" "s" "[I") (by decide +kernel)) rfl dX5_goesOn_184 ?_
              refine lv_iconst (v := 2) hx hb dX5_goesOn_187 (by decide) ?_
              refine ldMd hx hb hw 0 (by decide) (n := 77) rfl (by decide) dX5_goesOn_188 ?_
              refine lv_iconst (v := 4) hx hb dX5_goesOn_189 (by decide) ?_
              obtain ⟨k203, ek203, h⟩ := o_nm h
              have J203 : ∀ (y0_203 : Int32) (H : Heap) (locs : List Loc) (ls : Array Slot), sHw G s S T_116 H locs → lv_has ls 7 [(0, .ref (sA G 9 0)), (3, .int x3_116), (4, .int x4_116)] → k203 y0_203 = some q → W p l e rmX5_goesOn s m args below meth c H locs 0 0 Q (F0 m 203 ls [.int y0_203, .int x4_116, .ref (sA G 9 8)]) := by
                intro y0_203 H locs ls hw hl h
                replace h := o_j1 ek203 h
                refine stMd hx hb hw 7 (by decide) (n := 9) rfl b145 dX5_goesOn_203 rfl (fun H locs hw => ?_)
                obtain ⟨M203, eM203, h⟩ := o_nm h
                rw [← eM203] at hw
                refine lv_goto (tgt := 259) hx hb dX5_goesOn_204 (by decide) ?_
                exact J259 M203 _ _ _ hw (lv_sub hl [0, 1, 2] rfl) h
              refine lv_icmp_le (tgt := 202) hx hb dX5_goesOn_190 (by decide) (fun c190 => ?_) (fun c190 => ?_)
              · replace h := o_t c190 h
                refine lv_iconst (v := 4) hx hb dX5_goesOn_202 (by decide) ?_
                exact J203 (4 : Int32) _ _ _ hw (lv_sub hl [1, 2, 3] rfl) h
              · replace h := o_f c190 h
                refine lv_aload_n hx hb dX5_goesOn_193 rfl (lv_at hl 1 rfl) ?_
                refine gMd (v := .ref (sA G 9 1)) hx hb hts hiX5 hown hw 0 (by decide) (hts (.fieldLink RX5 7 "SecondHomeModel" "s" "[I") (by decide +kernel)) rfl dX5_goesOn_194 ?_
                refine lv_iconst (v := 2) hx hb dX5_goesOn_197 (by decide) ?_
                refine ldMd hx hb hw 0 (by decide) (n := 77) rfl (by decide) dX5_goesOn_198 ?_
                refine lv_goto (tgt := 203) hx hb dX5_goesOn_199 (by decide) ?_
                exact J203 (T_116.2.1 0 (2 : Int32).toNatClampNeg) _ _ _ hw (lv_sub hl [1, 2, 3] rfl) h
          refine lv_icmp_le (tgt := 162) hx hb dX5_goesOn_147 (by decide) (fun c147 => ?_) (fun c147 => ?_)
          · replace h := o_t c147 h
            refine lv_iconst (v := 0) hx hb dX5_goesOn_162 (by decide) ?_
            exact J163 (0 : Int32) _ _ _ hw (lv_sub hl [0, 1, 2] rfl) h
          · replace h := o_f c147 h
            refine lv_aload_n hx hb dX5_goesOn_150 rfl (lv_at hl 0 rfl) ?_
            refine gMd (v := .ref (sA G 9 8)) hx hb hts hiX5 hown hw 10 (by decide) (hts (.fieldLink RX5 35 "SecondHomeModel" "runs" "[I") (by decide +kernel)) rfl dX5_goesOn_151 ?_
            refine lv_iload hx hb dX5_goesOn_154 (lv_at hl 2 rfl) ?_
            refine ldMd hx hb hw 7 (by decide) (n := 9) rfl b145 dX5_goesOn_156 ?_
            refine lv_iconst (v := 4) hx hb dX5_goesOn_157 (by decide) ?_
            refine lv_isub hx hb dX5_goesOn_158 ?_
            refine lv_goto (tgt := 163) hx hb dX5_goesOn_159 (by decide) ?_
            exact J163 ((T_116.2.1 7 x4_116.toNatClampNeg) - (4 : Int32)) _ _ _ hw (lv_sub hl [0, 1, 2] rfl) h
        · replace h := o_f c133 h
          refine lv_goto (tgt := 314) hx hb dX5_goesOn_136 (by decide) ?_
          obtain ⟨v314, ev314, h⟩ := o_nm h
          refine lv_iinc (v := v314) (lv' := [(4, .int v314), (0, .ref (sA G 9 0)), (3, .int x3_116)]) hx hb dX5_goesOn_314 hl (k := 2) rfl (by rw [ev314]; rfl) (by decide) rfl (fun ls hl => ?_)
          refine lv_goto (tgt := 116) hx hb dX5_goesOn_317 (by decide) ?_
          exact IH116 x3_116 v314 T_116 h _ _ _ hw (lv_sub hl [1, 2, 0] rfl)
    refine fx2_w (F := (bX5_goesOn_24 q1 q18 k101)) (P := fun x3_24 T_24 => ∀ (H : Heap) (locs : List Loc) (ls : Array Slot), sHw G s S T_24 H locs → lv_has ls 7 [(0, .ref (sA G 9 0)), (1, .int q1), (2, .int q18), (3, .int x3_24)] → W p l e rmX5_goesOn s m args below meth c H locs 0 0 Q (F0 m 24 ls [])) ?_ _ _ _ h _ _ _ hw (lv_sub hl [3, 2, 1, 0] rfl)
    intro rc24 IH24 x3_24 T_24 h H locs ls hw hl
    unfold bX5_goesOn_24 at h
    refine lv_iload_n hx hb dX5_goesOn_24 rfl (lv_at hl 3 rfl) ?_
    refine lv_aload_n hx hb dX5_goesOn_25 rfl (lv_at hl 0 rfl) ?_
    refine gMd (v := .ref (sA G 9 1)) hx hb hts hiX5 hown hw 0 (by decide) (hts (.fieldLink RX5 7 "SecondHomeModel" "s" "[I") (by decide +kernel)) rfl dX5_goesOn_26 ?_
    refine lv_iconst (v := 0) hx hb dX5_goesOn_29 (by decide) ?_
    refine ldMd hx hb hw 0 (by decide) (n := 77) rfl (by decide) dX5_goesOn_30 ?_
    refine lv_icmp_ge (tgt := 101) hx hb dX5_goesOn_31 (by decide) (fun c31 => ?_) (fun c31 => ?_)
    · replace h := o_t c31 h
      exact J101 T_24 _ _ _ hw (lv_sub hl [0] rfl) h
    · replace h := o_f c31 h
      refine lv_aload_n hx hb dX5_goesOn_34 rfl (lv_at hl 0 rfl) ?_
      refine lv_iload_n hx hb dX5_goesOn_35 rfl (lv_at hl 3 rfl) ?_
      obtain ⟨q36, eq36, h⟩ := o_bd h
      refine kV (As := [.int x3_24]) (rest := []) (st' := [.int q36]) ⟨hx, hb, hml, hown, hts⟩ (kX5_isHome l G eq36) (cwV 1 hts gX5_goesOn_X5_isHome rfl rfl rfl qqX5_isHome ⟨Nat.le_of_ble_eq_true rfl, Nat.le_of_ble_eq_true rfl⟩) hw (rvMd hw) rfl hl.1 rfl (Nat.le_of_ble_eq_true rfl) dX5_goesOn_36 ⟨Nat.zero_le _, Nat.zero_le _⟩ rfl (fun H locs hw => ?_)
      obtain ⟨k53, ek53, h⟩ := o_nm h
      have J53 : ∀ (y0_53 : Int32) (H : Heap) (locs : List Loc) (ls : Array Slot), sHw G s S T_24 H locs → lv_has ls 7 [(0, .ref (sA G 9 0)), (1, .int q1), (2, .int q18), (3, .int x3_24)] → k53 y0_53 = some q → W p l e rmX5_goesOn s m args below meth c H locs 0 0 Q (F0 m 53 ls [.int y0_53]) := by
        intro y0_53 H locs ls hw hl h
        replace h := o_j1 ek53 h
        refine lv_istore (lv' := [(4, .int y0_53), (0, .ref (sA G 9 0)), (1, .int q1), (2, .int q18), (3, .int x3_24)]) hx hb dX5_goesOn_53 hl (by decide) rfl (fun ls hl => ?_)
        refine lv_aload_n hx hb dX5_goesOn_55 rfl (lv_at hl 1 rfl) ?_
        refine gMd (v := .ref (sA G 9 8)) hx hb hts hiX5 hown hw 10 (by decide) (hts (.fieldLink RX5 35 "SecondHomeModel" "runs" "[I") (by decide +kernel)) rfl dX5_goesOn_56 ?_
        refine lv_iload_n hx hb dX5_goesOn_59 rfl (lv_at hl 4 rfl) ?_
        refine lv_aload_n hx hb dX5_goesOn_60 rfl (lv_at hl 1 rfl) ?_
        refine lv_iload_n hx hb dX5_goesOn_61 rfl (lv_at hl 4 rfl) ?_
        obtain ⟨q62, eq62, h⟩ := o_bd h
        refine kV (As := [.int x3_24]) (rest := [.int x3_24, .ref (sA G 9 8)]) (st' := [.int q62, .int x3_24, .ref (sA G 9 8)]) ⟨hx, hb, hml, hown, hts⟩ (kX5_isHome l G eq62) (cwV 1 hts gX5_goesOn_X5_isHome rfl rfl rfl qqX5_isHome ⟨Nat.le_of_ble_eq_true rfl, Nat.le_of_ble_eq_true rfl⟩) hw (rvMd hw) rfl hl.1 rfl (Nat.le_of_ble_eq_true rfl) dX5_goesOn_62 ⟨Nat.zero_le _, Nat.zero_le _⟩ rfl (fun H locs hw => ?_)
        refine lv_if_eq (tgt := 72) hx hb dX5_goesOn_65 (by decide) (fun c65 => ?_) (fun c65 => ?_)
        · replace h := o_t c65 h
          refine lv_iload hx hb dX5_goesOn_72 (lv_at hl 0 rfl) ?_
          refine lv_aload_n hx hb dX5_goesOn_74 rfl (lv_at hl 1 rfl) ?_
          refine gMd (v := .ref (sA G 9 1)) hx hb hts hiX5 hown hw 0 (by decide) (hts (.fieldLink RX5 7 "SecondHomeModel" "s" "[I") (by decide +kernel)) rfl dX5_goesOn_75 ?_
          refine lv_iconst (v := 2) hx hb dX5_goesOn_78 (by decide) ?_
          refine ldMd hx hb hw 0 (by decide) (n := 77) rfl (by decide) dX5_goesOn_79 ?_
          refine lv_icmp_ge (tgt := 92) hx hb dX5_goesOn_80 (by decide) (fun c80 => ?_) (fun c80 => ?_)
          · replace h := o_t c80 h
            refine lv_iload hx hb dX5_goesOn_92 (lv_at hl 0 rfl) ?_
            obtain ⟨b94, h⟩ := o_in h
            refine stMd hx hb hw 7 (by decide) (n := 9) rfl b94 dX5_goesOn_94 rfl (fun H locs hw => ?_)
            obtain ⟨M94, eM94, h⟩ := o_nm h
            rw [← eM94] at hw
            obtain ⟨v95, ev95, h⟩ := o_nm h
            refine lv_iinc (v := v95) (lv' := [(3, .int v95), (4, .int y0_53), (0, .ref (sA G 9 0)), (1, .int q1), (2, .int q18)]) hx hb dX5_goesOn_95 hl (k := 4) rfl (by rw [ev95]; rfl) (by decide) rfl (fun ls hl => ?_)
            refine lv_goto (tgt := 24) hx hb dX5_goesOn_98 (by decide) ?_
            exact IH24 v95 M94 h _ _ _ hw (lv_sub hl [2, 3, 4, 0] rfl)
          · replace h := o_f c80 h
            refine lv_aload_n hx hb dX5_goesOn_83 rfl (lv_at hl 1 rfl) ?_
            refine gMd (v := .ref (sA G 9 1)) hx hb hts hiX5 hown hw 0 (by decide) (hts (.fieldLink RX5 7 "SecondHomeModel" "s" "[I") (by decide +kernel)) rfl dX5_goesOn_84 ?_
            refine lv_iconst (v := 2) hx hb dX5_goesOn_87 (by decide) ?_
            refine ldMd hx hb hw 0 (by decide) (n := 77) rfl (by decide) dX5_goesOn_88 ?_
            refine lv_goto (tgt := 94) hx hb dX5_goesOn_89 (by decide) ?_
            obtain ⟨b94, h⟩ := o_in h
            refine stMd hx hb hw 7 (by decide) (n := 9) rfl b94 dX5_goesOn_94 rfl (fun H locs hw => ?_)
            obtain ⟨M94, eM94, h⟩ := o_nm h
            rw [← eM94] at hw
            obtain ⟨v95, ev95, h⟩ := o_nm h
            refine lv_iinc (v := v95) (lv' := [(3, .int v95), (4, .int y0_53), (0, .ref (sA G 9 0)), (1, .int q1), (2, .int q18)]) hx hb dX5_goesOn_95 hl (k := 4) rfl (by rw [ev95]; rfl) (by decide) rfl (fun ls hl => ?_)
            refine lv_goto (tgt := 24) hx hb dX5_goesOn_98 (by decide) ?_
            exact IH24 v95 M94 h _ _ _ hw (lv_sub hl [2, 3, 4, 0] rfl)
        · replace h := o_f c65 h
          refine lv_iconst (v := 0) hx hb dX5_goesOn_68 (by decide) ?_
          refine lv_goto (tgt := 94) hx hb dX5_goesOn_69 (by decide) ?_
          obtain ⟨b94, h⟩ := o_in h
          refine stMd hx hb hw 7 (by decide) (n := 9) rfl b94 dX5_goesOn_94 rfl (fun H locs hw => ?_)
          obtain ⟨M94, eM94, h⟩ := o_nm h
          rw [← eM94] at hw
          obtain ⟨v95, ev95, h⟩ := o_nm h
          refine lv_iinc (v := v95) (lv' := [(3, .int v95), (4, .int y0_53), (0, .ref (sA G 9 0)), (1, .int q1), (2, .int q18)]) hx hb dX5_goesOn_95 hl (k := 4) rfl (by rw [ev95]; rfl) (by decide) rfl (fun ls hl => ?_)
          refine lv_goto (tgt := 24) hx hb dX5_goesOn_98 (by decide) ?_
          exact IH24 v95 M94 h _ _ _ hw (lv_sub hl [2, 3, 4, 0] rfl)
      refine lv_if_eq (tgt := 46) hx hb dX5_goesOn_39 (by decide) (fun c39 => ?_) (fun c39 => ?_)
      · replace h := o_t c39 h
        refine lv_aload_n hx hb dX5_goesOn_46 rfl (lv_at hl 0 rfl) ?_
        refine lv_iload_n hx hb dX5_goesOn_47 rfl (lv_at hl 3 rfl) ?_
        refine lv_iload_n hx hb dX5_goesOn_48 rfl (lv_at hl 2 rfl) ?_
        refine lv_iload_n hx hb dX5_goesOn_49 rfl (lv_at hl 1 rfl) ?_
        obtain ⟨q50, eq50, h⟩ := o_bd h
        refine kV (As := [.int x3_24, .int q18, .int q1]) (rest := []) (st' := [.int q50]) ⟨hx, hb, hml, hown, hts⟩ (kX5_wishOf l G eq50) (cwV 3 hts gX5_goesOn_X5_wishOf rfl rfl rfl qqX5_wishOf ⟨Nat.le_of_ble_eq_true rfl, Nat.le_of_ble_eq_true rfl⟩) hw (rvMd hw) rfl hl.1 rfl (Nat.le_of_ble_eq_true rfl) dX5_goesOn_50 ⟨Nat.zero_le _, Nat.zero_le _⟩ rfl (fun H locs hw => ?_)
        exact J53 q50 _ _ _ hw (lv_sub hl [0, 1, 2, 3] rfl) h
      · replace h := o_f c39 h
        refine lv_iconst (v := 0) hx hb dX5_goesOn_42 (by decide) ?_
        refine lv_goto (tgt := 53) hx hb dX5_goesOn_43 (by decide) ?_
        exact J53 (0 : Int32) _ _ _ hw (lv_sub hl [0, 1, 2, 3] rfl) h
  · replace h := o_t c12 h
    refine lv_iconst (v := 0) hx hb dX5_goesOn_15 (by decide) ?_
    exact rI hQ hx hb hr hlk hw dX5_goesOn_16 (o_2a h) rfl (o_2b h)
-- X5_seconds
def bX5_seconds_23 (a1 : Int32) (rc23 : Int32 → Int32 → sOb → Option (Int32 × sOb)) (x2_23 : Int32) (x3_23 : Int32) (T_23 : sOb) : Option (Int32 × sOb) :=
  if a1 ≤ x3_23 then (some (x2_23, T_23)) else ((fX5_goesOn T_23).bind fun q30 => nm (x2_23 + q30.1) fun v34 => nm (x3_23 + (1 : Int32)) fun v35 => rc23 v34 v35 q30.2)
def fX5_seconds (M : sOb) (a1 : Int32) : Option (Int32 × sOb) :=
  (fX5_isIn a1.toInt64 (1 : Int64) (600 : Int64)).bind fun q6 => if q6 = 0 then ((fX5_finds M (-1000000001 : Int32)).bind fun q15 => some (q15.1, q15.2)) else (fx3 (bX5_seconds_23 a1) FU (0 : Int32) (0 : Int32) M)
def rmX5_seconds : Room := { frames := 5, cells := 0, slots := 0, locals := 116 }
theorem qqX5_seconds : yX5_seconds.cls = RX5 ∧ yX5_seconds.cls ≠ "java/lang/invoke/MethodHandle" ∧ yX5_seconds.cls ≠ "java/lang/invoke/VarHandle" ∧ (parseMethodDescriptor yX5_seconds.desc).map (fun d => d.parameters.length) = some 1 := by decide +kernel
set_option maxRecDepth 100000 in
set_option maxHeartbeats 4000000 in
theorem kX5_seconds (l : Launch) (G : sGl) {S : sWo} {M : sOb} {a1 : Int32} {q : (Int32 × sOb)}  (h : fX5_seconds M a1 = some q) : sCt l G yX5_seconds wsX5_seconds rmX5_seconds [.ref (sA G 9 0), .int a1] S M (some (.int q.1)) S q.2 := by
  refine cMk (cc := cX5_seconds) (maxL := 4) (ret := (some .int)) (by decide) rfl (Nat.le_of_ble_eq_true rfl) ?_
  intro p e s m args below meth c Q hQ hx hb hr hlk hml hown hts hw ls hl
  have hown : s.vm.findClass RX5 = some m.cls := hown
  have hl : lv_has ls 4 [(0, .ref (sA G 9 0)), (1, .int a1)] := hl
  unfold fX5_seconds at h
  refine lv_iload_n hx hb dX5_seconds_0 rfl (lv_at hl 1 rfl) ?_
  refine lv_i2l hx hb dX5_seconds_1 rfl ?_
  refine lv_lconst (v := 1) hx hb dX5_seconds_2 (by decide) ?_
  refine lv_ldc2 (v := 600) hx hb hown (hts (.constantLong RX5 122 (600)) (by decide +kernel)) dX5_seconds_3 ?_
  obtain ⟨q6, eq6, h⟩ := o_bd h
  refine kS (As := [.long a1.toInt64, .long (1 : Int64), .long (600 : Int64)]) (rest := []) (st' := [.int q6]) ⟨hx, hb, hml, hown, hts⟩ (kX5_isIn l G eq6) (va_cwS 3 hts gX5_seconds_X5_isIn rfl rfl rfl qqX5_isIn ⟨Nat.le_of_ble_eq_true rfl, Nat.le_of_ble_eq_true rfl⟩) hw rfl hl.1 rfl (Nat.le_of_ble_eq_true rfl) dX5_seconds_6 ⟨Nat.zero_le _, Nat.zero_le _⟩ rfl (fun H locs hw => ?_)
  refine lv_if_ne (tgt := 19) hx hb dX5_seconds_9 (by decide) (fun c9 => ?_) (fun c9 => ?_)
  · replace h := o_f c9 h
    refine lv_iconst (v := 0) hx hb dX5_seconds_19 (by decide) ?_
    refine lv_istore_n (lv' := [(2, .int (0 : Int32)), (0, .ref (sA G 9 0)), (1, .int a1)]) hx hb dX5_seconds_20 rfl hl (by decide) rfl (fun ls hl => ?_)
    refine lv_iconst (v := 0) hx hb dX5_seconds_21 (by decide) ?_
    refine lv_istore_n (lv' := [(3, .int (0 : Int32)), (2, .int (0 : Int32)), (0, .ref (sA G 9 0)), (1, .int a1)]) hx hb dX5_seconds_22 rfl hl (by decide) rfl (fun ls hl => ?_)
    refine fx3_w (F := (bX5_seconds_23 a1)) (P := fun x2_23 x3_23 T_23 => ∀ (H : Heap) (locs : List Loc) (ls : Array Slot), sHw G s S T_23 H locs → lv_has ls 4 [(0, .ref (sA G 9 0)), (1, .int a1), (2, .int x2_23), (3, .int x3_23)] → W p l e rmX5_seconds s m args below meth c H locs 0 0 Q (F0 m 23 ls [])) ?_ _ _ _ _ h _ _ _ hw (lv_sub hl [2, 3, 1, 0] rfl)
    intro rc23 IH23 x2_23 x3_23 T_23 h H locs ls hw hl
    unfold bX5_seconds_23 at h
    refine lv_iload_n hx hb dX5_seconds_23 rfl (lv_at hl 3 rfl) ?_
    refine lv_iload_n hx hb dX5_seconds_24 rfl (lv_at hl 1 rfl) ?_
    refine lv_icmp_ge (tgt := 41) hx hb dX5_seconds_25 (by decide) (fun c25 => ?_) (fun c25 => ?_)
    · replace h := o_t c25 h
      refine lv_iload_n hx hb dX5_seconds_41 rfl (lv_at hl 2 rfl) ?_
      exact rI hQ hx hb hr hlk hw dX5_seconds_42 (o_2a h) rfl (o_2b h)
    · replace h := o_f c25 h
      refine lv_iload_n hx hb dX5_seconds_28 rfl (lv_at hl 2 rfl) ?_
      refine lv_aload_n hx hb dX5_seconds_29 rfl (lv_at hl 0 rfl) ?_
      obtain ⟨q30, eq30, h⟩ := o_bd h
      refine kV (As := []) (rest := [.int x2_23]) (st' := [.int q30.1, .int x2_23]) ⟨hx, hb, hml, hown, hts⟩ (kX5_goesOn l G eq30) (cwV 0 hts gX5_seconds_X5_goesOn rfl rfl rfl qqX5_goesOn ⟨Nat.le_of_ble_eq_true rfl, Nat.le_of_ble_eq_true rfl⟩) hw (rvMd hw) rfl hl.1 rfl (Nat.le_of_ble_eq_true rfl) dX5_seconds_30 ⟨Nat.zero_le _, Nat.zero_le _⟩ rfl (fun H locs hw => ?_)
      refine lv_iadd hx hb dX5_seconds_33 ?_
      refine lv_topi (fun v34 ev34 => ?_)
      replace h := o_nx ev34 h
      refine lv_istore_n (lv' := [(2, .int v34), (0, .ref (sA G 9 0)), (1, .int a1), (3, .int x3_23)]) hx hb dX5_seconds_34 rfl hl (by decide) rfl (fun ls hl => ?_)
      obtain ⟨v35, ev35, h⟩ := o_nm h
      refine lv_iinc (v := v35) (lv' := [(3, .int v35), (2, .int v34), (0, .ref (sA G 9 0)), (1, .int a1)]) hx hb dX5_seconds_35 hl (k := 3) rfl (by rw [ev35]; rfl) (by decide) rfl (fun ls hl => ?_)
      refine lv_goto (tgt := 23) hx hb dX5_seconds_38 (by decide) ?_
      exact IH23 v34 v35 q30.2 h _ _ _ hw (lv_sub hl [2, 3, 1, 0] rfl)
  · replace h := o_t c9 h
    refine lv_aload_n hx hb dX5_seconds_12 rfl (lv_at hl 0 rfl) ?_
    refine lv_ldc (v := -1000000001) hx hb hown (hts (.constant RX5 38 (-1000000001)) (by decide +kernel)) dX5_seconds_13 ?_
    obtain ⟨q15, eq15, h⟩ := o_bd h
    refine kV (As := [.int (-1000000001 : Int32)]) (rest := []) (st' := [.int q15.1]) ⟨hx, hb, hml, hown, hts⟩ (kX5_finds l G eq15) (cwV 1 hts gX5_seconds_X5_finds rfl rfl rfl qqX5_finds ⟨Nat.le_of_ble_eq_true rfl, Nat.le_of_ble_eq_true rfl⟩) hw (rvMd hw) rfl hl.1 rfl (Nat.le_of_ble_eq_true rfl) dX5_seconds_15 ⟨Nat.zero_le _, Nat.zero_le _⟩ rfl (fun H locs hw => ?_)
    exact rI hQ hx hb hr hlk hw dX5_seconds_18 (o_2a h) rfl (o_2b h)
-- X5_now
def fX5_now (M : sOb) (a1 : Int32) : Option (Int32 × sOb) :=
  if a1 = (0 : Int32) then (some ((M.2.1 0 (4 : Int32).toNatClampNeg), M)) else if a1 = (1 : Int32) then (some ((M.2.1 0 (1 : Int32).toNatClampNeg), M)) else if a1 = (2 : Int32) then (some ((M.2.1 0 (2 : Int32).toNatClampNeg), M)) else if a1 = (3 : Int32) then (some ((M.2.1 0 (3 : Int32).toNatClampNeg), M)) else if a1 = (4 : Int32) then ((fX5_homeMany M).bind fun q65 => some (q65, M)) else ((fX5_finds M (-1000000001 : Int32)).bind fun q72 => some (q72.1, q72.2))
def rmX5_now : Room := { frames := 3, cells := 0, slots := 0, locals := 65 }
theorem qqX5_now : yX5_now.cls = RX5 ∧ yX5_now.cls ≠ "java/lang/invoke/MethodHandle" ∧ yX5_now.cls ≠ "java/lang/invoke/VarHandle" ∧ (parseMethodDescriptor yX5_now.desc).map (fun d => d.parameters.length) = some 1 := by decide +kernel
set_option maxRecDepth 100000 in
set_option maxHeartbeats 4000000 in
theorem kX5_now (l : Launch) (G : sGl) {S : sWo} {M : sOb} {a1 : Int32} {q : (Int32 × sOb)}  (h : fX5_now M a1 = some q) : sCt l G yX5_now wsX5_now rmX5_now [.ref (sA G 9 0), .int a1] S M (some (.int q.1)) S q.2 := by
  refine cMk (cc := cX5_now) (maxL := 2) (ret := (some .int)) (by decide) rfl (Nat.le_of_ble_eq_true rfl) ?_
  intro p e s m args below meth c Q hQ hx hb hr hlk hml hown hts hw ls hl
  have hown : s.vm.findClass RX5 = some m.cls := hown
  have hl : lv_has ls 2 [(0, .ref (sA G 9 0)), (1, .int a1)] := hl
  have hiX5 : ∀ w ∈ u_ws RX5 TX5 15, w ∈ wsX5_now := by decide +kernel
  unfold fX5_now at h
  refine lv_iload_n hx hb dX5_now_0 rfl (lv_at hl 1 rfl) ?_
  by_cases c1_0 : a1 = (0 : Int32)
  · replace h := o_t c1_0 h
    refine lv_tableIn (tgt := 36) hx hb dX5_now_1 (by rw [c1_0]; decide) (by rw [c1_0]; decide) (by rw [c1_0]; rfl) (by decide) ?_
    refine lv_aload_n hx hb dX5_now_36 rfl (lv_at hl 0 rfl) ?_
    refine gMd (v := .ref (sA G 9 1)) hx hb hts hiX5 hown hw 0 (by decide) (hts (.fieldLink RX5 7 "SecondHomeModel" "s" "[I") (by decide +kernel)) rfl dX5_now_37 ?_
    refine lv_iconst (v := 4) hx hb dX5_now_40 (by decide) ?_
    refine ldMd hx hb hw 0 (by decide) (n := 77) rfl (by decide) dX5_now_41 ?_
    exact rI hQ hx hb hr hlk hw dX5_now_42 (o_2a h) rfl (o_2b h)
  replace h := o_f c1_0 h
  by_cases c1_1 : a1 = (1 : Int32)
  · replace h := o_t c1_1 h
    refine lv_tableIn (tgt := 43) hx hb dX5_now_1 (by rw [c1_1]; decide) (by rw [c1_1]; decide) (by rw [c1_1]; rfl) (by decide) ?_
    refine lv_aload_n hx hb dX5_now_43 rfl (lv_at hl 0 rfl) ?_
    refine gMd (v := .ref (sA G 9 1)) hx hb hts hiX5 hown hw 0 (by decide) (hts (.fieldLink RX5 7 "SecondHomeModel" "s" "[I") (by decide +kernel)) rfl dX5_now_44 ?_
    refine lv_iconst (v := 1) hx hb dX5_now_47 (by decide) ?_
    refine ldMd hx hb hw 0 (by decide) (n := 77) rfl (by decide) dX5_now_48 ?_
    exact rI hQ hx hb hr hlk hw dX5_now_49 (o_2a h) rfl (o_2b h)
  replace h := o_f c1_1 h
  by_cases c1_2 : a1 = (2 : Int32)
  · replace h := o_t c1_2 h
    refine lv_tableIn (tgt := 50) hx hb dX5_now_1 (by rw [c1_2]; decide) (by rw [c1_2]; decide) (by rw [c1_2]; rfl) (by decide) ?_
    refine lv_aload_n hx hb dX5_now_50 rfl (lv_at hl 0 rfl) ?_
    refine gMd (v := .ref (sA G 9 1)) hx hb hts hiX5 hown hw 0 (by decide) (hts (.fieldLink RX5 7 "SecondHomeModel" "s" "[I") (by decide +kernel)) rfl dX5_now_51 ?_
    refine lv_iconst (v := 2) hx hb dX5_now_54 (by decide) ?_
    refine ldMd hx hb hw 0 (by decide) (n := 77) rfl (by decide) dX5_now_55 ?_
    exact rI hQ hx hb hr hlk hw dX5_now_56 (o_2a h) rfl (o_2b h)
  replace h := o_f c1_2 h
  by_cases c1_3 : a1 = (3 : Int32)
  · replace h := o_t c1_3 h
    refine lv_tableIn (tgt := 57) hx hb dX5_now_1 (by rw [c1_3]; decide) (by rw [c1_3]; decide) (by rw [c1_3]; rfl) (by decide) ?_
    refine lv_aload_n hx hb dX5_now_57 rfl (lv_at hl 0 rfl) ?_
    refine gMd (v := .ref (sA G 9 1)) hx hb hts hiX5 hown hw 0 (by decide) (hts (.fieldLink RX5 7 "SecondHomeModel" "s" "[I") (by decide +kernel)) rfl dX5_now_58 ?_
    refine lv_iconst (v := 3) hx hb dX5_now_61 (by decide) ?_
    refine ldMd hx hb hw 0 (by decide) (n := 77) rfl (by decide) dX5_now_62 ?_
    exact rI hQ hx hb hr hlk hw dX5_now_63 (o_2a h) rfl (o_2b h)
  replace h := o_f c1_3 h
  by_cases c1_4 : a1 = (4 : Int32)
  · replace h := o_t c1_4 h
    refine lv_tableIn (tgt := 64) hx hb dX5_now_1 (by rw [c1_4]; decide) (by rw [c1_4]; decide) (by rw [c1_4]; rfl) (by decide) ?_
    refine lv_aload_n hx hb dX5_now_64 rfl (lv_at hl 0 rfl) ?_
    obtain ⟨q65, eq65, h⟩ := o_bd h
    refine kV (As := []) (rest := []) (st' := [.int q65]) ⟨hx, hb, hml, hown, hts⟩ (kX5_homeMany l G eq65) (cwV 0 hts gX5_now_X5_homeMany rfl rfl rfl qqX5_homeMany ⟨Nat.le_of_ble_eq_true rfl, Nat.le_of_ble_eq_true rfl⟩) hw (rvMd hw) rfl hl.1 rfl (Nat.le_of_ble_eq_true rfl) dX5_now_65 ⟨Nat.zero_le _, Nat.zero_le _⟩ rfl (fun H locs hw => ?_)
    exact rI hQ hx hb hr hlk hw dX5_now_68 (o_2a h) rfl (o_2b h)
  replace h := o_f c1_4 h
  have sw1 : a1.toInt < 0 ∨ 4 < a1.toInt := by
    have z0 := sw_ne c1_0
    have z1 := sw_ne c1_1
    have z2 := sw_ne c1_2
    have z3 := sw_ne c1_3
    have z4 := sw_ne c1_4
    rw [show ((0 : Int32)).toInt = 0 from rfl] at z0
    rw [show ((1 : Int32)).toInt = 1 from rfl] at z1
    rw [show ((2 : Int32)).toInt = 2 from rfl] at z2
    rw [show ((3 : Int32)).toInt = 3 from rfl] at z3
    rw [show ((4 : Int32)).toInt = 4 from rfl] at z4
    omega
  refine lv_tableOut (tgt := 69) hx hb dX5_now_1 sw1 (by decide) ?_
  refine lv_aload_n hx hb dX5_now_69 rfl (lv_at hl 0 rfl) ?_
  refine lv_ldc (v := -1000000001) hx hb hown (hts (.constant RX5 38 (-1000000001)) (by decide +kernel)) dX5_now_70 ?_
  obtain ⟨q72, eq72, h⟩ := o_bd h
  refine kV (As := [.int (-1000000001 : Int32)]) (rest := []) (st' := [.int q72.1]) ⟨hx, hb, hml, hown, hts⟩ (kX5_finds l G eq72) (cwV 1 hts gX5_now_X5_finds rfl rfl rfl qqX5_finds ⟨Nat.le_of_ble_eq_true rfl, Nat.le_of_ble_eq_true rfl⟩) hw (rvMd hw) rfl hl.1 rfl (Nat.le_of_ble_eq_true rfl) dX5_now_72 ⟨Nat.zero_le _, Nat.zero_le _⟩ rfl (fun H locs hw => ?_)
  exact rI hQ hx hb hr hlk hw dX5_now_75 (o_2a h) rfl (o_2b h)
-- X5_whoIs
def bX5_whoIs_2 (M : sOb) (a1 : Int32) (rc2 : Int32 → Option Int32) (x2_2 : Int32) : Option Int32 :=
  if (M.2.1 0 (0 : Int32).toNatClampNeg) ≤ x2_2 then (some (-1 : Int32)) else ((fX5_placeOf M x2_2).bind fun q14 => if q14 = a1 then (some x2_2) else (nm (x2_2 + (1 : Int32)) fun v23 => rc2 v23))
def fX5_whoIs (M : sOb) (a1 : Int32) : Option Int32 :=
  fx1 (bX5_whoIs_2 M a1) FU (0 : Int32)
def rmX5_whoIs : Room := { frames := 4, cells := 0, slots := 0, locals := 88 }
theorem qqX5_whoIs : yX5_whoIs.cls = RX5 ∧ yX5_whoIs.cls ≠ "java/lang/invoke/MethodHandle" ∧ yX5_whoIs.cls ≠ "java/lang/invoke/VarHandle" ∧ (parseMethodDescriptor yX5_whoIs.desc).map (fun d => d.parameters.length) = some 1 := by decide +kernel
set_option maxRecDepth 100000 in
set_option maxHeartbeats 4000000 in
theorem kX5_whoIs (l : Launch) (G : sGl) {S : sWo} {M : sOb} {a1 : Int32} {q : Int32}  (h : fX5_whoIs M a1 = some q) : sCt l G yX5_whoIs wsX5_whoIs rmX5_whoIs [.ref (sA G 9 0), .int a1] S M (some (.int q)) S M := by
  refine cMk (cc := cX5_whoIs) (maxL := 3) (ret := (some .int)) (by decide) rfl (Nat.le_of_ble_eq_true rfl) ?_
  intro p e s m args below meth c Q hQ hx hb hr hlk hml hown hts hw ls hl
  have hown : s.vm.findClass RX5 = some m.cls := hown
  have hl : lv_has ls 3 [(0, .ref (sA G 9 0)), (1, .int a1)] := hl
  have hiX5 : ∀ w ∈ u_ws RX5 TX5 15, w ∈ wsX5_whoIs := by decide +kernel
  unfold fX5_whoIs at h
  refine lv_iconst (v := 0) hx hb dX5_whoIs_0 (by decide) ?_
  refine lv_istore_n (lv' := [(2, .int (0 : Int32)), (0, .ref (sA G 9 0)), (1, .int a1)]) hx hb dX5_whoIs_1 rfl hl (by decide) rfl (fun ls hl => ?_)
  refine fx1_w (F := (bX5_whoIs_2 M a1)) (P := fun x2_2 => ∀ (H : Heap) (locs : List Loc) (ls : Array Slot), sHw G s S M H locs → lv_has ls 3 [(0, .ref (sA G 9 0)), (1, .int a1), (2, .int x2_2)] → W p l e rmX5_whoIs s m args below meth c H locs 0 0 Q (F0 m 2 ls [])) ?_ _ _ h _ _ _ hw (lv_sub hl [1, 2, 0] rfl)
  intro rc2 IH2 x2_2 h H locs ls hw hl
  unfold bX5_whoIs_2 at h
  refine lv_iload_n hx hb dX5_whoIs_2 rfl (lv_at hl 2 rfl) ?_
  refine lv_aload_n hx hb dX5_whoIs_3 rfl (lv_at hl 0 rfl) ?_
  refine gMd (v := .ref (sA G 9 1)) hx hb hts hiX5 hown hw 0 (by decide) (hts (.fieldLink RX5 7 "SecondHomeModel" "s" "[I") (by decide +kernel)) rfl dX5_whoIs_4 ?_
  refine lv_iconst (v := 0) hx hb dX5_whoIs_7 (by decide) ?_
  refine ldMd hx hb hw 0 (by decide) (n := 77) rfl (by decide) dX5_whoIs_8 ?_
  refine lv_icmp_ge (tgt := 29) hx hb dX5_whoIs_9 (by decide) (fun c9 => ?_) (fun c9 => ?_)
  · replace h := o_t c9 h
    refine lv_iconst (v := -1) hx hb dX5_whoIs_29 (by decide) ?_
    exact rI hQ hx hb hr hlk hw dX5_whoIs_30 (o_1 h) rfl rfl
  · replace h := o_f c9 h
    refine lv_aload_n hx hb dX5_whoIs_12 rfl (lv_at hl 0 rfl) ?_
    refine lv_iload_n hx hb dX5_whoIs_13 rfl (lv_at hl 2 rfl) ?_
    obtain ⟨q14, eq14, h⟩ := o_bd h
    refine kV (As := [.int x2_2]) (rest := []) (st' := [.int q14]) ⟨hx, hb, hml, hown, hts⟩ (kX5_placeOf l G eq14) (cwV 1 hts gX5_whoIs_X5_placeOf rfl rfl rfl qqX5_placeOf ⟨Nat.le_of_ble_eq_true rfl, Nat.le_of_ble_eq_true rfl⟩) hw (rvMd hw) rfl hl.1 rfl (Nat.le_of_ble_eq_true rfl) dX5_whoIs_14 ⟨Nat.zero_le _, Nat.zero_le _⟩ rfl (fun H locs hw => ?_)
    refine lv_iload_n hx hb dX5_whoIs_17 rfl (lv_at hl 1 rfl) ?_
    refine lv_icmp_ne (tgt := 23) hx hb dX5_whoIs_18 (by decide) (fun c18 => ?_) (fun c18 => ?_)
    · replace h := o_f c18 h
      obtain ⟨v23, ev23, h⟩ := o_nm h
      refine lv_iinc (v := v23) (lv' := [(2, .int v23), (0, .ref (sA G 9 0)), (1, .int a1)]) hx hb dX5_whoIs_23 hl (k := 2) rfl (by rw [ev23]; rfl) (by decide) rfl (fun ls hl => ?_)
      refine lv_goto (tgt := 2) hx hb dX5_whoIs_26 (by decide) ?_
      exact IH2 v23 h _ _ _ hw (lv_sub hl [1, 2, 0] rfl)
    · replace h := o_t c18 h
      refine lv_iload_n hx hb dX5_whoIs_21 rfl (lv_at hl 2 rfl) ?_
      exact rI hQ hx hb hr hlk hw dX5_whoIs_22 (o_1 h) rfl rfl
-- X5_place
def fX5_place (M : sOb) (a1 : Int32) : Option (Int32 × sOb) :=
  (fX5_isRunner M a1).bind fun q2 => if q2 = 0 then ((fX5_finds M (-1000000001 : Int32)).bind fun q19 => some (q19.1, q19.2)) else ((fX5_whoIs M a1).bind fun q10 => some (q10, M))
def rmX5_place : Room := { frames := 5, cells := 0, slots := 0, locals := 110 }
theorem qqX5_place : yX5_place.cls = RX5 ∧ yX5_place.cls ≠ "java/lang/invoke/MethodHandle" ∧ yX5_place.cls ≠ "java/lang/invoke/VarHandle" ∧ (parseMethodDescriptor yX5_place.desc).map (fun d => d.parameters.length) = some 1 := by decide +kernel
set_option maxRecDepth 100000 in
set_option maxHeartbeats 4000000 in
theorem kX5_place (l : Launch) (G : sGl) {S : sWo} {M : sOb} {a1 : Int32} {q : (Int32 × sOb)}  (h : fX5_place M a1 = some q) : sCt l G yX5_place wsX5_place rmX5_place [.ref (sA G 9 0), .int a1] S M (some (.int q.1)) S q.2 := by
  refine cMk (cc := cX5_place) (maxL := 2) (ret := (some .int)) (by decide) rfl (Nat.le_of_ble_eq_true rfl) ?_
  intro p e s m args below meth c Q hQ hx hb hr hlk hml hown hts hw ls hl
  have hown : s.vm.findClass RX5 = some m.cls := hown
  have hl : lv_has ls 2 [(0, .ref (sA G 9 0)), (1, .int a1)] := hl
  unfold fX5_place at h
  refine lv_aload_n hx hb dX5_place_0 rfl (lv_at hl 0 rfl) ?_
  refine lv_iload_n hx hb dX5_place_1 rfl (lv_at hl 1 rfl) ?_
  obtain ⟨q2, eq2, h⟩ := o_bd h
  refine kV (As := [.int a1]) (rest := []) (st' := [.int q2]) ⟨hx, hb, hml, hown, hts⟩ (kX5_isRunner l G eq2) (cwV 1 hts gX5_place_X5_isRunner rfl rfl rfl qqX5_isRunner ⟨Nat.le_of_ble_eq_true rfl, Nat.le_of_ble_eq_true rfl⟩) hw (rvMd hw) rfl hl.1 rfl (Nat.le_of_ble_eq_true rfl) dX5_place_2 ⟨Nat.zero_le _, Nat.zero_le _⟩ rfl (fun H locs hw => ?_)
  refine lv_if_eq (tgt := 16) hx hb dX5_place_5 (by decide) (fun c5 => ?_) (fun c5 => ?_)
  · replace h := o_t c5 h
    refine lv_aload_n hx hb dX5_place_16 rfl (lv_at hl 0 rfl) ?_
    refine lv_ldc (v := -1000000001) hx hb hown (hts (.constant RX5 38 (-1000000001)) (by decide +kernel)) dX5_place_17 ?_
    obtain ⟨q19, eq19, h⟩ := o_bd h
    refine kV (As := [.int (-1000000001 : Int32)]) (rest := []) (st' := [.int q19.1]) ⟨hx, hb, hml, hown, hts⟩ (kX5_finds l G eq19) (cwV 1 hts gX5_place_X5_finds rfl rfl rfl qqX5_finds ⟨Nat.le_of_ble_eq_true rfl, Nat.le_of_ble_eq_true rfl⟩) hw (rvMd hw) rfl hl.1 rfl (Nat.le_of_ble_eq_true rfl) dX5_place_19 ⟨Nat.zero_le _, Nat.zero_le _⟩ rfl (fun H locs hw => ?_)
    exact rI hQ hx hb hr hlk hw dX5_place_22 (o_2a h) rfl (o_2b h)
  · replace h := o_f c5 h
    refine lv_aload_n hx hb dX5_place_8 rfl (lv_at hl 0 rfl) ?_
    refine lv_iload_n hx hb dX5_place_9 rfl (lv_at hl 1 rfl) ?_
    obtain ⟨q10, eq10, h⟩ := o_bd h
    refine kV (As := [.int a1]) (rest := []) (st' := [.int q10]) ⟨hx, hb, hml, hown, hts⟩ (kX5_whoIs l G eq10) (cwV 1 hts gX5_place_X5_whoIs rfl rfl rfl qqX5_whoIs ⟨Nat.le_of_ble_eq_true rfl, Nat.le_of_ble_eq_true rfl⟩) hw (rvMd hw) rfl hl.1 rfl (Nat.le_of_ble_eq_true rfl) dX5_place_10 ⟨Nat.zero_le _, Nat.zero_le _⟩ rfl (fun H locs hw => ?_)
    refine lv_goto (tgt := 22) hx hb dX5_place_13 (by decide) ?_
    exact rI hQ hx hb hr hlk hw dX5_place_22 (o_2a h) rfl (o_2b h)
-- X5_prizeOf
def fX5_prizeOf (M : sOb) (a1 : Int32) : Option Int32 :=
  if a1 = 0 then ((fX5_whoIs M (0 : Int32)).bind fun q44 => some q44) else (if a1 = (1 : Int32) then ((fX5_whoIs M (1 : Int32)).bind fun q44 => some q44) else (if a1 = (2 : Int32) then ((fX5_whoIs M ((M.2.1 0 (0 : Int32).toNatClampNeg) - (2 : Int32))).bind fun q44 => some q44) else ((fX5_whoIs M (((M.2.1 0 (0 : Int32).toNatClampNeg) - (1 : Int32)) / (2 : Int32))).bind fun q44 => some q44)))
def rmX5_prizeOf : Room := { frames := 5, cells := 0, slots := 0, locals := 110 }
theorem qqX5_prizeOf : yX5_prizeOf.cls = RX5 ∧ yX5_prizeOf.cls ≠ "java/lang/invoke/MethodHandle" ∧ yX5_prizeOf.cls ≠ "java/lang/invoke/VarHandle" ∧ (parseMethodDescriptor yX5_prizeOf.desc).map (fun d => d.parameters.length) = some 1 := by decide +kernel
set_option maxRecDepth 100000 in
set_option maxHeartbeats 4000000 in
theorem kX5_prizeOf (l : Launch) (G : sGl) {S : sWo} {M : sOb} {a1 : Int32} {q : Int32}  (h : fX5_prizeOf M a1 = some q) : sCt l G yX5_prizeOf wsX5_prizeOf rmX5_prizeOf [.ref (sA G 9 0), .int a1] S M (some (.int q)) S M := by
  refine cMk (cc := cX5_prizeOf) (maxL := 2) (ret := (some .int)) (by decide) rfl (Nat.le_of_ble_eq_true rfl) ?_
  intro p e s m args below meth c Q hQ hx hb hr hlk hml hown hts hw ls hl
  have hown : s.vm.findClass RX5 = some m.cls := hown
  have hl : lv_has ls 2 [(0, .ref (sA G 9 0)), (1, .int a1)] := hl
  have hiX5 : ∀ w ∈ u_ws RX5 TX5 15, w ∈ wsX5_prizeOf := by decide +kernel
  unfold fX5_prizeOf at h
  refine lv_aload_n hx hb dX5_prizeOf_0 rfl (lv_at hl 0 rfl) ?_
  refine lv_iload_n hx hb dX5_prizeOf_1 rfl (lv_at hl 1 rfl) ?_
  refine lv_if_ne (tgt := 9) hx hb dX5_prizeOf_2 (by decide) (fun c2 => ?_) (fun c2 => ?_)
  · replace h := o_f c2 h
    refine lv_iload_n hx hb dX5_prizeOf_9 rfl (lv_at hl 1 rfl) ?_
    refine lv_iconst (v := 1) hx hb dX5_prizeOf_10 (by decide) ?_
    refine lv_icmp_ne (tgt := 18) hx hb dX5_prizeOf_11 (by decide) (fun c11 => ?_) (fun c11 => ?_)
    · replace h := o_f c11 h
      refine lv_iload_n hx hb dX5_prizeOf_18 rfl (lv_at hl 1 rfl) ?_
      refine lv_iconst (v := 2) hx hb dX5_prizeOf_19 (by decide) ?_
      refine lv_icmp_ne (tgt := 34) hx hb dX5_prizeOf_20 (by decide) (fun c20 => ?_) (fun c20 => ?_)
      · replace h := o_f c20 h
        refine lv_aload_n hx hb dX5_prizeOf_34 rfl (lv_at hl 0 rfl) ?_
        refine gMd (v := .ref (sA G 9 1)) hx hb hts hiX5 hown hw 0 (by decide) (hts (.fieldLink RX5 7 "SecondHomeModel" "s" "[I") (by decide +kernel)) rfl dX5_prizeOf_35 ?_
        refine lv_iconst (v := 0) hx hb dX5_prizeOf_38 (by decide) ?_
        refine ldMd hx hb hw 0 (by decide) (n := 77) rfl (by decide) dX5_prizeOf_39 ?_
        refine lv_iconst (v := 1) hx hb dX5_prizeOf_40 (by decide) ?_
        refine lv_isub hx hb dX5_prizeOf_41 ?_
        refine lv_iconst (v := 2) hx hb dX5_prizeOf_42 (by decide) ?_
        refine lv_idiv hx hb dX5_prizeOf_43 (by decide) ?_
        obtain ⟨q44, eq44, h⟩ := o_bd h
        refine kV (As := [.int (((M.2.1 0 (0 : Int32).toNatClampNeg) - (1 : Int32)) / (2 : Int32))]) (rest := []) (st' := [.int q44]) ⟨hx, hb, hml, hown, hts⟩ (kX5_whoIs l G eq44) (cwV 1 hts gX5_prizeOf_X5_whoIs rfl rfl rfl qqX5_whoIs ⟨Nat.le_of_ble_eq_true rfl, Nat.le_of_ble_eq_true rfl⟩) hw (rvMd hw) rfl hl.1 rfl (Nat.le_of_ble_eq_true rfl) dX5_prizeOf_44 ⟨Nat.zero_le _, Nat.zero_le _⟩ rfl (fun H locs hw => ?_)
        exact rI hQ hx hb hr hlk hw dX5_prizeOf_47 (o_1 h) rfl rfl
      · replace h := o_t c20 h
        refine lv_aload_n hx hb dX5_prizeOf_23 rfl (lv_at hl 0 rfl) ?_
        refine gMd (v := .ref (sA G 9 1)) hx hb hts hiX5 hown hw 0 (by decide) (hts (.fieldLink RX5 7 "SecondHomeModel" "s" "[I") (by decide +kernel)) rfl dX5_prizeOf_24 ?_
        refine lv_iconst (v := 0) hx hb dX5_prizeOf_27 (by decide) ?_
        refine ldMd hx hb hw 0 (by decide) (n := 77) rfl (by decide) dX5_prizeOf_28 ?_
        refine lv_iconst (v := 2) hx hb dX5_prizeOf_29 (by decide) ?_
        refine lv_isub hx hb dX5_prizeOf_30 ?_
        refine lv_goto (tgt := 44) hx hb dX5_prizeOf_31 (by decide) ?_
        obtain ⟨q44, eq44, h⟩ := o_bd h
        refine kV (As := [.int ((M.2.1 0 (0 : Int32).toNatClampNeg) - (2 : Int32))]) (rest := []) (st' := [.int q44]) ⟨hx, hb, hml, hown, hts⟩ (kX5_whoIs l G eq44) (cwV 1 hts gX5_prizeOf_X5_whoIs rfl rfl rfl qqX5_whoIs ⟨Nat.le_of_ble_eq_true rfl, Nat.le_of_ble_eq_true rfl⟩) hw (rvMd hw) rfl hl.1 rfl (Nat.le_of_ble_eq_true rfl) dX5_prizeOf_44 ⟨Nat.zero_le _, Nat.zero_le _⟩ rfl (fun H locs hw => ?_)
        exact rI hQ hx hb hr hlk hw dX5_prizeOf_47 (o_1 h) rfl rfl
    · replace h := o_t c11 h
      refine lv_iconst (v := 1) hx hb dX5_prizeOf_14 (by decide) ?_
      refine lv_goto (tgt := 44) hx hb dX5_prizeOf_15 (by decide) ?_
      obtain ⟨q44, eq44, h⟩ := o_bd h
      refine kV (As := [.int (1 : Int32)]) (rest := []) (st' := [.int q44]) ⟨hx, hb, hml, hown, hts⟩ (kX5_whoIs l G eq44) (cwV 1 hts gX5_prizeOf_X5_whoIs rfl rfl rfl qqX5_whoIs ⟨Nat.le_of_ble_eq_true rfl, Nat.le_of_ble_eq_true rfl⟩) hw (rvMd hw) rfl hl.1 rfl (Nat.le_of_ble_eq_true rfl) dX5_prizeOf_44 ⟨Nat.zero_le _, Nat.zero_le _⟩ rfl (fun H locs hw => ?_)
      exact rI hQ hx hb hr hlk hw dX5_prizeOf_47 (o_1 h) rfl rfl
  · replace h := o_t c2 h
    refine lv_iconst (v := 0) hx hb dX5_prizeOf_5 (by decide) ?_
    refine lv_goto (tgt := 44) hx hb dX5_prizeOf_6 (by decide) ?_
    obtain ⟨q44, eq44, h⟩ := o_bd h
    refine kV (As := [.int (0 : Int32)]) (rest := []) (st' := [.int q44]) ⟨hx, hb, hml, hown, hts⟩ (kX5_whoIs l G eq44) (cwV 1 hts gX5_prizeOf_X5_whoIs rfl rfl rfl qqX5_whoIs ⟨Nat.le_of_ble_eq_true rfl, Nat.le_of_ble_eq_true rfl⟩) hw (rvMd hw) rfl hl.1 rfl (Nat.le_of_ble_eq_true rfl) dX5_prizeOf_44 ⟨Nat.zero_le _, Nat.zero_le _⟩ rfl (fun H locs hw => ?_)
    exact rI hQ hx hb hr hlk hw dX5_prizeOf_47 (o_1 h) rfl rfl
-- X5_prize
def fX5_prize (M : sOb) : Option (Int32 × sOb) :=
  (fX5_prizeOf M (M.2.1 0 (3 : Int32).toNatClampNeg)).bind fun q8 => (fX5_orNone M q8).bind fun q11 => some (q11.1, q11.2)
def rmX5_prize : Room := { frames := 6, cells := 0, slots := 0, locals := 131 }
theorem qqX5_prize : yX5_prize.cls = RX5 ∧ yX5_prize.cls ≠ "java/lang/invoke/MethodHandle" ∧ yX5_prize.cls ≠ "java/lang/invoke/VarHandle" ∧ (parseMethodDescriptor yX5_prize.desc).map (fun d => d.parameters.length) = some 0 := by decide +kernel
set_option maxRecDepth 100000 in
set_option maxHeartbeats 4000000 in
theorem kX5_prize (l : Launch) (G : sGl) {S : sWo} {M : sOb}  {q : (Int32 × sOb)}  (h : fX5_prize M = some q) : sCt l G yX5_prize wsX5_prize rmX5_prize [.ref (sA G 9 0)] S M (some (.int q.1)) S q.2 := by
  refine cMk (cc := cX5_prize) (maxL := 1) (ret := (some .int)) (by decide) rfl (Nat.le_of_ble_eq_true rfl) ?_
  intro p e s m args below meth c Q hQ hx hb hr hlk hml hown hts hw ls hl
  have hown : s.vm.findClass RX5 = some m.cls := hown
  have hl : lv_has ls 1 [(0, .ref (sA G 9 0))] := hl
  have hiX5 : ∀ w ∈ u_ws RX5 TX5 15, w ∈ wsX5_prize := by decide +kernel
  unfold fX5_prize at h
  refine lv_aload_n hx hb dX5_prize_0 rfl (lv_at hl 0 rfl) ?_
  refine lv_aload_n hx hb dX5_prize_1 rfl (lv_at hl 0 rfl) ?_
  refine lv_aload_n hx hb dX5_prize_2 rfl (lv_at hl 0 rfl) ?_
  refine gMd (v := .ref (sA G 9 1)) hx hb hts hiX5 hown hw 0 (by decide) (hts (.fieldLink RX5 7 "SecondHomeModel" "s" "[I") (by decide +kernel)) rfl dX5_prize_3 ?_
  refine lv_iconst (v := 3) hx hb dX5_prize_6 (by decide) ?_
  refine ldMd hx hb hw 0 (by decide) (n := 77) rfl (by decide) dX5_prize_7 ?_
  obtain ⟨q8, eq8, h⟩ := o_bd h
  refine kV (As := [.int (M.2.1 0 (3 : Int32).toNatClampNeg)]) (rest := [.ref (sA G 9 0)]) (st' := [.int q8, .ref (sA G 9 0)]) ⟨hx, hb, hml, hown, hts⟩ (kX5_prizeOf l G eq8) (cwV 1 hts gX5_prize_X5_prizeOf rfl rfl rfl qqX5_prizeOf ⟨Nat.le_of_ble_eq_true rfl, Nat.le_of_ble_eq_true rfl⟩) hw (rvMd hw) rfl hl.1 rfl (Nat.le_of_ble_eq_true rfl) dX5_prize_8 ⟨Nat.zero_le _, Nat.zero_le _⟩ rfl (fun H locs hw => ?_)
  obtain ⟨q11, eq11, h⟩ := o_bd h
  refine kV (As := [.int q8]) (rest := []) (st' := [.int q11.1]) ⟨hx, hb, hml, hown, hts⟩ (kX5_orNone l G eq11) (cwV 1 hts gX5_prize_X5_orNone rfl rfl rfl qqX5_orNone ⟨Nat.le_of_ble_eq_true rfl, Nat.le_of_ble_eq_true rfl⟩) hw (rvMd hw) rfl hl.1 rfl (Nat.le_of_ble_eq_true rfl) dX5_prize_11 ⟨Nat.zero_le _, Nat.zero_le _⟩ rfl (fun H locs hw => ?_)
  exact rI hQ hx hb hr hlk hw dX5_prize_14 (o_2a h) rfl (o_2b h)
-- X5_score
def bX5_score_44 (q38 : Int32) (rc44 : Int32 → Int32 → sOb → Option (Int32 × sOb)) (x1_44 : Int32) (x3_44 : Int32) (T_44 : sOb) : Option (Int32 × sOb) :=
  if (T_44.2.1 0 (0 : Int32).toNatClampNeg) ≤ x3_44 then (some (x1_44, T_44)) else ((fX5_placeOf T_44 x3_44).bind fun q64 => nm (fun (y0_79 : Int32) => nm ((((T_44.2.1 0 (0 : Int32).toNatClampNeg) - (1 : Int32)) - q64) + y0_79) fun v80 => (fX5_is T_44 x3_44 (6 : Int32)).bind fun q90 => (fX5_puts T_44 x3_44 (6 : Int32) (q90 + v80)).bind fun q96 => nm (x1_44 + v80) fun v103 => nm (x3_44 + (1 : Int32)) fun v104 => rc44 v103 v104 q96) fun k79 => if x3_44 = q38 then (k79 (10 : Int32)) else (k79 (0 : Int32)))
def fX5_score (M : sOb) : Option (Int32 × sOb) :=
  if (M.2.1 0 (0 : Int32).toNatClampNeg) = 0 then ((fX5_finds M (-1000000005 : Int32)).bind fun q25 => some (q25.1, q25.2)) else ((fX5_homeMany M).bind fun q10 => if (M.2.1 0 (0 : Int32).toNatClampNeg) ≤ q10 then ((fX5_prizeOf M (M.2.1 0 (3 : Int32).toNatClampNeg)).bind fun q38 => fx3 (bX5_score_44 q38) FU (0 : Int32) (0 : Int32) M) else ((fX5_finds M (-1000000005 : Int32)).bind fun q25 => some (q25.1, q25.2)))
def rmX5_score : Room := { frames := 6, cells := 0, slots := 0, locals := 131 }
theorem qqX5_score : yX5_score.cls = RX5 ∧ yX5_score.cls ≠ "java/lang/invoke/MethodHandle" ∧ yX5_score.cls ≠ "java/lang/invoke/VarHandle" ∧ (parseMethodDescriptor yX5_score.desc).map (fun d => d.parameters.length) = some 0 := by decide +kernel
set_option maxRecDepth 100000 in
set_option maxHeartbeats 4000000 in
theorem kX5_score (l : Launch) (G : sGl) {S : sWo} {M : sOb}  {q : (Int32 × sOb)}  (h : fX5_score M = some q) : sCt l G yX5_score wsX5_score rmX5_score [.ref (sA G 9 0)] S M (some (.int q.1)) S q.2 := by
  refine cMk (cc := cX5_score) (maxL := 5) (ret := (some .int)) (by decide) rfl (Nat.le_of_ble_eq_true rfl) ?_
  intro p e s m args below meth c Q hQ hx hb hr hlk hml hown hts hw ls hl
  have hown : s.vm.findClass RX5 = some m.cls := hown
  have hl : lv_has ls 5 [(0, .ref (sA G 9 0))] := hl
  have hiX5 : ∀ w ∈ u_ws RX5 TX5 15, w ∈ wsX5_score := by decide +kernel
  unfold fX5_score at h
  refine lv_aload_n hx hb dX5_score_0 rfl (lv_at hl 0 rfl) ?_
  refine gMd (v := .ref (sA G 9 1)) hx hb hts hiX5 hown hw 0 (by decide) (hts (.fieldLink RX5 7 "SecondHomeModel" "s" "[I") (by decide +kernel)) rfl dX5_score_1 ?_
  refine lv_iconst (v := 0) hx hb dX5_score_4 (by decide) ?_
  refine ldMd hx hb hw 0 (by decide) (n := 77) rfl (by decide) dX5_score_5 ?_
  refine lv_if_eq (tgt := 22) hx hb dX5_score_6 (by decide) (fun c6 => ?_) (fun c6 => ?_)
  · replace h := o_t c6 h
    refine lv_aload_n hx hb dX5_score_22 rfl (lv_at hl 0 rfl) ?_
    refine lv_ldc (v := -1000000005) hx hb hown (hts (.constant RX5 60 (-1000000005)) (by decide +kernel)) dX5_score_23 ?_
    obtain ⟨q25, eq25, h⟩ := o_bd h
    refine kV (As := [.int (-1000000005 : Int32)]) (rest := []) (st' := [.int q25.1]) ⟨hx, hb, hml, hown, hts⟩ (kX5_finds l G eq25) (cwV 1 hts gX5_score_X5_finds rfl rfl rfl qqX5_finds ⟨Nat.le_of_ble_eq_true rfl, Nat.le_of_ble_eq_true rfl⟩) hw (rvMd hw) rfl hl.1 rfl (Nat.le_of_ble_eq_true rfl) dX5_score_25 ⟨Nat.zero_le _, Nat.zero_le _⟩ rfl (fun H locs hw => ?_)
    exact rI hQ hx hb hr hlk hw dX5_score_28 (o_2a h) rfl (o_2b h)
  · replace h := o_f c6 h
    refine lv_aload_n hx hb dX5_score_9 rfl (lv_at hl 0 rfl) ?_
    obtain ⟨q10, eq10, h⟩ := o_bd h
    refine kV (As := []) (rest := []) (st' := [.int q10]) ⟨hx, hb, hml, hown, hts⟩ (kX5_homeMany l G eq10) (cwV 0 hts gX5_score_X5_homeMany rfl rfl rfl qqX5_homeMany ⟨Nat.le_of_ble_eq_true rfl, Nat.le_of_ble_eq_true rfl⟩) hw (rvMd hw) rfl hl.1 rfl (Nat.le_of_ble_eq_true rfl) dX5_score_10 ⟨Nat.zero_le _, Nat.zero_le _⟩ rfl (fun H locs hw => ?_)
    refine lv_aload_n hx hb dX5_score_13 rfl (lv_at hl 0 rfl) ?_
    refine gMd (v := .ref (sA G 9 1)) hx hb hts hiX5 hown hw 0 (by decide) (hts (.fieldLink RX5 7 "SecondHomeModel" "s" "[I") (by decide +kernel)) rfl dX5_score_14 ?_
    refine lv_iconst (v := 0) hx hb dX5_score_17 (by decide) ?_
    refine ldMd hx hb hw 0 (by decide) (n := 77) rfl (by decide) dX5_score_18 ?_
    refine lv_icmp_ge (tgt := 29) hx hb dX5_score_19 (by decide) (fun c19 => ?_) (fun c19 => ?_)
    · replace h := o_t c19 h
      refine lv_iconst (v := 0) hx hb dX5_score_29 (by decide) ?_
      refine lv_istore_n (lv' := [(1, .int (0 : Int32)), (0, .ref (sA G 9 0))]) hx hb dX5_score_30 rfl hl (by decide) rfl (fun ls hl => ?_)
      refine lv_aload_n hx hb dX5_score_31 rfl (lv_at hl 1 rfl) ?_
      refine lv_aload_n hx hb dX5_score_32 rfl (lv_at hl 1 rfl) ?_
      refine gMd (v := .ref (sA G 9 1)) hx hb hts hiX5 hown hw 0 (by decide) (hts (.fieldLink RX5 7 "SecondHomeModel" "s" "[I") (by decide +kernel)) rfl dX5_score_33 ?_
      refine lv_iconst (v := 3) hx hb dX5_score_36 (by decide) ?_
      refine ldMd hx hb hw 0 (by decide) (n := 77) rfl (by decide) dX5_score_37 ?_
      obtain ⟨q38, eq38, h⟩ := o_bd h
      refine kV (As := [.int (M.2.1 0 (3 : Int32).toNatClampNeg)]) (rest := []) (st' := [.int q38]) ⟨hx, hb, hml, hown, hts⟩ (kX5_prizeOf l G eq38) (cwV 1 hts gX5_score_X5_prizeOf rfl rfl rfl qqX5_prizeOf ⟨Nat.le_of_ble_eq_true rfl, Nat.le_of_ble_eq_true rfl⟩) hw (rvMd hw) rfl hl.1 rfl (Nat.le_of_ble_eq_true rfl) dX5_score_38 ⟨Nat.zero_le _, Nat.zero_le _⟩ rfl (fun H locs hw => ?_)
      refine lv_istore_n (lv' := [(2, .int q38), (1, .int (0 : Int32)), (0, .ref (sA G 9 0))]) hx hb dX5_score_41 rfl hl (by decide) rfl (fun ls hl => ?_)
      refine lv_iconst (v := 0) hx hb dX5_score_42 (by decide) ?_
      refine lv_istore_n (lv' := [(3, .int (0 : Int32)), (2, .int q38), (1, .int (0 : Int32)), (0, .ref (sA G 9 0))]) hx hb dX5_score_43 rfl hl (by decide) rfl (fun ls hl => ?_)
      refine fx3_w (F := (bX5_score_44 q38)) (P := fun x1_44 x3_44 T_44 => ∀ (H : Heap) (locs : List Loc) (ls : Array Slot), sHw G s S T_44 H locs → lv_has ls 5 [(0, .ref (sA G 9 0)), (1, .int x1_44), (2, .int q38), (3, .int x3_44)] → W p l e rmX5_score s m args below meth c H locs 0 0 Q (F0 m 44 ls [])) ?_ _ _ _ _ h _ _ _ hw (lv_sub hl [3, 2, 1, 0] rfl)
      intro rc44 IH44 x1_44 x3_44 T_44 h H locs ls hw hl
      unfold bX5_score_44 at h
      refine lv_iload_n hx hb dX5_score_44 rfl (lv_at hl 3 rfl) ?_
      refine lv_aload_n hx hb dX5_score_45 rfl (lv_at hl 0 rfl) ?_
      refine gMd (v := .ref (sA G 9 1)) hx hb hts hiX5 hown hw 0 (by decide) (hts (.fieldLink RX5 7 "SecondHomeModel" "s" "[I") (by decide +kernel)) rfl dX5_score_46 ?_
      refine lv_iconst (v := 0) hx hb dX5_score_49 (by decide) ?_
      refine ldMd hx hb hw 0 (by decide) (n := 77) rfl (by decide) dX5_score_50 ?_
      refine lv_icmp_ge (tgt := 110) hx hb dX5_score_51 (by decide) (fun c51 => ?_) (fun c51 => ?_)
      · replace h := o_t c51 h
        refine lv_iload_n hx hb dX5_score_110 rfl (lv_at hl 1 rfl) ?_
        exact rI hQ hx hb hr hlk hw dX5_score_111 (o_2a h) rfl (o_2b h)
      · replace h := o_f c51 h
        refine lv_aload_n hx hb dX5_score_54 rfl (lv_at hl 0 rfl) ?_
        refine gMd (v := .ref (sA G 9 1)) hx hb hts hiX5 hown hw 0 (by decide) (hts (.fieldLink RX5 7 "SecondHomeModel" "s" "[I") (by decide +kernel)) rfl dX5_score_55 ?_
        refine lv_iconst (v := 0) hx hb dX5_score_58 (by decide) ?_
        refine ldMd hx hb hw 0 (by decide) (n := 77) rfl (by decide) dX5_score_59 ?_
        refine lv_iconst (v := 1) hx hb dX5_score_60 (by decide) ?_
        refine lv_isub hx hb dX5_score_61 ?_
        refine lv_aload_n hx hb dX5_score_62 rfl (lv_at hl 0 rfl) ?_
        refine lv_iload_n hx hb dX5_score_63 rfl (lv_at hl 3 rfl) ?_
        obtain ⟨q64, eq64, h⟩ := o_bd h
        refine kV (As := [.int x3_44]) (rest := [.int ((T_44.2.1 0 (0 : Int32).toNatClampNeg) - (1 : Int32))]) (st' := [.int q64, .int ((T_44.2.1 0 (0 : Int32).toNatClampNeg) - (1 : Int32))]) ⟨hx, hb, hml, hown, hts⟩ (kX5_placeOf l G eq64) (cwV 1 hts gX5_score_X5_placeOf rfl rfl rfl qqX5_placeOf ⟨Nat.le_of_ble_eq_true rfl, Nat.le_of_ble_eq_true rfl⟩) hw (rvMd hw) rfl hl.1 rfl (Nat.le_of_ble_eq_true rfl) dX5_score_64 ⟨Nat.zero_le _, Nat.zero_le _⟩ rfl (fun H locs hw => ?_)
        refine lv_isub hx hb dX5_score_67 ?_
        refine lv_iload_n hx hb dX5_score_68 rfl (lv_at hl 3 rfl) ?_
        refine lv_iload_n hx hb dX5_score_69 rfl (lv_at hl 2 rfl) ?_
        obtain ⟨k79, ek79, h⟩ := o_nm h
        have J79 : ∀ (y0_79 : Int32) (H : Heap) (locs : List Loc) (ls : Array Slot), sHw G s S T_44 H locs → lv_has ls 5 [(0, .ref (sA G 9 0)), (1, .int x1_44), (2, .int q38), (3, .int x3_44)] → k79 y0_79 = some q → W p l e rmX5_score s m args below meth c H locs 0 0 Q (F0 m 79 ls [.int y0_79, .int (((T_44.2.1 0 (0 : Int32).toNatClampNeg) - (1 : Int32)) - q64)]) := by
          intro y0_79 H locs ls hw hl h
          replace h := o_j1 ek79 h
          refine lv_iadd hx hb dX5_score_79 ?_
          refine lv_topi (fun v80 ev80 => ?_)
          replace h := o_nx ev80 h
          refine lv_istore (lv' := [(4, .int v80), (0, .ref (sA G 9 0)), (1, .int x1_44), (2, .int q38), (3, .int x3_44)]) hx hb dX5_score_80 hl (by decide) rfl (fun ls hl => ?_)
          refine lv_aload_n hx hb dX5_score_82 rfl (lv_at hl 1 rfl) ?_
          refine lv_iload_n hx hb dX5_score_83 rfl (lv_at hl 4 rfl) ?_
          refine lv_bipush (v := 6) hx hb dX5_score_84 (by decide) ?_
          refine lv_aload_n hx hb dX5_score_86 rfl (lv_at hl 1 rfl) ?_
          refine lv_iload_n hx hb dX5_score_87 rfl (lv_at hl 4 rfl) ?_
          refine lv_bipush (v := 6) hx hb dX5_score_88 (by decide) ?_
          obtain ⟨q90, eq90, h⟩ := o_bd h
          refine kV (As := [.int x3_44, .int (6 : Int32)]) (rest := [.int (6 : Int32), .int x3_44, .ref (sA G 9 0)]) (st' := [.int q90, .int (6 : Int32), .int x3_44, .ref (sA G 9 0)]) ⟨hx, hb, hml, hown, hts⟩ (kX5_is l G eq90) (cwV 2 hts gX5_score_X5_is rfl rfl rfl qqX5_is ⟨Nat.le_of_ble_eq_true rfl, Nat.le_of_ble_eq_true rfl⟩) hw (rvMd hw) rfl hl.1 rfl (Nat.le_of_ble_eq_true rfl) dX5_score_90 ⟨Nat.zero_le _, Nat.zero_le _⟩ rfl (fun H locs hw => ?_)
          refine lv_iload hx hb dX5_score_93 (lv_at hl 0 rfl) ?_
          refine lv_iadd hx hb dX5_score_95 ?_
          obtain ⟨q96, eq96, h⟩ := o_bd h
          refine kV (As := [.int x3_44, .int (6 : Int32), .int (q90 + v80)]) (rest := []) (st' := []) ⟨hx, hb, hml, hown, hts⟩ (kX5_puts l G eq96) (cwV 3 hts gX5_score_X5_puts rfl rfl rfl qqX5_puts ⟨Nat.le_of_ble_eq_true rfl, Nat.le_of_ble_eq_true rfl⟩) hw (rvMd hw) rfl hl.1 rfl (Nat.le_of_ble_eq_true rfl) dX5_score_96 ⟨Nat.zero_le _, Nat.zero_le _⟩ rfl (fun H locs hw => ?_)
          refine lv_iload_n hx hb dX5_score_99 rfl (lv_at hl 2 rfl) ?_
          refine lv_iload hx hb dX5_score_100 (lv_at hl 0 rfl) ?_
          refine lv_iadd hx hb dX5_score_102 ?_
          refine lv_topi (fun v103 ev103 => ?_)
          replace h := o_nx ev103 h
          refine lv_istore_n (lv' := [(1, .int v103), (4, .int v80), (0, .ref (sA G 9 0)), (2, .int q38), (3, .int x3_44)]) hx hb dX5_score_103 rfl hl (by decide) rfl (fun ls hl => ?_)
          obtain ⟨v104, ev104, h⟩ := o_nm h
          refine lv_iinc (v := v104) (lv' := [(3, .int v104), (1, .int v103), (4, .int v80), (0, .ref (sA G 9 0)), (2, .int q38)]) hx hb dX5_score_104 hl (k := 4) rfl (by rw [ev104]; rfl) (by decide) rfl (fun ls hl => ?_)
          refine lv_goto (tgt := 44) hx hb dX5_score_107 (by decide) ?_
          exact IH44 v103 v104 q96 h _ _ _ hw (lv_sub hl [3, 1, 4, 0] rfl)
        refine lv_icmp_ne (tgt := 78) hx hb dX5_score_70 (by decide) (fun c70 => ?_) (fun c70 => ?_)
        · replace h := o_f c70 h
          refine lv_iconst (v := 0) hx hb dX5_score_78 (by decide) ?_
          exact J79 (0 : Int32) _ _ _ hw (lv_sub hl [0, 1, 2, 3] rfl) h
        · replace h := o_t c70 h
          refine lv_bipush (v := 10) hx hb dX5_score_73 (by decide) ?_
          refine lv_goto (tgt := 79) hx hb dX5_score_75 (by decide) ?_
          exact J79 (10 : Int32) _ _ _ hw (lv_sub hl [0, 1, 2, 3] rfl) h
    · replace h := o_f c19 h
      refine lv_aload_n hx hb dX5_score_22 rfl (lv_at hl 0 rfl) ?_
      refine lv_ldc (v := -1000000005) hx hb hown (hts (.constant RX5 60 (-1000000005)) (by decide +kernel)) dX5_score_23 ?_
      obtain ⟨q25, eq25, h⟩ := o_bd h
      refine kV (As := [.int (-1000000005 : Int32)]) (rest := []) (st' := [.int q25.1]) ⟨hx, hb, hml, hown, hts⟩ (kX5_finds l G eq25) (cwV 1 hts gX5_score_X5_finds rfl rfl rfl qqX5_finds ⟨Nat.le_of_ble_eq_true rfl, Nat.le_of_ble_eq_true rfl⟩) hw (rvMd hw) rfl hl.1 rfl (Nat.le_of_ble_eq_true rfl) dX5_score_25 ⟨Nat.zero_le _, Nat.zero_le _⟩ rfl (fun H locs hw => ?_)
      exact rI hQ hx hb hr hlk hw dX5_score_28 (o_2a h) rfl (o_2b h)
-- X5_leads
def bX5_leads_4 (M : sOb) (rc4 : Int32 → Int32 → Option (Int32 × sOb)) (x1_4 : Int32) (x2_4 : Int32) : Option (Int32 × sOb) :=
  if (M.2.1 0 (0 : Int32).toNatClampNeg) ≤ x2_4 then ((fX5_orNone M x1_4).bind fun q49 => some (q49.1, q49.2)) else (if x1_4 < 0 then (nm (x2_4 + (1 : Int32)) fun v41 => rc4 x2_4 v41) else ((fX5_is M x2_4 (6 : Int32)).bind fun q22 => (fX5_is M x1_4 (6 : Int32)).bind fun q29 => if q22 ≤ q29 then (nm (x2_4 + (1 : Int32)) fun v41 => rc4 x1_4 v41) else (nm (x2_4 + (1 : Int32)) fun v41 => rc4 x2_4 v41)))
def fX5_leads (M : sOb) : Option (Int32 × sOb) :=
  fx2 (bX5_leads_4 M) FU (-1 : Int32) (0 : Int32)
def rmX5_leads : Room := { frames := 2, cells := 0, slots := 0, locals := 42 }
theorem qqX5_leads : yX5_leads.cls = RX5 ∧ yX5_leads.cls ≠ "java/lang/invoke/MethodHandle" ∧ yX5_leads.cls ≠ "java/lang/invoke/VarHandle" ∧ (parseMethodDescriptor yX5_leads.desc).map (fun d => d.parameters.length) = some 0 := by decide +kernel
set_option maxRecDepth 100000 in
set_option maxHeartbeats 4000000 in
theorem kX5_leads (l : Launch) (G : sGl) {S : sWo} {M : sOb}  {q : (Int32 × sOb)}  (h : fX5_leads M = some q) : sCt l G yX5_leads wsX5_leads rmX5_leads [.ref (sA G 9 0)] S M (some (.int q.1)) S q.2 := by
  refine cMk (cc := cX5_leads) (maxL := 3) (ret := (some .int)) (by decide) rfl (Nat.le_of_ble_eq_true rfl) ?_
  intro p e s m args below meth c Q hQ hx hb hr hlk hml hown hts hw ls hl
  have hown : s.vm.findClass RX5 = some m.cls := hown
  have hl : lv_has ls 3 [(0, .ref (sA G 9 0))] := hl
  have hiX5 : ∀ w ∈ u_ws RX5 TX5 15, w ∈ wsX5_leads := by decide +kernel
  unfold fX5_leads at h
  refine lv_iconst (v := -1) hx hb dX5_leads_0 (by decide) ?_
  refine lv_istore_n (lv' := [(1, .int (-1 : Int32)), (0, .ref (sA G 9 0))]) hx hb dX5_leads_1 rfl hl (by decide) rfl (fun ls hl => ?_)
  refine lv_iconst (v := 0) hx hb dX5_leads_2 (by decide) ?_
  refine lv_istore_n (lv' := [(2, .int (0 : Int32)), (1, .int (-1 : Int32)), (0, .ref (sA G 9 0))]) hx hb dX5_leads_3 rfl hl (by decide) rfl (fun ls hl => ?_)
  refine fx2_w (F := (bX5_leads_4 M)) (P := fun x1_4 x2_4 => ∀ (H : Heap) (locs : List Loc) (ls : Array Slot), sHw G s S M H locs → lv_has ls 3 [(0, .ref (sA G 9 0)), (1, .int x1_4), (2, .int x2_4)] → W p l e rmX5_leads s m args below meth c H locs 0 0 Q (F0 m 4 ls [])) ?_ _ _ _ h _ _ _ hw (lv_sub hl [2, 1, 0] rfl)
  intro rc4 IH4 x1_4 x2_4 h H locs ls hw hl
  unfold bX5_leads_4 at h
  refine lv_iload_n hx hb dX5_leads_4 rfl (lv_at hl 2 rfl) ?_
  refine lv_aload_n hx hb dX5_leads_5 rfl (lv_at hl 0 rfl) ?_
  refine gMd (v := .ref (sA G 9 1)) hx hb hts hiX5 hown hw 0 (by decide) (hts (.fieldLink RX5 7 "SecondHomeModel" "s" "[I") (by decide +kernel)) rfl dX5_leads_6 ?_
  refine lv_iconst (v := 0) hx hb dX5_leads_9 (by decide) ?_
  refine ldMd hx hb hw 0 (by decide) (n := 77) rfl (by decide) dX5_leads_10 ?_
  refine lv_icmp_ge (tgt := 47) hx hb dX5_leads_11 (by decide) (fun c11 => ?_) (fun c11 => ?_)
  · replace h := o_t c11 h
    refine lv_aload_n hx hb dX5_leads_47 rfl (lv_at hl 0 rfl) ?_
    refine lv_iload_n hx hb dX5_leads_48 rfl (lv_at hl 1 rfl) ?_
    obtain ⟨q49, eq49, h⟩ := o_bd h
    refine kV (As := [.int x1_4]) (rest := []) (st' := [.int q49.1]) ⟨hx, hb, hml, hown, hts⟩ (kX5_orNone l G eq49) (cwV 1 hts gX5_leads_X5_orNone rfl rfl rfl qqX5_orNone ⟨Nat.le_of_ble_eq_true rfl, Nat.le_of_ble_eq_true rfl⟩) hw (rvMd hw) rfl hl.1 rfl (Nat.le_of_ble_eq_true rfl) dX5_leads_49 ⟨Nat.zero_le _, Nat.zero_le _⟩ rfl (fun H locs hw => ?_)
    exact rI hQ hx hb hr hlk hw dX5_leads_52 (o_2a h) rfl (o_2b h)
  · replace h := o_f c11 h
    refine lv_iload_n hx hb dX5_leads_14 rfl (lv_at hl 1 rfl) ?_
    refine lv_if_lt (tgt := 35) hx hb dX5_leads_15 (by decide) (fun c15 => ?_) (fun c15 => ?_)
    · replace h := o_t c15 h
      refine lv_iload_n hx hb dX5_leads_35 rfl (lv_at hl 2 rfl) ?_
      refine lv_goto (tgt := 40) hx hb dX5_leads_36 (by decide) ?_
      refine lv_istore_n (lv' := [(1, .int x2_4), (0, .ref (sA G 9 0)), (2, .int x2_4)]) hx hb dX5_leads_40 rfl hl (by decide) rfl (fun ls hl => ?_)
      obtain ⟨v41, ev41, h⟩ := o_nm h
      refine lv_iinc (v := v41) (lv' := [(2, .int v41), (1, .int x2_4), (0, .ref (sA G 9 0))]) hx hb dX5_leads_41 hl (k := 2) rfl (by rw [ev41]; rfl) (by decide) rfl (fun ls hl => ?_)
      refine lv_goto (tgt := 4) hx hb dX5_leads_44 (by decide) ?_
      exact IH4 x2_4 v41 h _ _ _ hw (lv_sub hl [2, 1, 0] rfl)
    · replace h := o_f c15 h
      refine lv_aload_n hx hb dX5_leads_18 rfl (lv_at hl 0 rfl) ?_
      refine lv_iload_n hx hb dX5_leads_19 rfl (lv_at hl 2 rfl) ?_
      refine lv_bipush (v := 6) hx hb dX5_leads_20 (by decide) ?_
      obtain ⟨q22, eq22, h⟩ := o_bd h
      refine kV (As := [.int x2_4, .int (6 : Int32)]) (rest := []) (st' := [.int q22]) ⟨hx, hb, hml, hown, hts⟩ (kX5_is l G eq22) (cwV 2 hts gX5_leads_X5_is rfl rfl rfl qqX5_is ⟨Nat.le_of_ble_eq_true rfl, Nat.le_of_ble_eq_true rfl⟩) hw (rvMd hw) rfl hl.1 rfl (Nat.le_of_ble_eq_true rfl) dX5_leads_22 ⟨Nat.zero_le _, Nat.zero_le _⟩ rfl (fun H locs hw => ?_)
      refine lv_aload_n hx hb dX5_leads_25 rfl (lv_at hl 0 rfl) ?_
      refine lv_iload_n hx hb dX5_leads_26 rfl (lv_at hl 1 rfl) ?_
      refine lv_bipush (v := 6) hx hb dX5_leads_27 (by decide) ?_
      obtain ⟨q29, eq29, h⟩ := o_bd h
      refine kV (As := [.int x1_4, .int (6 : Int32)]) (rest := [.int q22]) (st' := [.int q29, .int q22]) ⟨hx, hb, hml, hown, hts⟩ (kX5_is l G eq29) (cwV 2 hts gX5_leads_X5_is rfl rfl rfl qqX5_is ⟨Nat.le_of_ble_eq_true rfl, Nat.le_of_ble_eq_true rfl⟩) hw (rvMd hw) rfl hl.1 rfl (Nat.le_of_ble_eq_true rfl) dX5_leads_29 ⟨Nat.zero_le _, Nat.zero_le _⟩ rfl (fun H locs hw => ?_)
      refine lv_icmp_le (tgt := 39) hx hb dX5_leads_32 (by decide) (fun c32 => ?_) (fun c32 => ?_)
      · replace h := o_t c32 h
        refine lv_iload_n hx hb dX5_leads_39 rfl (lv_at hl 1 rfl) ?_
        refine lv_istore_n (lv' := [(1, .int x1_4), (0, .ref (sA G 9 0)), (2, .int x2_4)]) hx hb dX5_leads_40 rfl hl (by decide) rfl (fun ls hl => ?_)
        obtain ⟨v41, ev41, h⟩ := o_nm h
        refine lv_iinc (v := v41) (lv' := [(2, .int v41), (1, .int x1_4), (0, .ref (sA G 9 0))]) hx hb dX5_leads_41 hl (k := 2) rfl (by rw [ev41]; rfl) (by decide) rfl (fun ls hl => ?_)
        refine lv_goto (tgt := 4) hx hb dX5_leads_44 (by decide) ?_
        exact IH4 x1_4 v41 h _ _ _ hw (lv_sub hl [2, 1, 0] rfl)
      · replace h := o_f c32 h
        refine lv_iload_n hx hb dX5_leads_35 rfl (lv_at hl 2 rfl) ?_
        refine lv_goto (tgt := 40) hx hb dX5_leads_36 (by decide) ?_
        refine lv_istore_n (lv' := [(1, .int x2_4), (0, .ref (sA G 9 0)), (2, .int x2_4)]) hx hb dX5_leads_40 rfl hl (by decide) rfl (fun ls hl => ?_)
        obtain ⟨v41, ev41, h⟩ := o_nm h
        refine lv_iinc (v := v41) (lv' := [(2, .int v41), (1, .int x2_4), (0, .ref (sA G 9 0))]) hx hb dX5_leads_41 hl (k := 2) rfl (by rw [ev41]; rfl) (by decide) rfl (fun ls hl => ?_)
        refine lv_goto (tgt := 4) hx hb dX5_leads_44 (by decide) ?_
        exact IH4 x2_4 v41 h _ _ _ hw (lv_sub hl [2, 1, 0] rfl)
-- X5_goesOnMany
def bX5_goesOnMany_2 (a1 : Int32) (rc2 : Int32 → sOb → Option sOb) (x2_2 : Int32) (T_2 : sOb) : Option sOb :=
  if a1 ≤ x2_2 then (some T_2) else ((fX5_goesOn T_2).bind fun q8 => nm (x2_2 + (1 : Int32)) fun v12 => rc2 v12 q8.2)
def fX5_goesOnMany (M : sOb) (a1 : Int32) : Option sOb :=
  fx2 (bX5_goesOnMany_2 a1) FU (0 : Int32) M
def rmX5_goesOnMany : Room := { frames := 5, cells := 0, slots := 0, locals := 116 }
theorem qqX5_goesOnMany : yX5_goesOnMany.cls = RX5 ∧ yX5_goesOnMany.cls ≠ "java/lang/invoke/MethodHandle" ∧ yX5_goesOnMany.cls ≠ "java/lang/invoke/VarHandle" ∧ (parseMethodDescriptor yX5_goesOnMany.desc).map (fun d => d.parameters.length) = some 1 := by decide +kernel
set_option maxRecDepth 100000 in
set_option maxHeartbeats 4000000 in
theorem kX5_goesOnMany (l : Launch) (G : sGl) {S : sWo} {M : sOb} {a1 : Int32} {q : sOb}  (h : fX5_goesOnMany M a1 = some q) : sCt l G yX5_goesOnMany wsX5_goesOnMany rmX5_goesOnMany [.ref (sA G 9 0), .int a1] S M none S q := by
  refine cMk (cc := cX5_goesOnMany) (maxL := 4) (ret := none) (by decide) rfl (Nat.le_of_ble_eq_true rfl) ?_
  intro p e s m args below meth c Q hQ hx hb hr hlk hml hown hts hw ls hl
  have hown : s.vm.findClass RX5 = some m.cls := hown
  have hl : lv_has ls 4 [(0, .ref (sA G 9 0)), (1, .int a1)] := hl
  unfold fX5_goesOnMany at h
  refine lv_iconst (v := 0) hx hb dX5_goesOnMany_0 (by decide) ?_
  refine lv_istore_n (lv' := [(2, .int (0 : Int32)), (0, .ref (sA G 9 0)), (1, .int a1)]) hx hb dX5_goesOnMany_1 rfl hl (by decide) rfl (fun ls hl => ?_)
  refine fx2_w (F := (bX5_goesOnMany_2 a1)) (P := fun x2_2 T_2 => ∀ (H : Heap) (locs : List Loc) (ls : Array Slot), sHw G s S T_2 H locs → lv_has ls 4 [(0, .ref (sA G 9 0)), (1, .int a1), (2, .int x2_2)] → W p l e rmX5_goesOnMany s m args below meth c H locs 0 0 Q (F0 m 2 ls [])) ?_ _ _ _ h _ _ _ hw (lv_sub hl [1, 2, 0] rfl)
  intro rc2 IH2 x2_2 T_2 h H locs ls hw hl
  unfold bX5_goesOnMany_2 at h
  refine lv_iload_n hx hb dX5_goesOnMany_2 rfl (lv_at hl 2 rfl) ?_
  refine lv_iload_n hx hb dX5_goesOnMany_3 rfl (lv_at hl 1 rfl) ?_
  refine lv_icmp_ge (tgt := 18) hx hb dX5_goesOnMany_4 (by decide) (fun c4 => ?_) (fun c4 => ?_)
  · replace h := o_t c4 h
    exact rV hQ hx hb hr hlk hw dX5_goesOnMany_18 rfl (o_1 h)
  · replace h := o_f c4 h
    refine lv_aload_n hx hb dX5_goesOnMany_7 rfl (lv_at hl 0 rfl) ?_
    obtain ⟨q8, eq8, h⟩ := o_bd h
    refine kV (As := []) (rest := []) (st' := [.int q8.1]) ⟨hx, hb, hml, hown, hts⟩ (kX5_goesOn l G eq8) (cwV 0 hts gX5_goesOnMany_X5_goesOn rfl rfl rfl qqX5_goesOn ⟨Nat.le_of_ble_eq_true rfl, Nat.le_of_ble_eq_true rfl⟩) hw (rvMd hw) rfl hl.1 rfl (Nat.le_of_ble_eq_true rfl) dX5_goesOnMany_8 ⟨Nat.zero_le _, Nat.zero_le _⟩ rfl (fun H locs hw => ?_)
    refine lv_istore_n (lv' := [(3, .int q8.1), (0, .ref (sA G 9 0)), (1, .int a1), (2, .int x2_2)]) hx hb dX5_goesOnMany_11 rfl hl (by decide) rfl (fun ls hl => ?_)
    obtain ⟨v12, ev12, h⟩ := o_nm h
    refine lv_iinc (v := v12) (lv' := [(2, .int v12), (3, .int q8.1), (0, .ref (sA G 9 0)), (1, .int a1)]) hx hb dX5_goesOnMany_12 hl (k := 3) rfl (by rw [ev12]; rfl) (by decide) rfl (fun ls hl => ?_)
    refine lv_goto (tgt := 2) hx hb dX5_goesOnMany_15 (by decide) ?_
    exact IH2 v12 q8.2 h _ _ _ hw (lv_sub hl [2, 3, 0] rfl)
-- X5_on
def fX5_on (M : sOb) (a1 : Int32) (a2 : Int32) : Option (Int32 × sOb) :=
  (fX5_isRunner M a1).bind fun q2 => if q2 = 0 then ((fX5_finds M (-1000000001 : Int32)).bind fun q23 => some (q23.1, q23.2)) else ((fX5_isIn a2.toInt64 (0 : Int64) (2000 : Int64)).bind fun q14 => if q14 = 0 then ((fX5_finds M (-1000000001 : Int32)).bind fun q23 => some (q23.1, q23.2)) else ((fX5_laysBy M).bind fun q28 => (fX5_goesOnMany q28 a2).bind fun q33 => (fX5_is q33 a1 (5 : Int32)).bind fun q39 => (fX5_laysBack q33).bind fun q44 => some (q39, q44)))
def rmX5_on : Room := { frames := 6, cells := 0, slots := 0, locals := 139 }
theorem qqX5_on : yX5_on.cls = RX5 ∧ yX5_on.cls ≠ "java/lang/invoke/MethodHandle" ∧ yX5_on.cls ≠ "java/lang/invoke/VarHandle" ∧ (parseMethodDescriptor yX5_on.desc).map (fun d => d.parameters.length) = some 2 := by decide +kernel
set_option maxRecDepth 100000 in
set_option maxHeartbeats 4000000 in
theorem kX5_on (l : Launch) (G : sGl) {S : sWo} {M : sOb} {a1 : Int32} {a2 : Int32} {q : (Int32 × sOb)}  (h : fX5_on M a1 a2 = some q) : sCt l G yX5_on wsX5_on rmX5_on [.ref (sA G 9 0), .int a1, .int a2] S M (some (.int q.1)) S q.2 := by
  refine cMk (cc := cX5_on) (maxL := 4) (ret := (some .int)) (by decide) rfl (Nat.le_of_ble_eq_true rfl) ?_
  intro p e s m args below meth c Q hQ hx hb hr hlk hml hown hts hw ls hl
  have hown : s.vm.findClass RX5 = some m.cls := hown
  have hl : lv_has ls 4 [(0, .ref (sA G 9 0)), (1, .int a1), (2, .int a2)] := hl
  unfold fX5_on at h
  refine lv_aload_n hx hb dX5_on_0 rfl (lv_at hl 0 rfl) ?_
  refine lv_iload_n hx hb dX5_on_1 rfl (lv_at hl 1 rfl) ?_
  obtain ⟨q2, eq2, h⟩ := o_bd h
  refine kV (As := [.int a1]) (rest := []) (st' := [.int q2]) ⟨hx, hb, hml, hown, hts⟩ (kX5_isRunner l G eq2) (cwV 1 hts gX5_on_X5_isRunner rfl rfl rfl qqX5_isRunner ⟨Nat.le_of_ble_eq_true rfl, Nat.le_of_ble_eq_true rfl⟩) hw (rvMd hw) rfl hl.1 rfl (Nat.le_of_ble_eq_true rfl) dX5_on_2 ⟨Nat.zero_le _, Nat.zero_le _⟩ rfl (fun H locs hw => ?_)
  refine lv_if_eq (tgt := 20) hx hb dX5_on_5 (by decide) (fun c5 => ?_) (fun c5 => ?_)
  · replace h := o_t c5 h
    refine lv_aload_n hx hb dX5_on_20 rfl (lv_at hl 0 rfl) ?_
    refine lv_ldc (v := -1000000001) hx hb hown (hts (.constant RX5 38 (-1000000001)) (by decide +kernel)) dX5_on_21 ?_
    obtain ⟨q23, eq23, h⟩ := o_bd h
    refine kV (As := [.int (-1000000001 : Int32)]) (rest := []) (st' := [.int q23.1]) ⟨hx, hb, hml, hown, hts⟩ (kX5_finds l G eq23) (cwV 1 hts gX5_on_X5_finds rfl rfl rfl qqX5_finds ⟨Nat.le_of_ble_eq_true rfl, Nat.le_of_ble_eq_true rfl⟩) hw (rvMd hw) rfl hl.1 rfl (Nat.le_of_ble_eq_true rfl) dX5_on_23 ⟨Nat.zero_le _, Nat.zero_le _⟩ rfl (fun H locs hw => ?_)
    exact rI hQ hx hb hr hlk hw dX5_on_26 (o_2a h) rfl (o_2b h)
  · replace h := o_f c5 h
    refine lv_iload_n hx hb dX5_on_8 rfl (lv_at hl 2 rfl) ?_
    refine lv_i2l hx hb dX5_on_9 rfl ?_
    refine lv_lconst (v := 0) hx hb dX5_on_10 (by decide) ?_
    refine lv_ldc2 (v := 2000) hx hb hown (hts (.constantLong RX5 136 (2000)) (by decide +kernel)) dX5_on_11 ?_
    obtain ⟨q14, eq14, h⟩ := o_bd h
    refine kS (As := [.long a2.toInt64, .long (0 : Int64), .long (2000 : Int64)]) (rest := []) (st' := [.int q14]) ⟨hx, hb, hml, hown, hts⟩ (kX5_isIn l G eq14) (va_cwS 3 hts gX5_on_X5_isIn rfl rfl rfl qqX5_isIn ⟨Nat.le_of_ble_eq_true rfl, Nat.le_of_ble_eq_true rfl⟩) hw rfl hl.1 rfl (Nat.le_of_ble_eq_true rfl) dX5_on_14 ⟨Nat.zero_le _, Nat.zero_le _⟩ rfl (fun H locs hw => ?_)
    refine lv_if_ne (tgt := 27) hx hb dX5_on_17 (by decide) (fun c17 => ?_) (fun c17 => ?_)
    · replace h := o_f c17 h
      refine lv_aload_n hx hb dX5_on_27 rfl (lv_at hl 0 rfl) ?_
      obtain ⟨q28, eq28, h⟩ := o_bd h
      refine kV (As := []) (rest := []) (st' := []) ⟨hx, hb, hml, hown, hts⟩ (kX5_laysBy l G eq28) (cwV 0 hts gX5_on_X5_laysBy rfl rfl rfl qqX5_laysBy ⟨Nat.le_of_ble_eq_true rfl, Nat.le_of_ble_eq_true rfl⟩) hw (rvMd hw) rfl hl.1 rfl (Nat.le_of_ble_eq_true rfl) dX5_on_28 ⟨Nat.zero_le _, Nat.zero_le _⟩ rfl (fun H locs hw => ?_)
      refine lv_aload_n hx hb dX5_on_31 rfl (lv_at hl 0 rfl) ?_
      refine lv_iload_n hx hb dX5_on_32 rfl (lv_at hl 2 rfl) ?_
      obtain ⟨q33, eq33, h⟩ := o_bd h
      refine kV (As := [.int a2]) (rest := []) (st' := []) ⟨hx, hb, hml, hown, hts⟩ (kX5_goesOnMany l G eq33) (cwV 1 hts gX5_on_X5_goesOnMany rfl rfl rfl qqX5_goesOnMany ⟨Nat.le_of_ble_eq_true rfl, Nat.le_of_ble_eq_true rfl⟩) hw (rvMd hw) rfl hl.1 rfl (Nat.le_of_ble_eq_true rfl) dX5_on_33 ⟨Nat.zero_le _, Nat.zero_le _⟩ rfl (fun H locs hw => ?_)
      refine lv_aload_n hx hb dX5_on_36 rfl (lv_at hl 0 rfl) ?_
      refine lv_iload_n hx hb dX5_on_37 rfl (lv_at hl 1 rfl) ?_
      refine lv_iconst (v := 5) hx hb dX5_on_38 (by decide) ?_
      obtain ⟨q39, eq39, h⟩ := o_bd h
      refine kV (As := [.int a1, .int (5 : Int32)]) (rest := []) (st' := [.int q39]) ⟨hx, hb, hml, hown, hts⟩ (kX5_is l G eq39) (cwV 2 hts gX5_on_X5_is rfl rfl rfl qqX5_is ⟨Nat.le_of_ble_eq_true rfl, Nat.le_of_ble_eq_true rfl⟩) hw (rvMd hw) rfl hl.1 rfl (Nat.le_of_ble_eq_true rfl) dX5_on_39 ⟨Nat.zero_le _, Nat.zero_le _⟩ rfl (fun H locs hw => ?_)
      refine lv_istore_n (lv' := [(3, .int q39), (0, .ref (sA G 9 0)), (1, .int a1), (2, .int a2)]) hx hb dX5_on_42 rfl hl (by decide) rfl (fun ls hl => ?_)
      refine lv_aload_n hx hb dX5_on_43 rfl (lv_at hl 1 rfl) ?_
      obtain ⟨q44, eq44, h⟩ := o_bd h
      refine kV (As := []) (rest := []) (st' := []) ⟨hx, hb, hml, hown, hts⟩ (kX5_laysBack l G eq44) (cwV 0 hts gX5_on_X5_laysBack rfl rfl rfl qqX5_laysBack ⟨Nat.le_of_ble_eq_true rfl, Nat.le_of_ble_eq_true rfl⟩) hw (rvMd hw) rfl hl.1 rfl (Nat.le_of_ble_eq_true rfl) dX5_on_44 ⟨Nat.zero_le _, Nat.zero_le _⟩ rfl (fun H locs hw => ?_)
      refine lv_iload_n hx hb dX5_on_47 rfl (lv_at hl 0 rfl) ?_
      exact rI hQ hx hb hr hlk hw dX5_on_48 (o_2a h) rfl (o_2b h)
    · replace h := o_t c17 h
      refine lv_aload_n hx hb dX5_on_20 rfl (lv_at hl 0 rfl) ?_
      refine lv_ldc (v := -1000000001) hx hb hown (hts (.constant RX5 38 (-1000000001)) (by decide +kernel)) dX5_on_21 ?_
      obtain ⟨q23, eq23, h⟩ := o_bd h
      refine kV (As := [.int (-1000000001 : Int32)]) (rest := []) (st' := [.int q23.1]) ⟨hx, hb, hml, hown, hts⟩ (kX5_finds l G eq23) (cwV 1 hts gX5_on_X5_finds rfl rfl rfl qqX5_finds ⟨Nat.le_of_ble_eq_true rfl, Nat.le_of_ble_eq_true rfl⟩) hw (rvMd hw) rfl hl.1 rfl (Nat.le_of_ble_eq_true rfl) dX5_on_23 ⟨Nat.zero_le _, Nat.zero_le _⟩ rfl (fun H locs hw => ?_)
      exact rI hQ hx hb hr hlk hw dX5_on_26 (o_2a h) rfl (o_2b h)
-- X5_goesToEnd
def bX5_goesToEnd_2 (k33 : sOb → Option (Int32 × sOb)) (rc2 : Int32 → sOb → Option (Int32 × sOb)) (x1_2 : Int32) (T_2 : sOb) : Option (Int32 × sOb) :=
  if (2000 : Int32) ≤ x1_2 then (k33 T_2) else ((fX5_homeMany T_2).bind fun q10 => if (T_2.2.1 0 (0 : Int32).toNatClampNeg) ≤ q10 then (k33 T_2) else ((fX5_goesOn T_2).bind fun q23 => nm (x1_2 + (1 : Int32)) fun v27 => rc2 v27 q23.2))
def fX5_goesToEnd (M : sOb) : Option (Int32 × sOb) :=
  nm (fun (T_33 : sOb) => (fX5_homeMany T_33).bind fun q34 => if q34 = (T_33.2.1 0 (0 : Int32).toNatClampNeg) then (some ((1 : Int32), T_33)) else (some ((0 : Int32), T_33))) fun k33 => fx2 (bX5_goesToEnd_2 k33) FU (0 : Int32) M
def rmX5_goesToEnd : Room := { frames := 5, cells := 0, slots := 0, locals := 116 }
theorem qqX5_goesToEnd : yX5_goesToEnd.cls = RX5 ∧ yX5_goesToEnd.cls ≠ "java/lang/invoke/MethodHandle" ∧ yX5_goesToEnd.cls ≠ "java/lang/invoke/VarHandle" ∧ (parseMethodDescriptor yX5_goesToEnd.desc).map (fun d => d.parameters.length) = some 0 := by decide +kernel
set_option maxRecDepth 100000 in
set_option maxHeartbeats 4000000 in
theorem kX5_goesToEnd (l : Launch) (G : sGl) {S : sWo} {M : sOb}  {q : (Int32 × sOb)}  (h : fX5_goesToEnd M = some q) : sCt l G yX5_goesToEnd wsX5_goesToEnd rmX5_goesToEnd [.ref (sA G 9 0)] S M (some (.int q.1)) S q.2 := by
  refine cMk (cc := cX5_goesToEnd) (maxL := 3) (ret := (some .boolean)) (by decide) rfl (Nat.le_of_ble_eq_true rfl) ?_
  intro p e s m args below meth c Q hQ hx hb hr hlk hml hown hts hw ls hl
  have hown : s.vm.findClass RX5 = some m.cls := hown
  have hl : lv_has ls 3 [(0, .ref (sA G 9 0))] := hl
  have hiX5 : ∀ w ∈ u_ws RX5 TX5 15, w ∈ wsX5_goesToEnd := by decide +kernel
  unfold fX5_goesToEnd at h
  refine lv_iconst (v := 0) hx hb dX5_goesToEnd_0 (by decide) ?_
  refine lv_istore_n (lv' := [(1, .int (0 : Int32)), (0, .ref (sA G 9 0))]) hx hb dX5_goesToEnd_1 rfl hl (by decide) rfl (fun ls hl => ?_)
  obtain ⟨k33, ek33, h⟩ := o_nm h
  have J33 : ∀ (T_33 : sOb) (H : Heap) (locs : List Loc) (ls : Array Slot), sHw G s S T_33 H locs → lv_has ls 3 [(0, .ref (sA G 9 0))] → k33 T_33 = some q → W p l e rmX5_goesToEnd s m args below meth c H locs 0 0 Q (F0 m 33 ls []) := by
    intro T_33 H locs ls hw hl h
    replace h := o_j1 ek33 h
    refine lv_aload_n hx hb dX5_goesToEnd_33 rfl (lv_at hl 0 rfl) ?_
    obtain ⟨q34, eq34, h⟩ := o_bd h
    refine kV (As := []) (rest := []) (st' := [.int q34]) ⟨hx, hb, hml, hown, hts⟩ (kX5_homeMany l G eq34) (cwV 0 hts gX5_goesToEnd_X5_homeMany rfl rfl rfl qqX5_homeMany ⟨Nat.le_of_ble_eq_true rfl, Nat.le_of_ble_eq_true rfl⟩) hw (rvMd hw) rfl hl.1 rfl (Nat.le_of_ble_eq_true rfl) dX5_goesToEnd_34 ⟨Nat.zero_le _, Nat.zero_le _⟩ rfl (fun H locs hw => ?_)
    refine lv_aload_n hx hb dX5_goesToEnd_37 rfl (lv_at hl 0 rfl) ?_
    refine gMd (v := .ref (sA G 9 1)) hx hb hts hiX5 hown hw 0 (by decide) (hts (.fieldLink RX5 7 "SecondHomeModel" "s" "[I") (by decide +kernel)) rfl dX5_goesToEnd_38 ?_
    refine lv_iconst (v := 0) hx hb dX5_goesToEnd_41 (by decide) ?_
    refine ldMd hx hb hw 0 (by decide) (n := 77) rfl (by decide) dX5_goesToEnd_42 ?_
    refine lv_icmp_ne (tgt := 50) hx hb dX5_goesToEnd_43 (by decide) (fun c43 => ?_) (fun c43 => ?_)
    · replace h := o_f c43 h
      refine lv_iconst (v := 0) hx hb dX5_goesToEnd_50 (by decide) ?_
      exact rZ hQ hx hb hr hlk hw (Or.inl rfl) dX5_goesToEnd_51 (o_2a h) rfl (o_2b h)
    · replace h := o_t c43 h
      refine lv_iconst (v := 1) hx hb dX5_goesToEnd_46 (by decide) ?_
      refine lv_goto (tgt := 51) hx hb dX5_goesToEnd_47 (by decide) ?_
      exact rZ hQ hx hb hr hlk hw (Or.inr rfl) dX5_goesToEnd_51 (o_2a h) rfl (o_2b h)
  refine fx2_w (F := (bX5_goesToEnd_2 k33)) (P := fun x1_2 T_2 => ∀ (H : Heap) (locs : List Loc) (ls : Array Slot), sHw G s S T_2 H locs → lv_has ls 3 [(0, .ref (sA G 9 0)), (1, .int x1_2)] → W p l e rmX5_goesToEnd s m args below meth c H locs 0 0 Q (F0 m 2 ls [])) ?_ _ _ _ h _ _ _ hw (lv_sub hl [1, 0] rfl)
  intro rc2 IH2 x1_2 T_2 h H locs ls hw hl
  unfold bX5_goesToEnd_2 at h
  refine lv_iload_n hx hb dX5_goesToEnd_2 rfl (lv_at hl 1 rfl) ?_
  refine lv_sipush (v := 2000) hx hb dX5_goesToEnd_3 (by decide) ?_
  refine lv_icmp_ge (tgt := 33) hx hb dX5_goesToEnd_6 (by decide) (fun c6 => ?_) (fun c6 => ?_)
  · replace h := o_t c6 h
    exact J33 T_2 _ _ _ hw (lv_sub hl [0] rfl) h
  · replace h := o_f c6 h
    refine lv_aload_n hx hb dX5_goesToEnd_9 rfl (lv_at hl 0 rfl) ?_
    obtain ⟨q10, eq10, h⟩ := o_bd h
    refine kV (As := []) (rest := []) (st' := [.int q10]) ⟨hx, hb, hml, hown, hts⟩ (kX5_homeMany l G eq10) (cwV 0 hts gX5_goesToEnd_X5_homeMany rfl rfl rfl qqX5_homeMany ⟨Nat.le_of_ble_eq_true rfl, Nat.le_of_ble_eq_true rfl⟩) hw (rvMd hw) rfl hl.1 rfl (Nat.le_of_ble_eq_true rfl) dX5_goesToEnd_10 ⟨Nat.zero_le _, Nat.zero_le _⟩ rfl (fun H locs hw => ?_)
    refine lv_aload_n hx hb dX5_goesToEnd_13 rfl (lv_at hl 0 rfl) ?_
    refine gMd (v := .ref (sA G 9 1)) hx hb hts hiX5 hown hw 0 (by decide) (hts (.fieldLink RX5 7 "SecondHomeModel" "s" "[I") (by decide +kernel)) rfl dX5_goesToEnd_14 ?_
    refine lv_iconst (v := 0) hx hb dX5_goesToEnd_17 (by decide) ?_
    refine ldMd hx hb hw 0 (by decide) (n := 77) rfl (by decide) dX5_goesToEnd_18 ?_
    refine lv_icmp_ge (tgt := 33) hx hb dX5_goesToEnd_19 (by decide) (fun c19 => ?_) (fun c19 => ?_)
    · replace h := o_t c19 h
      exact J33 T_2 _ _ _ hw (lv_sub hl [0] rfl) h
    · replace h := o_f c19 h
      refine lv_aload_n hx hb dX5_goesToEnd_22 rfl (lv_at hl 0 rfl) ?_
      obtain ⟨q23, eq23, h⟩ := o_bd h
      refine kV (As := []) (rest := []) (st' := [.int q23.1]) ⟨hx, hb, hml, hown, hts⟩ (kX5_goesOn l G eq23) (cwV 0 hts gX5_goesToEnd_X5_goesOn rfl rfl rfl qqX5_goesOn ⟨Nat.le_of_ble_eq_true rfl, Nat.le_of_ble_eq_true rfl⟩) hw (rvMd hw) rfl hl.1 rfl (Nat.le_of_ble_eq_true rfl) dX5_goesToEnd_23 ⟨Nat.zero_le _, Nat.zero_le _⟩ rfl (fun H locs hw => ?_)
      refine lv_istore_n (lv' := [(2, .int q23.1), (0, .ref (sA G 9 0)), (1, .int x1_2)]) hx hb dX5_goesToEnd_26 rfl hl (by decide) rfl (fun ls hl => ?_)
      obtain ⟨v27, ev27, h⟩ := o_nm h
      refine lv_iinc (v := v27) (lv' := [(1, .int v27), (2, .int q23.1), (0, .ref (sA G 9 0))]) hx hb dX5_goesToEnd_27 hl (k := 2) rfl (by rw [ev27]; rfl) (by decide) rfl (fun ls hl => ?_)
      refine lv_goto (tgt := 2) hx hb dX5_goesToEnd_30 (by decide) ?_
      exact IH2 v27 q23.2 h _ _ _ hw (lv_sub hl [2, 0] rfl)
-- X5_home
def fX5_home (M : sOb) (a1 : Int32) : Option (Int32 × sOb) :=
  (fX5_isRunner M a1).bind fun q2 => if q2 = 0 then ((fX5_finds M (-1000000001 : Int32)).bind fun q11 => some (q11.1, q11.2)) else ((fX5_laysBy M).bind fun q16 => (fX5_goesToEnd q16).bind fun q20 => (fX5_is q20.2 a1 (7 : Int32)).bind fun q28 => (fX5_laysBack q20.2).bind fun q33 => (fX5_orNone q33 q28).bind fun q38 => some (q38.1, q38.2))
def rmX5_home : Room := { frames := 6, cells := 0, slots := 0, locals := 138 }
theorem qqX5_home : yX5_home.cls = RX5 ∧ yX5_home.cls ≠ "java/lang/invoke/MethodHandle" ∧ yX5_home.cls ≠ "java/lang/invoke/VarHandle" ∧ (parseMethodDescriptor yX5_home.desc).map (fun d => d.parameters.length) = some 1 := by decide +kernel
set_option maxRecDepth 100000 in
set_option maxHeartbeats 4000000 in
theorem kX5_home (l : Launch) (G : sGl) {S : sWo} {M : sOb} {a1 : Int32} {q : (Int32 × sOb)}  (h : fX5_home M a1 = some q) : sCt l G yX5_home wsX5_home rmX5_home [.ref (sA G 9 0), .int a1] S M (some (.int q.1)) S q.2 := by
  refine cMk (cc := cX5_home) (maxL := 4) (ret := (some .int)) (by decide) rfl (Nat.le_of_ble_eq_true rfl) ?_
  intro p e s m args below meth c Q hQ hx hb hr hlk hml hown hts hw ls hl
  have hown : s.vm.findClass RX5 = some m.cls := hown
  have hl : lv_has ls 4 [(0, .ref (sA G 9 0)), (1, .int a1)] := hl
  unfold fX5_home at h
  refine lv_aload_n hx hb dX5_home_0 rfl (lv_at hl 0 rfl) ?_
  refine lv_iload_n hx hb dX5_home_1 rfl (lv_at hl 1 rfl) ?_
  obtain ⟨q2, eq2, h⟩ := o_bd h
  refine kV (As := [.int a1]) (rest := []) (st' := [.int q2]) ⟨hx, hb, hml, hown, hts⟩ (kX5_isRunner l G eq2) (cwV 1 hts gX5_home_X5_isRunner rfl rfl rfl qqX5_isRunner ⟨Nat.le_of_ble_eq_true rfl, Nat.le_of_ble_eq_true rfl⟩) hw (rvMd hw) rfl hl.1 rfl (Nat.le_of_ble_eq_true rfl) dX5_home_2 ⟨Nat.zero_le _, Nat.zero_le _⟩ rfl (fun H locs hw => ?_)
  refine lv_if_ne (tgt := 15) hx hb dX5_home_5 (by decide) (fun c5 => ?_) (fun c5 => ?_)
  · replace h := o_f c5 h
    refine lv_aload_n hx hb dX5_home_15 rfl (lv_at hl 0 rfl) ?_
    obtain ⟨q16, eq16, h⟩ := o_bd h
    refine kV (As := []) (rest := []) (st' := []) ⟨hx, hb, hml, hown, hts⟩ (kX5_laysBy l G eq16) (cwV 0 hts gX5_home_X5_laysBy rfl rfl rfl qqX5_laysBy ⟨Nat.le_of_ble_eq_true rfl, Nat.le_of_ble_eq_true rfl⟩) hw (rvMd hw) rfl hl.1 rfl (Nat.le_of_ble_eq_true rfl) dX5_home_16 ⟨Nat.zero_le _, Nat.zero_le _⟩ rfl (fun H locs hw => ?_)
    refine lv_aload_n hx hb dX5_home_19 rfl (lv_at hl 0 rfl) ?_
    obtain ⟨q20, eq20, h⟩ := o_bd h
    refine kV (As := []) (rest := []) (st' := [.int q20.1]) ⟨hx, hb, hml, hown, hts⟩ (kX5_goesToEnd l G eq20) (cwV 0 hts gX5_home_X5_goesToEnd rfl rfl rfl qqX5_goesToEnd ⟨Nat.le_of_ble_eq_true rfl, Nat.le_of_ble_eq_true rfl⟩) hw (rvMd hw) rfl hl.1 rfl (Nat.le_of_ble_eq_true rfl) dX5_home_20 ⟨Nat.zero_le _, Nat.zero_le _⟩ rfl (fun H locs hw => ?_)
    refine lv_istore_n (lv' := [(2, .int q20.1), (0, .ref (sA G 9 0)), (1, .int a1)]) hx hb dX5_home_23 rfl hl (by decide) rfl (fun ls hl => ?_)
    refine lv_aload_n hx hb dX5_home_24 rfl (lv_at hl 1 rfl) ?_
    refine lv_iload_n hx hb dX5_home_25 rfl (lv_at hl 2 rfl) ?_
    refine lv_bipush (v := 7) hx hb dX5_home_26 (by decide) ?_
    obtain ⟨q28, eq28, h⟩ := o_bd h
    refine kV (As := [.int a1, .int (7 : Int32)]) (rest := []) (st' := [.int q28]) ⟨hx, hb, hml, hown, hts⟩ (kX5_is l G eq28) (cwV 2 hts gX5_home_X5_is rfl rfl rfl qqX5_is ⟨Nat.le_of_ble_eq_true rfl, Nat.le_of_ble_eq_true rfl⟩) hw (rvMd hw) rfl hl.1 rfl (Nat.le_of_ble_eq_true rfl) dX5_home_28 ⟨Nat.zero_le _, Nat.zero_le _⟩ rfl (fun H locs hw => ?_)
    refine lv_istore_n (lv' := [(3, .int q28), (2, .int q20.1), (0, .ref (sA G 9 0)), (1, .int a1)]) hx hb dX5_home_31 rfl hl (by decide) rfl (fun ls hl => ?_)
    refine lv_aload_n hx hb dX5_home_32 rfl (lv_at hl 2 rfl) ?_
    obtain ⟨q33, eq33, h⟩ := o_bd h
    refine kV (As := []) (rest := []) (st' := []) ⟨hx, hb, hml, hown, hts⟩ (kX5_laysBack l G eq33) (cwV 0 hts gX5_home_X5_laysBack rfl rfl rfl qqX5_laysBack ⟨Nat.le_of_ble_eq_true rfl, Nat.le_of_ble_eq_true rfl⟩) hw (rvMd hw) rfl hl.1 rfl (Nat.le_of_ble_eq_true rfl) dX5_home_33 ⟨Nat.zero_le _, Nat.zero_le _⟩ rfl (fun H locs hw => ?_)
    refine lv_aload_n hx hb dX5_home_36 rfl (lv_at hl 2 rfl) ?_
    refine lv_iload_n hx hb dX5_home_37 rfl (lv_at hl 0 rfl) ?_
    obtain ⟨q38, eq38, h⟩ := o_bd h
    refine kV (As := [.int q28]) (rest := []) (st' := [.int q38.1]) ⟨hx, hb, hml, hown, hts⟩ (kX5_orNone l G eq38) (cwV 1 hts gX5_home_X5_orNone rfl rfl rfl qqX5_orNone ⟨Nat.le_of_ble_eq_true rfl, Nat.le_of_ble_eq_true rfl⟩) hw (rvMd hw) rfl hl.1 rfl (Nat.le_of_ble_eq_true rfl) dX5_home_38 ⟨Nat.zero_le _, Nat.zero_le _⟩ rfl (fun H locs hw => ?_)
    exact rI hQ hx hb hr hlk hw dX5_home_41 (o_2a h) rfl (o_2b h)
  · replace h := o_t c5 h
    refine lv_aload_n hx hb dX5_home_8 rfl (lv_at hl 0 rfl) ?_
    refine lv_ldc (v := -1000000001) hx hb hown (hts (.constant RX5 38 (-1000000001)) (by decide +kernel)) dX5_home_9 ?_
    obtain ⟨q11, eq11, h⟩ := o_bd h
    refine kV (As := [.int (-1000000001 : Int32)]) (rest := []) (st' := [.int q11.1]) ⟨hx, hb, hml, hown, hts⟩ (kX5_finds l G eq11) (cwV 1 hts gX5_home_X5_finds rfl rfl rfl qqX5_finds ⟨Nat.le_of_ble_eq_true rfl, Nat.le_of_ble_eq_true rfl⟩) hw (rvMd hw) rfl hl.1 rfl (Nat.le_of_ble_eq_true rfl) dX5_home_11 ⟨Nat.zero_le _, Nat.zero_le _⟩ rfl (fun H locs hw => ?_)
    exact rI hQ hx hb hr hlk hw dX5_home_14 (o_2a h) rfl (o_2b h)
-- X5_prizeBy
def fX5_prizeBy (M : sOb) (a1 : Int32) : Option (Int32 × sOb) :=
  (fX5_isIn a1.toInt64 (0 : Int64) (3 : Int64)).bind fun q6 => if q6 = 0 then ((fX5_finds M (-1000000001 : Int32)).bind fun q15 => some (q15.1, q15.2)) else ((fX5_laysBy M).bind fun q20 => (fX5_goesToEnd q20).bind fun q24 => nm (fun (y0_39 : Int32) => (fX5_laysBack q24.2).bind fun q41 => (fX5_orNone q41 y0_39).bind fun q46 => some (q46.1, q46.2)) fun k39 => if q24.1 = 0 then (k39 (-1 : Int32)) else ((fX5_prizeOf q24.2 a1).bind fun q32 => k39 q32))
def rmX5_prizeBy : Room := { frames := 6, cells := 0, slots := 0, locals := 138 }
theorem qqX5_prizeBy : yX5_prizeBy.cls = RX5 ∧ yX5_prizeBy.cls ≠ "java/lang/invoke/MethodHandle" ∧ yX5_prizeBy.cls ≠ "java/lang/invoke/VarHandle" ∧ (parseMethodDescriptor yX5_prizeBy.desc).map (fun d => d.parameters.length) = some 1 := by decide +kernel
set_option maxRecDepth 100000 in
set_option maxHeartbeats 4000000 in
theorem kX5_prizeBy (l : Launch) (G : sGl) {S : sWo} {M : sOb} {a1 : Int32} {q : (Int32 × sOb)}  (h : fX5_prizeBy M a1 = some q) : sCt l G yX5_prizeBy wsX5_prizeBy rmX5_prizeBy [.ref (sA G 9 0), .int a1] S M (some (.int q.1)) S q.2 := by
  refine cMk (cc := cX5_prizeBy) (maxL := 3) (ret := (some .int)) (by decide) rfl (Nat.le_of_ble_eq_true rfl) ?_
  intro p e s m args below meth c Q hQ hx hb hr hlk hml hown hts hw ls hl
  have hown : s.vm.findClass RX5 = some m.cls := hown
  have hl : lv_has ls 3 [(0, .ref (sA G 9 0)), (1, .int a1)] := hl
  unfold fX5_prizeBy at h
  refine lv_iload_n hx hb dX5_prizeBy_0 rfl (lv_at hl 1 rfl) ?_
  refine lv_i2l hx hb dX5_prizeBy_1 rfl ?_
  refine lv_lconst (v := 0) hx hb dX5_prizeBy_2 (by decide) ?_
  refine lv_ldc2 (v := 3) hx hb hown (hts (.constantLong RX5 152 (3)) (by decide +kernel)) dX5_prizeBy_3 ?_
  obtain ⟨q6, eq6, h⟩ := o_bd h
  refine kS (As := [.long a1.toInt64, .long (0 : Int64), .long (3 : Int64)]) (rest := []) (st' := [.int q6]) ⟨hx, hb, hml, hown, hts⟩ (kX5_isIn l G eq6) (va_cwS 3 hts gX5_prizeBy_X5_isIn rfl rfl rfl qqX5_isIn ⟨Nat.le_of_ble_eq_true rfl, Nat.le_of_ble_eq_true rfl⟩) hw rfl hl.1 rfl (Nat.le_of_ble_eq_true rfl) dX5_prizeBy_6 ⟨Nat.zero_le _, Nat.zero_le _⟩ rfl (fun H locs hw => ?_)
  refine lv_if_ne (tgt := 19) hx hb dX5_prizeBy_9 (by decide) (fun c9 => ?_) (fun c9 => ?_)
  · replace h := o_f c9 h
    refine lv_aload_n hx hb dX5_prizeBy_19 rfl (lv_at hl 0 rfl) ?_
    obtain ⟨q20, eq20, h⟩ := o_bd h
    refine kV (As := []) (rest := []) (st' := []) ⟨hx, hb, hml, hown, hts⟩ (kX5_laysBy l G eq20) (cwV 0 hts gX5_prizeBy_X5_laysBy rfl rfl rfl qqX5_laysBy ⟨Nat.le_of_ble_eq_true rfl, Nat.le_of_ble_eq_true rfl⟩) hw (rvMd hw) rfl hl.1 rfl (Nat.le_of_ble_eq_true rfl) dX5_prizeBy_20 ⟨Nat.zero_le _, Nat.zero_le _⟩ rfl (fun H locs hw => ?_)
    refine lv_aload_n hx hb dX5_prizeBy_23 rfl (lv_at hl 0 rfl) ?_
    obtain ⟨q24, eq24, h⟩ := o_bd h
    refine kV (As := []) (rest := []) (st' := [.int q24.1]) ⟨hx, hb, hml, hown, hts⟩ (kX5_goesToEnd l G eq24) (cwV 0 hts gX5_prizeBy_X5_goesToEnd rfl rfl rfl qqX5_goesToEnd ⟨Nat.le_of_ble_eq_true rfl, Nat.le_of_ble_eq_true rfl⟩) hw (rvMd hw) rfl hl.1 rfl (Nat.le_of_ble_eq_true rfl) dX5_prizeBy_24 ⟨Nat.zero_le _, Nat.zero_le _⟩ rfl (fun H locs hw => ?_)
    obtain ⟨k39, ek39, h⟩ := o_nm h
    have J39 : ∀ (y0_39 : Int32) (H : Heap) (locs : List Loc) (ls : Array Slot), sHw G s S q24.2 H locs → lv_has ls 3 [(0, .ref (sA G 9 0))] → k39 y0_39 = some q → W p l e rmX5_prizeBy s m args below meth c H locs 0 0 Q (F0 m 39 ls [.int y0_39]) := by
      intro y0_39 H locs ls hw hl h
      replace h := o_j1 ek39 h
      refine lv_istore_n (lv' := [(2, .int y0_39), (0, .ref (sA G 9 0))]) hx hb dX5_prizeBy_39 rfl hl (by decide) rfl (fun ls hl => ?_)
      refine lv_aload_n hx hb dX5_prizeBy_40 rfl (lv_at hl 1 rfl) ?_
      obtain ⟨q41, eq41, h⟩ := o_bd h
      refine kV (As := []) (rest := []) (st' := []) ⟨hx, hb, hml, hown, hts⟩ (kX5_laysBack l G eq41) (cwV 0 hts gX5_prizeBy_X5_laysBack rfl rfl rfl qqX5_laysBack ⟨Nat.le_of_ble_eq_true rfl, Nat.le_of_ble_eq_true rfl⟩) hw (rvMd hw) rfl hl.1 rfl (Nat.le_of_ble_eq_true rfl) dX5_prizeBy_41 ⟨Nat.zero_le _, Nat.zero_le _⟩ rfl (fun H locs hw => ?_)
      refine lv_aload_n hx hb dX5_prizeBy_44 rfl (lv_at hl 1 rfl) ?_
      refine lv_iload_n hx hb dX5_prizeBy_45 rfl (lv_at hl 0 rfl) ?_
      obtain ⟨q46, eq46, h⟩ := o_bd h
      refine kV (As := [.int y0_39]) (rest := []) (st' := [.int q46.1]) ⟨hx, hb, hml, hown, hts⟩ (kX5_orNone l G eq46) (cwV 1 hts gX5_prizeBy_X5_orNone rfl rfl rfl qqX5_orNone ⟨Nat.le_of_ble_eq_true rfl, Nat.le_of_ble_eq_true rfl⟩) hw (rvMd hw) rfl hl.1 rfl (Nat.le_of_ble_eq_true rfl) dX5_prizeBy_46 ⟨Nat.zero_le _, Nat.zero_le _⟩ rfl (fun H locs hw => ?_)
      exact rI hQ hx hb hr hlk hw dX5_prizeBy_49 (o_2a h) rfl (o_2b h)
    refine lv_if_eq (tgt := 38) hx hb dX5_prizeBy_27 (by decide) (fun c27 => ?_) (fun c27 => ?_)
    · replace h := o_t c27 h
      refine lv_iconst (v := -1) hx hb dX5_prizeBy_38 (by decide) ?_
      exact J39 (-1 : Int32) _ _ _ hw (lv_sub hl [0] rfl) h
    · replace h := o_f c27 h
      refine lv_aload_n hx hb dX5_prizeBy_30 rfl (lv_at hl 0 rfl) ?_
      refine lv_iload_n hx hb dX5_prizeBy_31 rfl (lv_at hl 1 rfl) ?_
      obtain ⟨q32, eq32, h⟩ := o_bd h
      refine kV (As := [.int a1]) (rest := []) (st' := [.int q32]) ⟨hx, hb, hml, hown, hts⟩ (kX5_prizeOf l G eq32) (cwV 1 hts gX5_prizeBy_X5_prizeOf rfl rfl rfl qqX5_prizeOf ⟨Nat.le_of_ble_eq_true rfl, Nat.le_of_ble_eq_true rfl⟩) hw (rvMd hw) rfl hl.1 rfl (Nat.le_of_ble_eq_true rfl) dX5_prizeBy_32 ⟨Nat.zero_le _, Nat.zero_le _⟩ rfl (fun H locs hw => ?_)
      refine lv_goto (tgt := 39) hx hb dX5_prizeBy_35 (by decide) ?_
      exact J39 q32 _ _ _ hw (lv_sub hl [0] rfl) h
  · replace h := o_t c9 h
    refine lv_aload_n hx hb dX5_prizeBy_12 rfl (lv_at hl 0 rfl) ?_
    refine lv_ldc (v := -1000000001) hx hb hown (hts (.constant RX5 38 (-1000000001)) (by decide +kernel)) dX5_prizeBy_13 ?_
    obtain ⟨q15, eq15, h⟩ := o_bd h
    refine kV (As := [.int (-1000000001 : Int32)]) (rest := []) (st' := [.int q15.1]) ⟨hx, hb, hml, hown, hts⟩ (kX5_finds l G eq15) (cwV 1 hts gX5_prizeBy_X5_finds rfl rfl rfl qqX5_finds ⟨Nat.le_of_ble_eq_true rfl, Nat.le_of_ble_eq_true rfl⟩) hw (rvMd hw) rfl hl.1 rfl (Nat.le_of_ble_eq_true rfl) dX5_prizeBy_15 ⟨Nat.zero_le _, Nat.zero_le _⟩ rfl (fun H locs hw => ?_)
    exact rI hQ hx hb hr hlk hw dX5_prizeBy_18 (o_2a h) rfl (o_2b h)
-- X5_leaders
def bX5_leaders_10 (rc10 : Int32 → Int32 → Int32 → sOb → Option (Int32 × sOb)) (x1_10 : Int32) (x2_10 : Int32) (x3_10 : Int32) (T_10 : sOb) : Option (Int32 × sOb) :=
  if (2000 : Int32) < x3_10 then ((fX5_laysBack T_10).bind fun q67 => some (x2_10, q67)) else ((fX5_firstAlone T_10).bind fun q18 => nm (fun (y0_40 : Int32) => nm (x2_10 + y0_40) fun v41 => nm (fun (y0_53 : Int32) => (fX5_goesOn T_10).bind fun q55 => nm (x3_10 + (1 : Int32)) fun v60 => rc10 y0_53 v41 v60 q55.2) fun k53 => if q18 < 0 then (k53 x1_10) else (k53 q18)) fun k40 => nm (k40 (0 : Int32)) fun k39 => if q18 < 0 then k39 else (if q18 = x1_10 then k39 else (k40 (1 : Int32))))
def fX5_leaders (M : sOb) : Option (Int32 × sOb) :=
  (fX5_laysBy M).bind fun q1 => fx4 bX5_leaders_10 FU (-1 : Int32) (0 : Int32) (0 : Int32) q1
def rmX5_leaders : Room := { frames := 5, cells := 0, slots := 0, locals := 116 }
theorem qqX5_leaders : yX5_leaders.cls = RX5 ∧ yX5_leaders.cls ≠ "java/lang/invoke/MethodHandle" ∧ yX5_leaders.cls ≠ "java/lang/invoke/VarHandle" ∧ (parseMethodDescriptor yX5_leaders.desc).map (fun d => d.parameters.length) = some 0 := by decide +kernel
set_option maxRecDepth 100000 in
set_option maxHeartbeats 4000000 in
theorem kX5_leaders (l : Launch) (G : sGl) {S : sWo} {M : sOb}  {q : (Int32 × sOb)}  (h : fX5_leaders M = some q) : sCt l G yX5_leaders wsX5_leaders rmX5_leaders [.ref (sA G 9 0)] S M (some (.int q.1)) S q.2 := by
  refine cMk (cc := cX5_leaders) (maxL := 6) (ret := (some .int)) (by decide) rfl (Nat.le_of_ble_eq_true rfl) ?_
  intro p e s m args below meth c Q hQ hx hb hr hlk hml hown hts hw ls hl
  have hown : s.vm.findClass RX5 = some m.cls := hown
  have hl : lv_has ls 6 [(0, .ref (sA G 9 0))] := hl
  unfold fX5_leaders at h
  refine lv_aload_n hx hb dX5_leaders_0 rfl (lv_at hl 0 rfl) ?_
  obtain ⟨q1, eq1, h⟩ := o_bd h
  refine kV (As := []) (rest := []) (st' := []) ⟨hx, hb, hml, hown, hts⟩ (kX5_laysBy l G eq1) (cwV 0 hts gX5_leaders_X5_laysBy rfl rfl rfl qqX5_laysBy ⟨Nat.le_of_ble_eq_true rfl, Nat.le_of_ble_eq_true rfl⟩) hw (rvMd hw) rfl hl.1 rfl (Nat.le_of_ble_eq_true rfl) dX5_leaders_1 ⟨Nat.zero_le _, Nat.zero_le _⟩ rfl (fun H locs hw => ?_)
  refine lv_iconst (v := -1) hx hb dX5_leaders_4 (by decide) ?_
  refine lv_istore_n (lv' := [(1, .int (-1 : Int32)), (0, .ref (sA G 9 0))]) hx hb dX5_leaders_5 rfl hl (by decide) rfl (fun ls hl => ?_)
  refine lv_iconst (v := 0) hx hb dX5_leaders_6 (by decide) ?_
  refine lv_istore_n (lv' := [(2, .int (0 : Int32)), (1, .int (-1 : Int32)), (0, .ref (sA G 9 0))]) hx hb dX5_leaders_7 rfl hl (by decide) rfl (fun ls hl => ?_)
  refine lv_iconst (v := 0) hx hb dX5_leaders_8 (by decide) ?_
  refine lv_istore_n (lv' := [(3, .int (0 : Int32)), (2, .int (0 : Int32)), (1, .int (-1 : Int32)), (0, .ref (sA G 9 0))]) hx hb dX5_leaders_9 rfl hl (by decide) rfl (fun ls hl => ?_)
  refine fx4_w (F := bX5_leaders_10) (P := fun x1_10 x2_10 x3_10 T_10 => ∀ (H : Heap) (locs : List Loc) (ls : Array Slot), sHw G s S T_10 H locs → lv_has ls 6 [(0, .ref (sA G 9 0)), (1, .int x1_10), (2, .int x2_10), (3, .int x3_10)] → W p l e rmX5_leaders s m args below meth c H locs 0 0 Q (F0 m 10 ls [])) ?_ _ _ _ _ _ h _ _ _ hw (lv_sub hl [3, 2, 1, 0] rfl)
  intro rc10 IH10 x1_10 x2_10 x3_10 T_10 h H locs ls hw hl
  unfold bX5_leaders_10 at h
  refine lv_iload_n hx hb dX5_leaders_10 rfl (lv_at hl 3 rfl) ?_
  refine lv_sipush (v := 2000) hx hb dX5_leaders_11 (by decide) ?_
  refine lv_icmp_gt (tgt := 66) hx hb dX5_leaders_14 (by decide) (fun c14 => ?_) (fun c14 => ?_)
  · replace h := o_t c14 h
    refine lv_aload_n hx hb dX5_leaders_66 rfl (lv_at hl 0 rfl) ?_
    obtain ⟨q67, eq67, h⟩ := o_bd h
    refine kV (As := []) (rest := []) (st' := []) ⟨hx, hb, hml, hown, hts⟩ (kX5_laysBack l G eq67) (cwV 0 hts gX5_leaders_X5_laysBack rfl rfl rfl qqX5_laysBack ⟨Nat.le_of_ble_eq_true rfl, Nat.le_of_ble_eq_true rfl⟩) hw (rvMd hw) rfl hl.1 rfl (Nat.le_of_ble_eq_true rfl) dX5_leaders_67 ⟨Nat.zero_le _, Nat.zero_le _⟩ rfl (fun H locs hw => ?_)
    refine lv_iload_n hx hb dX5_leaders_70 rfl (lv_at hl 2 rfl) ?_
    exact rI hQ hx hb hr hlk hw dX5_leaders_71 (o_2a h) rfl (o_2b h)
  · replace h := o_f c14 h
    refine lv_aload_n hx hb dX5_leaders_17 rfl (lv_at hl 0 rfl) ?_
    obtain ⟨q18, eq18, h⟩ := o_bd h
    refine kV (As := []) (rest := []) (st' := [.int q18]) ⟨hx, hb, hml, hown, hts⟩ (kX5_firstAlone l G eq18) (cwV 0 hts gX5_leaders_X5_firstAlone rfl rfl rfl qqX5_firstAlone ⟨Nat.le_of_ble_eq_true rfl, Nat.le_of_ble_eq_true rfl⟩) hw (rvMd hw) rfl hl.1 rfl (Nat.le_of_ble_eq_true rfl) dX5_leaders_18 ⟨Nat.zero_le _, Nat.zero_le _⟩ rfl (fun H locs hw => ?_)
    refine lv_istore (lv' := [(4, .int q18), (0, .ref (sA G 9 0)), (1, .int x1_10), (2, .int x2_10), (3, .int x3_10)]) hx hb dX5_leaders_21 hl (by decide) rfl (fun ls hl => ?_)
    refine lv_iload_n hx hb dX5_leaders_23 rfl (lv_at hl 3 rfl) ?_
    refine lv_iload hx hb dX5_leaders_24 (lv_at hl 0 rfl) ?_
    obtain ⟨k40, ek40, h⟩ := o_nm h
    have J40 : ∀ (y0_40 : Int32) (H : Heap) (locs : List Loc) (ls : Array Slot), sHw G s S T_10 H locs → lv_has ls 6 [(0, .ref (sA G 9 0)), (1, .int x1_10), (3, .int x3_10), (4, .int q18)] → k40 y0_40 = some q → W p l e rmX5_leaders s m args below meth c H locs 0 0 Q (F0 m 40 ls [.int y0_40, .int x2_10]) := by
      intro y0_40 H locs ls hw hl h
      replace h := o_j1 ek40 h
      refine lv_iadd hx hb dX5_leaders_40 ?_
      refine lv_topi (fun v41 ev41 => ?_)
      replace h := o_nx ev41 h
      refine lv_istore_n (lv' := [(2, .int v41), (0, .ref (sA G 9 0)), (1, .int x1_10), (3, .int x3_10), (4, .int q18)]) hx hb dX5_leaders_41 rfl hl (by decide) rfl (fun ls hl => ?_)
      refine lv_iload hx hb dX5_leaders_42 (lv_at hl 4 rfl) ?_
      obtain ⟨k53, ek53, h⟩ := o_nm h
      have J53 : ∀ (y0_53 : Int32) (H : Heap) (locs : List Loc) (ls : Array Slot), sHw G s S T_10 H locs → lv_has ls 6 [(0, .ref (sA G 9 0)), (2, .int v41), (3, .int x3_10)] → k53 y0_53 = some q → W p l e rmX5_leaders s m args below meth c H locs 0 0 Q (F0 m 53 ls [.int y0_53]) := by
        intro y0_53 H locs ls hw hl h
        replace h := o_j1 ek53 h
        refine lv_istore_n (lv' := [(1, .int y0_53), (0, .ref (sA G 9 0)), (2, .int v41), (3, .int x3_10)]) hx hb dX5_leaders_53 rfl hl (by decide) rfl (fun ls hl => ?_)
        refine lv_aload_n hx hb dX5_leaders_54 rfl (lv_at hl 1 rfl) ?_
        obtain ⟨q55, eq55, h⟩ := o_bd h
        refine kV (As := []) (rest := []) (st' := [.int q55.1]) ⟨hx, hb, hml, hown, hts⟩ (kX5_goesOn l G eq55) (cwV 0 hts gX5_leaders_X5_goesOn rfl rfl rfl qqX5_goesOn ⟨Nat.le_of_ble_eq_true rfl, Nat.le_of_ble_eq_true rfl⟩) hw (rvMd hw) rfl hl.1 rfl (Nat.le_of_ble_eq_true rfl) dX5_leaders_55 ⟨Nat.zero_le _, Nat.zero_le _⟩ rfl (fun H locs hw => ?_)
        refine lv_istore (lv' := [(5, .int q55.1), (1, .int y0_53), (0, .ref (sA G 9 0)), (2, .int v41), (3, .int x3_10)]) hx hb dX5_leaders_58 hl (by decide) rfl (fun ls hl => ?_)
        obtain ⟨v60, ev60, h⟩ := o_nm h
        refine lv_iinc (v := v60) (lv' := [(3, .int v60), (5, .int q55.1), (1, .int y0_53), (0, .ref (sA G 9 0)), (2, .int v41)]) hx hb dX5_leaders_60 hl (k := 4) rfl (by rw [ev60]; rfl) (by decide) rfl (fun ls hl => ?_)
        refine lv_goto (tgt := 10) hx hb dX5_leaders_63 (by decide) ?_
        exact IH10 y0_53 v41 v60 q55.2 h _ _ _ hw (lv_sub hl [3, 2, 4, 0] rfl)
      refine lv_if_lt (tgt := 52) hx hb dX5_leaders_44 (by decide) (fun c44 => ?_) (fun c44 => ?_)
      · replace h := o_t c44 h
        refine lv_iload_n hx hb dX5_leaders_52 rfl (lv_at hl 2 rfl) ?_
        exact J53 x1_10 _ _ _ hw (lv_sub hl [1, 0, 3] rfl) h
      · replace h := o_f c44 h
        refine lv_iload hx hb dX5_leaders_47 (lv_at hl 4 rfl) ?_
        refine lv_goto (tgt := 53) hx hb dX5_leaders_49 (by decide) ?_
        exact J53 q18 _ _ _ hw (lv_sub hl [1, 0, 3] rfl) h
    obtain ⟨k39, ek39, h⟩ := o_nm h
    have J39 : ∀ (H : Heap) (locs : List Loc) (ls : Array Slot), sHw G s S T_10 H locs → lv_has ls 6 [(0, .ref (sA G 9 0)), (1, .int x1_10), (3, .int x3_10), (4, .int q18)] → k39 = some q → W p l e rmX5_leaders s m args below meth c H locs 0 0 Q (F0 m 39 ls [.int x2_10]) := by
      intro H locs ls hw hl h
      replace h := o_j0 ek39 h
      refine lv_iconst (v := 0) hx hb dX5_leaders_39 (by decide) ?_
      exact J40 (0 : Int32) _ _ _ hw (lv_sub hl [0, 1, 2, 3] rfl) h
    refine lv_if_lt (tgt := 39) hx hb dX5_leaders_26 (by decide) (fun c26 => ?_) (fun c26 => ?_)
    · replace h := o_t c26 h
      exact J39 _ _ _ hw (lv_sub hl [1, 2, 4, 0] rfl) h
    · replace h := o_f c26 h
      refine lv_iload hx hb dX5_leaders_29 (lv_at hl 0 rfl) ?_
      refine lv_iload_n hx hb dX5_leaders_31 rfl (lv_at hl 2 rfl) ?_
      refine lv_icmp_eq (tgt := 39) hx hb dX5_leaders_32 (by decide) (fun c32 => ?_) (fun c32 => ?_)
      · replace h := o_t c32 h
        exact J39 _ _ _ hw (lv_sub hl [1, 2, 4, 0] rfl) h
      · replace h := o_f c32 h
        refine lv_iconst (v := 1) hx hb dX5_leaders_35 (by decide) ?_
        refine lv_goto (tgt := 40) hx hb dX5_leaders_36 (by decide) ?_
        exact J40 (1 : Int32) _ _ _ hw (lv_sub hl [1, 2, 4, 0] rfl) h
-- X5_passes
def bX5_passes_37 (a1 : Int32) (a2 : Int32) (k83 : Int32 → sOb → Option (Int32 × sOb)) (rc37 : Int32 → Int32 → sOb → Option (Int32 × sOb)) (x3_37 : Int32) (x4_37 : Int32) (T_37 : sOb) : Option (Int32 × sOb) :=
  if (2000 : Int32) < x4_37 then (k83 x3_37 T_37) else (if 0 ≤ x3_37 then (k83 x3_37 T_37) else ((fX5_is T_37 a1 (5 : Int32)).bind fun q52 => (fX5_is T_37 a2 (5 : Int32)).bind fun q58 => nm (fun (y0_70 : Int32) => (fX5_goesOn T_37).bind fun q72 => nm (x4_37 + (1 : Int32)) fun v77 => rc37 y0_70 v77 q72.2) fun k70 => if q52 ≤ q58 then (k70 (-1 : Int32)) else (k70 x4_37)))
def fX5_passes (M : sOb) (a1 : Int32) (a2 : Int32) : Option (Int32 × sOb) :=
  (fX5_isRunner M a1).bind fun q2 => if q2 = 0 then ((fX5_finds M (-1000000001 : Int32)).bind fun q24 => some (q24.1, q24.2)) else ((fX5_isRunner M a2).bind fun q10 => if q10 = 0 then ((fX5_finds M (-1000000001 : Int32)).bind fun q24 => some (q24.1, q24.2)) else (if a1 = a2 then ((fX5_finds M (-1000000001 : Int32)).bind fun q24 => some (q24.1, q24.2)) else ((fX5_laysBy M).bind fun q29 => nm (fun (x3_83 : Int32) (T_83 : sOb) => (fX5_laysBack T_83).bind fun q84 => (fX5_orNone q84 x3_83).bind fun q89 => some (q89.1, q89.2)) fun k83 => fx3 (bX5_passes_37 a1 a2 k83) FU (-1 : Int32) (0 : Int32) q29)))
def rmX5_passes : Room := { frames := 5, cells := 0, slots := 0, locals := 116 }
theorem qqX5_passes : yX5_passes.cls = RX5 ∧ yX5_passes.cls ≠ "java/lang/invoke/MethodHandle" ∧ yX5_passes.cls ≠ "java/lang/invoke/VarHandle" ∧ (parseMethodDescriptor yX5_passes.desc).map (fun d => d.parameters.length) = some 2 := by decide +kernel
set_option maxRecDepth 100000 in
set_option maxHeartbeats 4000000 in
theorem kX5_passes (l : Launch) (G : sGl) {S : sWo} {M : sOb} {a1 : Int32} {a2 : Int32} {q : (Int32 × sOb)}  (h : fX5_passes M a1 a2 = some q) : sCt l G yX5_passes wsX5_passes rmX5_passes [.ref (sA G 9 0), .int a1, .int a2] S M (some (.int q.1)) S q.2 := by
  refine cMk (cc := cX5_passes) (maxL := 6) (ret := (some .int)) (by decide) rfl (Nat.le_of_ble_eq_true rfl) ?_
  intro p e s m args below meth c Q hQ hx hb hr hlk hml hown hts hw ls hl
  have hown : s.vm.findClass RX5 = some m.cls := hown
  have hl : lv_has ls 6 [(0, .ref (sA G 9 0)), (1, .int a1), (2, .int a2)] := hl
  unfold fX5_passes at h
  refine lv_aload_n hx hb dX5_passes_0 rfl (lv_at hl 0 rfl) ?_
  refine lv_iload_n hx hb dX5_passes_1 rfl (lv_at hl 1 rfl) ?_
  obtain ⟨q2, eq2, h⟩ := o_bd h
  refine kV (As := [.int a1]) (rest := []) (st' := [.int q2]) ⟨hx, hb, hml, hown, hts⟩ (kX5_isRunner l G eq2) (cwV 1 hts gX5_passes_X5_isRunner rfl rfl rfl qqX5_isRunner ⟨Nat.le_of_ble_eq_true rfl, Nat.le_of_ble_eq_true rfl⟩) hw (rvMd hw) rfl hl.1 rfl (Nat.le_of_ble_eq_true rfl) dX5_passes_2 ⟨Nat.zero_le _, Nat.zero_le _⟩ rfl (fun H locs hw => ?_)
  refine lv_if_eq (tgt := 21) hx hb dX5_passes_5 (by decide) (fun c5 => ?_) (fun c5 => ?_)
  · replace h := o_t c5 h
    refine lv_aload_n hx hb dX5_passes_21 rfl (lv_at hl 0 rfl) ?_
    refine lv_ldc (v := -1000000001) hx hb hown (hts (.constant RX5 38 (-1000000001)) (by decide +kernel)) dX5_passes_22 ?_
    obtain ⟨q24, eq24, h⟩ := o_bd h
    refine kV (As := [.int (-1000000001 : Int32)]) (rest := []) (st' := [.int q24.1]) ⟨hx, hb, hml, hown, hts⟩ (kX5_finds l G eq24) (cwV 1 hts gX5_passes_X5_finds rfl rfl rfl qqX5_finds ⟨Nat.le_of_ble_eq_true rfl, Nat.le_of_ble_eq_true rfl⟩) hw (rvMd hw) rfl hl.1 rfl (Nat.le_of_ble_eq_true rfl) dX5_passes_24 ⟨Nat.zero_le _, Nat.zero_le _⟩ rfl (fun H locs hw => ?_)
    exact rI hQ hx hb hr hlk hw dX5_passes_27 (o_2a h) rfl (o_2b h)
  · replace h := o_f c5 h
    refine lv_aload_n hx hb dX5_passes_8 rfl (lv_at hl 0 rfl) ?_
    refine lv_iload_n hx hb dX5_passes_9 rfl (lv_at hl 2 rfl) ?_
    obtain ⟨q10, eq10, h⟩ := o_bd h
    refine kV (As := [.int a2]) (rest := []) (st' := [.int q10]) ⟨hx, hb, hml, hown, hts⟩ (kX5_isRunner l G eq10) (cwV 1 hts gX5_passes_X5_isRunner rfl rfl rfl qqX5_isRunner ⟨Nat.le_of_ble_eq_true rfl, Nat.le_of_ble_eq_true rfl⟩) hw (rvMd hw) rfl hl.1 rfl (Nat.le_of_ble_eq_true rfl) dX5_passes_10 ⟨Nat.zero_le _, Nat.zero_le _⟩ rfl (fun H locs hw => ?_)
    refine lv_if_eq (tgt := 21) hx hb dX5_passes_13 (by decide) (fun c13 => ?_) (fun c13 => ?_)
    · replace h := o_t c13 h
      refine lv_aload_n hx hb dX5_passes_21 rfl (lv_at hl 0 rfl) ?_
      refine lv_ldc (v := -1000000001) hx hb hown (hts (.constant RX5 38 (-1000000001)) (by decide +kernel)) dX5_passes_22 ?_
      obtain ⟨q24, eq24, h⟩ := o_bd h
      refine kV (As := [.int (-1000000001 : Int32)]) (rest := []) (st' := [.int q24.1]) ⟨hx, hb, hml, hown, hts⟩ (kX5_finds l G eq24) (cwV 1 hts gX5_passes_X5_finds rfl rfl rfl qqX5_finds ⟨Nat.le_of_ble_eq_true rfl, Nat.le_of_ble_eq_true rfl⟩) hw (rvMd hw) rfl hl.1 rfl (Nat.le_of_ble_eq_true rfl) dX5_passes_24 ⟨Nat.zero_le _, Nat.zero_le _⟩ rfl (fun H locs hw => ?_)
      exact rI hQ hx hb hr hlk hw dX5_passes_27 (o_2a h) rfl (o_2b h)
    · replace h := o_f c13 h
      refine lv_iload_n hx hb dX5_passes_16 rfl (lv_at hl 1 rfl) ?_
      refine lv_iload_n hx hb dX5_passes_17 rfl (lv_at hl 2 rfl) ?_
      refine lv_icmp_ne (tgt := 28) hx hb dX5_passes_18 (by decide) (fun c18 => ?_) (fun c18 => ?_)
      · replace h := o_f c18 h
        refine lv_aload_n hx hb dX5_passes_28 rfl (lv_at hl 0 rfl) ?_
        obtain ⟨q29, eq29, h⟩ := o_bd h
        refine kV (As := []) (rest := []) (st' := []) ⟨hx, hb, hml, hown, hts⟩ (kX5_laysBy l G eq29) (cwV 0 hts gX5_passes_X5_laysBy rfl rfl rfl qqX5_laysBy ⟨Nat.le_of_ble_eq_true rfl, Nat.le_of_ble_eq_true rfl⟩) hw (rvMd hw) rfl hl.1 rfl (Nat.le_of_ble_eq_true rfl) dX5_passes_29 ⟨Nat.zero_le _, Nat.zero_le _⟩ rfl (fun H locs hw => ?_)
        refine lv_iconst (v := -1) hx hb dX5_passes_32 (by decide) ?_
        refine lv_istore_n (lv' := [(3, .int (-1 : Int32)), (0, .ref (sA G 9 0)), (1, .int a1), (2, .int a2)]) hx hb dX5_passes_33 rfl hl (by decide) rfl (fun ls hl => ?_)
        refine lv_iconst (v := 0) hx hb dX5_passes_34 (by decide) ?_
        refine lv_istore (lv' := [(4, .int (0 : Int32)), (3, .int (-1 : Int32)), (0, .ref (sA G 9 0)), (1, .int a1), (2, .int a2)]) hx hb dX5_passes_35 hl (by decide) rfl (fun ls hl => ?_)
        obtain ⟨k83, ek83, h⟩ := o_nm h
        have J83 : ∀ (x3_83 : Int32) (T_83 : sOb) (H : Heap) (locs : List Loc) (ls : Array Slot), sHw G s S T_83 H locs → lv_has ls 6 [(0, .ref (sA G 9 0)), (3, .int x3_83)] → k83 x3_83 T_83 = some q → W p l e rmX5_passes s m args below meth c H locs 0 0 Q (F0 m 83 ls []) := by
          intro x3_83 T_83 H locs ls hw hl h
          replace h := o_j2 ek83 h
          refine lv_aload_n hx hb dX5_passes_83 rfl (lv_at hl 0 rfl) ?_
          obtain ⟨q84, eq84, h⟩ := o_bd h
          refine kV (As := []) (rest := []) (st' := []) ⟨hx, hb, hml, hown, hts⟩ (kX5_laysBack l G eq84) (cwV 0 hts gX5_passes_X5_laysBack rfl rfl rfl qqX5_laysBack ⟨Nat.le_of_ble_eq_true rfl, Nat.le_of_ble_eq_true rfl⟩) hw (rvMd hw) rfl hl.1 rfl (Nat.le_of_ble_eq_true rfl) dX5_passes_84 ⟨Nat.zero_le _, Nat.zero_le _⟩ rfl (fun H locs hw => ?_)
          refine lv_aload_n hx hb dX5_passes_87 rfl (lv_at hl 0 rfl) ?_
          refine lv_iload_n hx hb dX5_passes_88 rfl (lv_at hl 1 rfl) ?_
          obtain ⟨q89, eq89, h⟩ := o_bd h
          refine kV (As := [.int x3_83]) (rest := []) (st' := [.int q89.1]) ⟨hx, hb, hml, hown, hts⟩ (kX5_orNone l G eq89) (cwV 1 hts gX5_passes_X5_orNone rfl rfl rfl qqX5_orNone ⟨Nat.le_of_ble_eq_true rfl, Nat.le_of_ble_eq_true rfl⟩) hw (rvMd hw) rfl hl.1 rfl (Nat.le_of_ble_eq_true rfl) dX5_passes_89 ⟨Nat.zero_le _, Nat.zero_le _⟩ rfl (fun H locs hw => ?_)
          exact rI hQ hx hb hr hlk hw dX5_passes_92 (o_2a h) rfl (o_2b h)
        refine fx3_w (F := (bX5_passes_37 a1 a2 k83)) (P := fun x3_37 x4_37 T_37 => ∀ (H : Heap) (locs : List Loc) (ls : Array Slot), sHw G s S T_37 H locs → lv_has ls 6 [(0, .ref (sA G 9 0)), (1, .int a1), (2, .int a2), (3, .int x3_37), (4, .int x4_37)] → W p l e rmX5_passes s m args below meth c H locs 0 0 Q (F0 m 37 ls [])) ?_ _ _ _ _ h _ _ _ hw (lv_sub hl [2, 3, 4, 1, 0] rfl)
        intro rc37 IH37 x3_37 x4_37 T_37 h H locs ls hw hl
        unfold bX5_passes_37 at h
        refine lv_iload hx hb dX5_passes_37 (lv_at hl 4 rfl) ?_
        refine lv_sipush (v := 2000) hx hb dX5_passes_39 (by decide) ?_
        refine lv_icmp_gt (tgt := 83) hx hb dX5_passes_42 (by decide) (fun c42 => ?_) (fun c42 => ?_)
        · replace h := o_t c42 h
          exact J83 x3_37 T_37 _ _ _ hw (lv_sub hl [0, 3] rfl) h
        · replace h := o_f c42 h
          refine lv_iload_n hx hb dX5_passes_45 rfl (lv_at hl 3 rfl) ?_
          refine lv_if_ge (tgt := 83) hx hb dX5_passes_46 (by decide) (fun c46 => ?_) (fun c46 => ?_)
          · replace h := o_t c46 h
            exact J83 x3_37 T_37 _ _ _ hw (lv_sub hl [0, 3] rfl) h
          · replace h := o_f c46 h
            refine lv_aload_n hx hb dX5_passes_49 rfl (lv_at hl 0 rfl) ?_
            refine lv_iload_n hx hb dX5_passes_50 rfl (lv_at hl 1 rfl) ?_
            refine lv_iconst (v := 5) hx hb dX5_passes_51 (by decide) ?_
            obtain ⟨q52, eq52, h⟩ := o_bd h
            refine kV (As := [.int a1, .int (5 : Int32)]) (rest := []) (st' := [.int q52]) ⟨hx, hb, hml, hown, hts⟩ (kX5_is l G eq52) (cwV 2 hts gX5_passes_X5_is rfl rfl rfl qqX5_is ⟨Nat.le_of_ble_eq_true rfl, Nat.le_of_ble_eq_true rfl⟩) hw (rvMd hw) rfl hl.1 rfl (Nat.le_of_ble_eq_true rfl) dX5_passes_52 ⟨Nat.zero_le _, Nat.zero_le _⟩ rfl (fun H locs hw => ?_)
            refine lv_aload_n hx hb dX5_passes_55 rfl (lv_at hl 0 rfl) ?_
            refine lv_iload_n hx hb dX5_passes_56 rfl (lv_at hl 2 rfl) ?_
            refine lv_iconst (v := 5) hx hb dX5_passes_57 (by decide) ?_
            obtain ⟨q58, eq58, h⟩ := o_bd h
            refine kV (As := [.int a2, .int (5 : Int32)]) (rest := [.int q52]) (st' := [.int q58, .int q52]) ⟨hx, hb, hml, hown, hts⟩ (kX5_is l G eq58) (cwV 2 hts gX5_passes_X5_is rfl rfl rfl qqX5_is ⟨Nat.le_of_ble_eq_true rfl, Nat.le_of_ble_eq_true rfl⟩) hw (rvMd hw) rfl hl.1 rfl (Nat.le_of_ble_eq_true rfl) dX5_passes_58 ⟨Nat.zero_le _, Nat.zero_le _⟩ rfl (fun H locs hw => ?_)
            obtain ⟨k70, ek70, h⟩ := o_nm h
            have J70 : ∀ (y0_70 : Int32) (H : Heap) (locs : List Loc) (ls : Array Slot), sHw G s S T_37 H locs → lv_has ls 6 [(0, .ref (sA G 9 0)), (1, .int a1), (2, .int a2), (4, .int x4_37)] → k70 y0_70 = some q → W p l e rmX5_passes s m args below meth c H locs 0 0 Q (F0 m 70 ls [.int y0_70]) := by
              intro y0_70 H locs ls hw hl h
              replace h := o_j1 ek70 h
              refine lv_istore_n (lv' := [(3, .int y0_70), (0, .ref (sA G 9 0)), (1, .int a1), (2, .int a2), (4, .int x4_37)]) hx hb dX5_passes_70 rfl hl (by decide) rfl (fun ls hl => ?_)
              refine lv_aload_n hx hb dX5_passes_71 rfl (lv_at hl 1 rfl) ?_
              obtain ⟨q72, eq72, h⟩ := o_bd h
              refine kV (As := []) (rest := []) (st' := [.int q72.1]) ⟨hx, hb, hml, hown, hts⟩ (kX5_goesOn l G eq72) (cwV 0 hts gX5_passes_X5_goesOn rfl rfl rfl qqX5_goesOn ⟨Nat.le_of_ble_eq_true rfl, Nat.le_of_ble_eq_true rfl⟩) hw (rvMd hw) rfl hl.1 rfl (Nat.le_of_ble_eq_true rfl) dX5_passes_72 ⟨Nat.zero_le _, Nat.zero_le _⟩ rfl (fun H locs hw => ?_)
              refine lv_istore (lv' := [(5, .int q72.1), (3, .int y0_70), (0, .ref (sA G 9 0)), (1, .int a1), (2, .int a2), (4, .int x4_37)]) hx hb dX5_passes_75 hl (by decide) rfl (fun ls hl => ?_)
              obtain ⟨v77, ev77, h⟩ := o_nm h
              refine lv_iinc (v := v77) (lv' := [(4, .int v77), (5, .int q72.1), (3, .int y0_70), (0, .ref (sA G 9 0)), (1, .int a1), (2, .int a2)]) hx hb dX5_passes_77 hl (k := 5) rfl (by rw [ev77]; rfl) (by decide) rfl (fun ls hl => ?_)
              refine lv_goto (tgt := 37) hx hb dX5_passes_80 (by decide) ?_
              exact IH37 y0_70 v77 q72.2 h _ _ _ hw (lv_sub hl [3, 4, 5, 2, 0] rfl)
            refine lv_icmp_le (tgt := 69) hx hb dX5_passes_61 (by decide) (fun c61 => ?_) (fun c61 => ?_)
            · replace h := o_t c61 h
              refine lv_iconst (v := -1) hx hb dX5_passes_69 (by decide) ?_
              exact J70 (-1 : Int32) _ _ _ hw (lv_sub hl [0, 1, 2, 4] rfl) h
            · replace h := o_f c61 h
              refine lv_iload hx hb dX5_passes_64 (lv_at hl 4 rfl) ?_
              refine lv_goto (tgt := 70) hx hb dX5_passes_66 (by decide) ?_
              exact J70 x4_37 _ _ _ hw (lv_sub hl [0, 1, 2, 4] rfl) h
      · replace h := o_t c18 h
        refine lv_aload_n hx hb dX5_passes_21 rfl (lv_at hl 0 rfl) ?_
        refine lv_ldc (v := -1000000001) hx hb hown (hts (.constant RX5 38 (-1000000001)) (by decide +kernel)) dX5_passes_22 ?_
        obtain ⟨q24, eq24, h⟩ := o_bd h
        refine kV (As := [.int (-1000000001 : Int32)]) (rest := []) (st' := [.int q24.1]) ⟨hx, hb, hml, hown, hts⟩ (kX5_finds l G eq24) (cwV 1 hts gX5_passes_X5_finds rfl rfl rfl qqX5_finds ⟨Nat.le_of_ble_eq_true rfl, Nat.le_of_ble_eq_true rfl⟩) hw (rvMd hw) rfl hl.1 rfl (Nat.le_of_ble_eq_true rfl) dX5_passes_24 ⟨Nat.zero_le _, Nat.zero_le _⟩ rfl (fun H locs hw => ?_)
        exact rI hQ hx hb hr hlk hw dX5_passes_27 (o_2a h) rfl (o_2b h)
-- X5_races
def fX5_races (M : sOb) : Option (Int32 × sOb) :=
  (fX5_lines M).bind fun q1 => (fX5_goesToEnd q1).bind fun q5 => if q5.1 = 0 then (some ((-1 : Int32), q5.2)) else ((fX5_prizeOf q5.2 (q5.2.2.1 0 (3 : Int32).toNatClampNeg)).bind fun q18 => some (q18, q5.2))
def rmX5_races : Room := { frames := 6, cells := 0, slots := 0, locals := 138 }
theorem qqX5_races : yX5_races.cls = RX5 ∧ yX5_races.cls ≠ "java/lang/invoke/MethodHandle" ∧ yX5_races.cls ≠ "java/lang/invoke/VarHandle" ∧ (parseMethodDescriptor yX5_races.desc).map (fun d => d.parameters.length) = some 0 := by decide +kernel
set_option maxRecDepth 100000 in
set_option maxHeartbeats 4000000 in
theorem kX5_races (l : Launch) (G : sGl) {S : sWo} {M : sOb}  {q : (Int32 × sOb)}  (h : fX5_races M = some q) : sCt l G yX5_races wsX5_races rmX5_races [.ref (sA G 9 0)] S M (some (.int q.1)) S q.2 := by
  refine cMk (cc := cX5_races) (maxL := 1) (ret := (some .int)) (by decide) rfl (Nat.le_of_ble_eq_true rfl) ?_
  intro p e s m args below meth c Q hQ hx hb hr hlk hml hown hts hw ls hl
  have hown : s.vm.findClass RX5 = some m.cls := hown
  have hl : lv_has ls 1 [(0, .ref (sA G 9 0))] := hl
  have hiX5 : ∀ w ∈ u_ws RX5 TX5 15, w ∈ wsX5_races := by decide +kernel
  unfold fX5_races at h
  refine lv_aload_n hx hb dX5_races_0 rfl (lv_at hl 0 rfl) ?_
  obtain ⟨q1, eq1, h⟩ := o_bd h
  refine kV (As := []) (rest := []) (st' := []) ⟨hx, hb, hml, hown, hts⟩ (kX5_lines l G eq1) (cwV 0 hts gX5_races_X5_lines rfl rfl rfl qqX5_lines ⟨Nat.le_of_ble_eq_true rfl, Nat.le_of_ble_eq_true rfl⟩) hw (rvMd hw) rfl hl.1 rfl (Nat.le_of_ble_eq_true rfl) dX5_races_1 ⟨Nat.zero_le _, Nat.zero_le _⟩ rfl (fun H locs hw => ?_)
  refine lv_aload_n hx hb dX5_races_4 rfl (lv_at hl 0 rfl) ?_
  obtain ⟨q5, eq5, h⟩ := o_bd h
  refine kV (As := []) (rest := []) (st' := [.int q5.1]) ⟨hx, hb, hml, hown, hts⟩ (kX5_goesToEnd l G eq5) (cwV 0 hts gX5_races_X5_goesToEnd rfl rfl rfl qqX5_goesToEnd ⟨Nat.le_of_ble_eq_true rfl, Nat.le_of_ble_eq_true rfl⟩) hw (rvMd hw) rfl hl.1 rfl (Nat.le_of_ble_eq_true rfl) dX5_races_5 ⟨Nat.zero_le _, Nat.zero_le _⟩ rfl (fun H locs hw => ?_)
  refine lv_if_eq (tgt := 24) hx hb dX5_races_8 (by decide) (fun c8 => ?_) (fun c8 => ?_)
  · replace h := o_t c8 h
    refine lv_iconst (v := -1) hx hb dX5_races_24 (by decide) ?_
    exact rI hQ hx hb hr hlk hw dX5_races_25 (o_2a h) rfl (o_2b h)
  · replace h := o_f c8 h
    refine lv_aload_n hx hb dX5_races_11 rfl (lv_at hl 0 rfl) ?_
    refine lv_aload_n hx hb dX5_races_12 rfl (lv_at hl 0 rfl) ?_
    refine gMd (v := .ref (sA G 9 1)) hx hb hts hiX5 hown hw 0 (by decide) (hts (.fieldLink RX5 7 "SecondHomeModel" "s" "[I") (by decide +kernel)) rfl dX5_races_13 ?_
    refine lv_iconst (v := 3) hx hb dX5_races_16 (by decide) ?_
    refine ldMd hx hb hw 0 (by decide) (n := 77) rfl (by decide) dX5_races_17 ?_
    obtain ⟨q18, eq18, h⟩ := o_bd h
    refine kV (As := [.int (q5.2.2.1 0 (3 : Int32).toNatClampNeg)]) (rest := []) (st' := [.int q18]) ⟨hx, hb, hml, hown, hts⟩ (kX5_prizeOf l G eq18) (cwV 1 hts gX5_races_X5_prizeOf rfl rfl rfl qqX5_prizeOf ⟨Nat.le_of_ble_eq_true rfl, Nat.le_of_ble_eq_true rfl⟩) hw (rvMd hw) rfl hl.1 rfl (Nat.le_of_ble_eq_true rfl) dX5_races_18 ⟨Nat.zero_le _, Nat.zero_le _⟩ rfl (fun H locs hw => ?_)
    refine lv_goto (tgt := 25) hx hb dX5_races_21 (by decide) ?_
    exact rI hQ hx hb hr hlk hw dX5_races_25 (o_2a h) rfl (o_2b h)
-- X5_race
def fX5_race (M : sOb) : Option (Int32 × sOb) :=
  (fX5_laysBy M).bind fun q1 => (fX5_races q1).bind fun q5 => (fX5_laysBack q5.2).bind fun q10 => (fX5_orNone q10 q5.1).bind fun q15 => some (q15.1, q15.2)
def rmX5_race : Room := { frames := 7, cells := 0, slots := 0, locals := 158 }
theorem qqX5_race : yX5_race.cls = RX5 ∧ yX5_race.cls ≠ "java/lang/invoke/MethodHandle" ∧ yX5_race.cls ≠ "java/lang/invoke/VarHandle" ∧ (parseMethodDescriptor yX5_race.desc).map (fun d => d.parameters.length) = some 0 := by decide +kernel
set_option maxRecDepth 100000 in
set_option maxHeartbeats 4000000 in
theorem kX5_race (l : Launch) (G : sGl) {S : sWo} {M : sOb}  {q : (Int32 × sOb)}  (h : fX5_race M = some q) : sCt l G yX5_race wsX5_race rmX5_race [.ref (sA G 9 0)] S M (some (.int q.1)) S q.2 := by
  refine cMk (cc := cX5_race) (maxL := 2) (ret := (some .int)) (by decide) rfl (Nat.le_of_ble_eq_true rfl) ?_
  intro p e s m args below meth c Q hQ hx hb hr hlk hml hown hts hw ls hl
  have hown : s.vm.findClass RX5 = some m.cls := hown
  have hl : lv_has ls 2 [(0, .ref (sA G 9 0))] := hl
  unfold fX5_race at h
  refine lv_aload_n hx hb dX5_race_0 rfl (lv_at hl 0 rfl) ?_
  obtain ⟨q1, eq1, h⟩ := o_bd h
  refine kV (As := []) (rest := []) (st' := []) ⟨hx, hb, hml, hown, hts⟩ (kX5_laysBy l G eq1) (cwV 0 hts gX5_race_X5_laysBy rfl rfl rfl qqX5_laysBy ⟨Nat.le_of_ble_eq_true rfl, Nat.le_of_ble_eq_true rfl⟩) hw (rvMd hw) rfl hl.1 rfl (Nat.le_of_ble_eq_true rfl) dX5_race_1 ⟨Nat.zero_le _, Nat.zero_le _⟩ rfl (fun H locs hw => ?_)
  refine lv_aload_n hx hb dX5_race_4 rfl (lv_at hl 0 rfl) ?_
  obtain ⟨q5, eq5, h⟩ := o_bd h
  refine kV (As := []) (rest := []) (st' := [.int q5.1]) ⟨hx, hb, hml, hown, hts⟩ (kX5_races l G eq5) (cwV 0 hts gX5_race_X5_races rfl rfl rfl qqX5_races ⟨Nat.le_of_ble_eq_true rfl, Nat.le_of_ble_eq_true rfl⟩) hw (rvMd hw) rfl hl.1 rfl (Nat.le_of_ble_eq_true rfl) dX5_race_5 ⟨Nat.zero_le _, Nat.zero_le _⟩ rfl (fun H locs hw => ?_)
  refine lv_istore_n (lv' := [(1, .int q5.1), (0, .ref (sA G 9 0))]) hx hb dX5_race_8 rfl hl (by decide) rfl (fun ls hl => ?_)
  refine lv_aload_n hx hb dX5_race_9 rfl (lv_at hl 1 rfl) ?_
  obtain ⟨q10, eq10, h⟩ := o_bd h
  refine kV (As := []) (rest := []) (st' := []) ⟨hx, hb, hml, hown, hts⟩ (kX5_laysBack l G eq10) (cwV 0 hts gX5_race_X5_laysBack rfl rfl rfl qqX5_laysBack ⟨Nat.le_of_ble_eq_true rfl, Nat.le_of_ble_eq_true rfl⟩) hw (rvMd hw) rfl hl.1 rfl (Nat.le_of_ble_eq_true rfl) dX5_race_10 ⟨Nat.zero_le _, Nat.zero_le _⟩ rfl (fun H locs hw => ?_)
  refine lv_aload_n hx hb dX5_race_13 rfl (lv_at hl 1 rfl) ?_
  refine lv_iload_n hx hb dX5_race_14 rfl (lv_at hl 0 rfl) ?_
  obtain ⟨q15, eq15, h⟩ := o_bd h
  refine kV (As := [.int q5.1]) (rest := []) (st' := [.int q15.1]) ⟨hx, hb, hml, hown, hts⟩ (kX5_orNone l G eq15) (cwV 1 hts gX5_race_X5_orNone rfl rfl rfl qqX5_orNone ⟨Nat.le_of_ble_eq_true rfl, Nat.le_of_ble_eq_true rfl⟩) hw (rvMd hw) rfl hl.1 rfl (Nat.le_of_ble_eq_true rfl) dX5_race_15 ⟨Nat.zero_le _, Nat.zero_le _⟩ rfl (fun H locs hw => ?_)
  exact rI hQ hx hb hr hlk hw dX5_race_18 (o_2a h) rfl (o_2b h)
-- X5_hasIf
def fX5_hasIf (M : sOb) (a1 : Int32) (a2 : Int32) (a3 : Int32) : Option (Int32 × sOb) :=
  (fX5_laysBy M).bind fun q1 => (fX5_puts q1 a1 a2 a3).bind fun q8 => (fX5_races q8).bind fun q12 => nm (fun (y0_24 : Int32) => (fX5_laysBack q12.2).bind fun q27 => if ¬ (y0_24 = 0 ∨ y0_24 = 1) then none else some (y0_24, q27)) fun k24 => if q12.1 = a1 then (k24 (1 : Int32)) else (k24 (0 : Int32))
def rmX5_hasIf : Room := { frames := 7, cells := 0, slots := 0, locals := 158 }
theorem qqX5_hasIf : yX5_hasIf.cls = RX5 ∧ yX5_hasIf.cls ≠ "java/lang/invoke/MethodHandle" ∧ yX5_hasIf.cls ≠ "java/lang/invoke/VarHandle" ∧ (parseMethodDescriptor yX5_hasIf.desc).map (fun d => d.parameters.length) = some 3 := by decide +kernel
set_option maxRecDepth 100000 in
set_option maxHeartbeats 4000000 in
theorem kX5_hasIf (l : Launch) (G : sGl) {S : sWo} {M : sOb} {a1 : Int32} {a2 : Int32} {a3 : Int32} {q : (Int32 × sOb)}  (h : fX5_hasIf M a1 a2 a3 = some q) : sCt l G yX5_hasIf wsX5_hasIf rmX5_hasIf [.ref (sA G 9 0), .int a1, .int a2, .int a3] S M (some (.int q.1)) S q.2 := by
  refine cMk (cc := cX5_hasIf) (maxL := 5) (ret := (some .boolean)) (by decide) rfl (Nat.le_of_ble_eq_true rfl) ?_
  intro p e s m args below meth c Q hQ hx hb hr hlk hml hown hts hw ls hl
  have hown : s.vm.findClass RX5 = some m.cls := hown
  have hl : lv_has ls 5 [(0, .ref (sA G 9 0)), (1, .int a1), (2, .int a2), (3, .int a3)] := hl
  unfold fX5_hasIf at h
  refine lv_aload_n hx hb dX5_hasIf_0 rfl (lv_at hl 0 rfl) ?_
  obtain ⟨q1, eq1, h⟩ := o_bd h
  refine kV (As := []) (rest := []) (st' := []) ⟨hx, hb, hml, hown, hts⟩ (kX5_laysBy l G eq1) (cwV 0 hts gX5_hasIf_X5_laysBy rfl rfl rfl qqX5_laysBy ⟨Nat.le_of_ble_eq_true rfl, Nat.le_of_ble_eq_true rfl⟩) hw (rvMd hw) rfl hl.1 rfl (Nat.le_of_ble_eq_true rfl) dX5_hasIf_1 ⟨Nat.zero_le _, Nat.zero_le _⟩ rfl (fun H locs hw => ?_)
  refine lv_aload_n hx hb dX5_hasIf_4 rfl (lv_at hl 0 rfl) ?_
  refine lv_iload_n hx hb dX5_hasIf_5 rfl (lv_at hl 1 rfl) ?_
  refine lv_iload_n hx hb dX5_hasIf_6 rfl (lv_at hl 2 rfl) ?_
  refine lv_iload_n hx hb dX5_hasIf_7 rfl (lv_at hl 3 rfl) ?_
  obtain ⟨q8, eq8, h⟩ := o_bd h
  refine kV (As := [.int a1, .int a2, .int a3]) (rest := []) (st' := []) ⟨hx, hb, hml, hown, hts⟩ (kX5_puts l G eq8) (cwV 3 hts gX5_hasIf_X5_puts rfl rfl rfl qqX5_puts ⟨Nat.le_of_ble_eq_true rfl, Nat.le_of_ble_eq_true rfl⟩) hw (rvMd hw) rfl hl.1 rfl (Nat.le_of_ble_eq_true rfl) dX5_hasIf_8 ⟨Nat.zero_le _, Nat.zero_le _⟩ rfl (fun H locs hw => ?_)
  refine lv_aload_n hx hb dX5_hasIf_11 rfl (lv_at hl 0 rfl) ?_
  obtain ⟨q12, eq12, h⟩ := o_bd h
  refine kV (As := []) (rest := []) (st' := [.int q12.1]) ⟨hx, hb, hml, hown, hts⟩ (kX5_races l G eq12) (cwV 0 hts gX5_hasIf_X5_races rfl rfl rfl qqX5_races ⟨Nat.le_of_ble_eq_true rfl, Nat.le_of_ble_eq_true rfl⟩) hw (rvMd hw) rfl hl.1 rfl (Nat.le_of_ble_eq_true rfl) dX5_hasIf_12 ⟨Nat.zero_le _, Nat.zero_le _⟩ rfl (fun H locs hw => ?_)
  refine lv_iload_n hx hb dX5_hasIf_15 rfl (lv_at hl 1 rfl) ?_
  obtain ⟨k24, ek24, h⟩ := o_nm h
  have J24 : ∀ (y0_24 : Int32) (H : Heap) (locs : List Loc) (ls : Array Slot), sHw G s S q12.2 H locs → lv_has ls 5 [(0, .ref (sA G 9 0))] → k24 y0_24 = some q → W p l e rmX5_hasIf s m args below meth c H locs 0 0 Q (F0 m 24 ls [.int y0_24]) := by
    intro y0_24 H locs ls hw hl h
    replace h := o_j1 ek24 h
    refine lv_istore (lv' := [(4, .int y0_24), (0, .ref (sA G 9 0))]) hx hb dX5_hasIf_24 hl (by decide) rfl (fun ls hl => ?_)
    refine lv_aload_n hx hb dX5_hasIf_26 rfl (lv_at hl 1 rfl) ?_
    obtain ⟨q27, eq27, h⟩ := o_bd h
    refine kV (As := []) (rest := []) (st' := []) ⟨hx, hb, hml, hown, hts⟩ (kX5_laysBack l G eq27) (cwV 0 hts gX5_hasIf_X5_laysBack rfl rfl rfl qqX5_laysBack ⟨Nat.le_of_ble_eq_true rfl, Nat.le_of_ble_eq_true rfl⟩) hw (rvMd hw) rfl hl.1 rfl (Nat.le_of_ble_eq_true rfl) dX5_hasIf_27 ⟨Nat.zero_le _, Nat.zero_le _⟩ rfl (fun H locs hw => ?_)
    refine lv_iload hx hb dX5_hasIf_30 (lv_at hl 0 rfl) ?_
    obtain ⟨b32, h⟩ := o_in h
    exact rZ hQ hx hb hr hlk hw (Decidable.not_not.mp b32) dX5_hasIf_32 (o_2a h) rfl (o_2b h)
  refine lv_icmp_ne (tgt := 23) hx hb dX5_hasIf_16 (by decide) (fun c16 => ?_) (fun c16 => ?_)
  · replace h := o_f c16 h
    refine lv_iconst (v := 0) hx hb dX5_hasIf_23 (by decide) ?_
    exact J24 (0 : Int32) _ _ _ hw (lv_sub hl [0] rfl) h
  · replace h := o_t c16 h
    refine lv_iconst (v := 1) hx hb dX5_hasIf_19 (by decide) ?_
    refine lv_goto (tgt := 24) hx hb dX5_hasIf_20 (by decide) ?_
    exact J24 (1 : Int32) _ _ _ hw (lv_sub hl [0] rfl) h
-- X5_pace
def bX5_pace_17 (a1 : Int32) (rc17 : Int32 → sOb → Option (Int32 × sOb)) (x2_17 : Int32) (T_17 : sOb) : Option (Int32 × sOb) :=
  if (12 : Int32) < x2_17 then ((fX5_finds T_17 (-1000000004 : Int32)).bind fun q44 => some (q44.1, q44.2)) else ((fX5_hasIf T_17 a1 (1 : Int32) x2_17).bind fun q27 => if q27.1 = 0 then (nm (x2_17 + (1 : Int32)) fun v35 => rc17 v35 q27.2) else (some (x2_17, q27.2)))
def fX5_pace (M : sOb) (a1 : Int32) : Option (Int32 × sOb) :=
  (fX5_isRunner M a1).bind fun q2 => if q2 = 0 then ((fX5_finds M (-1000000001 : Int32)).bind fun q11 => some (q11.1, q11.2)) else (fx2 (bX5_pace_17 a1) FU (1 : Int32) M)
def rmX5_pace : Room := { frames := 8, cells := 0, slots := 0, locals := 182 }
theorem qqX5_pace : yX5_pace.cls = RX5 ∧ yX5_pace.cls ≠ "java/lang/invoke/MethodHandle" ∧ yX5_pace.cls ≠ "java/lang/invoke/VarHandle" ∧ (parseMethodDescriptor yX5_pace.desc).map (fun d => d.parameters.length) = some 1 := by decide +kernel
set_option maxRecDepth 100000 in
set_option maxHeartbeats 4000000 in
theorem kX5_pace (l : Launch) (G : sGl) {S : sWo} {M : sOb} {a1 : Int32} {q : (Int32 × sOb)}  (h : fX5_pace M a1 = some q) : sCt l G yX5_pace wsX5_pace rmX5_pace [.ref (sA G 9 0), .int a1] S M (some (.int q.1)) S q.2 := by
  refine cMk (cc := cX5_pace) (maxL := 3) (ret := (some .int)) (by decide) rfl (Nat.le_of_ble_eq_true rfl) ?_
  intro p e s m args below meth c Q hQ hx hb hr hlk hml hown hts hw ls hl
  have hown : s.vm.findClass RX5 = some m.cls := hown
  have hl : lv_has ls 3 [(0, .ref (sA G 9 0)), (1, .int a1)] := hl
  unfold fX5_pace at h
  refine lv_aload_n hx hb dX5_pace_0 rfl (lv_at hl 0 rfl) ?_
  refine lv_iload_n hx hb dX5_pace_1 rfl (lv_at hl 1 rfl) ?_
  obtain ⟨q2, eq2, h⟩ := o_bd h
  refine kV (As := [.int a1]) (rest := []) (st' := [.int q2]) ⟨hx, hb, hml, hown, hts⟩ (kX5_isRunner l G eq2) (cwV 1 hts gX5_pace_X5_isRunner rfl rfl rfl qqX5_isRunner ⟨Nat.le_of_ble_eq_true rfl, Nat.le_of_ble_eq_true rfl⟩) hw (rvMd hw) rfl hl.1 rfl (Nat.le_of_ble_eq_true rfl) dX5_pace_2 ⟨Nat.zero_le _, Nat.zero_le _⟩ rfl (fun H locs hw => ?_)
  refine lv_if_ne (tgt := 15) hx hb dX5_pace_5 (by decide) (fun c5 => ?_) (fun c5 => ?_)
  · replace h := o_f c5 h
    refine lv_iconst (v := 1) hx hb dX5_pace_15 (by decide) ?_
    refine lv_istore_n (lv' := [(2, .int (1 : Int32)), (0, .ref (sA G 9 0)), (1, .int a1)]) hx hb dX5_pace_16 rfl hl (by decide) rfl (fun ls hl => ?_)
    refine fx2_w (F := (bX5_pace_17 a1)) (P := fun x2_17 T_17 => ∀ (H : Heap) (locs : List Loc) (ls : Array Slot), sHw G s S T_17 H locs → lv_has ls 3 [(0, .ref (sA G 9 0)), (1, .int a1), (2, .int x2_17)] → W p l e rmX5_pace s m args below meth c H locs 0 0 Q (F0 m 17 ls [])) ?_ _ _ _ h _ _ _ hw (lv_sub hl [1, 2, 0] rfl)
    intro rc17 IH17 x2_17 T_17 h H locs ls hw hl
    unfold bX5_pace_17 at h
    refine lv_iload_n hx hb dX5_pace_17 rfl (lv_at hl 2 rfl) ?_
    refine lv_bipush (v := 12) hx hb dX5_pace_18 (by decide) ?_
    refine lv_icmp_gt (tgt := 41) hx hb dX5_pace_20 (by decide) (fun c20 => ?_) (fun c20 => ?_)
    · replace h := o_t c20 h
      refine lv_aload_n hx hb dX5_pace_41 rfl (lv_at hl 0 rfl) ?_
      refine lv_ldc (v := -1000000004) hx hb hown (hts (.constant RX5 39 (-1000000004)) (by decide +kernel)) dX5_pace_42 ?_
      obtain ⟨q44, eq44, h⟩ := o_bd h
      refine kV (As := [.int (-1000000004 : Int32)]) (rest := []) (st' := [.int q44.1]) ⟨hx, hb, hml, hown, hts⟩ (kX5_finds l G eq44) (cwV 1 hts gX5_pace_X5_finds rfl rfl rfl qqX5_finds ⟨Nat.le_of_ble_eq_true rfl, Nat.le_of_ble_eq_true rfl⟩) hw (rvMd hw) rfl hl.1 rfl (Nat.le_of_ble_eq_true rfl) dX5_pace_44 ⟨Nat.zero_le _, Nat.zero_le _⟩ rfl (fun H locs hw => ?_)
      exact rI hQ hx hb hr hlk hw dX5_pace_47 (o_2a h) rfl (o_2b h)
    · replace h := o_f c20 h
      refine lv_aload_n hx hb dX5_pace_23 rfl (lv_at hl 0 rfl) ?_
      refine lv_iload_n hx hb dX5_pace_24 rfl (lv_at hl 1 rfl) ?_
      refine lv_iconst (v := 1) hx hb dX5_pace_25 (by decide) ?_
      refine lv_iload_n hx hb dX5_pace_26 rfl (lv_at hl 2 rfl) ?_
      obtain ⟨q27, eq27, h⟩ := o_bd h
      refine kV (As := [.int a1, .int (1 : Int32), .int x2_17]) (rest := []) (st' := [.int q27.1]) ⟨hx, hb, hml, hown, hts⟩ (kX5_hasIf l G eq27) (cwV 3 hts gX5_pace_X5_hasIf rfl rfl rfl qqX5_hasIf ⟨Nat.le_of_ble_eq_true rfl, Nat.le_of_ble_eq_true rfl⟩) hw (rvMd hw) rfl hl.1 rfl (Nat.le_of_ble_eq_true rfl) dX5_pace_27 ⟨Nat.zero_le _, Nat.zero_le _⟩ rfl (fun H locs hw => ?_)
      refine lv_if_eq (tgt := 35) hx hb dX5_pace_30 (by decide) (fun c30 => ?_) (fun c30 => ?_)
      · replace h := o_t c30 h
        obtain ⟨v35, ev35, h⟩ := o_nm h
        refine lv_iinc (v := v35) (lv' := [(2, .int v35), (0, .ref (sA G 9 0)), (1, .int a1)]) hx hb dX5_pace_35 hl (k := 2) rfl (by rw [ev35]; rfl) (by decide) rfl (fun ls hl => ?_)
        refine lv_goto (tgt := 17) hx hb dX5_pace_38 (by decide) ?_
        exact IH17 v35 q27.2 h _ _ _ hw (lv_sub hl [1, 2, 0] rfl)
      · replace h := o_f c30 h
        refine lv_iload_n hx hb dX5_pace_33 rfl (lv_at hl 2 rfl) ?_
        exact rI hQ hx hb hr hlk hw dX5_pace_34 (o_2a h) rfl (o_2b h)
  · replace h := o_t c5 h
    refine lv_aload_n hx hb dX5_pace_8 rfl (lv_at hl 0 rfl) ?_
    refine lv_ldc (v := -1000000001) hx hb hown (hts (.constant RX5 38 (-1000000001)) (by decide +kernel)) dX5_pace_9 ?_
    obtain ⟨q11, eq11, h⟩ := o_bd h
    refine kV (As := [.int (-1000000001 : Int32)]) (rest := []) (st' := [.int q11.1]) ⟨hx, hb, hml, hown, hts⟩ (kX5_finds l G eq11) (cwV 1 hts gX5_pace_X5_finds rfl rfl rfl qqX5_finds ⟨Nat.le_of_ble_eq_true rfl, Nat.le_of_ble_eq_true rfl⟩) hw (rvMd hw) rfl hl.1 rfl (Nat.le_of_ble_eq_true rfl) dX5_pace_11 ⟨Nat.zero_le _, Nat.zero_le _⟩ rfl (fun H locs hw => ?_)
    exact rI hQ hx hb hr hlk hw dX5_pace_14 (o_2a h) rfl (o_2b h)
-- X5_kind
def bX5_kind_17 (a1 : Int32) (rc17 : Int32 → sOb → Option (Int32 × sOb)) (x2_17 : Int32) (T_17 : sOb) : Option (Int32 × sOb) :=
  if (5 : Int32) < x2_17 then ((fX5_finds T_17 (-1000000004 : Int32)).bind fun q43 => some (q43.1, q43.2)) else ((fX5_hasIf T_17 a1 (0 : Int32) x2_17).bind fun q26 => if q26.1 = 0 then (nm (x2_17 + (1 : Int32)) fun v34 => rc17 v34 q26.2) else (some (x2_17, q26.2)))
def fX5_kind (M : sOb) (a1 : Int32) : Option (Int32 × sOb) :=
  (fX5_isRunner M a1).bind fun q2 => if q2 = 0 then ((fX5_finds M (-1000000001 : Int32)).bind fun q11 => some (q11.1, q11.2)) else (fx2 (bX5_kind_17 a1) FU (0 : Int32) M)
def rmX5_kind : Room := { frames := 8, cells := 0, slots := 0, locals := 182 }
theorem qqX5_kind : yX5_kind.cls = RX5 ∧ yX5_kind.cls ≠ "java/lang/invoke/MethodHandle" ∧ yX5_kind.cls ≠ "java/lang/invoke/VarHandle" ∧ (parseMethodDescriptor yX5_kind.desc).map (fun d => d.parameters.length) = some 1 := by decide +kernel
set_option maxRecDepth 100000 in
set_option maxHeartbeats 4000000 in
theorem kX5_kind (l : Launch) (G : sGl) {S : sWo} {M : sOb} {a1 : Int32} {q : (Int32 × sOb)}  (h : fX5_kind M a1 = some q) : sCt l G yX5_kind wsX5_kind rmX5_kind [.ref (sA G 9 0), .int a1] S M (some (.int q.1)) S q.2 := by
  refine cMk (cc := cX5_kind) (maxL := 3) (ret := (some .int)) (by decide) rfl (Nat.le_of_ble_eq_true rfl) ?_
  intro p e s m args below meth c Q hQ hx hb hr hlk hml hown hts hw ls hl
  have hown : s.vm.findClass RX5 = some m.cls := hown
  have hl : lv_has ls 3 [(0, .ref (sA G 9 0)), (1, .int a1)] := hl
  unfold fX5_kind at h
  refine lv_aload_n hx hb dX5_kind_0 rfl (lv_at hl 0 rfl) ?_
  refine lv_iload_n hx hb dX5_kind_1 rfl (lv_at hl 1 rfl) ?_
  obtain ⟨q2, eq2, h⟩ := o_bd h
  refine kV (As := [.int a1]) (rest := []) (st' := [.int q2]) ⟨hx, hb, hml, hown, hts⟩ (kX5_isRunner l G eq2) (cwV 1 hts gX5_kind_X5_isRunner rfl rfl rfl qqX5_isRunner ⟨Nat.le_of_ble_eq_true rfl, Nat.le_of_ble_eq_true rfl⟩) hw (rvMd hw) rfl hl.1 rfl (Nat.le_of_ble_eq_true rfl) dX5_kind_2 ⟨Nat.zero_le _, Nat.zero_le _⟩ rfl (fun H locs hw => ?_)
  refine lv_if_ne (tgt := 15) hx hb dX5_kind_5 (by decide) (fun c5 => ?_) (fun c5 => ?_)
  · replace h := o_f c5 h
    refine lv_iconst (v := 0) hx hb dX5_kind_15 (by decide) ?_
    refine lv_istore_n (lv' := [(2, .int (0 : Int32)), (0, .ref (sA G 9 0)), (1, .int a1)]) hx hb dX5_kind_16 rfl hl (by decide) rfl (fun ls hl => ?_)
    refine fx2_w (F := (bX5_kind_17 a1)) (P := fun x2_17 T_17 => ∀ (H : Heap) (locs : List Loc) (ls : Array Slot), sHw G s S T_17 H locs → lv_has ls 3 [(0, .ref (sA G 9 0)), (1, .int a1), (2, .int x2_17)] → W p l e rmX5_kind s m args below meth c H locs 0 0 Q (F0 m 17 ls [])) ?_ _ _ _ h _ _ _ hw (lv_sub hl [1, 2, 0] rfl)
    intro rc17 IH17 x2_17 T_17 h H locs ls hw hl
    unfold bX5_kind_17 at h
    refine lv_iload_n hx hb dX5_kind_17 rfl (lv_at hl 2 rfl) ?_
    refine lv_iconst (v := 5) hx hb dX5_kind_18 (by decide) ?_
    refine lv_icmp_gt (tgt := 40) hx hb dX5_kind_19 (by decide) (fun c19 => ?_) (fun c19 => ?_)
    · replace h := o_t c19 h
      refine lv_aload_n hx hb dX5_kind_40 rfl (lv_at hl 0 rfl) ?_
      refine lv_ldc (v := -1000000004) hx hb hown (hts (.constant RX5 39 (-1000000004)) (by decide +kernel)) dX5_kind_41 ?_
      obtain ⟨q43, eq43, h⟩ := o_bd h
      refine kV (As := [.int (-1000000004 : Int32)]) (rest := []) (st' := [.int q43.1]) ⟨hx, hb, hml, hown, hts⟩ (kX5_finds l G eq43) (cwV 1 hts gX5_kind_X5_finds rfl rfl rfl qqX5_finds ⟨Nat.le_of_ble_eq_true rfl, Nat.le_of_ble_eq_true rfl⟩) hw (rvMd hw) rfl hl.1 rfl (Nat.le_of_ble_eq_true rfl) dX5_kind_43 ⟨Nat.zero_le _, Nat.zero_le _⟩ rfl (fun H locs hw => ?_)
      exact rI hQ hx hb hr hlk hw dX5_kind_46 (o_2a h) rfl (o_2b h)
    · replace h := o_f c19 h
      refine lv_aload_n hx hb dX5_kind_22 rfl (lv_at hl 0 rfl) ?_
      refine lv_iload_n hx hb dX5_kind_23 rfl (lv_at hl 1 rfl) ?_
      refine lv_iconst (v := 0) hx hb dX5_kind_24 (by decide) ?_
      refine lv_iload_n hx hb dX5_kind_25 rfl (lv_at hl 2 rfl) ?_
      obtain ⟨q26, eq26, h⟩ := o_bd h
      refine kV (As := [.int a1, .int (0 : Int32), .int x2_17]) (rest := []) (st' := [.int q26.1]) ⟨hx, hb, hml, hown, hts⟩ (kX5_hasIf l G eq26) (cwV 3 hts gX5_kind_X5_hasIf rfl rfl rfl qqX5_hasIf ⟨Nat.le_of_ble_eq_true rfl, Nat.le_of_ble_eq_true rfl⟩) hw (rvMd hw) rfl hl.1 rfl (Nat.le_of_ble_eq_true rfl) dX5_kind_26 ⟨Nat.zero_le _, Nat.zero_le _⟩ rfl (fun H locs hw => ?_)
      refine lv_if_eq (tgt := 34) hx hb dX5_kind_29 (by decide) (fun c29 => ?_) (fun c29 => ?_)
      · replace h := o_t c29 h
        obtain ⟨v34, ev34, h⟩ := o_nm h
        refine lv_iinc (v := v34) (lv' := [(2, .int v34), (0, .ref (sA G 9 0)), (1, .int a1)]) hx hb dX5_kind_34 hl (k := 2) rfl (by rw [ev34]; rfl) (by decide) rfl (fun ls hl => ?_)
        refine lv_goto (tgt := 17) hx hb dX5_kind_37 (by decide) ?_
        exact IH17 v34 q26.2 h _ _ _ hw (lv_sub hl [1, 2, 0] rfl)
      · replace h := o_f c29 h
        refine lv_iload_n hx hb dX5_kind_32 rfl (lv_at hl 2 rfl) ?_
        exact rI hQ hx hb hr hlk hw dX5_kind_33 (o_2a h) rfl (o_2b h)
  · replace h := o_t c5 h
    refine lv_aload_n hx hb dX5_kind_8 rfl (lv_at hl 0 rfl) ?_
    refine lv_ldc (v := -1000000001) hx hb hown (hts (.constant RX5 38 (-1000000001)) (by decide +kernel)) dX5_kind_9 ?_
    obtain ⟨q11, eq11, h⟩ := o_bd h
    refine kV (As := [.int (-1000000001 : Int32)]) (rest := []) (st' := [.int q11.1]) ⟨hx, hb, hml, hown, hts⟩ (kX5_finds l G eq11) (cwV 1 hts gX5_kind_X5_finds rfl rfl rfl qqX5_finds ⟨Nat.le_of_ble_eq_true rfl, Nat.le_of_ble_eq_true rfl⟩) hw (rvMd hw) rfl hl.1 rfl (Nat.le_of_ble_eq_true rfl) dX5_kind_11 ⟨Nat.zero_le _, Nat.zero_le _⟩ rfl (fun H locs hw => ?_)
    exact rI hQ hx hb hr hlk hw dX5_kind_14 (o_2a h) rfl (o_2b h)
-- X5_start
def bX5_start_17 (a1 : Int32) (rc17 : Int32 → sOb → Option (Int32 × sOb)) (x2_17 : Int32) (T_17 : sOb) : Option (Int32 × sOb) :=
  if (200 : Int32) < x2_17 then ((fX5_finds T_17 (-1000000004 : Int32)).bind fun q55 => some (q55.1, q55.2)) else (if (T_17.2.1 0 (1 : Int32).toNatClampNeg) ≤ x2_17 then ((fX5_finds T_17 (-1000000004 : Int32)).bind fun q55 => some (q55.1, q55.2)) else ((fX5_hasIf T_17 a1 (4 : Int32) x2_17).bind fun q38 => if q38.1 = 0 then (nm (x2_17 + (5 : Int32)) fun v46 => rc17 v46 q38.2) else (some (x2_17, q38.2))))
def fX5_start (M : sOb) (a1 : Int32) : Option (Int32 × sOb) :=
  (fX5_isRunner M a1).bind fun q2 => if q2 = 0 then ((fX5_finds M (-1000000001 : Int32)).bind fun q11 => some (q11.1, q11.2)) else (fx2 (bX5_start_17 a1) FU (0 : Int32) M)
def rmX5_start : Room := { frames := 8, cells := 0, slots := 0, locals := 182 }
theorem qqX5_start : yX5_start.cls = RX5 ∧ yX5_start.cls ≠ "java/lang/invoke/MethodHandle" ∧ yX5_start.cls ≠ "java/lang/invoke/VarHandle" ∧ (parseMethodDescriptor yX5_start.desc).map (fun d => d.parameters.length) = some 1 := by decide +kernel
set_option maxRecDepth 100000 in
set_option maxHeartbeats 4000000 in
theorem kX5_start (l : Launch) (G : sGl) {S : sWo} {M : sOb} {a1 : Int32} {q : (Int32 × sOb)}  (h : fX5_start M a1 = some q) : sCt l G yX5_start wsX5_start rmX5_start [.ref (sA G 9 0), .int a1] S M (some (.int q.1)) S q.2 := by
  refine cMk (cc := cX5_start) (maxL := 3) (ret := (some .int)) (by decide) rfl (Nat.le_of_ble_eq_true rfl) ?_
  intro p e s m args below meth c Q hQ hx hb hr hlk hml hown hts hw ls hl
  have hown : s.vm.findClass RX5 = some m.cls := hown
  have hl : lv_has ls 3 [(0, .ref (sA G 9 0)), (1, .int a1)] := hl
  have hiX5 : ∀ w ∈ u_ws RX5 TX5 15, w ∈ wsX5_start := by decide +kernel
  unfold fX5_start at h
  refine lv_aload_n hx hb dX5_start_0 rfl (lv_at hl 0 rfl) ?_
  refine lv_iload_n hx hb dX5_start_1 rfl (lv_at hl 1 rfl) ?_
  obtain ⟨q2, eq2, h⟩ := o_bd h
  refine kV (As := [.int a1]) (rest := []) (st' := [.int q2]) ⟨hx, hb, hml, hown, hts⟩ (kX5_isRunner l G eq2) (cwV 1 hts gX5_start_X5_isRunner rfl rfl rfl qqX5_isRunner ⟨Nat.le_of_ble_eq_true rfl, Nat.le_of_ble_eq_true rfl⟩) hw (rvMd hw) rfl hl.1 rfl (Nat.le_of_ble_eq_true rfl) dX5_start_2 ⟨Nat.zero_le _, Nat.zero_le _⟩ rfl (fun H locs hw => ?_)
  refine lv_if_ne (tgt := 15) hx hb dX5_start_5 (by decide) (fun c5 => ?_) (fun c5 => ?_)
  · replace h := o_f c5 h
    refine lv_iconst (v := 0) hx hb dX5_start_15 (by decide) ?_
    refine lv_istore_n (lv' := [(2, .int (0 : Int32)), (0, .ref (sA G 9 0)), (1, .int a1)]) hx hb dX5_start_16 rfl hl (by decide) rfl (fun ls hl => ?_)
    refine fx2_w (F := (bX5_start_17 a1)) (P := fun x2_17 T_17 => ∀ (H : Heap) (locs : List Loc) (ls : Array Slot), sHw G s S T_17 H locs → lv_has ls 3 [(0, .ref (sA G 9 0)), (1, .int a1), (2, .int x2_17)] → W p l e rmX5_start s m args below meth c H locs 0 0 Q (F0 m 17 ls [])) ?_ _ _ _ h _ _ _ hw (lv_sub hl [1, 2, 0] rfl)
    intro rc17 IH17 x2_17 T_17 h H locs ls hw hl
    unfold bX5_start_17 at h
    refine lv_iload_n hx hb dX5_start_17 rfl (lv_at hl 2 rfl) ?_
    refine lv_sipush (v := 200) hx hb dX5_start_18 (by decide) ?_
    refine lv_icmp_gt (tgt := 52) hx hb dX5_start_21 (by decide) (fun c21 => ?_) (fun c21 => ?_)
    · replace h := o_t c21 h
      refine lv_aload_n hx hb dX5_start_52 rfl (lv_at hl 0 rfl) ?_
      refine lv_ldc (v := -1000000004) hx hb hown (hts (.constant RX5 39 (-1000000004)) (by decide +kernel)) dX5_start_53 ?_
      obtain ⟨q55, eq55, h⟩ := o_bd h
      refine kV (As := [.int (-1000000004 : Int32)]) (rest := []) (st' := [.int q55.1]) ⟨hx, hb, hml, hown, hts⟩ (kX5_finds l G eq55) (cwV 1 hts gX5_start_X5_finds rfl rfl rfl qqX5_finds ⟨Nat.le_of_ble_eq_true rfl, Nat.le_of_ble_eq_true rfl⟩) hw (rvMd hw) rfl hl.1 rfl (Nat.le_of_ble_eq_true rfl) dX5_start_55 ⟨Nat.zero_le _, Nat.zero_le _⟩ rfl (fun H locs hw => ?_)
      exact rI hQ hx hb hr hlk hw dX5_start_58 (o_2a h) rfl (o_2b h)
    · replace h := o_f c21 h
      refine lv_iload_n hx hb dX5_start_24 rfl (lv_at hl 2 rfl) ?_
      refine lv_aload_n hx hb dX5_start_25 rfl (lv_at hl 0 rfl) ?_
      refine gMd (v := .ref (sA G 9 1)) hx hb hts hiX5 hown hw 0 (by decide) (hts (.fieldLink RX5 7 "SecondHomeModel" "s" "[I") (by decide +kernel)) rfl dX5_start_26 ?_
      refine lv_iconst (v := 1) hx hb dX5_start_29 (by decide) ?_
      refine ldMd hx hb hw 0 (by decide) (n := 77) rfl (by decide) dX5_start_30 ?_
      refine lv_icmp_ge (tgt := 52) hx hb dX5_start_31 (by decide) (fun c31 => ?_) (fun c31 => ?_)
      · replace h := o_t c31 h
        refine lv_aload_n hx hb dX5_start_52 rfl (lv_at hl 0 rfl) ?_
        refine lv_ldc (v := -1000000004) hx hb hown (hts (.constant RX5 39 (-1000000004)) (by decide +kernel)) dX5_start_53 ?_
        obtain ⟨q55, eq55, h⟩ := o_bd h
        refine kV (As := [.int (-1000000004 : Int32)]) (rest := []) (st' := [.int q55.1]) ⟨hx, hb, hml, hown, hts⟩ (kX5_finds l G eq55) (cwV 1 hts gX5_start_X5_finds rfl rfl rfl qqX5_finds ⟨Nat.le_of_ble_eq_true rfl, Nat.le_of_ble_eq_true rfl⟩) hw (rvMd hw) rfl hl.1 rfl (Nat.le_of_ble_eq_true rfl) dX5_start_55 ⟨Nat.zero_le _, Nat.zero_le _⟩ rfl (fun H locs hw => ?_)
        exact rI hQ hx hb hr hlk hw dX5_start_58 (o_2a h) rfl (o_2b h)
      · replace h := o_f c31 h
        refine lv_aload_n hx hb dX5_start_34 rfl (lv_at hl 0 rfl) ?_
        refine lv_iload_n hx hb dX5_start_35 rfl (lv_at hl 1 rfl) ?_
        refine lv_iconst (v := 4) hx hb dX5_start_36 (by decide) ?_
        refine lv_iload_n hx hb dX5_start_37 rfl (lv_at hl 2 rfl) ?_
        obtain ⟨q38, eq38, h⟩ := o_bd h
        refine kV (As := [.int a1, .int (4 : Int32), .int x2_17]) (rest := []) (st' := [.int q38.1]) ⟨hx, hb, hml, hown, hts⟩ (kX5_hasIf l G eq38) (cwV 3 hts gX5_start_X5_hasIf rfl rfl rfl qqX5_hasIf ⟨Nat.le_of_ble_eq_true rfl, Nat.le_of_ble_eq_true rfl⟩) hw (rvMd hw) rfl hl.1 rfl (Nat.le_of_ble_eq_true rfl) dX5_start_38 ⟨Nat.zero_le _, Nat.zero_le _⟩ rfl (fun H locs hw => ?_)
        refine lv_if_eq (tgt := 46) hx hb dX5_start_41 (by decide) (fun c41 => ?_) (fun c41 => ?_)
        · replace h := o_t c41 h
          obtain ⟨v46, ev46, h⟩ := o_nm h
          refine lv_iinc (v := v46) (lv' := [(2, .int v46), (0, .ref (sA G 9 0)), (1, .int a1)]) hx hb dX5_start_46 hl (k := 2) rfl (by rw [ev46]; rfl) (by decide) rfl (fun ls hl => ?_)
          refine lv_goto (tgt := 17) hx hb dX5_start_49 (by decide) ?_
          exact IH17 v46 q38.2 h _ _ _ hw (lv_sub hl [1, 2, 0] rfl)
        · replace h := o_f c41 h
          refine lv_iload_n hx hb dX5_start_44 rfl (lv_at hl 2 rfl) ?_
          exact rI hQ hx hb hr hlk hw dX5_start_45 (o_2a h) rfl (o_2b h)
  · replace h := o_t c5 h
    refine lv_aload_n hx hb dX5_start_8 rfl (lv_at hl 0 rfl) ?_
    refine lv_ldc (v := -1000000001) hx hb hown (hts (.constant RX5 38 (-1000000001)) (by decide +kernel)) dX5_start_9 ?_
    obtain ⟨q11, eq11, h⟩ := o_bd h
    refine kV (As := [.int (-1000000001 : Int32)]) (rest := []) (st' := [.int q11.1]) ⟨hx, hb, hml, hown, hts⟩ (kX5_finds l G eq11) (cwV 1 hts gX5_start_X5_finds rfl rfl rfl qqX5_finds ⟨Nat.le_of_ble_eq_true rfl, Nat.le_of_ble_eq_true rfl⟩) hw (rvMd hw) rfl hl.1 rfl (Nat.le_of_ble_eq_true rfl) dX5_start_11 ⟨Nat.zero_le _, Nat.zero_le _⟩ rfl (fun H locs hw => ?_)
    exact rI hQ hx hb hr hlk hw dX5_start_14 (o_2a h) rfl (o_2b h)
-- X5_favours
def bX5_favours_38 (a1 : Int32) (q24 : Int32 × sOb) (k72 : Int32 → Option (Int32 × sOb)) (rc38 : Int32 → Int32 → Option (Int32 × sOb)) (x2_38 : Int32) (x3_38 : Int32) : Option (Int32 × sOb) :=
  if (4 : Int32) ≤ x3_38 then (k72 x2_38) else (if x2_38 < 0 then (k72 x2_38) else ((fX5_prizeOf q24.2 x3_38).bind fun q50 => if q50 = a1 then (nm (x2_38 ||| ((1 : Int32) <<< (x3_38 &&& 31))) fun v65 => nm (x3_38 + (1 : Int32)) fun v66 => rc38 v65 v66) else (nm (x2_38 ||| (0 : Int32)) fun v65 => nm (x3_38 + (1 : Int32)) fun v66 => rc38 v65 v66)))
def fX5_favours (M : sOb) (a1 : Int32) : Option (Int32 × sOb) :=
  (fX5_isRunner M a1).bind fun q2 => if q2 = 0 then ((fX5_finds M (-1000000001 : Int32)).bind fun q11 => some (q11.1, q11.2)) else ((fX5_laysBy M).bind fun q16 => (fX5_lines q16).bind fun q20 => (fX5_goesToEnd q20).bind fun q24 => nm (fun (y0_35 : Int32) => nm (fun (x2_72 : Int32) => (fX5_laysBack q24.2).bind fun q73 => (fX5_orNone q73 x2_72).bind fun q78 => some (q78.1, q78.2)) fun k72 => fx2 (bX5_favours_38 a1 q24 k72) FU y0_35 (0 : Int32)) fun k35 => if q24.1 = 0 then (k35 (-1 : Int32)) else (k35 (0 : Int32)))
def rmX5_favours : Room := { frames := 6, cells := 0, slots := 0, locals := 138 }
theorem qqX5_favours : yX5_favours.cls = RX5 ∧ yX5_favours.cls ≠ "java/lang/invoke/MethodHandle" ∧ yX5_favours.cls ≠ "java/lang/invoke/VarHandle" ∧ (parseMethodDescriptor yX5_favours.desc).map (fun d => d.parameters.length) = some 1 := by decide +kernel
set_option maxRecDepth 100000 in
set_option maxHeartbeats 4000000 in
theorem kX5_favours (l : Launch) (G : sGl) {S : sWo} {M : sOb} {a1 : Int32} {q : (Int32 × sOb)}  (h : fX5_favours M a1 = some q) : sCt l G yX5_favours wsX5_favours rmX5_favours [.ref (sA G 9 0), .int a1] S M (some (.int q.1)) S q.2 := by
  refine cMk (cc := cX5_favours) (maxL := 4) (ret := (some .int)) (by decide) rfl (Nat.le_of_ble_eq_true rfl) ?_
  intro p e s m args below meth c Q hQ hx hb hr hlk hml hown hts hw ls hl
  have hown : s.vm.findClass RX5 = some m.cls := hown
  have hl : lv_has ls 4 [(0, .ref (sA G 9 0)), (1, .int a1)] := hl
  unfold fX5_favours at h
  refine lv_aload_n hx hb dX5_favours_0 rfl (lv_at hl 0 rfl) ?_
  refine lv_iload_n hx hb dX5_favours_1 rfl (lv_at hl 1 rfl) ?_
  obtain ⟨q2, eq2, h⟩ := o_bd h
  refine kV (As := [.int a1]) (rest := []) (st' := [.int q2]) ⟨hx, hb, hml, hown, hts⟩ (kX5_isRunner l G eq2) (cwV 1 hts gX5_favours_X5_isRunner rfl rfl rfl qqX5_isRunner ⟨Nat.le_of_ble_eq_true rfl, Nat.le_of_ble_eq_true rfl⟩) hw (rvMd hw) rfl hl.1 rfl (Nat.le_of_ble_eq_true rfl) dX5_favours_2 ⟨Nat.zero_le _, Nat.zero_le _⟩ rfl (fun H locs hw => ?_)
  refine lv_if_ne (tgt := 15) hx hb dX5_favours_5 (by decide) (fun c5 => ?_) (fun c5 => ?_)
  · replace h := o_f c5 h
    refine lv_aload_n hx hb dX5_favours_15 rfl (lv_at hl 0 rfl) ?_
    obtain ⟨q16, eq16, h⟩ := o_bd h
    refine kV (As := []) (rest := []) (st' := []) ⟨hx, hb, hml, hown, hts⟩ (kX5_laysBy l G eq16) (cwV 0 hts gX5_favours_X5_laysBy rfl rfl rfl qqX5_laysBy ⟨Nat.le_of_ble_eq_true rfl, Nat.le_of_ble_eq_true rfl⟩) hw (rvMd hw) rfl hl.1 rfl (Nat.le_of_ble_eq_true rfl) dX5_favours_16 ⟨Nat.zero_le _, Nat.zero_le _⟩ rfl (fun H locs hw => ?_)
    refine lv_aload_n hx hb dX5_favours_19 rfl (lv_at hl 0 rfl) ?_
    obtain ⟨q20, eq20, h⟩ := o_bd h
    refine kV (As := []) (rest := []) (st' := []) ⟨hx, hb, hml, hown, hts⟩ (kX5_lines l G eq20) (cwV 0 hts gX5_favours_X5_lines rfl rfl rfl qqX5_lines ⟨Nat.le_of_ble_eq_true rfl, Nat.le_of_ble_eq_true rfl⟩) hw (rvMd hw) rfl hl.1 rfl (Nat.le_of_ble_eq_true rfl) dX5_favours_20 ⟨Nat.zero_le _, Nat.zero_le _⟩ rfl (fun H locs hw => ?_)
    refine lv_aload_n hx hb dX5_favours_23 rfl (lv_at hl 0 rfl) ?_
    obtain ⟨q24, eq24, h⟩ := o_bd h
    refine kV (As := []) (rest := []) (st' := [.int q24.1]) ⟨hx, hb, hml, hown, hts⟩ (kX5_goesToEnd l G eq24) (cwV 0 hts gX5_favours_X5_goesToEnd rfl rfl rfl qqX5_goesToEnd ⟨Nat.le_of_ble_eq_true rfl, Nat.le_of_ble_eq_true rfl⟩) hw (rvMd hw) rfl hl.1 rfl (Nat.le_of_ble_eq_true rfl) dX5_favours_24 ⟨Nat.zero_le _, Nat.zero_le _⟩ rfl (fun H locs hw => ?_)
    obtain ⟨k35, ek35, h⟩ := o_nm h
    have J35 : ∀ (y0_35 : Int32) (H : Heap) (locs : List Loc) (ls : Array Slot), sHw G s S q24.2 H locs → lv_has ls 4 [(0, .ref (sA G 9 0)), (1, .int a1)] → k35 y0_35 = some q → W p l e rmX5_favours s m args below meth c H locs 0 0 Q (F0 m 35 ls [.int y0_35]) := by
      intro y0_35 H locs ls hw hl h
      replace h := o_j1 ek35 h
      refine lv_istore_n (lv' := [(2, .int y0_35), (0, .ref (sA G 9 0)), (1, .int a1)]) hx hb dX5_favours_35 rfl hl (by decide) rfl (fun ls hl => ?_)
      refine lv_iconst (v := 0) hx hb dX5_favours_36 (by decide) ?_
      refine lv_istore_n (lv' := [(3, .int (0 : Int32)), (2, .int y0_35), (0, .ref (sA G 9 0)), (1, .int a1)]) hx hb dX5_favours_37 rfl hl (by decide) rfl (fun ls hl => ?_)
      obtain ⟨k72, ek72, h⟩ := o_nm h
      have J72 : ∀ (x2_72 : Int32) (H : Heap) (locs : List Loc) (ls : Array Slot), sHw G s S q24.2 H locs → lv_has ls 4 [(0, .ref (sA G 9 0)), (2, .int x2_72)] → k72 x2_72 = some q → W p l e rmX5_favours s m args below meth c H locs 0 0 Q (F0 m 72 ls []) := by
        intro x2_72 H locs ls hw hl h
        replace h := o_j1 ek72 h
        refine lv_aload_n hx hb dX5_favours_72 rfl (lv_at hl 0 rfl) ?_
        obtain ⟨q73, eq73, h⟩ := o_bd h
        refine kV (As := []) (rest := []) (st' := []) ⟨hx, hb, hml, hown, hts⟩ (kX5_laysBack l G eq73) (cwV 0 hts gX5_favours_X5_laysBack rfl rfl rfl qqX5_laysBack ⟨Nat.le_of_ble_eq_true rfl, Nat.le_of_ble_eq_true rfl⟩) hw (rvMd hw) rfl hl.1 rfl (Nat.le_of_ble_eq_true rfl) dX5_favours_73 ⟨Nat.zero_le _, Nat.zero_le _⟩ rfl (fun H locs hw => ?_)
        refine lv_aload_n hx hb dX5_favours_76 rfl (lv_at hl 0 rfl) ?_
        refine lv_iload_n hx hb dX5_favours_77 rfl (lv_at hl 1 rfl) ?_
        obtain ⟨q78, eq78, h⟩ := o_bd h
        refine kV (As := [.int x2_72]) (rest := []) (st' := [.int q78.1]) ⟨hx, hb, hml, hown, hts⟩ (kX5_orNone l G eq78) (cwV 1 hts gX5_favours_X5_orNone rfl rfl rfl qqX5_orNone ⟨Nat.le_of_ble_eq_true rfl, Nat.le_of_ble_eq_true rfl⟩) hw (rvMd hw) rfl hl.1 rfl (Nat.le_of_ble_eq_true rfl) dX5_favours_78 ⟨Nat.zero_le _, Nat.zero_le _⟩ rfl (fun H locs hw => ?_)
        exact rI hQ hx hb hr hlk hw dX5_favours_81 (o_2a h) rfl (o_2b h)
      refine fx2_w (F := (bX5_favours_38 a1 q24 k72)) (P := fun x2_38 x3_38 => ∀ (H : Heap) (locs : List Loc) (ls : Array Slot), sHw G s S q24.2 H locs → lv_has ls 4 [(0, .ref (sA G 9 0)), (1, .int a1), (2, .int x2_38), (3, .int x3_38)] → W p l e rmX5_favours s m args below meth c H locs 0 0 Q (F0 m 38 ls [])) ?_ _ _ _ h _ _ _ hw (lv_sub hl [2, 3, 1, 0] rfl)
      intro rc38 IH38 x2_38 x3_38 h H locs ls hw hl
      unfold bX5_favours_38 at h
      refine lv_iload_n hx hb dX5_favours_38 rfl (lv_at hl 3 rfl) ?_
      refine lv_iconst (v := 4) hx hb dX5_favours_39 (by decide) ?_
      refine lv_icmp_ge (tgt := 72) hx hb dX5_favours_40 (by decide) (fun c40 => ?_) (fun c40 => ?_)
      · replace h := o_t c40 h
        exact J72 x2_38 _ _ _ hw (lv_sub hl [0, 2] rfl) h
      · replace h := o_f c40 h
        refine lv_iload_n hx hb dX5_favours_43 rfl (lv_at hl 2 rfl) ?_
        refine lv_if_lt (tgt := 72) hx hb dX5_favours_44 (by decide) (fun c44 => ?_) (fun c44 => ?_)
        · replace h := o_t c44 h
          exact J72 x2_38 _ _ _ hw (lv_sub hl [0, 2] rfl) h
        · replace h := o_f c44 h
          refine lv_iload_n hx hb dX5_favours_47 rfl (lv_at hl 2 rfl) ?_
          refine lv_aload_n hx hb dX5_favours_48 rfl (lv_at hl 0 rfl) ?_
          refine lv_iload_n hx hb dX5_favours_49 rfl (lv_at hl 3 rfl) ?_
          obtain ⟨q50, eq50, h⟩ := o_bd h
          refine kV (As := [.int x3_38]) (rest := [.int x2_38]) (st' := [.int q50, .int x2_38]) ⟨hx, hb, hml, hown, hts⟩ (kX5_prizeOf l G eq50) (cwV 1 hts gX5_favours_X5_prizeOf rfl rfl rfl qqX5_prizeOf ⟨Nat.le_of_ble_eq_true rfl, Nat.le_of_ble_eq_true rfl⟩) hw (rvMd hw) rfl hl.1 rfl (Nat.le_of_ble_eq_true rfl) dX5_favours_50 ⟨Nat.zero_le _, Nat.zero_le _⟩ rfl (fun H locs hw => ?_)
          refine lv_iload_n hx hb dX5_favours_53 rfl (lv_at hl 1 rfl) ?_
          refine lv_icmp_ne (tgt := 63) hx hb dX5_favours_54 (by decide) (fun c54 => ?_) (fun c54 => ?_)
          · replace h := o_f c54 h
            refine lv_iconst (v := 0) hx hb dX5_favours_63 (by decide) ?_
            refine lv_ior hx hb dX5_favours_64 ?_
            refine lv_topi (fun v65 ev65 => ?_)
            replace h := o_nx ev65 h
            refine lv_istore_n (lv' := [(2, .int v65), (0, .ref (sA G 9 0)), (1, .int a1), (3, .int x3_38)]) hx hb dX5_favours_65 rfl hl (by decide) rfl (fun ls hl => ?_)
            obtain ⟨v66, ev66, h⟩ := o_nm h
            refine lv_iinc (v := v66) (lv' := [(3, .int v66), (2, .int v65), (0, .ref (sA G 9 0)), (1, .int a1)]) hx hb dX5_favours_66 hl (k := 3) rfl (by rw [ev66]; rfl) (by decide) rfl (fun ls hl => ?_)
            refine lv_goto (tgt := 38) hx hb dX5_favours_69 (by decide) ?_
            exact IH38 v65 v66 h _ _ _ hw (lv_sub hl [2, 3, 1, 0] rfl)
          · replace h := o_t c54 h
            refine lv_iconst (v := 1) hx hb dX5_favours_57 (by decide) ?_
            refine lv_iload_n hx hb dX5_favours_58 rfl (lv_at hl 3 rfl) ?_
            refine lv_ishl hx hb dX5_favours_59 ?_
            refine lv_goto (tgt := 64) hx hb dX5_favours_60 (by decide) ?_
            refine lv_ior hx hb dX5_favours_64 ?_
            refine lv_topi (fun v65 ev65 => ?_)
            replace h := o_nx ev65 h
            refine lv_istore_n (lv' := [(2, .int v65), (0, .ref (sA G 9 0)), (1, .int a1), (3, .int x3_38)]) hx hb dX5_favours_65 rfl hl (by decide) rfl (fun ls hl => ?_)
            obtain ⟨v66, ev66, h⟩ := o_nm h
            refine lv_iinc (v := v66) (lv' := [(3, .int v66), (2, .int v65), (0, .ref (sA G 9 0)), (1, .int a1)]) hx hb dX5_favours_66 hl (k := 3) rfl (by rw [ev66]; rfl) (by decide) rfl (fun ls hl => ?_)
            refine lv_goto (tgt := 38) hx hb dX5_favours_69 (by decide) ?_
            exact IH38 v65 v66 h _ _ _ hw (lv_sub hl [2, 3, 1, 0] rfl)
    refine lv_if_eq (tgt := 34) hx hb dX5_favours_27 (by decide) (fun c27 => ?_) (fun c27 => ?_)
    · replace h := o_t c27 h
      refine lv_iconst (v := -1) hx hb dX5_favours_34 (by decide) ?_
      exact J35 (-1 : Int32) _ _ _ hw (lv_sub hl [0, 1] rfl) h
    · replace h := o_f c27 h
      refine lv_iconst (v := 0) hx hb dX5_favours_30 (by decide) ?_
      refine lv_goto (tgt := 35) hx hb dX5_favours_31 (by decide) ?_
      exact J35 (0 : Int32) _ _ _ hw (lv_sub hl [0, 1] rfl) h
  · replace h := o_t c5 h
    refine lv_aload_n hx hb dX5_favours_8 rfl (lv_at hl 0 rfl) ?_
    refine lv_ldc (v := -1000000001) hx hb hown (hts (.constant RX5 38 (-1000000001)) (by decide +kernel)) dX5_favours_9 ?_
    obtain ⟨q11, eq11, h⟩ := o_bd h
    refine kV (As := [.int (-1000000001 : Int32)]) (rest := []) (st' := [.int q11.1]) ⟨hx, hb, hml, hown, hts⟩ (kX5_finds l G eq11) (cwV 1 hts gX5_favours_X5_finds rfl rfl rfl qqX5_finds ⟨Nat.le_of_ble_eq_true rfl, Nat.le_of_ble_eq_true rfl⟩) hw (rvMd hw) rfl hl.1 rfl (Nat.le_of_ble_eq_true rfl) dX5_favours_11 ⟨Nat.zero_le _, Nat.zero_le _⟩ rfl (fun H locs hw => ?_)
    exact rI hQ hx hb hr hlk hw dX5_favours_14 (o_2a h) rfl (o_2b h)
-- X5_friend
def bX5_friend_17 (a1 : Int32) (rc17 : Int32 → sOb → Option (Int32 × sOb)) (x2_17 : Int32) (T_17 : sOb) : Option (Int32 × sOb) :=
  if (T_17.2.1 0 (0 : Int32).toNatClampNeg) ≤ x2_17 then ((fX5_finds T_17 (-1000000004 : Int32)).bind fun q53 => some (q53.1, q53.2)) else (if x2_17 = a1 then (nm (x2_17 + (1 : Int32)) fun v44 => rc17 v44 T_17) else ((fX5_hasIf T_17 a1 (3 : Int32) x2_17).bind fun q36 => if q36.1 = 0 then (nm (x2_17 + (1 : Int32)) fun v44 => rc17 v44 q36.2) else (some (x2_17, q36.2))))
def fX5_friend (M : sOb) (a1 : Int32) : Option (Int32 × sOb) :=
  (fX5_isRunner M a1).bind fun q2 => if q2 = 0 then ((fX5_finds M (-1000000001 : Int32)).bind fun q11 => some (q11.1, q11.2)) else (fx2 (bX5_friend_17 a1) FU (-1 : Int32) M)
def rmX5_friend : Room := { frames := 8, cells := 0, slots := 0, locals := 182 }
theorem qqX5_friend : yX5_friend.cls = RX5 ∧ yX5_friend.cls ≠ "java/lang/invoke/MethodHandle" ∧ yX5_friend.cls ≠ "java/lang/invoke/VarHandle" ∧ (parseMethodDescriptor yX5_friend.desc).map (fun d => d.parameters.length) = some 1 := by decide +kernel
set_option maxRecDepth 100000 in
set_option maxHeartbeats 4000000 in
theorem kX5_friend (l : Launch) (G : sGl) {S : sWo} {M : sOb} {a1 : Int32} {q : (Int32 × sOb)}  (h : fX5_friend M a1 = some q) : sCt l G yX5_friend wsX5_friend rmX5_friend [.ref (sA G 9 0), .int a1] S M (some (.int q.1)) S q.2 := by
  refine cMk (cc := cX5_friend) (maxL := 3) (ret := (some .int)) (by decide) rfl (Nat.le_of_ble_eq_true rfl) ?_
  intro p e s m args below meth c Q hQ hx hb hr hlk hml hown hts hw ls hl
  have hown : s.vm.findClass RX5 = some m.cls := hown
  have hl : lv_has ls 3 [(0, .ref (sA G 9 0)), (1, .int a1)] := hl
  have hiX5 : ∀ w ∈ u_ws RX5 TX5 15, w ∈ wsX5_friend := by decide +kernel
  unfold fX5_friend at h
  refine lv_aload_n hx hb dX5_friend_0 rfl (lv_at hl 0 rfl) ?_
  refine lv_iload_n hx hb dX5_friend_1 rfl (lv_at hl 1 rfl) ?_
  obtain ⟨q2, eq2, h⟩ := o_bd h
  refine kV (As := [.int a1]) (rest := []) (st' := [.int q2]) ⟨hx, hb, hml, hown, hts⟩ (kX5_isRunner l G eq2) (cwV 1 hts gX5_friend_X5_isRunner rfl rfl rfl qqX5_isRunner ⟨Nat.le_of_ble_eq_true rfl, Nat.le_of_ble_eq_true rfl⟩) hw (rvMd hw) rfl hl.1 rfl (Nat.le_of_ble_eq_true rfl) dX5_friend_2 ⟨Nat.zero_le _, Nat.zero_le _⟩ rfl (fun H locs hw => ?_)
  refine lv_if_ne (tgt := 15) hx hb dX5_friend_5 (by decide) (fun c5 => ?_) (fun c5 => ?_)
  · replace h := o_f c5 h
    refine lv_iconst (v := -1) hx hb dX5_friend_15 (by decide) ?_
    refine lv_istore_n (lv' := [(2, .int (-1 : Int32)), (0, .ref (sA G 9 0)), (1, .int a1)]) hx hb dX5_friend_16 rfl hl (by decide) rfl (fun ls hl => ?_)
    refine fx2_w (F := (bX5_friend_17 a1)) (P := fun x2_17 T_17 => ∀ (H : Heap) (locs : List Loc) (ls : Array Slot), sHw G s S T_17 H locs → lv_has ls 3 [(0, .ref (sA G 9 0)), (1, .int a1), (2, .int x2_17)] → W p l e rmX5_friend s m args below meth c H locs 0 0 Q (F0 m 17 ls [])) ?_ _ _ _ h _ _ _ hw (lv_sub hl [1, 2, 0] rfl)
    intro rc17 IH17 x2_17 T_17 h H locs ls hw hl
    unfold bX5_friend_17 at h
    refine lv_iload_n hx hb dX5_friend_17 rfl (lv_at hl 2 rfl) ?_
    refine lv_aload_n hx hb dX5_friend_18 rfl (lv_at hl 0 rfl) ?_
    refine gMd (v := .ref (sA G 9 1)) hx hb hts hiX5 hown hw 0 (by decide) (hts (.fieldLink RX5 7 "SecondHomeModel" "s" "[I") (by decide +kernel)) rfl dX5_friend_19 ?_
    refine lv_iconst (v := 0) hx hb dX5_friend_22 (by decide) ?_
    refine ldMd hx hb hw 0 (by decide) (n := 77) rfl (by decide) dX5_friend_23 ?_
    refine lv_icmp_ge (tgt := 50) hx hb dX5_friend_24 (by decide) (fun c24 => ?_) (fun c24 => ?_)
    · replace h := o_t c24 h
      refine lv_aload_n hx hb dX5_friend_50 rfl (lv_at hl 0 rfl) ?_
      refine lv_ldc (v := -1000000004) hx hb hown (hts (.constant RX5 39 (-1000000004)) (by decide +kernel)) dX5_friend_51 ?_
      obtain ⟨q53, eq53, h⟩ := o_bd h
      refine kV (As := [.int (-1000000004 : Int32)]) (rest := []) (st' := [.int q53.1]) ⟨hx, hb, hml, hown, hts⟩ (kX5_finds l G eq53) (cwV 1 hts gX5_friend_X5_finds rfl rfl rfl qqX5_finds ⟨Nat.le_of_ble_eq_true rfl, Nat.le_of_ble_eq_true rfl⟩) hw (rvMd hw) rfl hl.1 rfl (Nat.le_of_ble_eq_true rfl) dX5_friend_53 ⟨Nat.zero_le _, Nat.zero_le _⟩ rfl (fun H locs hw => ?_)
      exact rI hQ hx hb hr hlk hw dX5_friend_56 (o_2a h) rfl (o_2b h)
    · replace h := o_f c24 h
      refine lv_iload_n hx hb dX5_friend_27 rfl (lv_at hl 2 rfl) ?_
      refine lv_iload_n hx hb dX5_friend_28 rfl (lv_at hl 1 rfl) ?_
      refine lv_icmp_eq (tgt := 44) hx hb dX5_friend_29 (by decide) (fun c29 => ?_) (fun c29 => ?_)
      · replace h := o_t c29 h
        obtain ⟨v44, ev44, h⟩ := o_nm h
        refine lv_iinc (v := v44) (lv' := [(2, .int v44), (0, .ref (sA G 9 0)), (1, .int a1)]) hx hb dX5_friend_44 hl (k := 2) rfl (by rw [ev44]; rfl) (by decide) rfl (fun ls hl => ?_)
        refine lv_goto (tgt := 17) hx hb dX5_friend_47 (by decide) ?_
        exact IH17 v44 T_17 h _ _ _ hw (lv_sub hl [1, 2, 0] rfl)
      · replace h := o_f c29 h
        refine lv_aload_n hx hb dX5_friend_32 rfl (lv_at hl 0 rfl) ?_
        refine lv_iload_n hx hb dX5_friend_33 rfl (lv_at hl 1 rfl) ?_
        refine lv_iconst (v := 3) hx hb dX5_friend_34 (by decide) ?_
        refine lv_iload_n hx hb dX5_friend_35 rfl (lv_at hl 2 rfl) ?_
        obtain ⟨q36, eq36, h⟩ := o_bd h
        refine kV (As := [.int a1, .int (3 : Int32), .int x2_17]) (rest := []) (st' := [.int q36.1]) ⟨hx, hb, hml, hown, hts⟩ (kX5_hasIf l G eq36) (cwV 3 hts gX5_friend_X5_hasIf rfl rfl rfl qqX5_hasIf ⟨Nat.le_of_ble_eq_true rfl, Nat.le_of_ble_eq_true rfl⟩) hw (rvMd hw) rfl hl.1 rfl (Nat.le_of_ble_eq_true rfl) dX5_friend_36 ⟨Nat.zero_le _, Nat.zero_le _⟩ rfl (fun H locs hw => ?_)
        refine lv_if_eq (tgt := 44) hx hb dX5_friend_39 (by decide) (fun c39 => ?_) (fun c39 => ?_)
        · replace h := o_t c39 h
          obtain ⟨v44, ev44, h⟩ := o_nm h
          refine lv_iinc (v := v44) (lv' := [(2, .int v44), (0, .ref (sA G 9 0)), (1, .int a1)]) hx hb dX5_friend_44 hl (k := 2) rfl (by rw [ev44]; rfl) (by decide) rfl (fun ls hl => ?_)
          refine lv_goto (tgt := 17) hx hb dX5_friend_47 (by decide) ?_
          exact IH17 v44 q36.2 h _ _ _ hw (lv_sub hl [1, 2, 0] rfl)
        · replace h := o_f c39 h
          refine lv_iload_n hx hb dX5_friend_42 rfl (lv_at hl 2 rfl) ?_
          exact rI hQ hx hb hr hlk hw dX5_friend_43 (o_2a h) rfl (o_2b h)
  · replace h := o_t c5 h
    refine lv_aload_n hx hb dX5_friend_8 rfl (lv_at hl 0 rfl) ?_
    refine lv_ldc (v := -1000000001) hx hb hown (hts (.constant RX5 38 (-1000000001)) (by decide +kernel)) dX5_friend_9 ?_
    obtain ⟨q11, eq11, h⟩ := o_bd h
    refine kV (As := [.int (-1000000001 : Int32)]) (rest := []) (st' := [.int q11.1]) ⟨hx, hb, hml, hown, hts⟩ (kX5_finds l G eq11) (cwV 1 hts gX5_friend_X5_finds rfl rfl rfl qqX5_finds ⟨Nat.le_of_ble_eq_true rfl, Nat.le_of_ble_eq_true rfl⟩) hw (rvMd hw) rfl hl.1 rfl (Nat.le_of_ble_eq_true rfl) dX5_friend_11 ⟨Nat.zero_le _, Nat.zero_le _⟩ rfl (fun H locs hw => ?_)
    exact rI hQ hx hb hr hlk hw dX5_friend_14 (o_2a h) rfl (o_2b h)
-- X5_prizeIf
def fX5_prizeIf (M : sOb) (a1 : Int32) (a2 : Int32) : Option (Int32 × sOb) :=
  (fX5_laysBy M).bind fun q1 => if (((5 : Int32) + ((8 : Int32) * a2)) + (1 : Int32)) < 0 ∨ 77 ≤ (((5 : Int32) + ((8 : Int32) * a2)) + (1 : Int32)).toNatClampNeg then none else (fX5_puts q1 a1 (1 : Int32) (q1.2.1 2 (((5 : Int32) + ((8 : Int32) * a2)) + (1 : Int32)).toNatClampNeg)).bind fun q20 => if (((5 : Int32) + ((8 : Int32) * a1)) + (1 : Int32)) < 0 ∨ 77 ≤ (((5 : Int32) + ((8 : Int32) * a1)) + (1 : Int32)).toNatClampNeg then none else (fX5_puts q20 a2 (1 : Int32) (q20.2.1 2 (((5 : Int32) + ((8 : Int32) * a1)) + (1 : Int32)).toNatClampNeg)).bind fun q39 => (fX5_races q39).bind fun q43 => (fX5_laysBack q43.2).bind fun q48 => some (q43.1, q48)
def rmX5_prizeIf : Room := { frames := 7, cells := 0, slots := 0, locals := 158 }
theorem qqX5_prizeIf : yX5_prizeIf.cls = RX5 ∧ yX5_prizeIf.cls ≠ "java/lang/invoke/MethodHandle" ∧ yX5_prizeIf.cls ≠ "java/lang/invoke/VarHandle" ∧ (parseMethodDescriptor yX5_prizeIf.desc).map (fun d => d.parameters.length) = some 2 := by decide +kernel
set_option maxRecDepth 100000 in
set_option maxHeartbeats 4000000 in
theorem kX5_prizeIf (l : Launch) (G : sGl) {S : sWo} {M : sOb} {a1 : Int32} {a2 : Int32} {q : (Int32 × sOb)}  (h : fX5_prizeIf M a1 a2 = some q) : sCt l G yX5_prizeIf wsX5_prizeIf rmX5_prizeIf [.ref (sA G 9 0), .int a1, .int a2] S M (some (.int q.1)) S q.2 := by
  refine cMk (cc := cX5_prizeIf) (maxL := 4) (ret := (some .int)) (by decide) rfl (Nat.le_of_ble_eq_true rfl) ?_
  intro p e s m args below meth c Q hQ hx hb hr hlk hml hown hts hw ls hl
  have hown : s.vm.findClass RX5 = some m.cls := hown
  have hl : lv_has ls 4 [(0, .ref (sA G 9 0)), (1, .int a1), (2, .int a2)] := hl
  have hiX5 : ∀ w ∈ u_ws RX5 TX5 15, w ∈ wsX5_prizeIf := by decide +kernel
  unfold fX5_prizeIf at h
  refine lv_aload_n hx hb dX5_prizeIf_0 rfl (lv_at hl 0 rfl) ?_
  obtain ⟨q1, eq1, h⟩ := o_bd h
  refine kV (As := []) (rest := []) (st' := []) ⟨hx, hb, hml, hown, hts⟩ (kX5_laysBy l G eq1) (cwV 0 hts gX5_prizeIf_X5_laysBy rfl rfl rfl qqX5_laysBy ⟨Nat.le_of_ble_eq_true rfl, Nat.le_of_ble_eq_true rfl⟩) hw (rvMd hw) rfl hl.1 rfl (Nat.le_of_ble_eq_true rfl) dX5_prizeIf_1 ⟨Nat.zero_le _, Nat.zero_le _⟩ rfl (fun H locs hw => ?_)
  refine lv_aload_n hx hb dX5_prizeIf_4 rfl (lv_at hl 0 rfl) ?_
  refine lv_iload_n hx hb dX5_prizeIf_5 rfl (lv_at hl 1 rfl) ?_
  refine lv_iconst (v := 1) hx hb dX5_prizeIf_6 (by decide) ?_
  refine lv_aload_n hx hb dX5_prizeIf_7 rfl (lv_at hl 0 rfl) ?_
  refine gMd (v := .ref (sA G 9 3)) hx hb hts hiX5 hown hw 2 (by decide) (hts (.fieldLink RX5 16 "SecondHomeModel" "close" "[I") (by decide +kernel)) rfl dX5_prizeIf_8 ?_
  refine lv_iconst (v := 5) hx hb dX5_prizeIf_11 (by decide) ?_
  refine lv_bipush (v := 8) hx hb dX5_prizeIf_12 (by decide) ?_
  refine lv_iload_n hx hb dX5_prizeIf_14 rfl (lv_at hl 2 rfl) ?_
  refine lv_imul hx hb dX5_prizeIf_15 ?_
  refine lv_iadd hx hb dX5_prizeIf_16 ?_
  refine lv_iconst (v := 1) hx hb dX5_prizeIf_17 (by decide) ?_
  refine lv_iadd hx hb dX5_prizeIf_18 ?_
  obtain ⟨b19, h⟩ := o_in h
  refine ldMd hx hb hw 2 (by decide) (n := 77) rfl b19 dX5_prizeIf_19 ?_
  obtain ⟨q20, eq20, h⟩ := o_bd h
  refine kV (As := [.int a1, .int (1 : Int32), .int (q1.2.1 2 (((5 : Int32) + ((8 : Int32) * a2)) + (1 : Int32)).toNatClampNeg)]) (rest := []) (st' := []) ⟨hx, hb, hml, hown, hts⟩ (kX5_puts l G eq20) (cwV 3 hts gX5_prizeIf_X5_puts rfl rfl rfl qqX5_puts ⟨Nat.le_of_ble_eq_true rfl, Nat.le_of_ble_eq_true rfl⟩) hw (rvMd hw) rfl hl.1 rfl (Nat.le_of_ble_eq_true rfl) dX5_prizeIf_20 ⟨Nat.zero_le _, Nat.zero_le _⟩ rfl (fun H locs hw => ?_)
  refine lv_aload_n hx hb dX5_prizeIf_23 rfl (lv_at hl 0 rfl) ?_
  refine lv_iload_n hx hb dX5_prizeIf_24 rfl (lv_at hl 2 rfl) ?_
  refine lv_iconst (v := 1) hx hb dX5_prizeIf_25 (by decide) ?_
  refine lv_aload_n hx hb dX5_prizeIf_26 rfl (lv_at hl 0 rfl) ?_
  refine gMd (v := .ref (sA G 9 3)) hx hb hts hiX5 hown hw 2 (by decide) (hts (.fieldLink RX5 16 "SecondHomeModel" "close" "[I") (by decide +kernel)) rfl dX5_prizeIf_27 ?_
  refine lv_iconst (v := 5) hx hb dX5_prizeIf_30 (by decide) ?_
  refine lv_bipush (v := 8) hx hb dX5_prizeIf_31 (by decide) ?_
  refine lv_iload_n hx hb dX5_prizeIf_33 rfl (lv_at hl 1 rfl) ?_
  refine lv_imul hx hb dX5_prizeIf_34 ?_
  refine lv_iadd hx hb dX5_prizeIf_35 ?_
  refine lv_iconst (v := 1) hx hb dX5_prizeIf_36 (by decide) ?_
  refine lv_iadd hx hb dX5_prizeIf_37 ?_
  obtain ⟨b38, h⟩ := o_in h
  refine ldMd hx hb hw 2 (by decide) (n := 77) rfl b38 dX5_prizeIf_38 ?_
  obtain ⟨q39, eq39, h⟩ := o_bd h
  refine kV (As := [.int a2, .int (1 : Int32), .int (q20.2.1 2 (((5 : Int32) + ((8 : Int32) * a1)) + (1 : Int32)).toNatClampNeg)]) (rest := []) (st' := []) ⟨hx, hb, hml, hown, hts⟩ (kX5_puts l G eq39) (cwV 3 hts gX5_prizeIf_X5_puts rfl rfl rfl qqX5_puts ⟨Nat.le_of_ble_eq_true rfl, Nat.le_of_ble_eq_true rfl⟩) hw (rvMd hw) rfl hl.1 rfl (Nat.le_of_ble_eq_true rfl) dX5_prizeIf_39 ⟨Nat.zero_le _, Nat.zero_le _⟩ rfl (fun H locs hw => ?_)
  refine lv_aload_n hx hb dX5_prizeIf_42 rfl (lv_at hl 0 rfl) ?_
  obtain ⟨q43, eq43, h⟩ := o_bd h
  refine kV (As := []) (rest := []) (st' := [.int q43.1]) ⟨hx, hb, hml, hown, hts⟩ (kX5_races l G eq43) (cwV 0 hts gX5_prizeIf_X5_races rfl rfl rfl qqX5_races ⟨Nat.le_of_ble_eq_true rfl, Nat.le_of_ble_eq_true rfl⟩) hw (rvMd hw) rfl hl.1 rfl (Nat.le_of_ble_eq_true rfl) dX5_prizeIf_43 ⟨Nat.zero_le _, Nat.zero_le _⟩ rfl (fun H locs hw => ?_)
  refine lv_istore_n (lv' := [(3, .int q43.1), (0, .ref (sA G 9 0)), (1, .int a1), (2, .int a2)]) hx hb dX5_prizeIf_46 rfl hl (by decide) rfl (fun ls hl => ?_)
  refine lv_aload_n hx hb dX5_prizeIf_47 rfl (lv_at hl 1 rfl) ?_
  obtain ⟨q48, eq48, h⟩ := o_bd h
  refine kV (As := []) (rest := []) (st' := []) ⟨hx, hb, hml, hown, hts⟩ (kX5_laysBack l G eq48) (cwV 0 hts gX5_prizeIf_X5_laysBack rfl rfl rfl qqX5_laysBack ⟨Nat.le_of_ble_eq_true rfl, Nat.le_of_ble_eq_true rfl⟩) hw (rvMd hw) rfl hl.1 rfl (Nat.le_of_ble_eq_true rfl) dX5_prizeIf_48 ⟨Nat.zero_le _, Nat.zero_le _⟩ rfl (fun H locs hw => ?_)
  refine lv_iload_n hx hb dX5_prizeIf_51 rfl (lv_at hl 0 rfl) ?_
  exact rI hQ hx hb hr hlk hw dX5_prizeIf_52 (o_2a h) rfl (o_2b h)
-- X5_deal
def bX5_deal_33 (q5 : Int32 × sOb) (rc15 : Int32 → sOb → Option (Int32 × sOb)) (x2_15 : Int32) (rc33 : Int32 → sOb → Option (Int32 × sOb)) (x3_33 : Int32) (T_33 : sOb) : Option (Int32 × sOb) :=
  if (T_33.2.1 0 (0 : Int32).toNatClampNeg) ≤ x3_33 then (nm (x2_15 + (1 : Int32)) fun v75 => rc15 v75 T_33) else ((fX5_prizeIf T_33 x2_15 x3_33).bind fun q46 => if q46.1 < 0 then (nm (x3_33 + (1 : Int32)) fun v69 => rc33 v69 q46.2) else (if q46.1 = q5.1 then (nm (x3_33 + (1 : Int32)) fun v69 => rc33 v69 q46.2) else (some ((((10 : Int32) * x2_15) + x3_33), q46.2))))
def bX5_deal_15 (q5 : Int32 × sOb) (rc15 : Int32 → sOb → Option (Int32 × sOb)) (x2_15 : Int32) (T_15 : sOb) : Option (Int32 × sOb) :=
  if (T_15.2.1 0 (0 : Int32).toNatClampNeg) ≤ x2_15 then ((fX5_finds T_15 (-1000000004 : Int32)).bind fun q84 => some (q84.1, q84.2)) else (if q5.1 < 0 then ((fX5_finds T_15 (-1000000004 : Int32)).bind fun q84 => some (q84.1, q84.2)) else (nm (x2_15 + (1 : Int32)) fun v32 => fx2 (bX5_deal_33 q5 rc15 x2_15) FU v32 T_15))
def fX5_deal (M : sOb) : Option (Int32 × sOb) :=
  (fX5_laysBy M).bind fun q1 => (fX5_races q1).bind fun q5 => (fX5_laysBack q5.2).bind fun q10 => fx2 (bX5_deal_15 q5) FU (0 : Int32) q10
def rmX5_deal : Room := { frames := 8, cells := 0, slots := 0, locals := 181 }
theorem qqX5_deal : yX5_deal.cls = RX5 ∧ yX5_deal.cls ≠ "java/lang/invoke/MethodHandle" ∧ yX5_deal.cls ≠ "java/lang/invoke/VarHandle" ∧ (parseMethodDescriptor yX5_deal.desc).map (fun d => d.parameters.length) = some 0 := by decide +kernel
set_option maxRecDepth 100000 in
set_option maxHeartbeats 4000000 in
theorem kX5_deal (l : Launch) (G : sGl) {S : sWo} {M : sOb}  {q : (Int32 × sOb)}  (h : fX5_deal M = some q) : sCt l G yX5_deal wsX5_deal rmX5_deal [.ref (sA G 9 0)] S M (some (.int q.1)) S q.2 := by
  refine cMk (cc := cX5_deal) (maxL := 5) (ret := (some .int)) (by decide) rfl (Nat.le_of_ble_eq_true rfl) ?_
  intro p e s m args below meth c Q hQ hx hb hr hlk hml hown hts hw ls hl
  have hown : s.vm.findClass RX5 = some m.cls := hown
  have hl : lv_has ls 5 [(0, .ref (sA G 9 0))] := hl
  have hiX5 : ∀ w ∈ u_ws RX5 TX5 15, w ∈ wsX5_deal := by decide +kernel
  unfold fX5_deal at h
  refine lv_aload_n hx hb dX5_deal_0 rfl (lv_at hl 0 rfl) ?_
  obtain ⟨q1, eq1, h⟩ := o_bd h
  refine kV (As := []) (rest := []) (st' := []) ⟨hx, hb, hml, hown, hts⟩ (kX5_laysBy l G eq1) (cwV 0 hts gX5_deal_X5_laysBy rfl rfl rfl qqX5_laysBy ⟨Nat.le_of_ble_eq_true rfl, Nat.le_of_ble_eq_true rfl⟩) hw (rvMd hw) rfl hl.1 rfl (Nat.le_of_ble_eq_true rfl) dX5_deal_1 ⟨Nat.zero_le _, Nat.zero_le _⟩ rfl (fun H locs hw => ?_)
  refine lv_aload_n hx hb dX5_deal_4 rfl (lv_at hl 0 rfl) ?_
  obtain ⟨q5, eq5, h⟩ := o_bd h
  refine kV (As := []) (rest := []) (st' := [.int q5.1]) ⟨hx, hb, hml, hown, hts⟩ (kX5_races l G eq5) (cwV 0 hts gX5_deal_X5_races rfl rfl rfl qqX5_races ⟨Nat.le_of_ble_eq_true rfl, Nat.le_of_ble_eq_true rfl⟩) hw (rvMd hw) rfl hl.1 rfl (Nat.le_of_ble_eq_true rfl) dX5_deal_5 ⟨Nat.zero_le _, Nat.zero_le _⟩ rfl (fun H locs hw => ?_)
  refine lv_istore_n (lv' := [(1, .int q5.1), (0, .ref (sA G 9 0))]) hx hb dX5_deal_8 rfl hl (by decide) rfl (fun ls hl => ?_)
  refine lv_aload_n hx hb dX5_deal_9 rfl (lv_at hl 1 rfl) ?_
  obtain ⟨q10, eq10, h⟩ := o_bd h
  refine kV (As := []) (rest := []) (st' := []) ⟨hx, hb, hml, hown, hts⟩ (kX5_laysBack l G eq10) (cwV 0 hts gX5_deal_X5_laysBack rfl rfl rfl qqX5_laysBack ⟨Nat.le_of_ble_eq_true rfl, Nat.le_of_ble_eq_true rfl⟩) hw (rvMd hw) rfl hl.1 rfl (Nat.le_of_ble_eq_true rfl) dX5_deal_10 ⟨Nat.zero_le _, Nat.zero_le _⟩ rfl (fun H locs hw => ?_)
  refine lv_iconst (v := 0) hx hb dX5_deal_13 (by decide) ?_
  refine lv_istore_n (lv' := [(2, .int (0 : Int32)), (1, .int q5.1), (0, .ref (sA G 9 0))]) hx hb dX5_deal_14 rfl hl (by decide) rfl (fun ls hl => ?_)
  refine fx2_w (F := (bX5_deal_15 q5)) (P := fun x2_15 T_15 => ∀ (H : Heap) (locs : List Loc) (ls : Array Slot), sHw G s S T_15 H locs → lv_has ls 5 [(0, .ref (sA G 9 0)), (1, .int q5.1), (2, .int x2_15)] → W p l e rmX5_deal s m args below meth c H locs 0 0 Q (F0 m 15 ls [])) ?_ _ _ _ h _ _ _ hw (lv_sub hl [2, 1, 0] rfl)
  intro rc15 IH15 x2_15 T_15 h H locs ls hw hl
  unfold bX5_deal_15 at h
  refine lv_iload_n hx hb dX5_deal_15 rfl (lv_at hl 2 rfl) ?_
  refine lv_aload_n hx hb dX5_deal_16 rfl (lv_at hl 0 rfl) ?_
  refine gMd (v := .ref (sA G 9 1)) hx hb hts hiX5 hown hw 0 (by decide) (hts (.fieldLink RX5 7 "SecondHomeModel" "s" "[I") (by decide +kernel)) rfl dX5_deal_17 ?_
  refine lv_iconst (v := 0) hx hb dX5_deal_20 (by decide) ?_
  refine ldMd hx hb hw 0 (by decide) (n := 77) rfl (by decide) dX5_deal_21 ?_
  refine lv_icmp_ge (tgt := 81) hx hb dX5_deal_22 (by decide) (fun c22 => ?_) (fun c22 => ?_)
  · replace h := o_t c22 h
    refine lv_aload_n hx hb dX5_deal_81 rfl (lv_at hl 0 rfl) ?_
    refine lv_ldc (v := -1000000004) hx hb hown (hts (.constant RX5 39 (-1000000004)) (by decide +kernel)) dX5_deal_82 ?_
    obtain ⟨q84, eq84, h⟩ := o_bd h
    refine kV (As := [.int (-1000000004 : Int32)]) (rest := []) (st' := [.int q84.1]) ⟨hx, hb, hml, hown, hts⟩ (kX5_finds l G eq84) (cwV 1 hts gX5_deal_X5_finds rfl rfl rfl qqX5_finds ⟨Nat.le_of_ble_eq_true rfl, Nat.le_of_ble_eq_true rfl⟩) hw (rvMd hw) rfl hl.1 rfl (Nat.le_of_ble_eq_true rfl) dX5_deal_84 ⟨Nat.zero_le _, Nat.zero_le _⟩ rfl (fun H locs hw => ?_)
    exact rI hQ hx hb hr hlk hw dX5_deal_87 (o_2a h) rfl (o_2b h)
  · replace h := o_f c22 h
    refine lv_iload_n hx hb dX5_deal_25 rfl (lv_at hl 1 rfl) ?_
    refine lv_if_lt (tgt := 81) hx hb dX5_deal_26 (by decide) (fun c26 => ?_) (fun c26 => ?_)
    · replace h := o_t c26 h
      refine lv_aload_n hx hb dX5_deal_81 rfl (lv_at hl 0 rfl) ?_
      refine lv_ldc (v := -1000000004) hx hb hown (hts (.constant RX5 39 (-1000000004)) (by decide +kernel)) dX5_deal_82 ?_
      obtain ⟨q84, eq84, h⟩ := o_bd h
      refine kV (As := [.int (-1000000004 : Int32)]) (rest := []) (st' := [.int q84.1]) ⟨hx, hb, hml, hown, hts⟩ (kX5_finds l G eq84) (cwV 1 hts gX5_deal_X5_finds rfl rfl rfl qqX5_finds ⟨Nat.le_of_ble_eq_true rfl, Nat.le_of_ble_eq_true rfl⟩) hw (rvMd hw) rfl hl.1 rfl (Nat.le_of_ble_eq_true rfl) dX5_deal_84 ⟨Nat.zero_le _, Nat.zero_le _⟩ rfl (fun H locs hw => ?_)
      exact rI hQ hx hb hr hlk hw dX5_deal_87 (o_2a h) rfl (o_2b h)
    · replace h := o_f c26 h
      refine lv_iload_n hx hb dX5_deal_29 rfl (lv_at hl 2 rfl) ?_
      refine lv_iconst (v := 1) hx hb dX5_deal_30 (by decide) ?_
      refine lv_iadd hx hb dX5_deal_31 ?_
      refine lv_topi (fun v32 ev32 => ?_)
      replace h := o_nx ev32 h
      refine lv_istore_n (lv' := [(3, .int v32), (0, .ref (sA G 9 0)), (1, .int q5.1), (2, .int x2_15)]) hx hb dX5_deal_32 rfl hl (by decide) rfl (fun ls hl => ?_)
      refine fx2_w (F := (bX5_deal_33 q5 rc15 x2_15)) (P := fun x3_33 T_33 => ∀ (H : Heap) (locs : List Loc) (ls : Array Slot), sHw G s S T_33 H locs → lv_has ls 5 [(0, .ref (sA G 9 0)), (1, .int q5.1), (2, .int x2_15), (3, .int x3_33)] → W p l e rmX5_deal s m args below meth c H locs 0 0 Q (F0 m 33 ls [])) ?_ _ _ _ h _ _ _ hw (lv_sub hl [1, 2, 3, 0] rfl)
      intro rc33 IH33 x3_33 T_33 h H locs ls hw hl
      unfold bX5_deal_33 at h
      refine lv_iload_n hx hb dX5_deal_33 rfl (lv_at hl 3 rfl) ?_
      refine lv_aload_n hx hb dX5_deal_34 rfl (lv_at hl 0 rfl) ?_
      refine gMd (v := .ref (sA G 9 1)) hx hb hts hiX5 hown hw 0 (by decide) (hts (.fieldLink RX5 7 "SecondHomeModel" "s" "[I") (by decide +kernel)) rfl dX5_deal_35 ?_
      refine lv_iconst (v := 0) hx hb dX5_deal_38 (by decide) ?_
      refine ldMd hx hb hw 0 (by decide) (n := 77) rfl (by decide) dX5_deal_39 ?_
      refine lv_icmp_ge (tgt := 75) hx hb dX5_deal_40 (by decide) (fun c40 => ?_) (fun c40 => ?_)
      · replace h := o_t c40 h
        obtain ⟨v75, ev75, h⟩ := o_nm h
        refine lv_iinc (v := v75) (lv' := [(2, .int v75), (0, .ref (sA G 9 0)), (1, .int q5.1), (3, .int x3_33)]) hx hb dX5_deal_75 hl (k := 2) rfl (by rw [ev75]; rfl) (by decide) rfl (fun ls hl => ?_)
        refine lv_goto (tgt := 15) hx hb dX5_deal_78 (by decide) ?_
        exact IH15 v75 T_33 h _ _ _ hw (lv_sub hl [1, 2, 0] rfl)
      · replace h := o_f c40 h
        refine lv_aload_n hx hb dX5_deal_43 rfl (lv_at hl 0 rfl) ?_
        refine lv_iload_n hx hb dX5_deal_44 rfl (lv_at hl 2 rfl) ?_
        refine lv_iload_n hx hb dX5_deal_45 rfl (lv_at hl 3 rfl) ?_
        obtain ⟨q46, eq46, h⟩ := o_bd h
        refine kV (As := [.int x2_15, .int x3_33]) (rest := []) (st' := [.int q46.1]) ⟨hx, hb, hml, hown, hts⟩ (kX5_prizeIf l G eq46) (cwV 2 hts gX5_deal_X5_prizeIf rfl rfl rfl qqX5_prizeIf ⟨Nat.le_of_ble_eq_true rfl, Nat.le_of_ble_eq_true rfl⟩) hw (rvMd hw) rfl hl.1 rfl (Nat.le_of_ble_eq_true rfl) dX5_deal_46 ⟨Nat.zero_le _, Nat.zero_le _⟩ rfl (fun H locs hw => ?_)
        refine lv_istore (lv' := [(4, .int q46.1), (0, .ref (sA G 9 0)), (1, .int q5.1), (2, .int x2_15), (3, .int x3_33)]) hx hb dX5_deal_49 hl (by decide) rfl (fun ls hl => ?_)
        refine lv_iload hx hb dX5_deal_51 (lv_at hl 0 rfl) ?_
        refine lv_if_lt (tgt := 69) hx hb dX5_deal_53 (by decide) (fun c53 => ?_) (fun c53 => ?_)
        · replace h := o_t c53 h
          obtain ⟨v69, ev69, h⟩ := o_nm h
          refine lv_iinc (v := v69) (lv' := [(3, .int v69), (4, .int q46.1), (0, .ref (sA G 9 0)), (1, .int q5.1), (2, .int x2_15)]) hx hb dX5_deal_69 hl (k := 4) rfl (by rw [ev69]; rfl) (by decide) rfl (fun ls hl => ?_)
          refine lv_goto (tgt := 33) hx hb dX5_deal_72 (by decide) ?_
          exact IH33 v69 q46.2 h _ _ _ hw (lv_sub hl [2, 3, 4, 0] rfl)
        · replace h := o_f c53 h
          refine lv_iload hx hb dX5_deal_56 (lv_at hl 0 rfl) ?_
          refine lv_iload_n hx hb dX5_deal_58 rfl (lv_at hl 2 rfl) ?_
          refine lv_icmp_eq (tgt := 69) hx hb dX5_deal_59 (by decide) (fun c59 => ?_) (fun c59 => ?_)
          · replace h := o_t c59 h
            obtain ⟨v69, ev69, h⟩ := o_nm h
            refine lv_iinc (v := v69) (lv' := [(3, .int v69), (4, .int q46.1), (0, .ref (sA G 9 0)), (1, .int q5.1), (2, .int x2_15)]) hx hb dX5_deal_69 hl (k := 4) rfl (by rw [ev69]; rfl) (by decide) rfl (fun ls hl => ?_)
            refine lv_goto (tgt := 33) hx hb dX5_deal_72 (by decide) ?_
            exact IH33 v69 q46.2 h _ _ _ hw (lv_sub hl [2, 3, 4, 0] rfl)
          · replace h := o_f c59 h
            refine lv_bipush (v := 10) hx hb dX5_deal_62 (by decide) ?_
            refine lv_iload_n hx hb dX5_deal_64 rfl (lv_at hl 3 rfl) ?_
            refine lv_imul hx hb dX5_deal_65 ?_
            refine lv_iload_n hx hb dX5_deal_66 rfl (lv_at hl 4 rfl) ?_
            refine lv_iadd hx hb dX5_deal_67 ?_
            exact rI hQ hx hb hr hlk hw dX5_deal_68 (o_2a h) rfl (o_2b h)
-- X5_fair
def bX5_fair_47 (x1_45 : Int32) (rc47 : Int32 → sOb → Option (Int32 × sOb)) (x2_47 : Int32) (T_47 : sOb) : Option (Int32 × sOb) :=
  if (5 : Int32) < x2_47 then ((fX5_finds T_47 (-1000000004 : Int32)).bind fun q100 => some (q100.1, q100.2)) else (if x1_45 < 0 then ((fX5_finds T_47 (-1000000004 : Int32)).bind fun q100 => some (q100.1, q100.2)) else ((fX5_laysBy T_47).bind fun q57 => nm (sSa q57 0 (2 : Int32).toNatClampNeg x2_47) fun M66 => (fX5_races M66).bind fun q68 => nm (fun (y0_80 : Int32) => (fX5_laysBack q68.2).bind fun q82 => if y0_80 = 0 then (nm (x2_47 + (1 : Int32)) fun v91 => rc47 v91 q82) else (some (x2_47, q82))) fun k80 => if q68.1 = x1_45 then (k80 (1 : Int32)) else (k80 (0 : Int32))))
def bX5_fair_4 (M : sOb) (k45 : Int32 → Option (Int32 × sOb)) (rc4 : Int32 → Int32 → Option (Int32 × sOb)) (x1_4 : Int32) (x2_4 : Int32) : Option (Int32 × sOb) :=
  if (M.2.1 0 (0 : Int32).toNatClampNeg) ≤ x2_4 then (k45 x1_4) else (if x1_4 < 0 then (nm (x2_4 + (1 : Int32)) fun v39 => rc4 x2_4 v39) else ((fX5_is M x2_4 (1 : Int32)).bind fun q21 => (fX5_is M x1_4 (1 : Int32)).bind fun q27 => if q21 ≤ q27 then (nm (x2_4 + (1 : Int32)) fun v39 => rc4 x1_4 v39) else (nm (x2_4 + (1 : Int32)) fun v39 => rc4 x2_4 v39)))
def fX5_fair (M : sOb) : Option (Int32 × sOb) :=
  nm (fun (x1_45 : Int32) => fx2 (bX5_fair_47 x1_45) FU (0 : Int32) M) fun k45 => fx2 (bX5_fair_4 M k45) FU (-1 : Int32) (0 : Int32)
def rmX5_fair : Room := { frames := 7, cells := 0, slots := 0, locals := 158 }
theorem qqX5_fair : yX5_fair.cls = RX5 ∧ yX5_fair.cls ≠ "java/lang/invoke/MethodHandle" ∧ yX5_fair.cls ≠ "java/lang/invoke/VarHandle" ∧ (parseMethodDescriptor yX5_fair.desc).map (fun d => d.parameters.length) = some 0 := by decide +kernel
set_option maxRecDepth 100000 in
set_option maxHeartbeats 4000000 in
theorem kX5_fair (l : Launch) (G : sGl) {S : sWo} {M : sOb}  {q : (Int32 × sOb)}  (h : fX5_fair M = some q) : sCt l G yX5_fair wsX5_fair rmX5_fair [.ref (sA G 9 0)] S M (some (.int q.1)) S q.2 := by
  refine cMk (cc := cX5_fair) (maxL := 4) (ret := (some .int)) (by decide) rfl (Nat.le_of_ble_eq_true rfl) ?_
  intro p e s m args below meth c Q hQ hx hb hr hlk hml hown hts hw ls hl
  have hown : s.vm.findClass RX5 = some m.cls := hown
  have hl : lv_has ls 4 [(0, .ref (sA G 9 0))] := hl
  have hiX5 : ∀ w ∈ u_ws RX5 TX5 15, w ∈ wsX5_fair := by decide +kernel
  unfold fX5_fair at h
  refine lv_iconst (v := -1) hx hb dX5_fair_0 (by decide) ?_
  refine lv_istore_n (lv' := [(1, .int (-1 : Int32)), (0, .ref (sA G 9 0))]) hx hb dX5_fair_1 rfl hl (by decide) rfl (fun ls hl => ?_)
  refine lv_iconst (v := 0) hx hb dX5_fair_2 (by decide) ?_
  refine lv_istore_n (lv' := [(2, .int (0 : Int32)), (1, .int (-1 : Int32)), (0, .ref (sA G 9 0))]) hx hb dX5_fair_3 rfl hl (by decide) rfl (fun ls hl => ?_)
  obtain ⟨k45, ek45, h⟩ := o_nm h
  have J45 : ∀ (x1_45 : Int32) (H : Heap) (locs : List Loc) (ls : Array Slot), sHw G s S M H locs → lv_has ls 4 [(0, .ref (sA G 9 0)), (1, .int x1_45)] → k45 x1_45 = some q → W p l e rmX5_fair s m args below meth c H locs 0 0 Q (F0 m 45 ls []) := by
    intro x1_45 H locs ls hw hl h
    replace h := o_j1 ek45 h
    refine lv_iconst (v := 0) hx hb dX5_fair_45 (by decide) ?_
    refine lv_istore_n (lv' := [(2, .int (0 : Int32)), (0, .ref (sA G 9 0)), (1, .int x1_45)]) hx hb dX5_fair_46 rfl hl (by decide) rfl (fun ls hl => ?_)
    refine fx2_w (F := (bX5_fair_47 x1_45)) (P := fun x2_47 T_47 => ∀ (H : Heap) (locs : List Loc) (ls : Array Slot), sHw G s S T_47 H locs → lv_has ls 4 [(0, .ref (sA G 9 0)), (1, .int x1_45), (2, .int x2_47)] → W p l e rmX5_fair s m args below meth c H locs 0 0 Q (F0 m 47 ls [])) ?_ _ _ _ h _ _ _ hw (lv_sub hl [1, 2, 0] rfl)
    intro rc47 IH47 x2_47 T_47 h H locs ls hw hl
    unfold bX5_fair_47 at h
    refine lv_iload_n hx hb dX5_fair_47 rfl (lv_at hl 2 rfl) ?_
    refine lv_iconst (v := 5) hx hb dX5_fair_48 (by decide) ?_
    refine lv_icmp_gt (tgt := 97) hx hb dX5_fair_49 (by decide) (fun c49 => ?_) (fun c49 => ?_)
    · replace h := o_t c49 h
      refine lv_aload_n hx hb dX5_fair_97 rfl (lv_at hl 0 rfl) ?_
      refine lv_ldc (v := -1000000004) hx hb hown (hts (.constant RX5 39 (-1000000004)) (by decide +kernel)) dX5_fair_98 ?_
      obtain ⟨q100, eq100, h⟩ := o_bd h
      refine kV (As := [.int (-1000000004 : Int32)]) (rest := []) (st' := [.int q100.1]) ⟨hx, hb, hml, hown, hts⟩ (kX5_finds l G eq100) (cwV 1 hts gX5_fair_X5_finds rfl rfl rfl qqX5_finds ⟨Nat.le_of_ble_eq_true rfl, Nat.le_of_ble_eq_true rfl⟩) hw (rvMd hw) rfl hl.1 rfl (Nat.le_of_ble_eq_true rfl) dX5_fair_100 ⟨Nat.zero_le _, Nat.zero_le _⟩ rfl (fun H locs hw => ?_)
      exact rI hQ hx hb hr hlk hw dX5_fair_103 (o_2a h) rfl (o_2b h)
    · replace h := o_f c49 h
      refine lv_iload_n hx hb dX5_fair_52 rfl (lv_at hl 1 rfl) ?_
      refine lv_if_lt (tgt := 97) hx hb dX5_fair_53 (by decide) (fun c53 => ?_) (fun c53 => ?_)
      · replace h := o_t c53 h
        refine lv_aload_n hx hb dX5_fair_97 rfl (lv_at hl 0 rfl) ?_
        refine lv_ldc (v := -1000000004) hx hb hown (hts (.constant RX5 39 (-1000000004)) (by decide +kernel)) dX5_fair_98 ?_
        obtain ⟨q100, eq100, h⟩ := o_bd h
        refine kV (As := [.int (-1000000004 : Int32)]) (rest := []) (st' := [.int q100.1]) ⟨hx, hb, hml, hown, hts⟩ (kX5_finds l G eq100) (cwV 1 hts gX5_fair_X5_finds rfl rfl rfl qqX5_finds ⟨Nat.le_of_ble_eq_true rfl, Nat.le_of_ble_eq_true rfl⟩) hw (rvMd hw) rfl hl.1 rfl (Nat.le_of_ble_eq_true rfl) dX5_fair_100 ⟨Nat.zero_le _, Nat.zero_le _⟩ rfl (fun H locs hw => ?_)
        exact rI hQ hx hb hr hlk hw dX5_fair_103 (o_2a h) rfl (o_2b h)
      · replace h := o_f c53 h
        refine lv_aload_n hx hb dX5_fair_56 rfl (lv_at hl 0 rfl) ?_
        obtain ⟨q57, eq57, h⟩ := o_bd h
        refine kV (As := []) (rest := []) (st' := []) ⟨hx, hb, hml, hown, hts⟩ (kX5_laysBy l G eq57) (cwV 0 hts gX5_fair_X5_laysBy rfl rfl rfl qqX5_laysBy ⟨Nat.le_of_ble_eq_true rfl, Nat.le_of_ble_eq_true rfl⟩) hw (rvMd hw) rfl hl.1 rfl (Nat.le_of_ble_eq_true rfl) dX5_fair_57 ⟨Nat.zero_le _, Nat.zero_le _⟩ rfl (fun H locs hw => ?_)
        refine lv_aload_n hx hb dX5_fair_60 rfl (lv_at hl 0 rfl) ?_
        refine gMd (v := .ref (sA G 9 1)) hx hb hts hiX5 hown hw 0 (by decide) (hts (.fieldLink RX5 7 "SecondHomeModel" "s" "[I") (by decide +kernel)) rfl dX5_fair_61 ?_
        refine lv_iconst (v := 2) hx hb dX5_fair_64 (by decide) ?_
        refine lv_iload_n hx hb dX5_fair_65 rfl (lv_at hl 2 rfl) ?_
        refine stMd hx hb hw 0 (by decide) (n := 77) rfl (by decide) dX5_fair_66 rfl (fun H locs hw => ?_)
        obtain ⟨M66, eM66, h⟩ := o_nm h
        rw [← eM66] at hw
        refine lv_aload_n hx hb dX5_fair_67 rfl (lv_at hl 0 rfl) ?_
        obtain ⟨q68, eq68, h⟩ := o_bd h
        refine kV (As := []) (rest := []) (st' := [.int q68.1]) ⟨hx, hb, hml, hown, hts⟩ (kX5_races l G eq68) (cwV 0 hts gX5_fair_X5_races rfl rfl rfl qqX5_races ⟨Nat.le_of_ble_eq_true rfl, Nat.le_of_ble_eq_true rfl⟩) hw (rvMd hw) rfl hl.1 rfl (Nat.le_of_ble_eq_true rfl) dX5_fair_68 ⟨Nat.zero_le _, Nat.zero_le _⟩ rfl (fun H locs hw => ?_)
        refine lv_iload_n hx hb dX5_fair_71 rfl (lv_at hl 1 rfl) ?_
        obtain ⟨k80, ek80, h⟩ := o_nm h
        have J80 : ∀ (y0_80 : Int32) (H : Heap) (locs : List Loc) (ls : Array Slot), sHw G s S q68.2 H locs → lv_has ls 4 [(0, .ref (sA G 9 0)), (1, .int x1_45), (2, .int x2_47)] → k80 y0_80 = some q → W p l e rmX5_fair s m args below meth c H locs 0 0 Q (F0 m 80 ls [.int y0_80]) := by
          intro y0_80 H locs ls hw hl h
          replace h := o_j1 ek80 h
          refine lv_istore_n (lv' := [(3, .int y0_80), (0, .ref (sA G 9 0)), (1, .int x1_45), (2, .int x2_47)]) hx hb dX5_fair_80 rfl hl (by decide) rfl (fun ls hl => ?_)
          refine lv_aload_n hx hb dX5_fair_81 rfl (lv_at hl 1 rfl) ?_
          obtain ⟨q82, eq82, h⟩ := o_bd h
          refine kV (As := []) (rest := []) (st' := []) ⟨hx, hb, hml, hown, hts⟩ (kX5_laysBack l G eq82) (cwV 0 hts gX5_fair_X5_laysBack rfl rfl rfl qqX5_laysBack ⟨Nat.le_of_ble_eq_true rfl, Nat.le_of_ble_eq_true rfl⟩) hw (rvMd hw) rfl hl.1 rfl (Nat.le_of_ble_eq_true rfl) dX5_fair_82 ⟨Nat.zero_le _, Nat.zero_le _⟩ rfl (fun H locs hw => ?_)
          refine lv_iload_n hx hb dX5_fair_85 rfl (lv_at hl 0 rfl) ?_
          refine lv_if_eq (tgt := 91) hx hb dX5_fair_86 (by decide) (fun c86 => ?_) (fun c86 => ?_)
          · replace h := o_t c86 h
            obtain ⟨v91, ev91, h⟩ := o_nm h
            refine lv_iinc (v := v91) (lv' := [(2, .int v91), (3, .int y0_80), (0, .ref (sA G 9 0)), (1, .int x1_45)]) hx hb dX5_fair_91 hl (k := 3) rfl (by rw [ev91]; rfl) (by decide) rfl (fun ls hl => ?_)
            refine lv_goto (tgt := 47) hx hb dX5_fair_94 (by decide) ?_
            exact IH47 v91 q82 h _ _ _ hw (lv_sub hl [2, 3, 0] rfl)
          · replace h := o_f c86 h
            refine lv_iload_n hx hb dX5_fair_89 rfl (lv_at hl 3 rfl) ?_
            exact rI hQ hx hb hr hlk hw dX5_fair_90 (o_2a h) rfl (o_2b h)
        refine lv_icmp_ne (tgt := 79) hx hb dX5_fair_72 (by decide) (fun c72 => ?_) (fun c72 => ?_)
        · replace h := o_f c72 h
          refine lv_iconst (v := 0) hx hb dX5_fair_79 (by decide) ?_
          exact J80 (0 : Int32) _ _ _ hw (lv_sub hl [0, 1, 2] rfl) h
        · replace h := o_t c72 h
          refine lv_iconst (v := 1) hx hb dX5_fair_75 (by decide) ?_
          refine lv_goto (tgt := 80) hx hb dX5_fair_76 (by decide) ?_
          exact J80 (1 : Int32) _ _ _ hw (lv_sub hl [0, 1, 2] rfl) h
  refine fx2_w (F := (bX5_fair_4 M k45)) (P := fun x1_4 x2_4 => ∀ (H : Heap) (locs : List Loc) (ls : Array Slot), sHw G s S M H locs → lv_has ls 4 [(0, .ref (sA G 9 0)), (1, .int x1_4), (2, .int x2_4)] → W p l e rmX5_fair s m args below meth c H locs 0 0 Q (F0 m 4 ls [])) ?_ _ _ _ h _ _ _ hw (lv_sub hl [2, 1, 0] rfl)
  intro rc4 IH4 x1_4 x2_4 h H locs ls hw hl
  unfold bX5_fair_4 at h
  refine lv_iload_n hx hb dX5_fair_4 rfl (lv_at hl 2 rfl) ?_
  refine lv_aload_n hx hb dX5_fair_5 rfl (lv_at hl 0 rfl) ?_
  refine gMd (v := .ref (sA G 9 1)) hx hb hts hiX5 hown hw 0 (by decide) (hts (.fieldLink RX5 7 "SecondHomeModel" "s" "[I") (by decide +kernel)) rfl dX5_fair_6 ?_
  refine lv_iconst (v := 0) hx hb dX5_fair_9 (by decide) ?_
  refine ldMd hx hb hw 0 (by decide) (n := 77) rfl (by decide) dX5_fair_10 ?_
  refine lv_icmp_ge (tgt := 45) hx hb dX5_fair_11 (by decide) (fun c11 => ?_) (fun c11 => ?_)
  · replace h := o_t c11 h
    exact J45 x1_4 _ _ _ hw (lv_sub hl [0, 1] rfl) h
  · replace h := o_f c11 h
    refine lv_iload_n hx hb dX5_fair_14 rfl (lv_at hl 1 rfl) ?_
    refine lv_if_lt (tgt := 33) hx hb dX5_fair_15 (by decide) (fun c15 => ?_) (fun c15 => ?_)
    · replace h := o_t c15 h
      refine lv_iload_n hx hb dX5_fair_33 rfl (lv_at hl 2 rfl) ?_
      refine lv_goto (tgt := 38) hx hb dX5_fair_34 (by decide) ?_
      refine lv_istore_n (lv' := [(1, .int x2_4), (0, .ref (sA G 9 0)), (2, .int x2_4)]) hx hb dX5_fair_38 rfl hl (by decide) rfl (fun ls hl => ?_)
      obtain ⟨v39, ev39, h⟩ := o_nm h
      refine lv_iinc (v := v39) (lv' := [(2, .int v39), (1, .int x2_4), (0, .ref (sA G 9 0))]) hx hb dX5_fair_39 hl (k := 2) rfl (by rw [ev39]; rfl) (by decide) rfl (fun ls hl => ?_)
      refine lv_goto (tgt := 4) hx hb dX5_fair_42 (by decide) ?_
      exact IH4 x2_4 v39 h _ _ _ hw (lv_sub hl [2, 1, 0] rfl)
    · replace h := o_f c15 h
      refine lv_aload_n hx hb dX5_fair_18 rfl (lv_at hl 0 rfl) ?_
      refine lv_iload_n hx hb dX5_fair_19 rfl (lv_at hl 2 rfl) ?_
      refine lv_iconst (v := 1) hx hb dX5_fair_20 (by decide) ?_
      obtain ⟨q21, eq21, h⟩ := o_bd h
      refine kV (As := [.int x2_4, .int (1 : Int32)]) (rest := []) (st' := [.int q21]) ⟨hx, hb, hml, hown, hts⟩ (kX5_is l G eq21) (cwV 2 hts gX5_fair_X5_is rfl rfl rfl qqX5_is ⟨Nat.le_of_ble_eq_true rfl, Nat.le_of_ble_eq_true rfl⟩) hw (rvMd hw) rfl hl.1 rfl (Nat.le_of_ble_eq_true rfl) dX5_fair_21 ⟨Nat.zero_le _, Nat.zero_le _⟩ rfl (fun H locs hw => ?_)
      refine lv_aload_n hx hb dX5_fair_24 rfl (lv_at hl 0 rfl) ?_
      refine lv_iload_n hx hb dX5_fair_25 rfl (lv_at hl 1 rfl) ?_
      refine lv_iconst (v := 1) hx hb dX5_fair_26 (by decide) ?_
      obtain ⟨q27, eq27, h⟩ := o_bd h
      refine kV (As := [.int x1_4, .int (1 : Int32)]) (rest := [.int q21]) (st' := [.int q27, .int q21]) ⟨hx, hb, hml, hown, hts⟩ (kX5_is l G eq27) (cwV 2 hts gX5_fair_X5_is rfl rfl rfl qqX5_is ⟨Nat.le_of_ble_eq_true rfl, Nat.le_of_ble_eq_true rfl⟩) hw (rvMd hw) rfl hl.1 rfl (Nat.le_of_ble_eq_true rfl) dX5_fair_27 ⟨Nat.zero_le _, Nat.zero_le _⟩ rfl (fun H locs hw => ?_)
      refine lv_icmp_le (tgt := 37) hx hb dX5_fair_30 (by decide) (fun c30 => ?_) (fun c30 => ?_)
      · replace h := o_t c30 h
        refine lv_iload_n hx hb dX5_fair_37 rfl (lv_at hl 1 rfl) ?_
        refine lv_istore_n (lv' := [(1, .int x1_4), (0, .ref (sA G 9 0)), (2, .int x2_4)]) hx hb dX5_fair_38 rfl hl (by decide) rfl (fun ls hl => ?_)
        obtain ⟨v39, ev39, h⟩ := o_nm h
        refine lv_iinc (v := v39) (lv' := [(2, .int v39), (1, .int x1_4), (0, .ref (sA G 9 0))]) hx hb dX5_fair_39 hl (k := 2) rfl (by rw [ev39]; rfl) (by decide) rfl (fun ls hl => ?_)
        refine lv_goto (tgt := 4) hx hb dX5_fair_42 (by decide) ?_
        exact IH4 x1_4 v39 h _ _ _ hw (lv_sub hl [2, 1, 0] rfl)
      · replace h := o_f c30 h
        refine lv_iload_n hx hb dX5_fair_33 rfl (lv_at hl 2 rfl) ?_
        refine lv_goto (tgt := 38) hx hb dX5_fair_34 (by decide) ?_
        refine lv_istore_n (lv' := [(1, .int x2_4), (0, .ref (sA G 9 0)), (2, .int x2_4)]) hx hb dX5_fair_38 rfl hl (by decide) rfl (fun ls hl => ?_)
        obtain ⟨v39, ev39, h⟩ := o_nm h
        refine lv_iinc (v := v39) (lv' := [(2, .int v39), (1, .int x2_4), (0, .ref (sA G 9 0))]) hx hb dX5_fair_39 hl (k := 2) rfl (by rw [ev39]; rfl) (by decide) rfl (fun ls hl => ?_)
        refine lv_goto (tgt := 4) hx hb dX5_fair_42 (by decide) ?_
        exact IH4 x2_4 v39 h _ _ _ hw (lv_sub hl [2, 1, 0] rfl)
-- X5_odds
def bX5_odds_49 (k94 : Int32 → sOb → Option (Int32 × sOb)) (rc49 : Int32 → Int32 → sOb → Option (Int32 × sOb)) (x4_49 : Int32) (x7_49 : Int32) (T_49 : sOb) : Option (Int32 × sOb) :=
  if (T_49.2.1 0 (0 : Int32).toNatClampNeg) ≤ x7_49 then (k94 x4_49 T_49) else (nm ((x4_49 * (1103515245 : Int32)) + (12345 : Int32)) fun v69 => (fX5_puts T_49 x7_49 (1 : Int32) ((1 : Int32) + ((v69.toUInt32 >>> ((8 : Int32).toUInt32 &&& Int32.toUInt32 31)).toInt32 - (v69.toUInt32 >>> ((8 : Int32).toUInt32 &&& Int32.toUInt32 31)).toInt32 / (12 : Int32) * (12 : Int32)))).bind fun q85 => nm (x7_49 + (1 : Int32)) fun v88 => rc49 v69 v88 q85)
def bX5_odds_40 (a1 : Int32) (a2 : Int32) (rc40 : Int32 → Int32 → Int32 → sOb → Option (Int32 × sOb)) (x4_40 : Int32) (x5_40 : Int32) (x6_40 : Int32) (T_40 : sOb) : Option (Int32 × sOb) :=
  if a2 ≤ x6_40 then (some (x5_40, T_40)) else (nm (fun (x4_94 : Int32) (T_94 : sOb) => (fX5_races T_94).bind fun q97 => nm (fun (y0_109 : Int32) => nm (x5_40 + y0_109) fun v110 => (fX5_laysBack q97.2).bind fun q113 => nm (x6_40 + (1 : Int32)) fun v116 => rc40 x4_94 v110 v116 q113) fun k109 => if q97.1 = a1 then (k109 (1 : Int32)) else (k109 (0 : Int32))) fun k94 => fx3 (bX5_odds_49 k94) FU x4_40 (0 : Int32) T_40)
def fX5_odds (M : sOb) (a1 : Int32) (a2 : Int32) (a3 : Int32) : Option (Int32 × sOb) :=
  (fX5_isRunner M a1).bind fun q2 => if q2 = 0 then ((fX5_finds M (-1000000001 : Int32)).bind fun q23 => some (q23.1, q23.2)) else ((fX5_isIn a2.toInt64 (1 : Int64) (20 : Int64)).bind fun q14 => if q14 = 0 then ((fX5_finds M (-1000000001 : Int32)).bind fun q23 => some (q23.1, q23.2)) else ((fX5_laysBy M).bind fun q34 => fx4 (bX5_odds_40 a1 a2) FU a3 (0 : Int32) (0 : Int32) q34))
def rmX5_odds : Room := { frames := 7, cells := 0, slots := 0, locals := 158 }
theorem qqX5_odds : yX5_odds.cls = RX5 ∧ yX5_odds.cls ≠ "java/lang/invoke/MethodHandle" ∧ yX5_odds.cls ≠ "java/lang/invoke/VarHandle" ∧ (parseMethodDescriptor yX5_odds.desc).map (fun d => d.parameters.length) = some 3 := by decide +kernel
set_option maxRecDepth 100000 in
set_option maxHeartbeats 4000000 in
theorem kX5_odds (l : Launch) (G : sGl) {S : sWo} {M : sOb} {a1 : Int32} {a2 : Int32} {a3 : Int32} {q : (Int32 × sOb)}  (h : fX5_odds M a1 a2 a3 = some q) : sCt l G yX5_odds wsX5_odds rmX5_odds [.ref (sA G 9 0), .int a1, .int a2, .int a3] S M (some (.int q.1)) S q.2 := by
  refine cMk (cc := cX5_odds) (maxL := 8) (ret := (some .int)) (by decide) rfl (Nat.le_of_ble_eq_true rfl) ?_
  intro p e s m args below meth c Q hQ hx hb hr hlk hml hown hts hw ls hl
  have hown : s.vm.findClass RX5 = some m.cls := hown
  have hl : lv_has ls 8 [(0, .ref (sA G 9 0)), (1, .int a1), (2, .int a2), (3, .int a3)] := hl
  have hiX5 : ∀ w ∈ u_ws RX5 TX5 15, w ∈ wsX5_odds := by decide +kernel
  unfold fX5_odds at h
  refine lv_aload_n hx hb dX5_odds_0 rfl (lv_at hl 0 rfl) ?_
  refine lv_iload_n hx hb dX5_odds_1 rfl (lv_at hl 1 rfl) ?_
  obtain ⟨q2, eq2, h⟩ := o_bd h
  refine kV (As := [.int a1]) (rest := []) (st' := [.int q2]) ⟨hx, hb, hml, hown, hts⟩ (kX5_isRunner l G eq2) (cwV 1 hts gX5_odds_X5_isRunner rfl rfl rfl qqX5_isRunner ⟨Nat.le_of_ble_eq_true rfl, Nat.le_of_ble_eq_true rfl⟩) hw (rvMd hw) rfl hl.1 rfl (Nat.le_of_ble_eq_true rfl) dX5_odds_2 ⟨Nat.zero_le _, Nat.zero_le _⟩ rfl (fun H locs hw => ?_)
  refine lv_if_eq (tgt := 20) hx hb dX5_odds_5 (by decide) (fun c5 => ?_) (fun c5 => ?_)
  · replace h := o_t c5 h
    refine lv_aload_n hx hb dX5_odds_20 rfl (lv_at hl 0 rfl) ?_
    refine lv_ldc (v := -1000000001) hx hb hown (hts (.constant RX5 38 (-1000000001)) (by decide +kernel)) dX5_odds_21 ?_
    obtain ⟨q23, eq23, h⟩ := o_bd h
    refine kV (As := [.int (-1000000001 : Int32)]) (rest := []) (st' := [.int q23.1]) ⟨hx, hb, hml, hown, hts⟩ (kX5_finds l G eq23) (cwV 1 hts gX5_odds_X5_finds rfl rfl rfl qqX5_finds ⟨Nat.le_of_ble_eq_true rfl, Nat.le_of_ble_eq_true rfl⟩) hw (rvMd hw) rfl hl.1 rfl (Nat.le_of_ble_eq_true rfl) dX5_odds_23 ⟨Nat.zero_le _, Nat.zero_le _⟩ rfl (fun H locs hw => ?_)
    exact rI hQ hx hb hr hlk hw dX5_odds_26 (o_2a h) rfl (o_2b h)
  · replace h := o_f c5 h
    refine lv_iload_n hx hb dX5_odds_8 rfl (lv_at hl 2 rfl) ?_
    refine lv_i2l hx hb dX5_odds_9 rfl ?_
    refine lv_lconst (v := 1) hx hb dX5_odds_10 (by decide) ?_
    refine lv_ldc2 (v := 20) hx hb hown (hts (.constantLong RX5 163 (20)) (by decide +kernel)) dX5_odds_11 ?_
    obtain ⟨q14, eq14, h⟩ := o_bd h
    refine kS (As := [.long a2.toInt64, .long (1 : Int64), .long (20 : Int64)]) (rest := []) (st' := [.int q14]) ⟨hx, hb, hml, hown, hts⟩ (kX5_isIn l G eq14) (va_cwS 3 hts gX5_odds_X5_isIn rfl rfl rfl qqX5_isIn ⟨Nat.le_of_ble_eq_true rfl, Nat.le_of_ble_eq_true rfl⟩) hw rfl hl.1 rfl (Nat.le_of_ble_eq_true rfl) dX5_odds_14 ⟨Nat.zero_le _, Nat.zero_le _⟩ rfl (fun H locs hw => ?_)
    refine lv_if_ne (tgt := 27) hx hb dX5_odds_17 (by decide) (fun c17 => ?_) (fun c17 => ?_)
    · replace h := o_f c17 h
      refine lv_iload_n hx hb dX5_odds_27 rfl (lv_at hl 3 rfl) ?_
      refine lv_istore (lv' := [(4, .int a3), (0, .ref (sA G 9 0)), (1, .int a1), (2, .int a2), (3, .int a3)]) hx hb dX5_odds_28 hl (by decide) rfl (fun ls hl => ?_)
      refine lv_iconst (v := 0) hx hb dX5_odds_30 (by decide) ?_
      refine lv_istore (lv' := [(5, .int (0 : Int32)), (4, .int a3), (0, .ref (sA G 9 0)), (1, .int a1), (2, .int a2), (3, .int a3)]) hx hb dX5_odds_31 hl (by decide) rfl (fun ls hl => ?_)
      refine lv_aload_n hx hb dX5_odds_33 rfl (lv_at hl 2 rfl) ?_
      obtain ⟨q34, eq34, h⟩ := o_bd h
      refine kV (As := []) (rest := []) (st' := []) ⟨hx, hb, hml, hown, hts⟩ (kX5_laysBy l G eq34) (cwV 0 hts gX5_odds_X5_laysBy rfl rfl rfl qqX5_laysBy ⟨Nat.le_of_ble_eq_true rfl, Nat.le_of_ble_eq_true rfl⟩) hw (rvMd hw) rfl hl.1 rfl (Nat.le_of_ble_eq_true rfl) dX5_odds_34 ⟨Nat.zero_le _, Nat.zero_le _⟩ rfl (fun H locs hw => ?_)
      refine lv_iconst (v := 0) hx hb dX5_odds_37 (by decide) ?_
      refine lv_istore (lv' := [(6, .int (0 : Int32)), (5, .int (0 : Int32)), (4, .int a3), (0, .ref (sA G 9 0)), (1, .int a1), (2, .int a2), (3, .int a3)]) hx hb dX5_odds_38 hl (by decide) rfl (fun ls hl => ?_)
      refine fx4_w (F := (bX5_odds_40 a1 a2)) (P := fun x4_40 x5_40 x6_40 T_40 => ∀ (H : Heap) (locs : List Loc) (ls : Array Slot), sHw G s S T_40 H locs → lv_has ls 8 [(0, .ref (sA G 9 0)), (1, .int a1), (2, .int a2), (4, .int x4_40), (5, .int x5_40), (6, .int x6_40)] → W p l e rmX5_odds s m args below meth c H locs 0 0 Q (F0 m 40 ls [])) ?_ _ _ _ _ _ h _ _ _ hw (lv_sub hl [3, 4, 5, 2, 1, 0] rfl)
      intro rc40 IH40 x4_40 x5_40 x6_40 T_40 h H locs ls hw hl
      unfold bX5_odds_40 at h
      refine lv_iload hx hb dX5_odds_40 (lv_at hl 5 rfl) ?_
      refine lv_iload_n hx hb dX5_odds_42 rfl (lv_at hl 2 rfl) ?_
      refine lv_icmp_ge (tgt := 122) hx hb dX5_odds_43 (by decide) (fun c43 => ?_) (fun c43 => ?_)
      · replace h := o_t c43 h
        refine lv_iload hx hb dX5_odds_122 (lv_at hl 4 rfl) ?_
        exact rI hQ hx hb hr hlk hw dX5_odds_124 (o_2a h) rfl (o_2b h)
      · replace h := o_f c43 h
        refine lv_iconst (v := 0) hx hb dX5_odds_46 (by decide) ?_
        refine lv_istore (lv' := [(7, .int (0 : Int32)), (0, .ref (sA G 9 0)), (1, .int a1), (2, .int a2), (4, .int x4_40), (5, .int x5_40), (6, .int x6_40)]) hx hb dX5_odds_47 hl (by decide) rfl (fun ls hl => ?_)
        obtain ⟨k94, ek94, h⟩ := o_nm h
        have J94 : ∀ (x4_94 : Int32) (T_94 : sOb) (H : Heap) (locs : List Loc) (ls : Array Slot), sHw G s S T_94 H locs → lv_has ls 8 [(0, .ref (sA G 9 0)), (1, .int a1), (2, .int a2), (4, .int x4_94), (5, .int x5_40), (6, .int x6_40)] → k94 x4_94 T_94 = some q → W p l e rmX5_odds s m args below meth c H locs 0 0 Q (F0 m 94 ls []) := by
          intro x4_94 T_94 H locs ls hw hl h
          replace h := o_j2 ek94 h
          refine lv_iload hx hb dX5_odds_94 (lv_at hl 4 rfl) ?_
          refine lv_aload_n hx hb dX5_odds_96 rfl (lv_at hl 0 rfl) ?_
          obtain ⟨q97, eq97, h⟩ := o_bd h
          refine kV (As := []) (rest := [.int x5_40]) (st' := [.int q97.1, .int x5_40]) ⟨hx, hb, hml, hown, hts⟩ (kX5_races l G eq97) (cwV 0 hts gX5_odds_X5_races rfl rfl rfl qqX5_races ⟨Nat.le_of_ble_eq_true rfl, Nat.le_of_ble_eq_true rfl⟩) hw (rvMd hw) rfl hl.1 rfl (Nat.le_of_ble_eq_true rfl) dX5_odds_97 ⟨Nat.zero_le _, Nat.zero_le _⟩ rfl (fun H locs hw => ?_)
          refine lv_iload_n hx hb dX5_odds_100 rfl (lv_at hl 1 rfl) ?_
          obtain ⟨k109, ek109, h⟩ := o_nm h
          have J109 : ∀ (y0_109 : Int32) (H : Heap) (locs : List Loc) (ls : Array Slot), sHw G s S q97.2 H locs → lv_has ls 8 [(0, .ref (sA G 9 0)), (1, .int a1), (2, .int a2), (4, .int x4_94), (6, .int x6_40)] → k109 y0_109 = some q → W p l e rmX5_odds s m args below meth c H locs 0 0 Q (F0 m 109 ls [.int y0_109, .int x5_40]) := by
            intro y0_109 H locs ls hw hl h
            replace h := o_j1 ek109 h
            refine lv_iadd hx hb dX5_odds_109 ?_
            refine lv_topi (fun v110 ev110 => ?_)
            replace h := o_nx ev110 h
            refine lv_istore (lv' := [(5, .int v110), (0, .ref (sA G 9 0)), (1, .int a1), (2, .int a2), (4, .int x4_94), (6, .int x6_40)]) hx hb dX5_odds_110 hl (by decide) rfl (fun ls hl => ?_)
            refine lv_aload_n hx hb dX5_odds_112 rfl (lv_at hl 1 rfl) ?_
            obtain ⟨q113, eq113, h⟩ := o_bd h
            refine kV (As := []) (rest := []) (st' := []) ⟨hx, hb, hml, hown, hts⟩ (kX5_laysBack l G eq113) (cwV 0 hts gX5_odds_X5_laysBack rfl rfl rfl qqX5_laysBack ⟨Nat.le_of_ble_eq_true rfl, Nat.le_of_ble_eq_true rfl⟩) hw (rvMd hw) rfl hl.1 rfl (Nat.le_of_ble_eq_true rfl) dX5_odds_113 ⟨Nat.zero_le _, Nat.zero_le _⟩ rfl (fun H locs hw => ?_)
            obtain ⟨v116, ev116, h⟩ := o_nm h
            refine lv_iinc (v := v116) (lv' := [(6, .int v116), (5, .int v110), (0, .ref (sA G 9 0)), (1, .int a1), (2, .int a2), (4, .int x4_94)]) hx hb dX5_odds_116 hl (k := 5) rfl (by rw [ev116]; rfl) (by decide) rfl (fun ls hl => ?_)
            refine lv_goto (tgt := 40) hx hb dX5_odds_119 (by decide) ?_
            exact IH40 x4_94 v110 v116 q113 h _ _ _ hw (lv_sub hl [2, 3, 4, 5, 1, 0] rfl)
          refine lv_icmp_ne (tgt := 108) hx hb dX5_odds_101 (by decide) (fun c101 => ?_) (fun c101 => ?_)
          · replace h := o_f c101 h
            refine lv_iconst (v := 0) hx hb dX5_odds_108 (by decide) ?_
            exact J109 (0 : Int32) _ _ _ hw (lv_sub hl [0, 1, 2, 3, 5] rfl) h
          · replace h := o_t c101 h
            refine lv_iconst (v := 1) hx hb dX5_odds_104 (by decide) ?_
            refine lv_goto (tgt := 109) hx hb dX5_odds_105 (by decide) ?_
            exact J109 (1 : Int32) _ _ _ hw (lv_sub hl [0, 1, 2, 3, 5] rfl) h
        refine fx3_w (F := (bX5_odds_49 k94)) (P := fun x4_49 x7_49 T_49 => ∀ (H : Heap) (locs : List Loc) (ls : Array Slot), sHw G s S T_49 H locs → lv_has ls 8 [(0, .ref (sA G 9 0)), (1, .int a1), (2, .int a2), (4, .int x4_49), (5, .int x5_40), (6, .int x6_40), (7, .int x7_49)] → W p l e rmX5_odds s m args below meth c H locs 0 0 Q (F0 m 49 ls [])) ?_ _ _ _ _ h _ _ _ hw (lv_sub hl [1, 2, 3, 4, 5, 6, 0] rfl)
        intro rc49 IH49 x4_49 x7_49 T_49 h H locs ls hw hl
        unfold bX5_odds_49 at h
        refine lv_iload hx hb dX5_odds_49 (lv_at hl 6 rfl) ?_
        refine lv_aload_n hx hb dX5_odds_51 rfl (lv_at hl 0 rfl) ?_
        refine gMd (v := .ref (sA G 9 1)) hx hb hts hiX5 hown hw 0 (by decide) (hts (.fieldLink RX5 7 "SecondHomeModel" "s" "[I") (by decide +kernel)) rfl dX5_odds_52 ?_
        refine lv_iconst (v := 0) hx hb dX5_odds_55 (by decide) ?_
        refine ldMd hx hb hw 0 (by decide) (n := 77) rfl (by decide) dX5_odds_56 ?_
        refine lv_icmp_ge (tgt := 94) hx hb dX5_odds_57 (by decide) (fun c57 => ?_) (fun c57 => ?_)
        · replace h := o_t c57 h
          exact J94 x4_49 T_49 _ _ _ hw (lv_sub hl [0, 1, 2, 3, 4, 5] rfl) h
        · replace h := o_f c57 h
          refine lv_iload hx hb dX5_odds_60 (lv_at hl 3 rfl) ?_
          refine lv_ldc (v := 1103515245) hx hb hown (hts (.constant RX5 165 (1103515245)) (by decide +kernel)) dX5_odds_62 ?_
          refine lv_imul hx hb dX5_odds_64 ?_
          refine lv_sipush (v := 12345) hx hb dX5_odds_65 (by decide) ?_
          refine lv_iadd hx hb dX5_odds_68 ?_
          refine lv_topi (fun v69 ev69 => ?_)
          replace h := o_nx ev69 h
          refine lv_istore (lv' := [(4, .int v69), (0, .ref (sA G 9 0)), (1, .int a1), (2, .int a2), (5, .int x5_40), (6, .int x6_40), (7, .int x7_49)]) hx hb dX5_odds_69 hl (by decide) rfl (fun ls hl => ?_)
          refine lv_aload_n hx hb dX5_odds_71 rfl (lv_at hl 1 rfl) ?_
          refine lv_iload hx hb dX5_odds_72 (lv_at hl 6 rfl) ?_
          refine lv_iconst (v := 1) hx hb dX5_odds_74 (by decide) ?_
          refine lv_iconst (v := 1) hx hb dX5_odds_75 (by decide) ?_
          refine lv_iload hx hb dX5_odds_76 (lv_at hl 0 rfl) ?_
          refine lv_bipush (v := 8) hx hb dX5_odds_78 (by decide) ?_
          refine lv_iushr hx hb dX5_odds_80 rfl ?_
          refine lv_bipush (v := 12) hx hb dX5_odds_81 (by decide) ?_
          refine lv_irem hx hb dX5_odds_83 (by decide) ?_
          refine lv_iadd hx hb dX5_odds_84 ?_
          obtain ⟨q85, eq85, h⟩ := o_bd h
          refine kV (As := [.int x7_49, .int (1 : Int32), .int ((1 : Int32) + ((v69.toUInt32 >>> ((8 : Int32).toUInt32 &&& Int32.toUInt32 31)).toInt32 - (v69.toUInt32 >>> ((8 : Int32).toUInt32 &&& Int32.toUInt32 31)).toInt32 / (12 : Int32) * (12 : Int32)))]) (rest := []) (st' := []) ⟨hx, hb, hml, hown, hts⟩ (kX5_puts l G eq85) (cwV 3 hts gX5_odds_X5_puts rfl rfl rfl qqX5_puts ⟨Nat.le_of_ble_eq_true rfl, Nat.le_of_ble_eq_true rfl⟩) hw (rvMd hw) rfl hl.1 rfl (Nat.le_of_ble_eq_true rfl) dX5_odds_85 ⟨Nat.zero_le _, Nat.zero_le _⟩ rfl (fun H locs hw => ?_)
          obtain ⟨v88, ev88, h⟩ := o_nm h
          refine lv_iinc (v := v88) (lv' := [(7, .int v88), (4, .int v69), (0, .ref (sA G 9 0)), (1, .int a1), (2, .int a2), (5, .int x5_40), (6, .int x6_40)]) hx hb dX5_odds_88 hl (k := 6) rfl (by rw [ev88]; rfl) (by decide) rfl (fun ls hl => ?_)
          refine lv_goto (tgt := 49) hx hb dX5_odds_91 (by decide) ?_
          exact IH49 v69 v88 q85 h _ _ _ hw (lv_sub hl [2, 3, 4, 1, 5, 6, 0] rfl)
    · replace h := o_t c17 h
      refine lv_aload_n hx hb dX5_odds_20 rfl (lv_at hl 0 rfl) ?_
      refine lv_ldc (v := -1000000001) hx hb hown (hts (.constant RX5 38 (-1000000001)) (by decide +kernel)) dX5_odds_21 ?_
      obtain ⟨q23, eq23, h⟩ := o_bd h
      refine kV (As := [.int (-1000000001 : Int32)]) (rest := []) (st' := [.int q23.1]) ⟨hx, hb, hml, hown, hts⟩ (kX5_finds l G eq23) (cwV 1 hts gX5_odds_X5_finds rfl rfl rfl qqX5_finds ⟨Nat.le_of_ble_eq_true rfl, Nat.le_of_ble_eq_true rfl⟩) hw (rvMd hw) rfl hl.1 rfl (Nat.le_of_ble_eq_true rfl) dX5_odds_23 ⟨Nat.zero_le _, Nat.zero_le _⟩ rfl (fun H locs hw => ?_)
      exact rI hQ hx hb hr hlk hw dX5_odds_26 (o_2a h) rfl (o_2b h)
-- X5_unwilling
def bX5_unwilling_12 (rc12 : Int32 → Int32 → sOb → Option (Int32 × sOb)) (x1_12 : Int32) (x2_12 : Int32) (T_12 : sOb) : Option (Int32 × sOb) :=
  if (2000 : Int32) ≤ x2_12 then ((fX5_laysBack T_12).bind fun q108 => some (x1_12, q108)) else ((fX5_homeMany T_12).bind fun q20 => if (T_12.2.1 0 (0 : Int32).toNatClampNeg) ≤ q20 then ((fX5_laysBack T_12).bind fun q108 => some (x1_12, q108)) else ((fX5_firstAlone T_12).bind fun q33 => nm (fun (y0_63 : Int32) => (fX5_goesOn T_12).bind fun q66 => if y0_63 = 0 then (nm (x1_12 ||| (0 : Int32)) fun v100 => nm (x2_12 + (1 : Int32)) fun v101 => rc12 v100 v101 q66.2) else (if q33 < 0 ∨ 9 ≤ q33.toNatClampNeg then none else (fX5_is q66.2 q33 (1 : Int32)).bind fun q86 => if q86 ≤ (q66.2.2.1 7 q33.toNatClampNeg) then (nm (x1_12 ||| (0 : Int32)) fun v100 => nm (x2_12 + (1 : Int32)) fun v101 => rc12 v100 v101 q66.2) else (nm (x1_12 ||| ((1 : Int32) <<< (q33 &&& 31))) fun v100 => nm (x2_12 + (1 : Int32)) fun v101 => rc12 v100 v101 q66.2))) fun k63 => nm (k63 (0 : Int32)) fun k62 => if q33 < 0 then k62 else ((fX5_is T_12 q33 (2 : Int32)).bind fun q44 => (fX5_is T_12 q33 (1 : Int32)).bind fun q50 => if q44 < (q50 - (4 : Int32)) then k62 else (k63 (1 : Int32)))))
def fX5_unwilling (M : sOb) : Option (Int32 × sOb) :=
  (fX5_laysBy M).bind fun q1 => (fX5_lines q1).bind fun q5 => fx3 bX5_unwilling_12 FU (0 : Int32) (0 : Int32) q5
def rmX5_unwilling : Room := { frames := 5, cells := 0, slots := 0, locals := 116 }
theorem qqX5_unwilling : yX5_unwilling.cls = RX5 ∧ yX5_unwilling.cls ≠ "java/lang/invoke/MethodHandle" ∧ yX5_unwilling.cls ≠ "java/lang/invoke/VarHandle" ∧ (parseMethodDescriptor yX5_unwilling.desc).map (fun d => d.parameters.length) = some 0 := by decide +kernel
set_option maxRecDepth 100000 in
set_option maxHeartbeats 4000000 in
theorem kX5_unwilling (l : Launch) (G : sGl) {S : sWo} {M : sOb}  {q : (Int32 × sOb)}  (h : fX5_unwilling M = some q) : sCt l G yX5_unwilling wsX5_unwilling rmX5_unwilling [.ref (sA G 9 0)] S M (some (.int q.1)) S q.2 := by
  refine cMk (cc := cX5_unwilling) (maxL := 6) (ret := (some .int)) (by decide) rfl (Nat.le_of_ble_eq_true rfl) ?_
  intro p e s m args below meth c Q hQ hx hb hr hlk hml hown hts hw ls hl
  have hown : s.vm.findClass RX5 = some m.cls := hown
  have hl : lv_has ls 6 [(0, .ref (sA G 9 0))] := hl
  have hiX5 : ∀ w ∈ u_ws RX5 TX5 15, w ∈ wsX5_unwilling := by decide +kernel
  unfold fX5_unwilling at h
  refine lv_aload_n hx hb dX5_unwilling_0 rfl (lv_at hl 0 rfl) ?_
  obtain ⟨q1, eq1, h⟩ := o_bd h
  refine kV (As := []) (rest := []) (st' := []) ⟨hx, hb, hml, hown, hts⟩ (kX5_laysBy l G eq1) (cwV 0 hts gX5_unwilling_X5_laysBy rfl rfl rfl qqX5_laysBy ⟨Nat.le_of_ble_eq_true rfl, Nat.le_of_ble_eq_true rfl⟩) hw (rvMd hw) rfl hl.1 rfl (Nat.le_of_ble_eq_true rfl) dX5_unwilling_1 ⟨Nat.zero_le _, Nat.zero_le _⟩ rfl (fun H locs hw => ?_)
  refine lv_aload_n hx hb dX5_unwilling_4 rfl (lv_at hl 0 rfl) ?_
  obtain ⟨q5, eq5, h⟩ := o_bd h
  refine kV (As := []) (rest := []) (st' := []) ⟨hx, hb, hml, hown, hts⟩ (kX5_lines l G eq5) (cwV 0 hts gX5_unwilling_X5_lines rfl rfl rfl qqX5_lines ⟨Nat.le_of_ble_eq_true rfl, Nat.le_of_ble_eq_true rfl⟩) hw (rvMd hw) rfl hl.1 rfl (Nat.le_of_ble_eq_true rfl) dX5_unwilling_5 ⟨Nat.zero_le _, Nat.zero_le _⟩ rfl (fun H locs hw => ?_)
  refine lv_iconst (v := 0) hx hb dX5_unwilling_8 (by decide) ?_
  refine lv_istore_n (lv' := [(1, .int (0 : Int32)), (0, .ref (sA G 9 0))]) hx hb dX5_unwilling_9 rfl hl (by decide) rfl (fun ls hl => ?_)
  refine lv_iconst (v := 0) hx hb dX5_unwilling_10 (by decide) ?_
  refine lv_istore_n (lv' := [(2, .int (0 : Int32)), (1, .int (0 : Int32)), (0, .ref (sA G 9 0))]) hx hb dX5_unwilling_11 rfl hl (by decide) rfl (fun ls hl => ?_)
  refine fx3_w (F := bX5_unwilling_12) (P := fun x1_12 x2_12 T_12 => ∀ (H : Heap) (locs : List Loc) (ls : Array Slot), sHw G s S T_12 H locs → lv_has ls 6 [(0, .ref (sA G 9 0)), (1, .int x1_12), (2, .int x2_12)] → W p l e rmX5_unwilling s m args below meth c H locs 0 0 Q (F0 m 12 ls [])) ?_ _ _ _ _ h _ _ _ hw (lv_sub hl [2, 1, 0] rfl)
  intro rc12 IH12 x1_12 x2_12 T_12 h H locs ls hw hl
  unfold bX5_unwilling_12 at h
  refine lv_iload_n hx hb dX5_unwilling_12 rfl (lv_at hl 2 rfl) ?_
  refine lv_sipush (v := 2000) hx hb dX5_unwilling_13 (by decide) ?_
  refine lv_icmp_ge (tgt := 107) hx hb dX5_unwilling_16 (by decide) (fun c16 => ?_) (fun c16 => ?_)
  · replace h := o_t c16 h
    refine lv_aload_n hx hb dX5_unwilling_107 rfl (lv_at hl 0 rfl) ?_
    obtain ⟨q108, eq108, h⟩ := o_bd h
    refine kV (As := []) (rest := []) (st' := []) ⟨hx, hb, hml, hown, hts⟩ (kX5_laysBack l G eq108) (cwV 0 hts gX5_unwilling_X5_laysBack rfl rfl rfl qqX5_laysBack ⟨Nat.le_of_ble_eq_true rfl, Nat.le_of_ble_eq_true rfl⟩) hw (rvMd hw) rfl hl.1 rfl (Nat.le_of_ble_eq_true rfl) dX5_unwilling_108 ⟨Nat.zero_le _, Nat.zero_le _⟩ rfl (fun H locs hw => ?_)
    refine lv_iload_n hx hb dX5_unwilling_111 rfl (lv_at hl 1 rfl) ?_
    exact rI hQ hx hb hr hlk hw dX5_unwilling_112 (o_2a h) rfl (o_2b h)
  · replace h := o_f c16 h
    refine lv_aload_n hx hb dX5_unwilling_19 rfl (lv_at hl 0 rfl) ?_
    obtain ⟨q20, eq20, h⟩ := o_bd h
    refine kV (As := []) (rest := []) (st' := [.int q20]) ⟨hx, hb, hml, hown, hts⟩ (kX5_homeMany l G eq20) (cwV 0 hts gX5_unwilling_X5_homeMany rfl rfl rfl qqX5_homeMany ⟨Nat.le_of_ble_eq_true rfl, Nat.le_of_ble_eq_true rfl⟩) hw (rvMd hw) rfl hl.1 rfl (Nat.le_of_ble_eq_true rfl) dX5_unwilling_20 ⟨Nat.zero_le _, Nat.zero_le _⟩ rfl (fun H locs hw => ?_)
    refine lv_aload_n hx hb dX5_unwilling_23 rfl (lv_at hl 0 rfl) ?_
    refine gMd (v := .ref (sA G 9 1)) hx hb hts hiX5 hown hw 0 (by decide) (hts (.fieldLink RX5 7 "SecondHomeModel" "s" "[I") (by decide +kernel)) rfl dX5_unwilling_24 ?_
    refine lv_iconst (v := 0) hx hb dX5_unwilling_27 (by decide) ?_
    refine ldMd hx hb hw 0 (by decide) (n := 77) rfl (by decide) dX5_unwilling_28 ?_
    refine lv_icmp_ge (tgt := 107) hx hb dX5_unwilling_29 (by decide) (fun c29 => ?_) (fun c29 => ?_)
    · replace h := o_t c29 h
      refine lv_aload_n hx hb dX5_unwilling_107 rfl (lv_at hl 0 rfl) ?_
      obtain ⟨q108, eq108, h⟩ := o_bd h
      refine kV (As := []) (rest := []) (st' := []) ⟨hx, hb, hml, hown, hts⟩ (kX5_laysBack l G eq108) (cwV 0 hts gX5_unwilling_X5_laysBack rfl rfl rfl qqX5_laysBack ⟨Nat.le_of_ble_eq_true rfl, Nat.le_of_ble_eq_true rfl⟩) hw (rvMd hw) rfl hl.1 rfl (Nat.le_of_ble_eq_true rfl) dX5_unwilling_108 ⟨Nat.zero_le _, Nat.zero_le _⟩ rfl (fun H locs hw => ?_)
      refine lv_iload_n hx hb dX5_unwilling_111 rfl (lv_at hl 1 rfl) ?_
      exact rI hQ hx hb hr hlk hw dX5_unwilling_112 (o_2a h) rfl (o_2b h)
    · replace h := o_f c29 h
      refine lv_aload_n hx hb dX5_unwilling_32 rfl (lv_at hl 0 rfl) ?_
      obtain ⟨q33, eq33, h⟩ := o_bd h
      refine kV (As := []) (rest := []) (st' := [.int q33]) ⟨hx, hb, hml, hown, hts⟩ (kX5_firstAlone l G eq33) (cwV 0 hts gX5_unwilling_X5_firstAlone rfl rfl rfl qqX5_firstAlone ⟨Nat.le_of_ble_eq_true rfl, Nat.le_of_ble_eq_true rfl⟩) hw (rvMd hw) rfl hl.1 rfl (Nat.le_of_ble_eq_true rfl) dX5_unwilling_33 ⟨Nat.zero_le _, Nat.zero_le _⟩ rfl (fun H locs hw => ?_)
      refine lv_istore_n (lv' := [(3, .int q33), (0, .ref (sA G 9 0)), (1, .int x1_12), (2, .int x2_12)]) hx hb dX5_unwilling_36 rfl hl (by decide) rfl (fun ls hl => ?_)
      refine lv_iload_n hx hb dX5_unwilling_37 rfl (lv_at hl 0 rfl) ?_
      obtain ⟨k63, ek63, h⟩ := o_nm h
      have J63 : ∀ (y0_63 : Int32) (H : Heap) (locs : List Loc) (ls : Array Slot), sHw G s S T_12 H locs → lv_has ls 6 [(0, .ref (sA G 9 0)), (1, .int x1_12), (2, .int x2_12), (3, .int q33)] → k63 y0_63 = some q → W p l e rmX5_unwilling s m args below meth c H locs 0 0 Q (F0 m 63 ls [.int y0_63]) := by
        intro y0_63 H locs ls hw hl h
        replace h := o_j1 ek63 h
        refine lv_istore (lv' := [(4, .int y0_63), (0, .ref (sA G 9 0)), (1, .int x1_12), (2, .int x2_12), (3, .int q33)]) hx hb dX5_unwilling_63 hl (by decide) rfl (fun ls hl => ?_)
        refine lv_aload_n hx hb dX5_unwilling_65 rfl (lv_at hl 1 rfl) ?_
        obtain ⟨q66, eq66, h⟩ := o_bd h
        refine kV (As := []) (rest := []) (st' := [.int q66.1]) ⟨hx, hb, hml, hown, hts⟩ (kX5_goesOn l G eq66) (cwV 0 hts gX5_unwilling_X5_goesOn rfl rfl rfl qqX5_goesOn ⟨Nat.le_of_ble_eq_true rfl, Nat.le_of_ble_eq_true rfl⟩) hw (rvMd hw) rfl hl.1 rfl (Nat.le_of_ble_eq_true rfl) dX5_unwilling_66 ⟨Nat.zero_le _, Nat.zero_le _⟩ rfl (fun H locs hw => ?_)
        refine lv_istore (lv' := [(5, .int q66.1), (4, .int y0_63), (0, .ref (sA G 9 0)), (1, .int x1_12), (2, .int x2_12), (3, .int q33)]) hx hb dX5_unwilling_69 hl (by decide) rfl (fun ls hl => ?_)
        refine lv_iload_n hx hb dX5_unwilling_71 rfl (lv_at hl 3 rfl) ?_
        refine lv_iload hx hb dX5_unwilling_72 (lv_at hl 1 rfl) ?_
        refine lv_if_eq (tgt := 98) hx hb dX5_unwilling_74 (by decide) (fun c74 => ?_) (fun c74 => ?_)
        · replace h := o_t c74 h
          refine lv_iconst (v := 0) hx hb dX5_unwilling_98 (by decide) ?_
          refine lv_ior hx hb dX5_unwilling_99 ?_
          refine lv_topi (fun v100 ev100 => ?_)
          replace h := o_nx ev100 h
          refine lv_istore_n (lv' := [(1, .int v100), (5, .int q66.1), (4, .int y0_63), (0, .ref (sA G 9 0)), (2, .int x2_12), (3, .int q33)]) hx hb dX5_unwilling_100 rfl hl (by decide) rfl (fun ls hl => ?_)
          obtain ⟨v101, ev101, h⟩ := o_nm h
          refine lv_iinc (v := v101) (lv' := [(2, .int v101), (1, .int v100), (5, .int q66.1), (4, .int y0_63), (0, .ref (sA G 9 0)), (3, .int q33)]) hx hb dX5_unwilling_101 hl (k := 4) rfl (by rw [ev101]; rfl) (by decide) rfl (fun ls hl => ?_)
          refine lv_goto (tgt := 12) hx hb dX5_unwilling_104 (by decide) ?_
          exact IH12 v100 v101 q66.2 h _ _ _ hw (lv_sub hl [4, 1, 0] rfl)
        · replace h := o_f c74 h
          refine lv_aload_n hx hb dX5_unwilling_77 rfl (lv_at hl 2 rfl) ?_
          refine gMd (v := .ref (sA G 9 8)) hx hb hts hiX5 hown hw 10 (by decide) (hts (.fieldLink RX5 35 "SecondHomeModel" "runs" "[I") (by decide +kernel)) rfl dX5_unwilling_78 ?_
          refine lv_iload_n hx hb dX5_unwilling_81 rfl (lv_at hl 5 rfl) ?_
          obtain ⟨b82, h⟩ := o_in h
          refine ldMd hx hb hw 7 (by decide) (n := 9) rfl b82 dX5_unwilling_82 ?_
          refine lv_aload_n hx hb dX5_unwilling_83 rfl (lv_at hl 2 rfl) ?_
          refine lv_iload_n hx hb dX5_unwilling_84 rfl (lv_at hl 5 rfl) ?_
          refine lv_iconst (v := 1) hx hb dX5_unwilling_85 (by decide) ?_
          obtain ⟨q86, eq86, h⟩ := o_bd h
          refine kV (As := [.int q33, .int (1 : Int32)]) (rest := [.int (q66.2.2.1 7 q33.toNatClampNeg), .int x1_12]) (st' := [.int q86, .int (q66.2.2.1 7 q33.toNatClampNeg), .int x1_12]) ⟨hx, hb, hml, hown, hts⟩ (kX5_is l G eq86) (cwV 2 hts gX5_unwilling_X5_is rfl rfl rfl qqX5_is ⟨Nat.le_of_ble_eq_true rfl, Nat.le_of_ble_eq_true rfl⟩) hw (rvMd hw) rfl hl.1 rfl (Nat.le_of_ble_eq_true rfl) dX5_unwilling_86 ⟨Nat.zero_le _, Nat.zero_le _⟩ rfl (fun H locs hw => ?_)
          refine lv_icmp_ge (tgt := 98) hx hb dX5_unwilling_89 (by decide) (fun c89 => ?_) (fun c89 => ?_)
          · replace h := o_t c89 h
            refine lv_iconst (v := 0) hx hb dX5_unwilling_98 (by decide) ?_
            refine lv_ior hx hb dX5_unwilling_99 ?_
            refine lv_topi (fun v100 ev100 => ?_)
            replace h := o_nx ev100 h
            refine lv_istore_n (lv' := [(1, .int v100), (5, .int q66.1), (4, .int y0_63), (0, .ref (sA G 9 0)), (2, .int x2_12), (3, .int q33)]) hx hb dX5_unwilling_100 rfl hl (by decide) rfl (fun ls hl => ?_)
            obtain ⟨v101, ev101, h⟩ := o_nm h
            refine lv_iinc (v := v101) (lv' := [(2, .int v101), (1, .int v100), (5, .int q66.1), (4, .int y0_63), (0, .ref (sA G 9 0)), (3, .int q33)]) hx hb dX5_unwilling_101 hl (k := 4) rfl (by rw [ev101]; rfl) (by decide) rfl (fun ls hl => ?_)
            refine lv_goto (tgt := 12) hx hb dX5_unwilling_104 (by decide) ?_
            exact IH12 v100 v101 q66.2 h _ _ _ hw (lv_sub hl [4, 1, 0] rfl)
          · replace h := o_f c89 h
            refine lv_iconst (v := 1) hx hb dX5_unwilling_92 (by decide) ?_
            refine lv_iload_n hx hb dX5_unwilling_93 rfl (lv_at hl 5 rfl) ?_
            refine lv_ishl hx hb dX5_unwilling_94 ?_
            refine lv_goto (tgt := 99) hx hb dX5_unwilling_95 (by decide) ?_
            refine lv_ior hx hb dX5_unwilling_99 ?_
            refine lv_topi (fun v100 ev100 => ?_)
            replace h := o_nx ev100 h
            refine lv_istore_n (lv' := [(1, .int v100), (5, .int q66.1), (4, .int y0_63), (0, .ref (sA G 9 0)), (2, .int x2_12), (3, .int q33)]) hx hb dX5_unwilling_100 rfl hl (by decide) rfl (fun ls hl => ?_)
            obtain ⟨v101, ev101, h⟩ := o_nm h
            refine lv_iinc (v := v101) (lv' := [(2, .int v101), (1, .int v100), (5, .int q66.1), (4, .int y0_63), (0, .ref (sA G 9 0)), (3, .int q33)]) hx hb dX5_unwilling_101 hl (k := 4) rfl (by rw [ev101]; rfl) (by decide) rfl (fun ls hl => ?_)
            refine lv_goto (tgt := 12) hx hb dX5_unwilling_104 (by decide) ?_
            exact IH12 v100 v101 q66.2 h _ _ _ hw (lv_sub hl [4, 1, 0] rfl)
      obtain ⟨k62, ek62, h⟩ := o_nm h
      have J62 : ∀ (H : Heap) (locs : List Loc) (ls : Array Slot), sHw G s S T_12 H locs → lv_has ls 6 [(0, .ref (sA G 9 0)), (1, .int x1_12), (2, .int x2_12), (3, .int q33)] → k62 = some q → W p l e rmX5_unwilling s m args below meth c H locs 0 0 Q (F0 m 62 ls []) := by
        intro H locs ls hw hl h
        replace h := o_j0 ek62 h
        refine lv_iconst (v := 0) hx hb dX5_unwilling_62 (by decide) ?_
        exact J63 (0 : Int32) _ _ _ hw (lv_sub hl [0, 1, 2, 3] rfl) h
      refine lv_if_lt (tgt := 62) hx hb dX5_unwilling_38 (by decide) (fun c38 => ?_) (fun c38 => ?_)
      · replace h := o_t c38 h
        exact J62 _ _ _ hw (lv_sub hl [1, 2, 3, 0] rfl) h
      · replace h := o_f c38 h
        refine lv_aload_n hx hb dX5_unwilling_41 rfl (lv_at hl 1 rfl) ?_
        refine lv_iload_n hx hb dX5_unwilling_42 rfl (lv_at hl 0 rfl) ?_
        refine lv_iconst (v := 2) hx hb dX5_unwilling_43 (by decide) ?_
        obtain ⟨q44, eq44, h⟩ := o_bd h
        refine kV (As := [.int q33, .int (2 : Int32)]) (rest := []) (st' := [.int q44]) ⟨hx, hb, hml, hown, hts⟩ (kX5_is l G eq44) (cwV 2 hts gX5_unwilling_X5_is rfl rfl rfl qqX5_is ⟨Nat.le_of_ble_eq_true rfl, Nat.le_of_ble_eq_true rfl⟩) hw (rvMd hw) rfl hl.1 rfl (Nat.le_of_ble_eq_true rfl) dX5_unwilling_44 ⟨Nat.zero_le _, Nat.zero_le _⟩ rfl (fun H locs hw => ?_)
        refine lv_aload_n hx hb dX5_unwilling_47 rfl (lv_at hl 1 rfl) ?_
        refine lv_iload_n hx hb dX5_unwilling_48 rfl (lv_at hl 0 rfl) ?_
        refine lv_iconst (v := 1) hx hb dX5_unwilling_49 (by decide) ?_
        obtain ⟨q50, eq50, h⟩ := o_bd h
        refine kV (As := [.int q33, .int (1 : Int32)]) (rest := [.int q44]) (st' := [.int q50, .int q44]) ⟨hx, hb, hml, hown, hts⟩ (kX5_is l G eq50) (cwV 2 hts gX5_unwilling_X5_is rfl rfl rfl qqX5_is ⟨Nat.le_of_ble_eq_true rfl, Nat.le_of_ble_eq_true rfl⟩) hw (rvMd hw) rfl hl.1 rfl (Nat.le_of_ble_eq_true rfl) dX5_unwilling_50 ⟨Nat.zero_le _, Nat.zero_le _⟩ rfl (fun H locs hw => ?_)
        refine lv_iconst (v := 4) hx hb dX5_unwilling_53 (by decide) ?_
        refine lv_isub hx hb dX5_unwilling_54 ?_
        refine lv_icmp_lt (tgt := 62) hx hb dX5_unwilling_55 (by decide) (fun c55 => ?_) (fun c55 => ?_)
        · replace h := o_t c55 h
          exact J62 _ _ _ hw (lv_sub hl [1, 2, 3, 0] rfl) h
        · replace h := o_f c55 h
          refine lv_iconst (v := 1) hx hb dX5_unwilling_58 (by decide) ?_
          refine lv_goto (tgt := 63) hx hb dX5_unwilling_59 (by decide) ?_
          exact J63 (1 : Int32) _ _ _ hw (lv_sub hl [1, 2, 3, 0] rfl) h
-- X5_feed
def bX5_feed_41 (a1 : Int32) (rc41 : Int32 → sOb → Option (Int32 × sOb)) (x3_41 : Int32) (T_41 : sOb) : Option (Int32 × sOb) :=
  if x3_41 < 0 then (some ((T_41.1 1), T_41)) else (if (T_41.1 1) < 0 ∨ 120 ≤ (T_41.1 1).toNatClampNeg then none else nm (sSa T_41 4 (T_41.1 1).toNatClampNeg ((a1 >>> (((8 : Int32) * x3_41) &&& 31)) &&& (255 : Int32))) fun M63 => nm (sSs M63 1 ((M63.1 1) + (1 : Int32))) fun M71 => nm (x3_41 + (-1 : Int32)) fun v74 => rc41 v74 M71)
def fX5_feed (M : sOb) (a1 : Int32) (a2 : Int32) : Option (Int32 × sOb) :=
  (fX5_isIn a2.toInt64 (1 : Int64) (4 : Int64)).bind fun q6 => if q6 = 0 then ((fX5_finds M (-1000000001 : Int32)).bind fun q15 => some (q15.1, q15.2)) else (if ((M.1 1) + a2) ≤ (120 : Int32) then (nm (a2 - (1 : Int32)) fun v40 => fx2 (bX5_feed_41 a1) FU v40 M) else ((fX5_finds M (-1000000002 : Int32)).bind fun q33 => some (q33.1, q33.2)))
def rmX5_feed : Room := { frames := 1, cells := 0, slots := 0, locals := 25 }
theorem qqX5_feed : yX5_feed.cls = RX5 ∧ yX5_feed.cls ≠ "java/lang/invoke/MethodHandle" ∧ yX5_feed.cls ≠ "java/lang/invoke/VarHandle" ∧ (parseMethodDescriptor yX5_feed.desc).map (fun d => d.parameters.length) = some 2 := by decide +kernel
set_option maxRecDepth 100000 in
set_option maxHeartbeats 4000000 in
theorem kX5_feed (l : Launch) (G : sGl) {S : sWo} {M : sOb} {a1 : Int32} {a2 : Int32} {q : (Int32 × sOb)}  (h : fX5_feed M a1 a2 = some q) : sCt l G yX5_feed wsX5_feed rmX5_feed [.ref (sA G 9 0), .int a1, .int a2] S M (some (.int q.1)) S q.2 := by
  refine cMk (cc := cX5_feed) (maxL := 4) (ret := (some .int)) (by decide) rfl (Nat.le_of_ble_eq_true rfl) ?_
  intro p e s m args below meth c Q hQ hx hb hr hlk hml hown hts hw ls hl
  have hown : s.vm.findClass RX5 = some m.cls := hown
  have hl : lv_has ls 4 [(0, .ref (sA G 9 0)), (1, .int a1), (2, .int a2)] := hl
  have hiX5 : ∀ w ∈ u_ws RX5 TX5 15, w ∈ wsX5_feed := by decide +kernel
  unfold fX5_feed at h
  refine lv_iload_n hx hb dX5_feed_0 rfl (lv_at hl 2 rfl) ?_
  refine lv_i2l hx hb dX5_feed_1 rfl ?_
  refine lv_lconst (v := 1) hx hb dX5_feed_2 (by decide) ?_
  refine lv_ldc2 (v := 4) hx hb hown (hts (.constantLong RX5 166 (4)) (by decide +kernel)) dX5_feed_3 ?_
  obtain ⟨q6, eq6, h⟩ := o_bd h
  refine kS (As := [.long a2.toInt64, .long (1 : Int64), .long (4 : Int64)]) (rest := []) (st' := [.int q6]) ⟨hx, hb, hml, hown, hts⟩ (kX5_isIn l G eq6) (va_cwS 3 hts gX5_feed_X5_isIn rfl rfl rfl qqX5_isIn ⟨Nat.le_of_ble_eq_true rfl, Nat.le_of_ble_eq_true rfl⟩) hw rfl hl.1 rfl (Nat.le_of_ble_eq_true rfl) dX5_feed_6 ⟨Nat.zero_le _, Nat.zero_le _⟩ rfl (fun H locs hw => ?_)
  refine lv_if_ne (tgt := 19) hx hb dX5_feed_9 (by decide) (fun c9 => ?_) (fun c9 => ?_)
  · replace h := o_f c9 h
    refine lv_aload_n hx hb dX5_feed_19 rfl (lv_at hl 0 rfl) ?_
    refine gMd (v := .int (M.1 1)) hx hb hts hiX5 hown hw 6 (by decide) (hts (.fieldLink RX5 168 "SecondHomeModel" "taped" "I") (by decide +kernel)) rfl dX5_feed_20 ?_
    refine lv_iload_n hx hb dX5_feed_23 rfl (lv_at hl 2 rfl) ?_
    refine lv_iadd hx hb dX5_feed_24 ?_
    refine lv_bipush (v := 120) hx hb dX5_feed_25 (by decide) ?_
    refine lv_icmp_le (tgt := 37) hx hb dX5_feed_27 (by decide) (fun c27 => ?_) (fun c27 => ?_)
    · replace h := o_t c27 h
      refine lv_iload_n hx hb dX5_feed_37 rfl (lv_at hl 2 rfl) ?_
      refine lv_iconst (v := 1) hx hb dX5_feed_38 (by decide) ?_
      refine lv_isub hx hb dX5_feed_39 ?_
      refine lv_topi (fun v40 ev40 => ?_)
      replace h := o_nx ev40 h
      refine lv_istore_n (lv' := [(3, .int v40), (0, .ref (sA G 9 0)), (1, .int a1), (2, .int a2)]) hx hb dX5_feed_40 rfl hl (by decide) rfl (fun ls hl => ?_)
      refine fx2_w (F := (bX5_feed_41 a1)) (P := fun x3_41 T_41 => ∀ (H : Heap) (locs : List Loc) (ls : Array Slot), sHw G s S T_41 H locs → lv_has ls 4 [(0, .ref (sA G 9 0)), (1, .int a1), (3, .int x3_41)] → W p l e rmX5_feed s m args below meth c H locs 0 0 Q (F0 m 41 ls [])) ?_ _ _ _ h _ _ _ hw (lv_sub hl [1, 2, 0] rfl)
      intro rc41 IH41 x3_41 T_41 h H locs ls hw hl
      unfold bX5_feed_41 at h
      refine lv_iload_n hx hb dX5_feed_41 rfl (lv_at hl 2 rfl) ?_
      refine lv_if_lt (tgt := 80) hx hb dX5_feed_42 (by decide) (fun c42 => ?_) (fun c42 => ?_)
      · replace h := o_t c42 h
        refine lv_aload_n hx hb dX5_feed_80 rfl (lv_at hl 0 rfl) ?_
        refine gMd (v := .int (T_41.1 1)) hx hb hts hiX5 hown hw 6 (by decide) (hts (.fieldLink RX5 168 "SecondHomeModel" "taped" "I") (by decide +kernel)) rfl dX5_feed_81 ?_
        exact rI hQ hx hb hr hlk hw dX5_feed_84 (o_2a h) rfl (o_2b h)
      · replace h := o_f c42 h
        refine lv_aload_n hx hb dX5_feed_45 rfl (lv_at hl 0 rfl) ?_
        refine gMd (v := .ref (sA G 9 5)) hx hb hts hiX5 hown hw 5 (by decide) (hts (.fieldLink RX5 22 "SecondHomeModel" "tape" "[I") (by decide +kernel)) rfl dX5_feed_46 ?_
        refine lv_aload_n hx hb dX5_feed_49 rfl (lv_at hl 0 rfl) ?_
        refine gMd (v := .int (T_41.1 1)) hx hb hts hiX5 hown hw 6 (by decide) (hts (.fieldLink RX5 168 "SecondHomeModel" "taped" "I") (by decide +kernel)) rfl dX5_feed_50 ?_
        refine lv_iload_n hx hb dX5_feed_53 rfl (lv_at hl 1 rfl) ?_
        refine lv_bipush (v := 8) hx hb dX5_feed_54 (by decide) ?_
        refine lv_iload_n hx hb dX5_feed_56 rfl (lv_at hl 2 rfl) ?_
        refine lv_imul hx hb dX5_feed_57 ?_
        refine lv_ishr hx hb dX5_feed_58 ?_
        refine lv_sipush (v := 255) hx hb dX5_feed_59 (by decide) ?_
        refine lv_iand hx hb dX5_feed_62 ?_
        obtain ⟨b63, h⟩ := o_in h
        refine stMd hx hb hw 4 (by decide) (n := 120) rfl b63 dX5_feed_63 rfl (fun H locs hw => ?_)
        obtain ⟨M63, eM63, h⟩ := o_nm h
        rw [← eM63] at hw
        refine lv_aload_n hx hb dX5_feed_64 rfl (lv_at hl 0 rfl) ?_
        refine lv_dup hx hb dX5_feed_65 rfl ?_
        refine gMd (v := .int (M63.1 1)) hx hb hts hiX5 hown hw 6 (by decide) (hts (.fieldLink RX5 168 "SecondHomeModel" "taped" "I") (by decide +kernel)) rfl dX5_feed_66 ?_
        refine lv_iconst (v := 1) hx hb dX5_feed_69 (by decide) ?_
        refine lv_iadd hx hb dX5_feed_70 ?_
        refine pMd (ty := .int) hx hb hts hiX5 hown hw 6 1 (by decide) rfl rfl (by decide +kernel) rfl rfl (hts (.fieldLink RX5 168 "SecondHomeModel" "taped" "I") (by decide +kernel)) dX5_feed_71 rfl (fun H locs hw => ?_)
        obtain ⟨M71, eM71, h⟩ := o_nm h
        rw [← eM71] at hw
        obtain ⟨v74, ev74, h⟩ := o_nm h
        refine lv_iinc (v := v74) (lv' := [(3, .int v74), (0, .ref (sA G 9 0)), (1, .int a1)]) hx hb dX5_feed_74 hl (k := 2) rfl (by rw [ev74]; rfl) (by decide) rfl (fun ls hl => ?_)
        refine lv_goto (tgt := 41) hx hb dX5_feed_77 (by decide) ?_
        exact IH41 v74 M71 h _ _ _ hw (lv_sub hl [1, 2, 0] rfl)
    · replace h := o_f c27 h
      refine lv_aload_n hx hb dX5_feed_30 rfl (lv_at hl 0 rfl) ?_
      refine lv_ldc (v := -1000000002) hx hb hown (hts (.constant RX5 74 (-1000000002)) (by decide +kernel)) dX5_feed_31 ?_
      obtain ⟨q33, eq33, h⟩ := o_bd h
      refine kV (As := [.int (-1000000002 : Int32)]) (rest := []) (st' := [.int q33.1]) ⟨hx, hb, hml, hown, hts⟩ (kX5_finds l G eq33) (cwV 1 hts gX5_feed_X5_finds rfl rfl rfl qqX5_finds ⟨Nat.le_of_ble_eq_true rfl, Nat.le_of_ble_eq_true rfl⟩) hw (rvMd hw) rfl hl.1 rfl (Nat.le_of_ble_eq_true rfl) dX5_feed_33 ⟨Nat.zero_le _, Nat.zero_le _⟩ rfl (fun H locs hw => ?_)
      exact rI hQ hx hb hr hlk hw dX5_feed_36 (o_2a h) rfl (o_2b h)
  · replace h := o_t c9 h
    refine lv_aload_n hx hb dX5_feed_12 rfl (lv_at hl 0 rfl) ?_
    refine lv_ldc (v := -1000000001) hx hb hown (hts (.constant RX5 38 (-1000000001)) (by decide +kernel)) dX5_feed_13 ?_
    obtain ⟨q15, eq15, h⟩ := o_bd h
    refine kV (As := [.int (-1000000001 : Int32)]) (rest := []) (st' := [.int q15.1]) ⟨hx, hb, hml, hown, hts⟩ (kX5_finds l G eq15) (cwV 1 hts gX5_feed_X5_finds rfl rfl rfl qqX5_finds ⟨Nat.le_of_ble_eq_true rfl, Nat.le_of_ble_eq_true rfl⟩) hw (rvMd hw) rfl hl.1 rfl (Nat.le_of_ble_eq_true rfl) dX5_feed_15 ⟨Nat.zero_le _, Nat.zero_le _⟩ rfl (fun H locs hw => ?_)
    exact rI hQ hx hb hr hlk hw dX5_feed_18 (o_2a h) rfl (o_2b h)
-- X5_wipe
def fX5_wipe (M : sOb) : Option (Int32 × sOb) :=
  nm (M.1 1) fun v4 => nm (sSs M 1 (0 : Int32)) fun M7 => some (v4, M7)
def rmX5_wipe : Room := { frames := 0, cells := 0, slots := 0, locals := 0 }
theorem qqX5_wipe : yX5_wipe.cls = RX5 ∧ yX5_wipe.cls ≠ "java/lang/invoke/MethodHandle" ∧ yX5_wipe.cls ≠ "java/lang/invoke/VarHandle" ∧ (parseMethodDescriptor yX5_wipe.desc).map (fun d => d.parameters.length) = some 0 := by decide +kernel
set_option maxRecDepth 100000 in
set_option maxHeartbeats 4000000 in
theorem kX5_wipe (l : Launch) (G : sGl) {S : sWo} {M : sOb}  {q : (Int32 × sOb)}  (h : fX5_wipe M = some q) : sCt l G yX5_wipe wsX5_wipe rmX5_wipe [.ref (sA G 9 0)] S M (some (.int q.1)) S q.2 := by
  refine cMk (cc := cX5_wipe) (maxL := 2) (ret := (some .int)) (by decide) rfl (Nat.le_of_ble_eq_true rfl) ?_
  intro p e s m args below meth c Q hQ hx hb hr hlk hml hown hts hw ls hl
  have hown : s.vm.findClass RX5 = some m.cls := hown
  have hl : lv_has ls 2 [(0, .ref (sA G 9 0))] := hl
  have hiX5 : ∀ w ∈ u_ws RX5 TX5 15, w ∈ wsX5_wipe := by decide +kernel
  unfold fX5_wipe at h
  refine lv_aload_n hx hb dX5_wipe_0 rfl (lv_at hl 0 rfl) ?_
  refine gMd (v := .int (M.1 1)) hx hb hts hiX5 hown hw 6 (by decide) (hts (.fieldLink RX5 168 "SecondHomeModel" "taped" "I") (by decide +kernel)) rfl dX5_wipe_1 ?_
  refine lv_topi (fun v4 ev4 => ?_)
  replace h := o_nx ev4 h
  refine lv_istore_n (lv' := [(1, .int v4), (0, .ref (sA G 9 0))]) hx hb dX5_wipe_4 rfl hl (by decide) rfl (fun ls hl => ?_)
  refine lv_aload_n hx hb dX5_wipe_5 rfl (lv_at hl 1 rfl) ?_
  refine lv_iconst (v := 0) hx hb dX5_wipe_6 (by decide) ?_
  refine pMd (ty := .int) hx hb hts hiX5 hown hw 6 1 (by decide) rfl rfl (by decide +kernel) rfl rfl (hts (.fieldLink RX5 168 "SecondHomeModel" "taped" "I") (by decide +kernel)) dX5_wipe_7 rfl (fun H locs hw => ?_)
  obtain ⟨M7, eM7, h⟩ := o_nm h
  rw [← eM7] at hw
  refine lv_iload_n hx hb dX5_wipe_10 rfl (lv_at hl 0 rfl) ?_
  exact rI hQ hx hb hr hlk hw dX5_wipe_11 (o_2a h) rfl (o_2b h)
-- X5_isLetter
def fX5_isLetter (a0 : Int32) : Option Int32 :=
  if a0 < (97 : Int32) then (some (0 : Int32)) else (if (122 : Int32) < a0 then (some (0 : Int32)) else (some (1 : Int32)))
def rmX5_isLetter : Room := { frames := 0, cells := 0, slots := 0, locals := 0 }
theorem qqX5_isLetter : yX5_isLetter.cls ≠ "java/lang/invoke/MethodHandle" ∧ yX5_isLetter.cls ≠ "java/lang/invoke/VarHandle" ∧ (parseMethodDescriptor yX5_isLetter.desc).map (fun d => d.parameters.length) = some 1 := by decide +kernel
set_option maxRecDepth 100000 in
set_option maxHeartbeats 4000000 in
theorem kX5_isLetter (l : Launch) (G : sGl) {S : sWo} {M : sOb} {a0 : Int32} {q : Int32}  (h : fX5_isLetter a0 = some q) : sCt l G yX5_isLetter wsX5_isLetter rmX5_isLetter [.int a0] S M (some (.int q)) S M := by
  refine cMk (cc := cX5_isLetter) (maxL := 1) (ret := (some .boolean)) (by decide) rfl (Nat.le_of_ble_eq_true rfl) ?_
  intro p e s m args below meth c Q hQ hx hb hr hlk hml hown hts hw ls hl
  have hown : s.vm.findClass RX5 = some m.cls := hown
  have hl : lv_has ls 1 [(0, .int a0)] := hl
  unfold fX5_isLetter at h
  refine lv_iload_n hx hb dX5_isLetter_0 rfl (lv_at hl 0 rfl) ?_
  refine lv_bipush (v := 97) hx hb dX5_isLetter_1 (by decide) ?_
  refine lv_icmp_lt (tgt := 16) hx hb dX5_isLetter_3 (by decide) (fun c3 => ?_) (fun c3 => ?_)
  · replace h := o_t c3 h
    refine lv_iconst (v := 0) hx hb dX5_isLetter_16 (by decide) ?_
    exact rZ hQ hx hb hr hlk hw (Or.inl rfl) dX5_isLetter_17 (o_1 h) rfl rfl
  · replace h := o_f c3 h
    refine lv_iload_n hx hb dX5_isLetter_6 rfl (lv_at hl 0 rfl) ?_
    refine lv_bipush (v := 122) hx hb dX5_isLetter_7 (by decide) ?_
    refine lv_icmp_gt (tgt := 16) hx hb dX5_isLetter_9 (by decide) (fun c9 => ?_) (fun c9 => ?_)
    · replace h := o_t c9 h
      refine lv_iconst (v := 0) hx hb dX5_isLetter_16 (by decide) ?_
      exact rZ hQ hx hb hr hlk hw (Or.inl rfl) dX5_isLetter_17 (o_1 h) rfl rfl
    · replace h := o_f c9 h
      refine lv_iconst (v := 1) hx hb dX5_isLetter_12 (by decide) ?_
      refine lv_goto (tgt := 17) hx hb dX5_isLetter_13 (by decide) ?_
      exact rZ hQ hx hb hr hlk hw (Or.inr rfl) dX5_isLetter_17 (o_1 h) rfl rfl
-- X5_isDigit
def fX5_isDigit (a0 : Int32) : Option Int32 :=
  if a0 < (48 : Int32) then (some (0 : Int32)) else (if (57 : Int32) < a0 then (some (0 : Int32)) else (some (1 : Int32)))
def rmX5_isDigit : Room := { frames := 0, cells := 0, slots := 0, locals := 0 }
theorem qqX5_isDigit : yX5_isDigit.cls ≠ "java/lang/invoke/MethodHandle" ∧ yX5_isDigit.cls ≠ "java/lang/invoke/VarHandle" ∧ (parseMethodDescriptor yX5_isDigit.desc).map (fun d => d.parameters.length) = some 1 := by decide +kernel
set_option maxRecDepth 100000 in
set_option maxHeartbeats 4000000 in
theorem kX5_isDigit (l : Launch) (G : sGl) {S : sWo} {M : sOb} {a0 : Int32} {q : Int32}  (h : fX5_isDigit a0 = some q) : sCt l G yX5_isDigit wsX5_isDigit rmX5_isDigit [.int a0] S M (some (.int q)) S M := by
  refine cMk (cc := cX5_isDigit) (maxL := 1) (ret := (some .boolean)) (by decide) rfl (Nat.le_of_ble_eq_true rfl) ?_
  intro p e s m args below meth c Q hQ hx hb hr hlk hml hown hts hw ls hl
  have hown : s.vm.findClass RX5 = some m.cls := hown
  have hl : lv_has ls 1 [(0, .int a0)] := hl
  unfold fX5_isDigit at h
  refine lv_iload_n hx hb dX5_isDigit_0 rfl (lv_at hl 0 rfl) ?_
  refine lv_bipush (v := 48) hx hb dX5_isDigit_1 (by decide) ?_
  refine lv_icmp_lt (tgt := 16) hx hb dX5_isDigit_3 (by decide) (fun c3 => ?_) (fun c3 => ?_)
  · replace h := o_t c3 h
    refine lv_iconst (v := 0) hx hb dX5_isDigit_16 (by decide) ?_
    exact rZ hQ hx hb hr hlk hw (Or.inl rfl) dX5_isDigit_17 (o_1 h) rfl rfl
  · replace h := o_f c3 h
    refine lv_iload_n hx hb dX5_isDigit_6 rfl (lv_at hl 0 rfl) ?_
    refine lv_bipush (v := 57) hx hb dX5_isDigit_7 (by decide) ?_
    refine lv_icmp_gt (tgt := 16) hx hb dX5_isDigit_9 (by decide) (fun c9 => ?_) (fun c9 => ?_)
    · replace h := o_t c9 h
      refine lv_iconst (v := 0) hx hb dX5_isDigit_16 (by decide) ?_
      exact rZ hQ hx hb hr hlk hw (Or.inl rfl) dX5_isDigit_17 (o_1 h) rfl rfl
    · replace h := o_f c9 h
      refine lv_iconst (v := 1) hx hb dX5_isDigit_12 (by decide) ?_
      refine lv_goto (tgt := 17) hx hb dX5_isDigit_13 (by decide) ?_
      exact rZ hQ hx hb hr hlk hw (Or.inr rfl) dX5_isDigit_17 (o_1 h) rfl rfl
-- X5_byteAt
def fX5_byteAt (M : sOb) (a1 : Int32) : Option Int32 :=
  if (M.1 1) ≤ a1 then (some (-1 : Int32)) else (if a1 < 0 ∨ 120 ≤ a1.toNatClampNeg then none else some (M.2.1 4 a1.toNatClampNeg))
def rmX5_byteAt : Room := { frames := 0, cells := 0, slots := 0, locals := 0 }
theorem qqX5_byteAt : yX5_byteAt.cls = RX5 ∧ yX5_byteAt.cls ≠ "java/lang/invoke/MethodHandle" ∧ yX5_byteAt.cls ≠ "java/lang/invoke/VarHandle" ∧ (parseMethodDescriptor yX5_byteAt.desc).map (fun d => d.parameters.length) = some 1 := by decide +kernel
set_option maxRecDepth 100000 in
set_option maxHeartbeats 4000000 in
theorem kX5_byteAt (l : Launch) (G : sGl) {S : sWo} {M : sOb} {a1 : Int32} {q : Int32}  (h : fX5_byteAt M a1 = some q) : sCt l G yX5_byteAt wsX5_byteAt rmX5_byteAt [.ref (sA G 9 0), .int a1] S M (some (.int q)) S M := by
  refine cMk (cc := cX5_byteAt) (maxL := 2) (ret := (some .int)) (by decide) rfl (Nat.le_of_ble_eq_true rfl) ?_
  intro p e s m args below meth c Q hQ hx hb hr hlk hml hown hts hw ls hl
  have hown : s.vm.findClass RX5 = some m.cls := hown
  have hl : lv_has ls 2 [(0, .ref (sA G 9 0)), (1, .int a1)] := hl
  have hiX5 : ∀ w ∈ u_ws RX5 TX5 15, w ∈ wsX5_byteAt := by decide +kernel
  unfold fX5_byteAt at h
  refine lv_iload_n hx hb dX5_byteAt_0 rfl (lv_at hl 1 rfl) ?_
  refine lv_aload_n hx hb dX5_byteAt_1 rfl (lv_at hl 0 rfl) ?_
  refine gMd (v := .int (M.1 1)) hx hb hts hiX5 hown hw 6 (by decide) (hts (.fieldLink RX5 168 "SecondHomeModel" "taped" "I") (by decide +kernel)) rfl dX5_byteAt_2 ?_
  refine lv_icmp_ge (tgt := 17) hx hb dX5_byteAt_5 (by decide) (fun c5 => ?_) (fun c5 => ?_)
  · replace h := o_t c5 h
    refine lv_iconst (v := -1) hx hb dX5_byteAt_17 (by decide) ?_
    exact rI hQ hx hb hr hlk hw dX5_byteAt_18 (o_1 h) rfl rfl
  · replace h := o_f c5 h
    refine lv_aload_n hx hb dX5_byteAt_8 rfl (lv_at hl 0 rfl) ?_
    refine gMd (v := .ref (sA G 9 5)) hx hb hts hiX5 hown hw 5 (by decide) (hts (.fieldLink RX5 22 "SecondHomeModel" "tape" "[I") (by decide +kernel)) rfl dX5_byteAt_9 ?_
    refine lv_iload_n hx hb dX5_byteAt_12 rfl (lv_at hl 1 rfl) ?_
    obtain ⟨b13, h⟩ := o_in h
    refine ldMd hx hb hw 4 (by decide) (n := 120) rfl b13 dX5_byteAt_13 ?_
    refine lv_goto (tgt := 18) hx hb dX5_byteAt_14 (by decide) ?_
    exact rI hQ hx hb hr hlk hw dX5_byteAt_18 (o_1 h) rfl rfl
-- X5_nextToken
def bX5_nextToken_136 (T_136 : sOb) (k211 : sOb → Option sOb) (rc136 : sOb → Option sOb) (T_136 : sOb) : Option sOb :=
  if (T_136.1 2) = (2 : Int32) then ((fX5_byteAt T_136 (T_136.1 4)).bind fun q149 => (fX5_isDigit q149).bind fun q152 => if q152 = 0 then (k211 T_136) else (if (T_136.1 5) ≤ (9999 : Int32) then ((fX5_byteAt T_136 (T_136.1 4)).bind fun q188 => nm (sSs T_136 5 ((((10 : Int32) * (T_136.1 5)) + q188) - (48 : Int32))) fun M195 => nm (sSs M195 4 ((M195.1 4) + (1 : Int32))) fun M205 => rc136 M205) else (nm (sSs T_136 5 (T_136.1 5)) fun M195 => nm (sSs M195 4 ((M195.1 4) + (1 : Int32))) fun M205 => rc136 M205))) else (k211 T_136)
def bX5_nextToken_101 (k136 : sOb → Option sOb) (rc101 : sOb → Option sOb) (T_101 : sOb) : Option sOb :=
  if (T_101.1 2) = (1 : Int32) then ((fX5_byteAt T_101 (T_101.1 4)).bind fun q114 => (fX5_isLetter q114).bind fun q117 => if q117 = 0 then (k136 T_101) else (nm (sSs T_101 4 ((T_101.1 4) + (1 : Int32))) fun M130 => rc101 M130)) else (k136 T_101)
def bX5_nextToken_8 (k34 : sOb → Option sOb) (rc8 : sOb → Option sOb) (T_8 : sOb) : Option sOb :=
  (fX5_byteAt T_8 (T_8.1 3)).bind fun q13 => if q13 = (32 : Int32) then (nm (sSs T_8 3 ((T_8.1 3) + (1 : Int32))) fun M28 => rc8 M28) else (k34 T_8)
def fX5_nextToken (M : sOb) : Option sOb :=
  nm (sSs M 3 (M.1 4)) fun M5 => nm (fun (T_34 : sOb) => nm (sSs T_34 4 (T_34.1 3)) fun M39 => (fX5_byteAt M39 (M39.1 3)).bind fun q47 => nm (fun (y0_93 : Int32) => nm (sSs M39 2 y0_93) fun M93 => nm (sSs M93 5 (0 : Int32)) fun M98 => nm (fun (T_136 : sOb) => nm (fun (T_211 : sOb) => if (T_211.1 2) ≤ (2 : Int32) then (nm (sSs T_211 4 ((T_211.1 4) + (0 : Int32))) fun M230 => some M230) else (nm (sSs T_211 4 ((T_211.1 4) + (1 : Int32))) fun M230 => some M230)) fun k211 => fx1 (bX5_nextToken_136 T_136 k211) FU T_136) fun k136 => fx1 (bX5_nextToken_101 k136) FU M98) fun k93 => if 0 ≤ q47 then ((fX5_isLetter q47).bind fun q61 => if q61 = 0 then ((fX5_isDigit q47).bind fun q72 => if q72 = 0 then (if q47 = (59 : Int32) then (k93 (3 : Int32)) else (k93 (4 : Int32))) else (k93 (2 : Int32))) else (k93 (1 : Int32))) else (k93 (0 : Int32))) fun k34 => fx1 (bX5_nextToken_8 k34) FU M5
def rmX5_nextToken : Room := { frames := 1, cells := 0, slots := 0, locals := 21 }
theorem qqX5_nextToken : yX5_nextToken.cls = RX5 ∧ yX5_nextToken.cls ≠ "java/lang/invoke/MethodHandle" ∧ yX5_nextToken.cls ≠ "java/lang/invoke/VarHandle" ∧ (parseMethodDescriptor yX5_nextToken.desc).map (fun d => d.parameters.length) = some 0 := by decide +kernel
set_option maxRecDepth 100000 in
set_option maxHeartbeats 4000000 in
theorem kX5_nextToken (l : Launch) (G : sGl) {S : sWo} {M : sOb}  {q : sOb}  (h : fX5_nextToken M = some q) : sCt l G yX5_nextToken wsX5_nextToken rmX5_nextToken [.ref (sA G 9 0)] S M none S q := by
  refine cMk (cc := cX5_nextToken) (maxL := 2) (ret := none) (by decide) rfl (Nat.le_of_ble_eq_true rfl) ?_
  intro p e s m args below meth c Q hQ hx hb hr hlk hml hown hts hw ls hl
  have hown : s.vm.findClass RX5 = some m.cls := hown
  have hl : lv_has ls 2 [(0, .ref (sA G 9 0))] := hl
  have hiX5 : ∀ w ∈ u_ws RX5 TX5 15, w ∈ wsX5_nextToken := by decide +kernel
  unfold fX5_nextToken at h
  refine lv_aload_n hx hb dX5_nextToken_0 rfl (lv_at hl 0 rfl) ?_
  refine lv_aload_n hx hb dX5_nextToken_1 rfl (lv_at hl 0 rfl) ?_
  refine gMd (v := .int (M.1 4)) hx hb hts hiX5 hown hw 13 (by decide) (hts (.fieldLink RX5 172 "SecondHomeModel" "to" "I") (by decide +kernel)) rfl dX5_nextToken_2 ?_
  refine pMd (ty := .int) hx hb hts hiX5 hown hw 12 3 (by decide) rfl rfl (by decide +kernel) rfl rfl (hts (.fieldLink RX5 175 "SecondHomeModel" "from" "I") (by decide +kernel)) dX5_nextToken_5 rfl (fun H locs hw => ?_)
  obtain ⟨M5, eM5, h⟩ := o_nm h
  rw [← eM5] at hw
  obtain ⟨k34, ek34, h⟩ := o_nm h
  have J34 : ∀ (T_34 : sOb) (H : Heap) (locs : List Loc) (ls : Array Slot), sHw G s S T_34 H locs → lv_has ls 2 [(0, .ref (sA G 9 0))] → k34 T_34 = some q → W p l e rmX5_nextToken s m args below meth c H locs 0 0 Q (F0 m 34 ls []) := by
    intro T_34 H locs ls hw hl h
    replace h := o_j1 ek34 h
    refine lv_aload_n hx hb dX5_nextToken_34 rfl (lv_at hl 0 rfl) ?_
    refine lv_aload_n hx hb dX5_nextToken_35 rfl (lv_at hl 0 rfl) ?_
    refine gMd (v := .int (T_34.1 3)) hx hb hts hiX5 hown hw 12 (by decide) (hts (.fieldLink RX5 175 "SecondHomeModel" "from" "I") (by decide +kernel)) rfl dX5_nextToken_36 ?_
    refine pMd (ty := .int) hx hb hts hiX5 hown hw 13 4 (by decide) rfl rfl (by decide +kernel) rfl rfl (hts (.fieldLink RX5 172 "SecondHomeModel" "to" "I") (by decide +kernel)) dX5_nextToken_39 rfl (fun H locs hw => ?_)
    obtain ⟨M39, eM39, h⟩ := o_nm h
    rw [← eM39] at hw
    refine lv_aload_n hx hb dX5_nextToken_42 rfl (lv_at hl 0 rfl) ?_
    refine lv_aload_n hx hb dX5_nextToken_43 rfl (lv_at hl 0 rfl) ?_
    refine gMd (v := .int (M39.1 3)) hx hb hts hiX5 hown hw 12 (by decide) (hts (.fieldLink RX5 175 "SecondHomeModel" "from" "I") (by decide +kernel)) rfl dX5_nextToken_44 ?_
    obtain ⟨q47, eq47, h⟩ := o_bd h
    refine kV (As := [.int (M39.1 3)]) (rest := []) (st' := [.int q47]) ⟨hx, hb, hml, hown, hts⟩ (kX5_byteAt l G eq47) (cwV 1 hts gX5_nextToken_X5_byteAt rfl rfl rfl qqX5_byteAt ⟨Nat.le_of_ble_eq_true rfl, Nat.le_of_ble_eq_true rfl⟩) hw (rvMd hw) rfl hl.1 rfl (Nat.le_of_ble_eq_true rfl) dX5_nextToken_47 ⟨Nat.zero_le _, Nat.zero_le _⟩ rfl (fun H locs hw => ?_)
    refine lv_istore_n (lv' := [(1, .int q47), (0, .ref (sA G 9 0))]) hx hb dX5_nextToken_50 rfl hl (by decide) rfl (fun ls hl => ?_)
    refine lv_aload_n hx hb dX5_nextToken_51 rfl (lv_at hl 1 rfl) ?_
    refine lv_iload_n hx hb dX5_nextToken_52 rfl (lv_at hl 0 rfl) ?_
    obtain ⟨k93, ek93, h⟩ := o_nm h
    have J93 : ∀ (y0_93 : Int32) (H : Heap) (locs : List Loc) (ls : Array Slot), sHw G s S M39 H locs → lv_has ls 2 [(0, .ref (sA G 9 0))] → k93 y0_93 = some q → W p l e rmX5_nextToken s m args below meth c H locs 0 0 Q (F0 m 93 ls [.int y0_93, .ref (sA G 9 0)]) := by
      intro y0_93 H locs ls hw hl h
      replace h := o_j1 ek93 h
      refine pMd (ty := .int) hx hb hts hiX5 hown hw 11 2 (by decide) rfl rfl (by decide +kernel) rfl rfl (hts (.fieldLink RX5 187 "SecondHomeModel" "token" "I") (by decide +kernel)) dX5_nextToken_93 rfl (fun H locs hw => ?_)
      obtain ⟨M93, eM93, h⟩ := o_nm h
      rw [← eM93] at hw
      refine lv_aload_n hx hb dX5_nextToken_96 rfl (lv_at hl 0 rfl) ?_
      refine lv_iconst (v := 0) hx hb dX5_nextToken_97 (by decide) ?_
      refine pMd (ty := .int) hx hb hts hiX5 hown hw 14 5 (by decide) rfl rfl (by decide +kernel) rfl rfl (hts (.fieldLink RX5 190 "SecondHomeModel" "value" "I") (by decide +kernel)) dX5_nextToken_98 rfl (fun H locs hw => ?_)
      obtain ⟨M98, eM98, h⟩ := o_nm h
      rw [← eM98] at hw
      obtain ⟨k136, ek136, h⟩ := o_nm h
      have J136 : ∀ (T_136 : sOb) (H : Heap) (locs : List Loc) (ls : Array Slot), sHw G s S T_136 H locs → lv_has ls 2 [(0, .ref (sA G 9 0))] → k136 T_136 = some q → W p l e rmX5_nextToken s m args below meth c H locs 0 0 Q (F0 m 136 ls []) := by
        intro T_136 H locs ls hw hl h
        replace h := o_j1 ek136 h
        obtain ⟨k211, ek211, h⟩ := o_nm h
        have J211 : ∀ (T_211 : sOb) (H : Heap) (locs : List Loc) (ls : Array Slot), sHw G s S T_211 H locs → lv_has ls 2 [(0, .ref (sA G 9 0))] → k211 T_211 = some q → W p l e rmX5_nextToken s m args below meth c H locs 0 0 Q (F0 m 211 ls []) := by
          intro T_211 H locs ls hw hl h
          replace h := o_j1 ek211 h
          refine lv_aload_n hx hb dX5_nextToken_211 rfl (lv_at hl 0 rfl) ?_
          refine lv_dup hx hb dX5_nextToken_212 rfl ?_
          refine gMd (v := .int (T_211.1 4)) hx hb hts hiX5 hown hw 13 (by decide) (hts (.fieldLink RX5 172 "SecondHomeModel" "to" "I") (by decide +kernel)) rfl dX5_nextToken_213 ?_
          refine lv_aload_n hx hb dX5_nextToken_216 rfl (lv_at hl 0 rfl) ?_
          refine gMd (v := .int (T_211.1 2)) hx hb hts hiX5 hown hw 11 (by decide) (hts (.fieldLink RX5 187 "SecondHomeModel" "token" "I") (by decide +kernel)) rfl dX5_nextToken_217 ?_
          refine lv_iconst (v := 2) hx hb dX5_nextToken_220 (by decide) ?_
          refine lv_icmp_le (tgt := 228) hx hb dX5_nextToken_221 (by decide) (fun c221 => ?_) (fun c221 => ?_)
          · replace h := o_t c221 h
            refine lv_iconst (v := 0) hx hb dX5_nextToken_228 (by decide) ?_
            refine lv_iadd hx hb dX5_nextToken_229 ?_
            refine pMd (ty := .int) hx hb hts hiX5 hown hw 13 4 (by decide) rfl rfl (by decide +kernel) rfl rfl (hts (.fieldLink RX5 172 "SecondHomeModel" "to" "I") (by decide +kernel)) dX5_nextToken_230 rfl (fun H locs hw => ?_)
            obtain ⟨M230, eM230, h⟩ := o_nm h
            rw [← eM230] at hw
            exact rV hQ hx hb hr hlk hw dX5_nextToken_233 rfl (o_1 h)
          · replace h := o_f c221 h
            refine lv_iconst (v := 1) hx hb dX5_nextToken_224 (by decide) ?_
            refine lv_goto (tgt := 229) hx hb dX5_nextToken_225 (by decide) ?_
            refine lv_iadd hx hb dX5_nextToken_229 ?_
            refine pMd (ty := .int) hx hb hts hiX5 hown hw 13 4 (by decide) rfl rfl (by decide +kernel) rfl rfl (hts (.fieldLink RX5 172 "SecondHomeModel" "to" "I") (by decide +kernel)) dX5_nextToken_230 rfl (fun H locs hw => ?_)
            obtain ⟨M230, eM230, h⟩ := o_nm h
            rw [← eM230] at hw
            exact rV hQ hx hb hr hlk hw dX5_nextToken_233 rfl (o_1 h)
        refine fx1_w (F := (bX5_nextToken_136 T_136 k211)) (P := fun T_136 => ∀ (H : Heap) (locs : List Loc) (ls : Array Slot), sHw G s S T_136 H locs → lv_has ls 2 [(0, .ref (sA G 9 0))] → W p l e rmX5_nextToken s m args below meth c H locs 0 0 Q (F0 m 136 ls [])) ?_ _ _ h _ _ _ hw (lv_sub hl [0] rfl)
        intro rc136 IH136 T_136 h H locs ls hw hl
        unfold bX5_nextToken_136 at h
        refine lv_aload_n hx hb dX5_nextToken_136 rfl (lv_at hl 0 rfl) ?_
        refine gMd (v := .int (T_136.1 2)) hx hb hts hiX5 hown hw 11 (by decide) (hts (.fieldLink RX5 187 "SecondHomeModel" "token" "I") (by decide +kernel)) rfl dX5_nextToken_137 ?_
        refine lv_iconst (v := 2) hx hb dX5_nextToken_140 (by decide) ?_
        refine lv_icmp_ne (tgt := 211) hx hb dX5_nextToken_141 (by decide) (fun c141 => ?_) (fun c141 => ?_)
        · replace h := o_f c141 h
          exact J211 T_136 _ _ _ hw (lv_sub hl [0] rfl) h
        · replace h := o_t c141 h
          refine lv_aload_n hx hb dX5_nextToken_144 rfl (lv_at hl 0 rfl) ?_
          refine lv_aload_n hx hb dX5_nextToken_145 rfl (lv_at hl 0 rfl) ?_
          refine gMd (v := .int (T_136.1 4)) hx hb hts hiX5 hown hw 13 (by decide) (hts (.fieldLink RX5 172 "SecondHomeModel" "to" "I") (by decide +kernel)) rfl dX5_nextToken_146 ?_
          obtain ⟨q149, eq149, h⟩ := o_bd h
          refine kV (As := [.int (T_136.1 4)]) (rest := []) (st' := [.int q149]) ⟨hx, hb, hml, hown, hts⟩ (kX5_byteAt l G eq149) (cwV 1 hts gX5_nextToken_X5_byteAt rfl rfl rfl qqX5_byteAt ⟨Nat.le_of_ble_eq_true rfl, Nat.le_of_ble_eq_true rfl⟩) hw (rvMd hw) rfl hl.1 rfl (Nat.le_of_ble_eq_true rfl) dX5_nextToken_149 ⟨Nat.zero_le _, Nat.zero_le _⟩ rfl (fun H locs hw => ?_)
          obtain ⟨q152, eq152, h⟩ := o_bd h
          refine kS (As := [.int q149]) (rest := []) (st' := [.int q152]) ⟨hx, hb, hml, hown, hts⟩ (kX5_isDigit l G eq152) (va_cwS 1 hts gX5_nextToken_X5_isDigit rfl rfl rfl qqX5_isDigit ⟨Nat.le_of_ble_eq_true rfl, Nat.le_of_ble_eq_true rfl⟩) hw rfl hl.1 rfl (Nat.le_of_ble_eq_true rfl) dX5_nextToken_152 ⟨Nat.zero_le _, Nat.zero_le _⟩ rfl (fun H locs hw => ?_)
          refine lv_if_eq (tgt := 211) hx hb dX5_nextToken_155 (by decide) (fun c155 => ?_) (fun c155 => ?_)
          · replace h := o_t c155 h
            exact J211 T_136 _ _ _ hw (lv_sub hl [0] rfl) h
          · replace h := o_f c155 h
            refine lv_aload_n hx hb dX5_nextToken_158 rfl (lv_at hl 0 rfl) ?_
            refine lv_aload_n hx hb dX5_nextToken_159 rfl (lv_at hl 0 rfl) ?_
            refine gMd (v := .int (T_136.1 5)) hx hb hts hiX5 hown hw 14 (by decide) (hts (.fieldLink RX5 190 "SecondHomeModel" "value" "I") (by decide +kernel)) rfl dX5_nextToken_160 ?_
            refine lv_sipush (v := 9999) hx hb dX5_nextToken_163 (by decide) ?_
            refine lv_icmp_le (tgt := 176) hx hb dX5_nextToken_166 (by decide) (fun c166 => ?_) (fun c166 => ?_)
            · replace h := o_t c166 h
              refine lv_bipush (v := 10) hx hb dX5_nextToken_176 (by decide) ?_
              refine lv_aload_n hx hb dX5_nextToken_178 rfl (lv_at hl 0 rfl) ?_
              refine gMd (v := .int (T_136.1 5)) hx hb hts hiX5 hown hw 14 (by decide) (hts (.fieldLink RX5 190 "SecondHomeModel" "value" "I") (by decide +kernel)) rfl dX5_nextToken_179 ?_
              refine lv_imul hx hb dX5_nextToken_182 ?_
              refine lv_aload_n hx hb dX5_nextToken_183 rfl (lv_at hl 0 rfl) ?_
              refine lv_aload_n hx hb dX5_nextToken_184 rfl (lv_at hl 0 rfl) ?_
              refine gMd (v := .int (T_136.1 4)) hx hb hts hiX5 hown hw 13 (by decide) (hts (.fieldLink RX5 172 "SecondHomeModel" "to" "I") (by decide +kernel)) rfl dX5_nextToken_185 ?_
              obtain ⟨q188, eq188, h⟩ := o_bd h
              refine kV (As := [.int (T_136.1 4)]) (rest := [.int ((10 : Int32) * (T_136.1 5)), .ref (sA G 9 0)]) (st' := [.int q188, .int ((10 : Int32) * (T_136.1 5)), .ref (sA G 9 0)]) ⟨hx, hb, hml, hown, hts⟩ (kX5_byteAt l G eq188) (cwV 1 hts gX5_nextToken_X5_byteAt rfl rfl rfl qqX5_byteAt ⟨Nat.le_of_ble_eq_true rfl, Nat.le_of_ble_eq_true rfl⟩) hw (rvMd hw) rfl hl.1 rfl (Nat.le_of_ble_eq_true rfl) dX5_nextToken_188 ⟨Nat.zero_le _, Nat.zero_le _⟩ rfl (fun H locs hw => ?_)
              refine lv_iadd hx hb dX5_nextToken_191 ?_
              refine lv_bipush (v := 48) hx hb dX5_nextToken_192 (by decide) ?_
              refine lv_isub hx hb dX5_nextToken_194 ?_
              refine pMd (ty := .int) hx hb hts hiX5 hown hw 14 5 (by decide) rfl rfl (by decide +kernel) rfl rfl (hts (.fieldLink RX5 190 "SecondHomeModel" "value" "I") (by decide +kernel)) dX5_nextToken_195 rfl (fun H locs hw => ?_)
              obtain ⟨M195, eM195, h⟩ := o_nm h
              rw [← eM195] at hw
              refine lv_aload_n hx hb dX5_nextToken_198 rfl (lv_at hl 0 rfl) ?_
              refine lv_dup hx hb dX5_nextToken_199 rfl ?_
              refine gMd (v := .int (M195.1 4)) hx hb hts hiX5 hown hw 13 (by decide) (hts (.fieldLink RX5 172 "SecondHomeModel" "to" "I") (by decide +kernel)) rfl dX5_nextToken_200 ?_
              refine lv_iconst (v := 1) hx hb dX5_nextToken_203 (by decide) ?_
              refine lv_iadd hx hb dX5_nextToken_204 ?_
              refine pMd (ty := .int) hx hb hts hiX5 hown hw 13 4 (by decide) rfl rfl (by decide +kernel) rfl rfl (hts (.fieldLink RX5 172 "SecondHomeModel" "to" "I") (by decide +kernel)) dX5_nextToken_205 rfl (fun H locs hw => ?_)
              obtain ⟨M205, eM205, h⟩ := o_nm h
              rw [← eM205] at hw
              refine lv_goto (tgt := 136) hx hb dX5_nextToken_208 (by decide) ?_
              exact IH136 M205 h _ _ _ hw (lv_sub hl [0] rfl)
            · replace h := o_f c166 h
              refine lv_aload_n hx hb dX5_nextToken_169 rfl (lv_at hl 0 rfl) ?_
              refine gMd (v := .int (T_136.1 5)) hx hb hts hiX5 hown hw 14 (by decide) (hts (.fieldLink RX5 190 "SecondHomeModel" "value" "I") (by decide +kernel)) rfl dX5_nextToken_170 ?_
              refine lv_goto (tgt := 195) hx hb dX5_nextToken_173 (by decide) ?_
              refine pMd (ty := .int) hx hb hts hiX5 hown hw 14 5 (by decide) rfl rfl (by decide +kernel) rfl rfl (hts (.fieldLink RX5 190 "SecondHomeModel" "value" "I") (by decide +kernel)) dX5_nextToken_195 rfl (fun H locs hw => ?_)
              obtain ⟨M195, eM195, h⟩ := o_nm h
              rw [← eM195] at hw
              refine lv_aload_n hx hb dX5_nextToken_198 rfl (lv_at hl 0 rfl) ?_
              refine lv_dup hx hb dX5_nextToken_199 rfl ?_
              refine gMd (v := .int (M195.1 4)) hx hb hts hiX5 hown hw 13 (by decide) (hts (.fieldLink RX5 172 "SecondHomeModel" "to" "I") (by decide +kernel)) rfl dX5_nextToken_200 ?_
              refine lv_iconst (v := 1) hx hb dX5_nextToken_203 (by decide) ?_
              refine lv_iadd hx hb dX5_nextToken_204 ?_
              refine pMd (ty := .int) hx hb hts hiX5 hown hw 13 4 (by decide) rfl rfl (by decide +kernel) rfl rfl (hts (.fieldLink RX5 172 "SecondHomeModel" "to" "I") (by decide +kernel)) dX5_nextToken_205 rfl (fun H locs hw => ?_)
              obtain ⟨M205, eM205, h⟩ := o_nm h
              rw [← eM205] at hw
              refine lv_goto (tgt := 136) hx hb dX5_nextToken_208 (by decide) ?_
              exact IH136 M205 h _ _ _ hw (lv_sub hl [0] rfl)
      refine fx1_w (F := (bX5_nextToken_101 k136)) (P := fun T_101 => ∀ (H : Heap) (locs : List Loc) (ls : Array Slot), sHw G s S T_101 H locs → lv_has ls 2 [(0, .ref (sA G 9 0))] → W p l e rmX5_nextToken s m args below meth c H locs 0 0 Q (F0 m 101 ls [])) ?_ _ _ h _ _ _ hw (lv_sub hl [0] rfl)
      intro rc101 IH101 T_101 h H locs ls hw hl
      unfold bX5_nextToken_101 at h
      refine lv_aload_n hx hb dX5_nextToken_101 rfl (lv_at hl 0 rfl) ?_
      refine gMd (v := .int (T_101.1 2)) hx hb hts hiX5 hown hw 11 (by decide) (hts (.fieldLink RX5 187 "SecondHomeModel" "token" "I") (by decide +kernel)) rfl dX5_nextToken_102 ?_
      refine lv_iconst (v := 1) hx hb dX5_nextToken_105 (by decide) ?_
      refine lv_icmp_ne (tgt := 136) hx hb dX5_nextToken_106 (by decide) (fun c106 => ?_) (fun c106 => ?_)
      · replace h := o_f c106 h
        exact J136 T_101 _ _ _ hw (lv_sub hl [0] rfl) h
      · replace h := o_t c106 h
        refine lv_aload_n hx hb dX5_nextToken_109 rfl (lv_at hl 0 rfl) ?_
        refine lv_aload_n hx hb dX5_nextToken_110 rfl (lv_at hl 0 rfl) ?_
        refine gMd (v := .int (T_101.1 4)) hx hb hts hiX5 hown hw 13 (by decide) (hts (.fieldLink RX5 172 "SecondHomeModel" "to" "I") (by decide +kernel)) rfl dX5_nextToken_111 ?_
        obtain ⟨q114, eq114, h⟩ := o_bd h
        refine kV (As := [.int (T_101.1 4)]) (rest := []) (st' := [.int q114]) ⟨hx, hb, hml, hown, hts⟩ (kX5_byteAt l G eq114) (cwV 1 hts gX5_nextToken_X5_byteAt rfl rfl rfl qqX5_byteAt ⟨Nat.le_of_ble_eq_true rfl, Nat.le_of_ble_eq_true rfl⟩) hw (rvMd hw) rfl hl.1 rfl (Nat.le_of_ble_eq_true rfl) dX5_nextToken_114 ⟨Nat.zero_le _, Nat.zero_le _⟩ rfl (fun H locs hw => ?_)
        obtain ⟨q117, eq117, h⟩ := o_bd h
        refine kS (As := [.int q114]) (rest := []) (st' := [.int q117]) ⟨hx, hb, hml, hown, hts⟩ (kX5_isLetter l G eq117) (va_cwS 1 hts gX5_nextToken_X5_isLetter rfl rfl rfl qqX5_isLetter ⟨Nat.le_of_ble_eq_true rfl, Nat.le_of_ble_eq_true rfl⟩) hw rfl hl.1 rfl (Nat.le_of_ble_eq_true rfl) dX5_nextToken_117 ⟨Nat.zero_le _, Nat.zero_le _⟩ rfl (fun H locs hw => ?_)
        refine lv_if_eq (tgt := 136) hx hb dX5_nextToken_120 (by decide) (fun c120 => ?_) (fun c120 => ?_)
        · replace h := o_t c120 h
          exact J136 T_101 _ _ _ hw (lv_sub hl [0] rfl) h
        · replace h := o_f c120 h
          refine lv_aload_n hx hb dX5_nextToken_123 rfl (lv_at hl 0 rfl) ?_
          refine lv_dup hx hb dX5_nextToken_124 rfl ?_
          refine gMd (v := .int (T_101.1 4)) hx hb hts hiX5 hown hw 13 (by decide) (hts (.fieldLink RX5 172 "SecondHomeModel" "to" "I") (by decide +kernel)) rfl dX5_nextToken_125 ?_
          refine lv_iconst (v := 1) hx hb dX5_nextToken_128 (by decide) ?_
          refine lv_iadd hx hb dX5_nextToken_129 ?_
          refine pMd (ty := .int) hx hb hts hiX5 hown hw 13 4 (by decide) rfl rfl (by decide +kernel) rfl rfl (hts (.fieldLink RX5 172 "SecondHomeModel" "to" "I") (by decide +kernel)) dX5_nextToken_130 rfl (fun H locs hw => ?_)
          obtain ⟨M130, eM130, h⟩ := o_nm h
          rw [← eM130] at hw
          refine lv_goto (tgt := 101) hx hb dX5_nextToken_133 (by decide) ?_
          exact IH101 M130 h _ _ _ hw (lv_sub hl [0] rfl)
    refine lv_if_ge (tgt := 60) hx hb dX5_nextToken_53 (by decide) (fun c53 => ?_) (fun c53 => ?_)
    · replace h := o_t c53 h
      refine lv_iload_n hx hb dX5_nextToken_60 rfl (lv_at hl 0 rfl) ?_
      obtain ⟨q61, eq61, h⟩ := o_bd h
      refine kS (As := [.int q47]) (rest := [.ref (sA G 9 0)]) (st' := [.int q61, .ref (sA G 9 0)]) ⟨hx, hb, hml, hown, hts⟩ (kX5_isLetter l G eq61) (va_cwS 1 hts gX5_nextToken_X5_isLetter rfl rfl rfl qqX5_isLetter ⟨Nat.le_of_ble_eq_true rfl, Nat.le_of_ble_eq_true rfl⟩) hw rfl hl.1 rfl (Nat.le_of_ble_eq_true rfl) dX5_nextToken_61 ⟨Nat.zero_le _, Nat.zero_le _⟩ rfl (fun H locs hw => ?_)
      refine lv_if_eq (tgt := 71) hx hb dX5_nextToken_64 (by decide) (fun c64 => ?_) (fun c64 => ?_)
      · replace h := o_t c64 h
        refine lv_iload_n hx hb dX5_nextToken_71 rfl (lv_at hl 0 rfl) ?_
        obtain ⟨q72, eq72, h⟩ := o_bd h
        refine kS (As := [.int q47]) (rest := [.ref (sA G 9 0)]) (st' := [.int q72, .ref (sA G 9 0)]) ⟨hx, hb, hml, hown, hts⟩ (kX5_isDigit l G eq72) (va_cwS 1 hts gX5_nextToken_X5_isDigit rfl rfl rfl qqX5_isDigit ⟨Nat.le_of_ble_eq_true rfl, Nat.le_of_ble_eq_true rfl⟩) hw rfl hl.1 rfl (Nat.le_of_ble_eq_true rfl) dX5_nextToken_72 ⟨Nat.zero_le _, Nat.zero_le _⟩ rfl (fun H locs hw => ?_)
        refine lv_if_eq (tgt := 82) hx hb dX5_nextToken_75 (by decide) (fun c75 => ?_) (fun c75 => ?_)
        · replace h := o_t c75 h
          refine lv_iload_n hx hb dX5_nextToken_82 rfl (lv_at hl 0 rfl) ?_
          refine lv_bipush (v := 59) hx hb dX5_nextToken_83 (by decide) ?_
          refine lv_icmp_ne (tgt := 92) hx hb dX5_nextToken_85 (by decide) (fun c85 => ?_) (fun c85 => ?_)
          · replace h := o_f c85 h
            refine lv_iconst (v := 4) hx hb dX5_nextToken_92 (by decide) ?_
            exact J93 (4 : Int32) _ _ _ hw (lv_sub hl [1] rfl) h
          · replace h := o_t c85 h
            refine lv_iconst (v := 3) hx hb dX5_nextToken_88 (by decide) ?_
            refine lv_goto (tgt := 93) hx hb dX5_nextToken_89 (by decide) ?_
            exact J93 (3 : Int32) _ _ _ hw (lv_sub hl [1] rfl) h
        · replace h := o_f c75 h
          refine lv_iconst (v := 2) hx hb dX5_nextToken_78 (by decide) ?_
          refine lv_goto (tgt := 93) hx hb dX5_nextToken_79 (by decide) ?_
          exact J93 (2 : Int32) _ _ _ hw (lv_sub hl [1] rfl) h
      · replace h := o_f c64 h
        refine lv_iconst (v := 1) hx hb dX5_nextToken_67 (by decide) ?_
        refine lv_goto (tgt := 93) hx hb dX5_nextToken_68 (by decide) ?_
        exact J93 (1 : Int32) _ _ _ hw (lv_sub hl [1] rfl) h
    · replace h := o_f c53 h
      refine lv_iconst (v := 0) hx hb dX5_nextToken_56 (by decide) ?_
      refine lv_goto (tgt := 93) hx hb dX5_nextToken_57 (by decide) ?_
      exact J93 (0 : Int32) _ _ _ hw (lv_sub hl [1] rfl) h
  refine fx1_w (F := (bX5_nextToken_8 k34)) (P := fun T_8 => ∀ (H : Heap) (locs : List Loc) (ls : Array Slot), sHw G s S T_8 H locs → lv_has ls 2 [(0, .ref (sA G 9 0))] → W p l e rmX5_nextToken s m args below meth c H locs 0 0 Q (F0 m 8 ls [])) ?_ _ _ h _ _ _ hw (lv_sub hl [0] rfl)
  intro rc8 IH8 T_8 h H locs ls hw hl
  unfold bX5_nextToken_8 at h
  refine lv_aload_n hx hb dX5_nextToken_8 rfl (lv_at hl 0 rfl) ?_
  refine lv_aload_n hx hb dX5_nextToken_9 rfl (lv_at hl 0 rfl) ?_
  refine gMd (v := .int (T_8.1 3)) hx hb hts hiX5 hown hw 12 (by decide) (hts (.fieldLink RX5 175 "SecondHomeModel" "from" "I") (by decide +kernel)) rfl dX5_nextToken_10 ?_
  obtain ⟨q13, eq13, h⟩ := o_bd h
  refine kV (As := [.int (T_8.1 3)]) (rest := []) (st' := [.int q13]) ⟨hx, hb, hml, hown, hts⟩ (kX5_byteAt l G eq13) (cwV 1 hts gX5_nextToken_X5_byteAt rfl rfl rfl qqX5_byteAt ⟨Nat.le_of_ble_eq_true rfl, Nat.le_of_ble_eq_true rfl⟩) hw (rvMd hw) rfl hl.1 rfl (Nat.le_of_ble_eq_true rfl) dX5_nextToken_13 ⟨Nat.zero_le _, Nat.zero_le _⟩ rfl (fun H locs hw => ?_)
  refine lv_bipush (v := 32) hx hb dX5_nextToken_16 (by decide) ?_
  refine lv_icmp_ne (tgt := 34) hx hb dX5_nextToken_18 (by decide) (fun c18 => ?_) (fun c18 => ?_)
  · replace h := o_f c18 h
    exact J34 T_8 _ _ _ hw (lv_sub hl [0] rfl) h
  · replace h := o_t c18 h
    refine lv_aload_n hx hb dX5_nextToken_21 rfl (lv_at hl 0 rfl) ?_
    refine lv_dup hx hb dX5_nextToken_22 rfl ?_
    refine gMd (v := .int (T_8.1 3)) hx hb hts hiX5 hown hw 12 (by decide) (hts (.fieldLink RX5 175 "SecondHomeModel" "from" "I") (by decide +kernel)) rfl dX5_nextToken_23 ?_
    refine lv_iconst (v := 1) hx hb dX5_nextToken_26 (by decide) ?_
    refine lv_iadd hx hb dX5_nextToken_27 ?_
    refine pMd (ty := .int) hx hb hts hiX5 hown hw 12 3 (by decide) rfl rfl (by decide +kernel) rfl rfl (hts (.fieldLink RX5 175 "SecondHomeModel" "from" "I") (by decide +kernel)) dX5_nextToken_28 rfl (fun H locs hw => ?_)
    obtain ⟨M28, eM28, h⟩ := o_nm h
    rw [← eM28] at hw
    refine lv_goto (tgt := 8) hx hb dX5_nextToken_31 (by decide) ?_
    exact IH8 M28 h _ _ _ hw (lv_sub hl [0] rfl)
-- X5_has3
def fX5_has3 (M : sOb) (a1 : Int32) (a2 : Int32) (a3 : Int32) (a4 : Int32) : Option Int32 :=
  (fX5_byteAt M ((M.1 3) + a1)).bind fun q7 => if q7 = a2 then ((fX5_byteAt M (((M.1 3) + a1) + (1 : Int32))).bind fun q23 => if q23 = a3 then ((fX5_byteAt M (((M.1 3) + a1) + (2 : Int32))).bind fun q39 => if q39 = a4 then (some (1 : Int32)) else (some (0 : Int32))) else (some (0 : Int32))) else (some (0 : Int32))
def rmX5_has3 : Room := { frames := 1, cells := 0, slots := 0, locals := 21 }
theorem qqX5_has3 : yX5_has3.cls = RX5 ∧ yX5_has3.cls ≠ "java/lang/invoke/MethodHandle" ∧ yX5_has3.cls ≠ "java/lang/invoke/VarHandle" ∧ (parseMethodDescriptor yX5_has3.desc).map (fun d => d.parameters.length) = some 4 := by decide +kernel
set_option maxRecDepth 100000 in
set_option maxHeartbeats 4000000 in
theorem kX5_has3 (l : Launch) (G : sGl) {S : sWo} {M : sOb} {a1 : Int32} {a2 : Int32} {a3 : Int32} {a4 : Int32} {q : Int32}  (h : fX5_has3 M a1 a2 a3 a4 = some q) : sCt l G yX5_has3 wsX5_has3 rmX5_has3 [.ref (sA G 9 0), .int a1, .int a2, .int a3, .int a4] S M (some (.int q)) S M := by
  refine cMk (cc := cX5_has3) (maxL := 5) (ret := (some .boolean)) (by decide) rfl (Nat.le_of_ble_eq_true rfl) ?_
  intro p e s m args below meth c Q hQ hx hb hr hlk hml hown hts hw ls hl
  have hown : s.vm.findClass RX5 = some m.cls := hown
  have hl : lv_has ls 5 [(0, .ref (sA G 9 0)), (1, .int a1), (2, .int a2), (3, .int a3), (4, .int a4)] := hl
  have hiX5 : ∀ w ∈ u_ws RX5 TX5 15, w ∈ wsX5_has3 := by decide +kernel
  unfold fX5_has3 at h
  refine lv_aload_n hx hb dX5_has3_0 rfl (lv_at hl 0 rfl) ?_
  refine lv_aload_n hx hb dX5_has3_1 rfl (lv_at hl 0 rfl) ?_
  refine gMd (v := .int (M.1 3)) hx hb hts hiX5 hown hw 12 (by decide) (hts (.fieldLink RX5 175 "SecondHomeModel" "from" "I") (by decide +kernel)) rfl dX5_has3_2 ?_
  refine lv_iload_n hx hb dX5_has3_5 rfl (lv_at hl 1 rfl) ?_
  refine lv_iadd hx hb dX5_has3_6 ?_
  obtain ⟨q7, eq7, h⟩ := o_bd h
  refine kV (As := [.int ((M.1 3) + a1)]) (rest := []) (st' := [.int q7]) ⟨hx, hb, hml, hown, hts⟩ (kX5_byteAt l G eq7) (cwV 1 hts gX5_has3_X5_byteAt rfl rfl rfl qqX5_byteAt ⟨Nat.le_of_ble_eq_true rfl, Nat.le_of_ble_eq_true rfl⟩) hw (rvMd hw) rfl hl.1 rfl (Nat.le_of_ble_eq_true rfl) dX5_has3_7 ⟨Nat.zero_le _, Nat.zero_le _⟩ rfl (fun H locs hw => ?_)
  refine lv_iload_n hx hb dX5_has3_10 rfl (lv_at hl 2 rfl) ?_
  refine lv_icmp_ne (tgt := 51) hx hb dX5_has3_11 (by decide) (fun c11 => ?_) (fun c11 => ?_)
  · replace h := o_f c11 h
    refine lv_iconst (v := 0) hx hb dX5_has3_51 (by decide) ?_
    exact rZ hQ hx hb hr hlk hw (Or.inl rfl) dX5_has3_52 (o_1 h) rfl rfl
  · replace h := o_t c11 h
    refine lv_aload_n hx hb dX5_has3_14 rfl (lv_at hl 0 rfl) ?_
    refine lv_aload_n hx hb dX5_has3_15 rfl (lv_at hl 0 rfl) ?_
    refine gMd (v := .int (M.1 3)) hx hb hts hiX5 hown hw 12 (by decide) (hts (.fieldLink RX5 175 "SecondHomeModel" "from" "I") (by decide +kernel)) rfl dX5_has3_16 ?_
    refine lv_iload_n hx hb dX5_has3_19 rfl (lv_at hl 1 rfl) ?_
    refine lv_iadd hx hb dX5_has3_20 ?_
    refine lv_iconst (v := 1) hx hb dX5_has3_21 (by decide) ?_
    refine lv_iadd hx hb dX5_has3_22 ?_
    obtain ⟨q23, eq23, h⟩ := o_bd h
    refine kV (As := [.int (((M.1 3) + a1) + (1 : Int32))]) (rest := []) (st' := [.int q23]) ⟨hx, hb, hml, hown, hts⟩ (kX5_byteAt l G eq23) (cwV 1 hts gX5_has3_X5_byteAt rfl rfl rfl qqX5_byteAt ⟨Nat.le_of_ble_eq_true rfl, Nat.le_of_ble_eq_true rfl⟩) hw (rvMd hw) rfl hl.1 rfl (Nat.le_of_ble_eq_true rfl) dX5_has3_23 ⟨Nat.zero_le _, Nat.zero_le _⟩ rfl (fun H locs hw => ?_)
    refine lv_iload_n hx hb dX5_has3_26 rfl (lv_at hl 3 rfl) ?_
    refine lv_icmp_ne (tgt := 51) hx hb dX5_has3_27 (by decide) (fun c27 => ?_) (fun c27 => ?_)
    · replace h := o_f c27 h
      refine lv_iconst (v := 0) hx hb dX5_has3_51 (by decide) ?_
      exact rZ hQ hx hb hr hlk hw (Or.inl rfl) dX5_has3_52 (o_1 h) rfl rfl
    · replace h := o_t c27 h
      refine lv_aload_n hx hb dX5_has3_30 rfl (lv_at hl 0 rfl) ?_
      refine lv_aload_n hx hb dX5_has3_31 rfl (lv_at hl 0 rfl) ?_
      refine gMd (v := .int (M.1 3)) hx hb hts hiX5 hown hw 12 (by decide) (hts (.fieldLink RX5 175 "SecondHomeModel" "from" "I") (by decide +kernel)) rfl dX5_has3_32 ?_
      refine lv_iload_n hx hb dX5_has3_35 rfl (lv_at hl 1 rfl) ?_
      refine lv_iadd hx hb dX5_has3_36 ?_
      refine lv_iconst (v := 2) hx hb dX5_has3_37 (by decide) ?_
      refine lv_iadd hx hb dX5_has3_38 ?_
      obtain ⟨q39, eq39, h⟩ := o_bd h
      refine kV (As := [.int (((M.1 3) + a1) + (2 : Int32))]) (rest := []) (st' := [.int q39]) ⟨hx, hb, hml, hown, hts⟩ (kX5_byteAt l G eq39) (cwV 1 hts gX5_has3_X5_byteAt rfl rfl rfl qqX5_byteAt ⟨Nat.le_of_ble_eq_true rfl, Nat.le_of_ble_eq_true rfl⟩) hw (rvMd hw) rfl hl.1 rfl (Nat.le_of_ble_eq_true rfl) dX5_has3_39 ⟨Nat.zero_le _, Nat.zero_le _⟩ rfl (fun H locs hw => ?_)
      refine lv_iload hx hb dX5_has3_42 (lv_at hl 4 rfl) ?_
      refine lv_icmp_ne (tgt := 51) hx hb dX5_has3_44 (by decide) (fun c44 => ?_) (fun c44 => ?_)
      · replace h := o_f c44 h
        refine lv_iconst (v := 0) hx hb dX5_has3_51 (by decide) ?_
        exact rZ hQ hx hb hr hlk hw (Or.inl rfl) dX5_has3_52 (o_1 h) rfl rfl
      · replace h := o_t c44 h
        refine lv_iconst (v := 1) hx hb dX5_has3_47 (by decide) ?_
        refine lv_goto (tgt := 52) hx hb dX5_has3_48 (by decide) ?_
        exact rZ hQ hx hb hr hlk hw (Or.inr rfl) dX5_has3_52 (o_1 h) rfl rfl
-- X5_isWord
def fX5_isWord (M : sOb) (a1 : Int32) : Option Int32 :=
  if (M.1 2) = (1 : Int32) then (if ((M.1 4) - (M.1 3)) = a1 then (some (1 : Int32)) else (some (0 : Int32))) else (some (0 : Int32))
def rmX5_isWord : Room := { frames := 0, cells := 0, slots := 0, locals := 0 }
theorem qqX5_isWord : yX5_isWord.cls = RX5 ∧ yX5_isWord.cls ≠ "java/lang/invoke/MethodHandle" ∧ yX5_isWord.cls ≠ "java/lang/invoke/VarHandle" ∧ (parseMethodDescriptor yX5_isWord.desc).map (fun d => d.parameters.length) = some 1 := by decide +kernel
set_option maxRecDepth 100000 in
set_option maxHeartbeats 4000000 in
theorem kX5_isWord (l : Launch) (G : sGl) {S : sWo} {M : sOb} {a1 : Int32} {q : Int32}  (h : fX5_isWord M a1 = some q) : sCt l G yX5_isWord wsX5_isWord rmX5_isWord [.ref (sA G 9 0), .int a1] S M (some (.int q)) S M := by
  refine cMk (cc := cX5_isWord) (maxL := 2) (ret := (some .boolean)) (by decide) rfl (Nat.le_of_ble_eq_true rfl) ?_
  intro p e s m args below meth c Q hQ hx hb hr hlk hml hown hts hw ls hl
  have hown : s.vm.findClass RX5 = some m.cls := hown
  have hl : lv_has ls 2 [(0, .ref (sA G 9 0)), (1, .int a1)] := hl
  have hiX5 : ∀ w ∈ u_ws RX5 TX5 15, w ∈ wsX5_isWord := by decide +kernel
  unfold fX5_isWord at h
  refine lv_aload_n hx hb dX5_isWord_0 rfl (lv_at hl 0 rfl) ?_
  refine gMd (v := .int (M.1 2)) hx hb hts hiX5 hown hw 11 (by decide) (hts (.fieldLink RX5 187 "SecondHomeModel" "token" "I") (by decide +kernel)) rfl dX5_isWord_1 ?_
  refine lv_iconst (v := 1) hx hb dX5_isWord_4 (by decide) ?_
  refine lv_icmp_ne (tgt := 25) hx hb dX5_isWord_5 (by decide) (fun c5 => ?_) (fun c5 => ?_)
  · replace h := o_f c5 h
    refine lv_iconst (v := 0) hx hb dX5_isWord_25 (by decide) ?_
    exact rZ hQ hx hb hr hlk hw (Or.inl rfl) dX5_isWord_26 (o_1 h) rfl rfl
  · replace h := o_t c5 h
    refine lv_aload_n hx hb dX5_isWord_8 rfl (lv_at hl 0 rfl) ?_
    refine gMd (v := .int (M.1 4)) hx hb hts hiX5 hown hw 13 (by decide) (hts (.fieldLink RX5 172 "SecondHomeModel" "to" "I") (by decide +kernel)) rfl dX5_isWord_9 ?_
    refine lv_aload_n hx hb dX5_isWord_12 rfl (lv_at hl 0 rfl) ?_
    refine gMd (v := .int (M.1 3)) hx hb hts hiX5 hown hw 12 (by decide) (hts (.fieldLink RX5 175 "SecondHomeModel" "from" "I") (by decide +kernel)) rfl dX5_isWord_13 ?_
    refine lv_isub hx hb dX5_isWord_16 ?_
    refine lv_iload_n hx hb dX5_isWord_17 rfl (lv_at hl 1 rfl) ?_
    refine lv_icmp_ne (tgt := 25) hx hb dX5_isWord_18 (by decide) (fun c18 => ?_) (fun c18 => ?_)
    · replace h := o_f c18 h
      refine lv_iconst (v := 0) hx hb dX5_isWord_25 (by decide) ?_
      exact rZ hQ hx hb hr hlk hw (Or.inl rfl) dX5_isWord_26 (o_1 h) rfl rfl
    · replace h := o_t c18 h
      refine lv_iconst (v := 1) hx hb dX5_isWord_21 (by decide) ?_
      refine lv_goto (tgt := 26) hx hb dX5_isWord_22 (by decide) ?_
      exact rZ hQ hx hb hr hlk hw (Or.inr rfl) dX5_isWord_26 (o_1 h) rfl rfl
-- X5_kindNamed
def fX5_kindNamed (M : sOb) : Option Int32 :=
  (fX5_isWord M (6 : Int32)).bind fun q3 => nm ((fX5_isWord M (6 : Int32)).bind fun q42 => nm ((fX5_isWord M (6 : Int32)).bind fun q81 => nm ((fX5_isWord M (6 : Int32)).bind fun q120 => nm ((fX5_isWord M (8 : Int32)).bind fun q159 => nm ((fX5_isWord M (5 : Int32)).bind fun q211 => if q211 = 0 then (some (-1 : Int32)) else ((fX5_has3 M (0 : Int32) (105 : Int32) (100 : Int32) (108 : Int32)).bind fun q225 => if q225 = 0 then (some (-1 : Int32)) else ((fX5_has3 M (2 : Int32) (108 : Int32) (101 : Int32) (114 : Int32)).bind fun q239 => if q239 = 0 then (some (-1 : Int32)) else (some (5 : Int32))))) fun k209 => if q159 = 0 then k209 else ((fX5_has3 M (0 : Int32) (115 : Int32) (112 : Int32) (114 : Int32)).bind fun q173 => if q173 = 0 then k209 else ((fX5_has3 M (3 : Int32) (105 : Int32) (110 : Int32) (116 : Int32)).bind fun q187 => if q187 = 0 then k209 else ((fX5_has3 M (5 : Int32) (116 : Int32) (101 : Int32) (114 : Int32)).bind fun q201 => if q201 = 0 then k209 else (some (4 : Int32)))))) fun k156 => if q120 = 0 then k156 else ((fX5_has3 M (0 : Int32) (104 : Int32) (101 : Int32) (108 : Int32)).bind fun q134 => if q134 = 0 then k156 else ((fX5_has3 M (3 : Int32) (112 : Int32) (101 : Int32) (114 : Int32)).bind fun q148 => if q148 = 0 then k156 else (some (3 : Int32))))) fun k117 => if q81 = 0 then k117 else ((fX5_has3 M (0 : Int32) (107 : Int32) (101 : Int32) (101 : Int32)).bind fun q95 => if q95 = 0 then k117 else ((fX5_has3 M (3 : Int32) (112 : Int32) (101 : Int32) (114 : Int32)).bind fun q109 => if q109 = 0 then k117 else (some (2 : Int32))))) fun k78 => if q42 = 0 then k78 else ((fX5_has3 M (0 : Int32) (104 : Int32) (111 : Int32) (108 : Int32)).bind fun q56 => if q56 = 0 then k78 else ((fX5_has3 M (3 : Int32) (100 : Int32) (101 : Int32) (114 : Int32)).bind fun q70 => if q70 = 0 then k78 else (some (1 : Int32))))) fun k39 => if q3 = 0 then k39 else ((fX5_has3 M (0 : Int32) (114 : Int32) (117 : Int32) (110 : Int32)).bind fun q17 => if q17 = 0 then k39 else ((fX5_has3 M (3 : Int32) (110 : Int32) (101 : Int32) (114 : Int32)).bind fun q31 => if q31 = 0 then k39 else (some (0 : Int32))))
def rmX5_kindNamed : Room := { frames := 2, cells := 0, slots := 0, locals := 45 }
theorem qqX5_kindNamed : yX5_kindNamed.cls = RX5 ∧ yX5_kindNamed.cls ≠ "java/lang/invoke/MethodHandle" ∧ yX5_kindNamed.cls ≠ "java/lang/invoke/VarHandle" ∧ (parseMethodDescriptor yX5_kindNamed.desc).map (fun d => d.parameters.length) = some 0 := by decide +kernel
set_option maxRecDepth 100000 in
set_option maxHeartbeats 4000000 in
theorem kX5_kindNamed (l : Launch) (G : sGl) {S : sWo} {M : sOb}  {q : Int32}  (h : fX5_kindNamed M = some q) : sCt l G yX5_kindNamed wsX5_kindNamed rmX5_kindNamed [.ref (sA G 9 0)] S M (some (.int q)) S M := by
  refine cMk (cc := cX5_kindNamed) (maxL := 1) (ret := (some .int)) (by decide) rfl (Nat.le_of_ble_eq_true rfl) ?_
  intro p e s m args below meth c Q hQ hx hb hr hlk hml hown hts hw ls hl
  have hown : s.vm.findClass RX5 = some m.cls := hown
  have hl : lv_has ls 1 [(0, .ref (sA G 9 0))] := hl
  unfold fX5_kindNamed at h
  refine lv_aload_n hx hb dX5_kindNamed_0 rfl (lv_at hl 0 rfl) ?_
  refine lv_bipush (v := 6) hx hb dX5_kindNamed_1 (by decide) ?_
  obtain ⟨q3, eq3, h⟩ := o_bd h
  refine kV (As := [.int (6 : Int32)]) (rest := []) (st' := [.int q3]) ⟨hx, hb, hml, hown, hts⟩ (kX5_isWord l G eq3) (cwV 1 hts gX5_kindNamed_X5_isWord rfl rfl rfl qqX5_isWord ⟨Nat.le_of_ble_eq_true rfl, Nat.le_of_ble_eq_true rfl⟩) hw (rvMd hw) rfl hl.1 rfl (Nat.le_of_ble_eq_true rfl) dX5_kindNamed_3 ⟨Nat.zero_le _, Nat.zero_le _⟩ rfl (fun H locs hw => ?_)
  obtain ⟨k39, ek39, h⟩ := o_nm h
  have J39 : ∀ (H : Heap) (locs : List Loc) (ls : Array Slot), sHw G s S M H locs → lv_has ls 1 [(0, .ref (sA G 9 0))] → k39 = some q → W p l e rmX5_kindNamed s m args below meth c H locs 0 0 Q (F0 m 39 ls []) := by
    intro H locs ls hw hl h
    replace h := o_j0 ek39 h
    refine lv_aload_n hx hb dX5_kindNamed_39 rfl (lv_at hl 0 rfl) ?_
    refine lv_bipush (v := 6) hx hb dX5_kindNamed_40 (by decide) ?_
    obtain ⟨q42, eq42, h⟩ := o_bd h
    refine kV (As := [.int (6 : Int32)]) (rest := []) (st' := [.int q42]) ⟨hx, hb, hml, hown, hts⟩ (kX5_isWord l G eq42) (cwV 1 hts gX5_kindNamed_X5_isWord rfl rfl rfl qqX5_isWord ⟨Nat.le_of_ble_eq_true rfl, Nat.le_of_ble_eq_true rfl⟩) hw (rvMd hw) rfl hl.1 rfl (Nat.le_of_ble_eq_true rfl) dX5_kindNamed_42 ⟨Nat.zero_le _, Nat.zero_le _⟩ rfl (fun H locs hw => ?_)
    obtain ⟨k78, ek78, h⟩ := o_nm h
    have J78 : ∀ (H : Heap) (locs : List Loc) (ls : Array Slot), sHw G s S M H locs → lv_has ls 1 [(0, .ref (sA G 9 0))] → k78 = some q → W p l e rmX5_kindNamed s m args below meth c H locs 0 0 Q (F0 m 78 ls []) := by
      intro H locs ls hw hl h
      replace h := o_j0 ek78 h
      refine lv_aload_n hx hb dX5_kindNamed_78 rfl (lv_at hl 0 rfl) ?_
      refine lv_bipush (v := 6) hx hb dX5_kindNamed_79 (by decide) ?_
      obtain ⟨q81, eq81, h⟩ := o_bd h
      refine kV (As := [.int (6 : Int32)]) (rest := []) (st' := [.int q81]) ⟨hx, hb, hml, hown, hts⟩ (kX5_isWord l G eq81) (cwV 1 hts gX5_kindNamed_X5_isWord rfl rfl rfl qqX5_isWord ⟨Nat.le_of_ble_eq_true rfl, Nat.le_of_ble_eq_true rfl⟩) hw (rvMd hw) rfl hl.1 rfl (Nat.le_of_ble_eq_true rfl) dX5_kindNamed_81 ⟨Nat.zero_le _, Nat.zero_le _⟩ rfl (fun H locs hw => ?_)
      obtain ⟨k117, ek117, h⟩ := o_nm h
      have J117 : ∀ (H : Heap) (locs : List Loc) (ls : Array Slot), sHw G s S M H locs → lv_has ls 1 [(0, .ref (sA G 9 0))] → k117 = some q → W p l e rmX5_kindNamed s m args below meth c H locs 0 0 Q (F0 m 117 ls []) := by
        intro H locs ls hw hl h
        replace h := o_j0 ek117 h
        refine lv_aload_n hx hb dX5_kindNamed_117 rfl (lv_at hl 0 rfl) ?_
        refine lv_bipush (v := 6) hx hb dX5_kindNamed_118 (by decide) ?_
        obtain ⟨q120, eq120, h⟩ := o_bd h
        refine kV (As := [.int (6 : Int32)]) (rest := []) (st' := [.int q120]) ⟨hx, hb, hml, hown, hts⟩ (kX5_isWord l G eq120) (cwV 1 hts gX5_kindNamed_X5_isWord rfl rfl rfl qqX5_isWord ⟨Nat.le_of_ble_eq_true rfl, Nat.le_of_ble_eq_true rfl⟩) hw (rvMd hw) rfl hl.1 rfl (Nat.le_of_ble_eq_true rfl) dX5_kindNamed_120 ⟨Nat.zero_le _, Nat.zero_le _⟩ rfl (fun H locs hw => ?_)
        obtain ⟨k156, ek156, h⟩ := o_nm h
        have J156 : ∀ (H : Heap) (locs : List Loc) (ls : Array Slot), sHw G s S M H locs → lv_has ls 1 [(0, .ref (sA G 9 0))] → k156 = some q → W p l e rmX5_kindNamed s m args below meth c H locs 0 0 Q (F0 m 156 ls []) := by
          intro H locs ls hw hl h
          replace h := o_j0 ek156 h
          refine lv_aload_n hx hb dX5_kindNamed_156 rfl (lv_at hl 0 rfl) ?_
          refine lv_bipush (v := 8) hx hb dX5_kindNamed_157 (by decide) ?_
          obtain ⟨q159, eq159, h⟩ := o_bd h
          refine kV (As := [.int (8 : Int32)]) (rest := []) (st' := [.int q159]) ⟨hx, hb, hml, hown, hts⟩ (kX5_isWord l G eq159) (cwV 1 hts gX5_kindNamed_X5_isWord rfl rfl rfl qqX5_isWord ⟨Nat.le_of_ble_eq_true rfl, Nat.le_of_ble_eq_true rfl⟩) hw (rvMd hw) rfl hl.1 rfl (Nat.le_of_ble_eq_true rfl) dX5_kindNamed_159 ⟨Nat.zero_le _, Nat.zero_le _⟩ rfl (fun H locs hw => ?_)
          obtain ⟨k209, ek209, h⟩ := o_nm h
          have J209 : ∀ (H : Heap) (locs : List Loc) (ls : Array Slot), sHw G s S M H locs → lv_has ls 1 [(0, .ref (sA G 9 0))] → k209 = some q → W p l e rmX5_kindNamed s m args below meth c H locs 0 0 Q (F0 m 209 ls []) := by
            intro H locs ls hw hl h
            replace h := o_j0 ek209 h
            refine lv_aload_n hx hb dX5_kindNamed_209 rfl (lv_at hl 0 rfl) ?_
            refine lv_iconst (v := 5) hx hb dX5_kindNamed_210 (by decide) ?_
            obtain ⟨q211, eq211, h⟩ := o_bd h
            refine kV (As := [.int (5 : Int32)]) (rest := []) (st' := [.int q211]) ⟨hx, hb, hml, hown, hts⟩ (kX5_isWord l G eq211) (cwV 1 hts gX5_kindNamed_X5_isWord rfl rfl rfl qqX5_isWord ⟨Nat.le_of_ble_eq_true rfl, Nat.le_of_ble_eq_true rfl⟩) hw (rvMd hw) rfl hl.1 rfl (Nat.le_of_ble_eq_true rfl) dX5_kindNamed_211 ⟨Nat.zero_le _, Nat.zero_le _⟩ rfl (fun H locs hw => ?_)
            refine lv_if_eq (tgt := 249) hx hb dX5_kindNamed_214 (by decide) (fun c214 => ?_) (fun c214 => ?_)
            · replace h := o_t c214 h
              refine lv_iconst (v := -1) hx hb dX5_kindNamed_249 (by decide) ?_
              exact rI hQ hx hb hr hlk hw dX5_kindNamed_250 (o_1 h) rfl rfl
            · replace h := o_f c214 h
              refine lv_aload_n hx hb dX5_kindNamed_217 rfl (lv_at hl 0 rfl) ?_
              refine lv_iconst (v := 0) hx hb dX5_kindNamed_218 (by decide) ?_
              refine lv_bipush (v := 105) hx hb dX5_kindNamed_219 (by decide) ?_
              refine lv_bipush (v := 100) hx hb dX5_kindNamed_221 (by decide) ?_
              refine lv_bipush (v := 108) hx hb dX5_kindNamed_223 (by decide) ?_
              obtain ⟨q225, eq225, h⟩ := o_bd h
              refine kV (As := [.int (0 : Int32), .int (105 : Int32), .int (100 : Int32), .int (108 : Int32)]) (rest := []) (st' := [.int q225]) ⟨hx, hb, hml, hown, hts⟩ (kX5_has3 l G eq225) (cwV 4 hts gX5_kindNamed_X5_has3 rfl rfl rfl qqX5_has3 ⟨Nat.le_of_ble_eq_true rfl, Nat.le_of_ble_eq_true rfl⟩) hw (rvMd hw) rfl hl.1 rfl (Nat.le_of_ble_eq_true rfl) dX5_kindNamed_225 ⟨Nat.zero_le _, Nat.zero_le _⟩ rfl (fun H locs hw => ?_)
              refine lv_if_eq (tgt := 249) hx hb dX5_kindNamed_228 (by decide) (fun c228 => ?_) (fun c228 => ?_)
              · replace h := o_t c228 h
                refine lv_iconst (v := -1) hx hb dX5_kindNamed_249 (by decide) ?_
                exact rI hQ hx hb hr hlk hw dX5_kindNamed_250 (o_1 h) rfl rfl
              · replace h := o_f c228 h
                refine lv_aload_n hx hb dX5_kindNamed_231 rfl (lv_at hl 0 rfl) ?_
                refine lv_iconst (v := 2) hx hb dX5_kindNamed_232 (by decide) ?_
                refine lv_bipush (v := 108) hx hb dX5_kindNamed_233 (by decide) ?_
                refine lv_bipush (v := 101) hx hb dX5_kindNamed_235 (by decide) ?_
                refine lv_bipush (v := 114) hx hb dX5_kindNamed_237 (by decide) ?_
                obtain ⟨q239, eq239, h⟩ := o_bd h
                refine kV (As := [.int (2 : Int32), .int (108 : Int32), .int (101 : Int32), .int (114 : Int32)]) (rest := []) (st' := [.int q239]) ⟨hx, hb, hml, hown, hts⟩ (kX5_has3 l G eq239) (cwV 4 hts gX5_kindNamed_X5_has3 rfl rfl rfl qqX5_has3 ⟨Nat.le_of_ble_eq_true rfl, Nat.le_of_ble_eq_true rfl⟩) hw (rvMd hw) rfl hl.1 rfl (Nat.le_of_ble_eq_true rfl) dX5_kindNamed_239 ⟨Nat.zero_le _, Nat.zero_le _⟩ rfl (fun H locs hw => ?_)
                refine lv_if_eq (tgt := 249) hx hb dX5_kindNamed_242 (by decide) (fun c242 => ?_) (fun c242 => ?_)
                · replace h := o_t c242 h
                  refine lv_iconst (v := -1) hx hb dX5_kindNamed_249 (by decide) ?_
                  exact rI hQ hx hb hr hlk hw dX5_kindNamed_250 (o_1 h) rfl rfl
                · replace h := o_f c242 h
                  refine lv_iconst (v := 5) hx hb dX5_kindNamed_245 (by decide) ?_
                  refine lv_goto (tgt := 250) hx hb dX5_kindNamed_246 (by decide) ?_
                  exact rI hQ hx hb hr hlk hw dX5_kindNamed_250 (o_1 h) rfl rfl
          refine lv_if_eq (tgt := 209) hx hb dX5_kindNamed_162 (by decide) (fun c162 => ?_) (fun c162 => ?_)
          · replace h := o_t c162 h
            exact J209 _ _ _ hw (lv_sub hl [0] rfl) h
          · replace h := o_f c162 h
            refine lv_aload_n hx hb dX5_kindNamed_165 rfl (lv_at hl 0 rfl) ?_
            refine lv_iconst (v := 0) hx hb dX5_kindNamed_166 (by decide) ?_
            refine lv_bipush (v := 115) hx hb dX5_kindNamed_167 (by decide) ?_
            refine lv_bipush (v := 112) hx hb dX5_kindNamed_169 (by decide) ?_
            refine lv_bipush (v := 114) hx hb dX5_kindNamed_171 (by decide) ?_
            obtain ⟨q173, eq173, h⟩ := o_bd h
            refine kV (As := [.int (0 : Int32), .int (115 : Int32), .int (112 : Int32), .int (114 : Int32)]) (rest := []) (st' := [.int q173]) ⟨hx, hb, hml, hown, hts⟩ (kX5_has3 l G eq173) (cwV 4 hts gX5_kindNamed_X5_has3 rfl rfl rfl qqX5_has3 ⟨Nat.le_of_ble_eq_true rfl, Nat.le_of_ble_eq_true rfl⟩) hw (rvMd hw) rfl hl.1 rfl (Nat.le_of_ble_eq_true rfl) dX5_kindNamed_173 ⟨Nat.zero_le _, Nat.zero_le _⟩ rfl (fun H locs hw => ?_)
            refine lv_if_eq (tgt := 209) hx hb dX5_kindNamed_176 (by decide) (fun c176 => ?_) (fun c176 => ?_)
            · replace h := o_t c176 h
              exact J209 _ _ _ hw (lv_sub hl [0] rfl) h
            · replace h := o_f c176 h
              refine lv_aload_n hx hb dX5_kindNamed_179 rfl (lv_at hl 0 rfl) ?_
              refine lv_iconst (v := 3) hx hb dX5_kindNamed_180 (by decide) ?_
              refine lv_bipush (v := 105) hx hb dX5_kindNamed_181 (by decide) ?_
              refine lv_bipush (v := 110) hx hb dX5_kindNamed_183 (by decide) ?_
              refine lv_bipush (v := 116) hx hb dX5_kindNamed_185 (by decide) ?_
              obtain ⟨q187, eq187, h⟩ := o_bd h
              refine kV (As := [.int (3 : Int32), .int (105 : Int32), .int (110 : Int32), .int (116 : Int32)]) (rest := []) (st' := [.int q187]) ⟨hx, hb, hml, hown, hts⟩ (kX5_has3 l G eq187) (cwV 4 hts gX5_kindNamed_X5_has3 rfl rfl rfl qqX5_has3 ⟨Nat.le_of_ble_eq_true rfl, Nat.le_of_ble_eq_true rfl⟩) hw (rvMd hw) rfl hl.1 rfl (Nat.le_of_ble_eq_true rfl) dX5_kindNamed_187 ⟨Nat.zero_le _, Nat.zero_le _⟩ rfl (fun H locs hw => ?_)
              refine lv_if_eq (tgt := 209) hx hb dX5_kindNamed_190 (by decide) (fun c190 => ?_) (fun c190 => ?_)
              · replace h := o_t c190 h
                exact J209 _ _ _ hw (lv_sub hl [0] rfl) h
              · replace h := o_f c190 h
                refine lv_aload_n hx hb dX5_kindNamed_193 rfl (lv_at hl 0 rfl) ?_
                refine lv_iconst (v := 5) hx hb dX5_kindNamed_194 (by decide) ?_
                refine lv_bipush (v := 116) hx hb dX5_kindNamed_195 (by decide) ?_
                refine lv_bipush (v := 101) hx hb dX5_kindNamed_197 (by decide) ?_
                refine lv_bipush (v := 114) hx hb dX5_kindNamed_199 (by decide) ?_
                obtain ⟨q201, eq201, h⟩ := o_bd h
                refine kV (As := [.int (5 : Int32), .int (116 : Int32), .int (101 : Int32), .int (114 : Int32)]) (rest := []) (st' := [.int q201]) ⟨hx, hb, hml, hown, hts⟩ (kX5_has3 l G eq201) (cwV 4 hts gX5_kindNamed_X5_has3 rfl rfl rfl qqX5_has3 ⟨Nat.le_of_ble_eq_true rfl, Nat.le_of_ble_eq_true rfl⟩) hw (rvMd hw) rfl hl.1 rfl (Nat.le_of_ble_eq_true rfl) dX5_kindNamed_201 ⟨Nat.zero_le _, Nat.zero_le _⟩ rfl (fun H locs hw => ?_)
                refine lv_if_eq (tgt := 209) hx hb dX5_kindNamed_204 (by decide) (fun c204 => ?_) (fun c204 => ?_)
                · replace h := o_t c204 h
                  exact J209 _ _ _ hw (lv_sub hl [0] rfl) h
                · replace h := o_f c204 h
                  refine lv_iconst (v := 4) hx hb dX5_kindNamed_207 (by decide) ?_
                  exact rI hQ hx hb hr hlk hw dX5_kindNamed_208 (o_1 h) rfl rfl
        refine lv_if_eq (tgt := 156) hx hb dX5_kindNamed_123 (by decide) (fun c123 => ?_) (fun c123 => ?_)
        · replace h := o_t c123 h
          exact J156 _ _ _ hw (lv_sub hl [0] rfl) h
        · replace h := o_f c123 h
          refine lv_aload_n hx hb dX5_kindNamed_126 rfl (lv_at hl 0 rfl) ?_
          refine lv_iconst (v := 0) hx hb dX5_kindNamed_127 (by decide) ?_
          refine lv_bipush (v := 104) hx hb dX5_kindNamed_128 (by decide) ?_
          refine lv_bipush (v := 101) hx hb dX5_kindNamed_130 (by decide) ?_
          refine lv_bipush (v := 108) hx hb dX5_kindNamed_132 (by decide) ?_
          obtain ⟨q134, eq134, h⟩ := o_bd h
          refine kV (As := [.int (0 : Int32), .int (104 : Int32), .int (101 : Int32), .int (108 : Int32)]) (rest := []) (st' := [.int q134]) ⟨hx, hb, hml, hown, hts⟩ (kX5_has3 l G eq134) (cwV 4 hts gX5_kindNamed_X5_has3 rfl rfl rfl qqX5_has3 ⟨Nat.le_of_ble_eq_true rfl, Nat.le_of_ble_eq_true rfl⟩) hw (rvMd hw) rfl hl.1 rfl (Nat.le_of_ble_eq_true rfl) dX5_kindNamed_134 ⟨Nat.zero_le _, Nat.zero_le _⟩ rfl (fun H locs hw => ?_)
          refine lv_if_eq (tgt := 156) hx hb dX5_kindNamed_137 (by decide) (fun c137 => ?_) (fun c137 => ?_)
          · replace h := o_t c137 h
            exact J156 _ _ _ hw (lv_sub hl [0] rfl) h
          · replace h := o_f c137 h
            refine lv_aload_n hx hb dX5_kindNamed_140 rfl (lv_at hl 0 rfl) ?_
            refine lv_iconst (v := 3) hx hb dX5_kindNamed_141 (by decide) ?_
            refine lv_bipush (v := 112) hx hb dX5_kindNamed_142 (by decide) ?_
            refine lv_bipush (v := 101) hx hb dX5_kindNamed_144 (by decide) ?_
            refine lv_bipush (v := 114) hx hb dX5_kindNamed_146 (by decide) ?_
            obtain ⟨q148, eq148, h⟩ := o_bd h
            refine kV (As := [.int (3 : Int32), .int (112 : Int32), .int (101 : Int32), .int (114 : Int32)]) (rest := []) (st' := [.int q148]) ⟨hx, hb, hml, hown, hts⟩ (kX5_has3 l G eq148) (cwV 4 hts gX5_kindNamed_X5_has3 rfl rfl rfl qqX5_has3 ⟨Nat.le_of_ble_eq_true rfl, Nat.le_of_ble_eq_true rfl⟩) hw (rvMd hw) rfl hl.1 rfl (Nat.le_of_ble_eq_true rfl) dX5_kindNamed_148 ⟨Nat.zero_le _, Nat.zero_le _⟩ rfl (fun H locs hw => ?_)
            refine lv_if_eq (tgt := 156) hx hb dX5_kindNamed_151 (by decide) (fun c151 => ?_) (fun c151 => ?_)
            · replace h := o_t c151 h
              exact J156 _ _ _ hw (lv_sub hl [0] rfl) h
            · replace h := o_f c151 h
              refine lv_iconst (v := 3) hx hb dX5_kindNamed_154 (by decide) ?_
              exact rI hQ hx hb hr hlk hw dX5_kindNamed_155 (o_1 h) rfl rfl
      refine lv_if_eq (tgt := 117) hx hb dX5_kindNamed_84 (by decide) (fun c84 => ?_) (fun c84 => ?_)
      · replace h := o_t c84 h
        exact J117 _ _ _ hw (lv_sub hl [0] rfl) h
      · replace h := o_f c84 h
        refine lv_aload_n hx hb dX5_kindNamed_87 rfl (lv_at hl 0 rfl) ?_
        refine lv_iconst (v := 0) hx hb dX5_kindNamed_88 (by decide) ?_
        refine lv_bipush (v := 107) hx hb dX5_kindNamed_89 (by decide) ?_
        refine lv_bipush (v := 101) hx hb dX5_kindNamed_91 (by decide) ?_
        refine lv_bipush (v := 101) hx hb dX5_kindNamed_93 (by decide) ?_
        obtain ⟨q95, eq95, h⟩ := o_bd h
        refine kV (As := [.int (0 : Int32), .int (107 : Int32), .int (101 : Int32), .int (101 : Int32)]) (rest := []) (st' := [.int q95]) ⟨hx, hb, hml, hown, hts⟩ (kX5_has3 l G eq95) (cwV 4 hts gX5_kindNamed_X5_has3 rfl rfl rfl qqX5_has3 ⟨Nat.le_of_ble_eq_true rfl, Nat.le_of_ble_eq_true rfl⟩) hw (rvMd hw) rfl hl.1 rfl (Nat.le_of_ble_eq_true rfl) dX5_kindNamed_95 ⟨Nat.zero_le _, Nat.zero_le _⟩ rfl (fun H locs hw => ?_)
        refine lv_if_eq (tgt := 117) hx hb dX5_kindNamed_98 (by decide) (fun c98 => ?_) (fun c98 => ?_)
        · replace h := o_t c98 h
          exact J117 _ _ _ hw (lv_sub hl [0] rfl) h
        · replace h := o_f c98 h
          refine lv_aload_n hx hb dX5_kindNamed_101 rfl (lv_at hl 0 rfl) ?_
          refine lv_iconst (v := 3) hx hb dX5_kindNamed_102 (by decide) ?_
          refine lv_bipush (v := 112) hx hb dX5_kindNamed_103 (by decide) ?_
          refine lv_bipush (v := 101) hx hb dX5_kindNamed_105 (by decide) ?_
          refine lv_bipush (v := 114) hx hb dX5_kindNamed_107 (by decide) ?_
          obtain ⟨q109, eq109, h⟩ := o_bd h
          refine kV (As := [.int (3 : Int32), .int (112 : Int32), .int (101 : Int32), .int (114 : Int32)]) (rest := []) (st' := [.int q109]) ⟨hx, hb, hml, hown, hts⟩ (kX5_has3 l G eq109) (cwV 4 hts gX5_kindNamed_X5_has3 rfl rfl rfl qqX5_has3 ⟨Nat.le_of_ble_eq_true rfl, Nat.le_of_ble_eq_true rfl⟩) hw (rvMd hw) rfl hl.1 rfl (Nat.le_of_ble_eq_true rfl) dX5_kindNamed_109 ⟨Nat.zero_le _, Nat.zero_le _⟩ rfl (fun H locs hw => ?_)
          refine lv_if_eq (tgt := 117) hx hb dX5_kindNamed_112 (by decide) (fun c112 => ?_) (fun c112 => ?_)
          · replace h := o_t c112 h
            exact J117 _ _ _ hw (lv_sub hl [0] rfl) h
          · replace h := o_f c112 h
            refine lv_iconst (v := 2) hx hb dX5_kindNamed_115 (by decide) ?_
            exact rI hQ hx hb hr hlk hw dX5_kindNamed_116 (o_1 h) rfl rfl
    refine lv_if_eq (tgt := 78) hx hb dX5_kindNamed_45 (by decide) (fun c45 => ?_) (fun c45 => ?_)
    · replace h := o_t c45 h
      exact J78 _ _ _ hw (lv_sub hl [0] rfl) h
    · replace h := o_f c45 h
      refine lv_aload_n hx hb dX5_kindNamed_48 rfl (lv_at hl 0 rfl) ?_
      refine lv_iconst (v := 0) hx hb dX5_kindNamed_49 (by decide) ?_
      refine lv_bipush (v := 104) hx hb dX5_kindNamed_50 (by decide) ?_
      refine lv_bipush (v := 111) hx hb dX5_kindNamed_52 (by decide) ?_
      refine lv_bipush (v := 108) hx hb dX5_kindNamed_54 (by decide) ?_
      obtain ⟨q56, eq56, h⟩ := o_bd h
      refine kV (As := [.int (0 : Int32), .int (104 : Int32), .int (111 : Int32), .int (108 : Int32)]) (rest := []) (st' := [.int q56]) ⟨hx, hb, hml, hown, hts⟩ (kX5_has3 l G eq56) (cwV 4 hts gX5_kindNamed_X5_has3 rfl rfl rfl qqX5_has3 ⟨Nat.le_of_ble_eq_true rfl, Nat.le_of_ble_eq_true rfl⟩) hw (rvMd hw) rfl hl.1 rfl (Nat.le_of_ble_eq_true rfl) dX5_kindNamed_56 ⟨Nat.zero_le _, Nat.zero_le _⟩ rfl (fun H locs hw => ?_)
      refine lv_if_eq (tgt := 78) hx hb dX5_kindNamed_59 (by decide) (fun c59 => ?_) (fun c59 => ?_)
      · replace h := o_t c59 h
        exact J78 _ _ _ hw (lv_sub hl [0] rfl) h
      · replace h := o_f c59 h
        refine lv_aload_n hx hb dX5_kindNamed_62 rfl (lv_at hl 0 rfl) ?_
        refine lv_iconst (v := 3) hx hb dX5_kindNamed_63 (by decide) ?_
        refine lv_bipush (v := 100) hx hb dX5_kindNamed_64 (by decide) ?_
        refine lv_bipush (v := 101) hx hb dX5_kindNamed_66 (by decide) ?_
        refine lv_bipush (v := 114) hx hb dX5_kindNamed_68 (by decide) ?_
        obtain ⟨q70, eq70, h⟩ := o_bd h
        refine kV (As := [.int (3 : Int32), .int (100 : Int32), .int (101 : Int32), .int (114 : Int32)]) (rest := []) (st' := [.int q70]) ⟨hx, hb, hml, hown, hts⟩ (kX5_has3 l G eq70) (cwV 4 hts gX5_kindNamed_X5_has3 rfl rfl rfl qqX5_has3 ⟨Nat.le_of_ble_eq_true rfl, Nat.le_of_ble_eq_true rfl⟩) hw (rvMd hw) rfl hl.1 rfl (Nat.le_of_ble_eq_true rfl) dX5_kindNamed_70 ⟨Nat.zero_le _, Nat.zero_le _⟩ rfl (fun H locs hw => ?_)
        refine lv_if_eq (tgt := 78) hx hb dX5_kindNamed_73 (by decide) (fun c73 => ?_) (fun c73 => ?_)
        · replace h := o_t c73 h
          exact J78 _ _ _ hw (lv_sub hl [0] rfl) h
        · replace h := o_f c73 h
          refine lv_iconst (v := 1) hx hb dX5_kindNamed_76 (by decide) ?_
          exact rI hQ hx hb hr hlk hw dX5_kindNamed_77 (o_1 h) rfl rfl
  refine lv_if_eq (tgt := 39) hx hb dX5_kindNamed_6 (by decide) (fun c6 => ?_) (fun c6 => ?_)
  · replace h := o_t c6 h
    exact J39 _ _ _ hw (lv_sub hl [0] rfl) h
  · replace h := o_f c6 h
    refine lv_aload_n hx hb dX5_kindNamed_9 rfl (lv_at hl 0 rfl) ?_
    refine lv_iconst (v := 0) hx hb dX5_kindNamed_10 (by decide) ?_
    refine lv_bipush (v := 114) hx hb dX5_kindNamed_11 (by decide) ?_
    refine lv_bipush (v := 117) hx hb dX5_kindNamed_13 (by decide) ?_
    refine lv_bipush (v := 110) hx hb dX5_kindNamed_15 (by decide) ?_
    obtain ⟨q17, eq17, h⟩ := o_bd h
    refine kV (As := [.int (0 : Int32), .int (114 : Int32), .int (117 : Int32), .int (110 : Int32)]) (rest := []) (st' := [.int q17]) ⟨hx, hb, hml, hown, hts⟩ (kX5_has3 l G eq17) (cwV 4 hts gX5_kindNamed_X5_has3 rfl rfl rfl qqX5_has3 ⟨Nat.le_of_ble_eq_true rfl, Nat.le_of_ble_eq_true rfl⟩) hw (rvMd hw) rfl hl.1 rfl (Nat.le_of_ble_eq_true rfl) dX5_kindNamed_17 ⟨Nat.zero_le _, Nat.zero_le _⟩ rfl (fun H locs hw => ?_)
    refine lv_if_eq (tgt := 39) hx hb dX5_kindNamed_20 (by decide) (fun c20 => ?_) (fun c20 => ?_)
    · replace h := o_t c20 h
      exact J39 _ _ _ hw (lv_sub hl [0] rfl) h
    · replace h := o_f c20 h
      refine lv_aload_n hx hb dX5_kindNamed_23 rfl (lv_at hl 0 rfl) ?_
      refine lv_iconst (v := 3) hx hb dX5_kindNamed_24 (by decide) ?_
      refine lv_bipush (v := 110) hx hb dX5_kindNamed_25 (by decide) ?_
      refine lv_bipush (v := 101) hx hb dX5_kindNamed_27 (by decide) ?_
      refine lv_bipush (v := 114) hx hb dX5_kindNamed_29 (by decide) ?_
      obtain ⟨q31, eq31, h⟩ := o_bd h
      refine kV (As := [.int (3 : Int32), .int (110 : Int32), .int (101 : Int32), .int (114 : Int32)]) (rest := []) (st' := [.int q31]) ⟨hx, hb, hml, hown, hts⟩ (kX5_has3 l G eq31) (cwV 4 hts gX5_kindNamed_X5_has3 rfl rfl rfl qqX5_has3 ⟨Nat.le_of_ble_eq_true rfl, Nat.le_of_ble_eq_true rfl⟩) hw (rvMd hw) rfl hl.1 rfl (Nat.le_of_ble_eq_true rfl) dX5_kindNamed_31 ⟨Nat.zero_le _, Nat.zero_le _⟩ rfl (fun H locs hw => ?_)
      refine lv_if_eq (tgt := 39) hx hb dX5_kindNamed_34 (by decide) (fun c34 => ?_) (fun c34 => ?_)
      · replace h := o_t c34 h
        exact J39 _ _ _ hw (lv_sub hl [0] rfl) h
      · replace h := o_f c34 h
        refine lv_iconst (v := 0) hx hb dX5_kindNamed_37 (by decide) ?_
        exact rI hQ hx hb hr hlk hw dX5_kindNamed_38 (o_1 h) rfl rfl
-- X5_letNamed
def fX5_letNamed (M : sOb) : Option Int32 :=
  (fX5_isWord M (6 : Int32)).bind fun q3 => nm ((fX5_isWord M (5 : Int32)).bind fun q41 => nm ((fX5_isWord M (3 : Int32)).bind fun q79 => if q79 = 0 then (some (-1 : Int32)) else ((fX5_has3 M (0 : Int32) (108 : Int32) (97 : Int32) (119 : Int32)).bind fun q93 => if q93 = 0 then (some (-1 : Int32)) else (some (2 : Int32)))) fun k77 => if q41 = 0 then k77 else ((fX5_has3 M (0 : Int32) (108 : Int32) (101 : Int32) (97 : Int32)).bind fun q55 => if q55 = 0 then k77 else ((fX5_has3 M (2 : Int32) (97 : Int32) (115 : Int32) (116 : Int32)).bind fun q69 => if q69 = 0 then k77 else (some (1 : Int32))))) fun k39 => if q3 = 0 then k39 else ((fX5_has3 M (0 : Int32) (108 : Int32) (101 : Int32) (110 : Int32)).bind fun q17 => if q17 = 0 then k39 else ((fX5_has3 M (3 : Int32) (103 : Int32) (116 : Int32) (104 : Int32)).bind fun q31 => if q31 = 0 then k39 else (some (0 : Int32))))
def rmX5_letNamed : Room := { frames := 2, cells := 0, slots := 0, locals := 45 }
theorem qqX5_letNamed : yX5_letNamed.cls = RX5 ∧ yX5_letNamed.cls ≠ "java/lang/invoke/MethodHandle" ∧ yX5_letNamed.cls ≠ "java/lang/invoke/VarHandle" ∧ (parseMethodDescriptor yX5_letNamed.desc).map (fun d => d.parameters.length) = some 0 := by decide +kernel
set_option maxRecDepth 100000 in
set_option maxHeartbeats 4000000 in
theorem kX5_letNamed (l : Launch) (G : sGl) {S : sWo} {M : sOb}  {q : Int32}  (h : fX5_letNamed M = some q) : sCt l G yX5_letNamed wsX5_letNamed rmX5_letNamed [.ref (sA G 9 0)] S M (some (.int q)) S M := by
  refine cMk (cc := cX5_letNamed) (maxL := 1) (ret := (some .int)) (by decide) rfl (Nat.le_of_ble_eq_true rfl) ?_
  intro p e s m args below meth c Q hQ hx hb hr hlk hml hown hts hw ls hl
  have hown : s.vm.findClass RX5 = some m.cls := hown
  have hl : lv_has ls 1 [(0, .ref (sA G 9 0))] := hl
  unfold fX5_letNamed at h
  refine lv_aload_n hx hb dX5_letNamed_0 rfl (lv_at hl 0 rfl) ?_
  refine lv_bipush (v := 6) hx hb dX5_letNamed_1 (by decide) ?_
  obtain ⟨q3, eq3, h⟩ := o_bd h
  refine kV (As := [.int (6 : Int32)]) (rest := []) (st' := [.int q3]) ⟨hx, hb, hml, hown, hts⟩ (kX5_isWord l G eq3) (cwV 1 hts gX5_letNamed_X5_isWord rfl rfl rfl qqX5_isWord ⟨Nat.le_of_ble_eq_true rfl, Nat.le_of_ble_eq_true rfl⟩) hw (rvMd hw) rfl hl.1 rfl (Nat.le_of_ble_eq_true rfl) dX5_letNamed_3 ⟨Nat.zero_le _, Nat.zero_le _⟩ rfl (fun H locs hw => ?_)
  obtain ⟨k39, ek39, h⟩ := o_nm h
  have J39 : ∀ (H : Heap) (locs : List Loc) (ls : Array Slot), sHw G s S M H locs → lv_has ls 1 [(0, .ref (sA G 9 0))] → k39 = some q → W p l e rmX5_letNamed s m args below meth c H locs 0 0 Q (F0 m 39 ls []) := by
    intro H locs ls hw hl h
    replace h := o_j0 ek39 h
    refine lv_aload_n hx hb dX5_letNamed_39 rfl (lv_at hl 0 rfl) ?_
    refine lv_iconst (v := 5) hx hb dX5_letNamed_40 (by decide) ?_
    obtain ⟨q41, eq41, h⟩ := o_bd h
    refine kV (As := [.int (5 : Int32)]) (rest := []) (st' := [.int q41]) ⟨hx, hb, hml, hown, hts⟩ (kX5_isWord l G eq41) (cwV 1 hts gX5_letNamed_X5_isWord rfl rfl rfl qqX5_isWord ⟨Nat.le_of_ble_eq_true rfl, Nat.le_of_ble_eq_true rfl⟩) hw (rvMd hw) rfl hl.1 rfl (Nat.le_of_ble_eq_true rfl) dX5_letNamed_41 ⟨Nat.zero_le _, Nat.zero_le _⟩ rfl (fun H locs hw => ?_)
    obtain ⟨k77, ek77, h⟩ := o_nm h
    have J77 : ∀ (H : Heap) (locs : List Loc) (ls : Array Slot), sHw G s S M H locs → lv_has ls 1 [(0, .ref (sA G 9 0))] → k77 = some q → W p l e rmX5_letNamed s m args below meth c H locs 0 0 Q (F0 m 77 ls []) := by
      intro H locs ls hw hl h
      replace h := o_j0 ek77 h
      refine lv_aload_n hx hb dX5_letNamed_77 rfl (lv_at hl 0 rfl) ?_
      refine lv_iconst (v := 3) hx hb dX5_letNamed_78 (by decide) ?_
      obtain ⟨q79, eq79, h⟩ := o_bd h
      refine kV (As := [.int (3 : Int32)]) (rest := []) (st' := [.int q79]) ⟨hx, hb, hml, hown, hts⟩ (kX5_isWord l G eq79) (cwV 1 hts gX5_letNamed_X5_isWord rfl rfl rfl qqX5_isWord ⟨Nat.le_of_ble_eq_true rfl, Nat.le_of_ble_eq_true rfl⟩) hw (rvMd hw) rfl hl.1 rfl (Nat.le_of_ble_eq_true rfl) dX5_letNamed_79 ⟨Nat.zero_le _, Nat.zero_le _⟩ rfl (fun H locs hw => ?_)
      refine lv_if_eq (tgt := 103) hx hb dX5_letNamed_82 (by decide) (fun c82 => ?_) (fun c82 => ?_)
      · replace h := o_t c82 h
        refine lv_iconst (v := -1) hx hb dX5_letNamed_103 (by decide) ?_
        exact rI hQ hx hb hr hlk hw dX5_letNamed_104 (o_1 h) rfl rfl
      · replace h := o_f c82 h
        refine lv_aload_n hx hb dX5_letNamed_85 rfl (lv_at hl 0 rfl) ?_
        refine lv_iconst (v := 0) hx hb dX5_letNamed_86 (by decide) ?_
        refine lv_bipush (v := 108) hx hb dX5_letNamed_87 (by decide) ?_
        refine lv_bipush (v := 97) hx hb dX5_letNamed_89 (by decide) ?_
        refine lv_bipush (v := 119) hx hb dX5_letNamed_91 (by decide) ?_
        obtain ⟨q93, eq93, h⟩ := o_bd h
        refine kV (As := [.int (0 : Int32), .int (108 : Int32), .int (97 : Int32), .int (119 : Int32)]) (rest := []) (st' := [.int q93]) ⟨hx, hb, hml, hown, hts⟩ (kX5_has3 l G eq93) (cwV 4 hts gX5_letNamed_X5_has3 rfl rfl rfl qqX5_has3 ⟨Nat.le_of_ble_eq_true rfl, Nat.le_of_ble_eq_true rfl⟩) hw (rvMd hw) rfl hl.1 rfl (Nat.le_of_ble_eq_true rfl) dX5_letNamed_93 ⟨Nat.zero_le _, Nat.zero_le _⟩ rfl (fun H locs hw => ?_)
        refine lv_if_eq (tgt := 103) hx hb dX5_letNamed_96 (by decide) (fun c96 => ?_) (fun c96 => ?_)
        · replace h := o_t c96 h
          refine lv_iconst (v := -1) hx hb dX5_letNamed_103 (by decide) ?_
          exact rI hQ hx hb hr hlk hw dX5_letNamed_104 (o_1 h) rfl rfl
        · replace h := o_f c96 h
          refine lv_iconst (v := 2) hx hb dX5_letNamed_99 (by decide) ?_
          refine lv_goto (tgt := 104) hx hb dX5_letNamed_100 (by decide) ?_
          exact rI hQ hx hb hr hlk hw dX5_letNamed_104 (o_1 h) rfl rfl
    refine lv_if_eq (tgt := 77) hx hb dX5_letNamed_44 (by decide) (fun c44 => ?_) (fun c44 => ?_)
    · replace h := o_t c44 h
      exact J77 _ _ _ hw (lv_sub hl [0] rfl) h
    · replace h := o_f c44 h
      refine lv_aload_n hx hb dX5_letNamed_47 rfl (lv_at hl 0 rfl) ?_
      refine lv_iconst (v := 0) hx hb dX5_letNamed_48 (by decide) ?_
      refine lv_bipush (v := 108) hx hb dX5_letNamed_49 (by decide) ?_
      refine lv_bipush (v := 101) hx hb dX5_letNamed_51 (by decide) ?_
      refine lv_bipush (v := 97) hx hb dX5_letNamed_53 (by decide) ?_
      obtain ⟨q55, eq55, h⟩ := o_bd h
      refine kV (As := [.int (0 : Int32), .int (108 : Int32), .int (101 : Int32), .int (97 : Int32)]) (rest := []) (st' := [.int q55]) ⟨hx, hb, hml, hown, hts⟩ (kX5_has3 l G eq55) (cwV 4 hts gX5_letNamed_X5_has3 rfl rfl rfl qqX5_has3 ⟨Nat.le_of_ble_eq_true rfl, Nat.le_of_ble_eq_true rfl⟩) hw (rvMd hw) rfl hl.1 rfl (Nat.le_of_ble_eq_true rfl) dX5_letNamed_55 ⟨Nat.zero_le _, Nat.zero_le _⟩ rfl (fun H locs hw => ?_)
      refine lv_if_eq (tgt := 77) hx hb dX5_letNamed_58 (by decide) (fun c58 => ?_) (fun c58 => ?_)
      · replace h := o_t c58 h
        exact J77 _ _ _ hw (lv_sub hl [0] rfl) h
      · replace h := o_f c58 h
        refine lv_aload_n hx hb dX5_letNamed_61 rfl (lv_at hl 0 rfl) ?_
        refine lv_iconst (v := 2) hx hb dX5_letNamed_62 (by decide) ?_
        refine lv_bipush (v := 97) hx hb dX5_letNamed_63 (by decide) ?_
        refine lv_bipush (v := 115) hx hb dX5_letNamed_65 (by decide) ?_
        refine lv_bipush (v := 116) hx hb dX5_letNamed_67 (by decide) ?_
        obtain ⟨q69, eq69, h⟩ := o_bd h
        refine kV (As := [.int (2 : Int32), .int (97 : Int32), .int (115 : Int32), .int (116 : Int32)]) (rest := []) (st' := [.int q69]) ⟨hx, hb, hml, hown, hts⟩ (kX5_has3 l G eq69) (cwV 4 hts gX5_letNamed_X5_has3 rfl rfl rfl qqX5_has3 ⟨Nat.le_of_ble_eq_true rfl, Nat.le_of_ble_eq_true rfl⟩) hw (rvMd hw) rfl hl.1 rfl (Nat.le_of_ble_eq_true rfl) dX5_letNamed_69 ⟨Nat.zero_le _, Nat.zero_le _⟩ rfl (fun H locs hw => ?_)
        refine lv_if_eq (tgt := 77) hx hb dX5_letNamed_72 (by decide) (fun c72 => ?_) (fun c72 => ?_)
        · replace h := o_t c72 h
          exact J77 _ _ _ hw (lv_sub hl [0] rfl) h
        · replace h := o_f c72 h
          refine lv_iconst (v := 1) hx hb dX5_letNamed_75 (by decide) ?_
          exact rI hQ hx hb hr hlk hw dX5_letNamed_76 (o_1 h) rfl rfl
  refine lv_if_eq (tgt := 39) hx hb dX5_letNamed_6 (by decide) (fun c6 => ?_) (fun c6 => ?_)
  · replace h := o_t c6 h
    exact J39 _ _ _ hw (lv_sub hl [0] rfl) h
  · replace h := o_f c6 h
    refine lv_aload_n hx hb dX5_letNamed_9 rfl (lv_at hl 0 rfl) ?_
    refine lv_iconst (v := 0) hx hb dX5_letNamed_10 (by decide) ?_
    refine lv_bipush (v := 108) hx hb dX5_letNamed_11 (by decide) ?_
    refine lv_bipush (v := 101) hx hb dX5_letNamed_13 (by decide) ?_
    refine lv_bipush (v := 110) hx hb dX5_letNamed_15 (by decide) ?_
    obtain ⟨q17, eq17, h⟩ := o_bd h
    refine kV (As := [.int (0 : Int32), .int (108 : Int32), .int (101 : Int32), .int (110 : Int32)]) (rest := []) (st' := [.int q17]) ⟨hx, hb, hml, hown, hts⟩ (kX5_has3 l G eq17) (cwV 4 hts gX5_letNamed_X5_has3 rfl rfl rfl qqX5_has3 ⟨Nat.le_of_ble_eq_true rfl, Nat.le_of_ble_eq_true rfl⟩) hw (rvMd hw) rfl hl.1 rfl (Nat.le_of_ble_eq_true rfl) dX5_letNamed_17 ⟨Nat.zero_le _, Nat.zero_le _⟩ rfl (fun H locs hw => ?_)
    refine lv_if_eq (tgt := 39) hx hb dX5_letNamed_20 (by decide) (fun c20 => ?_) (fun c20 => ?_)
    · replace h := o_t c20 h
      exact J39 _ _ _ hw (lv_sub hl [0] rfl) h
    · replace h := o_f c20 h
      refine lv_aload_n hx hb dX5_letNamed_23 rfl (lv_at hl 0 rfl) ?_
      refine lv_iconst (v := 3) hx hb dX5_letNamed_24 (by decide) ?_
      refine lv_bipush (v := 103) hx hb dX5_letNamed_25 (by decide) ?_
      refine lv_bipush (v := 116) hx hb dX5_letNamed_27 (by decide) ?_
      refine lv_bipush (v := 104) hx hb dX5_letNamed_29 (by decide) ?_
      obtain ⟨q31, eq31, h⟩ := o_bd h
      refine kV (As := [.int (3 : Int32), .int (103 : Int32), .int (116 : Int32), .int (104 : Int32)]) (rest := []) (st' := [.int q31]) ⟨hx, hb, hml, hown, hts⟩ (kX5_has3 l G eq31) (cwV 4 hts gX5_letNamed_X5_has3 rfl rfl rfl qqX5_has3 ⟨Nat.le_of_ble_eq_true rfl, Nat.le_of_ble_eq_true rfl⟩) hw (rvMd hw) rfl hl.1 rfl (Nat.le_of_ble_eq_true rfl) dX5_letNamed_31 ⟨Nat.zero_le _, Nat.zero_le _⟩ rfl (fun H locs hw => ?_)
      refine lv_if_eq (tgt := 39) hx hb dX5_letNamed_34 (by decide) (fun c34 => ?_) (fun c34 => ?_)
      · replace h := o_t c34 h
        exact J39 _ _ _ hw (lv_sub hl [0] rfl) h
      · replace h := o_f c34 h
        refine lv_iconst (v := 0) hx hb dX5_letNamed_37 (by decide) ?_
        exact rI hQ hx hb hr hlk hw dX5_letNamed_38 (o_1 h) rfl rfl
-- X5_isNumber
def fX5_isNumber (M : sOb) (a1 : Int32) (a2 : Int32) : Option Int32 :=
  if (M.1 2) = (2 : Int32) then ((fX5_isIn ((M.1 5).toInt64) a1.toInt64 a2.toInt64).bind fun q17 => if q17 = 0 then (some (0 : Int32)) else (some (1 : Int32))) else (some (0 : Int32))
def rmX5_isNumber : Room := { frames := 1, cells := 0, slots := 0, locals := 25 }
theorem qqX5_isNumber : yX5_isNumber.cls = RX5 ∧ yX5_isNumber.cls ≠ "java/lang/invoke/MethodHandle" ∧ yX5_isNumber.cls ≠ "java/lang/invoke/VarHandle" ∧ (parseMethodDescriptor yX5_isNumber.desc).map (fun d => d.parameters.length) = some 2 := by decide +kernel
set_option maxRecDepth 100000 in
set_option maxHeartbeats 4000000 in
theorem kX5_isNumber (l : Launch) (G : sGl) {S : sWo} {M : sOb} {a1 : Int32} {a2 : Int32} {q : Int32}  (h : fX5_isNumber M a1 a2 = some q) : sCt l G yX5_isNumber wsX5_isNumber rmX5_isNumber [.ref (sA G 9 0), .int a1, .int a2] S M (some (.int q)) S M := by
  refine cMk (cc := cX5_isNumber) (maxL := 3) (ret := (some .boolean)) (by decide) rfl (Nat.le_of_ble_eq_true rfl) ?_
  intro p e s m args below meth c Q hQ hx hb hr hlk hml hown hts hw ls hl
  have hown : s.vm.findClass RX5 = some m.cls := hown
  have hl : lv_has ls 3 [(0, .ref (sA G 9 0)), (1, .int a1), (2, .int a2)] := hl
  have hiX5 : ∀ w ∈ u_ws RX5 TX5 15, w ∈ wsX5_isNumber := by decide +kernel
  unfold fX5_isNumber at h
  refine lv_aload_n hx hb dX5_isNumber_0 rfl (lv_at hl 0 rfl) ?_
  refine gMd (v := .int (M.1 2)) hx hb hts hiX5 hown hw 11 (by decide) (hts (.fieldLink RX5 187 "SecondHomeModel" "token" "I") (by decide +kernel)) rfl dX5_isNumber_1 ?_
  refine lv_iconst (v := 2) hx hb dX5_isNumber_4 (by decide) ?_
  refine lv_icmp_ne (tgt := 27) hx hb dX5_isNumber_5 (by decide) (fun c5 => ?_) (fun c5 => ?_)
  · replace h := o_f c5 h
    refine lv_iconst (v := 0) hx hb dX5_isNumber_27 (by decide) ?_
    exact rZ hQ hx hb hr hlk hw (Or.inl rfl) dX5_isNumber_28 (o_1 h) rfl rfl
  · replace h := o_t c5 h
    refine lv_aload_n hx hb dX5_isNumber_8 rfl (lv_at hl 0 rfl) ?_
    refine gMd (v := .int (M.1 5)) hx hb hts hiX5 hown hw 14 (by decide) (hts (.fieldLink RX5 190 "SecondHomeModel" "value" "I") (by decide +kernel)) rfl dX5_isNumber_9 ?_
    refine lv_i2l hx hb dX5_isNumber_12 rfl ?_
    refine lv_iload_n hx hb dX5_isNumber_13 rfl (lv_at hl 1 rfl) ?_
    refine lv_i2l hx hb dX5_isNumber_14 rfl ?_
    refine lv_iload_n hx hb dX5_isNumber_15 rfl (lv_at hl 2 rfl) ?_
    refine lv_i2l hx hb dX5_isNumber_16 rfl ?_
    obtain ⟨q17, eq17, h⟩ := o_bd h
    refine kS (As := [.long ((M.1 5).toInt64), .long a1.toInt64, .long a2.toInt64]) (rest := []) (st' := [.int q17]) ⟨hx, hb, hml, hown, hts⟩ (kX5_isIn l G eq17) (va_cwS 3 hts gX5_isNumber_X5_isIn rfl rfl rfl qqX5_isIn ⟨Nat.le_of_ble_eq_true rfl, Nat.le_of_ble_eq_true rfl⟩) hw rfl hl.1 rfl (Nat.le_of_ble_eq_true rfl) dX5_isNumber_17 ⟨Nat.zero_le _, Nat.zero_le _⟩ rfl (fun H locs hw => ?_)
    refine lv_if_eq (tgt := 27) hx hb dX5_isNumber_20 (by decide) (fun c20 => ?_) (fun c20 => ?_)
    · replace h := o_t c20 h
      refine lv_iconst (v := 0) hx hb dX5_isNumber_27 (by decide) ?_
      exact rZ hQ hx hb hr hlk hw (Or.inl rfl) dX5_isNumber_28 (o_1 h) rfl rfl
    · replace h := o_f c20 h
      refine lv_iconst (v := 1) hx hb dX5_isNumber_23 (by decide) ?_
      refine lv_goto (tgt := 28) hx hb dX5_isNumber_24 (by decide) ?_
      exact rZ hQ hx hb hr hlk hw (Or.inr rfl) dX5_isNumber_28 (o_1 h) rfl rfl
-- X5_mayCome
def fX5_mayCome (M : sOb) (a1 : Int32) (a2 : Int32) (a3 : Int32) : Option (Int32 × sOb) :=
  if a1 = 0 then (some ((0 : Int32), M)) else ((fX5_nextToken M).bind fun q7 => (fX5_isNumber q7 a2 a3).bind fun q13 => if q13 = 0 then (some ((-1 : Int32), q7)) else (some ((1 : Int32), q7)))
def rmX5_mayCome : Room := { frames := 2, cells := 0, slots := 0, locals := 47 }
theorem qqX5_mayCome : yX5_mayCome.cls = RX5 ∧ yX5_mayCome.cls ≠ "java/lang/invoke/MethodHandle" ∧ yX5_mayCome.cls ≠ "java/lang/invoke/VarHandle" ∧ (parseMethodDescriptor yX5_mayCome.desc).map (fun d => d.parameters.length) = some 3 := by decide +kernel
set_option maxRecDepth 100000 in
set_option maxHeartbeats 4000000 in
theorem kX5_mayCome (l : Launch) (G : sGl) {S : sWo} {M : sOb} {a1 : Int32} {a2 : Int32} {a3 : Int32} {q : (Int32 × sOb)}  (h : fX5_mayCome M a1 a2 a3 = some q) : sCt l G yX5_mayCome wsX5_mayCome rmX5_mayCome [.ref (sA G 9 0), .int a1, .int a2, .int a3] S M (some (.int q.1)) S q.2 := by
  refine cMk (cc := cX5_mayCome) (maxL := 4) (ret := (some .int)) (by decide) rfl (Nat.le_of_ble_eq_true rfl) ?_
  intro p e s m args below meth c Q hQ hx hb hr hlk hml hown hts hw ls hl
  have hown : s.vm.findClass RX5 = some m.cls := hown
  have hl : lv_has ls 4 [(0, .ref (sA G 9 0)), (1, .int a1), (2, .int a2), (3, .int a3)] := hl
  unfold fX5_mayCome at h
  refine lv_iload_n hx hb dX5_mayCome_0 rfl (lv_at hl 1 rfl) ?_
  refine lv_if_ne (tgt := 6) hx hb dX5_mayCome_1 (by decide) (fun c1 => ?_) (fun c1 => ?_)
  · replace h := o_f c1 h
    refine lv_aload_n hx hb dX5_mayCome_6 rfl (lv_at hl 0 rfl) ?_
    obtain ⟨q7, eq7, h⟩ := o_bd h
    refine kV (As := []) (rest := []) (st' := []) ⟨hx, hb, hml, hown, hts⟩ (kX5_nextToken l G eq7) (cwV 0 hts gX5_mayCome_X5_nextToken rfl rfl rfl qqX5_nextToken ⟨Nat.le_of_ble_eq_true rfl, Nat.le_of_ble_eq_true rfl⟩) hw (rvMd hw) rfl hl.1 rfl (Nat.le_of_ble_eq_true rfl) dX5_mayCome_7 ⟨Nat.zero_le _, Nat.zero_le _⟩ rfl (fun H locs hw => ?_)
    refine lv_aload_n hx hb dX5_mayCome_10 rfl (lv_at hl 0 rfl) ?_
    refine lv_iload_n hx hb dX5_mayCome_11 rfl (lv_at hl 2 rfl) ?_
    refine lv_iload_n hx hb dX5_mayCome_12 rfl (lv_at hl 3 rfl) ?_
    obtain ⟨q13, eq13, h⟩ := o_bd h
    refine kV (As := [.int a2, .int a3]) (rest := []) (st' := [.int q13]) ⟨hx, hb, hml, hown, hts⟩ (kX5_isNumber l G eq13) (cwV 2 hts gX5_mayCome_X5_isNumber rfl rfl rfl qqX5_isNumber ⟨Nat.le_of_ble_eq_true rfl, Nat.le_of_ble_eq_true rfl⟩) hw (rvMd hw) rfl hl.1 rfl (Nat.le_of_ble_eq_true rfl) dX5_mayCome_13 ⟨Nat.zero_le _, Nat.zero_le _⟩ rfl (fun H locs hw => ?_)
    refine lv_if_eq (tgt := 23) hx hb dX5_mayCome_16 (by decide) (fun c16 => ?_) (fun c16 => ?_)
    · replace h := o_t c16 h
      refine lv_iconst (v := -1) hx hb dX5_mayCome_23 (by decide) ?_
      exact rI hQ hx hb hr hlk hw dX5_mayCome_24 (o_2a h) rfl (o_2b h)
    · replace h := o_f c16 h
      refine lv_iconst (v := 1) hx hb dX5_mayCome_19 (by decide) ?_
      refine lv_goto (tgt := 24) hx hb dX5_mayCome_20 (by decide) ?_
      exact rI hQ hx hb hr hlk hw dX5_mayCome_24 (o_2a h) rfl (o_2b h)
  · replace h := o_t c1 h
    refine lv_iconst (v := 0) hx hb dX5_mayCome_4 (by decide) ?_
    exact rI hQ hx hb hr hlk hw dX5_mayCome_5 (o_2a h) rfl (o_2b h)
-- X5_goesRunner
def fX5_goesRunner (M : sOb) (a1 : Int32) : Option (Int32 × sOb) :=
  if (M.2.1 0 (0 : Int32).toNatClampNeg) = (9 : Int32) then (some ((0 : Int32), M)) else ((fX5_nextToken M).bind fun q14 => (fX5_isWord q14 (4 : Int32)).bind fun q19 => if q19 = 0 then (some ((0 : Int32), q14)) else ((fX5_has3 q14 (0 : Int32) (112 : Int32) (97 : Int32) (99 : Int32)).bind fun q33 => if q33 = 0 then (some ((0 : Int32), q14)) else ((fX5_has3 q14 (1 : Int32) (97 : Int32) (99 : Int32) (101 : Int32)).bind fun q47 => if q47 = 0 then (some ((0 : Int32), q14)) else ((fX5_nextToken q14).bind fun q56 => (fX5_isNumber q56 (1 : Int32) (12 : Int32)).bind fun q63 => if q63 = 0 then (some ((0 : Int32), q56)) else ((fX5_comes q56 a1 (q56.1 5)).bind fun q77 => (fX5_nextToken q77.2).bind fun q82 => (fX5_isWord q82 (6 : Int32)).bind fun q89 => nm (fun (y0_128 : Int32) => (fX5_mayCome q82 y0_128 (0 : Int32) (999 : Int32)).bind fun q132 => nm (fun (T_154 : sOb) => nm (fun (y0_212 : Int32) (T_212 : sOb) => nm (fun (T_231 : sOb) => nm (fun (y0_293 : Int32) (T_293 : sOb) => nm (fun (T_322 : sOb) => if y0_293 < 0 then (some ((0 : Int32), T_322)) else (some ((1 : Int32), T_322))) fun k322 => if y0_293 ≤ 0 then (k322 T_293) else ((fX5_puts T_293 q77.1 (4 : Int32) (T_293.1 5)).bind fun q305 => (fX5_puts q305 q77.1 (5 : Int32) (q305.1 5)).bind fun q315 => (fX5_nextToken q315).bind fun q319 => k322 q319)) fun k293 => if 0 ≤ y0_212 then ((fX5_isWord T_231 (5 : Int32)).bind fun q242 => nm (fun (y0_281 : Int32) => (fX5_mayCome T_231 y0_281 (0 : Int32) ((T_231.2.1 0 (1 : Int32).toNatClampNeg) - (1 : Int32))).bind fun q290 => k293 q290.1 q290.2) fun k281 => nm (k281 (0 : Int32)) fun k280 => if q242 = 0 then k280 else ((fX5_has3 T_231 (0 : Int32) (115 : Int32) (116 : Int32) (97 : Int32)).bind fun q256 => if q256 = 0 then k280 else ((fX5_has3 T_231 (2 : Int32) (97 : Int32) (114 : Int32) (116 : Int32)).bind fun q270 => if q270 = 0 then k280 else (k281 (1 : Int32))))) else (k293 (-1 : Int32) T_231)) fun k231 => if y0_212 ≤ 0 then (k231 T_212) else ((fX5_puts T_212 q77.1 (3 : Int32) (T_212.1 5)).bind fun q224 => (fX5_nextToken q224).bind fun q228 => k231 q228)) fun k212 => if 0 ≤ q132.1 then ((fX5_isWord T_154 (6 : Int32)).bind fun q166 => nm (fun (y0_205 : Int32) => (fX5_mayCome T_154 y0_205 (0 : Int32) (q77.1 - (1 : Int32))).bind fun q209 => k212 q209.1 q209.2) fun k205 => nm (k205 (0 : Int32)) fun k204 => if q166 = 0 then k204 else ((fX5_has3 T_154 (0 : Int32) (102 : Int32) (114 : Int32) (105 : Int32)).bind fun q180 => if q180 = 0 then k204 else ((fX5_has3 T_154 (3 : Int32) (101 : Int32) (110 : Int32) (100 : Int32)).bind fun q194 => if q194 = 0 then k204 else (k205 (1 : Int32))))) else (k212 (-1 : Int32) T_154)) fun k154 => if q132.1 ≤ 0 then (k154 q132.2) else ((fX5_puts q132.2 q77.1 (2 : Int32) (q132.2.1 5)).bind fun q147 => (fX5_nextToken q147).bind fun q151 => k154 q151)) fun k128 => nm (k128 (0 : Int32)) fun k127 => if q89 = 0 then k127 else ((fX5_has3 q82 (0 : Int32) (98 : Int32) (114 : Int32) (101 : Int32)).bind fun q103 => if q103 = 0 then k127 else ((fX5_has3 q82 (3 : Int32) (97 : Int32) (116 : Int32) (104 : Int32)).bind fun q117 => if q117 = 0 then k127 else (k128 (1 : Int32)))))))))
def rmX5_goesRunner : Room := { frames := 3, cells := 0, slots := 0, locals := 70 }
theorem qqX5_goesRunner : yX5_goesRunner.cls = RX5 ∧ yX5_goesRunner.cls ≠ "java/lang/invoke/MethodHandle" ∧ yX5_goesRunner.cls ≠ "java/lang/invoke/VarHandle" ∧ (parseMethodDescriptor yX5_goesRunner.desc).map (fun d => d.parameters.length) = some 1 := by decide +kernel
set_option maxRecDepth 100000 in
set_option maxHeartbeats 4000000 in
theorem kX5_goesRunner (l : Launch) (G : sGl) {S : sWo} {M : sOb} {a1 : Int32} {q : (Int32 × sOb)}  (h : fX5_goesRunner M a1 = some q) : sCt l G yX5_goesRunner wsX5_goesRunner rmX5_goesRunner [.ref (sA G 9 0), .int a1] S M (some (.int q.1)) S q.2 := by
  refine cMk (cc := cX5_goesRunner) (maxL := 4) (ret := (some .boolean)) (by decide) rfl (Nat.le_of_ble_eq_true rfl) ?_
  intro p e s m args below meth c Q hQ hx hb hr hlk hml hown hts hw ls hl
  have hown : s.vm.findClass RX5 = some m.cls := hown
  have hl : lv_has ls 4 [(0, .ref (sA G 9 0)), (1, .int a1)] := hl
  have hiX5 : ∀ w ∈ u_ws RX5 TX5 15, w ∈ wsX5_goesRunner := by decide +kernel
  unfold fX5_goesRunner at h
  refine lv_aload_n hx hb dX5_goesRunner_0 rfl (lv_at hl 0 rfl) ?_
  refine gMd (v := .ref (sA G 9 1)) hx hb hts hiX5 hown hw 0 (by decide) (hts (.fieldLink RX5 7 "SecondHomeModel" "s" "[I") (by decide +kernel)) rfl dX5_goesRunner_1 ?_
  refine lv_iconst (v := 0) hx hb dX5_goesRunner_4 (by decide) ?_
  refine ldMd hx hb hw 0 (by decide) (n := 77) rfl (by decide) dX5_goesRunner_5 ?_
  refine lv_bipush (v := 9) hx hb dX5_goesRunner_6 (by decide) ?_
  refine lv_icmp_ne (tgt := 13) hx hb dX5_goesRunner_8 (by decide) (fun c8 => ?_) (fun c8 => ?_)
  · replace h := o_f c8 h
    refine lv_aload_n hx hb dX5_goesRunner_13 rfl (lv_at hl 0 rfl) ?_
    obtain ⟨q14, eq14, h⟩ := o_bd h
    refine kV (As := []) (rest := []) (st' := []) ⟨hx, hb, hml, hown, hts⟩ (kX5_nextToken l G eq14) (cwV 0 hts gX5_goesRunner_X5_nextToken rfl rfl rfl qqX5_nextToken ⟨Nat.le_of_ble_eq_true rfl, Nat.le_of_ble_eq_true rfl⟩) hw (rvMd hw) rfl hl.1 rfl (Nat.le_of_ble_eq_true rfl) dX5_goesRunner_14 ⟨Nat.zero_le _, Nat.zero_le _⟩ rfl (fun H locs hw => ?_)
    refine lv_aload_n hx hb dX5_goesRunner_17 rfl (lv_at hl 0 rfl) ?_
    refine lv_iconst (v := 4) hx hb dX5_goesRunner_18 (by decide) ?_
    obtain ⟨q19, eq19, h⟩ := o_bd h
    refine kV (As := [.int (4 : Int32)]) (rest := []) (st' := [.int q19]) ⟨hx, hb, hml, hown, hts⟩ (kX5_isWord l G eq19) (cwV 1 hts gX5_goesRunner_X5_isWord rfl rfl rfl qqX5_isWord ⟨Nat.le_of_ble_eq_true rfl, Nat.le_of_ble_eq_true rfl⟩) hw (rvMd hw) rfl hl.1 rfl (Nat.le_of_ble_eq_true rfl) dX5_goesRunner_19 ⟨Nat.zero_le _, Nat.zero_le _⟩ rfl (fun H locs hw => ?_)
    refine lv_if_eq (tgt := 53) hx hb dX5_goesRunner_22 (by decide) (fun c22 => ?_) (fun c22 => ?_)
    · replace h := o_t c22 h
      refine lv_iconst (v := 0) hx hb dX5_goesRunner_53 (by decide) ?_
      exact rZ hQ hx hb hr hlk hw (Or.inl rfl) dX5_goesRunner_54 (o_2a h) rfl (o_2b h)
    · replace h := o_f c22 h
      refine lv_aload_n hx hb dX5_goesRunner_25 rfl (lv_at hl 0 rfl) ?_
      refine lv_iconst (v := 0) hx hb dX5_goesRunner_26 (by decide) ?_
      refine lv_bipush (v := 112) hx hb dX5_goesRunner_27 (by decide) ?_
      refine lv_bipush (v := 97) hx hb dX5_goesRunner_29 (by decide) ?_
      refine lv_bipush (v := 99) hx hb dX5_goesRunner_31 (by decide) ?_
      obtain ⟨q33, eq33, h⟩ := o_bd h
      refine kV (As := [.int (0 : Int32), .int (112 : Int32), .int (97 : Int32), .int (99 : Int32)]) (rest := []) (st' := [.int q33]) ⟨hx, hb, hml, hown, hts⟩ (kX5_has3 l G eq33) (cwV 4 hts gX5_goesRunner_X5_has3 rfl rfl rfl qqX5_has3 ⟨Nat.le_of_ble_eq_true rfl, Nat.le_of_ble_eq_true rfl⟩) hw (rvMd hw) rfl hl.1 rfl (Nat.le_of_ble_eq_true rfl) dX5_goesRunner_33 ⟨Nat.zero_le _, Nat.zero_le _⟩ rfl (fun H locs hw => ?_)
      refine lv_if_eq (tgt := 53) hx hb dX5_goesRunner_36 (by decide) (fun c36 => ?_) (fun c36 => ?_)
      · replace h := o_t c36 h
        refine lv_iconst (v := 0) hx hb dX5_goesRunner_53 (by decide) ?_
        exact rZ hQ hx hb hr hlk hw (Or.inl rfl) dX5_goesRunner_54 (o_2a h) rfl (o_2b h)
      · replace h := o_f c36 h
        refine lv_aload_n hx hb dX5_goesRunner_39 rfl (lv_at hl 0 rfl) ?_
        refine lv_iconst (v := 1) hx hb dX5_goesRunner_40 (by decide) ?_
        refine lv_bipush (v := 97) hx hb dX5_goesRunner_41 (by decide) ?_
        refine lv_bipush (v := 99) hx hb dX5_goesRunner_43 (by decide) ?_
        refine lv_bipush (v := 101) hx hb dX5_goesRunner_45 (by decide) ?_
        obtain ⟨q47, eq47, h⟩ := o_bd h
        refine kV (As := [.int (1 : Int32), .int (97 : Int32), .int (99 : Int32), .int (101 : Int32)]) (rest := []) (st' := [.int q47]) ⟨hx, hb, hml, hown, hts⟩ (kX5_has3 l G eq47) (cwV 4 hts gX5_goesRunner_X5_has3 rfl rfl rfl qqX5_has3 ⟨Nat.le_of_ble_eq_true rfl, Nat.le_of_ble_eq_true rfl⟩) hw (rvMd hw) rfl hl.1 rfl (Nat.le_of_ble_eq_true rfl) dX5_goesRunner_47 ⟨Nat.zero_le _, Nat.zero_le _⟩ rfl (fun H locs hw => ?_)
        refine lv_if_ne (tgt := 55) hx hb dX5_goesRunner_50 (by decide) (fun c50 => ?_) (fun c50 => ?_)
        · replace h := o_f c50 h
          refine lv_aload_n hx hb dX5_goesRunner_55 rfl (lv_at hl 0 rfl) ?_
          obtain ⟨q56, eq56, h⟩ := o_bd h
          refine kV (As := []) (rest := []) (st' := []) ⟨hx, hb, hml, hown, hts⟩ (kX5_nextToken l G eq56) (cwV 0 hts gX5_goesRunner_X5_nextToken rfl rfl rfl qqX5_nextToken ⟨Nat.le_of_ble_eq_true rfl, Nat.le_of_ble_eq_true rfl⟩) hw (rvMd hw) rfl hl.1 rfl (Nat.le_of_ble_eq_true rfl) dX5_goesRunner_56 ⟨Nat.zero_le _, Nat.zero_le _⟩ rfl (fun H locs hw => ?_)
          refine lv_aload_n hx hb dX5_goesRunner_59 rfl (lv_at hl 0 rfl) ?_
          refine lv_iconst (v := 1) hx hb dX5_goesRunner_60 (by decide) ?_
          refine lv_bipush (v := 12) hx hb dX5_goesRunner_61 (by decide) ?_
          obtain ⟨q63, eq63, h⟩ := o_bd h
          refine kV (As := [.int (1 : Int32), .int (12 : Int32)]) (rest := []) (st' := [.int q63]) ⟨hx, hb, hml, hown, hts⟩ (kX5_isNumber l G eq63) (cwV 2 hts gX5_goesRunner_X5_isNumber rfl rfl rfl qqX5_isNumber ⟨Nat.le_of_ble_eq_true rfl, Nat.le_of_ble_eq_true rfl⟩) hw (rvMd hw) rfl hl.1 rfl (Nat.le_of_ble_eq_true rfl) dX5_goesRunner_63 ⟨Nat.zero_le _, Nat.zero_le _⟩ rfl (fun H locs hw => ?_)
          refine lv_if_ne (tgt := 71) hx hb dX5_goesRunner_66 (by decide) (fun c66 => ?_) (fun c66 => ?_)
          · replace h := o_f c66 h
            refine lv_aload_n hx hb dX5_goesRunner_71 rfl (lv_at hl 0 rfl) ?_
            refine lv_iload_n hx hb dX5_goesRunner_72 rfl (lv_at hl 1 rfl) ?_
            refine lv_aload_n hx hb dX5_goesRunner_73 rfl (lv_at hl 0 rfl) ?_
            refine gMd (v := .int (q56.1 5)) hx hb hts hiX5 hown hw 14 (by decide) (hts (.fieldLink RX5 190 "SecondHomeModel" "value" "I") (by decide +kernel)) rfl dX5_goesRunner_74 ?_
            obtain ⟨q77, eq77, h⟩ := o_bd h
            refine kV (As := [.int a1, .int (q56.1 5)]) (rest := []) (st' := [.int q77.1]) ⟨hx, hb, hml, hown, hts⟩ (kX5_comes l G eq77) (cwV 2 hts gX5_goesRunner_X5_comes rfl rfl rfl qqX5_comes ⟨Nat.le_of_ble_eq_true rfl, Nat.le_of_ble_eq_true rfl⟩) hw (rvMd hw) rfl hl.1 rfl (Nat.le_of_ble_eq_true rfl) dX5_goesRunner_77 ⟨Nat.zero_le _, Nat.zero_le _⟩ rfl (fun H locs hw => ?_)
            refine lv_istore_n (lv' := [(2, .int q77.1), (0, .ref (sA G 9 0)), (1, .int a1)]) hx hb dX5_goesRunner_80 rfl hl (by decide) rfl (fun ls hl => ?_)
            refine lv_aload_n hx hb dX5_goesRunner_81 rfl (lv_at hl 1 rfl) ?_
            obtain ⟨q82, eq82, h⟩ := o_bd h
            refine kV (As := []) (rest := []) (st' := []) ⟨hx, hb, hml, hown, hts⟩ (kX5_nextToken l G eq82) (cwV 0 hts gX5_goesRunner_X5_nextToken rfl rfl rfl qqX5_nextToken ⟨Nat.le_of_ble_eq_true rfl, Nat.le_of_ble_eq_true rfl⟩) hw (rvMd hw) rfl hl.1 rfl (Nat.le_of_ble_eq_true rfl) dX5_goesRunner_82 ⟨Nat.zero_le _, Nat.zero_le _⟩ rfl (fun H locs hw => ?_)
            refine lv_aload_n hx hb dX5_goesRunner_85 rfl (lv_at hl 1 rfl) ?_
            refine lv_aload_n hx hb dX5_goesRunner_86 rfl (lv_at hl 1 rfl) ?_
            refine lv_bipush (v := 6) hx hb dX5_goesRunner_87 (by decide) ?_
            obtain ⟨q89, eq89, h⟩ := o_bd h
            refine kV (As := [.int (6 : Int32)]) (rest := [.ref (sA G 9 0)]) (st' := [.int q89, .ref (sA G 9 0)]) ⟨hx, hb, hml, hown, hts⟩ (kX5_isWord l G eq89) (cwV 1 hts gX5_goesRunner_X5_isWord rfl rfl rfl qqX5_isWord ⟨Nat.le_of_ble_eq_true rfl, Nat.le_of_ble_eq_true rfl⟩) hw (rvMd hw) rfl hl.1 rfl (Nat.le_of_ble_eq_true rfl) dX5_goesRunner_89 ⟨Nat.zero_le _, Nat.zero_le _⟩ rfl (fun H locs hw => ?_)
            obtain ⟨k128, ek128, h⟩ := o_nm h
            have J128 : ∀ (y0_128 : Int32) (H : Heap) (locs : List Loc) (ls : Array Slot), sHw G s S q82 H locs → lv_has ls 4 [(0, .ref (sA G 9 0)), (2, .int q77.1)] → k128 y0_128 = some q → W p l e rmX5_goesRunner s m args below meth c H locs 0 0 Q (F0 m 128 ls [.int y0_128, .ref (sA G 9 0)]) := by
              intro y0_128 H locs ls hw hl h
              replace h := o_j1 ek128 h
              refine lv_iconst (v := 0) hx hb dX5_goesRunner_128 (by decide) ?_
              refine lv_sipush (v := 999) hx hb dX5_goesRunner_129 (by decide) ?_
              obtain ⟨q132, eq132, h⟩ := o_bd h
              refine kV (As := [.int y0_128, .int (0 : Int32), .int (999 : Int32)]) (rest := []) (st' := [.int q132.1]) ⟨hx, hb, hml, hown, hts⟩ (kX5_mayCome l G eq132) (cwV 3 hts gX5_goesRunner_X5_mayCome rfl rfl rfl qqX5_mayCome ⟨Nat.le_of_ble_eq_true rfl, Nat.le_of_ble_eq_true rfl⟩) hw (rvMd hw) rfl hl.1 rfl (Nat.le_of_ble_eq_true rfl) dX5_goesRunner_132 ⟨Nat.zero_le _, Nat.zero_le _⟩ rfl (fun H locs hw => ?_)
              refine lv_istore_n (lv' := [(3, .int q132.1), (0, .ref (sA G 9 0)), (2, .int q77.1)]) hx hb dX5_goesRunner_135 rfl hl (by decide) rfl (fun ls hl => ?_)
              refine lv_iload_n hx hb dX5_goesRunner_136 rfl (lv_at hl 0 rfl) ?_
              obtain ⟨k154, ek154, h⟩ := o_nm h
              have J154 : ∀ (T_154 : sOb) (H : Heap) (locs : List Loc) (ls : Array Slot), sHw G s S T_154 H locs → lv_has ls 4 [(0, .ref (sA G 9 0)), (2, .int q77.1), (3, .int q132.1)] → k154 T_154 = some q → W p l e rmX5_goesRunner s m args below meth c H locs 0 0 Q (F0 m 154 ls []) := by
                intro T_154 H locs ls hw hl h
                replace h := o_j1 ek154 h
                refine lv_iload_n hx hb dX5_goesRunner_154 rfl (lv_at hl 2 rfl) ?_
                obtain ⟨k212, ek212, h⟩ := o_nm h
                have J212 : ∀ (y0_212 : Int32) (T_212 : sOb) (H : Heap) (locs : List Loc) (ls : Array Slot), sHw G s S T_212 H locs → lv_has ls 4 [(0, .ref (sA G 9 0)), (2, .int q77.1)] → k212 y0_212 T_212 = some q → W p l e rmX5_goesRunner s m args below meth c H locs 0 0 Q (F0 m 212 ls [.int y0_212]) := by
                  intro y0_212 T_212 H locs ls hw hl h
                  replace h := o_j2 ek212 h
                  refine lv_istore_n (lv' := [(3, .int y0_212), (0, .ref (sA G 9 0)), (2, .int q77.1)]) hx hb dX5_goesRunner_212 rfl hl (by decide) rfl (fun ls hl => ?_)
                  refine lv_iload_n hx hb dX5_goesRunner_213 rfl (lv_at hl 0 rfl) ?_
                  obtain ⟨k231, ek231, h⟩ := o_nm h
                  have J231 : ∀ (T_231 : sOb) (H : Heap) (locs : List Loc) (ls : Array Slot), sHw G s S T_231 H locs → lv_has ls 4 [(0, .ref (sA G 9 0)), (2, .int q77.1), (3, .int y0_212)] → k231 T_231 = some q → W p l e rmX5_goesRunner s m args below meth c H locs 0 0 Q (F0 m 231 ls []) := by
                    intro T_231 H locs ls hw hl h
                    replace h := o_j1 ek231 h
                    refine lv_iload_n hx hb dX5_goesRunner_231 rfl (lv_at hl 2 rfl) ?_
                    obtain ⟨k293, ek293, h⟩ := o_nm h
                    have J293 : ∀ (y0_293 : Int32) (T_293 : sOb) (H : Heap) (locs : List Loc) (ls : Array Slot), sHw G s S T_293 H locs → lv_has ls 4 [(0, .ref (sA G 9 0)), (2, .int q77.1)] → k293 y0_293 T_293 = some q → W p l e rmX5_goesRunner s m args below meth c H locs 0 0 Q (F0 m 293 ls [.int y0_293]) := by
                      intro y0_293 T_293 H locs ls hw hl h
                      replace h := o_j2 ek293 h
                      refine lv_istore_n (lv' := [(3, .int y0_293), (0, .ref (sA G 9 0)), (2, .int q77.1)]) hx hb dX5_goesRunner_293 rfl hl (by decide) rfl (fun ls hl => ?_)
                      refine lv_iload_n hx hb dX5_goesRunner_294 rfl (lv_at hl 0 rfl) ?_
                      obtain ⟨k322, ek322, h⟩ := o_nm h
                      have J322 : ∀ (T_322 : sOb) (H : Heap) (locs : List Loc) (ls : Array Slot), sHw G s S T_322 H locs → lv_has ls 4 [(3, .int y0_293)] → k322 T_322 = some q → W p l e rmX5_goesRunner s m args below meth c H locs 0 0 Q (F0 m 322 ls []) := by
                        intro T_322 H locs ls hw hl h
                        replace h := o_j1 ek322 h
                        refine lv_iload_n hx hb dX5_goesRunner_322 rfl (lv_at hl 0 rfl) ?_
                        refine lv_if_lt (tgt := 330) hx hb dX5_goesRunner_323 (by decide) (fun c323 => ?_) (fun c323 => ?_)
                        · replace h := o_t c323 h
                          refine lv_iconst (v := 0) hx hb dX5_goesRunner_330 (by decide) ?_
                          exact rZ hQ hx hb hr hlk hw (Or.inl rfl) dX5_goesRunner_331 (o_2a h) rfl (o_2b h)
                        · replace h := o_f c323 h
                          refine lv_iconst (v := 1) hx hb dX5_goesRunner_326 (by decide) ?_
                          refine lv_goto (tgt := 331) hx hb dX5_goesRunner_327 (by decide) ?_
                          exact rZ hQ hx hb hr hlk hw (Or.inr rfl) dX5_goesRunner_331 (o_2a h) rfl (o_2b h)
                      refine lv_if_le (tgt := 322) hx hb dX5_goesRunner_295 (by decide) (fun c295 => ?_) (fun c295 => ?_)
                      · replace h := o_t c295 h
                        exact J322 T_293 _ _ _ hw (lv_sub hl [0] rfl) h
                      · replace h := o_f c295 h
                        refine lv_aload_n hx hb dX5_goesRunner_298 rfl (lv_at hl 1 rfl) ?_
                        refine lv_iload_n hx hb dX5_goesRunner_299 rfl (lv_at hl 2 rfl) ?_
                        refine lv_iconst (v := 4) hx hb dX5_goesRunner_300 (by decide) ?_
                        refine lv_aload_n hx hb dX5_goesRunner_301 rfl (lv_at hl 1 rfl) ?_
                        refine gMd (v := .int (T_293.1 5)) hx hb hts hiX5 hown hw 14 (by decide) (hts (.fieldLink RX5 190 "SecondHomeModel" "value" "I") (by decide +kernel)) rfl dX5_goesRunner_302 ?_
                        obtain ⟨q305, eq305, h⟩ := o_bd h
                        refine kV (As := [.int q77.1, .int (4 : Int32), .int (T_293.1 5)]) (rest := []) (st' := []) ⟨hx, hb, hml, hown, hts⟩ (kX5_puts l G eq305) (cwV 3 hts gX5_goesRunner_X5_puts rfl rfl rfl qqX5_puts ⟨Nat.le_of_ble_eq_true rfl, Nat.le_of_ble_eq_true rfl⟩) hw (rvMd hw) rfl hl.1 rfl (Nat.le_of_ble_eq_true rfl) dX5_goesRunner_305 ⟨Nat.zero_le _, Nat.zero_le _⟩ rfl (fun H locs hw => ?_)
                        refine lv_aload_n hx hb dX5_goesRunner_308 rfl (lv_at hl 1 rfl) ?_
                        refine lv_iload_n hx hb dX5_goesRunner_309 rfl (lv_at hl 2 rfl) ?_
                        refine lv_iconst (v := 5) hx hb dX5_goesRunner_310 (by decide) ?_
                        refine lv_aload_n hx hb dX5_goesRunner_311 rfl (lv_at hl 1 rfl) ?_
                        refine gMd (v := .int (q305.1 5)) hx hb hts hiX5 hown hw 14 (by decide) (hts (.fieldLink RX5 190 "SecondHomeModel" "value" "I") (by decide +kernel)) rfl dX5_goesRunner_312 ?_
                        obtain ⟨q315, eq315, h⟩ := o_bd h
                        refine kV (As := [.int q77.1, .int (5 : Int32), .int (q305.1 5)]) (rest := []) (st' := []) ⟨hx, hb, hml, hown, hts⟩ (kX5_puts l G eq315) (cwV 3 hts gX5_goesRunner_X5_puts rfl rfl rfl qqX5_puts ⟨Nat.le_of_ble_eq_true rfl, Nat.le_of_ble_eq_true rfl⟩) hw (rvMd hw) rfl hl.1 rfl (Nat.le_of_ble_eq_true rfl) dX5_goesRunner_315 ⟨Nat.zero_le _, Nat.zero_le _⟩ rfl (fun H locs hw => ?_)
                        refine lv_aload_n hx hb dX5_goesRunner_318 rfl (lv_at hl 1 rfl) ?_
                        obtain ⟨q319, eq319, h⟩ := o_bd h
                        refine kV (As := []) (rest := []) (st' := []) ⟨hx, hb, hml, hown, hts⟩ (kX5_nextToken l G eq319) (cwV 0 hts gX5_goesRunner_X5_nextToken rfl rfl rfl qqX5_nextToken ⟨Nat.le_of_ble_eq_true rfl, Nat.le_of_ble_eq_true rfl⟩) hw (rvMd hw) rfl hl.1 rfl (Nat.le_of_ble_eq_true rfl) dX5_goesRunner_319 ⟨Nat.zero_le _, Nat.zero_le _⟩ rfl (fun H locs hw => ?_)
                        exact J322 q319 _ _ _ hw (lv_sub hl [0] rfl) h
                    refine lv_if_ge (tgt := 239) hx hb dX5_goesRunner_232 (by decide) (fun c232 => ?_) (fun c232 => ?_)
                    · replace h := o_t c232 h
                      refine lv_aload_n hx hb dX5_goesRunner_239 rfl (lv_at hl 0 rfl) ?_
                      refine lv_aload_n hx hb dX5_goesRunner_240 rfl (lv_at hl 0 rfl) ?_
                      refine lv_iconst (v := 5) hx hb dX5_goesRunner_241 (by decide) ?_
                      obtain ⟨q242, eq242, h⟩ := o_bd h
                      refine kV (As := [.int (5 : Int32)]) (rest := [.ref (sA G 9 0)]) (st' := [.int q242, .ref (sA G 9 0)]) ⟨hx, hb, hml, hown, hts⟩ (kX5_isWord l G eq242) (cwV 1 hts gX5_goesRunner_X5_isWord rfl rfl rfl qqX5_isWord ⟨Nat.le_of_ble_eq_true rfl, Nat.le_of_ble_eq_true rfl⟩) hw (rvMd hw) rfl hl.1 rfl (Nat.le_of_ble_eq_true rfl) dX5_goesRunner_242 ⟨Nat.zero_le _, Nat.zero_le _⟩ rfl (fun H locs hw => ?_)
                      obtain ⟨k281, ek281, h⟩ := o_nm h
                      have J281 : ∀ (y0_281 : Int32) (H : Heap) (locs : List Loc) (ls : Array Slot), sHw G s S T_231 H locs → lv_has ls 4 [(0, .ref (sA G 9 0)), (2, .int q77.1)] → k281 y0_281 = some q → W p l e rmX5_goesRunner s m args below meth c H locs 0 0 Q (F0 m 281 ls [.int y0_281, .ref (sA G 9 0)]) := by
                        intro y0_281 H locs ls hw hl h
                        replace h := o_j1 ek281 h
                        refine lv_iconst (v := 0) hx hb dX5_goesRunner_281 (by decide) ?_
                        refine lv_aload_n hx hb dX5_goesRunner_282 rfl (lv_at hl 0 rfl) ?_
                        refine gMd (v := .ref (sA G 9 1)) hx hb hts hiX5 hown hw 0 (by decide) (hts (.fieldLink RX5 7 "SecondHomeModel" "s" "[I") (by decide +kernel)) rfl dX5_goesRunner_283 ?_
                        refine lv_iconst (v := 1) hx hb dX5_goesRunner_286 (by decide) ?_
                        refine ldMd hx hb hw 0 (by decide) (n := 77) rfl (by decide) dX5_goesRunner_287 ?_
                        refine lv_iconst (v := 1) hx hb dX5_goesRunner_288 (by decide) ?_
                        refine lv_isub hx hb dX5_goesRunner_289 ?_
                        obtain ⟨q290, eq290, h⟩ := o_bd h
                        refine kV (As := [.int y0_281, .int (0 : Int32), .int ((T_231.2.1 0 (1 : Int32).toNatClampNeg) - (1 : Int32))]) (rest := []) (st' := [.int q290.1]) ⟨hx, hb, hml, hown, hts⟩ (kX5_mayCome l G eq290) (cwV 3 hts gX5_goesRunner_X5_mayCome rfl rfl rfl qqX5_mayCome ⟨Nat.le_of_ble_eq_true rfl, Nat.le_of_ble_eq_true rfl⟩) hw (rvMd hw) rfl hl.1 rfl (Nat.le_of_ble_eq_true rfl) dX5_goesRunner_290 ⟨Nat.zero_le _, Nat.zero_le _⟩ rfl (fun H locs hw => ?_)
                        exact J293 q290.1 q290.2 _ _ _ hw (lv_sub hl [0, 1] rfl) h
                      obtain ⟨k280, ek280, h⟩ := o_nm h
                      have J280 : ∀ (H : Heap) (locs : List Loc) (ls : Array Slot), sHw G s S T_231 H locs → lv_has ls 4 [(0, .ref (sA G 9 0)), (2, .int q77.1)] → k280 = some q → W p l e rmX5_goesRunner s m args below meth c H locs 0 0 Q (F0 m 280 ls [.ref (sA G 9 0)]) := by
                        intro H locs ls hw hl h
                        replace h := o_j0 ek280 h
                        refine lv_iconst (v := 0) hx hb dX5_goesRunner_280 (by decide) ?_
                        exact J281 (0 : Int32) _ _ _ hw (lv_sub hl [0, 1] rfl) h
                      refine lv_if_eq (tgt := 280) hx hb dX5_goesRunner_245 (by decide) (fun c245 => ?_) (fun c245 => ?_)
                      · replace h := o_t c245 h
                        exact J280 _ _ _ hw (lv_sub hl [0, 1] rfl) h
                      · replace h := o_f c245 h
                        refine lv_aload_n hx hb dX5_goesRunner_248 rfl (lv_at hl 0 rfl) ?_
                        refine lv_iconst (v := 0) hx hb dX5_goesRunner_249 (by decide) ?_
                        refine lv_bipush (v := 115) hx hb dX5_goesRunner_250 (by decide) ?_
                        refine lv_bipush (v := 116) hx hb dX5_goesRunner_252 (by decide) ?_
                        refine lv_bipush (v := 97) hx hb dX5_goesRunner_254 (by decide) ?_
                        obtain ⟨q256, eq256, h⟩ := o_bd h
                        refine kV (As := [.int (0 : Int32), .int (115 : Int32), .int (116 : Int32), .int (97 : Int32)]) (rest := [.ref (sA G 9 0)]) (st' := [.int q256, .ref (sA G 9 0)]) ⟨hx, hb, hml, hown, hts⟩ (kX5_has3 l G eq256) (cwV 4 hts gX5_goesRunner_X5_has3 rfl rfl rfl qqX5_has3 ⟨Nat.le_of_ble_eq_true rfl, Nat.le_of_ble_eq_true rfl⟩) hw (rvMd hw) rfl hl.1 rfl (Nat.le_of_ble_eq_true rfl) dX5_goesRunner_256 ⟨Nat.zero_le _, Nat.zero_le _⟩ rfl (fun H locs hw => ?_)
                        refine lv_if_eq (tgt := 280) hx hb dX5_goesRunner_259 (by decide) (fun c259 => ?_) (fun c259 => ?_)
                        · replace h := o_t c259 h
                          exact J280 _ _ _ hw (lv_sub hl [0, 1] rfl) h
                        · replace h := o_f c259 h
                          refine lv_aload_n hx hb dX5_goesRunner_262 rfl (lv_at hl 0 rfl) ?_
                          refine lv_iconst (v := 2) hx hb dX5_goesRunner_263 (by decide) ?_
                          refine lv_bipush (v := 97) hx hb dX5_goesRunner_264 (by decide) ?_
                          refine lv_bipush (v := 114) hx hb dX5_goesRunner_266 (by decide) ?_
                          refine lv_bipush (v := 116) hx hb dX5_goesRunner_268 (by decide) ?_
                          obtain ⟨q270, eq270, h⟩ := o_bd h
                          refine kV (As := [.int (2 : Int32), .int (97 : Int32), .int (114 : Int32), .int (116 : Int32)]) (rest := [.ref (sA G 9 0)]) (st' := [.int q270, .ref (sA G 9 0)]) ⟨hx, hb, hml, hown, hts⟩ (kX5_has3 l G eq270) (cwV 4 hts gX5_goesRunner_X5_has3 rfl rfl rfl qqX5_has3 ⟨Nat.le_of_ble_eq_true rfl, Nat.le_of_ble_eq_true rfl⟩) hw (rvMd hw) rfl hl.1 rfl (Nat.le_of_ble_eq_true rfl) dX5_goesRunner_270 ⟨Nat.zero_le _, Nat.zero_le _⟩ rfl (fun H locs hw => ?_)
                          refine lv_if_eq (tgt := 280) hx hb dX5_goesRunner_273 (by decide) (fun c273 => ?_) (fun c273 => ?_)
                          · replace h := o_t c273 h
                            exact J280 _ _ _ hw (lv_sub hl [0, 1] rfl) h
                          · replace h := o_f c273 h
                            refine lv_iconst (v := 1) hx hb dX5_goesRunner_276 (by decide) ?_
                            refine lv_goto (tgt := 281) hx hb dX5_goesRunner_277 (by decide) ?_
                            exact J281 (1 : Int32) _ _ _ hw (lv_sub hl [0, 1] rfl) h
                    · replace h := o_f c232 h
                      refine lv_iconst (v := -1) hx hb dX5_goesRunner_235 (by decide) ?_
                      refine lv_goto (tgt := 293) hx hb dX5_goesRunner_236 (by decide) ?_
                      exact J293 (-1 : Int32) T_231 _ _ _ hw (lv_sub hl [0, 1] rfl) h
                  refine lv_if_le (tgt := 231) hx hb dX5_goesRunner_214 (by decide) (fun c214 => ?_) (fun c214 => ?_)
                  · replace h := o_t c214 h
                    exact J231 T_212 _ _ _ hw (lv_sub hl [1, 2, 0] rfl) h
                  · replace h := o_f c214 h
                    refine lv_aload_n hx hb dX5_goesRunner_217 rfl (lv_at hl 1 rfl) ?_
                    refine lv_iload_n hx hb dX5_goesRunner_218 rfl (lv_at hl 2 rfl) ?_
                    refine lv_iconst (v := 3) hx hb dX5_goesRunner_219 (by decide) ?_
                    refine lv_aload_n hx hb dX5_goesRunner_220 rfl (lv_at hl 1 rfl) ?_
                    refine gMd (v := .int (T_212.1 5)) hx hb hts hiX5 hown hw 14 (by decide) (hts (.fieldLink RX5 190 "SecondHomeModel" "value" "I") (by decide +kernel)) rfl dX5_goesRunner_221 ?_
                    obtain ⟨q224, eq224, h⟩ := o_bd h
                    refine kV (As := [.int q77.1, .int (3 : Int32), .int (T_212.1 5)]) (rest := []) (st' := []) ⟨hx, hb, hml, hown, hts⟩ (kX5_puts l G eq224) (cwV 3 hts gX5_goesRunner_X5_puts rfl rfl rfl qqX5_puts ⟨Nat.le_of_ble_eq_true rfl, Nat.le_of_ble_eq_true rfl⟩) hw (rvMd hw) rfl hl.1 rfl (Nat.le_of_ble_eq_true rfl) dX5_goesRunner_224 ⟨Nat.zero_le _, Nat.zero_le _⟩ rfl (fun H locs hw => ?_)
                    refine lv_aload_n hx hb dX5_goesRunner_227 rfl (lv_at hl 1 rfl) ?_
                    obtain ⟨q228, eq228, h⟩ := o_bd h
                    refine kV (As := []) (rest := []) (st' := []) ⟨hx, hb, hml, hown, hts⟩ (kX5_nextToken l G eq228) (cwV 0 hts gX5_goesRunner_X5_nextToken rfl rfl rfl qqX5_nextToken ⟨Nat.le_of_ble_eq_true rfl, Nat.le_of_ble_eq_true rfl⟩) hw (rvMd hw) rfl hl.1 rfl (Nat.le_of_ble_eq_true rfl) dX5_goesRunner_228 ⟨Nat.zero_le _, Nat.zero_le _⟩ rfl (fun H locs hw => ?_)
                    exact J231 q228 _ _ _ hw (lv_sub hl [1, 2, 0] rfl) h
                refine lv_if_ge (tgt := 162) hx hb dX5_goesRunner_155 (by decide) (fun c155 => ?_) (fun c155 => ?_)
                · replace h := o_t c155 h
                  refine lv_aload_n hx hb dX5_goesRunner_162 rfl (lv_at hl 0 rfl) ?_
                  refine lv_aload_n hx hb dX5_goesRunner_163 rfl (lv_at hl 0 rfl) ?_
                  refine lv_bipush (v := 6) hx hb dX5_goesRunner_164 (by decide) ?_
                  obtain ⟨q166, eq166, h⟩ := o_bd h
                  refine kV (As := [.int (6 : Int32)]) (rest := [.ref (sA G 9 0)]) (st' := [.int q166, .ref (sA G 9 0)]) ⟨hx, hb, hml, hown, hts⟩ (kX5_isWord l G eq166) (cwV 1 hts gX5_goesRunner_X5_isWord rfl rfl rfl qqX5_isWord ⟨Nat.le_of_ble_eq_true rfl, Nat.le_of_ble_eq_true rfl⟩) hw (rvMd hw) rfl hl.1 rfl (Nat.le_of_ble_eq_true rfl) dX5_goesRunner_166 ⟨Nat.zero_le _, Nat.zero_le _⟩ rfl (fun H locs hw => ?_)
                  obtain ⟨k205, ek205, h⟩ := o_nm h
                  have J205 : ∀ (y0_205 : Int32) (H : Heap) (locs : List Loc) (ls : Array Slot), sHw G s S T_154 H locs → lv_has ls 4 [(0, .ref (sA G 9 0)), (2, .int q77.1)] → k205 y0_205 = some q → W p l e rmX5_goesRunner s m args below meth c H locs 0 0 Q (F0 m 205 ls [.int y0_205, .ref (sA G 9 0)]) := by
                    intro y0_205 H locs ls hw hl h
                    replace h := o_j1 ek205 h
                    refine lv_iconst (v := 0) hx hb dX5_goesRunner_205 (by decide) ?_
                    refine lv_iload_n hx hb dX5_goesRunner_206 rfl (lv_at hl 1 rfl) ?_
                    refine lv_iconst (v := 1) hx hb dX5_goesRunner_207 (by decide) ?_
                    refine lv_isub hx hb dX5_goesRunner_208 ?_
                    obtain ⟨q209, eq209, h⟩ := o_bd h
                    refine kV (As := [.int y0_205, .int (0 : Int32), .int (q77.1 - (1 : Int32))]) (rest := []) (st' := [.int q209.1]) ⟨hx, hb, hml, hown, hts⟩ (kX5_mayCome l G eq209) (cwV 3 hts gX5_goesRunner_X5_mayCome rfl rfl rfl qqX5_mayCome ⟨Nat.le_of_ble_eq_true rfl, Nat.le_of_ble_eq_true rfl⟩) hw (rvMd hw) rfl hl.1 rfl (Nat.le_of_ble_eq_true rfl) dX5_goesRunner_209 ⟨Nat.zero_le _, Nat.zero_le _⟩ rfl (fun H locs hw => ?_)
                    exact J212 q209.1 q209.2 _ _ _ hw (lv_sub hl [0, 1] rfl) h
                  obtain ⟨k204, ek204, h⟩ := o_nm h
                  have J204 : ∀ (H : Heap) (locs : List Loc) (ls : Array Slot), sHw G s S T_154 H locs → lv_has ls 4 [(0, .ref (sA G 9 0)), (2, .int q77.1)] → k204 = some q → W p l e rmX5_goesRunner s m args below meth c H locs 0 0 Q (F0 m 204 ls [.ref (sA G 9 0)]) := by
                    intro H locs ls hw hl h
                    replace h := o_j0 ek204 h
                    refine lv_iconst (v := 0) hx hb dX5_goesRunner_204 (by decide) ?_
                    exact J205 (0 : Int32) _ _ _ hw (lv_sub hl [0, 1] rfl) h
                  refine lv_if_eq (tgt := 204) hx hb dX5_goesRunner_169 (by decide) (fun c169 => ?_) (fun c169 => ?_)
                  · replace h := o_t c169 h
                    exact J204 _ _ _ hw (lv_sub hl [0, 1] rfl) h
                  · replace h := o_f c169 h
                    refine lv_aload_n hx hb dX5_goesRunner_172 rfl (lv_at hl 0 rfl) ?_
                    refine lv_iconst (v := 0) hx hb dX5_goesRunner_173 (by decide) ?_
                    refine lv_bipush (v := 102) hx hb dX5_goesRunner_174 (by decide) ?_
                    refine lv_bipush (v := 114) hx hb dX5_goesRunner_176 (by decide) ?_
                    refine lv_bipush (v := 105) hx hb dX5_goesRunner_178 (by decide) ?_
                    obtain ⟨q180, eq180, h⟩ := o_bd h
                    refine kV (As := [.int (0 : Int32), .int (102 : Int32), .int (114 : Int32), .int (105 : Int32)]) (rest := [.ref (sA G 9 0)]) (st' := [.int q180, .ref (sA G 9 0)]) ⟨hx, hb, hml, hown, hts⟩ (kX5_has3 l G eq180) (cwV 4 hts gX5_goesRunner_X5_has3 rfl rfl rfl qqX5_has3 ⟨Nat.le_of_ble_eq_true rfl, Nat.le_of_ble_eq_true rfl⟩) hw (rvMd hw) rfl hl.1 rfl (Nat.le_of_ble_eq_true rfl) dX5_goesRunner_180 ⟨Nat.zero_le _, Nat.zero_le _⟩ rfl (fun H locs hw => ?_)
                    refine lv_if_eq (tgt := 204) hx hb dX5_goesRunner_183 (by decide) (fun c183 => ?_) (fun c183 => ?_)
                    · replace h := o_t c183 h
                      exact J204 _ _ _ hw (lv_sub hl [0, 1] rfl) h
                    · replace h := o_f c183 h
                      refine lv_aload_n hx hb dX5_goesRunner_186 rfl (lv_at hl 0 rfl) ?_
                      refine lv_iconst (v := 3) hx hb dX5_goesRunner_187 (by decide) ?_
                      refine lv_bipush (v := 101) hx hb dX5_goesRunner_188 (by decide) ?_
                      refine lv_bipush (v := 110) hx hb dX5_goesRunner_190 (by decide) ?_
                      refine lv_bipush (v := 100) hx hb dX5_goesRunner_192 (by decide) ?_
                      obtain ⟨q194, eq194, h⟩ := o_bd h
                      refine kV (As := [.int (3 : Int32), .int (101 : Int32), .int (110 : Int32), .int (100 : Int32)]) (rest := [.ref (sA G 9 0)]) (st' := [.int q194, .ref (sA G 9 0)]) ⟨hx, hb, hml, hown, hts⟩ (kX5_has3 l G eq194) (cwV 4 hts gX5_goesRunner_X5_has3 rfl rfl rfl qqX5_has3 ⟨Nat.le_of_ble_eq_true rfl, Nat.le_of_ble_eq_true rfl⟩) hw (rvMd hw) rfl hl.1 rfl (Nat.le_of_ble_eq_true rfl) dX5_goesRunner_194 ⟨Nat.zero_le _, Nat.zero_le _⟩ rfl (fun H locs hw => ?_)
                      refine lv_if_eq (tgt := 204) hx hb dX5_goesRunner_197 (by decide) (fun c197 => ?_) (fun c197 => ?_)
                      · replace h := o_t c197 h
                        exact J204 _ _ _ hw (lv_sub hl [0, 1] rfl) h
                      · replace h := o_f c197 h
                        refine lv_iconst (v := 1) hx hb dX5_goesRunner_200 (by decide) ?_
                        refine lv_goto (tgt := 205) hx hb dX5_goesRunner_201 (by decide) ?_
                        exact J205 (1 : Int32) _ _ _ hw (lv_sub hl [0, 1] rfl) h
                · replace h := o_f c155 h
                  refine lv_iconst (v := -1) hx hb dX5_goesRunner_158 (by decide) ?_
                  refine lv_goto (tgt := 212) hx hb dX5_goesRunner_159 (by decide) ?_
                  exact J212 (-1 : Int32) T_154 _ _ _ hw (lv_sub hl [0, 1] rfl) h
              refine lv_if_le (tgt := 154) hx hb dX5_goesRunner_137 (by decide) (fun c137 => ?_) (fun c137 => ?_)
              · replace h := o_t c137 h
                exact J154 q132.2 _ _ _ hw (lv_sub hl [1, 2, 0] rfl) h
              · replace h := o_f c137 h
                refine lv_aload_n hx hb dX5_goesRunner_140 rfl (lv_at hl 1 rfl) ?_
                refine lv_iload_n hx hb dX5_goesRunner_141 rfl (lv_at hl 2 rfl) ?_
                refine lv_iconst (v := 2) hx hb dX5_goesRunner_142 (by decide) ?_
                refine lv_aload_n hx hb dX5_goesRunner_143 rfl (lv_at hl 1 rfl) ?_
                refine gMd (v := .int (q132.2.1 5)) hx hb hts hiX5 hown hw 14 (by decide) (hts (.fieldLink RX5 190 "SecondHomeModel" "value" "I") (by decide +kernel)) rfl dX5_goesRunner_144 ?_
                obtain ⟨q147, eq147, h⟩ := o_bd h
                refine kV (As := [.int q77.1, .int (2 : Int32), .int (q132.2.1 5)]) (rest := []) (st' := []) ⟨hx, hb, hml, hown, hts⟩ (kX5_puts l G eq147) (cwV 3 hts gX5_goesRunner_X5_puts rfl rfl rfl qqX5_puts ⟨Nat.le_of_ble_eq_true rfl, Nat.le_of_ble_eq_true rfl⟩) hw (rvMd hw) rfl hl.1 rfl (Nat.le_of_ble_eq_true rfl) dX5_goesRunner_147 ⟨Nat.zero_le _, Nat.zero_le _⟩ rfl (fun H locs hw => ?_)
                refine lv_aload_n hx hb dX5_goesRunner_150 rfl (lv_at hl 1 rfl) ?_
                obtain ⟨q151, eq151, h⟩ := o_bd h
                refine kV (As := []) (rest := []) (st' := []) ⟨hx, hb, hml, hown, hts⟩ (kX5_nextToken l G eq151) (cwV 0 hts gX5_goesRunner_X5_nextToken rfl rfl rfl qqX5_nextToken ⟨Nat.le_of_ble_eq_true rfl, Nat.le_of_ble_eq_true rfl⟩) hw (rvMd hw) rfl hl.1 rfl (Nat.le_of_ble_eq_true rfl) dX5_goesRunner_151 ⟨Nat.zero_le _, Nat.zero_le _⟩ rfl (fun H locs hw => ?_)
                exact J154 q151 _ _ _ hw (lv_sub hl [1, 2, 0] rfl) h
            obtain ⟨k127, ek127, h⟩ := o_nm h
            have J127 : ∀ (H : Heap) (locs : List Loc) (ls : Array Slot), sHw G s S q82 H locs → lv_has ls 4 [(0, .ref (sA G 9 0)), (2, .int q77.1)] → k127 = some q → W p l e rmX5_goesRunner s m args below meth c H locs 0 0 Q (F0 m 127 ls [.ref (sA G 9 0)]) := by
              intro H locs ls hw hl h
              replace h := o_j0 ek127 h
              refine lv_iconst (v := 0) hx hb dX5_goesRunner_127 (by decide) ?_
              exact J128 (0 : Int32) _ _ _ hw (lv_sub hl [0, 1] rfl) h
            refine lv_if_eq (tgt := 127) hx hb dX5_goesRunner_92 (by decide) (fun c92 => ?_) (fun c92 => ?_)
            · replace h := o_t c92 h
              exact J127 _ _ _ hw (lv_sub hl [1, 0] rfl) h
            · replace h := o_f c92 h
              refine lv_aload_n hx hb dX5_goesRunner_95 rfl (lv_at hl 1 rfl) ?_
              refine lv_iconst (v := 0) hx hb dX5_goesRunner_96 (by decide) ?_
              refine lv_bipush (v := 98) hx hb dX5_goesRunner_97 (by decide) ?_
              refine lv_bipush (v := 114) hx hb dX5_goesRunner_99 (by decide) ?_
              refine lv_bipush (v := 101) hx hb dX5_goesRunner_101 (by decide) ?_
              obtain ⟨q103, eq103, h⟩ := o_bd h
              refine kV (As := [.int (0 : Int32), .int (98 : Int32), .int (114 : Int32), .int (101 : Int32)]) (rest := [.ref (sA G 9 0)]) (st' := [.int q103, .ref (sA G 9 0)]) ⟨hx, hb, hml, hown, hts⟩ (kX5_has3 l G eq103) (cwV 4 hts gX5_goesRunner_X5_has3 rfl rfl rfl qqX5_has3 ⟨Nat.le_of_ble_eq_true rfl, Nat.le_of_ble_eq_true rfl⟩) hw (rvMd hw) rfl hl.1 rfl (Nat.le_of_ble_eq_true rfl) dX5_goesRunner_103 ⟨Nat.zero_le _, Nat.zero_le _⟩ rfl (fun H locs hw => ?_)
              refine lv_if_eq (tgt := 127) hx hb dX5_goesRunner_106 (by decide) (fun c106 => ?_) (fun c106 => ?_)
              · replace h := o_t c106 h
                exact J127 _ _ _ hw (lv_sub hl [1, 0] rfl) h
              · replace h := o_f c106 h
                refine lv_aload_n hx hb dX5_goesRunner_109 rfl (lv_at hl 1 rfl) ?_
                refine lv_iconst (v := 3) hx hb dX5_goesRunner_110 (by decide) ?_
                refine lv_bipush (v := 97) hx hb dX5_goesRunner_111 (by decide) ?_
                refine lv_bipush (v := 116) hx hb dX5_goesRunner_113 (by decide) ?_
                refine lv_bipush (v := 104) hx hb dX5_goesRunner_115 (by decide) ?_
                obtain ⟨q117, eq117, h⟩ := o_bd h
                refine kV (As := [.int (3 : Int32), .int (97 : Int32), .int (116 : Int32), .int (104 : Int32)]) (rest := [.ref (sA G 9 0)]) (st' := [.int q117, .ref (sA G 9 0)]) ⟨hx, hb, hml, hown, hts⟩ (kX5_has3 l G eq117) (cwV 4 hts gX5_goesRunner_X5_has3 rfl rfl rfl qqX5_has3 ⟨Nat.le_of_ble_eq_true rfl, Nat.le_of_ble_eq_true rfl⟩) hw (rvMd hw) rfl hl.1 rfl (Nat.le_of_ble_eq_true rfl) dX5_goesRunner_117 ⟨Nat.zero_le _, Nat.zero_le _⟩ rfl (fun H locs hw => ?_)
                refine lv_if_eq (tgt := 127) hx hb dX5_goesRunner_120 (by decide) (fun c120 => ?_) (fun c120 => ?_)
                · replace h := o_t c120 h
                  exact J127 _ _ _ hw (lv_sub hl [1, 0] rfl) h
                · replace h := o_f c120 h
                  refine lv_iconst (v := 1) hx hb dX5_goesRunner_123 (by decide) ?_
                  refine lv_goto (tgt := 128) hx hb dX5_goesRunner_124 (by decide) ?_
                  exact J128 (1 : Int32) _ _ _ hw (lv_sub hl [1, 0] rfl) h
          · replace h := o_t c66 h
            refine lv_iconst (v := 0) hx hb dX5_goesRunner_69 (by decide) ?_
            exact rZ hQ hx hb hr hlk hw (Or.inl rfl) dX5_goesRunner_70 (o_2a h) rfl (o_2b h)
        · replace h := o_t c50 h
          refine lv_iconst (v := 0) hx hb dX5_goesRunner_53 (by decide) ?_
          exact rZ hQ hx hb hr hlk hw (Or.inl rfl) dX5_goesRunner_54 (o_2a h) rfl (o_2b h)
  · replace h := o_t c8 h
    refine lv_iconst (v := 0) hx hb dX5_goesRunner_11 (by decide) ?_
    exact rZ hQ hx hb hr hlk hw (Or.inl rfl) dX5_goesRunner_12 (o_2a h) rfl (o_2b h)
-- X5_goesLet
def fX5_goesLet (M : sOb) (a1 : Int32) : Option (Int32 × sOb) :=
  nm ((fX5_nextToken M).bind fun q16 => (fX5_leastOf a1).bind fun q21 => (fX5_mostOf a1).bind fun q25 => (fX5_isNumber q16 q21 q25).bind fun q28 => if q28 = 0 then (some ((0 : Int32), q16)) else (if ((1 : Int32) + a1) < 0 ∨ 77 ≤ ((1 : Int32) + a1).toNatClampNeg then none else nm (sSa q16 0 ((1 : Int32) + a1).toNatClampNeg (q16.1 5)) fun M47 => (fX5_nextToken M47).bind fun q49 => some ((1 : Int32), q49))) fun k15 => if a1 = 0 then (if (M.2.1 0 (0 : Int32).toNatClampNeg) ≤ 0 then k15 else (some ((0 : Int32), M))) else k15
def rmX5_goesLet : Room := { frames := 2, cells := 0, slots := 0, locals := 47 }
theorem qqX5_goesLet : yX5_goesLet.cls = RX5 ∧ yX5_goesLet.cls ≠ "java/lang/invoke/MethodHandle" ∧ yX5_goesLet.cls ≠ "java/lang/invoke/VarHandle" ∧ (parseMethodDescriptor yX5_goesLet.desc).map (fun d => d.parameters.length) = some 1 := by decide +kernel
set_option maxRecDepth 100000 in
set_option maxHeartbeats 4000000 in
theorem kX5_goesLet (l : Launch) (G : sGl) {S : sWo} {M : sOb} {a1 : Int32} {q : (Int32 × sOb)}  (h : fX5_goesLet M a1 = some q) : sCt l G yX5_goesLet wsX5_goesLet rmX5_goesLet [.ref (sA G 9 0), .int a1] S M (some (.int q.1)) S q.2 := by
  refine cMk (cc := cX5_goesLet) (maxL := 2) (ret := (some .boolean)) (by decide) rfl (Nat.le_of_ble_eq_true rfl) ?_
  intro p e s m args below meth c Q hQ hx hb hr hlk hml hown hts hw ls hl
  have hown : s.vm.findClass RX5 = some m.cls := hown
  have hl : lv_has ls 2 [(0, .ref (sA G 9 0)), (1, .int a1)] := hl
  have hiX5 : ∀ w ∈ u_ws RX5 TX5 15, w ∈ wsX5_goesLet := by decide +kernel
  unfold fX5_goesLet at h
  refine lv_iload_n hx hb dX5_goesLet_0 rfl (lv_at hl 1 rfl) ?_
  obtain ⟨k15, ek15, h⟩ := o_nm h
  have J15 : ∀ (H : Heap) (locs : List Loc) (ls : Array Slot), sHw G s S M H locs → lv_has ls 2 [(0, .ref (sA G 9 0)), (1, .int a1)] → k15 = some q → W p l e rmX5_goesLet s m args below meth c H locs 0 0 Q (F0 m 15 ls []) := by
    intro H locs ls hw hl h
    replace h := o_j0 ek15 h
    refine lv_aload_n hx hb dX5_goesLet_15 rfl (lv_at hl 0 rfl) ?_
    obtain ⟨q16, eq16, h⟩ := o_bd h
    refine kV (As := []) (rest := []) (st' := []) ⟨hx, hb, hml, hown, hts⟩ (kX5_nextToken l G eq16) (cwV 0 hts gX5_goesLet_X5_nextToken rfl rfl rfl qqX5_nextToken ⟨Nat.le_of_ble_eq_true rfl, Nat.le_of_ble_eq_true rfl⟩) hw (rvMd hw) rfl hl.1 rfl (Nat.le_of_ble_eq_true rfl) dX5_goesLet_16 ⟨Nat.zero_le _, Nat.zero_le _⟩ rfl (fun H locs hw => ?_)
    refine lv_aload_n hx hb dX5_goesLet_19 rfl (lv_at hl 0 rfl) ?_
    refine lv_iload_n hx hb dX5_goesLet_20 rfl (lv_at hl 1 rfl) ?_
    obtain ⟨q21, eq21, h⟩ := o_bd h
    refine kS (As := [.int a1]) (rest := [.ref (sA G 9 0)]) (st' := [.int q21, .ref (sA G 9 0)]) ⟨hx, hb, hml, hown, hts⟩ (kX5_leastOf l G eq21) (va_cwS 1 hts gX5_goesLet_X5_leastOf rfl rfl rfl qqX5_leastOf ⟨Nat.le_of_ble_eq_true rfl, Nat.le_of_ble_eq_true rfl⟩) hw rfl hl.1 rfl (Nat.le_of_ble_eq_true rfl) dX5_goesLet_21 ⟨Nat.zero_le _, Nat.zero_le _⟩ rfl (fun H locs hw => ?_)
    refine lv_iload_n hx hb dX5_goesLet_24 rfl (lv_at hl 1 rfl) ?_
    obtain ⟨q25, eq25, h⟩ := o_bd h
    refine kS (As := [.int a1]) (rest := [.int q21, .ref (sA G 9 0)]) (st' := [.int q25, .int q21, .ref (sA G 9 0)]) ⟨hx, hb, hml, hown, hts⟩ (kX5_mostOf l G eq25) (va_cwS 1 hts gX5_goesLet_X5_mostOf rfl rfl rfl qqX5_mostOf ⟨Nat.le_of_ble_eq_true rfl, Nat.le_of_ble_eq_true rfl⟩) hw rfl hl.1 rfl (Nat.le_of_ble_eq_true rfl) dX5_goesLet_25 ⟨Nat.zero_le _, Nat.zero_le _⟩ rfl (fun H locs hw => ?_)
    obtain ⟨q28, eq28, h⟩ := o_bd h
    refine kV (As := [.int q21, .int q25]) (rest := []) (st' := [.int q28]) ⟨hx, hb, hml, hown, hts⟩ (kX5_isNumber l G eq28) (cwV 2 hts gX5_goesLet_X5_isNumber rfl rfl rfl qqX5_isNumber ⟨Nat.le_of_ble_eq_true rfl, Nat.le_of_ble_eq_true rfl⟩) hw (rvMd hw) rfl hl.1 rfl (Nat.le_of_ble_eq_true rfl) dX5_goesLet_28 ⟨Nat.zero_le _, Nat.zero_le _⟩ rfl (fun H locs hw => ?_)
    refine lv_if_ne (tgt := 36) hx hb dX5_goesLet_31 (by decide) (fun c31 => ?_) (fun c31 => ?_)
    · replace h := o_f c31 h
      refine lv_aload_n hx hb dX5_goesLet_36 rfl (lv_at hl 0 rfl) ?_
      refine gMd (v := .ref (sA G 9 1)) hx hb hts hiX5 hown hw 0 (by decide) (hts (.fieldLink RX5 7 "SecondHomeModel" "s" "[I") (by decide +kernel)) rfl dX5_goesLet_37 ?_
      refine lv_iconst (v := 1) hx hb dX5_goesLet_40 (by decide) ?_
      refine lv_iload_n hx hb dX5_goesLet_41 rfl (lv_at hl 1 rfl) ?_
      refine lv_iadd hx hb dX5_goesLet_42 ?_
      refine lv_aload_n hx hb dX5_goesLet_43 rfl (lv_at hl 0 rfl) ?_
      refine gMd (v := .int (q16.1 5)) hx hb hts hiX5 hown hw 14 (by decide) (hts (.fieldLink RX5 190 "SecondHomeModel" "value" "I") (by decide +kernel)) rfl dX5_goesLet_44 ?_
      obtain ⟨b47, h⟩ := o_in h
      refine stMd hx hb hw 0 (by decide) (n := 77) rfl b47 dX5_goesLet_47 rfl (fun H locs hw => ?_)
      obtain ⟨M47, eM47, h⟩ := o_nm h
      rw [← eM47] at hw
      refine lv_aload_n hx hb dX5_goesLet_48 rfl (lv_at hl 0 rfl) ?_
      obtain ⟨q49, eq49, h⟩ := o_bd h
      refine kV (As := []) (rest := []) (st' := []) ⟨hx, hb, hml, hown, hts⟩ (kX5_nextToken l G eq49) (cwV 0 hts gX5_goesLet_X5_nextToken rfl rfl rfl qqX5_nextToken ⟨Nat.le_of_ble_eq_true rfl, Nat.le_of_ble_eq_true rfl⟩) hw (rvMd hw) rfl hl.1 rfl (Nat.le_of_ble_eq_true rfl) dX5_goesLet_49 ⟨Nat.zero_le _, Nat.zero_le _⟩ rfl (fun H locs hw => ?_)
      refine lv_iconst (v := 1) hx hb dX5_goesLet_52 (by decide) ?_
      exact rZ hQ hx hb hr hlk hw (Or.inr rfl) dX5_goesLet_53 (o_2a h) rfl (o_2b h)
    · replace h := o_t c31 h
      refine lv_iconst (v := 0) hx hb dX5_goesLet_34 (by decide) ?_
      exact rZ hQ hx hb hr hlk hw (Or.inl rfl) dX5_goesLet_35 (o_2a h) rfl (o_2b h)
  refine lv_if_ne (tgt := 15) hx hb dX5_goesLet_1 (by decide) (fun c1 => ?_) (fun c1 => ?_)
  · replace h := o_f c1 h
    exact J15 _ _ _ hw (lv_sub hl [0, 1] rfl) h
  · replace h := o_t c1 h
    refine lv_aload_n hx hb dX5_goesLet_4 rfl (lv_at hl 0 rfl) ?_
    refine gMd (v := .ref (sA G 9 1)) hx hb hts hiX5 hown hw 0 (by decide) (hts (.fieldLink RX5 7 "SecondHomeModel" "s" "[I") (by decide +kernel)) rfl dX5_goesLet_5 ?_
    refine lv_iconst (v := 0) hx hb dX5_goesLet_8 (by decide) ?_
    refine ldMd hx hb hw 0 (by decide) (n := 77) rfl (by decide) dX5_goesLet_9 ?_
    refine lv_if_le (tgt := 15) hx hb dX5_goesLet_10 (by decide) (fun c10 => ?_) (fun c10 => ?_)
    · replace h := o_t c10 h
      exact J15 _ _ _ hw (lv_sub hl [0, 1] rfl) h
    · replace h := o_f c10 h
      refine lv_iconst (v := 0) hx hb dX5_goesLet_13 (by decide) ?_
      exact rZ hQ hx hb hr hlk hw (Or.inl rfl) dX5_goesLet_14 (o_2a h) rfl (o_2b h)
-- X5_goesItem
def fX5_goesItem (M : sOb) : Option (Int32 × sOb) :=
  (fX5_kindNamed M).bind fun q1 => if q1 < 0 then ((fX5_letNamed M).bind fun q16 => if q16 < 0 then (some ((0 : Int32), M)) else ((fX5_goesLet M q16).bind fun q26 => if q26.1 = 0 then (some ((0 : Int32), q26.2)) else (some ((1 : Int32), q26.2)))) else ((fX5_goesRunner M q1).bind fun q11 => if ¬ (q11.1 = 0 ∨ q11.1 = 1) then none else some (q11.1, q11.2))
def rmX5_goesItem : Room := { frames := 4, cells := 0, slots := 0, locals := 93 }
theorem qqX5_goesItem : yX5_goesItem.cls = RX5 ∧ yX5_goesItem.cls ≠ "java/lang/invoke/MethodHandle" ∧ yX5_goesItem.cls ≠ "java/lang/invoke/VarHandle" ∧ (parseMethodDescriptor yX5_goesItem.desc).map (fun d => d.parameters.length) = some 0 := by decide +kernel
set_option maxRecDepth 100000 in
set_option maxHeartbeats 4000000 in
theorem kX5_goesItem (l : Launch) (G : sGl) {S : sWo} {M : sOb}  {q : (Int32 × sOb)}  (h : fX5_goesItem M = some q) : sCt l G yX5_goesItem wsX5_goesItem rmX5_goesItem [.ref (sA G 9 0)] S M (some (.int q.1)) S q.2 := by
  refine cMk (cc := cX5_goesItem) (maxL := 3) (ret := (some .boolean)) (by decide) rfl (Nat.le_of_ble_eq_true rfl) ?_
  intro p e s m args below meth c Q hQ hx hb hr hlk hml hown hts hw ls hl
  have hown : s.vm.findClass RX5 = some m.cls := hown
  have hl : lv_has ls 3 [(0, .ref (sA G 9 0))] := hl
  unfold fX5_goesItem at h
  refine lv_aload_n hx hb dX5_goesItem_0 rfl (lv_at hl 0 rfl) ?_
  obtain ⟨q1, eq1, h⟩ := o_bd h
  refine kV (As := []) (rest := []) (st' := [.int q1]) ⟨hx, hb, hml, hown, hts⟩ (kX5_kindNamed l G eq1) (cwV 0 hts gX5_goesItem_X5_kindNamed rfl rfl rfl qqX5_kindNamed ⟨Nat.le_of_ble_eq_true rfl, Nat.le_of_ble_eq_true rfl⟩) hw (rvMd hw) rfl hl.1 rfl (Nat.le_of_ble_eq_true rfl) dX5_goesItem_1 ⟨Nat.zero_le _, Nat.zero_le _⟩ rfl (fun H locs hw => ?_)
  refine lv_istore_n (lv' := [(1, .int q1), (0, .ref (sA G 9 0))]) hx hb dX5_goesItem_4 rfl hl (by decide) rfl (fun ls hl => ?_)
  refine lv_iload_n hx hb dX5_goesItem_5 rfl (lv_at hl 0 rfl) ?_
  refine lv_if_lt (tgt := 15) hx hb dX5_goesItem_6 (by decide) (fun c6 => ?_) (fun c6 => ?_)
  · replace h := o_t c6 h
    refine lv_aload_n hx hb dX5_goesItem_15 rfl (lv_at hl 1 rfl) ?_
    obtain ⟨q16, eq16, h⟩ := o_bd h
    refine kV (As := []) (rest := []) (st' := [.int q16]) ⟨hx, hb, hml, hown, hts⟩ (kX5_letNamed l G eq16) (cwV 0 hts gX5_goesItem_X5_letNamed rfl rfl rfl qqX5_letNamed ⟨Nat.le_of_ble_eq_true rfl, Nat.le_of_ble_eq_true rfl⟩) hw (rvMd hw) rfl hl.1 rfl (Nat.le_of_ble_eq_true rfl) dX5_goesItem_16 ⟨Nat.zero_le _, Nat.zero_le _⟩ rfl (fun H locs hw => ?_)
    refine lv_istore_n (lv' := [(2, .int q16), (1, .int q1), (0, .ref (sA G 9 0))]) hx hb dX5_goesItem_19 rfl hl (by decide) rfl (fun ls hl => ?_)
    refine lv_iload_n hx hb dX5_goesItem_20 rfl (lv_at hl 0 rfl) ?_
    refine lv_if_lt (tgt := 36) hx hb dX5_goesItem_21 (by decide) (fun c21 => ?_) (fun c21 => ?_)
    · replace h := o_t c21 h
      refine lv_iconst (v := 0) hx hb dX5_goesItem_36 (by decide) ?_
      exact rZ hQ hx hb hr hlk hw (Or.inl rfl) dX5_goesItem_37 (o_2a h) rfl (o_2b h)
    · replace h := o_f c21 h
      refine lv_aload_n hx hb dX5_goesItem_24 rfl (lv_at hl 2 rfl) ?_
      refine lv_iload_n hx hb dX5_goesItem_25 rfl (lv_at hl 0 rfl) ?_
      obtain ⟨q26, eq26, h⟩ := o_bd h
      refine kV (As := [.int q16]) (rest := []) (st' := [.int q26.1]) ⟨hx, hb, hml, hown, hts⟩ (kX5_goesLet l G eq26) (cwV 1 hts gX5_goesItem_X5_goesLet rfl rfl rfl qqX5_goesLet ⟨Nat.le_of_ble_eq_true rfl, Nat.le_of_ble_eq_true rfl⟩) hw (rvMd hw) rfl hl.1 rfl (Nat.le_of_ble_eq_true rfl) dX5_goesItem_26 ⟨Nat.zero_le _, Nat.zero_le _⟩ rfl (fun H locs hw => ?_)
      refine lv_if_eq (tgt := 36) hx hb dX5_goesItem_29 (by decide) (fun c29 => ?_) (fun c29 => ?_)
      · replace h := o_t c29 h
        refine lv_iconst (v := 0) hx hb dX5_goesItem_36 (by decide) ?_
        exact rZ hQ hx hb hr hlk hw (Or.inl rfl) dX5_goesItem_37 (o_2a h) rfl (o_2b h)
      · replace h := o_f c29 h
        refine lv_iconst (v := 1) hx hb dX5_goesItem_32 (by decide) ?_
        refine lv_goto (tgt := 37) hx hb dX5_goesItem_33 (by decide) ?_
        exact rZ hQ hx hb hr hlk hw (Or.inr rfl) dX5_goesItem_37 (o_2a h) rfl (o_2b h)
  · replace h := o_f c6 h
    refine lv_aload_n hx hb dX5_goesItem_9 rfl (lv_at hl 1 rfl) ?_
    refine lv_iload_n hx hb dX5_goesItem_10 rfl (lv_at hl 0 rfl) ?_
    obtain ⟨q11, eq11, h⟩ := o_bd h
    refine kV (As := [.int q1]) (rest := []) (st' := [.int q11.1]) ⟨hx, hb, hml, hown, hts⟩ (kX5_goesRunner l G eq11) (cwV 1 hts gX5_goesItem_X5_goesRunner rfl rfl rfl qqX5_goesRunner ⟨Nat.le_of_ble_eq_true rfl, Nat.le_of_ble_eq_true rfl⟩) hw (rvMd hw) rfl hl.1 rfl (Nat.le_of_ble_eq_true rfl) dX5_goesItem_11 ⟨Nat.zero_le _, Nat.zero_le _⟩ rfl (fun H locs hw => ?_)
    obtain ⟨b14, h⟩ := o_in h
    exact rZ hQ hx hb hr hlk hw (Decidable.not_not.mp b14) dX5_goesItem_14 (o_2a h) rfl (o_2b h)
-- X5_text
def bX5_text_13 (k82 : Int32 → sOb → Option (Int32 × sOb)) (rc13 : Int32 → Int32 → sOb → Option (Int32 × sOb)) (x1_13 : Int32) (x2_13 : Int32) (T_13 : sOb) : Option (Int32 × sOb) :=
  if x2_13 = 0 then (k82 x1_13 T_13) else ((fX5_nextToken T_13).bind fun q18 => (fX5_goesItem q18).bind fun q22 => if q22.1 = 0 then (nm ((-1 : Int32) - (q22.2.1 3)) fun v34 => rc13 v34 (0 : Int32) q22.2) else (nm (x1_13 + (1 : Int32)) fun v40 => nm (fun (y0_56 : Int32) => if y0_56 = 0 then (if (q22.2.1 2) = 0 then (rc13 v40 y0_56 q22.2) else (nm ((-1 : Int32) - (q22.2.1 3)) fun v78 => rc13 v78 y0_56 q22.2)) else (rc13 v40 y0_56 q22.2)) fun k56 => if (q22.2.1 2) = (3 : Int32) then (k56 (1 : Int32)) else (k56 (0 : Int32))))
def fX5_text (M : sOb) : Option (Int32 × sOb) :=
  (fX5_laysBy M).bind fun q1 => nm (sSs q1 4 (0 : Int32)) fun M6 => nm (fun (x1_82 : Int32) (T_82 : sOb) => if 0 ≤ x1_82 then (nm (sSs T_82 1 (0 : Int32)) fun M92 => some (x1_82, M92)) else ((fX5_laysBack T_82).bind fun q87 => nm (sSs q87 1 (0 : Int32)) fun M92 => some (x1_82, M92))) fun k82 => fx3 (bX5_text_13 k82) FU (0 : Int32) (1 : Int32) M6
def rmX5_text : Room := { frames := 5, cells := 0, slots := 0, locals := 115 }
theorem qqX5_text : yX5_text.cls = RX5 ∧ yX5_text.cls ≠ "java/lang/invoke/MethodHandle" ∧ yX5_text.cls ≠ "java/lang/invoke/VarHandle" ∧ (parseMethodDescriptor yX5_text.desc).map (fun d => d.parameters.length) = some 0 := by decide +kernel
set_option maxRecDepth 100000 in
set_option maxHeartbeats 4000000 in
theorem kX5_text (l : Launch) (G : sGl) {S : sWo} {M : sOb}  {q : (Int32 × sOb)}  (h : fX5_text M = some q) : sCt l G yX5_text wsX5_text rmX5_text [.ref (sA G 9 0)] S M (some (.int q.1)) S q.2 := by
  refine cMk (cc := cX5_text) (maxL := 3) (ret := (some .int)) (by decide) rfl (Nat.le_of_ble_eq_true rfl) ?_
  intro p e s m args below meth c Q hQ hx hb hr hlk hml hown hts hw ls hl
  have hown : s.vm.findClass RX5 = some m.cls := hown
  have hl : lv_has ls 3 [(0, .ref (sA G 9 0))] := hl
  have hiX5 : ∀ w ∈ u_ws RX5 TX5 15, w ∈ wsX5_text := by decide +kernel
  unfold fX5_text at h
  refine lv_aload_n hx hb dX5_text_0 rfl (lv_at hl 0 rfl) ?_
  obtain ⟨q1, eq1, h⟩ := o_bd h
  refine kV (As := []) (rest := []) (st' := []) ⟨hx, hb, hml, hown, hts⟩ (kX5_laysBy l G eq1) (cwV 0 hts gX5_text_X5_laysBy rfl rfl rfl qqX5_laysBy ⟨Nat.le_of_ble_eq_true rfl, Nat.le_of_ble_eq_true rfl⟩) hw (rvMd hw) rfl hl.1 rfl (Nat.le_of_ble_eq_true rfl) dX5_text_1 ⟨Nat.zero_le _, Nat.zero_le _⟩ rfl (fun H locs hw => ?_)
  refine lv_aload_n hx hb dX5_text_4 rfl (lv_at hl 0 rfl) ?_
  refine lv_iconst (v := 0) hx hb dX5_text_5 (by decide) ?_
  refine pMd (ty := .int) hx hb hts hiX5 hown hw 13 4 (by decide) rfl rfl (by decide +kernel) rfl rfl (hts (.fieldLink RX5 172 "SecondHomeModel" "to" "I") (by decide +kernel)) dX5_text_6 rfl (fun H locs hw => ?_)
  obtain ⟨M6, eM6, h⟩ := o_nm h
  rw [← eM6] at hw
  refine lv_iconst (v := 0) hx hb dX5_text_9 (by decide) ?_
  refine lv_istore_n (lv' := [(1, .int (0 : Int32)), (0, .ref (sA G 9 0))]) hx hb dX5_text_10 rfl hl (by decide) rfl (fun ls hl => ?_)
  refine lv_iconst (v := 1) hx hb dX5_text_11 (by decide) ?_
  refine lv_istore_n (lv' := [(2, .int (1 : Int32)), (1, .int (0 : Int32)), (0, .ref (sA G 9 0))]) hx hb dX5_text_12 rfl hl (by decide) rfl (fun ls hl => ?_)
  obtain ⟨k82, ek82, h⟩ := o_nm h
  have J82 : ∀ (x1_82 : Int32) (T_82 : sOb) (H : Heap) (locs : List Loc) (ls : Array Slot), sHw G s S T_82 H locs → lv_has ls 3 [(0, .ref (sA G 9 0)), (1, .int x1_82)] → k82 x1_82 T_82 = some q → W p l e rmX5_text s m args below meth c H locs 0 0 Q (F0 m 82 ls []) := by
    intro x1_82 T_82 H locs ls hw hl h
    replace h := o_j2 ek82 h
    refine lv_iload_n hx hb dX5_text_82 rfl (lv_at hl 1 rfl) ?_
    refine lv_if_ge (tgt := 90) hx hb dX5_text_83 (by decide) (fun c83 => ?_) (fun c83 => ?_)
    · replace h := o_t c83 h
      refine lv_aload_n hx hb dX5_text_90 rfl (lv_at hl 0 rfl) ?_
      refine lv_iconst (v := 0) hx hb dX5_text_91 (by decide) ?_
      refine pMd (ty := .int) hx hb hts hiX5 hown hw 6 1 (by decide) rfl rfl (by decide +kernel) rfl rfl (hts (.fieldLink RX5 168 "SecondHomeModel" "taped" "I") (by decide +kernel)) dX5_text_92 rfl (fun H locs hw => ?_)
      obtain ⟨M92, eM92, h⟩ := o_nm h
      rw [← eM92] at hw
      refine lv_iload_n hx hb dX5_text_95 rfl (lv_at hl 1 rfl) ?_
      exact rI hQ hx hb hr hlk hw dX5_text_96 (o_2a h) rfl (o_2b h)
    · replace h := o_f c83 h
      refine lv_aload_n hx hb dX5_text_86 rfl (lv_at hl 0 rfl) ?_
      obtain ⟨q87, eq87, h⟩ := o_bd h
      refine kV (As := []) (rest := []) (st' := []) ⟨hx, hb, hml, hown, hts⟩ (kX5_laysBack l G eq87) (cwV 0 hts gX5_text_X5_laysBack rfl rfl rfl qqX5_laysBack ⟨Nat.le_of_ble_eq_true rfl, Nat.le_of_ble_eq_true rfl⟩) hw (rvMd hw) rfl hl.1 rfl (Nat.le_of_ble_eq_true rfl) dX5_text_87 ⟨Nat.zero_le _, Nat.zero_le _⟩ rfl (fun H locs hw => ?_)
      refine lv_aload_n hx hb dX5_text_90 rfl (lv_at hl 0 rfl) ?_
      refine lv_iconst (v := 0) hx hb dX5_text_91 (by decide) ?_
      refine pMd (ty := .int) hx hb hts hiX5 hown hw 6 1 (by decide) rfl rfl (by decide +kernel) rfl rfl (hts (.fieldLink RX5 168 "SecondHomeModel" "taped" "I") (by decide +kernel)) dX5_text_92 rfl (fun H locs hw => ?_)
      obtain ⟨M92, eM92, h⟩ := o_nm h
      rw [← eM92] at hw
      refine lv_iload_n hx hb dX5_text_95 rfl (lv_at hl 1 rfl) ?_
      exact rI hQ hx hb hr hlk hw dX5_text_96 (o_2a h) rfl (o_2b h)
  refine fx3_w (F := (bX5_text_13 k82)) (P := fun x1_13 x2_13 T_13 => ∀ (H : Heap) (locs : List Loc) (ls : Array Slot), sHw G s S T_13 H locs → lv_has ls 3 [(0, .ref (sA G 9 0)), (1, .int x1_13), (2, .int x2_13)] → W p l e rmX5_text s m args below meth c H locs 0 0 Q (F0 m 13 ls [])) ?_ _ _ _ _ h _ _ _ hw (lv_sub hl [2, 1, 0] rfl)
  intro rc13 IH13 x1_13 x2_13 T_13 h H locs ls hw hl
  unfold bX5_text_13 at h
  refine lv_iload_n hx hb dX5_text_13 rfl (lv_at hl 2 rfl) ?_
  refine lv_if_eq (tgt := 82) hx hb dX5_text_14 (by decide) (fun c14 => ?_) (fun c14 => ?_)
  · replace h := o_t c14 h
    exact J82 x1_13 T_13 _ _ _ hw (lv_sub hl [0, 1] rfl) h
  · replace h := o_f c14 h
    refine lv_aload_n hx hb dX5_text_17 rfl (lv_at hl 0 rfl) ?_
    obtain ⟨q18, eq18, h⟩ := o_bd h
    refine kV (As := []) (rest := []) (st' := []) ⟨hx, hb, hml, hown, hts⟩ (kX5_nextToken l G eq18) (cwV 0 hts gX5_text_X5_nextToken rfl rfl rfl qqX5_nextToken ⟨Nat.le_of_ble_eq_true rfl, Nat.le_of_ble_eq_true rfl⟩) hw (rvMd hw) rfl hl.1 rfl (Nat.le_of_ble_eq_true rfl) dX5_text_18 ⟨Nat.zero_le _, Nat.zero_le _⟩ rfl (fun H locs hw => ?_)
    refine lv_aload_n hx hb dX5_text_21 rfl (lv_at hl 0 rfl) ?_
    obtain ⟨q22, eq22, h⟩ := o_bd h
    refine kV (As := []) (rest := []) (st' := [.int q22.1]) ⟨hx, hb, hml, hown, hts⟩ (kX5_goesItem l G eq22) (cwV 0 hts gX5_text_X5_goesItem rfl rfl rfl qqX5_goesItem ⟨Nat.le_of_ble_eq_true rfl, Nat.le_of_ble_eq_true rfl⟩) hw (rvMd hw) rfl hl.1 rfl (Nat.le_of_ble_eq_true rfl) dX5_text_22 ⟨Nat.zero_le _, Nat.zero_le _⟩ rfl (fun H locs hw => ?_)
    refine lv_if_ne (tgt := 40) hx hb dX5_text_25 (by decide) (fun c25 => ?_) (fun c25 => ?_)
    · replace h := o_f c25 h
      obtain ⟨v40, ev40, h⟩ := o_nm h
      refine lv_iinc (v := v40) (lv' := [(1, .int v40), (0, .ref (sA G 9 0)), (2, .int x2_13)]) hx hb dX5_text_40 hl (k := 1) rfl (by rw [ev40]; rfl) (by decide) rfl (fun ls hl => ?_)
      refine lv_aload_n hx hb dX5_text_43 rfl (lv_at hl 1 rfl) ?_
      refine gMd (v := .int (q22.2.1 2)) hx hb hts hiX5 hown hw 11 (by decide) (hts (.fieldLink RX5 187 "SecondHomeModel" "token" "I") (by decide +kernel)) rfl dX5_text_44 ?_
      refine lv_iconst (v := 3) hx hb dX5_text_47 (by decide) ?_
      obtain ⟨k56, ek56, h⟩ := o_nm h
      have J56 : ∀ (y0_56 : Int32) (H : Heap) (locs : List Loc) (ls : Array Slot), sHw G s S q22.2 H locs → lv_has ls 3 [(0, .ref (sA G 9 0)), (1, .int v40)] → k56 y0_56 = some q → W p l e rmX5_text s m args below meth c H locs 0 0 Q (F0 m 56 ls [.int y0_56]) := by
        intro y0_56 H locs ls hw hl h
        replace h := o_j1 ek56 h
        refine lv_istore_n (lv' := [(2, .int y0_56), (0, .ref (sA G 9 0)), (1, .int v40)]) hx hb dX5_text_56 rfl hl (by decide) rfl (fun ls hl => ?_)
        refine lv_iload_n hx hb dX5_text_57 rfl (lv_at hl 0 rfl) ?_
        refine lv_if_ne (tgt := 68) hx hb dX5_text_58 (by decide) (fun c58 => ?_) (fun c58 => ?_)
        · replace h := o_f c58 h
          refine lv_iload_n hx hb dX5_text_68 rfl (lv_at hl 2 rfl) ?_
          refine lv_goto (tgt := 78) hx hb dX5_text_69 (by decide) ?_
          refine lv_istore_n (lv' := [(1, .int v40), (2, .int y0_56), (0, .ref (sA G 9 0))]) hx hb dX5_text_78 rfl hl (by decide) rfl (fun ls hl => ?_)
          refine lv_goto (tgt := 13) hx hb dX5_text_79 (by decide) ?_
          exact IH13 v40 y0_56 q22.2 h _ _ _ hw (lv_sub hl [2, 0, 1] rfl)
        · replace h := o_t c58 h
          refine lv_aload_n hx hb dX5_text_61 rfl (lv_at hl 1 rfl) ?_
          refine gMd (v := .int (q22.2.1 2)) hx hb hts hiX5 hown hw 11 (by decide) (hts (.fieldLink RX5 187 "SecondHomeModel" "token" "I") (by decide +kernel)) rfl dX5_text_62 ?_
          refine lv_if_ne (tgt := 72) hx hb dX5_text_65 (by decide) (fun c65 => ?_) (fun c65 => ?_)
          · replace h := o_f c65 h
            refine lv_iconst (v := -1) hx hb dX5_text_72 (by decide) ?_
            refine lv_aload_n hx hb dX5_text_73 rfl (lv_at hl 1 rfl) ?_
            refine gMd (v := .int (q22.2.1 3)) hx hb hts hiX5 hown hw 12 (by decide) (hts (.fieldLink RX5 175 "SecondHomeModel" "from" "I") (by decide +kernel)) rfl dX5_text_74 ?_
            refine lv_isub hx hb dX5_text_77 ?_
            refine lv_topi (fun v78 ev78 => ?_)
            replace h := o_nx ev78 h
            refine lv_istore_n (lv' := [(1, .int v78), (2, .int y0_56), (0, .ref (sA G 9 0))]) hx hb dX5_text_78 rfl hl (by decide) rfl (fun ls hl => ?_)
            refine lv_goto (tgt := 13) hx hb dX5_text_79 (by decide) ?_
            exact IH13 v78 y0_56 q22.2 h _ _ _ hw (lv_sub hl [2, 0, 1] rfl)
          · replace h := o_t c65 h
            refine lv_iload_n hx hb dX5_text_68 rfl (lv_at hl 2 rfl) ?_
            refine lv_goto (tgt := 78) hx hb dX5_text_69 (by decide) ?_
            refine lv_istore_n (lv' := [(1, .int v40), (2, .int y0_56), (0, .ref (sA G 9 0))]) hx hb dX5_text_78 rfl hl (by decide) rfl (fun ls hl => ?_)
            refine lv_goto (tgt := 13) hx hb dX5_text_79 (by decide) ?_
            exact IH13 v40 y0_56 q22.2 h _ _ _ hw (lv_sub hl [2, 0, 1] rfl)
      refine lv_icmp_ne (tgt := 55) hx hb dX5_text_48 (by decide) (fun c48 => ?_) (fun c48 => ?_)
      · replace h := o_f c48 h
        refine lv_iconst (v := 0) hx hb dX5_text_55 (by decide) ?_
        exact J56 (0 : Int32) _ _ _ hw (lv_sub hl [1, 0] rfl) h
      · replace h := o_t c48 h
        refine lv_iconst (v := 1) hx hb dX5_text_51 (by decide) ?_
        refine lv_goto (tgt := 56) hx hb dX5_text_52 (by decide) ?_
        exact J56 (1 : Int32) _ _ _ hw (lv_sub hl [1, 0] rfl) h
    · replace h := o_t c25 h
      refine lv_iconst (v := -1) hx hb dX5_text_28 (by decide) ?_
      refine lv_aload_n hx hb dX5_text_29 rfl (lv_at hl 0 rfl) ?_
      refine gMd (v := .int (q22.2.1 3)) hx hb hts hiX5 hown hw 12 (by decide) (hts (.fieldLink RX5 175 "SecondHomeModel" "from" "I") (by decide +kernel)) rfl dX5_text_30 ?_
      refine lv_isub hx hb dX5_text_33 ?_
      refine lv_topi (fun v34 ev34 => ?_)
      replace h := o_nx ev34 h
      refine lv_istore_n (lv' := [(1, .int v34), (0, .ref (sA G 9 0)), (2, .int x2_13)]) hx hb dX5_text_34 rfl hl (by decide) rfl (fun ls hl => ?_)
      refine lv_iconst (v := 0) hx hb dX5_text_35 (by decide) ?_
      refine lv_istore_n (lv' := [(2, .int (0 : Int32)), (1, .int v34), (0, .ref (sA G 9 0))]) hx hb dX5_text_36 rfl hl (by decide) rfl (fun ls hl => ?_)
      refine lv_goto (tgt := 13) hx hb dX5_text_37 (by decide) ?_
      exact IH13 v34 (0 : Int32) q22.2 h _ _ _ hw (lv_sub hl [2, 1, 0] rfl)
-- X5_isSheet
def fX5_isSheet (a0 : Int32) : Option Int32 :=
  if a0 < 0 then (some (0 : Int32)) else (if (4 : Int32) ≤ a0 then (some (0 : Int32)) else (some (1 : Int32)))
def rmX5_isSheet : Room := { frames := 0, cells := 0, slots := 0, locals := 0 }
theorem qqX5_isSheet : yX5_isSheet.cls ≠ "java/lang/invoke/MethodHandle" ∧ yX5_isSheet.cls ≠ "java/lang/invoke/VarHandle" ∧ (parseMethodDescriptor yX5_isSheet.desc).map (fun d => d.parameters.length) = some 1 := by decide +kernel
set_option maxRecDepth 100000 in
set_option maxHeartbeats 4000000 in
theorem kX5_isSheet (l : Launch) (G : sGl) {S : sWo} {M : sOb} {a0 : Int32} {q : Int32}  (h : fX5_isSheet a0 = some q) : sCt l G yX5_isSheet wsX5_isSheet rmX5_isSheet [.int a0] S M (some (.int q)) S M := by
  refine cMk (cc := cX5_isSheet) (maxL := 1) (ret := (some .boolean)) (by decide) rfl (Nat.le_of_ble_eq_true rfl) ?_
  intro p e s m args below meth c Q hQ hx hb hr hlk hml hown hts hw ls hl
  have hown : s.vm.findClass RX5 = some m.cls := hown
  have hl : lv_has ls 1 [(0, .int a0)] := hl
  unfold fX5_isSheet at h
  refine lv_iload_n hx hb dX5_isSheet_0 rfl (lv_at hl 0 rfl) ?_
  refine lv_if_lt (tgt := 13) hx hb dX5_isSheet_1 (by decide) (fun c1 => ?_) (fun c1 => ?_)
  · replace h := o_t c1 h
    refine lv_iconst (v := 0) hx hb dX5_isSheet_13 (by decide) ?_
    exact rZ hQ hx hb hr hlk hw (Or.inl rfl) dX5_isSheet_14 (o_1 h) rfl rfl
  · replace h := o_f c1 h
    refine lv_iload_n hx hb dX5_isSheet_4 rfl (lv_at hl 0 rfl) ?_
    refine lv_iconst (v := 4) hx hb dX5_isSheet_5 (by decide) ?_
    refine lv_icmp_ge (tgt := 13) hx hb dX5_isSheet_6 (by decide) (fun c6 => ?_) (fun c6 => ?_)
    · replace h := o_t c6 h
      refine lv_iconst (v := 0) hx hb dX5_isSheet_13 (by decide) ?_
      exact rZ hQ hx hb hr hlk hw (Or.inl rfl) dX5_isSheet_14 (o_1 h) rfl rfl
    · replace h := o_f c6 h
      refine lv_iconst (v := 1) hx hb dX5_isSheet_9 (by decide) ?_
      refine lv_goto (tgt := 14) hx hb dX5_isSheet_10 (by decide) ?_
      exact rZ hQ hx hb hr hlk hw (Or.inr rfl) dX5_isSheet_14 (o_1 h) rfl rfl
-- X5_narrow
def fX5_narrow (a0 : Int32) (a1 : Int64) : Option Int64 :=
  if a0 = (8 : Int32) then (some a1.toInt32.toInt8.toInt32.toInt64) else (if a0 = (16 : Int32) then (some a1.toInt32.toInt16.toInt32.toInt64) else (some a1))
def rmX5_narrow : Room := { frames := 0, cells := 0, slots := 0, locals := 0 }
theorem qqX5_narrow : yX5_narrow.cls ≠ "java/lang/invoke/MethodHandle" ∧ yX5_narrow.cls ≠ "java/lang/invoke/VarHandle" ∧ (parseMethodDescriptor yX5_narrow.desc).map (fun d => d.parameters.length) = some 2 := by decide +kernel
set_option maxRecDepth 100000 in
set_option maxHeartbeats 4000000 in
theorem kX5_narrow (l : Launch) (G : sGl) {S : sWo} {M : sOb} {a0 : Int32} {a1 : Int64} {q : Int64}  (h : fX5_narrow a0 a1 = some q) : sCt l G yX5_narrow wsX5_narrow rmX5_narrow [.int a0, .long a1] S M (some (.long q)) S M := by
  refine cMk (cc := cX5_narrow) (maxL := 3) (ret := (some .long)) (by decide) rfl (Nat.le_of_ble_eq_true rfl) ?_
  intro p e s m args below meth c Q hQ hx hb hr hlk hml hown hts hw ls hl
  have hown : s.vm.findClass RX5 = some m.cls := hown
  have hl : lv_has ls 3 [(0, .int a0), (1, .long a1)] := hl
  unfold fX5_narrow at h
  refine lv_iload_n hx hb dX5_narrow_0 rfl (lv_at hl 0 rfl) ?_
  refine lv_bipush (v := 8) hx hb dX5_narrow_1 (by decide) ?_
  refine lv_icmp_ne (tgt := 13) hx hb dX5_narrow_3 (by decide) (fun c3 => ?_) (fun c3 => ?_)
  · replace h := o_f c3 h
    refine lv_iload_n hx hb dX5_narrow_13 rfl (lv_at hl 0 rfl) ?_
    refine lv_bipush (v := 16) hx hb dX5_narrow_14 (by decide) ?_
    refine lv_icmp_ne (tgt := 26) hx hb dX5_narrow_16 (by decide) (fun c16 => ?_) (fun c16 => ?_)
    · replace h := o_f c16 h
      refine lv_lload_n hx hb dX5_narrow_26 rfl (lv_at hl 1 rfl) ?_
      exact rL hQ hx hb hr hlk hw dX5_narrow_27 (o_1 h) rfl rfl
    · replace h := o_t c16 h
      refine lv_lload_n hx hb dX5_narrow_19 rfl (lv_at hl 1 rfl) ?_
      refine lv_l2i hx hb dX5_narrow_20 rfl ?_
      refine lv_i2s hx hb dX5_narrow_21 rfl ?_
      refine lv_i2l hx hb dX5_narrow_22 rfl ?_
      refine lv_goto (tgt := 27) hx hb dX5_narrow_23 (by decide) ?_
      exact rL hQ hx hb hr hlk hw dX5_narrow_27 (o_1 h) rfl rfl
  · replace h := o_t c3 h
    refine lv_lload_n hx hb dX5_narrow_6 rfl (lv_at hl 1 rfl) ?_
    refine lv_l2i hx hb dX5_narrow_7 rfl ?_
    refine lv_i2b hx hb dX5_narrow_8 rfl ?_
    refine lv_i2l hx hb dX5_narrow_9 rfl ?_
    refine lv_goto (tgt := 27) hx hb dX5_narrow_10 (by decide) ?_
    exact rL hQ hx hb hr hlk hw dX5_narrow_27 (o_1 h) rfl rfl
-- X5_sheet
def bX5_sheet_93 (a1 : Int32) (rc93 : Int32 → sOb → Option (Int32 × sOb)) (x4_93 : Int32) (T_93 : sOb) : Option (Int32 × sOb) :=
  if (40 : Int32) ≤ x4_93 then (some ((T_93.2.1 6 a1.toNatClampNeg), T_93)) else (if (((40 : Int32) * a1) + x4_93) < 0 ∨ 160 ≤ (((40 : Int32) * a1) + x4_93).toNatClampNeg then none else nm (sSl T_93 (((40 : Int32) * a1) + x4_93).toNatClampNeg (0 : Int64)) fun M112 => nm (x4_93 + (1 : Int32)) fun v113 => rc93 v113 M112)
def fX5_sheet (M : sOb) (a1 : Int32) (a2 : Int32) (a3 : Int32) : Option (Int32 × sOb) :=
  (fX5_isSheet a1).bind fun q1 => if q1 = 0 then ((fX5_finds M (-1000000001 : Int32)).bind fun q32 => some (q32.1, q32.2)) else (nm (if 0 ≤ a3 then (if a3 ≤ (40 : Int32) then (nm (fun (y0_74 : Int32) => if a1 < 0 ∨ 4 ≤ a1.toNatClampNeg then none else nm (sSa M 5 a1.toNatClampNeg y0_74) fun M74 => nm (fun (y0_89 : Int32) => nm (sSa M74 6 a1.toNatClampNeg y0_89) fun M89 => fx2 (bX5_sheet_93 a1) FU (0 : Int32) M89) fun k89 => if a2 = 0 then (k89 (0 : Int32)) else (k89 a3)) fun k74 => if a2 = 0 then (k74 (-1 : Int32)) else (k74 a2)) else ((fX5_finds M (-1000000001 : Int32)).bind fun q56 => some (q56.1, q56.2))) else ((fX5_finds M (-1000000007 : Int32)).bind fun q43 => some (q43.1, q43.2))) fun k36 => if a2 = 0 then k36 else (if a2 = (8 : Int32) then k36 else (if a2 = (16 : Int32) then k36 else (if a2 = (64 : Int32) then k36 else ((fX5_finds M (-1000000001 : Int32)).bind fun q32 => some (q32.1, q32.2))))))
def rmX5_sheet : Room := { frames := 1, cells := 0, slots := 0, locals := 21 }
theorem qqX5_sheet : yX5_sheet.cls = RX5 ∧ yX5_sheet.cls ≠ "java/lang/invoke/MethodHandle" ∧ yX5_sheet.cls ≠ "java/lang/invoke/VarHandle" ∧ (parseMethodDescriptor yX5_sheet.desc).map (fun d => d.parameters.length) = some 3 := by decide +kernel
set_option maxRecDepth 100000 in
set_option maxHeartbeats 4000000 in
theorem kX5_sheet (l : Launch) (G : sGl) {S : sWo} {M : sOb} {a1 : Int32} {a2 : Int32} {a3 : Int32} {q : (Int32 × sOb)}  (h : fX5_sheet M a1 a2 a3 = some q) : sCt l G yX5_sheet wsX5_sheet rmX5_sheet [.ref (sA G 9 0), .int a1, .int a2, .int a3] S M (some (.int q.1)) S q.2 := by
  refine cMk (cc := cX5_sheet) (maxL := 5) (ret := (some .int)) (by decide) rfl (Nat.le_of_ble_eq_true rfl) ?_
  intro p e s m args below meth c Q hQ hx hb hr hlk hml hown hts hw ls hl
  have hown : s.vm.findClass RX5 = some m.cls := hown
  have hl : lv_has ls 5 [(0, .ref (sA G 9 0)), (1, .int a1), (2, .int a2), (3, .int a3)] := hl
  have hiX5 : ∀ w ∈ u_ws RX5 TX5 15, w ∈ wsX5_sheet := by decide +kernel
  unfold fX5_sheet at h
  refine lv_iload_n hx hb dX5_sheet_0 rfl (lv_at hl 1 rfl) ?_
  obtain ⟨q1, eq1, h⟩ := o_bd h
  refine kS (As := [.int a1]) (rest := []) (st' := [.int q1]) ⟨hx, hb, hml, hown, hts⟩ (kX5_isSheet l G eq1) (va_cwS 1 hts gX5_sheet_X5_isSheet rfl rfl rfl qqX5_isSheet ⟨Nat.le_of_ble_eq_true rfl, Nat.le_of_ble_eq_true rfl⟩) hw rfl hl.1 rfl (Nat.le_of_ble_eq_true rfl) dX5_sheet_1 ⟨Nat.zero_le _, Nat.zero_le _⟩ rfl (fun H locs hw => ?_)
  refine lv_if_eq (tgt := 29) hx hb dX5_sheet_4 (by decide) (fun c4 => ?_) (fun c4 => ?_)
  · replace h := o_t c4 h
    refine lv_aload_n hx hb dX5_sheet_29 rfl (lv_at hl 0 rfl) ?_
    refine lv_ldc (v := -1000000001) hx hb hown (hts (.constant RX5 38 (-1000000001)) (by decide +kernel)) dX5_sheet_30 ?_
    obtain ⟨q32, eq32, h⟩ := o_bd h
    refine kV (As := [.int (-1000000001 : Int32)]) (rest := []) (st' := [.int q32.1]) ⟨hx, hb, hml, hown, hts⟩ (kX5_finds l G eq32) (cwV 1 hts gX5_sheet_X5_finds rfl rfl rfl qqX5_finds ⟨Nat.le_of_ble_eq_true rfl, Nat.le_of_ble_eq_true rfl⟩) hw (rvMd hw) rfl hl.1 rfl (Nat.le_of_ble_eq_true rfl) dX5_sheet_32 ⟨Nat.zero_le _, Nat.zero_le _⟩ rfl (fun H locs hw => ?_)
    exact rI hQ hx hb hr hlk hw dX5_sheet_35 (o_2a h) rfl (o_2b h)
  · replace h := o_f c4 h
    refine lv_iload_n hx hb dX5_sheet_7 rfl (lv_at hl 2 rfl) ?_
    obtain ⟨k36, ek36, h⟩ := o_nm h
    have J36 : ∀ (H : Heap) (locs : List Loc) (ls : Array Slot), sHw G s S M H locs → lv_has ls 5 [(0, .ref (sA G 9 0)), (1, .int a1), (2, .int a2), (3, .int a3)] → k36 = some q → W p l e rmX5_sheet s m args below meth c H locs 0 0 Q (F0 m 36 ls []) := by
      intro H locs ls hw hl h
      replace h := o_j0 ek36 h
      refine lv_iload_n hx hb dX5_sheet_36 rfl (lv_at hl 3 rfl) ?_
      refine lv_if_ge (tgt := 47) hx hb dX5_sheet_37 (by decide) (fun c37 => ?_) (fun c37 => ?_)
      · replace h := o_t c37 h
        refine lv_iload_n hx hb dX5_sheet_47 rfl (lv_at hl 3 rfl) ?_
        refine lv_bipush (v := 40) hx hb dX5_sheet_48 (by decide) ?_
        refine lv_icmp_le (tgt := 60) hx hb dX5_sheet_50 (by decide) (fun c50 => ?_) (fun c50 => ?_)
        · replace h := o_t c50 h
          refine lv_aload_n hx hb dX5_sheet_60 rfl (lv_at hl 0 rfl) ?_
          refine gMd (v := .ref (sA G 9 6)) hx hb hts hiX5 hown hw 7 (by decide) (hts (.fieldLink RX5 25 "SecondHomeModel" "bitsOf" "[I") (by decide +kernel)) rfl dX5_sheet_61 ?_
          refine lv_iload_n hx hb dX5_sheet_64 rfl (lv_at hl 1 rfl) ?_
          refine lv_iload_n hx hb dX5_sheet_65 rfl (lv_at hl 2 rfl) ?_
          obtain ⟨k74, ek74, h⟩ := o_nm h
          have J74 : ∀ (y0_74 : Int32) (H : Heap) (locs : List Loc) (ls : Array Slot), sHw G s S M H locs → lv_has ls 5 [(0, .ref (sA G 9 0)), (1, .int a1), (2, .int a2), (3, .int a3)] → k74 y0_74 = some q → W p l e rmX5_sheet s m args below meth c H locs 0 0 Q (F0 m 74 ls [.int y0_74, .int a1, .ref (sA G 9 6)]) := by
            intro y0_74 H locs ls hw hl h
            replace h := o_j1 ek74 h
            obtain ⟨b74, h⟩ := o_in h
            refine stMd hx hb hw 5 (by decide) (n := 4) rfl b74 dX5_sheet_74 rfl (fun H locs hw => ?_)
            obtain ⟨M74, eM74, h⟩ := o_nm h
            rw [← eM74] at hw
            refine lv_aload_n hx hb dX5_sheet_75 rfl (lv_at hl 0 rfl) ?_
            refine gMd (v := .ref (sA G 9 7)) hx hb hts hiX5 hown hw 8 (by decide) (hts (.fieldLink RX5 28 "SecondHomeModel" "sizes" "[I") (by decide +kernel)) rfl dX5_sheet_76 ?_
            refine lv_iload_n hx hb dX5_sheet_79 rfl (lv_at hl 1 rfl) ?_
            refine lv_iload_n hx hb dX5_sheet_80 rfl (lv_at hl 2 rfl) ?_
            obtain ⟨k89, ek89, h⟩ := o_nm h
            have J89 : ∀ (y0_89 : Int32) (H : Heap) (locs : List Loc) (ls : Array Slot), sHw G s S M74 H locs → lv_has ls 5 [(0, .ref (sA G 9 0)), (1, .int a1)] → k89 y0_89 = some q → W p l e rmX5_sheet s m args below meth c H locs 0 0 Q (F0 m 89 ls [.int y0_89, .int a1, .ref (sA G 9 7)]) := by
              intro y0_89 H locs ls hw hl h
              replace h := o_j1 ek89 h
              refine stMd hx hb hw 6 (by decide) (n := 4) rfl b74 dX5_sheet_89 rfl (fun H locs hw => ?_)
              obtain ⟨M89, eM89, h⟩ := o_nm h
              rw [← eM89] at hw
              refine lv_iconst (v := 0) hx hb dX5_sheet_90 (by decide) ?_
              refine lv_istore (lv' := [(4, .int (0 : Int32)), (0, .ref (sA G 9 0)), (1, .int a1)]) hx hb dX5_sheet_91 hl (by decide) rfl (fun ls hl => ?_)
              refine fx2_w (F := (bX5_sheet_93 a1)) (P := fun x4_93 T_93 => ∀ (H : Heap) (locs : List Loc) (ls : Array Slot), sHw G s S T_93 H locs → lv_has ls 5 [(0, .ref (sA G 9 0)), (1, .int a1), (4, .int x4_93)] → W p l e rmX5_sheet s m args below meth c H locs 0 0 Q (F0 m 93 ls [])) ?_ _ _ _ h _ _ _ hw (lv_sub hl [1, 2, 0] rfl)
              intro rc93 IH93 x4_93 T_93 h H locs ls hw hl
              unfold bX5_sheet_93 at h
              refine lv_iload hx hb dX5_sheet_93 (lv_at hl 2 rfl) ?_
              refine lv_bipush (v := 40) hx hb dX5_sheet_95 (by decide) ?_
              refine lv_icmp_ge (tgt := 119) hx hb dX5_sheet_97 (by decide) (fun c97 => ?_) (fun c97 => ?_)
              · replace h := o_t c97 h
                refine lv_aload_n hx hb dX5_sheet_119 rfl (lv_at hl 0 rfl) ?_
                refine gMd (v := .ref (sA G 9 7)) hx hb hts hiX5 hown hw 8 (by decide) (hts (.fieldLink RX5 28 "SecondHomeModel" "sizes" "[I") (by decide +kernel)) rfl dX5_sheet_120 ?_
                refine lv_iload_n hx hb dX5_sheet_123 rfl (lv_at hl 1 rfl) ?_
                refine ldMd hx hb hw 6 (by decide) (n := 4) rfl b74 dX5_sheet_124 ?_
                exact rI hQ hx hb hr hlk hw dX5_sheet_125 (o_2a h) rfl (o_2b h)
              · replace h := o_f c97 h
                refine lv_aload_n hx hb dX5_sheet_100 rfl (lv_at hl 0 rfl) ?_
                refine gMd (v := .ref (sA G 9 9)) hx hb hts hiX5 hown hw 9 (by decide) (hts (.fieldLink RX5 31 "SecondHomeModel" "numbers" "[J") (by decide +kernel)) rfl dX5_sheet_101 ?_
                refine lv_bipush (v := 40) hx hb dX5_sheet_104 (by decide) ?_
                refine lv_iload_n hx hb dX5_sheet_106 rfl (lv_at hl 1 rfl) ?_
                refine lv_imul hx hb dX5_sheet_107 ?_
                refine lv_iload hx hb dX5_sheet_108 (lv_at hl 2 rfl) ?_
                refine lv_iadd hx hb dX5_sheet_110 ?_
                refine lv_lconst (v := 0) hx hb dX5_sheet_111 (by decide) ?_
                obtain ⟨b112, h⟩ := o_in h
                refine stMl hx hb hw b112 dX5_sheet_112 rfl (fun H locs hw => ?_)
                obtain ⟨M112, eM112, h⟩ := o_nm h
                rw [← eM112] at hw
                obtain ⟨v113, ev113, h⟩ := o_nm h
                refine lv_iinc (v := v113) (lv' := [(4, .int v113), (0, .ref (sA G 9 0)), (1, .int a1)]) hx hb dX5_sheet_113 hl (k := 2) rfl (by rw [ev113]; rfl) (by decide) rfl (fun ls hl => ?_)
                refine lv_goto (tgt := 93) hx hb dX5_sheet_116 (by decide) ?_
                exact IH93 v113 M112 h _ _ _ hw (lv_sub hl [1, 2, 0] rfl)
            refine lv_if_ne (tgt := 88) hx hb dX5_sheet_81 (by decide) (fun c81 => ?_) (fun c81 => ?_)
            · replace h := o_f c81 h
              refine lv_iload_n hx hb dX5_sheet_88 rfl (lv_at hl 3 rfl) ?_
              exact J89 a3 _ _ _ hw (lv_sub hl [0, 1] rfl) h
            · replace h := o_t c81 h
              refine lv_iconst (v := 0) hx hb dX5_sheet_84 (by decide) ?_
              refine lv_goto (tgt := 89) hx hb dX5_sheet_85 (by decide) ?_
              exact J89 (0 : Int32) _ _ _ hw (lv_sub hl [0, 1] rfl) h
          refine lv_if_ne (tgt := 73) hx hb dX5_sheet_66 (by decide) (fun c66 => ?_) (fun c66 => ?_)
          · replace h := o_f c66 h
            refine lv_iload_n hx hb dX5_sheet_73 rfl (lv_at hl 2 rfl) ?_
            exact J74 a2 _ _ _ hw (lv_sub hl [0, 1, 2, 3] rfl) h
          · replace h := o_t c66 h
            refine lv_iconst (v := -1) hx hb dX5_sheet_69 (by decide) ?_
            refine lv_goto (tgt := 74) hx hb dX5_sheet_70 (by decide) ?_
            exact J74 (-1 : Int32) _ _ _ hw (lv_sub hl [0, 1, 2, 3] rfl) h
        · replace h := o_f c50 h
          refine lv_aload_n hx hb dX5_sheet_53 rfl (lv_at hl 0 rfl) ?_
          refine lv_ldc (v := -1000000001) hx hb hown (hts (.constant RX5 38 (-1000000001)) (by decide +kernel)) dX5_sheet_54 ?_
          obtain ⟨q56, eq56, h⟩ := o_bd h
          refine kV (As := [.int (-1000000001 : Int32)]) (rest := []) (st' := [.int q56.1]) ⟨hx, hb, hml, hown, hts⟩ (kX5_finds l G eq56) (cwV 1 hts gX5_sheet_X5_finds rfl rfl rfl qqX5_finds ⟨Nat.le_of_ble_eq_true rfl, Nat.le_of_ble_eq_true rfl⟩) hw (rvMd hw) rfl hl.1 rfl (Nat.le_of_ble_eq_true rfl) dX5_sheet_56 ⟨Nat.zero_le _, Nat.zero_le _⟩ rfl (fun H locs hw => ?_)
          exact rI hQ hx hb hr hlk hw dX5_sheet_59 (o_2a h) rfl (o_2b h)
      · replace h := o_f c37 h
        refine lv_aload_n hx hb dX5_sheet_40 rfl (lv_at hl 0 rfl) ?_
        refine lv_ldc (v := -1000000007) hx hb hown (hts (.constant RX5 228 (-1000000007)) (by decide +kernel)) dX5_sheet_41 ?_
        obtain ⟨q43, eq43, h⟩ := o_bd h
        refine kV (As := [.int (-1000000007 : Int32)]) (rest := []) (st' := [.int q43.1]) ⟨hx, hb, hml, hown, hts⟩ (kX5_finds l G eq43) (cwV 1 hts gX5_sheet_X5_finds rfl rfl rfl qqX5_finds ⟨Nat.le_of_ble_eq_true rfl, Nat.le_of_ble_eq_true rfl⟩) hw (rvMd hw) rfl hl.1 rfl (Nat.le_of_ble_eq_true rfl) dX5_sheet_43 ⟨Nat.zero_le _, Nat.zero_le _⟩ rfl (fun H locs hw => ?_)
        exact rI hQ hx hb hr hlk hw dX5_sheet_46 (o_2a h) rfl (o_2b h)
    refine lv_if_eq (tgt := 36) hx hb dX5_sheet_8 (by decide) (fun c8 => ?_) (fun c8 => ?_)
    · replace h := o_t c8 h
      exact J36 _ _ _ hw (lv_sub hl [0, 1, 2, 3] rfl) h
    · replace h := o_f c8 h
      refine lv_iload_n hx hb dX5_sheet_11 rfl (lv_at hl 2 rfl) ?_
      refine lv_bipush (v := 8) hx hb dX5_sheet_12 (by decide) ?_
      refine lv_icmp_eq (tgt := 36) hx hb dX5_sheet_14 (by decide) (fun c14 => ?_) (fun c14 => ?_)
      · replace h := o_t c14 h
        exact J36 _ _ _ hw (lv_sub hl [0, 1, 2, 3] rfl) h
      · replace h := o_f c14 h
        refine lv_iload_n hx hb dX5_sheet_17 rfl (lv_at hl 2 rfl) ?_
        refine lv_bipush (v := 16) hx hb dX5_sheet_18 (by decide) ?_
        refine lv_icmp_eq (tgt := 36) hx hb dX5_sheet_20 (by decide) (fun c20 => ?_) (fun c20 => ?_)
        · replace h := o_t c20 h
          exact J36 _ _ _ hw (lv_sub hl [0, 1, 2, 3] rfl) h
        · replace h := o_f c20 h
          refine lv_iload_n hx hb dX5_sheet_23 rfl (lv_at hl 2 rfl) ?_
          refine lv_bipush (v := 64) hx hb dX5_sheet_24 (by decide) ?_
          refine lv_icmp_eq (tgt := 36) hx hb dX5_sheet_26 (by decide) (fun c26 => ?_) (fun c26 => ?_)
          · replace h := o_t c26 h
            exact J36 _ _ _ hw (lv_sub hl [0, 1, 2, 3] rfl) h
          · replace h := o_f c26 h
            refine lv_aload_n hx hb dX5_sheet_29 rfl (lv_at hl 0 rfl) ?_
            refine lv_ldc (v := -1000000001) hx hb hown (hts (.constant RX5 38 (-1000000001)) (by decide +kernel)) dX5_sheet_30 ?_
            obtain ⟨q32, eq32, h⟩ := o_bd h
            refine kV (As := [.int (-1000000001 : Int32)]) (rest := []) (st' := [.int q32.1]) ⟨hx, hb, hml, hown, hts⟩ (kX5_finds l G eq32) (cwV 1 hts gX5_sheet_X5_finds rfl rfl rfl qqX5_finds ⟨Nat.le_of_ble_eq_true rfl, Nat.le_of_ble_eq_true rfl⟩) hw (rvMd hw) rfl hl.1 rfl (Nat.le_of_ble_eq_true rfl) dX5_sheet_32 ⟨Nat.zero_le _, Nat.zero_le _⟩ rfl (fun H locs hw => ?_)
            exact rI hQ hx hb hr hlk hw dX5_sheet_35 (o_2a h) rfl (o_2b h)
-- X5_write
def fX5_write (M : sOb) (a1 : Int32) (a2 : Int32) (a3 : Int64) : Option (Int64 × sOb) :=
  (fX5_isSheet a1).bind fun q1 => if q1 = 0 then ((fX5_finds M (-1000000001 : Int32)).bind fun q10 => some (q10.1.toInt64, q10.2)) else (if a1 < 0 ∨ 4 ≤ a1.toNatClampNeg then none else if 0 ≤ (M.2.1 5 a1.toNatClampNeg) then ((fX5_isIn a2.toInt64 (0 : Int64) (((M.2.1 6 a1.toNatClampNeg) - (1 : Int32)).toInt64)).bind fun q44 => if q44 = 0 then ((fX5_finds M (-1000000001 : Int32)).bind fun q53 => some (q53.1.toInt64, q53.2)) else (if (((40 : Int32) * a1) + a2) < 0 ∨ 160 ≤ (((40 : Int32) * a1) + a2).toNatClampNeg then none else nm (M.2.2 (((40 : Int32) * a1) + a2).toNatClampNeg) fun v69 => (fX5_narrow (M.2.1 5 a1.toNatClampNeg) a3).bind fun q88 => nm (sSl M (((40 : Int32) * a1) + a2).toNatClampNeg q88) fun M91 => some (v69, M91))) else ((fX5_finds M (-1000000006 : Int32)).bind fun q27 => some (q27.1.toInt64, q27.2)))
def rmX5_write : Room := { frames := 1, cells := 0, slots := 0, locals := 25 }
theorem qqX5_write : yX5_write.cls = RX5 ∧ yX5_write.cls ≠ "java/lang/invoke/MethodHandle" ∧ yX5_write.cls ≠ "java/lang/invoke/VarHandle" ∧ (parseMethodDescriptor yX5_write.desc).map (fun d => d.parameters.length) = some 3 := by decide +kernel
set_option maxRecDepth 100000 in
set_option maxHeartbeats 4000000 in
theorem kX5_write (l : Launch) (G : sGl) {S : sWo} {M : sOb} {a1 : Int32} {a2 : Int32} {a3 : Int64} {q : (Int64 × sOb)}  (h : fX5_write M a1 a2 a3 = some q) : sCt l G yX5_write wsX5_write rmX5_write [.ref (sA G 9 0), .int a1, .int a2, .long a3] S M (some (.long q.1)) S q.2 := by
  refine cMk (cc := cX5_write) (maxL := 7) (ret := (some .long)) (by decide) rfl (Nat.le_of_ble_eq_true rfl) ?_
  intro p e s m args below meth c Q hQ hx hb hr hlk hml hown hts hw ls hl
  have hown : s.vm.findClass RX5 = some m.cls := hown
  have hl : lv_has ls 7 [(0, .ref (sA G 9 0)), (1, .int a1), (2, .int a2), (3, .long a3)] := hl
  have hiX5 : ∀ w ∈ u_ws RX5 TX5 15, w ∈ wsX5_write := by decide +kernel
  unfold fX5_write at h
  refine lv_iload_n hx hb dX5_write_0 rfl (lv_at hl 1 rfl) ?_
  obtain ⟨q1, eq1, h⟩ := o_bd h
  refine kS (As := [.int a1]) (rest := []) (st' := [.int q1]) ⟨hx, hb, hml, hown, hts⟩ (kX5_isSheet l G eq1) (va_cwS 1 hts gX5_write_X5_isSheet rfl rfl rfl qqX5_isSheet ⟨Nat.le_of_ble_eq_true rfl, Nat.le_of_ble_eq_true rfl⟩) hw rfl hl.1 rfl (Nat.le_of_ble_eq_true rfl) dX5_write_1 ⟨Nat.zero_le _, Nat.zero_le _⟩ rfl (fun H locs hw => ?_)
  refine lv_if_ne (tgt := 15) hx hb dX5_write_4 (by decide) (fun c4 => ?_) (fun c4 => ?_)
  · replace h := o_f c4 h
    refine lv_aload_n hx hb dX5_write_15 rfl (lv_at hl 0 rfl) ?_
    refine gMd (v := .ref (sA G 9 6)) hx hb hts hiX5 hown hw 7 (by decide) (hts (.fieldLink RX5 25 "SecondHomeModel" "bitsOf" "[I") (by decide +kernel)) rfl dX5_write_16 ?_
    refine lv_iload_n hx hb dX5_write_19 rfl (lv_at hl 1 rfl) ?_
    obtain ⟨b20, h⟩ := o_in h
    refine ldMd hx hb hw 5 (by decide) (n := 4) rfl b20 dX5_write_20 ?_
    refine lv_if_ge (tgt := 32) hx hb dX5_write_21 (by decide) (fun c21 => ?_) (fun c21 => ?_)
    · replace h := o_t c21 h
      refine lv_iload_n hx hb dX5_write_32 rfl (lv_at hl 2 rfl) ?_
      refine lv_i2l hx hb dX5_write_33 rfl ?_
      refine lv_lconst (v := 0) hx hb dX5_write_34 (by decide) ?_
      refine lv_aload_n hx hb dX5_write_35 rfl (lv_at hl 0 rfl) ?_
      refine gMd (v := .ref (sA G 9 7)) hx hb hts hiX5 hown hw 8 (by decide) (hts (.fieldLink RX5 28 "SecondHomeModel" "sizes" "[I") (by decide +kernel)) rfl dX5_write_36 ?_
      refine lv_iload_n hx hb dX5_write_39 rfl (lv_at hl 1 rfl) ?_
      refine ldMd hx hb hw 6 (by decide) (n := 4) rfl b20 dX5_write_40 ?_
      refine lv_iconst (v := 1) hx hb dX5_write_41 (by decide) ?_
      refine lv_isub hx hb dX5_write_42 ?_
      refine lv_i2l hx hb dX5_write_43 rfl ?_
      obtain ⟨q44, eq44, h⟩ := o_bd h
      refine kS (As := [.long a2.toInt64, .long (0 : Int64), .long (((M.2.1 6 a1.toNatClampNeg) - (1 : Int32)).toInt64)]) (rest := []) (st' := [.int q44]) ⟨hx, hb, hml, hown, hts⟩ (kX5_isIn l G eq44) (va_cwS 3 hts gX5_write_X5_isIn rfl rfl rfl qqX5_isIn ⟨Nat.le_of_ble_eq_true rfl, Nat.le_of_ble_eq_true rfl⟩) hw rfl hl.1 rfl (Nat.le_of_ble_eq_true rfl) dX5_write_44 ⟨Nat.zero_le _, Nat.zero_le _⟩ rfl (fun H locs hw => ?_)
      refine lv_if_ne (tgt := 58) hx hb dX5_write_47 (by decide) (fun c47 => ?_) (fun c47 => ?_)
      · replace h := o_f c47 h
        refine lv_aload_n hx hb dX5_write_58 rfl (lv_at hl 0 rfl) ?_
        refine gMd (v := .ref (sA G 9 9)) hx hb hts hiX5 hown hw 9 (by decide) (hts (.fieldLink RX5 31 "SecondHomeModel" "numbers" "[J") (by decide +kernel)) rfl dX5_write_59 ?_
        refine lv_bipush (v := 40) hx hb dX5_write_62 (by decide) ?_
        refine lv_iload_n hx hb dX5_write_64 rfl (lv_at hl 1 rfl) ?_
        refine lv_imul hx hb dX5_write_65 ?_
        refine lv_iload_n hx hb dX5_write_66 rfl (lv_at hl 2 rfl) ?_
        refine lv_iadd hx hb dX5_write_67 ?_
        obtain ⟨b68, h⟩ := o_in h
        refine ldMl hx hb hw b68 dX5_write_68 ?_
        refine lv_topl (fun v69 ev69 => ?_)
        replace h := o_nx ev69 h
        refine lv_lstore (lv' := [(5, .long v69), (0, .ref (sA G 9 0)), (1, .int a1), (2, .int a2), (3, .long a3)]) hx hb dX5_write_69 hl (by decide) rfl (fun ls hl => ?_)
        refine lv_aload_n hx hb dX5_write_71 rfl (lv_at hl 1 rfl) ?_
        refine gMd (v := .ref (sA G 9 9)) hx hb hts hiX5 hown hw 9 (by decide) (hts (.fieldLink RX5 31 "SecondHomeModel" "numbers" "[J") (by decide +kernel)) rfl dX5_write_72 ?_
        refine lv_bipush (v := 40) hx hb dX5_write_75 (by decide) ?_
        refine lv_iload_n hx hb dX5_write_77 rfl (lv_at hl 2 rfl) ?_
        refine lv_imul hx hb dX5_write_78 ?_
        refine lv_iload_n hx hb dX5_write_79 rfl (lv_at hl 3 rfl) ?_
        refine lv_iadd hx hb dX5_write_80 ?_
        refine lv_aload_n hx hb dX5_write_81 rfl (lv_at hl 1 rfl) ?_
        refine gMd (v := .ref (sA G 9 6)) hx hb hts hiX5 hown hw 7 (by decide) (hts (.fieldLink RX5 25 "SecondHomeModel" "bitsOf" "[I") (by decide +kernel)) rfl dX5_write_82 ?_
        refine lv_iload_n hx hb dX5_write_85 rfl (lv_at hl 2 rfl) ?_
        refine ldMd hx hb hw 5 (by decide) (n := 4) rfl b20 dX5_write_86 ?_
        refine lv_lload_n hx hb dX5_write_87 rfl (lv_at hl 4 rfl) ?_
        obtain ⟨q88, eq88, h⟩ := o_bd h
        refine kS (As := [.int (M.2.1 5 a1.toNatClampNeg), .long a3]) (rest := [.int (((40 : Int32) * a1) + a2), .ref (sA G 9 9)]) (st' := [.long q88, .int (((40 : Int32) * a1) + a2), .ref (sA G 9 9)]) ⟨hx, hb, hml, hown, hts⟩ (kX5_narrow l G eq88) (va_cwS 2 hts gX5_write_X5_narrow rfl rfl rfl qqX5_narrow ⟨Nat.le_of_ble_eq_true rfl, Nat.le_of_ble_eq_true rfl⟩) hw rfl hl.1 rfl (Nat.le_of_ble_eq_true rfl) dX5_write_88 ⟨Nat.zero_le _, Nat.zero_le _⟩ rfl (fun H locs hw => ?_)
        refine stMl hx hb hw b68 dX5_write_91 rfl (fun H locs hw => ?_)
        obtain ⟨M91, eM91, h⟩ := o_nm h
        rw [← eM91] at hw
        refine lv_lload hx hb dX5_write_92 (lv_at hl 0 rfl) ?_
        exact rL hQ hx hb hr hlk hw dX5_write_94 (o_2a h) rfl (o_2b h)
      · replace h := o_t c47 h
        refine lv_aload_n hx hb dX5_write_50 rfl (lv_at hl 0 rfl) ?_
        refine lv_ldc (v := -1000000001) hx hb hown (hts (.constant RX5 38 (-1000000001)) (by decide +kernel)) dX5_write_51 ?_
        obtain ⟨q53, eq53, h⟩ := o_bd h
        refine kV (As := [.int (-1000000001 : Int32)]) (rest := []) (st' := [.int q53.1]) ⟨hx, hb, hml, hown, hts⟩ (kX5_finds l G eq53) (cwV 1 hts gX5_write_X5_finds rfl rfl rfl qqX5_finds ⟨Nat.le_of_ble_eq_true rfl, Nat.le_of_ble_eq_true rfl⟩) hw (rvMd hw) rfl hl.1 rfl (Nat.le_of_ble_eq_true rfl) dX5_write_53 ⟨Nat.zero_le _, Nat.zero_le _⟩ rfl (fun H locs hw => ?_)
        refine lv_i2l hx hb dX5_write_56 rfl ?_
        exact rL hQ hx hb hr hlk hw dX5_write_57 (o_2a h) rfl (o_2b h)
    · replace h := o_f c21 h
      refine lv_aload_n hx hb dX5_write_24 rfl (lv_at hl 0 rfl) ?_
      refine lv_ldc (v := -1000000006) hx hb hown (hts (.constant RX5 229 (-1000000006)) (by decide +kernel)) dX5_write_25 ?_
      obtain ⟨q27, eq27, h⟩ := o_bd h
      refine kV (As := [.int (-1000000006 : Int32)]) (rest := []) (st' := [.int q27.1]) ⟨hx, hb, hml, hown, hts⟩ (kX5_finds l G eq27) (cwV 1 hts gX5_write_X5_finds rfl rfl rfl qqX5_finds ⟨Nat.le_of_ble_eq_true rfl, Nat.le_of_ble_eq_true rfl⟩) hw (rvMd hw) rfl hl.1 rfl (Nat.le_of_ble_eq_true rfl) dX5_write_27 ⟨Nat.zero_le _, Nat.zero_le _⟩ rfl (fun H locs hw => ?_)
      refine lv_i2l hx hb dX5_write_30 rfl ?_
      exact rL hQ hx hb hr hlk hw dX5_write_31 (o_2a h) rfl (o_2b h)
  · replace h := o_t c4 h
    refine lv_aload_n hx hb dX5_write_7 rfl (lv_at hl 0 rfl) ?_
    refine lv_ldc (v := -1000000001) hx hb hown (hts (.constant RX5 38 (-1000000001)) (by decide +kernel)) dX5_write_8 ?_
    obtain ⟨q10, eq10, h⟩ := o_bd h
    refine kV (As := [.int (-1000000001 : Int32)]) (rest := []) (st' := [.int q10.1]) ⟨hx, hb, hml, hown, hts⟩ (kX5_finds l G eq10) (cwV 1 hts gX5_write_X5_finds rfl rfl rfl qqX5_finds ⟨Nat.le_of_ble_eq_true rfl, Nat.le_of_ble_eq_true rfl⟩) hw (rvMd hw) rfl hl.1 rfl (Nat.le_of_ble_eq_true rfl) dX5_write_10 ⟨Nat.zero_le _, Nat.zero_le _⟩ rfl (fun H locs hw => ?_)
    refine lv_i2l hx hb dX5_write_13 rfl ?_
    exact rL hQ hx hb hr hlk hw dX5_write_14 (o_2a h) rfl (o_2b h)
-- X5_copy
def bX5_copy_136 (a5 : Int32) (v122 : Int32) (v131 : Int32) (rc136 : Int32 → sOb → Option (Int32 × sOb)) (x8_136 : Int32) (T_136 : sOb) : Option (Int32 × sOb) :=
  if a5 ≤ x8_136 then (some (a5, T_136)) else (nm (fun (y0_162 : Int32) => if (v122 + y0_162) < 0 ∨ 160 ≤ (v122 + y0_162).toNatClampNeg then none else if (v131 + y0_162) < 0 ∨ 160 ≤ (v131 + y0_162).toNatClampNeg then none else nm (sSl T_136 (v131 + y0_162).toNatClampNeg (T_136.2.2 (v122 + y0_162).toNatClampNeg)) fun M183 => nm (x8_136 + (1 : Int32)) fun v184 => rc136 v184 M183) fun k162 => if v131 ≤ v122 then (k162 x8_136) else (k162 ((a5 - (1 : Int32)) - x8_136)))
def fX5_copy (M : sOb) (a1 : Int32) (a2 : Int32) (a3 : Int32) (a4 : Int32) (a5 : Int32) : Option (Int32 × sOb) :=
  (fX5_isSheet a1).bind fun q1 => if q1 = 0 then ((fX5_finds M (-1000000001 : Int32)).bind fun q17 => some (q17.1, q17.2)) else ((fX5_isSheet a3).bind fun q8 => if q8 = 0 then ((fX5_finds M (-1000000001 : Int32)).bind fun q17 => some (q17.1, q17.2)) else (if a1 < 0 ∨ 4 ≤ a1.toNatClampNeg then none else if (M.2.1 5 a1.toNatClampNeg) < 0 then ((fX5_finds M (-1000000006 : Int32)).bind fun q42 => some (q42.1, q42.2)) else (if a3 < 0 ∨ 4 ≤ a3.toNatClampNeg then none else if 0 ≤ (M.2.1 5 a3.toNatClampNeg) then (if (M.2.1 5 a1.toNatClampNeg) = (M.2.1 5 a3.toNatClampNeg) then (if a2 < 0 then ((fX5_finds M (-1000000001 : Int32)).bind fun q112 => some (q112.1, q112.2)) else (if a4 < 0 then ((fX5_finds M (-1000000001 : Int32)).bind fun q112 => some (q112.1, q112.2)) else (if a5 < 0 then ((fX5_finds M (-1000000001 : Int32)).bind fun q112 => some (q112.1, q112.2)) else (if ((M.2.1 6 a1.toNatClampNeg) - a2) < a5 then ((fX5_finds M (-1000000001 : Int32)).bind fun q112 => some (q112.1, q112.2)) else (if a5 ≤ ((M.2.1 6 a3.toNatClampNeg) - a4) then (nm (((40 : Int32) * a1) + a2) fun v122 => nm (((40 : Int32) * a3) + a4) fun v131 => fx2 (bX5_copy_136 a5 v122 v131) FU (0 : Int32) M) else ((fX5_finds M (-1000000001 : Int32)).bind fun q112 => some (q112.1, q112.2))))))) else ((fX5_finds M (-1000000003 : Int32)).bind fun q64 => some (q64.1, q64.2))) else ((fX5_finds M (-1000000006 : Int32)).bind fun q42 => some (q42.1, q42.2)))))
def rmX5_copy : Room := { frames := 1, cells := 0, slots := 0, locals := 21 }
theorem qqX5_copy : yX5_copy.cls = RX5 ∧ yX5_copy.cls ≠ "java/lang/invoke/MethodHandle" ∧ yX5_copy.cls ≠ "java/lang/invoke/VarHandle" ∧ (parseMethodDescriptor yX5_copy.desc).map (fun d => d.parameters.length) = some 5 := by decide +kernel
set_option maxRecDepth 100000 in
set_option maxHeartbeats 4000000 in
theorem kX5_copy (l : Launch) (G : sGl) {S : sWo} {M : sOb} {a1 : Int32} {a2 : Int32} {a3 : Int32} {a4 : Int32} {a5 : Int32} {q : (Int32 × sOb)}  (h : fX5_copy M a1 a2 a3 a4 a5 = some q) : sCt l G yX5_copy wsX5_copy rmX5_copy [.ref (sA G 9 0), .int a1, .int a2, .int a3, .int a4, .int a5] S M (some (.int q.1)) S q.2 := by
  refine cMk (cc := cX5_copy) (maxL := 10) (ret := (some .int)) (by decide) rfl (Nat.le_of_ble_eq_true rfl) ?_
  intro p e s m args below meth c Q hQ hx hb hr hlk hml hown hts hw ls hl
  have hown : s.vm.findClass RX5 = some m.cls := hown
  have hl : lv_has ls 10 [(0, .ref (sA G 9 0)), (1, .int a1), (2, .int a2), (3, .int a3), (4, .int a4), (5, .int a5)] := hl
  have hiX5 : ∀ w ∈ u_ws RX5 TX5 15, w ∈ wsX5_copy := by decide +kernel
  unfold fX5_copy at h
  refine lv_iload_n hx hb dX5_copy_0 rfl (lv_at hl 1 rfl) ?_
  obtain ⟨q1, eq1, h⟩ := o_bd h
  refine kS (As := [.int a1]) (rest := []) (st' := [.int q1]) ⟨hx, hb, hml, hown, hts⟩ (kX5_isSheet l G eq1) (va_cwS 1 hts gX5_copy_X5_isSheet rfl rfl rfl qqX5_isSheet ⟨Nat.le_of_ble_eq_true rfl, Nat.le_of_ble_eq_true rfl⟩) hw rfl hl.1 rfl (Nat.le_of_ble_eq_true rfl) dX5_copy_1 ⟨Nat.zero_le _, Nat.zero_le _⟩ rfl (fun H locs hw => ?_)
  refine lv_if_eq (tgt := 14) hx hb dX5_copy_4 (by decide) (fun c4 => ?_) (fun c4 => ?_)
  · replace h := o_t c4 h
    refine lv_aload_n hx hb dX5_copy_14 rfl (lv_at hl 0 rfl) ?_
    refine lv_ldc (v := -1000000001) hx hb hown (hts (.constant RX5 38 (-1000000001)) (by decide +kernel)) dX5_copy_15 ?_
    obtain ⟨q17, eq17, h⟩ := o_bd h
    refine kV (As := [.int (-1000000001 : Int32)]) (rest := []) (st' := [.int q17.1]) ⟨hx, hb, hml, hown, hts⟩ (kX5_finds l G eq17) (cwV 1 hts gX5_copy_X5_finds rfl rfl rfl qqX5_finds ⟨Nat.le_of_ble_eq_true rfl, Nat.le_of_ble_eq_true rfl⟩) hw (rvMd hw) rfl hl.1 rfl (Nat.le_of_ble_eq_true rfl) dX5_copy_17 ⟨Nat.zero_le _, Nat.zero_le _⟩ rfl (fun H locs hw => ?_)
    exact rI hQ hx hb hr hlk hw dX5_copy_20 (o_2a h) rfl (o_2b h)
  · replace h := o_f c4 h
    refine lv_iload_n hx hb dX5_copy_7 rfl (lv_at hl 3 rfl) ?_
    obtain ⟨q8, eq8, h⟩ := o_bd h
    refine kS (As := [.int a3]) (rest := []) (st' := [.int q8]) ⟨hx, hb, hml, hown, hts⟩ (kX5_isSheet l G eq8) (va_cwS 1 hts gX5_copy_X5_isSheet rfl rfl rfl qqX5_isSheet ⟨Nat.le_of_ble_eq_true rfl, Nat.le_of_ble_eq_true rfl⟩) hw rfl hl.1 rfl (Nat.le_of_ble_eq_true rfl) dX5_copy_8 ⟨Nat.zero_le _, Nat.zero_le _⟩ rfl (fun H locs hw => ?_)
    refine lv_if_ne (tgt := 21) hx hb dX5_copy_11 (by decide) (fun c11 => ?_) (fun c11 => ?_)
    · replace h := o_f c11 h
      refine lv_aload_n hx hb dX5_copy_21 rfl (lv_at hl 0 rfl) ?_
      refine gMd (v := .ref (sA G 9 6)) hx hb hts hiX5 hown hw 7 (by decide) (hts (.fieldLink RX5 25 "SecondHomeModel" "bitsOf" "[I") (by decide +kernel)) rfl dX5_copy_22 ?_
      refine lv_iload_n hx hb dX5_copy_25 rfl (lv_at hl 1 rfl) ?_
      obtain ⟨b26, h⟩ := o_in h
      refine ldMd hx hb hw 5 (by decide) (n := 4) rfl b26 dX5_copy_26 ?_
      refine lv_if_lt (tgt := 39) hx hb dX5_copy_27 (by decide) (fun c27 => ?_) (fun c27 => ?_)
      · replace h := o_t c27 h
        refine lv_aload_n hx hb dX5_copy_39 rfl (lv_at hl 0 rfl) ?_
        refine lv_ldc (v := -1000000006) hx hb hown (hts (.constant RX5 229 (-1000000006)) (by decide +kernel)) dX5_copy_40 ?_
        obtain ⟨q42, eq42, h⟩ := o_bd h
        refine kV (As := [.int (-1000000006 : Int32)]) (rest := []) (st' := [.int q42.1]) ⟨hx, hb, hml, hown, hts⟩ (kX5_finds l G eq42) (cwV 1 hts gX5_copy_X5_finds rfl rfl rfl qqX5_finds ⟨Nat.le_of_ble_eq_true rfl, Nat.le_of_ble_eq_true rfl⟩) hw (rvMd hw) rfl hl.1 rfl (Nat.le_of_ble_eq_true rfl) dX5_copy_42 ⟨Nat.zero_le _, Nat.zero_le _⟩ rfl (fun H locs hw => ?_)
        exact rI hQ hx hb hr hlk hw dX5_copy_45 (o_2a h) rfl (o_2b h)
      · replace h := o_f c27 h
        refine lv_aload_n hx hb dX5_copy_30 rfl (lv_at hl 0 rfl) ?_
        refine gMd (v := .ref (sA G 9 6)) hx hb hts hiX5 hown hw 7 (by decide) (hts (.fieldLink RX5 25 "SecondHomeModel" "bitsOf" "[I") (by decide +kernel)) rfl dX5_copy_31 ?_
        refine lv_iload_n hx hb dX5_copy_34 rfl (lv_at hl 3 rfl) ?_
        obtain ⟨b35, h⟩ := o_in h
        refine ldMd hx hb hw 5 (by decide) (n := 4) rfl b35 dX5_copy_35 ?_
        refine lv_if_ge (tgt := 46) hx hb dX5_copy_36 (by decide) (fun c36 => ?_) (fun c36 => ?_)
        · replace h := o_t c36 h
          refine lv_aload_n hx hb dX5_copy_46 rfl (lv_at hl 0 rfl) ?_
          refine gMd (v := .ref (sA G 9 6)) hx hb hts hiX5 hown hw 7 (by decide) (hts (.fieldLink RX5 25 "SecondHomeModel" "bitsOf" "[I") (by decide +kernel)) rfl dX5_copy_47 ?_
          refine lv_iload_n hx hb dX5_copy_50 rfl (lv_at hl 1 rfl) ?_
          refine ldMd hx hb hw 5 (by decide) (n := 4) rfl b26 dX5_copy_51 ?_
          refine lv_aload_n hx hb dX5_copy_52 rfl (lv_at hl 0 rfl) ?_
          refine gMd (v := .ref (sA G 9 6)) hx hb hts hiX5 hown hw 7 (by decide) (hts (.fieldLink RX5 25 "SecondHomeModel" "bitsOf" "[I") (by decide +kernel)) rfl dX5_copy_53 ?_
          refine lv_iload_n hx hb dX5_copy_56 rfl (lv_at hl 3 rfl) ?_
          refine ldMd hx hb hw 5 (by decide) (n := 4) rfl b35 dX5_copy_57 ?_
          refine lv_icmp_eq (tgt := 68) hx hb dX5_copy_58 (by decide) (fun c58 => ?_) (fun c58 => ?_)
          · replace h := o_t c58 h
            refine lv_iload_n hx hb dX5_copy_68 rfl (lv_at hl 2 rfl) ?_
            refine lv_if_lt (tgt := 109) hx hb dX5_copy_69 (by decide) (fun c69 => ?_) (fun c69 => ?_)
            · replace h := o_t c69 h
              refine lv_aload_n hx hb dX5_copy_109 rfl (lv_at hl 0 rfl) ?_
              refine lv_ldc (v := -1000000001) hx hb hown (hts (.constant RX5 38 (-1000000001)) (by decide +kernel)) dX5_copy_110 ?_
              obtain ⟨q112, eq112, h⟩ := o_bd h
              refine kV (As := [.int (-1000000001 : Int32)]) (rest := []) (st' := [.int q112.1]) ⟨hx, hb, hml, hown, hts⟩ (kX5_finds l G eq112) (cwV 1 hts gX5_copy_X5_finds rfl rfl rfl qqX5_finds ⟨Nat.le_of_ble_eq_true rfl, Nat.le_of_ble_eq_true rfl⟩) hw (rvMd hw) rfl hl.1 rfl (Nat.le_of_ble_eq_true rfl) dX5_copy_112 ⟨Nat.zero_le _, Nat.zero_le _⟩ rfl (fun H locs hw => ?_)
              exact rI hQ hx hb hr hlk hw dX5_copy_115 (o_2a h) rfl (o_2b h)
            · replace h := o_f c69 h
              refine lv_iload hx hb dX5_copy_72 (lv_at hl 4 rfl) ?_
              refine lv_if_lt (tgt := 109) hx hb dX5_copy_74 (by decide) (fun c74 => ?_) (fun c74 => ?_)
              · replace h := o_t c74 h
                refine lv_aload_n hx hb dX5_copy_109 rfl (lv_at hl 0 rfl) ?_
                refine lv_ldc (v := -1000000001) hx hb hown (hts (.constant RX5 38 (-1000000001)) (by decide +kernel)) dX5_copy_110 ?_
                obtain ⟨q112, eq112, h⟩ := o_bd h
                refine kV (As := [.int (-1000000001 : Int32)]) (rest := []) (st' := [.int q112.1]) ⟨hx, hb, hml, hown, hts⟩ (kX5_finds l G eq112) (cwV 1 hts gX5_copy_X5_finds rfl rfl rfl qqX5_finds ⟨Nat.le_of_ble_eq_true rfl, Nat.le_of_ble_eq_true rfl⟩) hw (rvMd hw) rfl hl.1 rfl (Nat.le_of_ble_eq_true rfl) dX5_copy_112 ⟨Nat.zero_le _, Nat.zero_le _⟩ rfl (fun H locs hw => ?_)
                exact rI hQ hx hb hr hlk hw dX5_copy_115 (o_2a h) rfl (o_2b h)
              · replace h := o_f c74 h
                refine lv_iload hx hb dX5_copy_77 (lv_at hl 5 rfl) ?_
                refine lv_if_lt (tgt := 109) hx hb dX5_copy_79 (by decide) (fun c79 => ?_) (fun c79 => ?_)
                · replace h := o_t c79 h
                  refine lv_aload_n hx hb dX5_copy_109 rfl (lv_at hl 0 rfl) ?_
                  refine lv_ldc (v := -1000000001) hx hb hown (hts (.constant RX5 38 (-1000000001)) (by decide +kernel)) dX5_copy_110 ?_
                  obtain ⟨q112, eq112, h⟩ := o_bd h
                  refine kV (As := [.int (-1000000001 : Int32)]) (rest := []) (st' := [.int q112.1]) ⟨hx, hb, hml, hown, hts⟩ (kX5_finds l G eq112) (cwV 1 hts gX5_copy_X5_finds rfl rfl rfl qqX5_finds ⟨Nat.le_of_ble_eq_true rfl, Nat.le_of_ble_eq_true rfl⟩) hw (rvMd hw) rfl hl.1 rfl (Nat.le_of_ble_eq_true rfl) dX5_copy_112 ⟨Nat.zero_le _, Nat.zero_le _⟩ rfl (fun H locs hw => ?_)
                  exact rI hQ hx hb hr hlk hw dX5_copy_115 (o_2a h) rfl (o_2b h)
                · replace h := o_f c79 h
                  refine lv_iload hx hb dX5_copy_82 (lv_at hl 5 rfl) ?_
                  refine lv_aload_n hx hb dX5_copy_84 rfl (lv_at hl 0 rfl) ?_
                  refine gMd (v := .ref (sA G 9 7)) hx hb hts hiX5 hown hw 8 (by decide) (hts (.fieldLink RX5 28 "SecondHomeModel" "sizes" "[I") (by decide +kernel)) rfl dX5_copy_85 ?_
                  refine lv_iload_n hx hb dX5_copy_88 rfl (lv_at hl 1 rfl) ?_
                  refine ldMd hx hb hw 6 (by decide) (n := 4) rfl b26 dX5_copy_89 ?_
                  refine lv_iload_n hx hb dX5_copy_90 rfl (lv_at hl 2 rfl) ?_
                  refine lv_isub hx hb dX5_copy_91 ?_
                  refine lv_icmp_gt (tgt := 109) hx hb dX5_copy_92 (by decide) (fun c92 => ?_) (fun c92 => ?_)
                  · replace h := o_t c92 h
                    refine lv_aload_n hx hb dX5_copy_109 rfl (lv_at hl 0 rfl) ?_
                    refine lv_ldc (v := -1000000001) hx hb hown (hts (.constant RX5 38 (-1000000001)) (by decide +kernel)) dX5_copy_110 ?_
                    obtain ⟨q112, eq112, h⟩ := o_bd h
                    refine kV (As := [.int (-1000000001 : Int32)]) (rest := []) (st' := [.int q112.1]) ⟨hx, hb, hml, hown, hts⟩ (kX5_finds l G eq112) (cwV 1 hts gX5_copy_X5_finds rfl rfl rfl qqX5_finds ⟨Nat.le_of_ble_eq_true rfl, Nat.le_of_ble_eq_true rfl⟩) hw (rvMd hw) rfl hl.1 rfl (Nat.le_of_ble_eq_true rfl) dX5_copy_112 ⟨Nat.zero_le _, Nat.zero_le _⟩ rfl (fun H locs hw => ?_)
                    exact rI hQ hx hb hr hlk hw dX5_copy_115 (o_2a h) rfl (o_2b h)
                  · replace h := o_f c92 h
                    refine lv_iload hx hb dX5_copy_95 (lv_at hl 5 rfl) ?_
                    refine lv_aload_n hx hb dX5_copy_97 rfl (lv_at hl 0 rfl) ?_
                    refine gMd (v := .ref (sA G 9 7)) hx hb hts hiX5 hown hw 8 (by decide) (hts (.fieldLink RX5 28 "SecondHomeModel" "sizes" "[I") (by decide +kernel)) rfl dX5_copy_98 ?_
                    refine lv_iload_n hx hb dX5_copy_101 rfl (lv_at hl 3 rfl) ?_
                    refine ldMd hx hb hw 6 (by decide) (n := 4) rfl b35 dX5_copy_102 ?_
                    refine lv_iload hx hb dX5_copy_103 (lv_at hl 4 rfl) ?_
                    refine lv_isub hx hb dX5_copy_105 ?_
                    refine lv_icmp_le (tgt := 116) hx hb dX5_copy_106 (by decide) (fun c106 => ?_) (fun c106 => ?_)
                    · replace h := o_t c106 h
                      refine lv_bipush (v := 40) hx hb dX5_copy_116 (by decide) ?_
                      refine lv_iload_n hx hb dX5_copy_118 rfl (lv_at hl 1 rfl) ?_
                      refine lv_imul hx hb dX5_copy_119 ?_
                      refine lv_iload_n hx hb dX5_copy_120 rfl (lv_at hl 2 rfl) ?_
                      refine lv_iadd hx hb dX5_copy_121 ?_
                      refine lv_topi (fun v122 ev122 => ?_)
                      replace h := o_nx ev122 h
                      refine lv_istore (lv' := [(6, .int v122), (0, .ref (sA G 9 0)), (1, .int a1), (2, .int a2), (3, .int a3), (4, .int a4), (5, .int a5)]) hx hb dX5_copy_122 hl (by decide) rfl (fun ls hl => ?_)
                      refine lv_bipush (v := 40) hx hb dX5_copy_124 (by decide) ?_
                      refine lv_iload_n hx hb dX5_copy_126 rfl (lv_at hl 4 rfl) ?_
                      refine lv_imul hx hb dX5_copy_127 ?_
                      refine lv_iload hx hb dX5_copy_128 (lv_at hl 5 rfl) ?_
                      refine lv_iadd hx hb dX5_copy_130 ?_
                      refine lv_topi (fun v131 ev131 => ?_)
                      replace h := o_nx ev131 h
                      refine lv_istore (lv' := [(7, .int v131), (6, .int v122), (0, .ref (sA G 9 0)), (1, .int a1), (2, .int a2), (3, .int a3), (4, .int a4), (5, .int a5)]) hx hb dX5_copy_131 hl (by decide) rfl (fun ls hl => ?_)
                      refine lv_iconst (v := 0) hx hb dX5_copy_133 (by decide) ?_
                      refine lv_istore (lv' := [(8, .int (0 : Int32)), (7, .int v131), (6, .int v122), (0, .ref (sA G 9 0)), (1, .int a1), (2, .int a2), (3, .int a3), (4, .int a4), (5, .int a5)]) hx hb dX5_copy_134 hl (by decide) rfl (fun ls hl => ?_)
                      refine fx2_w (F := (bX5_copy_136 a5 v122 v131)) (P := fun x8_136 T_136 => ∀ (H : Heap) (locs : List Loc) (ls : Array Slot), sHw G s S T_136 H locs → lv_has ls 10 [(0, .ref (sA G 9 0)), (5, .int a5), (6, .int v122), (7, .int v131), (8, .int x8_136)] → W p l e rmX5_copy s m args below meth c H locs 0 0 Q (F0 m 136 ls [])) ?_ _ _ _ h _ _ _ hw (lv_sub hl [3, 8, 2, 1, 0] rfl)
                      intro rc136 IH136 x8_136 T_136 h H locs ls hw hl
                      unfold bX5_copy_136 at h
                      refine lv_iload hx hb dX5_copy_136 (lv_at hl 4 rfl) ?_
                      refine lv_iload hx hb dX5_copy_138 (lv_at hl 1 rfl) ?_
                      refine lv_icmp_ge (tgt := 190) hx hb dX5_copy_140 (by decide) (fun c140 => ?_) (fun c140 => ?_)
                      · replace h := o_t c140 h
                        refine lv_iload hx hb dX5_copy_190 (lv_at hl 1 rfl) ?_
                        exact rI hQ hx hb hr hlk hw dX5_copy_192 (o_2a h) rfl (o_2b h)
                      · replace h := o_f c140 h
                        refine lv_iload hx hb dX5_copy_143 (lv_at hl 2 rfl) ?_
                        refine lv_iload hx hb dX5_copy_145 (lv_at hl 3 rfl) ?_
                        obtain ⟨k162, ek162, h⟩ := o_nm h
                        have J162 : ∀ (y0_162 : Int32) (H : Heap) (locs : List Loc) (ls : Array Slot), sHw G s S T_136 H locs → lv_has ls 10 [(0, .ref (sA G 9 0)), (5, .int a5), (6, .int v122), (7, .int v131), (8, .int x8_136)] → k162 y0_162 = some q → W p l e rmX5_copy s m args below meth c H locs 0 0 Q (F0 m 162 ls [.int y0_162]) := by
                          intro y0_162 H locs ls hw hl h
                          replace h := o_j1 ek162 h
                          refine lv_istore (lv' := [(9, .int y0_162), (0, .ref (sA G 9 0)), (5, .int a5), (6, .int v122), (7, .int v131), (8, .int x8_136)]) hx hb dX5_copy_162 hl (by decide) rfl (fun ls hl => ?_)
                          refine lv_aload_n hx hb dX5_copy_164 rfl (lv_at hl 1 rfl) ?_
                          refine gMd (v := .ref (sA G 9 9)) hx hb hts hiX5 hown hw 9 (by decide) (hts (.fieldLink RX5 31 "SecondHomeModel" "numbers" "[J") (by decide +kernel)) rfl dX5_copy_165 ?_
                          refine lv_iload hx hb dX5_copy_168 (lv_at hl 4 rfl) ?_
                          refine lv_iload hx hb dX5_copy_170 (lv_at hl 0 rfl) ?_
                          refine lv_iadd hx hb dX5_copy_172 ?_
                          refine lv_aload_n hx hb dX5_copy_173 rfl (lv_at hl 1 rfl) ?_
                          refine gMd (v := .ref (sA G 9 9)) hx hb hts hiX5 hown hw 9 (by decide) (hts (.fieldLink RX5 31 "SecondHomeModel" "numbers" "[J") (by decide +kernel)) rfl dX5_copy_174 ?_
                          refine lv_iload hx hb dX5_copy_177 (lv_at hl 3 rfl) ?_
                          refine lv_iload hx hb dX5_copy_179 (lv_at hl 0 rfl) ?_
                          refine lv_iadd hx hb dX5_copy_181 ?_
                          obtain ⟨b182, h⟩ := o_in h
                          refine ldMl hx hb hw b182 dX5_copy_182 ?_
                          obtain ⟨b183, h⟩ := o_in h
                          refine stMl hx hb hw b183 dX5_copy_183 rfl (fun H locs hw => ?_)
                          obtain ⟨M183, eM183, h⟩ := o_nm h
                          rw [← eM183] at hw
                          obtain ⟨v184, ev184, h⟩ := o_nm h
                          refine lv_iinc (v := v184) (lv' := [(8, .int v184), (9, .int y0_162), (0, .ref (sA G 9 0)), (5, .int a5), (6, .int v122), (7, .int v131)]) hx hb dX5_copy_184 hl (k := 5) rfl (by rw [ev184]; rfl) (by decide) rfl (fun ls hl => ?_)
                          refine lv_goto (tgt := 136) hx hb dX5_copy_187 (by decide) ?_
                          exact IH136 v184 M183 h _ _ _ hw (lv_sub hl [2, 3, 4, 5, 0] rfl)
                        refine lv_icmp_ge (tgt := 160) hx hb dX5_copy_147 (by decide) (fun c147 => ?_) (fun c147 => ?_)
                        · replace h := o_t c147 h
                          refine lv_iload hx hb dX5_copy_160 (lv_at hl 4 rfl) ?_
                          exact J162 x8_136 _ _ _ hw (lv_sub hl [0, 1, 2, 3, 4] rfl) h
                        · replace h := o_f c147 h
                          refine lv_iload hx hb dX5_copy_150 (lv_at hl 1 rfl) ?_
                          refine lv_iconst (v := 1) hx hb dX5_copy_152 (by decide) ?_
                          refine lv_isub hx hb dX5_copy_153 ?_
                          refine lv_iload hx hb dX5_copy_154 (lv_at hl 4 rfl) ?_
                          refine lv_isub hx hb dX5_copy_156 ?_
                          refine lv_goto (tgt := 162) hx hb dX5_copy_157 (by decide) ?_
                          exact J162 ((a5 - (1 : Int32)) - x8_136) _ _ _ hw (lv_sub hl [0, 1, 2, 3, 4] rfl) h
                    · replace h := o_f c106 h
                      refine lv_aload_n hx hb dX5_copy_109 rfl (lv_at hl 0 rfl) ?_
                      refine lv_ldc (v := -1000000001) hx hb hown (hts (.constant RX5 38 (-1000000001)) (by decide +kernel)) dX5_copy_110 ?_
                      obtain ⟨q112, eq112, h⟩ := o_bd h
                      refine kV (As := [.int (-1000000001 : Int32)]) (rest := []) (st' := [.int q112.1]) ⟨hx, hb, hml, hown, hts⟩ (kX5_finds l G eq112) (cwV 1 hts gX5_copy_X5_finds rfl rfl rfl qqX5_finds ⟨Nat.le_of_ble_eq_true rfl, Nat.le_of_ble_eq_true rfl⟩) hw (rvMd hw) rfl hl.1 rfl (Nat.le_of_ble_eq_true rfl) dX5_copy_112 ⟨Nat.zero_le _, Nat.zero_le _⟩ rfl (fun H locs hw => ?_)
                      exact rI hQ hx hb hr hlk hw dX5_copy_115 (o_2a h) rfl (o_2b h)
          · replace h := o_f c58 h
            refine lv_aload_n hx hb dX5_copy_61 rfl (lv_at hl 0 rfl) ?_
            refine lv_ldc (v := -1000000003) hx hb hown (hts (.constant RX5 101 (-1000000003)) (by decide +kernel)) dX5_copy_62 ?_
            obtain ⟨q64, eq64, h⟩ := o_bd h
            refine kV (As := [.int (-1000000003 : Int32)]) (rest := []) (st' := [.int q64.1]) ⟨hx, hb, hml, hown, hts⟩ (kX5_finds l G eq64) (cwV 1 hts gX5_copy_X5_finds rfl rfl rfl qqX5_finds ⟨Nat.le_of_ble_eq_true rfl, Nat.le_of_ble_eq_true rfl⟩) hw (rvMd hw) rfl hl.1 rfl (Nat.le_of_ble_eq_true rfl) dX5_copy_64 ⟨Nat.zero_le _, Nat.zero_le _⟩ rfl (fun H locs hw => ?_)
            exact rI hQ hx hb hr hlk hw dX5_copy_67 (o_2a h) rfl (o_2b h)
        · replace h := o_f c36 h
          refine lv_aload_n hx hb dX5_copy_39 rfl (lv_at hl 0 rfl) ?_
          refine lv_ldc (v := -1000000006) hx hb hown (hts (.constant RX5 229 (-1000000006)) (by decide +kernel)) dX5_copy_40 ?_
          obtain ⟨q42, eq42, h⟩ := o_bd h
          refine kV (As := [.int (-1000000006 : Int32)]) (rest := []) (st' := [.int q42.1]) ⟨hx, hb, hml, hown, hts⟩ (kX5_finds l G eq42) (cwV 1 hts gX5_copy_X5_finds rfl rfl rfl qqX5_finds ⟨Nat.le_of_ble_eq_true rfl, Nat.le_of_ble_eq_true rfl⟩) hw (rvMd hw) rfl hl.1 rfl (Nat.le_of_ble_eq_true rfl) dX5_copy_42 ⟨Nat.zero_le _, Nat.zero_le _⟩ rfl (fun H locs hw => ?_)
          exact rI hQ hx hb hr hlk hw dX5_copy_45 (o_2a h) rfl (o_2b h)
    · replace h := o_t c11 h
      refine lv_aload_n hx hb dX5_copy_14 rfl (lv_at hl 0 rfl) ?_
      refine lv_ldc (v := -1000000001) hx hb hown (hts (.constant RX5 38 (-1000000001)) (by decide +kernel)) dX5_copy_15 ?_
      obtain ⟨q17, eq17, h⟩ := o_bd h
      refine kV (As := [.int (-1000000001 : Int32)]) (rest := []) (st' := [.int q17.1]) ⟨hx, hb, hml, hown, hts⟩ (kX5_finds l G eq17) (cwV 1 hts gX5_copy_X5_finds rfl rfl rfl qqX5_finds ⟨Nat.le_of_ble_eq_true rfl, Nat.le_of_ble_eq_true rfl⟩) hw (rvMd hw) rfl hl.1 rfl (Nat.le_of_ble_eq_true rfl) dX5_copy_17 ⟨Nat.zero_le _, Nat.zero_le _⟩ rfl (fun H locs hw => ?_)
      exact rI hQ hx hb hr hlk hw dX5_copy_20 (o_2a h) rfl (o_2b h)
-- X5_lacks
def fX5_lacks (M : sOb) (a1 : Int32) : Option Int32 :=
  (fX5_isSheet a1).bind fun q1 => if q1 = 0 then (some (-1000000001 : Int32)) else (if a1 < 0 ∨ 4 ≤ a1.toNatClampNeg then none else if 0 ≤ (M.2.1 5 a1.toNatClampNeg) then (some (0 : Int32)) else (some (-1000000006 : Int32)))
def rmX5_lacks : Room := { frames := 1, cells := 0, slots := 0, locals := 20 }
theorem qqX5_lacks : yX5_lacks.cls = RX5 ∧ yX5_lacks.cls ≠ "java/lang/invoke/MethodHandle" ∧ yX5_lacks.cls ≠ "java/lang/invoke/VarHandle" ∧ (parseMethodDescriptor yX5_lacks.desc).map (fun d => d.parameters.length) = some 1 := by decide +kernel
set_option maxRecDepth 100000 in
set_option maxHeartbeats 4000000 in
theorem kX5_lacks (l : Launch) (G : sGl) {S : sWo} {M : sOb} {a1 : Int32} {q : Int32}  (h : fX5_lacks M a1 = some q) : sCt l G yX5_lacks wsX5_lacks rmX5_lacks [.ref (sA G 9 0), .int a1] S M (some (.int q)) S M := by
  refine cMk (cc := cX5_lacks) (maxL := 2) (ret := (some .int)) (by decide) rfl (Nat.le_of_ble_eq_true rfl) ?_
  intro p e s m args below meth c Q hQ hx hb hr hlk hml hown hts hw ls hl
  have hown : s.vm.findClass RX5 = some m.cls := hown
  have hl : lv_has ls 2 [(0, .ref (sA G 9 0)), (1, .int a1)] := hl
  have hiX5 : ∀ w ∈ u_ws RX5 TX5 15, w ∈ wsX5_lacks := by decide +kernel
  unfold fX5_lacks at h
  refine lv_iload_n hx hb dX5_lacks_0 rfl (lv_at hl 1 rfl) ?_
  obtain ⟨q1, eq1, h⟩ := o_bd h
  refine kS (As := [.int a1]) (rest := []) (st' := [.int q1]) ⟨hx, hb, hml, hown, hts⟩ (kX5_isSheet l G eq1) (va_cwS 1 hts gX5_lacks_X5_isSheet rfl rfl rfl qqX5_isSheet ⟨Nat.le_of_ble_eq_true rfl, Nat.le_of_ble_eq_true rfl⟩) hw rfl hl.1 rfl (Nat.le_of_ble_eq_true rfl) dX5_lacks_1 ⟨Nat.zero_le _, Nat.zero_le _⟩ rfl (fun H locs hw => ?_)
  refine lv_if_ne (tgt := 12) hx hb dX5_lacks_4 (by decide) (fun c4 => ?_) (fun c4 => ?_)
  · replace h := o_f c4 h
    refine lv_aload_n hx hb dX5_lacks_12 rfl (lv_at hl 0 rfl) ?_
    refine gMd (v := .ref (sA G 9 6)) hx hb hts hiX5 hown hw 7 (by decide) (hts (.fieldLink RX5 25 "SecondHomeModel" "bitsOf" "[I") (by decide +kernel)) rfl dX5_lacks_13 ?_
    refine lv_iload_n hx hb dX5_lacks_16 rfl (lv_at hl 1 rfl) ?_
    obtain ⟨b17, h⟩ := o_in h
    refine ldMd hx hb hw 5 (by decide) (n := 4) rfl b17 dX5_lacks_17 ?_
    refine lv_if_ge (tgt := 26) hx hb dX5_lacks_18 (by decide) (fun c18 => ?_) (fun c18 => ?_)
    · replace h := o_t c18 h
      refine lv_iconst (v := 0) hx hb dX5_lacks_26 (by decide) ?_
      exact rI hQ hx hb hr hlk hw dX5_lacks_27 (o_1 h) rfl rfl
    · replace h := o_f c18 h
      refine lv_ldc (v := -1000000006) hx hb hown (hts (.constant RX5 229 (-1000000006)) (by decide +kernel)) dX5_lacks_21 ?_
      refine lv_goto (tgt := 27) hx hb dX5_lacks_23 (by decide) ?_
      exact rI hQ hx hb hr hlk hw dX5_lacks_27 (o_1 h) rfl rfl
  · replace h := o_t c4 h
    refine lv_ldc (v := -1000000001) hx hb hown (hts (.constant RX5 38 (-1000000001)) (by decide +kernel)) dX5_lacks_7 ?_
    refine lv_goto (tgt := 27) hx hb dX5_lacks_9 (by decide) ?_
    exact rI hQ hx hb hr hlk hw dX5_lacks_27 (o_1 h) rfl rfl
-- X5_lays
def bX5_lays_22 (a1 : Int32) (rc22 : Int32 → Int32 → sOb → Option (Int32 × sOb)) (x2_22 : Int32) (x3_22 : Int32) (T_22 : sOb) : Option (Int32 × sOb) :=
  if a1 < 0 ∨ 4 ≤ a1.toNatClampNeg then none else if (T_22.2.1 6 a1.toNatClampNeg) ≤ x3_22 then (some (x2_22, T_22)) else (if (T_22.2.1 0 (0 : Int32).toNatClampNeg) ≤ x3_22 then (some (x2_22, T_22)) else (if (((40 : Int32) * a1) + x3_22) < 0 ∨ 160 ≤ (((40 : Int32) * a1) + x3_22).toNatClampNeg then none else nm (T_22.2.2 (((40 : Int32) * a1) + x3_22).toNatClampNeg) fun v53 => (fX5_isIn v53 (1 : Int64) (12 : Int64)).bind fun q61 => if q61 = 0 then (nm (x3_22 + (1 : Int32)) fun v79 => rc22 x2_22 v79 T_22) else ((fX5_puts T_22 x3_22 (1 : Int32) v53.toInt32).bind fun q73 => nm (x2_22 + (1 : Int32)) fun v76 => nm (x3_22 + (1 : Int32)) fun v79 => rc22 v76 v79 q73)))
def fX5_lays (M : sOb) (a1 : Int32) : Option (Int32 × sOb) :=
  (fX5_lacks M a1).bind fun q2 => if q2 = 0 then (fx3 (bX5_lays_22 a1) FU (0 : Int32) (0 : Int32) M) else ((fX5_lacks M a1).bind fun q11 => (fX5_finds M q11).bind fun q14 => some (q14.1, q14.2))
def rmX5_lays : Room := { frames := 2, cells := 0, slots := 0, locals := 41 }
theorem qqX5_lays : yX5_lays.cls = RX5 ∧ yX5_lays.cls ≠ "java/lang/invoke/MethodHandle" ∧ yX5_lays.cls ≠ "java/lang/invoke/VarHandle" ∧ (parseMethodDescriptor yX5_lays.desc).map (fun d => d.parameters.length) = some 1 := by decide +kernel
set_option maxRecDepth 100000 in
set_option maxHeartbeats 4000000 in
theorem kX5_lays (l : Launch) (G : sGl) {S : sWo} {M : sOb} {a1 : Int32} {q : (Int32 × sOb)}  (h : fX5_lays M a1 = some q) : sCt l G yX5_lays wsX5_lays rmX5_lays [.ref (sA G 9 0), .int a1] S M (some (.int q.1)) S q.2 := by
  refine cMk (cc := cX5_lays) (maxL := 6) (ret := (some .int)) (by decide) rfl (Nat.le_of_ble_eq_true rfl) ?_
  intro p e s m args below meth c Q hQ hx hb hr hlk hml hown hts hw ls hl
  have hown : s.vm.findClass RX5 = some m.cls := hown
  have hl : lv_has ls 6 [(0, .ref (sA G 9 0)), (1, .int a1)] := hl
  have hiX5 : ∀ w ∈ u_ws RX5 TX5 15, w ∈ wsX5_lays := by decide +kernel
  unfold fX5_lays at h
  refine lv_aload_n hx hb dX5_lays_0 rfl (lv_at hl 0 rfl) ?_
  refine lv_iload_n hx hb dX5_lays_1 rfl (lv_at hl 1 rfl) ?_
  obtain ⟨q2, eq2, h⟩ := o_bd h
  refine kV (As := [.int a1]) (rest := []) (st' := [.int q2]) ⟨hx, hb, hml, hown, hts⟩ (kX5_lacks l G eq2) (cwV 1 hts gX5_lays_X5_lacks rfl rfl rfl qqX5_lacks ⟨Nat.le_of_ble_eq_true rfl, Nat.le_of_ble_eq_true rfl⟩) hw (rvMd hw) rfl hl.1 rfl (Nat.le_of_ble_eq_true rfl) dX5_lays_2 ⟨Nat.zero_le _, Nat.zero_le _⟩ rfl (fun H locs hw => ?_)
  refine lv_if_eq (tgt := 18) hx hb dX5_lays_5 (by decide) (fun c5 => ?_) (fun c5 => ?_)
  · replace h := o_t c5 h
    refine lv_iconst (v := 0) hx hb dX5_lays_18 (by decide) ?_
    refine lv_istore_n (lv' := [(2, .int (0 : Int32)), (0, .ref (sA G 9 0)), (1, .int a1)]) hx hb dX5_lays_19 rfl hl (by decide) rfl (fun ls hl => ?_)
    refine lv_iconst (v := 0) hx hb dX5_lays_20 (by decide) ?_
    refine lv_istore_n (lv' := [(3, .int (0 : Int32)), (2, .int (0 : Int32)), (0, .ref (sA G 9 0)), (1, .int a1)]) hx hb dX5_lays_21 rfl hl (by decide) rfl (fun ls hl => ?_)
    refine fx3_w (F := (bX5_lays_22 a1)) (P := fun x2_22 x3_22 T_22 => ∀ (H : Heap) (locs : List Loc) (ls : Array Slot), sHw G s S T_22 H locs → lv_has ls 6 [(0, .ref (sA G 9 0)), (1, .int a1), (2, .int x2_22), (3, .int x3_22)] → W p l e rmX5_lays s m args below meth c H locs 0 0 Q (F0 m 22 ls [])) ?_ _ _ _ _ h _ _ _ hw (lv_sub hl [2, 3, 1, 0] rfl)
    intro rc22 IH22 x2_22 x3_22 T_22 h H locs ls hw hl
    unfold bX5_lays_22 at h
    refine lv_iload_n hx hb dX5_lays_22 rfl (lv_at hl 3 rfl) ?_
    refine lv_aload_n hx hb dX5_lays_23 rfl (lv_at hl 0 rfl) ?_
    refine gMd (v := .ref (sA G 9 7)) hx hb hts hiX5 hown hw 8 (by decide) (hts (.fieldLink RX5 28 "SecondHomeModel" "sizes" "[I") (by decide +kernel)) rfl dX5_lays_24 ?_
    refine lv_iload_n hx hb dX5_lays_27 rfl (lv_at hl 1 rfl) ?_
    obtain ⟨b28, h⟩ := o_in h
    refine ldMd hx hb hw 6 (by decide) (n := 4) rfl b28 dX5_lays_28 ?_
    refine lv_icmp_ge (tgt := 85) hx hb dX5_lays_29 (by decide) (fun c29 => ?_) (fun c29 => ?_)
    · replace h := o_t c29 h
      refine lv_iload_n hx hb dX5_lays_85 rfl (lv_at hl 2 rfl) ?_
      exact rI hQ hx hb hr hlk hw dX5_lays_86 (o_2a h) rfl (o_2b h)
    · replace h := o_f c29 h
      refine lv_iload_n hx hb dX5_lays_32 rfl (lv_at hl 3 rfl) ?_
      refine lv_aload_n hx hb dX5_lays_33 rfl (lv_at hl 0 rfl) ?_
      refine gMd (v := .ref (sA G 9 1)) hx hb hts hiX5 hown hw 0 (by decide) (hts (.fieldLink RX5 7 "SecondHomeModel" "s" "[I") (by decide +kernel)) rfl dX5_lays_34 ?_
      refine lv_iconst (v := 0) hx hb dX5_lays_37 (by decide) ?_
      refine ldMd hx hb hw 0 (by decide) (n := 77) rfl (by decide) dX5_lays_38 ?_
      refine lv_icmp_ge (tgt := 85) hx hb dX5_lays_39 (by decide) (fun c39 => ?_) (fun c39 => ?_)
      · replace h := o_t c39 h
        refine lv_iload_n hx hb dX5_lays_85 rfl (lv_at hl 2 rfl) ?_
        exact rI hQ hx hb hr hlk hw dX5_lays_86 (o_2a h) rfl (o_2b h)
      · replace h := o_f c39 h
        refine lv_aload_n hx hb dX5_lays_42 rfl (lv_at hl 0 rfl) ?_
        refine gMd (v := .ref (sA G 9 9)) hx hb hts hiX5 hown hw 9 (by decide) (hts (.fieldLink RX5 31 "SecondHomeModel" "numbers" "[J") (by decide +kernel)) rfl dX5_lays_43 ?_
        refine lv_bipush (v := 40) hx hb dX5_lays_46 (by decide) ?_
        refine lv_iload_n hx hb dX5_lays_48 rfl (lv_at hl 1 rfl) ?_
        refine lv_imul hx hb dX5_lays_49 ?_
        refine lv_iload_n hx hb dX5_lays_50 rfl (lv_at hl 3 rfl) ?_
        refine lv_iadd hx hb dX5_lays_51 ?_
        obtain ⟨b52, h⟩ := o_in h
        refine ldMl hx hb hw b52 dX5_lays_52 ?_
        refine lv_topl (fun v53 ev53 => ?_)
        replace h := o_nx ev53 h
        refine lv_lstore (lv' := [(4, .long v53), (0, .ref (sA G 9 0)), (1, .int a1), (2, .int x2_22), (3, .int x3_22)]) hx hb dX5_lays_53 hl (by decide) rfl (fun ls hl => ?_)
        refine lv_lload hx hb dX5_lays_55 (lv_at hl 0 rfl) ?_
        refine lv_lconst (v := 1) hx hb dX5_lays_57 (by decide) ?_
        refine lv_ldc2 (v := 12) hx hb hown (hts (.constantLong RX5 70 (12)) (by decide +kernel)) dX5_lays_58 ?_
        obtain ⟨q61, eq61, h⟩ := o_bd h
        refine kS (As := [.long v53, .long (1 : Int64), .long (12 : Int64)]) (rest := []) (st' := [.int q61]) ⟨hx, hb, hml, hown, hts⟩ (kX5_isIn l G eq61) (va_cwS 3 hts gX5_lays_X5_isIn rfl rfl rfl qqX5_isIn ⟨Nat.le_of_ble_eq_true rfl, Nat.le_of_ble_eq_true rfl⟩) hw rfl hl.1 rfl (Nat.le_of_ble_eq_true rfl) dX5_lays_61 ⟨Nat.zero_le _, Nat.zero_le _⟩ rfl (fun H locs hw => ?_)
        refine lv_if_eq (tgt := 79) hx hb dX5_lays_64 (by decide) (fun c64 => ?_) (fun c64 => ?_)
        · replace h := o_t c64 h
          obtain ⟨v79, ev79, h⟩ := o_nm h
          refine lv_iinc (v := v79) (lv' := [(3, .int v79), (4, .long v53), (0, .ref (sA G 9 0)), (1, .int a1), (2, .int x2_22)]) hx hb dX5_lays_79 hl (k := 4) rfl (by rw [ev79]; rfl) (by decide) rfl (fun ls hl => ?_)
          refine lv_goto (tgt := 22) hx hb dX5_lays_82 (by decide) ?_
          exact IH22 x2_22 v79 T_22 h _ _ _ hw (lv_sub hl [2, 3, 4, 0] rfl)
        · replace h := o_f c64 h
          refine lv_aload_n hx hb dX5_lays_67 rfl (lv_at hl 1 rfl) ?_
          refine lv_iload_n hx hb dX5_lays_68 rfl (lv_at hl 4 rfl) ?_
          refine lv_iconst (v := 1) hx hb dX5_lays_69 (by decide) ?_
          refine lv_lload hx hb dX5_lays_70 (lv_at hl 0 rfl) ?_
          refine lv_l2i hx hb dX5_lays_72 rfl ?_
          obtain ⟨q73, eq73, h⟩ := o_bd h
          refine kV (As := [.int x3_22, .int (1 : Int32), .int v53.toInt32]) (rest := []) (st' := []) ⟨hx, hb, hml, hown, hts⟩ (kX5_puts l G eq73) (cwV 3 hts gX5_lays_X5_puts rfl rfl rfl qqX5_puts ⟨Nat.le_of_ble_eq_true rfl, Nat.le_of_ble_eq_true rfl⟩) hw (rvMd hw) rfl hl.1 rfl (Nat.le_of_ble_eq_true rfl) dX5_lays_73 ⟨Nat.zero_le _, Nat.zero_le _⟩ rfl (fun H locs hw => ?_)
          obtain ⟨v76, ev76, h⟩ := o_nm h
          refine lv_iinc (v := v76) (lv' := [(2, .int v76), (4, .long v53), (0, .ref (sA G 9 0)), (1, .int a1), (3, .int x3_22)]) hx hb dX5_lays_76 hl (k := 3) rfl (by rw [ev76]; rfl) (by decide) rfl (fun ls hl => ?_)
          obtain ⟨v79, ev79, h⟩ := o_nm h
          refine lv_iinc (v := v79) (lv' := [(3, .int v79), (2, .int v76), (4, .long v53), (0, .ref (sA G 9 0)), (1, .int a1)]) hx hb dX5_lays_79 hl (k := 4) rfl (by rw [ev79]; rfl) (by decide) rfl (fun ls hl => ?_)
          refine lv_goto (tgt := 22) hx hb dX5_lays_82 (by decide) ?_
          exact IH22 v76 v79 q73 h _ _ _ hw (lv_sub hl [3, 4, 1, 0] rfl)
  · replace h := o_f c5 h
    refine lv_aload_n hx hb dX5_lays_8 rfl (lv_at hl 0 rfl) ?_
    refine lv_aload_n hx hb dX5_lays_9 rfl (lv_at hl 0 rfl) ?_
    refine lv_iload_n hx hb dX5_lays_10 rfl (lv_at hl 1 rfl) ?_
    obtain ⟨q11, eq11, h⟩ := o_bd h
    refine kV (As := [.int a1]) (rest := [.ref (sA G 9 0)]) (st' := [.int q11, .ref (sA G 9 0)]) ⟨hx, hb, hml, hown, hts⟩ (kX5_lacks l G eq11) (cwV 1 hts gX5_lays_X5_lacks rfl rfl rfl qqX5_lacks ⟨Nat.le_of_ble_eq_true rfl, Nat.le_of_ble_eq_true rfl⟩) hw (rvMd hw) rfl hl.1 rfl (Nat.le_of_ble_eq_true rfl) dX5_lays_11 ⟨Nat.zero_le _, Nat.zero_le _⟩ rfl (fun H locs hw => ?_)
    obtain ⟨q14, eq14, h⟩ := o_bd h
    refine kV (As := [.int q11]) (rest := []) (st' := [.int q14.1]) ⟨hx, hb, hml, hown, hts⟩ (kX5_finds l G eq14) (cwV 1 hts gX5_lays_X5_finds rfl rfl rfl qqX5_finds ⟨Nat.le_of_ble_eq_true rfl, Nat.le_of_ble_eq_true rfl⟩) hw (rvMd hw) rfl hl.1 rfl (Nat.le_of_ble_eq_true rfl) dX5_lays_14 ⟨Nat.zero_le _, Nat.zero_le _⟩ rfl (fun H locs hw => ?_)
    exact rI hQ hx hb hr hlk hw dX5_lays_17 (o_2a h) rfl (o_2b h)
-- X5_film
def bX5_film_39 (a1 : Int32) (a2 : Int32) (k88 : sOb → Option (Int32 × sOb)) (rc39 : Int32 → sOb → Option (Int32 × sOb)) (x3_39 : Int32) (T_39 : sOb) : Option (Int32 × sOb) :=
  if a1 < 0 ∨ 4 ≤ a1.toNatClampNeg then none else if (T_39.2.1 6 a1.toNatClampNeg) ≤ x3_39 then (k88 T_39) else ((fX5_is T_39 a2 (5 : Int32)).bind fun q68 => (fX5_narrow (T_39.2.1 5 a1.toNatClampNeg) q68.toInt64).bind fun q72 => if (((40 : Int32) * a1) + x3_39) < 0 ∨ 160 ≤ (((40 : Int32) * a1) + x3_39).toNatClampNeg then none else nm (sSl T_39 (((40 : Int32) * a1) + x3_39).toNatClampNeg q72) fun M75 => (fX5_goesOn M75).bind fun q77 => nm (x3_39 + (1 : Int32)) fun v82 => rc39 v82 q77.2)
def fX5_film (M : sOb) (a1 : Int32) (a2 : Int32) : Option (Int32 × sOb) :=
  (fX5_lacks M a1).bind fun q2 => if q2 = 0 then ((fX5_isRunner M a2).bind fun q20 => if q20 = 0 then ((fX5_finds M (-1000000001 : Int32)).bind fun q29 => some (q29.1, q29.2)) else ((fX5_laysBy M).bind fun q34 => nm (fun (T_88 : sOb) => (fX5_laysBack T_88).bind fun q89 => if a1 < 0 ∨ 4 ≤ a1.toNatClampNeg then none else some ((q89.2.1 6 a1.toNatClampNeg), q89)) fun k88 => fx2 (bX5_film_39 a1 a2 k88) FU (0 : Int32) q34)) else ((fX5_lacks M a1).bind fun q11 => (fX5_finds M q11).bind fun q14 => some (q14.1, q14.2))
def rmX5_film : Room := { frames := 5, cells := 0, slots := 0, locals := 116 }
theorem qqX5_film : yX5_film.cls = RX5 ∧ yX5_film.cls ≠ "java/lang/invoke/MethodHandle" ∧ yX5_film.cls ≠ "java/lang/invoke/VarHandle" ∧ (parseMethodDescriptor yX5_film.desc).map (fun d => d.parameters.length) = some 2 := by decide +kernel
set_option maxRecDepth 100000 in
set_option maxHeartbeats 4000000 in
theorem kX5_film (l : Launch) (G : sGl) {S : sWo} {M : sOb} {a1 : Int32} {a2 : Int32} {q : (Int32 × sOb)}  (h : fX5_film M a1 a2 = some q) : sCt l G yX5_film wsX5_film rmX5_film [.ref (sA G 9 0), .int a1, .int a2] S M (some (.int q.1)) S q.2 := by
  refine cMk (cc := cX5_film) (maxL := 5) (ret := (some .int)) (by decide) rfl (Nat.le_of_ble_eq_true rfl) ?_
  intro p e s m args below meth c Q hQ hx hb hr hlk hml hown hts hw ls hl
  have hown : s.vm.findClass RX5 = some m.cls := hown
  have hl : lv_has ls 5 [(0, .ref (sA G 9 0)), (1, .int a1), (2, .int a2)] := hl
  have hiX5 : ∀ w ∈ u_ws RX5 TX5 15, w ∈ wsX5_film := by decide +kernel
  unfold fX5_film at h
  refine lv_aload_n hx hb dX5_film_0 rfl (lv_at hl 0 rfl) ?_
  refine lv_iload_n hx hb dX5_film_1 rfl (lv_at hl 1 rfl) ?_
  obtain ⟨q2, eq2, h⟩ := o_bd h
  refine kV (As := [.int a1]) (rest := []) (st' := [.int q2]) ⟨hx, hb, hml, hown, hts⟩ (kX5_lacks l G eq2) (cwV 1 hts gX5_film_X5_lacks rfl rfl rfl qqX5_lacks ⟨Nat.le_of_ble_eq_true rfl, Nat.le_of_ble_eq_true rfl⟩) hw (rvMd hw) rfl hl.1 rfl (Nat.le_of_ble_eq_true rfl) dX5_film_2 ⟨Nat.zero_le _, Nat.zero_le _⟩ rfl (fun H locs hw => ?_)
  refine lv_if_eq (tgt := 18) hx hb dX5_film_5 (by decide) (fun c5 => ?_) (fun c5 => ?_)
  · replace h := o_t c5 h
    refine lv_aload_n hx hb dX5_film_18 rfl (lv_at hl 0 rfl) ?_
    refine lv_iload_n hx hb dX5_film_19 rfl (lv_at hl 2 rfl) ?_
    obtain ⟨q20, eq20, h⟩ := o_bd h
    refine kV (As := [.int a2]) (rest := []) (st' := [.int q20]) ⟨hx, hb, hml, hown, hts⟩ (kX5_isRunner l G eq20) (cwV 1 hts gX5_film_X5_isRunner rfl rfl rfl qqX5_isRunner ⟨Nat.le_of_ble_eq_true rfl, Nat.le_of_ble_eq_true rfl⟩) hw (rvMd hw) rfl hl.1 rfl (Nat.le_of_ble_eq_true rfl) dX5_film_20 ⟨Nat.zero_le _, Nat.zero_le _⟩ rfl (fun H locs hw => ?_)
    refine lv_if_ne (tgt := 33) hx hb dX5_film_23 (by decide) (fun c23 => ?_) (fun c23 => ?_)
    · replace h := o_f c23 h
      refine lv_aload_n hx hb dX5_film_33 rfl (lv_at hl 0 rfl) ?_
      obtain ⟨q34, eq34, h⟩ := o_bd h
      refine kV (As := []) (rest := []) (st' := []) ⟨hx, hb, hml, hown, hts⟩ (kX5_laysBy l G eq34) (cwV 0 hts gX5_film_X5_laysBy rfl rfl rfl qqX5_laysBy ⟨Nat.le_of_ble_eq_true rfl, Nat.le_of_ble_eq_true rfl⟩) hw (rvMd hw) rfl hl.1 rfl (Nat.le_of_ble_eq_true rfl) dX5_film_34 ⟨Nat.zero_le _, Nat.zero_le _⟩ rfl (fun H locs hw => ?_)
      refine lv_iconst (v := 0) hx hb dX5_film_37 (by decide) ?_
      refine lv_istore_n (lv' := [(3, .int (0 : Int32)), (0, .ref (sA G 9 0)), (1, .int a1), (2, .int a2)]) hx hb dX5_film_38 rfl hl (by decide) rfl (fun ls hl => ?_)
      obtain ⟨k88, ek88, h⟩ := o_nm h
      have J88 : ∀ (T_88 : sOb) (H : Heap) (locs : List Loc) (ls : Array Slot), sHw G s S T_88 H locs → lv_has ls 5 [(0, .ref (sA G 9 0)), (1, .int a1)] → k88 T_88 = some q → W p l e rmX5_film s m args below meth c H locs 0 0 Q (F0 m 88 ls []) := by
        intro T_88 H locs ls hw hl h
        replace h := o_j1 ek88 h
        refine lv_aload_n hx hb dX5_film_88 rfl (lv_at hl 0 rfl) ?_
        obtain ⟨q89, eq89, h⟩ := o_bd h
        refine kV (As := []) (rest := []) (st' := []) ⟨hx, hb, hml, hown, hts⟩ (kX5_laysBack l G eq89) (cwV 0 hts gX5_film_X5_laysBack rfl rfl rfl qqX5_laysBack ⟨Nat.le_of_ble_eq_true rfl, Nat.le_of_ble_eq_true rfl⟩) hw (rvMd hw) rfl hl.1 rfl (Nat.le_of_ble_eq_true rfl) dX5_film_89 ⟨Nat.zero_le _, Nat.zero_le _⟩ rfl (fun H locs hw => ?_)
        refine lv_aload_n hx hb dX5_film_92 rfl (lv_at hl 0 rfl) ?_
        refine gMd (v := .ref (sA G 9 7)) hx hb hts hiX5 hown hw 8 (by decide) (hts (.fieldLink RX5 28 "SecondHomeModel" "sizes" "[I") (by decide +kernel)) rfl dX5_film_93 ?_
        refine lv_iload_n hx hb dX5_film_96 rfl (lv_at hl 1 rfl) ?_
        obtain ⟨b97, h⟩ := o_in h
        refine ldMd hx hb hw 6 (by decide) (n := 4) rfl b97 dX5_film_97 ?_
        exact rI hQ hx hb hr hlk hw dX5_film_98 (o_2a h) rfl (o_2b h)
      refine fx2_w (F := (bX5_film_39 a1 a2 k88)) (P := fun x3_39 T_39 => ∀ (H : Heap) (locs : List Loc) (ls : Array Slot), sHw G s S T_39 H locs → lv_has ls 5 [(0, .ref (sA G 9 0)), (1, .int a1), (2, .int a2), (3, .int x3_39)] → W p l e rmX5_film s m args below meth c H locs 0 0 Q (F0 m 39 ls [])) ?_ _ _ _ h _ _ _ hw (lv_sub hl [1, 2, 3, 0] rfl)
      intro rc39 IH39 x3_39 T_39 h H locs ls hw hl
      unfold bX5_film_39 at h
      refine lv_iload_n hx hb dX5_film_39 rfl (lv_at hl 3 rfl) ?_
      refine lv_aload_n hx hb dX5_film_40 rfl (lv_at hl 0 rfl) ?_
      refine gMd (v := .ref (sA G 9 7)) hx hb hts hiX5 hown hw 8 (by decide) (hts (.fieldLink RX5 28 "SecondHomeModel" "sizes" "[I") (by decide +kernel)) rfl dX5_film_41 ?_
      refine lv_iload_n hx hb dX5_film_44 rfl (lv_at hl 1 rfl) ?_
      obtain ⟨b45, h⟩ := o_in h
      refine ldMd hx hb hw 6 (by decide) (n := 4) rfl b45 dX5_film_45 ?_
      refine lv_icmp_ge (tgt := 88) hx hb dX5_film_46 (by decide) (fun c46 => ?_) (fun c46 => ?_)
      · replace h := o_t c46 h
        exact J88 T_39 _ _ _ hw (lv_sub hl [0, 1] rfl) h
      · replace h := o_f c46 h
        refine lv_aload_n hx hb dX5_film_49 rfl (lv_at hl 0 rfl) ?_
        refine gMd (v := .ref (sA G 9 9)) hx hb hts hiX5 hown hw 9 (by decide) (hts (.fieldLink RX5 31 "SecondHomeModel" "numbers" "[J") (by decide +kernel)) rfl dX5_film_50 ?_
        refine lv_bipush (v := 40) hx hb dX5_film_53 (by decide) ?_
        refine lv_iload_n hx hb dX5_film_55 rfl (lv_at hl 1 rfl) ?_
        refine lv_imul hx hb dX5_film_56 ?_
        refine lv_iload_n hx hb dX5_film_57 rfl (lv_at hl 3 rfl) ?_
        refine lv_iadd hx hb dX5_film_58 ?_
        refine lv_aload_n hx hb dX5_film_59 rfl (lv_at hl 0 rfl) ?_
        refine gMd (v := .ref (sA G 9 6)) hx hb hts hiX5 hown hw 7 (by decide) (hts (.fieldLink RX5 25 "SecondHomeModel" "bitsOf" "[I") (by decide +kernel)) rfl dX5_film_60 ?_
        refine lv_iload_n hx hb dX5_film_63 rfl (lv_at hl 1 rfl) ?_
        refine ldMd hx hb hw 5 (by decide) (n := 4) rfl b45 dX5_film_64 ?_
        refine lv_aload_n hx hb dX5_film_65 rfl (lv_at hl 0 rfl) ?_
        refine lv_iload_n hx hb dX5_film_66 rfl (lv_at hl 2 rfl) ?_
        refine lv_iconst (v := 5) hx hb dX5_film_67 (by decide) ?_
        obtain ⟨q68, eq68, h⟩ := o_bd h
        refine kV (As := [.int a2, .int (5 : Int32)]) (rest := [.int (T_39.2.1 5 a1.toNatClampNeg), .int (((40 : Int32) * a1) + x3_39), .ref (sA G 9 9)]) (st' := [.int q68, .int (T_39.2.1 5 a1.toNatClampNeg), .int (((40 : Int32) * a1) + x3_39), .ref (sA G 9 9)]) ⟨hx, hb, hml, hown, hts⟩ (kX5_is l G eq68) (cwV 2 hts gX5_film_X5_is rfl rfl rfl qqX5_is ⟨Nat.le_of_ble_eq_true rfl, Nat.le_of_ble_eq_true rfl⟩) hw (rvMd hw) rfl hl.1 rfl (Nat.le_of_ble_eq_true rfl) dX5_film_68 ⟨Nat.zero_le _, Nat.zero_le _⟩ rfl (fun H locs hw => ?_)
        refine lv_i2l hx hb dX5_film_71 rfl ?_
        obtain ⟨q72, eq72, h⟩ := o_bd h
        refine kS (As := [.int (T_39.2.1 5 a1.toNatClampNeg), .long q68.toInt64]) (rest := [.int (((40 : Int32) * a1) + x3_39), .ref (sA G 9 9)]) (st' := [.long q72, .int (((40 : Int32) * a1) + x3_39), .ref (sA G 9 9)]) ⟨hx, hb, hml, hown, hts⟩ (kX5_narrow l G eq72) (va_cwS 2 hts gX5_film_X5_narrow rfl rfl rfl qqX5_narrow ⟨Nat.le_of_ble_eq_true rfl, Nat.le_of_ble_eq_true rfl⟩) hw rfl hl.1 rfl (Nat.le_of_ble_eq_true rfl) dX5_film_72 ⟨Nat.zero_le _, Nat.zero_le _⟩ rfl (fun H locs hw => ?_)
        obtain ⟨b75, h⟩ := o_in h
        refine stMl hx hb hw b75 dX5_film_75 rfl (fun H locs hw => ?_)
        obtain ⟨M75, eM75, h⟩ := o_nm h
        rw [← eM75] at hw
        refine lv_aload_n hx hb dX5_film_76 rfl (lv_at hl 0 rfl) ?_
        obtain ⟨q77, eq77, h⟩ := o_bd h
        refine kV (As := []) (rest := []) (st' := [.int q77.1]) ⟨hx, hb, hml, hown, hts⟩ (kX5_goesOn l G eq77) (cwV 0 hts gX5_film_X5_goesOn rfl rfl rfl qqX5_goesOn ⟨Nat.le_of_ble_eq_true rfl, Nat.le_of_ble_eq_true rfl⟩) hw (rvMd hw) rfl hl.1 rfl (Nat.le_of_ble_eq_true rfl) dX5_film_77 ⟨Nat.zero_le _, Nat.zero_le _⟩ rfl (fun H locs hw => ?_)
        refine lv_istore (lv' := [(4, .int q77.1), (0, .ref (sA G 9 0)), (1, .int a1), (2, .int a2), (3, .int x3_39)]) hx hb dX5_film_80 hl (by decide) rfl (fun ls hl => ?_)
        obtain ⟨v82, ev82, h⟩ := o_nm h
        refine lv_iinc (v := v82) (lv' := [(3, .int v82), (4, .int q77.1), (0, .ref (sA G 9 0)), (1, .int a1), (2, .int a2)]) hx hb dX5_film_82 hl (k := 4) rfl (by rw [ev82]; rfl) (by decide) rfl (fun ls hl => ?_)
        refine lv_goto (tgt := 39) hx hb dX5_film_85 (by decide) ?_
        exact IH39 v82 q77.2 h _ _ _ hw (lv_sub hl [2, 3, 4, 0] rfl)
    · replace h := o_t c23 h
      refine lv_aload_n hx hb dX5_film_26 rfl (lv_at hl 0 rfl) ?_
      refine lv_ldc (v := -1000000001) hx hb hown (hts (.constant RX5 38 (-1000000001)) (by decide +kernel)) dX5_film_27 ?_
      obtain ⟨q29, eq29, h⟩ := o_bd h
      refine kV (As := [.int (-1000000001 : Int32)]) (rest := []) (st' := [.int q29.1]) ⟨hx, hb, hml, hown, hts⟩ (kX5_finds l G eq29) (cwV 1 hts gX5_film_X5_finds rfl rfl rfl qqX5_finds ⟨Nat.le_of_ble_eq_true rfl, Nat.le_of_ble_eq_true rfl⟩) hw (rvMd hw) rfl hl.1 rfl (Nat.le_of_ble_eq_true rfl) dX5_film_29 ⟨Nat.zero_le _, Nat.zero_le _⟩ rfl (fun H locs hw => ?_)
      exact rI hQ hx hb hr hlk hw dX5_film_32 (o_2a h) rfl (o_2b h)
  · replace h := o_f c5 h
    refine lv_aload_n hx hb dX5_film_8 rfl (lv_at hl 0 rfl) ?_
    refine lv_aload_n hx hb dX5_film_9 rfl (lv_at hl 0 rfl) ?_
    refine lv_iload_n hx hb dX5_film_10 rfl (lv_at hl 1 rfl) ?_
    obtain ⟨q11, eq11, h⟩ := o_bd h
    refine kV (As := [.int a1]) (rest := [.ref (sA G 9 0)]) (st' := [.int q11, .ref (sA G 9 0)]) ⟨hx, hb, hml, hown, hts⟩ (kX5_lacks l G eq11) (cwV 1 hts gX5_film_X5_lacks rfl rfl rfl qqX5_lacks ⟨Nat.le_of_ble_eq_true rfl, Nat.le_of_ble_eq_true rfl⟩) hw (rvMd hw) rfl hl.1 rfl (Nat.le_of_ble_eq_true rfl) dX5_film_11 ⟨Nat.zero_le _, Nat.zero_le _⟩ rfl (fun H locs hw => ?_)
    obtain ⟨q14, eq14, h⟩ := o_bd h
    refine kV (As := [.int q11]) (rest := []) (st' := [.int q14.1]) ⟨hx, hb, hml, hown, hts⟩ (kX5_finds l G eq14) (cwV 1 hts gX5_film_X5_finds rfl rfl rfl qqX5_finds ⟨Nat.le_of_ble_eq_true rfl, Nat.le_of_ble_eq_true rfl⟩) hw (rvMd hw) rfl hl.1 rfl (Nat.le_of_ble_eq_true rfl) dX5_film_14 ⟨Nat.zero_le _, Nat.zero_le _⟩ rfl (fun H locs hw => ?_)
    exact rI hQ hx hb hr hlk hw dX5_film_17 (o_2a h) rfl (o_2b h)
-- X5_read
def bX5_read_119 (x2_113 : Int32) (q114 : sOb) (rc119 : Int32 → Option (Int32 × sOb)) (x3_119 : Int32) : Option (Int32 × sOb) :=
  if (q114.2.1 0 (0 : Int32).toNatClampNeg) ≤ x3_119 then ((fX5_finds q114 (-1000000004 : Int32)).bind fun q149 => some (q149.1, q149.2)) else (if ((x2_113 >>> (x3_119 &&& 31)) &&& (1 : Int32)) = (1 : Int32) then (some (x3_119, q114)) else (nm (x3_119 + (1 : Int32)) fun v140 => rc119 v140))
def bX5_read_48 (a1 : Int32) (x3_35 : Int32) (T_35 : sOb) (k101 : Int32 → Option (Int32 × sOb)) (rc48 : Int32 → Int32 → Option (Int32 × sOb)) (x2_48 : Int32) (x4_48 : Int32) : Option (Int32 × sOb) :=
  if (T_35.2.1 0 (0 : Int32).toNatClampNeg) ≤ x4_48 then (k101 x2_48) else (if (((40 : Int32) * a1) + x3_35) < 0 ∨ 160 ≤ (((40 : Int32) * a1) + x3_35).toNatClampNeg then none else (fX5_is T_35 x4_48 (5 : Int32)).bind fun q75 => if (lg_cmp (T_35.2.2 (((40 : Int32) * a1) + x3_35).toNatClampNeg) q75.toInt64) = 0 then (nm (x2_48 &&& (-1 : Int32)) fun v94 => nm (x4_48 + (1 : Int32)) fun v95 => rc48 v94 v95) else (nm (x2_48 &&& (((1 : Int32) <<< (x4_48 &&& 31)) ^^^ (-1 : Int32))) fun v94 => nm (x4_48 + (1 : Int32)) fun v95 => rc48 v94 v95))
def bX5_read_35 (a1 : Int32) (k113 : Int32 → sOb → Option (Int32 × sOb)) (rc35 : Int32 → Int32 → sOb → Option (Int32 × sOb)) (x2_35 : Int32) (x3_35 : Int32) (T_35 : sOb) : Option (Int32 × sOb) :=
  if a1 < 0 ∨ 4 ≤ a1.toNatClampNeg then none else if (T_35.2.1 6 a1.toNatClampNeg) ≤ x3_35 then (k113 x2_35 T_35) else (nm (fun (x2_101 : Int32) => (fX5_goesOn T_35).bind fun q102 => nm (x3_35 + (1 : Int32)) fun v107 => rc35 x2_101 v107 q102.2) fun k101 => fx2 (bX5_read_48 a1 x3_35 T_35 k101) FU x2_35 (0 : Int32))
def fX5_read (M : sOb) (a1 : Int32) : Option (Int32 × sOb) :=
  (fX5_lacks M a1).bind fun q2 => if q2 = 0 then ((fX5_laysBy M).bind fun q19 => nm (((1 : Int32) <<< ((q19.2.1 0 (0 : Int32).toNatClampNeg) &&& 31)) - (1 : Int32)) fun v32 => nm (fun (x2_113 : Int32) (T_113 : sOb) => (fX5_laysBack T_113).bind fun q114 => fx1 (bX5_read_119 x2_113 q114) FU (0 : Int32)) fun k113 => fx3 (bX5_read_35 a1 k113) FU v32 (0 : Int32) q19) else ((fX5_lacks M a1).bind fun q11 => (fX5_finds M q11).bind fun q14 => some (q14.1, q14.2))
def rmX5_read : Room := { frames := 5, cells := 0, slots := 0, locals := 116 }
theorem qqX5_read : yX5_read.cls = RX5 ∧ yX5_read.cls ≠ "java/lang/invoke/MethodHandle" ∧ yX5_read.cls ≠ "java/lang/invoke/VarHandle" ∧ (parseMethodDescriptor yX5_read.desc).map (fun d => d.parameters.length) = some 1 := by decide +kernel
set_option maxRecDepth 100000 in
set_option maxHeartbeats 4000000 in
theorem kX5_read (l : Launch) (G : sGl) {S : sWo} {M : sOb} {a1 : Int32} {q : (Int32 × sOb)}  (h : fX5_read M a1 = some q) : sCt l G yX5_read wsX5_read rmX5_read [.ref (sA G 9 0), .int a1] S M (some (.int q.1)) S q.2 := by
  refine cMk (cc := cX5_read) (maxL := 5) (ret := (some .int)) (by decide) rfl (Nat.le_of_ble_eq_true rfl) ?_
  intro p e s m args below meth c Q hQ hx hb hr hlk hml hown hts hw ls hl
  have hown : s.vm.findClass RX5 = some m.cls := hown
  have hl : lv_has ls 5 [(0, .ref (sA G 9 0)), (1, .int a1)] := hl
  have hiX5 : ∀ w ∈ u_ws RX5 TX5 15, w ∈ wsX5_read := by decide +kernel
  unfold fX5_read at h
  refine lv_aload_n hx hb dX5_read_0 rfl (lv_at hl 0 rfl) ?_
  refine lv_iload_n hx hb dX5_read_1 rfl (lv_at hl 1 rfl) ?_
  obtain ⟨q2, eq2, h⟩ := o_bd h
  refine kV (As := [.int a1]) (rest := []) (st' := [.int q2]) ⟨hx, hb, hml, hown, hts⟩ (kX5_lacks l G eq2) (cwV 1 hts gX5_read_X5_lacks rfl rfl rfl qqX5_lacks ⟨Nat.le_of_ble_eq_true rfl, Nat.le_of_ble_eq_true rfl⟩) hw (rvMd hw) rfl hl.1 rfl (Nat.le_of_ble_eq_true rfl) dX5_read_2 ⟨Nat.zero_le _, Nat.zero_le _⟩ rfl (fun H locs hw => ?_)
  refine lv_if_eq (tgt := 18) hx hb dX5_read_5 (by decide) (fun c5 => ?_) (fun c5 => ?_)
  · replace h := o_t c5 h
    refine lv_aload_n hx hb dX5_read_18 rfl (lv_at hl 0 rfl) ?_
    obtain ⟨q19, eq19, h⟩ := o_bd h
    refine kV (As := []) (rest := []) (st' := []) ⟨hx, hb, hml, hown, hts⟩ (kX5_laysBy l G eq19) (cwV 0 hts gX5_read_X5_laysBy rfl rfl rfl qqX5_laysBy ⟨Nat.le_of_ble_eq_true rfl, Nat.le_of_ble_eq_true rfl⟩) hw (rvMd hw) rfl hl.1 rfl (Nat.le_of_ble_eq_true rfl) dX5_read_19 ⟨Nat.zero_le _, Nat.zero_le _⟩ rfl (fun H locs hw => ?_)
    refine lv_iconst (v := 1) hx hb dX5_read_22 (by decide) ?_
    refine lv_aload_n hx hb dX5_read_23 rfl (lv_at hl 0 rfl) ?_
    refine gMd (v := .ref (sA G 9 1)) hx hb hts hiX5 hown hw 0 (by decide) (hts (.fieldLink RX5 7 "SecondHomeModel" "s" "[I") (by decide +kernel)) rfl dX5_read_24 ?_
    refine lv_iconst (v := 0) hx hb dX5_read_27 (by decide) ?_
    refine ldMd hx hb hw 0 (by decide) (n := 77) rfl (by decide) dX5_read_28 ?_
    refine lv_ishl hx hb dX5_read_29 ?_
    refine lv_iconst (v := 1) hx hb dX5_read_30 (by decide) ?_
    refine lv_isub hx hb dX5_read_31 ?_
    refine lv_topi (fun v32 ev32 => ?_)
    replace h := o_nx ev32 h
    refine lv_istore_n (lv' := [(2, .int v32), (0, .ref (sA G 9 0)), (1, .int a1)]) hx hb dX5_read_32 rfl hl (by decide) rfl (fun ls hl => ?_)
    refine lv_iconst (v := 0) hx hb dX5_read_33 (by decide) ?_
    refine lv_istore_n (lv' := [(3, .int (0 : Int32)), (2, .int v32), (0, .ref (sA G 9 0)), (1, .int a1)]) hx hb dX5_read_34 rfl hl (by decide) rfl (fun ls hl => ?_)
    obtain ⟨k113, ek113, h⟩ := o_nm h
    have J113 : ∀ (x2_113 : Int32) (T_113 : sOb) (H : Heap) (locs : List Loc) (ls : Array Slot), sHw G s S T_113 H locs → lv_has ls 5 [(0, .ref (sA G 9 0)), (2, .int x2_113)] → k113 x2_113 T_113 = some q → W p l e rmX5_read s m args below meth c H locs 0 0 Q (F0 m 113 ls []) := by
      intro x2_113 T_113 H locs ls hw hl h
      replace h := o_j2 ek113 h
      refine lv_aload_n hx hb dX5_read_113 rfl (lv_at hl 0 rfl) ?_
      obtain ⟨q114, eq114, h⟩ := o_bd h
      refine kV (As := []) (rest := []) (st' := []) ⟨hx, hb, hml, hown, hts⟩ (kX5_laysBack l G eq114) (cwV 0 hts gX5_read_X5_laysBack rfl rfl rfl qqX5_laysBack ⟨Nat.le_of_ble_eq_true rfl, Nat.le_of_ble_eq_true rfl⟩) hw (rvMd hw) rfl hl.1 rfl (Nat.le_of_ble_eq_true rfl) dX5_read_114 ⟨Nat.zero_le _, Nat.zero_le _⟩ rfl (fun H locs hw => ?_)
      refine lv_iconst (v := 0) hx hb dX5_read_117 (by decide) ?_
      refine lv_istore_n (lv' := [(3, .int (0 : Int32)), (0, .ref (sA G 9 0)), (2, .int x2_113)]) hx hb dX5_read_118 rfl hl (by decide) rfl (fun ls hl => ?_)
      refine fx1_w (F := (bX5_read_119 x2_113 q114)) (P := fun x3_119 => ∀ (H : Heap) (locs : List Loc) (ls : Array Slot), sHw G s S q114 H locs → lv_has ls 5 [(0, .ref (sA G 9 0)), (2, .int x2_113), (3, .int x3_119)] → W p l e rmX5_read s m args below meth c H locs 0 0 Q (F0 m 119 ls [])) ?_ _ _ h _ _ _ hw (lv_sub hl [1, 2, 0] rfl)
      intro rc119 IH119 x3_119 h H locs ls hw hl
      unfold bX5_read_119 at h
      refine lv_iload_n hx hb dX5_read_119 rfl (lv_at hl 2 rfl) ?_
      refine lv_aload_n hx hb dX5_read_120 rfl (lv_at hl 0 rfl) ?_
      refine gMd (v := .ref (sA G 9 1)) hx hb hts hiX5 hown hw 0 (by decide) (hts (.fieldLink RX5 7 "SecondHomeModel" "s" "[I") (by decide +kernel)) rfl dX5_read_121 ?_
      refine lv_iconst (v := 0) hx hb dX5_read_124 (by decide) ?_
      refine ldMd hx hb hw 0 (by decide) (n := 77) rfl (by decide) dX5_read_125 ?_
      refine lv_icmp_ge (tgt := 146) hx hb dX5_read_126 (by decide) (fun c126 => ?_) (fun c126 => ?_)
      · replace h := o_t c126 h
        refine lv_aload_n hx hb dX5_read_146 rfl (lv_at hl 0 rfl) ?_
        refine lv_ldc (v := -1000000004) hx hb hown (hts (.constant RX5 39 (-1000000004)) (by decide +kernel)) dX5_read_147 ?_
        obtain ⟨q149, eq149, h⟩ := o_bd h
        refine kV (As := [.int (-1000000004 : Int32)]) (rest := []) (st' := [.int q149.1]) ⟨hx, hb, hml, hown, hts⟩ (kX5_finds l G eq149) (cwV 1 hts gX5_read_X5_finds rfl rfl rfl qqX5_finds ⟨Nat.le_of_ble_eq_true rfl, Nat.le_of_ble_eq_true rfl⟩) hw (rvMd hw) rfl hl.1 rfl (Nat.le_of_ble_eq_true rfl) dX5_read_149 ⟨Nat.zero_le _, Nat.zero_le _⟩ rfl (fun H locs hw => ?_)
        exact rI hQ hx hb hr hlk hw dX5_read_152 (o_2a h) rfl (o_2b h)
      · replace h := o_f c126 h
        refine lv_iload_n hx hb dX5_read_129 rfl (lv_at hl 1 rfl) ?_
        refine lv_iload_n hx hb dX5_read_130 rfl (lv_at hl 2 rfl) ?_
        refine lv_ishr hx hb dX5_read_131 ?_
        refine lv_iconst (v := 1) hx hb dX5_read_132 (by decide) ?_
        refine lv_iand hx hb dX5_read_133 ?_
        refine lv_iconst (v := 1) hx hb dX5_read_134 (by decide) ?_
        refine lv_icmp_ne (tgt := 140) hx hb dX5_read_135 (by decide) (fun c135 => ?_) (fun c135 => ?_)
        · replace h := o_f c135 h
          obtain ⟨v140, ev140, h⟩ := o_nm h
          refine lv_iinc (v := v140) (lv' := [(3, .int v140), (0, .ref (sA G 9 0)), (2, .int x2_113)]) hx hb dX5_read_140 hl (k := 2) rfl (by rw [ev140]; rfl) (by decide) rfl (fun ls hl => ?_)
          refine lv_goto (tgt := 119) hx hb dX5_read_143 (by decide) ?_
          exact IH119 v140 h _ _ _ hw (lv_sub hl [1, 2, 0] rfl)
        · replace h := o_t c135 h
          refine lv_iload_n hx hb dX5_read_138 rfl (lv_at hl 2 rfl) ?_
          exact rI hQ hx hb hr hlk hw dX5_read_139 (o_2a h) rfl (o_2b h)
    refine fx3_w (F := (bX5_read_35 a1 k113)) (P := fun x2_35 x3_35 T_35 => ∀ (H : Heap) (locs : List Loc) (ls : Array Slot), sHw G s S T_35 H locs → lv_has ls 5 [(0, .ref (sA G 9 0)), (1, .int a1), (2, .int x2_35), (3, .int x3_35)] → W p l e rmX5_read s m args below meth c H locs 0 0 Q (F0 m 35 ls [])) ?_ _ _ _ _ h _ _ _ hw (lv_sub hl [2, 3, 1, 0] rfl)
    intro rc35 IH35 x2_35 x3_35 T_35 h H locs ls hw hl
    unfold bX5_read_35 at h
    refine lv_iload_n hx hb dX5_read_35 rfl (lv_at hl 3 rfl) ?_
    refine lv_aload_n hx hb dX5_read_36 rfl (lv_at hl 0 rfl) ?_
    refine gMd (v := .ref (sA G 9 7)) hx hb hts hiX5 hown hw 8 (by decide) (hts (.fieldLink RX5 28 "SecondHomeModel" "sizes" "[I") (by decide +kernel)) rfl dX5_read_37 ?_
    refine lv_iload_n hx hb dX5_read_40 rfl (lv_at hl 1 rfl) ?_
    obtain ⟨b41, h⟩ := o_in h
    refine ldMd hx hb hw 6 (by decide) (n := 4) rfl b41 dX5_read_41 ?_
    refine lv_icmp_ge (tgt := 113) hx hb dX5_read_42 (by decide) (fun c42 => ?_) (fun c42 => ?_)
    · replace h := o_t c42 h
      exact J113 x2_35 T_35 _ _ _ hw (lv_sub hl [0, 2] rfl) h
    · replace h := o_f c42 h
      refine lv_iconst (v := 0) hx hb dX5_read_45 (by decide) ?_
      refine lv_istore (lv' := [(4, .int (0 : Int32)), (0, .ref (sA G 9 0)), (1, .int a1), (2, .int x2_35), (3, .int x3_35)]) hx hb dX5_read_46 hl (by decide) rfl (fun ls hl => ?_)
      obtain ⟨k101, ek101, h⟩ := o_nm h
      have J101 : ∀ (x2_101 : Int32) (H : Heap) (locs : List Loc) (ls : Array Slot), sHw G s S T_35 H locs → lv_has ls 5 [(0, .ref (sA G 9 0)), (1, .int a1), (2, .int x2_101), (3, .int x3_35)] → k101 x2_101 = some q → W p l e rmX5_read s m args below meth c H locs 0 0 Q (F0 m 101 ls []) := by
        intro x2_101 H locs ls hw hl h
        replace h := o_j1 ek101 h
        refine lv_aload_n hx hb dX5_read_101 rfl (lv_at hl 0 rfl) ?_
        obtain ⟨q102, eq102, h⟩ := o_bd h
        refine kV (As := []) (rest := []) (st' := [.int q102.1]) ⟨hx, hb, hml, hown, hts⟩ (kX5_goesOn l G eq102) (cwV 0 hts gX5_read_X5_goesOn rfl rfl rfl qqX5_goesOn ⟨Nat.le_of_ble_eq_true rfl, Nat.le_of_ble_eq_true rfl⟩) hw (rvMd hw) rfl hl.1 rfl (Nat.le_of_ble_eq_true rfl) dX5_read_102 ⟨Nat.zero_le _, Nat.zero_le _⟩ rfl (fun H locs hw => ?_)
        refine lv_istore (lv' := [(4, .int q102.1), (0, .ref (sA G 9 0)), (1, .int a1), (2, .int x2_101), (3, .int x3_35)]) hx hb dX5_read_105 hl (by decide) rfl (fun ls hl => ?_)
        obtain ⟨v107, ev107, h⟩ := o_nm h
        refine lv_iinc (v := v107) (lv' := [(3, .int v107), (4, .int q102.1), (0, .ref (sA G 9 0)), (1, .int a1), (2, .int x2_101)]) hx hb dX5_read_107 hl (k := 4) rfl (by rw [ev107]; rfl) (by decide) rfl (fun ls hl => ?_)
        refine lv_goto (tgt := 35) hx hb dX5_read_110 (by decide) ?_
        exact IH35 x2_101 v107 q102.2 h _ _ _ hw (lv_sub hl [2, 3, 4, 0] rfl)
      refine fx2_w (F := (bX5_read_48 a1 x3_35 T_35 k101)) (P := fun x2_48 x4_48 => ∀ (H : Heap) (locs : List Loc) (ls : Array Slot), sHw G s S T_35 H locs → lv_has ls 5 [(0, .ref (sA G 9 0)), (1, .int a1), (2, .int x2_48), (3, .int x3_35), (4, .int x4_48)] → W p l e rmX5_read s m args below meth c H locs 0 0 Q (F0 m 48 ls [])) ?_ _ _ _ h _ _ _ hw (lv_sub hl [1, 2, 3, 4, 0] rfl)
      intro rc48 IH48 x2_48 x4_48 h H locs ls hw hl
      unfold bX5_read_48 at h
      refine lv_iload hx hb dX5_read_48 (lv_at hl 4 rfl) ?_
      refine lv_aload_n hx hb dX5_read_50 rfl (lv_at hl 0 rfl) ?_
      refine gMd (v := .ref (sA G 9 1)) hx hb hts hiX5 hown hw 0 (by decide) (hts (.fieldLink RX5 7 "SecondHomeModel" "s" "[I") (by decide +kernel)) rfl dX5_read_51 ?_
      refine lv_iconst (v := 0) hx hb dX5_read_54 (by decide) ?_
      refine ldMd hx hb hw 0 (by decide) (n := 77) rfl (by decide) dX5_read_55 ?_
      refine lv_icmp_ge (tgt := 101) hx hb dX5_read_56 (by decide) (fun c56 => ?_) (fun c56 => ?_)
      · replace h := o_t c56 h
        exact J101 x2_48 _ _ _ hw (lv_sub hl [0, 1, 2, 3] rfl) h
      · replace h := o_f c56 h
        refine lv_iload_n hx hb dX5_read_59 rfl (lv_at hl 2 rfl) ?_
        refine lv_aload_n hx hb dX5_read_60 rfl (lv_at hl 0 rfl) ?_
        refine gMd (v := .ref (sA G 9 9)) hx hb hts hiX5 hown hw 9 (by decide) (hts (.fieldLink RX5 31 "SecondHomeModel" "numbers" "[J") (by decide +kernel)) rfl dX5_read_61 ?_
        refine lv_bipush (v := 40) hx hb dX5_read_64 (by decide) ?_
        refine lv_iload_n hx hb dX5_read_66 rfl (lv_at hl 1 rfl) ?_
        refine lv_imul hx hb dX5_read_67 ?_
        refine lv_iload_n hx hb dX5_read_68 rfl (lv_at hl 3 rfl) ?_
        refine lv_iadd hx hb dX5_read_69 ?_
        obtain ⟨b70, h⟩ := o_in h
        refine ldMl hx hb hw b70 dX5_read_70 ?_
        refine lv_aload_n hx hb dX5_read_71 rfl (lv_at hl 0 rfl) ?_
        refine lv_iload hx hb dX5_read_72 (lv_at hl 4 rfl) ?_
        refine lv_iconst (v := 5) hx hb dX5_read_74 (by decide) ?_
        obtain ⟨q75, eq75, h⟩ := o_bd h
        refine kV (As := [.int x4_48, .int (5 : Int32)]) (rest := [.long (T_35.2.2 (((40 : Int32) * a1) + x3_35).toNatClampNeg), .int x2_48]) (st' := [.int q75, .long (T_35.2.2 (((40 : Int32) * a1) + x3_35).toNatClampNeg), .int x2_48]) ⟨hx, hb, hml, hown, hts⟩ (kX5_is l G eq75) (cwV 2 hts gX5_read_X5_is rfl rfl rfl qqX5_is ⟨Nat.le_of_ble_eq_true rfl, Nat.le_of_ble_eq_true rfl⟩) hw (rvMd hw) rfl hl.1 rfl (Nat.le_of_ble_eq_true rfl) dX5_read_75 ⟨Nat.zero_le _, Nat.zero_le _⟩ rfl (fun H locs hw => ?_)
        refine lv_i2l hx hb dX5_read_78 rfl ?_
        refine W.lcmp hx hb dX5_read_79 ?_
        refine lv_if_ne (tgt := 87) hx hb dX5_read_80 (by decide) (fun c80 => ?_) (fun c80 => ?_)
        · replace h := o_f c80 h
          refine lv_iconst (v := 1) hx hb dX5_read_87 (by decide) ?_
          refine lv_iload hx hb dX5_read_88 (lv_at hl 4 rfl) ?_
          refine lv_ishl hx hb dX5_read_90 ?_
          refine lv_iconst (v := -1) hx hb dX5_read_91 (by decide) ?_
          refine lv_ixor hx hb dX5_read_92 ?_
          refine lv_iand hx hb dX5_read_93 ?_
          refine lv_topi (fun v94 ev94 => ?_)
          replace h := o_nx ev94 h
          refine lv_istore_n (lv' := [(2, .int v94), (0, .ref (sA G 9 0)), (1, .int a1), (3, .int x3_35), (4, .int x4_48)]) hx hb dX5_read_94 rfl hl (by decide) rfl (fun ls hl => ?_)
          obtain ⟨v95, ev95, h⟩ := o_nm h
          refine lv_iinc (v := v95) (lv' := [(4, .int v95), (2, .int v94), (0, .ref (sA G 9 0)), (1, .int a1), (3, .int x3_35)]) hx hb dX5_read_95 hl (k := 4) rfl (by rw [ev95]; rfl) (by decide) rfl (fun ls hl => ?_)
          refine lv_goto (tgt := 48) hx hb dX5_read_98 (by decide) ?_
          exact IH48 v94 v95 h _ _ _ hw (lv_sub hl [2, 3, 1, 4, 0] rfl)
        · replace h := o_t c80 h
          refine lv_iconst (v := -1) hx hb dX5_read_83 (by decide) ?_
          refine lv_goto (tgt := 93) hx hb dX5_read_84 (by decide) ?_
          refine lv_iand hx hb dX5_read_93 ?_
          refine lv_topi (fun v94 ev94 => ?_)
          replace h := o_nx ev94 h
          refine lv_istore_n (lv' := [(2, .int v94), (0, .ref (sA G 9 0)), (1, .int a1), (3, .int x3_35), (4, .int x4_48)]) hx hb dX5_read_94 rfl hl (by decide) rfl (fun ls hl => ?_)
          obtain ⟨v95, ev95, h⟩ := o_nm h
          refine lv_iinc (v := v95) (lv' := [(4, .int v95), (2, .int v94), (0, .ref (sA G 9 0)), (1, .int a1), (3, .int x3_35)]) hx hb dX5_read_95 hl (k := 4) rfl (by rw [ev95]; rfl) (by decide) rfl (fun ls hl => ?_)
          refine lv_goto (tgt := 48) hx hb dX5_read_98 (by decide) ?_
          exact IH48 v94 v95 h _ _ _ hw (lv_sub hl [2, 3, 1, 4, 0] rfl)
  · replace h := o_f c5 h
    refine lv_aload_n hx hb dX5_read_8 rfl (lv_at hl 0 rfl) ?_
    refine lv_aload_n hx hb dX5_read_9 rfl (lv_at hl 0 rfl) ?_
    refine lv_iload_n hx hb dX5_read_10 rfl (lv_at hl 1 rfl) ?_
    obtain ⟨q11, eq11, h⟩ := o_bd h
    refine kV (As := [.int a1]) (rest := [.ref (sA G 9 0)]) (st' := [.int q11, .ref (sA G 9 0)]) ⟨hx, hb, hml, hown, hts⟩ (kX5_lacks l G eq11) (cwV 1 hts gX5_read_X5_lacks rfl rfl rfl qqX5_lacks ⟨Nat.le_of_ble_eq_true rfl, Nat.le_of_ble_eq_true rfl⟩) hw (rvMd hw) rfl hl.1 rfl (Nat.le_of_ble_eq_true rfl) dX5_read_11 ⟨Nat.zero_le _, Nat.zero_le _⟩ rfl (fun H locs hw => ?_)
    obtain ⟨q14, eq14, h⟩ := o_bd h
    refine kV (As := [.int q11]) (rest := []) (st' := [.int q14.1]) ⟨hx, hb, hml, hown, hts⟩ (kX5_finds l G eq14) (cwV 1 hts gX5_read_X5_finds rfl rfl rfl qqX5_finds ⟨Nat.le_of_ble_eq_true rfl, Nat.le_of_ble_eq_true rfl⟩) hw (rvMd hw) rfl hl.1 rfl (Nat.le_of_ble_eq_true rfl) dX5_read_14 ⟨Nat.zero_le _, Nat.zero_le _⟩ rfl (fun H locs hw => ?_)
    exact rI hQ hx hb hr hlk hw dX5_read_17 (o_2a h) rfl (o_2b h)
-- X5_image
def bX5_image_2 (rc2 : Int32 → sOb → Option (Int32 × sOb)) (x1_2 : Int32) (T_2 : sOb) : Option (Int32 × sOb) :=
  if (77 : Int32) ≤ x1_2 then (nm (sSs T_2 0 (1 : Int32)) fun M28 => some ((1 : Int32), M28)) else (if x1_2 < 0 ∨ 77 ≤ x1_2.toNatClampNeg then none else nm (sSa T_2 1 x1_2.toNatClampNeg (T_2.2.1 0 x1_2.toNatClampNeg)) fun M19 => nm (x1_2 + (1 : Int32)) fun v20 => rc2 v20 M19)
def fX5_image (M : sOb) : Option (Int32 × sOb) :=
  fx2 bX5_image_2 FU (0 : Int32) M
def rmX5_image : Room := { frames := 0, cells := 0, slots := 0, locals := 0 }
theorem qqX5_image : yX5_image.cls = RX5 ∧ yX5_image.cls ≠ "java/lang/invoke/MethodHandle" ∧ yX5_image.cls ≠ "java/lang/invoke/VarHandle" ∧ (parseMethodDescriptor yX5_image.desc).map (fun d => d.parameters.length) = some 0 := by decide +kernel
set_option maxRecDepth 100000 in
set_option maxHeartbeats 4000000 in
theorem kX5_image (l : Launch) (G : sGl) {S : sWo} {M : sOb}  {q : (Int32 × sOb)}  (h : fX5_image M = some q) : sCt l G yX5_image wsX5_image rmX5_image [.ref (sA G 9 0)] S M (some (.int q.1)) S q.2 := by
  refine cMk (cc := cX5_image) (maxL := 2) (ret := (some .int)) (by decide) rfl (Nat.le_of_ble_eq_true rfl) ?_
  intro p e s m args below meth c Q hQ hx hb hr hlk hml hown hts hw ls hl
  have hown : s.vm.findClass RX5 = some m.cls := hown
  have hl : lv_has ls 2 [(0, .ref (sA G 9 0))] := hl
  have hiX5 : ∀ w ∈ u_ws RX5 TX5 15, w ∈ wsX5_image := by decide +kernel
  unfold fX5_image at h
  refine lv_iconst (v := 0) hx hb dX5_image_0 (by decide) ?_
  refine lv_istore_n (lv' := [(1, .int (0 : Int32)), (0, .ref (sA G 9 0))]) hx hb dX5_image_1 rfl hl (by decide) rfl (fun ls hl => ?_)
  refine fx2_w (F := bX5_image_2) (P := fun x1_2 T_2 => ∀ (H : Heap) (locs : List Loc) (ls : Array Slot), sHw G s S T_2 H locs → lv_has ls 2 [(0, .ref (sA G 9 0)), (1, .int x1_2)] → W p l e rmX5_image s m args below meth c H locs 0 0 Q (F0 m 2 ls [])) ?_ _ _ _ h _ _ _ hw (lv_sub hl [1, 0] rfl)
  intro rc2 IH2 x1_2 T_2 h H locs ls hw hl
  unfold bX5_image_2 at h
  refine lv_iload_n hx hb dX5_image_2 rfl (lv_at hl 1 rfl) ?_
  refine lv_bipush (v := 77) hx hb dX5_image_3 (by decide) ?_
  refine lv_icmp_ge (tgt := 26) hx hb dX5_image_5 (by decide) (fun c5 => ?_) (fun c5 => ?_)
  · replace h := o_t c5 h
    refine lv_aload_n hx hb dX5_image_26 rfl (lv_at hl 0 rfl) ?_
    refine lv_iconst (v := 1) hx hb dX5_image_27 (by decide) ?_
    refine pMd (ty := .boolean) hx hb hts hiX5 hown hw 3 0 (by decide) rfl rfl (by decide +kernel) rfl rfl (hts (.fieldLink RX5 237 "SecondHomeModel" "isKept" "Z") (by decide +kernel)) dX5_image_28 rfl (fun H locs hw => ?_)
    obtain ⟨M28, eM28, h⟩ := o_nm h
    rw [← eM28] at hw
    refine lv_iconst (v := 1) hx hb dX5_image_31 (by decide) ?_
    exact rI hQ hx hb hr hlk hw dX5_image_32 (o_2a h) rfl (o_2b h)
  · replace h := o_f c5 h
    refine lv_aload_n hx hb dX5_image_8 rfl (lv_at hl 0 rfl) ?_
    refine gMd (v := .ref (sA G 9 2)) hx hb hts hiX5 hown hw 1 (by decide) (hts (.fieldLink RX5 13 "SecondHomeModel" "kept" "[I") (by decide +kernel)) rfl dX5_image_9 ?_
    refine lv_iload_n hx hb dX5_image_12 rfl (lv_at hl 1 rfl) ?_
    refine lv_aload_n hx hb dX5_image_13 rfl (lv_at hl 0 rfl) ?_
    refine gMd (v := .ref (sA G 9 1)) hx hb hts hiX5 hown hw 0 (by decide) (hts (.fieldLink RX5 7 "SecondHomeModel" "s" "[I") (by decide +kernel)) rfl dX5_image_14 ?_
    refine lv_iload_n hx hb dX5_image_17 rfl (lv_at hl 1 rfl) ?_
    obtain ⟨b18, h⟩ := o_in h
    refine ldMd hx hb hw 0 (by decide) (n := 77) rfl b18 dX5_image_18 ?_
    refine stMd hx hb hw 1 (by decide) (n := 77) rfl b18 dX5_image_19 rfl (fun H locs hw => ?_)
    obtain ⟨M19, eM19, h⟩ := o_nm h
    rw [← eM19] at hw
    obtain ⟨v20, ev20, h⟩ := o_nm h
    refine lv_iinc (v := v20) (lv' := [(1, .int v20), (0, .ref (sA G 9 0))]) hx hb dX5_image_20 hl (k := 1) rfl (by rw [ev20]; rfl) (by decide) rfl (fun ls hl => ?_)
    refine lv_goto (tgt := 2) hx hb dX5_image_23 (by decide) ?_
    exact IH2 v20 M19 h _ _ _ hw (lv_sub hl [1, 0] rfl)
-- X5_undo
def bX5_undo_16 (rc16 : Int32 → sOb → Option (Int32 × sOb)) (x1_16 : Int32) (T_16 : sOb) : Option (Int32 × sOb) :=
  if (77 : Int32) ≤ x1_16 then (some ((T_16.2.1 0 (0 : Int32).toNatClampNeg), T_16)) else (if x1_16 < 0 ∨ 77 ≤ x1_16.toNatClampNeg then none else nm (sSa T_16 0 x1_16.toNatClampNeg (T_16.2.1 1 x1_16.toNatClampNeg)) fun M33 => nm (x1_16 + (1 : Int32)) fun v34 => rc16 v34 M33)
def fX5_undo (M : sOb) : Option (Int32 × sOb) :=
  if (M.1 0) = 0 then ((fX5_finds M (-1000000004 : Int32)).bind fun q10 => some (q10.1, q10.2)) else (fx2 bX5_undo_16 FU (0 : Int32) M)
def rmX5_undo : Room := { frames := 1, cells := 0, slots := 0, locals := 21 }
theorem qqX5_undo : yX5_undo.cls = RX5 ∧ yX5_undo.cls ≠ "java/lang/invoke/MethodHandle" ∧ yX5_undo.cls ≠ "java/lang/invoke/VarHandle" ∧ (parseMethodDescriptor yX5_undo.desc).map (fun d => d.parameters.length) = some 0 := by decide +kernel
set_option maxRecDepth 100000 in
set_option maxHeartbeats 4000000 in
theorem kX5_undo (l : Launch) (G : sGl) {S : sWo} {M : sOb}  {q : (Int32 × sOb)}  (h : fX5_undo M = some q) : sCt l G yX5_undo wsX5_undo rmX5_undo [.ref (sA G 9 0)] S M (some (.int q.1)) S q.2 := by
  refine cMk (cc := cX5_undo) (maxL := 2) (ret := (some .int)) (by decide) rfl (Nat.le_of_ble_eq_true rfl) ?_
  intro p e s m args below meth c Q hQ hx hb hr hlk hml hown hts hw ls hl
  have hown : s.vm.findClass RX5 = some m.cls := hown
  have hl : lv_has ls 2 [(0, .ref (sA G 9 0))] := hl
  have hiX5 : ∀ w ∈ u_ws RX5 TX5 15, w ∈ wsX5_undo := by decide +kernel
  unfold fX5_undo at h
  refine lv_aload_n hx hb dX5_undo_0 rfl (lv_at hl 0 rfl) ?_
  refine gMd (v := .int (M.1 0)) hx hb hts hiX5 hown hw 3 (by decide) (hts (.fieldLink RX5 237 "SecondHomeModel" "isKept" "Z") (by decide +kernel)) rfl dX5_undo_1 ?_
  refine lv_if_ne (tgt := 14) hx hb dX5_undo_4 (by decide) (fun c4 => ?_) (fun c4 => ?_)
  · replace h := o_f c4 h
    refine lv_iconst (v := 0) hx hb dX5_undo_14 (by decide) ?_
    refine lv_istore_n (lv' := [(1, .int (0 : Int32)), (0, .ref (sA G 9 0))]) hx hb dX5_undo_15 rfl hl (by decide) rfl (fun ls hl => ?_)
    refine fx2_w (F := bX5_undo_16) (P := fun x1_16 T_16 => ∀ (H : Heap) (locs : List Loc) (ls : Array Slot), sHw G s S T_16 H locs → lv_has ls 2 [(0, .ref (sA G 9 0)), (1, .int x1_16)] → W p l e rmX5_undo s m args below meth c H locs 0 0 Q (F0 m 16 ls [])) ?_ _ _ _ h _ _ _ hw (lv_sub hl [1, 0] rfl)
    intro rc16 IH16 x1_16 T_16 h H locs ls hw hl
    unfold bX5_undo_16 at h
    refine lv_iload_n hx hb dX5_undo_16 rfl (lv_at hl 1 rfl) ?_
    refine lv_bipush (v := 77) hx hb dX5_undo_17 (by decide) ?_
    refine lv_icmp_ge (tgt := 40) hx hb dX5_undo_19 (by decide) (fun c19 => ?_) (fun c19 => ?_)
    · replace h := o_t c19 h
      refine lv_aload_n hx hb dX5_undo_40 rfl (lv_at hl 0 rfl) ?_
      refine gMd (v := .ref (sA G 9 1)) hx hb hts hiX5 hown hw 0 (by decide) (hts (.fieldLink RX5 7 "SecondHomeModel" "s" "[I") (by decide +kernel)) rfl dX5_undo_41 ?_
      refine lv_iconst (v := 0) hx hb dX5_undo_44 (by decide) ?_
      refine ldMd hx hb hw 0 (by decide) (n := 77) rfl (by decide) dX5_undo_45 ?_
      exact rI hQ hx hb hr hlk hw dX5_undo_46 (o_2a h) rfl (o_2b h)
    · replace h := o_f c19 h
      refine lv_aload_n hx hb dX5_undo_22 rfl (lv_at hl 0 rfl) ?_
      refine gMd (v := .ref (sA G 9 1)) hx hb hts hiX5 hown hw 0 (by decide) (hts (.fieldLink RX5 7 "SecondHomeModel" "s" "[I") (by decide +kernel)) rfl dX5_undo_23 ?_
      refine lv_iload_n hx hb dX5_undo_26 rfl (lv_at hl 1 rfl) ?_
      refine lv_aload_n hx hb dX5_undo_27 rfl (lv_at hl 0 rfl) ?_
      refine gMd (v := .ref (sA G 9 2)) hx hb hts hiX5 hown hw 1 (by decide) (hts (.fieldLink RX5 13 "SecondHomeModel" "kept" "[I") (by decide +kernel)) rfl dX5_undo_28 ?_
      refine lv_iload_n hx hb dX5_undo_31 rfl (lv_at hl 1 rfl) ?_
      obtain ⟨b32, h⟩ := o_in h
      refine ldMd hx hb hw 1 (by decide) (n := 77) rfl b32 dX5_undo_32 ?_
      refine stMd hx hb hw 0 (by decide) (n := 77) rfl b32 dX5_undo_33 rfl (fun H locs hw => ?_)
      obtain ⟨M33, eM33, h⟩ := o_nm h
      rw [← eM33] at hw
      obtain ⟨v34, ev34, h⟩ := o_nm h
      refine lv_iinc (v := v34) (lv' := [(1, .int v34), (0, .ref (sA G 9 0))]) hx hb dX5_undo_34 hl (k := 1) rfl (by rw [ev34]; rfl) (by decide) rfl (fun ls hl => ?_)
      refine lv_goto (tgt := 16) hx hb dX5_undo_37 (by decide) ?_
      exact IH16 v34 M33 h _ _ _ hw (lv_sub hl [1, 0] rfl)
  · replace h := o_t c4 h
    refine lv_aload_n hx hb dX5_undo_7 rfl (lv_at hl 0 rfl) ?_
    refine lv_ldc (v := -1000000004) hx hb hown (hts (.constant RX5 39 (-1000000004)) (by decide +kernel)) dX5_undo_8 ?_
    obtain ⟨q10, eq10, h⟩ := o_bd h
    refine kV (As := [.int (-1000000004 : Int32)]) (rest := []) (st' := [.int q10.1]) ⟨hx, hb, hml, hown, hts⟩ (kX5_finds l G eq10) (cwV 1 hts gX5_undo_X5_finds rfl rfl rfl qqX5_finds ⟨Nat.le_of_ble_eq_true rfl, Nat.le_of_ble_eq_true rfl⟩) hw (rvMd hw) rfl hl.1 rfl (Nat.le_of_ble_eq_true rfl) dX5_undo_10 ⟨Nat.zero_le _, Nat.zero_le _⟩ rfl (fun H locs hw => ?_)
    exact rI hQ hx hb hr hlk hw dX5_undo_13 (o_2a h) rfl (o_2b h)
-- X5_tear
def fX5_tear (M : sOb) : Option (Int32 × sOb) :=
  nm (M.1 0) fun v4 => nm (sSs M 0 (0 : Int32)) fun M7 => if v4 = 0 then (some ((0 : Int32), M7)) else (some ((1 : Int32), M7))
def rmX5_tear : Room := { frames := 0, cells := 0, slots := 0, locals := 0 }
theorem qqX5_tear : yX5_tear.cls = RX5 ∧ yX5_tear.cls ≠ "java/lang/invoke/MethodHandle" ∧ yX5_tear.cls ≠ "java/lang/invoke/VarHandle" ∧ (parseMethodDescriptor yX5_tear.desc).map (fun d => d.parameters.length) = some 0 := by decide +kernel
set_option maxRecDepth 100000 in
set_option maxHeartbeats 4000000 in
theorem kX5_tear (l : Launch) (G : sGl) {S : sWo} {M : sOb}  {q : (Int32 × sOb)}  (h : fX5_tear M = some q) : sCt l G yX5_tear wsX5_tear rmX5_tear [.ref (sA G 9 0)] S M (some (.int q.1)) S q.2 := by
  refine cMk (cc := cX5_tear) (maxL := 2) (ret := (some .int)) (by decide) rfl (Nat.le_of_ble_eq_true rfl) ?_
  intro p e s m args below meth c Q hQ hx hb hr hlk hml hown hts hw ls hl
  have hown : s.vm.findClass RX5 = some m.cls := hown
  have hl : lv_has ls 2 [(0, .ref (sA G 9 0))] := hl
  have hiX5 : ∀ w ∈ u_ws RX5 TX5 15, w ∈ wsX5_tear := by decide +kernel
  unfold fX5_tear at h
  refine lv_aload_n hx hb dX5_tear_0 rfl (lv_at hl 0 rfl) ?_
  refine gMd (v := .int (M.1 0)) hx hb hts hiX5 hown hw 3 (by decide) (hts (.fieldLink RX5 237 "SecondHomeModel" "isKept" "Z") (by decide +kernel)) rfl dX5_tear_1 ?_
  refine lv_topi (fun v4 ev4 => ?_)
  replace h := o_nx ev4 h
  refine lv_istore_n (lv' := [(1, .int v4), (0, .ref (sA G 9 0))]) hx hb dX5_tear_4 rfl hl (by decide) rfl (fun ls hl => ?_)
  refine lv_aload_n hx hb dX5_tear_5 rfl (lv_at hl 1 rfl) ?_
  refine lv_iconst (v := 0) hx hb dX5_tear_6 (by decide) ?_
  refine pMd (ty := .boolean) hx hb hts hiX5 hown hw 3 0 (by decide) rfl rfl (by decide +kernel) rfl rfl (hts (.fieldLink RX5 237 "SecondHomeModel" "isKept" "Z") (by decide +kernel)) dX5_tear_7 rfl (fun H locs hw => ?_)
  obtain ⟨M7, eM7, h⟩ := o_nm h
  rw [← eM7] at hw
  refine lv_iload_n hx hb dX5_tear_10 rfl (lv_at hl 0 rfl) ?_
  refine lv_if_eq (tgt := 18) hx hb dX5_tear_11 (by decide) (fun c11 => ?_) (fun c11 => ?_)
  · replace h := o_t c11 h
    refine lv_iconst (v := 0) hx hb dX5_tear_18 (by decide) ?_
    exact rI hQ hx hb hr hlk hw dX5_tear_19 (o_2a h) rfl (o_2b h)
  · replace h := o_f c11 h
    refine lv_iconst (v := 1) hx hb dX5_tear_14 (by decide) ?_
    refine lv_goto (tgt := 19) hx hb dX5_tear_15 (by decide) ?_
    exact rI hQ hx hb hr hlk hw dX5_tear_19 (o_2a h) rfl (o_2b h)
-- X5_ofAll
def bX5_ofAll_4 (M : sOb) (a1 : Int32) (rc4 : Int32 → Int32 → Option Int32) (x2_4 : Int32) (x3_4 : Int32) : Option Int32 :=
  if (M.2.1 0 (0 : Int32).toNatClampNeg) ≤ x3_4 then (some x2_4) else ((fX5_is M x3_4 a1).bind fun q18 => nm (x2_4 + q18) fun v22 => nm (x3_4 + (1 : Int32)) fun v23 => rc4 v22 v23)
def fX5_ofAll (M : sOb) (a1 : Int32) : Option Int32 :=
  fx2 (bX5_ofAll_4 M a1) FU (0 : Int32) (0 : Int32)
def rmX5_ofAll : Room := { frames := 1, cells := 0, slots := 0, locals := 22 }
theorem qqX5_ofAll : yX5_ofAll.cls = RX5 ∧ yX5_ofAll.cls ≠ "java/lang/invoke/MethodHandle" ∧ yX5_ofAll.cls ≠ "java/lang/invoke/VarHandle" ∧ (parseMethodDescriptor yX5_ofAll.desc).map (fun d => d.parameters.length) = some 1 := by decide +kernel
set_option maxRecDepth 100000 in
set_option maxHeartbeats 4000000 in
theorem kX5_ofAll (l : Launch) (G : sGl) {S : sWo} {M : sOb} {a1 : Int32} {q : Int32}  (h : fX5_ofAll M a1 = some q) : sCt l G yX5_ofAll wsX5_ofAll rmX5_ofAll [.ref (sA G 9 0), .int a1] S M (some (.int q)) S M := by
  refine cMk (cc := cX5_ofAll) (maxL := 4) (ret := (some .int)) (by decide) rfl (Nat.le_of_ble_eq_true rfl) ?_
  intro p e s m args below meth c Q hQ hx hb hr hlk hml hown hts hw ls hl
  have hown : s.vm.findClass RX5 = some m.cls := hown
  have hl : lv_has ls 4 [(0, .ref (sA G 9 0)), (1, .int a1)] := hl
  have hiX5 : ∀ w ∈ u_ws RX5 TX5 15, w ∈ wsX5_ofAll := by decide +kernel
  unfold fX5_ofAll at h
  refine lv_iconst (v := 0) hx hb dX5_ofAll_0 (by decide) ?_
  refine lv_istore_n (lv' := [(2, .int (0 : Int32)), (0, .ref (sA G 9 0)), (1, .int a1)]) hx hb dX5_ofAll_1 rfl hl (by decide) rfl (fun ls hl => ?_)
  refine lv_iconst (v := 0) hx hb dX5_ofAll_2 (by decide) ?_
  refine lv_istore_n (lv' := [(3, .int (0 : Int32)), (2, .int (0 : Int32)), (0, .ref (sA G 9 0)), (1, .int a1)]) hx hb dX5_ofAll_3 rfl hl (by decide) rfl (fun ls hl => ?_)
  refine fx2_w (F := (bX5_ofAll_4 M a1)) (P := fun x2_4 x3_4 => ∀ (H : Heap) (locs : List Loc) (ls : Array Slot), sHw G s S M H locs → lv_has ls 4 [(0, .ref (sA G 9 0)), (1, .int a1), (2, .int x2_4), (3, .int x3_4)] → W p l e rmX5_ofAll s m args below meth c H locs 0 0 Q (F0 m 4 ls [])) ?_ _ _ _ h _ _ _ hw (lv_sub hl [2, 3, 1, 0] rfl)
  intro rc4 IH4 x2_4 x3_4 h H locs ls hw hl
  unfold bX5_ofAll_4 at h
  refine lv_iload_n hx hb dX5_ofAll_4 rfl (lv_at hl 3 rfl) ?_
  refine lv_aload_n hx hb dX5_ofAll_5 rfl (lv_at hl 0 rfl) ?_
  refine gMd (v := .ref (sA G 9 1)) hx hb hts hiX5 hown hw 0 (by decide) (hts (.fieldLink RX5 7 "SecondHomeModel" "s" "[I") (by decide +kernel)) rfl dX5_ofAll_6 ?_
  refine lv_iconst (v := 0) hx hb dX5_ofAll_9 (by decide) ?_
  refine ldMd hx hb hw 0 (by decide) (n := 77) rfl (by decide) dX5_ofAll_10 ?_
  refine lv_icmp_ge (tgt := 29) hx hb dX5_ofAll_11 (by decide) (fun c11 => ?_) (fun c11 => ?_)
  · replace h := o_t c11 h
    refine lv_iload_n hx hb dX5_ofAll_29 rfl (lv_at hl 2 rfl) ?_
    exact rI hQ hx hb hr hlk hw dX5_ofAll_30 (o_1 h) rfl rfl
  · replace h := o_f c11 h
    refine lv_iload_n hx hb dX5_ofAll_14 rfl (lv_at hl 2 rfl) ?_
    refine lv_aload_n hx hb dX5_ofAll_15 rfl (lv_at hl 0 rfl) ?_
    refine lv_iload_n hx hb dX5_ofAll_16 rfl (lv_at hl 3 rfl) ?_
    refine lv_iload_n hx hb dX5_ofAll_17 rfl (lv_at hl 1 rfl) ?_
    obtain ⟨q18, eq18, h⟩ := o_bd h
    refine kV (As := [.int x3_4, .int a1]) (rest := [.int x2_4]) (st' := [.int q18, .int x2_4]) ⟨hx, hb, hml, hown, hts⟩ (kX5_is l G eq18) (cwV 2 hts gX5_ofAll_X5_is rfl rfl rfl qqX5_is ⟨Nat.le_of_ble_eq_true rfl, Nat.le_of_ble_eq_true rfl⟩) hw (rvMd hw) rfl hl.1 rfl (Nat.le_of_ble_eq_true rfl) dX5_ofAll_18 ⟨Nat.zero_le _, Nat.zero_le _⟩ rfl (fun H locs hw => ?_)
    refine lv_iadd hx hb dX5_ofAll_21 ?_
    refine lv_topi (fun v22 ev22 => ?_)
    replace h := o_nx ev22 h
    refine lv_istore_n (lv' := [(2, .int v22), (0, .ref (sA G 9 0)), (1, .int a1), (3, .int x3_4)]) hx hb dX5_ofAll_22 rfl hl (by decide) rfl (fun ls hl => ?_)
    obtain ⟨v23, ev23, h⟩ := o_nm h
    refine lv_iinc (v := v23) (lv' := [(3, .int v23), (2, .int v22), (0, .ref (sA G 9 0)), (1, .int a1)]) hx hb dX5_ofAll_23 hl (k := 3) rfl (by rw [ev23]; rfl) (by decide) rfl (fun ls hl => ?_)
    refine lv_goto (tgt := 4) hx hb dX5_ofAll_26 (by decide) ?_
    exact IH4 v22 v23 h _ _ _ hw (lv_sub hl [2, 3, 1, 0] rfl)
-- X5_count
def fX5_count (M : sOb) (a1 : Int32) : Option (Int32 × sOb) :=
  if a1 = (0 : Int32) then (some ((M.2.1 0 (0 : Int32).toNatClampNeg), M)) else if a1 = (1 : Int32) then (some ((M.1 1), M)) else if a1 = (2 : Int32) then ((fX5_ofAll M (5 : Int32)).bind fun q50 => some (q50, M)) else if a1 = (3 : Int32) then ((fX5_ofAll M (2 : Int32)).bind fun q56 => some (q56, M)) else if a1 = (4 : Int32) then ((fX5_ofAll M (6 : Int32)).bind fun q63 => some (q63, M)) else ((fX5_finds M (-1000000001 : Int32)).bind fun q70 => some (q70.1, q70.2))
def rmX5_count : Room := { frames := 2, cells := 0, slots := 0, locals := 45 }
theorem qqX5_count : yX5_count.cls = RX5 ∧ yX5_count.cls ≠ "java/lang/invoke/MethodHandle" ∧ yX5_count.cls ≠ "java/lang/invoke/VarHandle" ∧ (parseMethodDescriptor yX5_count.desc).map (fun d => d.parameters.length) = some 1 := by decide +kernel
set_option maxRecDepth 100000 in
set_option maxHeartbeats 4000000 in
theorem kX5_count (l : Launch) (G : sGl) {S : sWo} {M : sOb} {a1 : Int32} {q : (Int32 × sOb)}  (h : fX5_count M a1 = some q) : sCt l G yX5_count wsX5_count rmX5_count [.ref (sA G 9 0), .int a1] S M (some (.int q.1)) S q.2 := by
  refine cMk (cc := cX5_count) (maxL := 2) (ret := (some .int)) (by decide) rfl (Nat.le_of_ble_eq_true rfl) ?_
  intro p e s m args below meth c Q hQ hx hb hr hlk hml hown hts hw ls hl
  have hown : s.vm.findClass RX5 = some m.cls := hown
  have hl : lv_has ls 2 [(0, .ref (sA G 9 0)), (1, .int a1)] := hl
  have hiX5 : ∀ w ∈ u_ws RX5 TX5 15, w ∈ wsX5_count := by decide +kernel
  unfold fX5_count at h
  refine lv_iload_n hx hb dX5_count_0 rfl (lv_at hl 1 rfl) ?_
  by_cases c1_0 : a1 = (0 : Int32)
  · replace h := o_t c1_0 h
    refine lv_tableIn (tgt := 36) hx hb dX5_count_1 (by rw [c1_0]; decide) (by rw [c1_0]; decide) (by rw [c1_0]; rfl) (by decide) ?_
    refine lv_aload_n hx hb dX5_count_36 rfl (lv_at hl 0 rfl) ?_
    refine gMd (v := .ref (sA G 9 1)) hx hb hts hiX5 hown hw 0 (by decide) (hts (.fieldLink RX5 7 "SecondHomeModel" "s" "[I") (by decide +kernel)) rfl dX5_count_37 ?_
    refine lv_iconst (v := 0) hx hb dX5_count_40 (by decide) ?_
    refine ldMd hx hb hw 0 (by decide) (n := 77) rfl (by decide) dX5_count_41 ?_
    exact rI hQ hx hb hr hlk hw dX5_count_42 (o_2a h) rfl (o_2b h)
  replace h := o_f c1_0 h
  by_cases c1_1 : a1 = (1 : Int32)
  · replace h := o_t c1_1 h
    refine lv_tableIn (tgt := 43) hx hb dX5_count_1 (by rw [c1_1]; decide) (by rw [c1_1]; decide) (by rw [c1_1]; rfl) (by decide) ?_
    refine lv_aload_n hx hb dX5_count_43 rfl (lv_at hl 0 rfl) ?_
    refine gMd (v := .int (M.1 1)) hx hb hts hiX5 hown hw 6 (by decide) (hts (.fieldLink RX5 168 "SecondHomeModel" "taped" "I") (by decide +kernel)) rfl dX5_count_44 ?_
    exact rI hQ hx hb hr hlk hw dX5_count_47 (o_2a h) rfl (o_2b h)
  replace h := o_f c1_1 h
  by_cases c1_2 : a1 = (2 : Int32)
  · replace h := o_t c1_2 h
    refine lv_tableIn (tgt := 48) hx hb dX5_count_1 (by rw [c1_2]; decide) (by rw [c1_2]; decide) (by rw [c1_2]; rfl) (by decide) ?_
    refine lv_aload_n hx hb dX5_count_48 rfl (lv_at hl 0 rfl) ?_
    refine lv_iconst (v := 5) hx hb dX5_count_49 (by decide) ?_
    obtain ⟨q50, eq50, h⟩ := o_bd h
    refine kV (As := [.int (5 : Int32)]) (rest := []) (st' := [.int q50]) ⟨hx, hb, hml, hown, hts⟩ (kX5_ofAll l G eq50) (cwV 1 hts gX5_count_X5_ofAll rfl rfl rfl qqX5_ofAll ⟨Nat.le_of_ble_eq_true rfl, Nat.le_of_ble_eq_true rfl⟩) hw (rvMd hw) rfl hl.1 rfl (Nat.le_of_ble_eq_true rfl) dX5_count_50 ⟨Nat.zero_le _, Nat.zero_le _⟩ rfl (fun H locs hw => ?_)
    exact rI hQ hx hb hr hlk hw dX5_count_53 (o_2a h) rfl (o_2b h)
  replace h := o_f c1_2 h
  by_cases c1_3 : a1 = (3 : Int32)
  · replace h := o_t c1_3 h
    refine lv_tableIn (tgt := 54) hx hb dX5_count_1 (by rw [c1_3]; decide) (by rw [c1_3]; decide) (by rw [c1_3]; rfl) (by decide) ?_
    refine lv_aload_n hx hb dX5_count_54 rfl (lv_at hl 0 rfl) ?_
    refine lv_iconst (v := 2) hx hb dX5_count_55 (by decide) ?_
    obtain ⟨q56, eq56, h⟩ := o_bd h
    refine kV (As := [.int (2 : Int32)]) (rest := []) (st' := [.int q56]) ⟨hx, hb, hml, hown, hts⟩ (kX5_ofAll l G eq56) (cwV 1 hts gX5_count_X5_ofAll rfl rfl rfl qqX5_ofAll ⟨Nat.le_of_ble_eq_true rfl, Nat.le_of_ble_eq_true rfl⟩) hw (rvMd hw) rfl hl.1 rfl (Nat.le_of_ble_eq_true rfl) dX5_count_56 ⟨Nat.zero_le _, Nat.zero_le _⟩ rfl (fun H locs hw => ?_)
    exact rI hQ hx hb hr hlk hw dX5_count_59 (o_2a h) rfl (o_2b h)
  replace h := o_f c1_3 h
  by_cases c1_4 : a1 = (4 : Int32)
  · replace h := o_t c1_4 h
    refine lv_tableIn (tgt := 60) hx hb dX5_count_1 (by rw [c1_4]; decide) (by rw [c1_4]; decide) (by rw [c1_4]; rfl) (by decide) ?_
    refine lv_aload_n hx hb dX5_count_60 rfl (lv_at hl 0 rfl) ?_
    refine lv_bipush (v := 6) hx hb dX5_count_61 (by decide) ?_
    obtain ⟨q63, eq63, h⟩ := o_bd h
    refine kV (As := [.int (6 : Int32)]) (rest := []) (st' := [.int q63]) ⟨hx, hb, hml, hown, hts⟩ (kX5_ofAll l G eq63) (cwV 1 hts gX5_count_X5_ofAll rfl rfl rfl qqX5_ofAll ⟨Nat.le_of_ble_eq_true rfl, Nat.le_of_ble_eq_true rfl⟩) hw (rvMd hw) rfl hl.1 rfl (Nat.le_of_ble_eq_true rfl) dX5_count_63 ⟨Nat.zero_le _, Nat.zero_le _⟩ rfl (fun H locs hw => ?_)
    exact rI hQ hx hb hr hlk hw dX5_count_66 (o_2a h) rfl (o_2b h)
  replace h := o_f c1_4 h
  have sw1 : a1.toInt < 0 ∨ 4 < a1.toInt := by
    have z0 := sw_ne c1_0
    have z1 := sw_ne c1_1
    have z2 := sw_ne c1_2
    have z3 := sw_ne c1_3
    have z4 := sw_ne c1_4
    rw [show ((0 : Int32)).toInt = 0 from rfl] at z0
    rw [show ((1 : Int32)).toInt = 1 from rfl] at z1
    rw [show ((2 : Int32)).toInt = 2 from rfl] at z2
    rw [show ((3 : Int32)).toInt = 3 from rfl] at z3
    rw [show ((4 : Int32)).toInt = 4 from rfl] at z4
    omega
  refine lv_tableOut (tgt := 67) hx hb dX5_count_1 sw1 (by decide) ?_
  refine lv_aload_n hx hb dX5_count_67 rfl (lv_at hl 0 rfl) ?_
  refine lv_ldc (v := -1000000001) hx hb hown (hts (.constant RX5 38 (-1000000001)) (by decide +kernel)) dX5_count_68 ?_
  obtain ⟨q70, eq70, h⟩ := o_bd h
  refine kV (As := [.int (-1000000001 : Int32)]) (rest := []) (st' := [.int q70.1]) ⟨hx, hb, hml, hown, hts⟩ (kX5_finds l G eq70) (cwV 1 hts gX5_count_X5_finds rfl rfl rfl qqX5_finds ⟨Nat.le_of_ble_eq_true rfl, Nat.le_of_ble_eq_true rfl⟩) hw (rvMd hw) rfl hl.1 rfl (Nat.le_of_ble_eq_true rfl) dX5_count_70 ⟨Nat.zero_le _, Nat.zero_le _⟩ rfl (fun H locs hw => ?_)
  exact rI hQ hx hb hr hlk hw dX5_count_73 (o_2a h) rfl (o_2b h)
-- X5_status
def fX5_status (M : sOb) (a1 : Int32) : Option (Int32 × sOb) :=
  (fX5_isIn a1.toInt64 (-1 : Int64) (6 : Int64)).bind fun q8 => if q8 = 0 then ((fX5_finds M (-1000000001 : Int32)).bind fun q28 => some (q28.1, q28.2)) else (if (a1 + (1 : Int32)) < 0 ∨ 8 ≤ (a1 + (1 : Int32)).toNatClampNeg then none else some ((M.2.1 3 (a1 + (1 : Int32)).toNatClampNeg), M))
def rmX5_status : Room := { frames := 1, cells := 0, slots := 0, locals := 25 }
theorem qqX5_status : yX5_status.cls = RX5 ∧ yX5_status.cls ≠ "java/lang/invoke/MethodHandle" ∧ yX5_status.cls ≠ "java/lang/invoke/VarHandle" ∧ (parseMethodDescriptor yX5_status.desc).map (fun d => d.parameters.length) = some 1 := by decide +kernel
set_option maxRecDepth 100000 in
set_option maxHeartbeats 4000000 in
theorem kX5_status (l : Launch) (G : sGl) {S : sWo} {M : sOb} {a1 : Int32} {q : (Int32 × sOb)}  (h : fX5_status M a1 = some q) : sCt l G yX5_status wsX5_status rmX5_status [.ref (sA G 9 0), .int a1] S M (some (.int q.1)) S q.2 := by
  refine cMk (cc := cX5_status) (maxL := 2) (ret := (some .int)) (by decide) rfl (Nat.le_of_ble_eq_true rfl) ?_
  intro p e s m args below meth c Q hQ hx hb hr hlk hml hown hts hw ls hl
  have hown : s.vm.findClass RX5 = some m.cls := hown
  have hl : lv_has ls 2 [(0, .ref (sA G 9 0)), (1, .int a1)] := hl
  have hiX5 : ∀ w ∈ u_ws RX5 TX5 15, w ∈ wsX5_status := by decide +kernel
  unfold fX5_status at h
  refine lv_iload_n hx hb dX5_status_0 rfl (lv_at hl 1 rfl) ?_
  refine lv_i2l hx hb dX5_status_1 rfl ?_
  refine lv_ldc2 (v := -1) hx hb hown (hts (.constantLong RX5 244 (-1)) (by decide +kernel)) dX5_status_2 ?_
  refine lv_ldc2 (v := 6) hx hb hown (hts (.constantLong RX5 246 (6)) (by decide +kernel)) dX5_status_5 ?_
  obtain ⟨q8, eq8, h⟩ := o_bd h
  refine kS (As := [.long a1.toInt64, .long (-1 : Int64), .long (6 : Int64)]) (rest := []) (st' := [.int q8]) ⟨hx, hb, hml, hown, hts⟩ (kX5_isIn l G eq8) (va_cwS 3 hts gX5_status_X5_isIn rfl rfl rfl qqX5_isIn ⟨Nat.le_of_ble_eq_true rfl, Nat.le_of_ble_eq_true rfl⟩) hw rfl hl.1 rfl (Nat.le_of_ble_eq_true rfl) dX5_status_8 ⟨Nat.zero_le _, Nat.zero_le _⟩ rfl (fun H locs hw => ?_)
  refine lv_if_eq (tgt := 25) hx hb dX5_status_11 (by decide) (fun c11 => ?_) (fun c11 => ?_)
  · replace h := o_t c11 h
    refine lv_aload_n hx hb dX5_status_25 rfl (lv_at hl 0 rfl) ?_
    refine lv_ldc (v := -1000000001) hx hb hown (hts (.constant RX5 38 (-1000000001)) (by decide +kernel)) dX5_status_26 ?_
    obtain ⟨q28, eq28, h⟩ := o_bd h
    refine kV (As := [.int (-1000000001 : Int32)]) (rest := []) (st' := [.int q28.1]) ⟨hx, hb, hml, hown, hts⟩ (kX5_finds l G eq28) (cwV 1 hts gX5_status_X5_finds rfl rfl rfl qqX5_finds ⟨Nat.le_of_ble_eq_true rfl, Nat.le_of_ble_eq_true rfl⟩) hw (rvMd hw) rfl hl.1 rfl (Nat.le_of_ble_eq_true rfl) dX5_status_28 ⟨Nat.zero_le _, Nat.zero_le _⟩ rfl (fun H locs hw => ?_)
    exact rI hQ hx hb hr hlk hw dX5_status_31 (o_2a h) rfl (o_2b h)
  · replace h := o_f c11 h
    refine lv_aload_n hx hb dX5_status_14 rfl (lv_at hl 0 rfl) ?_
    refine gMd (v := .ref (sA G 9 4)) hx hb hts hiX5 hown hw 4 (by decide) (hts (.fieldLink RX5 19 "SecondHomeModel" "findings" "[I") (by decide +kernel)) rfl dX5_status_15 ?_
    refine lv_iload_n hx hb dX5_status_18 rfl (lv_at hl 1 rfl) ?_
    refine lv_iconst (v := 1) hx hb dX5_status_19 (by decide) ?_
    refine lv_iadd hx hb dX5_status_20 ?_
    obtain ⟨b21, h⟩ := o_in h
    refine ldMd hx hb hw 3 (by decide) (n := 8) rfl b21 dX5_status_21 ?_
    refine lv_goto (tgt := 31) hx hb dX5_status_22 (by decide) ?_
    exact rI hQ hx hb hr hlk hw dX5_status_31 (o_2a h) rfl (o_2b h)
