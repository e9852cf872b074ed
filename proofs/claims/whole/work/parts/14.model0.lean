-- X5_isIn
set_option maxRecDepth 100000 in
set_option maxHeartbeats 4000000 in
theorem kX5_isIn (l : Launch) (G : sGl) {S : sWo} {M : sOb} {a0 : Int64} {a2 : Int64} {a4 : Int64} {q : Int32}  (h : fX5_isIn a0 a2 a4 = some q) : sCt l G yX5_isIn wsX5_isIn rmX5_isIn [.long a0, .long a2, .long a4] S M (some (.int q)) S M := by
  refine cMk (cc := cX5_isIn) (maxL := 6) (ret := (some .boolean)) (by decide) rfl (Nat.le_of_ble_eq_true rfl) ?_
  intro p e s m args below meth c Q hQ hx hb hr hlk hml hown hts hw ls hl
  have hown : s.vm.findClass RX5 = some m.cls := hown
  have hl : lv_has ls 6 [(0, .long a0), (2, .long a2), (4, .long a4)] := hl
  unfold fX5_isIn at h
  refine lv_lload_n hx hb dX5_isIn_0 rfl (lv_at hl 0 rfl) ?_
  refine lv_lload_n hx hb dX5_isIn_1 rfl (lv_at hl 1 rfl) ?_
  refine W.lcmp hx hb dX5_isIn_2 ?_
  refine lv_if_lt (tgt := 17) hx hb dX5_isIn_3 (by decide) (fun c3 => ?_) (fun c3 => ?_)
  · replace h := o_t c3 h
    refine lv_iconst (v := 0) hx hb dX5_isIn_17 (by decide) ?_
    exact rZ hQ hx hb hr hlk hw (Or.inl rfl) dX5_isIn_18 (o_1 h) rfl rfl
  · replace h := o_f c3 h
    refine lv_lload_n hx hb dX5_isIn_6 rfl (lv_at hl 0 rfl) ?_
    refine lv_lload hx hb dX5_isIn_7 (lv_at hl 2 rfl) ?_
    refine W.lcmp hx hb dX5_isIn_9 ?_
    refine lv_if_gt (tgt := 17) hx hb dX5_isIn_10 (by decide) (fun c10 => ?_) (fun c10 => ?_)
    · replace h := o_t c10 h
      refine lv_iconst (v := 0) hx hb dX5_isIn_17 (by decide) ?_
      exact rZ hQ hx hb hr hlk hw (Or.inl rfl) dX5_isIn_18 (o_1 h) rfl rfl
    · replace h := o_f c10 h
      refine lv_iconst (v := 1) hx hb dX5_isIn_13 (by decide) ?_
      refine lv_goto (tgt := 18) hx hb dX5_isIn_14 (by decide) ?_
      exact rZ hQ hx hb hr hlk hw (Or.inr rfl) dX5_isIn_18 (o_1 h) rfl rfl
-- X5_finds
set_option maxRecDepth 100000 in
set_option maxHeartbeats 4000000 in
theorem kX5_finds (l : Launch) (G : sGl) {S : sWo} {M : sOb} {a1 : Int32} {q : (Int32 × sOb)}  (h : fX5_finds M a1 = some q) : sCt l G yX5_finds wsX5_finds rmX5_finds [.ref (sA G 9 0), .int a1] S M (some (.int q.1)) S q.2 := by
  refine cMk (cc := cX5_finds) (maxL := 2) (ret := (some .int)) (by decide) rfl (Nat.le_of_ble_eq_true rfl) ?_
  intro p e s m args below meth c Q hQ hx hb hr hlk hml hown hts hw ls hl
  have hown : s.vm.findClass RX5 = some m.cls := hown
  have hl : lv_has ls 2 [(0, .ref (sA G 9 0)), (1, .int a1)] := hl
  have hiX5 : ∀ w ∈ u_ws RX5 TX5 15, w ∈ wsX5_finds := by decide +kernel
  unfold fX5_finds at h
  refine lv_aload_n hx hb dX5_finds_0 rfl (lv_at hl 0 rfl) ?_
  refine gMd (v := .ref (sA G 9 4)) hx hb hts hiX5 hown hw 4 (by decide) (hts (.fieldLink RX5 19 "SecondHomeModel" "findings" "[I") (by decide +kernel)) rfl dX5_finds_1 ?_
  refine lv_iconst (v := 0) hx hb dX5_finds_4 (by decide) ?_
  refine lv_dup2_11 hx hb dX5_finds_5 rfl rfl ?_
  refine ldMd hx hb hw 3 (by decide) (n := 8) rfl (by decide) dX5_finds_6 ?_
  refine lv_iconst (v := 1) hx hb dX5_finds_7 (by decide) ?_
  refine lv_iadd hx hb dX5_finds_8 ?_
  refine stMd hx hb hw 3 (by decide) (n := 8) rfl (by decide) dX5_finds_9 rfl (fun H locs hw => ?_)
  obtain ⟨M9, eM9, h⟩ := o_nm h
  rw [← eM9] at hw
  refine lv_aload_n hx hb dX5_finds_10 rfl (lv_at hl 0 rfl) ?_
  refine gMd (v := .ref (sA G 9 4)) hx hb hts hiX5 hown hw 4 (by decide) (hts (.fieldLink RX5 19 "SecondHomeModel" "findings" "[I") (by decide +kernel)) rfl dX5_finds_11 ?_
  refine lv_ldc (v := -1000000001) hx hb hown (hts (.constant RX5 38 (-1000000001)) (by decide +kernel)) dX5_finds_14 ?_
  refine lv_iload_n hx hb dX5_finds_16 rfl (lv_at hl 1 rfl) ?_
  refine lv_isub hx hb dX5_finds_17 ?_
  refine lv_iconst (v := 1) hx hb dX5_finds_18 (by decide) ?_
  refine lv_iadd hx hb dX5_finds_19 ?_
  refine lv_dup2_11 hx hb dX5_finds_20 rfl rfl ?_
  obtain ⟨b21, h⟩ := o_in h
  refine ldMd hx hb hw 3 (by decide) (n := 8) rfl b21 dX5_finds_21 ?_
  refine lv_iconst (v := 1) hx hb dX5_finds_22 (by decide) ?_
  refine lv_iadd hx hb dX5_finds_23 ?_
  refine stMd hx hb hw 3 (by decide) (n := 8) rfl b21 dX5_finds_24 rfl (fun H locs hw => ?_)
  obtain ⟨M24, eM24, h⟩ := o_nm h
  rw [← eM24] at hw
  refine lv_iload_n hx hb dX5_finds_25 rfl (lv_at hl 1 rfl) ?_
  exact rI hQ hx hb hr hlk hw dX5_finds_26 (o_2a h) rfl (o_2b h)
-- X5_orNone
set_option maxRecDepth 100000 in
set_option maxHeartbeats 4000000 in
theorem kX5_orNone (l : Launch) (G : sGl) {S : sWo} {M : sOb} {a1 : Int32} {q : (Int32 × sOb)}  (h : fX5_orNone M a1 = some q) : sCt l G yX5_orNone wsX5_orNone rmX5_orNone [.ref (sA G 9 0), .int a1] S M (some (.int q.1)) S q.2 := by
  refine cMk (cc := cX5_orNone) (maxL := 2) (ret := (some .int)) (by decide) rfl (Nat.le_of_ble_eq_true rfl) ?_
  intro p e s m args below meth c Q hQ hx hb hr hlk hml hown hts hw ls hl
  have hown : s.vm.findClass RX5 = some m.cls := hown
  have hl : lv_has ls 2 [(0, .ref (sA G 9 0)), (1, .int a1)] := hl
  unfold fX5_orNone at h
  refine lv_iload_n hx hb dX5_orNone_0 rfl (lv_at hl 1 rfl) ?_
  refine lv_if_ge (tgt := 13) hx hb dX5_orNone_1 (by decide) (fun c1 => ?_) (fun c1 => ?_)
  · replace h := o_t c1 h
    refine lv_iload_n hx hb dX5_orNone_13 rfl (lv_at hl 1 rfl) ?_
    exact rI hQ hx hb hr hlk hw dX5_orNone_14 (o_2a h) rfl (o_2b h)
  · replace h := o_f c1 h
    refine lv_aload_n hx hb dX5_orNone_4 rfl (lv_at hl 0 rfl) ?_
    refine lv_ldc (v := -1000000004) hx hb hown (hts (.constant RX5 39 (-1000000004)) (by decide +kernel)) dX5_orNone_5 ?_
    obtain ⟨q7, eq7, h⟩ := o_bd h
    refine kV (As := [.int (-1000000004 : Int32)]) (rest := []) (st' := [.int q7.1]) ⟨hx, hb, hml, hown, hts⟩ (kX5_finds l G eq7) (cwV 1 hts gX5_orNone_X5_finds rfl rfl rfl qqX5_finds ⟨Nat.le_of_ble_eq_true rfl, Nat.le_of_ble_eq_true rfl⟩) hw (rvMd hw) rfl hl.1 rfl (Nat.le_of_ble_eq_true rfl) dX5_orNone_7 ⟨Nat.zero_le _, Nat.zero_le _⟩ rfl (fun H locs hw => ?_)
    refine lv_goto (tgt := 14) hx hb dX5_orNone_10 (by decide) ?_
    exact rI hQ hx hb hr hlk hw dX5_orNone_14 (o_2a h) rfl (o_2b h)
-- X5_becomes
set_option maxRecDepth 100000 in
set_option maxHeartbeats 4000000 in
theorem kX5_becomes (l : Launch) (G : sGl) {S : sWo} {M : sOb} {a1 : Int32} {a2 : Int32} {q : (Int32 × sOb)}  (h : fX5_becomes M a1 a2 = some q) : sCt l G yX5_becomes wsX5_becomes rmX5_becomes [.ref (sA G 9 0), .int a1, .int a2] S M (some (.int q.1)) S q.2 := by
  refine cMk (cc := cX5_becomes) (maxL := 4) (ret := (some .int)) (by decide) rfl (Nat.le_of_ble_eq_true rfl) ?_
  intro p e s m args below meth c Q hQ hx hb hr hlk hml hown hts hw ls hl
  have hown : s.vm.findClass RX5 = some m.cls := hown
  have hl : lv_has ls 4 [(0, .ref (sA G 9 0)), (1, .int a1), (2, .int a2)] := hl
  have hiX5 : ∀ w ∈ u_ws RX5 TX5 15, w ∈ wsX5_becomes := by decide +kernel
  unfold fX5_becomes at h
  refine lv_aload_n hx hb dX5_becomes_0 rfl (lv_at hl 0 rfl) ?_
  refine gMd (v := .ref (sA G 9 1)) hx hb hts hiX5 hown hw 0 (by decide) (hts (.fieldLink RX5 7 "SecondHomeModel" "s" "[I") (by decide +kernel)) rfl dX5_becomes_1 ?_
  refine lv_iload_n hx hb dX5_becomes_4 rfl (lv_at hl 1 rfl) ?_
  obtain ⟨b5, h⟩ := o_in h
  refine ldMd hx hb hw 0 (by decide) (n := 77) rfl b5 dX5_becomes_5 ?_
  refine lv_topi (fun v6 ev6 => ?_)
  replace h := o_nx ev6 h
  refine lv_istore_n (lv' := [(3, .int v6), (0, .ref (sA G 9 0)), (1, .int a1), (2, .int a2)]) hx hb dX5_becomes_6 rfl hl (by decide) rfl (fun ls hl => ?_)
  refine lv_aload_n hx hb dX5_becomes_7 rfl (lv_at hl 1 rfl) ?_
  refine gMd (v := .ref (sA G 9 1)) hx hb hts hiX5 hown hw 0 (by decide) (hts (.fieldLink RX5 7 "SecondHomeModel" "s" "[I") (by decide +kernel)) rfl dX5_becomes_8 ?_
  refine lv_iload_n hx hb dX5_becomes_11 rfl (lv_at hl 2 rfl) ?_
  refine lv_iload_n hx hb dX5_becomes_12 rfl (lv_at hl 3 rfl) ?_
  refine stMd hx hb hw 0 (by decide) (n := 77) rfl b5 dX5_becomes_13 rfl (fun H locs hw => ?_)
  obtain ⟨M13, eM13, h⟩ := o_nm h
  rw [← eM13] at hw
  refine lv_iload_n hx hb dX5_becomes_14 rfl (lv_at hl 0 rfl) ?_
  exact rI hQ hx hb hr hlk hw dX5_becomes_15 (o_2a h) rfl (o_2b h)
-- X5_is
set_option maxRecDepth 100000 in
set_option maxHeartbeats 4000000 in
theorem kX5_is (l : Launch) (G : sGl) {S : sWo} {M : sOb} {a1 : Int32} {a2 : Int32} {q : Int32}  (h : fX5_is M a1 a2 = some q) : sCt l G yX5_is wsX5_is rmX5_is [.ref (sA G 9 0), .int a1, .int a2] S M (some (.int q)) S M := by
  refine cMk (cc := cX5_is) (maxL := 3) (ret := (some .int)) (by decide) rfl (Nat.le_of_ble_eq_true rfl) ?_
  intro p e s m args below meth c Q hQ hx hb hr hlk hml hown hts hw ls hl
  have hown : s.vm.findClass RX5 = some m.cls := hown
  have hl : lv_has ls 3 [(0, .ref (sA G 9 0)), (1, .int a1), (2, .int a2)] := hl
  have hiX5 : ∀ w ∈ u_ws RX5 TX5 15, w ∈ wsX5_is := by decide +kernel
  unfold fX5_is at h
  refine lv_aload_n hx hb dX5_is_0 rfl (lv_at hl 0 rfl) ?_
  refine gMd (v := .ref (sA G 9 1)) hx hb hts hiX5 hown hw 0 (by decide) (hts (.fieldLink RX5 7 "SecondHomeModel" "s" "[I") (by decide +kernel)) rfl dX5_is_1 ?_
  refine lv_iconst (v := 5) hx hb dX5_is_4 (by decide) ?_
  refine lv_bipush (v := 8) hx hb dX5_is_5 (by decide) ?_
  refine lv_iload_n hx hb dX5_is_7 rfl (lv_at hl 1 rfl) ?_
  refine lv_imul hx hb dX5_is_8 ?_
  refine lv_iadd hx hb dX5_is_9 ?_
  refine lv_iload_n hx hb dX5_is_10 rfl (lv_at hl 2 rfl) ?_
  refine lv_iadd hx hb dX5_is_11 ?_
  obtain ⟨b12, h⟩ := o_in h
  refine ldMd hx hb hw 0 (by decide) (n := 77) rfl b12 dX5_is_12 ?_
  exact rI hQ hx hb hr hlk hw dX5_is_13 (o_1 h) rfl rfl
-- X5_puts
set_option maxRecDepth 100000 in
set_option maxHeartbeats 4000000 in
theorem kX5_puts (l : Launch) (G : sGl) {S : sWo} {M : sOb} {a1 : Int32} {a2 : Int32} {a3 : Int32} {q : sOb}  (h : fX5_puts M a1 a2 a3 = some q) : sCt l G yX5_puts wsX5_puts rmX5_puts [.ref (sA G 9 0), .int a1, .int a2, .int a3] S M none S q := by
  refine cMk (cc := cX5_puts) (maxL := 4) (ret := none) (by decide) rfl (Nat.le_of_ble_eq_true rfl) ?_
  intro p e s m args below meth c Q hQ hx hb hr hlk hml hown hts hw ls hl
  have hown : s.vm.findClass RX5 = some m.cls := hown
  have hl : lv_has ls 4 [(0, .ref (sA G 9 0)), (1, .int a1), (2, .int a2), (3, .int a3)] := hl
  have hiX5 : ∀ w ∈ u_ws RX5 TX5 15, w ∈ wsX5_puts := by decide +kernel
  unfold fX5_puts at h
  refine lv_aload_n hx hb dX5_puts_0 rfl (lv_at hl 0 rfl) ?_
  refine gMd (v := .ref (sA G 9 1)) hx hb hts hiX5 hown hw 0 (by decide) (hts (.fieldLink RX5 7 "SecondHomeModel" "s" "[I") (by decide +kernel)) rfl dX5_puts_1 ?_
  refine lv_iconst (v := 5) hx hb dX5_puts_4 (by decide) ?_
  refine lv_bipush (v := 8) hx hb dX5_puts_5 (by decide) ?_
  refine lv_iload_n hx hb dX5_puts_7 rfl (lv_at hl 1 rfl) ?_
  refine lv_imul hx hb dX5_puts_8 ?_
  refine lv_iadd hx hb dX5_puts_9 ?_
  refine lv_iload_n hx hb dX5_puts_10 rfl (lv_at hl 2 rfl) ?_
  refine lv_iadd hx hb dX5_puts_11 ?_
  refine lv_iload_n hx hb dX5_puts_12 rfl (lv_at hl 3 rfl) ?_
  obtain ⟨b13, h⟩ := o_in h
  refine stMd hx hb hw 0 (by decide) (n := 77) rfl b13 dX5_puts_13 rfl (fun H locs hw => ?_)
  obtain ⟨M13, eM13, h⟩ := o_nm h
  rw [← eM13] at hw
  exact rV hQ hx hb hr hlk hw dX5_puts_14 rfl (o_1 h)
-- X5_isRunner
set_option maxRecDepth 100000 in
set_option maxHeartbeats 4000000 in
theorem kX5_isRunner (l : Launch) (G : sGl) {S : sWo} {M : sOb} {a1 : Int32} {q : Int32}  (h : fX5_isRunner M a1 = some q) : sCt l G yX5_isRunner wsX5_isRunner rmX5_isRunner [.ref (sA G 9 0), .int a1] S M (some (.int q)) S M := by
  refine cMk (cc := cX5_isRunner) (maxL := 2) (ret := (some .boolean)) (by decide) rfl (Nat.le_of_ble_eq_true rfl) ?_
  intro p e s m args below meth c Q hQ hx hb hr hlk hml hown hts hw ls hl
  have hown : s.vm.findClass RX5 = some m.cls := hown
  have hl : lv_has ls 2 [(0, .ref (sA G 9 0)), (1, .int a1)] := hl
  have hiX5 : ∀ w ∈ u_ws RX5 TX5 15, w ∈ wsX5_isRunner := by decide +kernel
  unfold fX5_isRunner at h
  refine lv_iload_n hx hb dX5_isRunner_0 rfl (lv_at hl 1 rfl) ?_
  refine lv_if_lt (tgt := 18) hx hb dX5_isRunner_1 (by decide) (fun c1 => ?_) (fun c1 => ?_)
  · replace h := o_t c1 h
    refine lv_iconst (v := 0) hx hb dX5_isRunner_18 (by decide) ?_
    exact rZ hQ hx hb hr hlk hw (Or.inl rfl) dX5_isRunner_19 (o_1 h) rfl rfl
  · replace h := o_f c1 h
    refine lv_iload_n hx hb dX5_isRunner_4 rfl (lv_at hl 1 rfl) ?_
    refine lv_aload_n hx hb dX5_isRunner_5 rfl (lv_at hl 0 rfl) ?_
    refine gMd (v := .ref (sA G 9 1)) hx hb hts hiX5 hown hw 0 (by decide) (hts (.fieldLink RX5 7 "SecondHomeModel" "s" "[I") (by decide +kernel)) rfl dX5_isRunner_6 ?_
    refine lv_iconst (v := 0) hx hb dX5_isRunner_9 (by decide) ?_
    refine ldMd hx hb hw 0 (by decide) (n := 77) rfl (by decide) dX5_isRunner_10 ?_
    refine lv_icmp_ge (tgt := 18) hx hb dX5_isRunner_11 (by decide) (fun c11 => ?_) (fun c11 => ?_)
    · replace h := o_t c11 h
      refine lv_iconst (v := 0) hx hb dX5_isRunner_18 (by decide) ?_
      exact rZ hQ hx hb hr hlk hw (Or.inl rfl) dX5_isRunner_19 (o_1 h) rfl rfl
    · replace h := o_f c11 h
      refine lv_iconst (v := 1) hx hb dX5_isRunner_14 (by decide) ?_
      refine lv_goto (tgt := 19) hx hb dX5_isRunner_15 (by decide) ?_
      exact rZ hQ hx hb hr hlk hw (Or.inr rfl) dX5_isRunner_19 (o_1 h) rfl rfl
-- X5_isHome
set_option maxRecDepth 100000 in
set_option maxHeartbeats 4000000 in
theorem kX5_isHome (l : Launch) (G : sGl) {S : sWo} {M : sOb} {a1 : Int32} {q : Int32}  (h : fX5_isHome M a1 = some q) : sCt l G yX5_isHome wsX5_isHome rmX5_isHome [.ref (sA G 9 0), .int a1] S M (some (.int q)) S M := by
  refine cMk (cc := cX5_isHome) (maxL := 2) (ret := (some .boolean)) (by decide) rfl (Nat.le_of_ble_eq_true rfl) ?_
  intro p e s m args below meth c Q hQ hx hb hr hlk hml hown hts hw ls hl
  have hown : s.vm.findClass RX5 = some m.cls := hown
  have hl : lv_has ls 2 [(0, .ref (sA G 9 0)), (1, .int a1)] := hl
  unfold fX5_isHome at h
  refine lv_aload_n hx hb dX5_isHome_0 rfl (lv_at hl 0 rfl) ?_
  refine lv_iload_n hx hb dX5_isHome_1 rfl (lv_at hl 1 rfl) ?_
  refine lv_bipush (v := 7) hx hb dX5_isHome_2 (by decide) ?_
  obtain ⟨q4, eq4, h⟩ := o_bd h
  refine kV (As := [.int a1, .int (7 : Int32)]) (rest := []) (st' := [.int q4]) ⟨hx, hb, hml, hown, hts⟩ (kX5_is l G eq4) (cwV 2 hts gX5_isHome_X5_is rfl rfl rfl qqX5_is ⟨Nat.le_of_ble_eq_true rfl, Nat.le_of_ble_eq_true rfl⟩) hw (rvMd hw) rfl hl.1 rfl (Nat.le_of_ble_eq_true rfl) dX5_isHome_4 ⟨Nat.zero_le _, Nat.zero_le _⟩ rfl (fun H locs hw => ?_)
  refine lv_if_lt (tgt := 14) hx hb dX5_isHome_7 (by decide) (fun c7 => ?_) (fun c7 => ?_)
  · replace h := o_t c7 h
    refine lv_iconst (v := 0) hx hb dX5_isHome_14 (by decide) ?_
    exact rZ hQ hx hb hr hlk hw (Or.inl rfl) dX5_isHome_15 (o_1 h) rfl rfl
  · replace h := o_f c7 h
    refine lv_iconst (v := 1) hx hb dX5_isHome_10 (by decide) ?_
    refine lv_goto (tgt := 15) hx hb dX5_isHome_11 (by decide) ?_
    exact rZ hQ hx hb hr hlk hw (Or.inr rfl) dX5_isHome_15 (o_1 h) rfl rfl
-- X5_laysBy
set_option maxRecDepth 100000 in
set_option maxHeartbeats 4000000 in
theorem kX5_laysBy (l : Launch) (G : sGl) {S : sWo} {M : sOb}  {q : sOb}  (h : fX5_laysBy M = some q) : sCt l G yX5_laysBy wsX5_laysBy rmX5_laysBy [.ref (sA G 9 0)] S M none S q := by
  refine cMk (cc := cX5_laysBy) (maxL := 2) (ret := none) (by decide) rfl (Nat.le_of_ble_eq_true rfl) ?_
  intro p e s m args below meth c Q hQ hx hb hr hlk hml hown hts hw ls hl
  have hown : s.vm.findClass RX5 = some m.cls := hown
  have hl : lv_has ls 2 [(0, .ref (sA G 9 0))] := hl
  have hiX5 : ∀ w ∈ u_ws RX5 TX5 15, w ∈ wsX5_laysBy := by decide +kernel
  unfold fX5_laysBy at h
  refine lv_iconst (v := 0) hx hb dX5_laysBy_0 (by decide) ?_
  refine lv_istore_n (lv' := [(1, .int (0 : Int32)), (0, .ref (sA G 9 0))]) hx hb dX5_laysBy_1 rfl hl (by decide) rfl (fun ls hl => ?_)
  refine fx2_w (F := bX5_laysBy_2) (P := fun x1_2 T_2 => ∀ (H : Heap) (locs : List Loc) (ls : Array Slot), sHw G s S T_2 H locs → lv_has ls 2 [(0, .ref (sA G 9 0)), (1, .int x1_2)] → W p l e rmX5_laysBy s m args below meth c H locs 0 0 Q (F0 m 2 ls [])) ?_ _ _ _ h _ _ _ hw (lv_sub hl [1, 0] rfl)
  intro rc2 IH2 x1_2 T_2 h H locs ls hw hl
  unfold bX5_laysBy_2 at h
  refine lv_iload_n hx hb dX5_laysBy_2 rfl (lv_at hl 1 rfl) ?_
  refine lv_bipush (v := 77) hx hb dX5_laysBy_3 (by decide) ?_
  refine lv_icmp_ge (tgt := 26) hx hb dX5_laysBy_5 (by decide) (fun c5 => ?_) (fun c5 => ?_)
  · replace h := o_t c5 h
    exact rV hQ hx hb hr hlk hw dX5_laysBy_26 rfl (o_1 h)
  · replace h := o_f c5 h
    refine lv_aload_n hx hb dX5_laysBy_8 rfl (lv_at hl 0 rfl) ?_
    refine gMd (v := .ref (sA G 9 3)) hx hb hts hiX5 hown hw 2 (by decide) (hts (.fieldLink RX5 16 "SecondHomeModel" "close" "[I") (by decide +kernel)) rfl dX5_laysBy_9 ?_
    refine lv_iload_n hx hb dX5_laysBy_12 rfl (lv_at hl 1 rfl) ?_
    refine lv_aload_n hx hb dX5_laysBy_13 rfl (lv_at hl 0 rfl) ?_
    refine gMd (v := .ref (sA G 9 1)) hx hb hts hiX5 hown hw 0 (by decide) (hts (.fieldLink RX5 7 "SecondHomeModel" "s" "[I") (by decide +kernel)) rfl dX5_laysBy_14 ?_
    refine lv_iload_n hx hb dX5_laysBy_17 rfl (lv_at hl 1 rfl) ?_
    obtain ⟨b18, h⟩ := o_in h
    refine ldMd hx hb hw 0 (by decide) (n := 77) rfl b18 dX5_laysBy_18 ?_
    refine stMd hx hb hw 2 (by decide) (n := 77) rfl b18 dX5_laysBy_19 rfl (fun H locs hw => ?_)
    obtain ⟨M19, eM19, h⟩ := o_nm h
    rw [← eM19] at hw
    obtain ⟨v20, ev20, h⟩ := o_nm h
    refine lv_iinc (v := v20) (lv' := [(1, .int v20), (0, .ref (sA G 9 0))]) hx hb dX5_laysBy_20 hl (k := 1) rfl (by rw [ev20]; rfl) (by decide) rfl (fun ls hl => ?_)
    refine lv_goto (tgt := 2) hx hb dX5_laysBy_23 (by decide) ?_
    exact IH2 v20 M19 h _ _ _ hw (lv_sub hl [1, 0] rfl)
-- X5_laysBack
set_option maxRecDepth 100000 in
set_option maxHeartbeats 4000000 in
theorem kX5_laysBack (l : Launch) (G : sGl) {S : sWo} {M : sOb}  {q : sOb}  (h : fX5_laysBack M = some q) : sCt l G yX5_laysBack wsX5_laysBack rmX5_laysBack [.ref (sA G 9 0)] S M none S q := by
  refine cMk (cc := cX5_laysBack) (maxL := 2) (ret := none) (by decide) rfl (Nat.le_of_ble_eq_true rfl) ?_
  intro p e s m args below meth c Q hQ hx hb hr hlk hml hown hts hw ls hl
  have hown : s.vm.findClass RX5 = some m.cls := hown
  have hl : lv_has ls 2 [(0, .ref (sA G 9 0))] := hl
  have hiX5 : ∀ w ∈ u_ws RX5 TX5 15, w ∈ wsX5_laysBack := by decide +kernel
  unfold fX5_laysBack at h
  refine lv_iconst (v := 0) hx hb dX5_laysBack_0 (by decide) ?_
  refine lv_istore_n (lv' := [(1, .int (0 : Int32)), (0, .ref (sA G 9 0))]) hx hb dX5_laysBack_1 rfl hl (by decide) rfl (fun ls hl => ?_)
  refine fx2_w (F := bX5_laysBack_2) (P := fun x1_2 T_2 => ∀ (H : Heap) (locs : List Loc) (ls : Array Slot), sHw G s S T_2 H locs → lv_has ls 2 [(0, .ref (sA G 9 0)), (1, .int x1_2)] → W p l e rmX5_laysBack s m args below meth c H locs 0 0 Q (F0 m 2 ls [])) ?_ _ _ _ h _ _ _ hw (lv_sub hl [1, 0] rfl)
  intro rc2 IH2 x1_2 T_2 h H locs ls hw hl
  unfold bX5_laysBack_2 at h
  refine lv_iload_n hx hb dX5_laysBack_2 rfl (lv_at hl 1 rfl) ?_
  refine lv_bipush (v := 77) hx hb dX5_laysBack_3 (by decide) ?_
  refine lv_icmp_ge (tgt := 26) hx hb dX5_laysBack_5 (by decide) (fun c5 => ?_) (fun c5 => ?_)
  · replace h := o_t c5 h
    exact rV hQ hx hb hr hlk hw dX5_laysBack_26 rfl (o_1 h)
  · replace h := o_f c5 h
    refine lv_aload_n hx hb dX5_laysBack_8 rfl (lv_at hl 0 rfl) ?_
    refine gMd (v := .ref (sA G 9 1)) hx hb hts hiX5 hown hw 0 (by decide) (hts (.fieldLink RX5 7 "SecondHomeModel" "s" "[I") (by decide +kernel)) rfl dX5_laysBack_9 ?_
    refine lv_iload_n hx hb dX5_laysBack_12 rfl (lv_at hl 1 rfl) ?_
    refine lv_aload_n hx hb dX5_laysBack_13 rfl (lv_at hl 0 rfl) ?_
    refine gMd (v := .ref (sA G 9 3)) hx hb hts hiX5 hown hw 2 (by decide) (hts (.fieldLink RX5 16 "SecondHomeModel" "close" "[I") (by decide +kernel)) rfl dX5_laysBack_14 ?_
    refine lv_iload_n hx hb dX5_laysBack_17 rfl (lv_at hl 1 rfl) ?_
    obtain ⟨b18, h⟩ := o_in h
    refine ldMd hx hb hw 2 (by decide) (n := 77) rfl b18 dX5_laysBack_18 ?_
    refine stMd hx hb hw 0 (by decide) (n := 77) rfl b18 dX5_laysBack_19 rfl (fun H locs hw => ?_)
    obtain ⟨M19, eM19, h⟩ := o_nm h
    rw [← eM19] at hw
    obtain ⟨v20, ev20, h⟩ := o_nm h
    refine lv_iinc (v := v20) (lv' := [(1, .int v20), (0, .ref (sA G 9 0))]) hx hb dX5_laysBack_20 hl (k := 1) rfl (by rw [ev20]; rfl) (by decide) rfl (fun ls hl => ?_)
    refine lv_goto (tgt := 2) hx hb dX5_laysBack_23 (by decide) ?_
    exact IH2 v20 M19 h _ _ _ hw (lv_sub hl [1, 0] rfl)
-- X5_leastOf
set_option maxRecDepth 100000 in
set_option maxHeartbeats 4000000 in
theorem kX5_leastOf (l : Launch) (G : sGl) {S : sWo} {M : sOb} {a0 : Int32} {q : Int32}  (h : fX5_leastOf a0 = some q) : sCt l G yX5_leastOf wsX5_leastOf rmX5_leastOf [.int a0] S M (some (.int q)) S M := by
  refine cMk (cc := cX5_leastOf) (maxL := 1) (ret := (some .int)) (by decide) rfl (Nat.le_of_ble_eq_true rfl) ?_
  intro p e s m args below meth c Q hQ hx hb hr hlk hml hown hts hw ls hl
  have hown : s.vm.findClass RX5 = some m.cls := hown
  have hl : lv_has ls 1 [(0, .int a0)] := hl
  unfold fX5_leastOf at h
  refine lv_iload_n hx hb dX5_leastOf_0 rfl (lv_at hl 0 rfl) ?_
  refine lv_if_ne (tgt := 9) hx hb dX5_leastOf_1 (by decide) (fun c1 => ?_) (fun c1 => ?_)
  · replace h := o_f c1 h
    refine lv_iconst (v := 0) hx hb dX5_leastOf_9 (by decide) ?_
    exact rI hQ hx hb hr hlk hw dX5_leastOf_10 (o_1 h) rfl rfl
  · replace h := o_t c1 h
    refine lv_bipush (v := 10) hx hb dX5_leastOf_4 (by decide) ?_
    refine lv_goto (tgt := 10) hx hb dX5_leastOf_6 (by decide) ?_
    exact rI hQ hx hb hr hlk hw dX5_leastOf_10 (o_1 h) rfl rfl
-- X5_mostOf
set_option maxRecDepth 100000 in
set_option maxHeartbeats 4000000 in
theorem kX5_mostOf (l : Launch) (G : sGl) {S : sWo} {M : sOb} {a0 : Int32} {q : Int32}  (h : fX5_mostOf a0 = some q) : sCt l G yX5_mostOf wsX5_mostOf rmX5_mostOf [.int a0] S M (some (.int q)) S M := by
  refine cMk (cc := cX5_mostOf) (maxL := 1) (ret := (some .int)) (by decide) rfl (Nat.le_of_ble_eq_true rfl) ?_
  intro p e s m args below meth c Q hQ hx hb hr hlk hml hown hts hw ls hl
  have hown : s.vm.findClass RX5 = some m.cls := hown
  have hl : lv_has ls 1 [(0, .int a0)] := hl
  unfold fX5_mostOf at h
  refine lv_iload_n hx hb dX5_mostOf_0 rfl (lv_at hl 0 rfl) ?_
  refine lv_if_ne (tgt := 10) hx hb dX5_mostOf_1 (by decide) (fun c1 => ?_) (fun c1 => ?_)
  · replace h := o_f c1 h
    refine lv_iload_n hx hb dX5_mostOf_10 rfl (lv_at hl 0 rfl) ?_
    refine lv_iconst (v := 1) hx hb dX5_mostOf_11 (by decide) ?_
    refine lv_icmp_ne (tgt := 19) hx hb dX5_mostOf_12 (by decide) (fun c12 => ?_) (fun c12 => ?_)
    · replace h := o_f c12 h
      refine lv_iconst (v := 3) hx hb dX5_mostOf_19 (by decide) ?_
      exact rI hQ hx hb hr hlk hw dX5_mostOf_20 (o_1 h) rfl rfl
    · replace h := o_t c12 h
      refine lv_iconst (v := 5) hx hb dX5_mostOf_15 (by decide) ?_
      refine lv_goto (tgt := 20) hx hb dX5_mostOf_16 (by decide) ?_
      exact rI hQ hx hb hr hlk hw dX5_mostOf_20 (o_1 h) rfl rfl
  · replace h := o_t c1 h
    refine lv_sipush (v := 9999) hx hb dX5_mostOf_4 (by decide) ?_
    refine lv_goto (tgt := 20) hx hb dX5_mostOf_7 (by decide) ?_
    exact rI hQ hx hb hr hlk hw dX5_mostOf_20 (o_1 h) rfl rfl
-- X5_let
set_option maxRecDepth 100000 in
set_option maxHeartbeats 4000000 in
theorem kX5_let (l : Launch) (G : sGl) {S : sWo} {M : sOb} {a1 : Int32} {a2 : Int32} {q : (Int32 × sOb)}  (h : fX5_let M a1 a2 = some q) : sCt l G yX5_let wsX5_let rmX5_let [.ref (sA G 9 0), .int a1, .int a2] S M (some (.int q.1)) S q.2 := by
  refine cMk (cc := cX5_let) (maxL := 3) (ret := (some .int)) (by decide) rfl (Nat.le_of_ble_eq_true rfl) ?_
  intro p e s m args below meth c Q hQ hx hb hr hlk hml hown hts hw ls hl
  have hown : s.vm.findClass RX5 = some m.cls := hown
  have hl : lv_has ls 3 [(0, .ref (sA G 9 0)), (1, .int a1), (2, .int a2)] := hl
  have hiX5 : ∀ w ∈ u_ws RX5 TX5 15, w ∈ wsX5_let := by decide +kernel
  unfold fX5_let at h
  refine lv_iload_n hx hb dX5_let_0 rfl (lv_at hl 1 rfl) ?_
  refine lv_i2l hx hb dX5_let_1 rfl ?_
  refine lv_lconst (v := 0) hx hb dX5_let_2 (by decide) ?_
  refine lv_ldc2 (v := 2) hx hb hown (hts (.constantLong RX5 48 (2)) (by decide +kernel)) dX5_let_3 ?_
  obtain ⟨q6, eq6, h⟩ := o_bd h
  refine kS (As := [.long a1.toInt64, .long (0 : Int64), .long (2 : Int64)]) (rest := []) (st' := [.int q6]) ⟨hx, hb, hml, hown, hts⟩ (kX5_isIn l G eq6) (va_cwS 3 hts gX5_let_X5_isIn rfl rfl rfl qqX5_isIn ⟨Nat.le_of_ble_eq_true rfl, Nat.le_of_ble_eq_true rfl⟩) hw rfl hl.1 rfl (Nat.le_of_ble_eq_true rfl) dX5_let_6 ⟨Nat.zero_le _, Nat.zero_le _⟩ rfl (fun H locs hw => ?_)
  refine lv_if_eq (tgt := 30) hx hb dX5_let_9 (by decide) (fun c9 => ?_) (fun c9 => ?_)
  · replace h := o_t c9 h
    refine lv_aload_n hx hb dX5_let_30 rfl (lv_at hl 0 rfl) ?_
    refine lv_ldc (v := -1000000001) hx hb hown (hts (.constant RX5 38 (-1000000001)) (by decide +kernel)) dX5_let_31 ?_
    obtain ⟨q33, eq33, h⟩ := o_bd h
    refine kV (As := [.int (-1000000001 : Int32)]) (rest := []) (st' := [.int q33.1]) ⟨hx, hb, hml, hown, hts⟩ (kX5_finds l G eq33) (cwV 1 hts gX5_let_X5_finds rfl rfl rfl qqX5_finds ⟨Nat.le_of_ble_eq_true rfl, Nat.le_of_ble_eq_true rfl⟩) hw (rvMd hw) rfl hl.1 rfl (Nat.le_of_ble_eq_true rfl) dX5_let_33 ⟨Nat.zero_le _, Nat.zero_le _⟩ rfl (fun H locs hw => ?_)
    exact rI hQ hx hb hr hlk hw dX5_let_36 (o_2a h) rfl (o_2b h)
  · replace h := o_f c9 h
    refine lv_iload_n hx hb dX5_let_12 rfl (lv_at hl 2 rfl) ?_
    refine lv_i2l hx hb dX5_let_13 rfl ?_
    refine lv_iload_n hx hb dX5_let_14 rfl (lv_at hl 1 rfl) ?_
    obtain ⟨q15, eq15, h⟩ := o_bd h
    refine kS (As := [.int a1]) (rest := [.long a2.toInt64]) (st' := [.int q15, .long a2.toInt64]) ⟨hx, hb, hml, hown, hts⟩ (kX5_leastOf l G eq15) (va_cwS 1 hts gX5_let_X5_leastOf rfl rfl rfl qqX5_leastOf ⟨Nat.le_of_ble_eq_true rfl, Nat.le_of_ble_eq_true rfl⟩) hw rfl hl.1 rfl (Nat.le_of_ble_eq_true rfl) dX5_let_15 ⟨Nat.zero_le _, Nat.zero_le _⟩ rfl (fun H locs hw => ?_)
    refine lv_i2l hx hb dX5_let_18 rfl ?_
    refine lv_iload_n hx hb dX5_let_19 rfl (lv_at hl 1 rfl) ?_
    obtain ⟨q20, eq20, h⟩ := o_bd h
    refine kS (As := [.int a1]) (rest := [.long q15.toInt64, .long a2.toInt64]) (st' := [.int q20, .long q15.toInt64, .long a2.toInt64]) ⟨hx, hb, hml, hown, hts⟩ (kX5_mostOf l G eq20) (va_cwS 1 hts gX5_let_X5_mostOf rfl rfl rfl qqX5_mostOf ⟨Nat.le_of_ble_eq_true rfl, Nat.le_of_ble_eq_true rfl⟩) hw rfl hl.1 rfl (Nat.le_of_ble_eq_true rfl) dX5_let_20 ⟨Nat.zero_le _, Nat.zero_le _⟩ rfl (fun H locs hw => ?_)
    refine lv_i2l hx hb dX5_let_23 rfl ?_
    obtain ⟨q24, eq24, h⟩ := o_bd h
    refine kS (As := [.long a2.toInt64, .long q15.toInt64, .long q20.toInt64]) (rest := []) (st' := [.int q24]) ⟨hx, hb, hml, hown, hts⟩ (kX5_isIn l G eq24) (va_cwS 3 hts gX5_let_X5_isIn rfl rfl rfl qqX5_isIn ⟨Nat.le_of_ble_eq_true rfl, Nat.le_of_ble_eq_true rfl⟩) hw rfl hl.1 rfl (Nat.le_of_ble_eq_true rfl) dX5_let_24 ⟨Nat.zero_le _, Nat.zero_le _⟩ rfl (fun H locs hw => ?_)
    refine lv_if_ne (tgt := 37) hx hb dX5_let_27 (by decide) (fun c27 => ?_) (fun c27 => ?_)
    · replace h := o_f c27 h
      refine lv_iload_n hx hb dX5_let_37 rfl (lv_at hl 1 rfl) ?_
      obtain ⟨k57, ek57, h⟩ := o_nm h
      have J57 : ∀ (H : Heap) (locs : List Loc) (ls : Array Slot), sHw G s S M H locs → lv_has ls 3 [(0, .ref (sA G 9 0)), (1, .int a1), (2, .int a2)] → k57 = some q → W p l e rmX5_let s m args below meth c H locs 0 0 Q (F0 m 57 ls []) := by
        intro H locs ls hw hl h
        replace h := o_j0 ek57 h
        refine lv_aload_n hx hb dX5_let_57 rfl (lv_at hl 0 rfl) ?_
        refine lv_iconst (v := 1) hx hb dX5_let_58 (by decide) ?_
        refine lv_iload_n hx hb dX5_let_59 rfl (lv_at hl 1 rfl) ?_
        refine lv_iadd hx hb dX5_let_60 ?_
        refine lv_iload_n hx hb dX5_let_61 rfl (lv_at hl 2 rfl) ?_
        obtain ⟨q62, eq62, h⟩ := o_bd h
        refine kV (As := [.int ((1 : Int32) + a1), .int a2]) (rest := []) (st' := [.int q62.1]) ⟨hx, hb, hml, hown, hts⟩ (kX5_becomes l G eq62) (cwV 2 hts gX5_let_X5_becomes rfl rfl rfl qqX5_becomes ⟨Nat.le_of_ble_eq_true rfl, Nat.le_of_ble_eq_true rfl⟩) hw (rvMd hw) rfl hl.1 rfl (Nat.le_of_ble_eq_true rfl) dX5_let_62 ⟨Nat.zero_le _, Nat.zero_le _⟩ rfl (fun H locs hw => ?_)
        exact rI hQ hx hb hr hlk hw dX5_let_65 (o_2a h) rfl (o_2b h)
      refine lv_if_ne (tgt := 57) hx hb dX5_let_38 (by decide) (fun c38 => ?_) (fun c38 => ?_)
      · replace h := o_f c38 h
        exact J57 _ _ _ hw (lv_sub hl [0, 1, 2] rfl) h
      · replace h := o_t c38 h
        refine lv_aload_n hx hb dX5_let_41 rfl (lv_at hl 0 rfl) ?_
        refine gMd (v := .ref (sA G 9 1)) hx hb hts hiX5 hown hw 0 (by decide) (hts (.fieldLink RX5 7 "SecondHomeModel" "s" "[I") (by decide +kernel)) rfl dX5_let_42 ?_
        refine lv_iconst (v := 0) hx hb dX5_let_45 (by decide) ?_
        refine ldMd hx hb hw 0 (by decide) (n := 77) rfl (by decide) dX5_let_46 ?_
        refine lv_if_le (tgt := 57) hx hb dX5_let_47 (by decide) (fun c47 => ?_) (fun c47 => ?_)
        · replace h := o_t c47 h
          exact J57 _ _ _ hw (lv_sub hl [0, 1, 2] rfl) h
        · replace h := o_f c47 h
          refine lv_aload_n hx hb dX5_let_50 rfl (lv_at hl 0 rfl) ?_
          refine lv_ldc (v := -1000000005) hx hb hown (hts (.constant RX5 60 (-1000000005)) (by decide +kernel)) dX5_let_51 ?_
          obtain ⟨q53, eq53, h⟩ := o_bd h
          refine kV (As := [.int (-1000000005 : Int32)]) (rest := []) (st' := [.int q53.1]) ⟨hx, hb, hml, hown, hts⟩ (kX5_finds l G eq53) (cwV 1 hts gX5_let_X5_finds rfl rfl rfl qqX5_finds ⟨Nat.le_of_ble_eq_true rfl, Nat.le_of_ble_eq_true rfl⟩) hw (rvMd hw) rfl hl.1 rfl (Nat.le_of_ble_eq_true rfl) dX5_let_53 ⟨Nat.zero_le _, Nat.zero_le _⟩ rfl (fun H locs hw => ?_)
          exact rI hQ hx hb hr hlk hw dX5_let_56 (o_2a h) rfl (o_2b h)
    · replace h := o_t c27 h
      refine lv_aload_n hx hb dX5_let_30 rfl (lv_at hl 0 rfl) ?_
      refine lv_ldc (v := -1000000001) hx hb hown (hts (.constant RX5 38 (-1000000001)) (by decide +kernel)) dX5_let_31 ?_
      obtain ⟨q33, eq33, h⟩ := o_bd h
      refine kV (As := [.int (-1000000001 : Int32)]) (rest := []) (st' := [.int q33.1]) ⟨hx, hb, hml, hown, hts⟩ (kX5_finds l G eq33) (cwV 1 hts gX5_let_X5_finds rfl rfl rfl qqX5_finds ⟨Nat.le_of_ble_eq_true rfl, Nat.le_of_ble_eq_true rfl⟩) hw (rvMd hw) rfl hl.1 rfl (Nat.le_of_ble_eq_true rfl) dX5_let_33 ⟨Nat.zero_le _, Nat.zero_le _⟩ rfl (fun H locs hw => ?_)
      exact rI hQ hx hb hr hlk hw dX5_let_36 (o_2a h) rfl (o_2b h)
-- X5_comes
set_option maxRecDepth 100000 in
set_option maxHeartbeats 4000000 in
theorem kX5_comes (l : Launch) (G : sGl) {S : sWo} {M : sOb} {a1 : Int32} {a2 : Int32} {q : (Int32 × sOb)}  (h : fX5_comes M a1 a2 = some q) : sCt l G yX5_comes wsX5_comes rmX5_comes [.ref (sA G 9 0), .int a1, .int a2] S M (some (.int q.1)) S q.2 := by
  refine cMk (cc := cX5_comes) (maxL := 4) (ret := (some .int)) (by decide) rfl (Nat.le_of_ble_eq_true rfl) ?_
  intro p e s m args below meth c Q hQ hx hb hr hlk hml hown hts hw ls hl
  have hown : s.vm.findClass RX5 = some m.cls := hown
  have hl : lv_has ls 4 [(0, .ref (sA G 9 0)), (1, .int a1), (2, .int a2)] := hl
  have hiX5 : ∀ w ∈ u_ws RX5 TX5 15, w ∈ wsX5_comes := by decide +kernel
  unfold fX5_comes at h
  refine lv_aload_n hx hb dX5_comes_0 rfl (lv_at hl 0 rfl) ?_
  refine gMd (v := .ref (sA G 9 1)) hx hb hts hiX5 hown hw 0 (by decide) (hts (.fieldLink RX5 7 "SecondHomeModel" "s" "[I") (by decide +kernel)) rfl dX5_comes_1 ?_
  refine lv_iconst (v := 0) hx hb dX5_comes_4 (by decide) ?_
  refine ldMd hx hb hw 0 (by decide) (n := 77) rfl (by decide) dX5_comes_5 ?_
  refine lv_topi (fun v6 ev6 => ?_)
  replace h := o_nx ev6 h
  refine lv_istore_n (lv' := [(3, .int v6), (0, .ref (sA G 9 0)), (1, .int a1), (2, .int a2)]) hx hb dX5_comes_6 rfl hl (by decide) rfl (fun ls hl => ?_)
  refine lv_aload_n hx hb dX5_comes_7 rfl (lv_at hl 1 rfl) ?_
  refine gMd (v := .ref (sA G 9 1)) hx hb hts hiX5 hown hw 0 (by decide) (hts (.fieldLink RX5 7 "SecondHomeModel" "s" "[I") (by decide +kernel)) rfl dX5_comes_8 ?_
  refine lv_iconst (v := 0) hx hb dX5_comes_11 (by decide) ?_
  refine lv_dup2_11 hx hb dX5_comes_12 rfl rfl ?_
  refine ldMd hx hb hw 0 (by decide) (n := 77) rfl (by decide) dX5_comes_13 ?_
  refine lv_iconst (v := 1) hx hb dX5_comes_14 (by decide) ?_
  refine lv_iadd hx hb dX5_comes_15 ?_
  refine stMd hx hb hw 0 (by decide) (n := 77) rfl (by decide) dX5_comes_16 rfl (fun H locs hw => ?_)
  obtain ⟨M16, eM16, h⟩ := o_nm h
  rw [← eM16] at hw
  refine lv_aload_n hx hb dX5_comes_17 rfl (lv_at hl 1 rfl) ?_
  refine lv_iload_n hx hb dX5_comes_18 rfl (lv_at hl 0 rfl) ?_
  refine lv_iconst (v := 0) hx hb dX5_comes_19 (by decide) ?_
  refine lv_iload_n hx hb dX5_comes_20 rfl (lv_at hl 2 rfl) ?_
  obtain ⟨q21, eq21, h⟩ := o_bd h
  refine kV (As := [.int v6, .int (0 : Int32), .int a1]) (rest := []) (st' := []) ⟨hx, hb, hml, hown, hts⟩ (kX5_puts l G eq21) (cwV 3 hts gX5_comes_X5_puts rfl rfl rfl qqX5_puts ⟨Nat.le_of_ble_eq_true rfl, Nat.le_of_ble_eq_true rfl⟩) hw (rvMd hw) rfl hl.1 rfl (Nat.le_of_ble_eq_true rfl) dX5_comes_21 ⟨Nat.zero_le _, Nat.zero_le _⟩ rfl (fun H locs hw => ?_)
  refine lv_aload_n hx hb dX5_comes_24 rfl (lv_at hl 1 rfl) ?_
  refine lv_iload_n hx hb dX5_comes_25 rfl (lv_at hl 0 rfl) ?_
  refine lv_iconst (v := 1) hx hb dX5_comes_26 (by decide) ?_
  refine lv_iload_n hx hb dX5_comes_27 rfl (lv_at hl 3 rfl) ?_
  obtain ⟨q28, eq28, h⟩ := o_bd h
  refine kV (As := [.int v6, .int (1 : Int32), .int a2]) (rest := []) (st' := []) ⟨hx, hb, hml, hown, hts⟩ (kX5_puts l G eq28) (cwV 3 hts gX5_comes_X5_puts rfl rfl rfl qqX5_puts ⟨Nat.le_of_ble_eq_true rfl, Nat.le_of_ble_eq_true rfl⟩) hw (rvMd hw) rfl hl.1 rfl (Nat.le_of_ble_eq_true rfl) dX5_comes_28 ⟨Nat.zero_le _, Nat.zero_le _⟩ rfl (fun H locs hw => ?_)
  refine lv_aload_n hx hb dX5_comes_31 rfl (lv_at hl 1 rfl) ?_
  refine lv_iload_n hx hb dX5_comes_32 rfl (lv_at hl 0 rfl) ?_
  refine lv_iconst (v := 2) hx hb dX5_comes_33 (by decide) ?_
  refine lv_bipush (v := 100) hx hb dX5_comes_34 (by decide) ?_
  obtain ⟨q36, eq36, h⟩ := o_bd h
  refine kV (As := [.int v6, .int (2 : Int32), .int (100 : Int32)]) (rest := []) (st' := []) ⟨hx, hb, hml, hown, hts⟩ (kX5_puts l G eq36) (cwV 3 hts gX5_comes_X5_puts rfl rfl rfl qqX5_puts ⟨Nat.le_of_ble_eq_true rfl, Nat.le_of_ble_eq_true rfl⟩) hw (rvMd hw) rfl hl.1 rfl (Nat.le_of_ble_eq_true rfl) dX5_comes_36 ⟨Nat.zero_le _, Nat.zero_le _⟩ rfl (fun H locs hw => ?_)
  refine lv_aload_n hx hb dX5_comes_39 rfl (lv_at hl 1 rfl) ?_
  refine lv_iload_n hx hb dX5_comes_40 rfl (lv_at hl 0 rfl) ?_
  refine lv_iconst (v := 3) hx hb dX5_comes_41 (by decide) ?_
  refine lv_iconst (v := -1) hx hb dX5_comes_42 (by decide) ?_
  obtain ⟨q43, eq43, h⟩ := o_bd h
  refine kV (As := [.int v6, .int (3 : Int32), .int (-1 : Int32)]) (rest := []) (st' := []) ⟨hx, hb, hml, hown, hts⟩ (kX5_puts l G eq43) (cwV 3 hts gX5_comes_X5_puts rfl rfl rfl qqX5_puts ⟨Nat.le_of_ble_eq_true rfl, Nat.le_of_ble_eq_true rfl⟩) hw (rvMd hw) rfl hl.1 rfl (Nat.le_of_ble_eq_true rfl) dX5_comes_43 ⟨Nat.zero_le _, Nat.zero_le _⟩ rfl (fun H locs hw => ?_)
  refine lv_aload_n hx hb dX5_comes_46 rfl (lv_at hl 1 rfl) ?_
  refine lv_iload_n hx hb dX5_comes_47 rfl (lv_at hl 0 rfl) ?_
  refine lv_iconst (v := 4) hx hb dX5_comes_48 (by decide) ?_
  refine lv_iconst (v := 0) hx hb dX5_comes_49 (by decide) ?_
  obtain ⟨q50, eq50, h⟩ := o_bd h
  refine kV (As := [.int v6, .int (4 : Int32), .int (0 : Int32)]) (rest := []) (st' := []) ⟨hx, hb, hml, hown, hts⟩ (kX5_puts l G eq50) (cwV 3 hts gX5_comes_X5_puts rfl rfl rfl qqX5_puts ⟨Nat.le_of_ble_eq_true rfl, Nat.le_of_ble_eq_true rfl⟩) hw (rvMd hw) rfl hl.1 rfl (Nat.le_of_ble_eq_true rfl) dX5_comes_50 ⟨Nat.zero_le _, Nat.zero_le _⟩ rfl (fun H locs hw => ?_)
  refine lv_aload_n hx hb dX5_comes_53 rfl (lv_at hl 1 rfl) ?_
  refine lv_iload_n hx hb dX5_comes_54 rfl (lv_at hl 0 rfl) ?_
  refine lv_iconst (v := 5) hx hb dX5_comes_55 (by decide) ?_
  refine lv_iconst (v := 0) hx hb dX5_comes_56 (by decide) ?_
  obtain ⟨q57, eq57, h⟩ := o_bd h
  refine kV (As := [.int v6, .int (5 : Int32), .int (0 : Int32)]) (rest := []) (st' := []) ⟨hx, hb, hml, hown, hts⟩ (kX5_puts l G eq57) (cwV 3 hts gX5_comes_X5_puts rfl rfl rfl qqX5_puts ⟨Nat.le_of_ble_eq_true rfl, Nat.le_of_ble_eq_true rfl⟩) hw (rvMd hw) rfl hl.1 rfl (Nat.le_of_ble_eq_true rfl) dX5_comes_57 ⟨Nat.zero_le _, Nat.zero_le _⟩ rfl (fun H locs hw => ?_)
  refine lv_aload_n hx hb dX5_comes_60 rfl (lv_at hl 1 rfl) ?_
  refine lv_iload_n hx hb dX5_comes_61 rfl (lv_at hl 0 rfl) ?_
  refine lv_bipush (v := 6) hx hb dX5_comes_62 (by decide) ?_
  refine lv_iconst (v := 0) hx hb dX5_comes_64 (by decide) ?_
  obtain ⟨q65, eq65, h⟩ := o_bd h
  refine kV (As := [.int v6, .int (6 : Int32), .int (0 : Int32)]) (rest := []) (st' := []) ⟨hx, hb, hml, hown, hts⟩ (kX5_puts l G eq65) (cwV 3 hts gX5_comes_X5_puts rfl rfl rfl qqX5_puts ⟨Nat.le_of_ble_eq_true rfl, Nat.le_of_ble_eq_true rfl⟩) hw (rvMd hw) rfl hl.1 rfl (Nat.le_of_ble_eq_true rfl) dX5_comes_65 ⟨Nat.zero_le _, Nat.zero_le _⟩ rfl (fun H locs hw => ?_)
  refine lv_aload_n hx hb dX5_comes_68 rfl (lv_at hl 1 rfl) ?_
  refine lv_iload_n hx hb dX5_comes_69 rfl (lv_at hl 0 rfl) ?_
  refine lv_bipush (v := 7) hx hb dX5_comes_70 (by decide) ?_
  refine lv_iconst (v := -1) hx hb dX5_comes_72 (by decide) ?_
  obtain ⟨q73, eq73, h⟩ := o_bd h
  refine kV (As := [.int v6, .int (7 : Int32), .int (-1 : Int32)]) (rest := []) (st' := []) ⟨hx, hb, hml, hown, hts⟩ (kX5_puts l G eq73) (cwV 3 hts gX5_comes_X5_puts rfl rfl rfl qqX5_puts ⟨Nat.le_of_ble_eq_true rfl, Nat.le_of_ble_eq_true rfl⟩) hw (rvMd hw) rfl hl.1 rfl (Nat.le_of_ble_eq_true rfl) dX5_comes_73 ⟨Nat.zero_le _, Nat.zero_le _⟩ rfl (fun H locs hw => ?_)
  refine lv_iload_n hx hb dX5_comes_76 rfl (lv_at hl 0 rfl) ?_
  exact rI hQ hx hb hr hlk hw dX5_comes_77 (o_2a h) rfl (o_2b h)
-- X5_runner
set_option maxRecDepth 100000 in
set_option maxHeartbeats 4000000 in
theorem kX5_runner (l : Launch) (G : sGl) {S : sWo} {M : sOb} {a1 : Int32} {a2 : Int32} {a3 : Int32} {q : (Int32 × sOb)}  (h : fX5_runner M a1 a2 a3 = some q) : sCt l G yX5_runner wsX5_runner rmX5_runner [.ref (sA G 9 0), .int a1, .int a2, .int a3] S M (some (.int q.1)) S q.2 := by
  refine cMk (cc := cX5_runner) (maxL := 5) (ret := (some .int)) (by decide) rfl (Nat.le_of_ble_eq_true rfl) ?_
  intro p e s m args below meth c Q hQ hx hb hr hlk hml hown hts hw ls hl
  have hown : s.vm.findClass RX5 = some m.cls := hown
  have hl : lv_has ls 5 [(0, .ref (sA G 9 0)), (1, .int a1), (2, .int a2), (3, .int a3)] := hl
  have hiX5 : ∀ w ∈ u_ws RX5 TX5 15, w ∈ wsX5_runner := by decide +kernel
  unfold fX5_runner at h
  refine lv_iload_n hx hb dX5_runner_0 rfl (lv_at hl 1 rfl) ?_
  refine lv_i2l hx hb dX5_runner_1 rfl ?_
  refine lv_lconst (v := 0) hx hb dX5_runner_2 (by decide) ?_
  refine lv_ldc2 (v := 5) hx hb hown (hts (.constantLong RX5 68 (5)) (by decide +kernel)) dX5_runner_3 ?_
  obtain ⟨q6, eq6, h⟩ := o_bd h
  refine kS (As := [.long a1.toInt64, .long (0 : Int64), .long (5 : Int64)]) (rest := []) (st' := [.int q6]) ⟨hx, hb, hml, hown, hts⟩ (kX5_isIn l G eq6) (va_cwS 3 hts gX5_runner_X5_isIn rfl rfl rfl qqX5_isIn ⟨Nat.le_of_ble_eq_true rfl, Nat.le_of_ble_eq_true rfl⟩) hw rfl hl.1 rfl (Nat.le_of_ble_eq_true rfl) dX5_runner_6 ⟨Nat.zero_le _, Nat.zero_le _⟩ rfl (fun H locs hw => ?_)
  refine lv_if_eq (tgt := 36) hx hb dX5_runner_9 (by decide) (fun c9 => ?_) (fun c9 => ?_)
  · replace h := o_t c9 h
    refine lv_aload_n hx hb dX5_runner_36 rfl (lv_at hl 0 rfl) ?_
    refine lv_ldc (v := -1000000001) hx hb hown (hts (.constant RX5 38 (-1000000001)) (by decide +kernel)) dX5_runner_37 ?_
    obtain ⟨q39, eq39, h⟩ := o_bd h
    refine kV (As := [.int (-1000000001 : Int32)]) (rest := []) (st' := [.int q39.1]) ⟨hx, hb, hml, hown, hts⟩ (kX5_finds l G eq39) (cwV 1 hts gX5_runner_X5_finds rfl rfl rfl qqX5_finds ⟨Nat.le_of_ble_eq_true rfl, Nat.le_of_ble_eq_true rfl⟩) hw (rvMd hw) rfl hl.1 rfl (Nat.le_of_ble_eq_true rfl) dX5_runner_39 ⟨Nat.zero_le _, Nat.zero_le _⟩ rfl (fun H locs hw => ?_)
    exact rI hQ hx hb hr hlk hw dX5_runner_42 (o_2a h) rfl (o_2b h)
  · replace h := o_f c9 h
    refine lv_iload_n hx hb dX5_runner_12 rfl (lv_at hl 2 rfl) ?_
    refine lv_i2l hx hb dX5_runner_13 rfl ?_
    refine lv_lconst (v := 1) hx hb dX5_runner_14 (by decide) ?_
    refine lv_ldc2 (v := 12) hx hb hown (hts (.constantLong RX5 70 (12)) (by decide +kernel)) dX5_runner_15 ?_
    obtain ⟨q18, eq18, h⟩ := o_bd h
    refine kS (As := [.long a2.toInt64, .long (1 : Int64), .long (12 : Int64)]) (rest := []) (st' := [.int q18]) ⟨hx, hb, hml, hown, hts⟩ (kX5_isIn l G eq18) (va_cwS 3 hts gX5_runner_X5_isIn rfl rfl rfl qqX5_isIn ⟨Nat.le_of_ble_eq_true rfl, Nat.le_of_ble_eq_true rfl⟩) hw rfl hl.1 rfl (Nat.le_of_ble_eq_true rfl) dX5_runner_18 ⟨Nat.zero_le _, Nat.zero_le _⟩ rfl (fun H locs hw => ?_)
    refine lv_if_eq (tgt := 36) hx hb dX5_runner_21 (by decide) (fun c21 => ?_) (fun c21 => ?_)
    · replace h := o_t c21 h
      refine lv_aload_n hx hb dX5_runner_36 rfl (lv_at hl 0 rfl) ?_
      refine lv_ldc (v := -1000000001) hx hb hown (hts (.constant RX5 38 (-1000000001)) (by decide +kernel)) dX5_runner_37 ?_
      obtain ⟨q39, eq39, h⟩ := o_bd h
      refine kV (As := [.int (-1000000001 : Int32)]) (rest := []) (st' := [.int q39.1]) ⟨hx, hb, hml, hown, hts⟩ (kX5_finds l G eq39) (cwV 1 hts gX5_runner_X5_finds rfl rfl rfl qqX5_finds ⟨Nat.le_of_ble_eq_true rfl, Nat.le_of_ble_eq_true rfl⟩) hw (rvMd hw) rfl hl.1 rfl (Nat.le_of_ble_eq_true rfl) dX5_runner_39 ⟨Nat.zero_le _, Nat.zero_le _⟩ rfl (fun H locs hw => ?_)
      exact rI hQ hx hb hr hlk hw dX5_runner_42 (o_2a h) rfl (o_2b h)
    · replace h := o_f c21 h
      refine lv_iload_n hx hb dX5_runner_24 rfl (lv_at hl 3 rfl) ?_
      refine lv_i2l hx hb dX5_runner_25 rfl ?_
      refine lv_lconst (v := 0) hx hb dX5_runner_26 (by decide) ?_
      refine lv_ldc2 (v := 999) hx hb hown (hts (.constantLong RX5 72 (999)) (by decide +kernel)) dX5_runner_27 ?_
      obtain ⟨q30, eq30, h⟩ := o_bd h
      refine kS (As := [.long a3.toInt64, .long (0 : Int64), .long (999 : Int64)]) (rest := []) (st' := [.int q30]) ⟨hx, hb, hml, hown, hts⟩ (kX5_isIn l G eq30) (va_cwS 3 hts gX5_runner_X5_isIn rfl rfl rfl qqX5_isIn ⟨Nat.le_of_ble_eq_true rfl, Nat.le_of_ble_eq_true rfl⟩) hw rfl hl.1 rfl (Nat.le_of_ble_eq_true rfl) dX5_runner_30 ⟨Nat.zero_le _, Nat.zero_le _⟩ rfl (fun H locs hw => ?_)
      refine lv_if_ne (tgt := 43) hx hb dX5_runner_33 (by decide) (fun c33 => ?_) (fun c33 => ?_)
      · replace h := o_f c33 h
        refine lv_aload_n hx hb dX5_runner_43 rfl (lv_at hl 0 rfl) ?_
        refine gMd (v := .ref (sA G 9 1)) hx hb hts hiX5 hown hw 0 (by decide) (hts (.fieldLink RX5 7 "SecondHomeModel" "s" "[I") (by decide +kernel)) rfl dX5_runner_44 ?_
        refine lv_iconst (v := 0) hx hb dX5_runner_47 (by decide) ?_
        refine ldMd hx hb hw 0 (by decide) (n := 77) rfl (by decide) dX5_runner_48 ?_
        refine lv_bipush (v := 9) hx hb dX5_runner_49 (by decide) ?_
        refine lv_icmp_ne (tgt := 61) hx hb dX5_runner_51 (by decide) (fun c51 => ?_) (fun c51 => ?_)
        · replace h := o_f c51 h
          refine lv_aload_n hx hb dX5_runner_61 rfl (lv_at hl 0 rfl) ?_
          refine lv_iload_n hx hb dX5_runner_62 rfl (lv_at hl 1 rfl) ?_
          refine lv_iload_n hx hb dX5_runner_63 rfl (lv_at hl 2 rfl) ?_
          obtain ⟨q64, eq64, h⟩ := o_bd h
          refine kV (As := [.int a1, .int a2]) (rest := []) (st' := [.int q64.1]) ⟨hx, hb, hml, hown, hts⟩ (kX5_comes l G eq64) (cwV 2 hts gX5_runner_X5_comes rfl rfl rfl qqX5_comes ⟨Nat.le_of_ble_eq_true rfl, Nat.le_of_ble_eq_true rfl⟩) hw (rvMd hw) rfl hl.1 rfl (Nat.le_of_ble_eq_true rfl) dX5_runner_64 ⟨Nat.zero_le _, Nat.zero_le _⟩ rfl (fun H locs hw => ?_)
          refine lv_istore (lv' := [(4, .int q64.1), (0, .ref (sA G 9 0)), (1, .int a1), (2, .int a2), (3, .int a3)]) hx hb dX5_runner_67 hl (by decide) rfl (fun ls hl => ?_)
          refine lv_aload_n hx hb dX5_runner_69 rfl (lv_at hl 1 rfl) ?_
          refine lv_iload hx hb dX5_runner_70 (lv_at hl 0 rfl) ?_
          refine lv_iconst (v := 2) hx hb dX5_runner_72 (by decide) ?_
          refine lv_iload_n hx hb dX5_runner_73 rfl (lv_at hl 4 rfl) ?_
          obtain ⟨q74, eq74, h⟩ := o_bd h
          refine kV (As := [.int q64.1, .int (2 : Int32), .int a3]) (rest := []) (st' := []) ⟨hx, hb, hml, hown, hts⟩ (kX5_puts l G eq74) (cwV 3 hts gX5_runner_X5_puts rfl rfl rfl qqX5_puts ⟨Nat.le_of_ble_eq_true rfl, Nat.le_of_ble_eq_true rfl⟩) hw (rvMd hw) rfl hl.1 rfl (Nat.le_of_ble_eq_true rfl) dX5_runner_74 ⟨Nat.zero_le _, Nat.zero_le _⟩ rfl (fun H locs hw => ?_)
          refine lv_iload hx hb dX5_runner_77 (lv_at hl 0 rfl) ?_
          exact rI hQ hx hb hr hlk hw dX5_runner_79 (o_2a h) rfl (o_2b h)
        · replace h := o_t c51 h
          refine lv_aload_n hx hb dX5_runner_54 rfl (lv_at hl 0 rfl) ?_
          refine lv_ldc (v := -1000000002) hx hb hown (hts (.constant RX5 74 (-1000000002)) (by decide +kernel)) dX5_runner_55 ?_
          obtain ⟨q57, eq57, h⟩ := o_bd h
          refine kV (As := [.int (-1000000002 : Int32)]) (rest := []) (st' := [.int q57.1]) ⟨hx, hb, hml, hown, hts⟩ (kX5_finds l G eq57) (cwV 1 hts gX5_runner_X5_finds rfl rfl rfl qqX5_finds ⟨Nat.le_of_ble_eq_true rfl, Nat.le_of_ble_eq_true rfl⟩) hw (rvMd hw) rfl hl.1 rfl (Nat.le_of_ble_eq_true rfl) dX5_runner_57 ⟨Nat.zero_le _, Nat.zero_le _⟩ rfl (fun H locs hw => ?_)
          exact rI hQ hx hb hr hlk hw dX5_runner_60 (o_2a h) rfl (o_2b h)
      · replace h := o_t c33 h
        refine lv_aload_n hx hb dX5_runner_36 rfl (lv_at hl 0 rfl) ?_
        refine lv_ldc (v := -1000000001) hx hb hown (hts (.constant RX5 38 (-1000000001)) (by decide +kernel)) dX5_runner_37 ?_
        obtain ⟨q39, eq39, h⟩ := o_bd h
        refine kV (As := [.int (-1000000001 : Int32)]) (rest := []) (st' := [.int q39.1]) ⟨hx, hb, hml, hown, hts⟩ (kX5_finds l G eq39) (cwV 1 hts gX5_runner_X5_finds rfl rfl rfl qqX5_finds ⟨Nat.le_of_ble_eq_true rfl, Nat.le_of_ble_eq_true rfl⟩) hw (rvMd hw) rfl hl.1 rfl (Nat.le_of_ble_eq_true rfl) dX5_runner_39 ⟨Nat.zero_le _, Nat.zero_le _⟩ rfl (fun H locs hw => ?_)
        exact rI hQ hx hb hr hlk hw dX5_runner_42 (o_2a h) rfl (o_2b h)
-- X5_isAhead
set_option maxRecDepth 100000 in
set_option maxHeartbeats 4000000 in
theorem kX5_isAhead (l : Launch) (G : sGl) {S : sWo} {M : sOb} {a1 : Int32} {a2 : Int32} {q : Int32}  (h : fX5_isAhead M a1 a2 = some q) : sCt l G yX5_isAhead wsX5_isAhead rmX5_isAhead [.ref (sA G 9 0), .int a1, .int a2] S M (some (.int q)) S M := by
  refine cMk (cc := cX5_isAhead) (maxL := 3) (ret := (some .boolean)) (by decide) rfl (Nat.le_of_ble_eq_true rfl) ?_
  intro p e s m args below meth c Q hQ hx hb hr hlk hml hown hts hw ls hl
  have hown : s.vm.findClass RX5 = some m.cls := hown
  have hl : lv_has ls 3 [(0, .ref (sA G 9 0)), (1, .int a1), (2, .int a2)] := hl
  unfold fX5_isAhead at h
  refine lv_aload_n hx hb dX5_isAhead_0 rfl (lv_at hl 0 rfl) ?_
  refine lv_iload_n hx hb dX5_isAhead_1 rfl (lv_at hl 1 rfl) ?_
  obtain ⟨q2, eq2, h⟩ := o_bd h
  refine kV (As := [.int a1]) (rest := []) (st' := [.int q2]) ⟨hx, hb, hml, hown, hts⟩ (kX5_isHome l G eq2) (cwV 1 hts gX5_isAhead_X5_isHome rfl rfl rfl qqX5_isHome ⟨Nat.le_of_ble_eq_true rfl, Nat.le_of_ble_eq_true rfl⟩) hw (rvMd hw) rfl hl.1 rfl (Nat.le_of_ble_eq_true rfl) dX5_isAhead_2 ⟨Nat.zero_le _, Nat.zero_le _⟩ rfl (fun H locs hw => ?_)
  refine lv_aload_n hx hb dX5_isAhead_5 rfl (lv_at hl 0 rfl) ?_
  refine lv_iload_n hx hb dX5_isAhead_6 rfl (lv_at hl 2 rfl) ?_
  obtain ⟨q7, eq7, h⟩ := o_bd h
  refine kV (As := [.int a2]) (rest := [.int q2]) (st' := [.int q7, .int q2]) ⟨hx, hb, hml, hown, hts⟩ (kX5_isHome l G eq7) (cwV 1 hts gX5_isAhead_X5_isHome rfl rfl rfl qqX5_isHome ⟨Nat.le_of_ble_eq_true rfl, Nat.le_of_ble_eq_true rfl⟩) hw (rvMd hw) rfl hl.1 rfl (Nat.le_of_ble_eq_true rfl) dX5_isAhead_7 ⟨Nat.zero_le _, Nat.zero_le _⟩ rfl (fun H locs hw => ?_)
  refine lv_icmp_eq (tgt := 19) hx hb dX5_isAhead_10 (by decide) (fun c10 => ?_) (fun c10 => ?_)
  · replace h := o_t c10 h
    refine lv_aload_n hx hb dX5_isAhead_19 rfl (lv_at hl 0 rfl) ?_
    refine lv_iload_n hx hb dX5_isAhead_20 rfl (lv_at hl 1 rfl) ?_
    refine lv_bipush (v := 7) hx hb dX5_isAhead_21 (by decide) ?_
    obtain ⟨q23, eq23, h⟩ := o_bd h
    refine kV (As := [.int a1, .int (7 : Int32)]) (rest := []) (st' := [.int q23]) ⟨hx, hb, hml, hown, hts⟩ (kX5_is l G eq23) (cwV 2 hts gX5_isAhead_X5_is rfl rfl rfl qqX5_is ⟨Nat.le_of_ble_eq_true rfl, Nat.le_of_ble_eq_true rfl⟩) hw (rvMd hw) rfl hl.1 rfl (Nat.le_of_ble_eq_true rfl) dX5_isAhead_23 ⟨Nat.zero_le _, Nat.zero_le _⟩ rfl (fun H locs hw => ?_)
    refine lv_aload_n hx hb dX5_isAhead_26 rfl (lv_at hl 0 rfl) ?_
    refine lv_iload_n hx hb dX5_isAhead_27 rfl (lv_at hl 2 rfl) ?_
    refine lv_bipush (v := 7) hx hb dX5_isAhead_28 (by decide) ?_
    obtain ⟨q30, eq30, h⟩ := o_bd h
    refine kV (As := [.int a2, .int (7 : Int32)]) (rest := [.int q23]) (st' := [.int q30, .int q23]) ⟨hx, hb, hml, hown, hts⟩ (kX5_is l G eq30) (cwV 2 hts gX5_isAhead_X5_is rfl rfl rfl qqX5_is ⟨Nat.le_of_ble_eq_true rfl, Nat.le_of_ble_eq_true rfl⟩) hw (rvMd hw) rfl hl.1 rfl (Nat.le_of_ble_eq_true rfl) dX5_isAhead_30 ⟨Nat.zero_le _, Nat.zero_le _⟩ rfl (fun H locs hw => ?_)
    refine lv_icmp_eq (tgt := 59) hx hb dX5_isAhead_33 (by decide) (fun c33 => ?_) (fun c33 => ?_)
    · replace h := o_t c33 h
      refine lv_aload_n hx hb dX5_isAhead_59 rfl (lv_at hl 0 rfl) ?_
      refine lv_iload_n hx hb dX5_isAhead_60 rfl (lv_at hl 1 rfl) ?_
      refine lv_iconst (v := 5) hx hb dX5_isAhead_61 (by decide) ?_
      obtain ⟨q62, eq62, h⟩ := o_bd h
      refine kV (As := [.int a1, .int (5 : Int32)]) (rest := []) (st' := [.int q62]) ⟨hx, hb, hml, hown, hts⟩ (kX5_is l G eq62) (cwV 2 hts gX5_isAhead_X5_is rfl rfl rfl qqX5_is ⟨Nat.le_of_ble_eq_true rfl, Nat.le_of_ble_eq_true rfl⟩) hw (rvMd hw) rfl hl.1 rfl (Nat.le_of_ble_eq_true rfl) dX5_isAhead_62 ⟨Nat.zero_le _, Nat.zero_le _⟩ rfl (fun H locs hw => ?_)
      refine lv_aload_n hx hb dX5_isAhead_65 rfl (lv_at hl 0 rfl) ?_
      refine lv_iload_n hx hb dX5_isAhead_66 rfl (lv_at hl 2 rfl) ?_
      refine lv_iconst (v := 5) hx hb dX5_isAhead_67 (by decide) ?_
      obtain ⟨q68, eq68, h⟩ := o_bd h
      refine kV (As := [.int a2, .int (5 : Int32)]) (rest := [.int q62]) (st' := [.int q68, .int q62]) ⟨hx, hb, hml, hown, hts⟩ (kX5_is l G eq68) (cwV 2 hts gX5_isAhead_X5_is rfl rfl rfl qqX5_is ⟨Nat.le_of_ble_eq_true rfl, Nat.le_of_ble_eq_true rfl⟩) hw (rvMd hw) rfl hl.1 rfl (Nat.le_of_ble_eq_true rfl) dX5_isAhead_68 ⟨Nat.zero_le _, Nat.zero_le _⟩ rfl (fun H locs hw => ?_)
      refine lv_icmp_eq (tgt := 97) hx hb dX5_isAhead_71 (by decide) (fun c71 => ?_) (fun c71 => ?_)
      · replace h := o_t c71 h
        refine lv_iload_n hx hb dX5_isAhead_97 rfl (lv_at hl 1 rfl) ?_
        refine lv_iload_n hx hb dX5_isAhead_98 rfl (lv_at hl 2 rfl) ?_
        refine lv_icmp_ge (tgt := 106) hx hb dX5_isAhead_99 (by decide) (fun c99 => ?_) (fun c99 => ?_)
        · replace h := o_t c99 h
          refine lv_iconst (v := 0) hx hb dX5_isAhead_106 (by decide) ?_
          exact rZ hQ hx hb hr hlk hw (Or.inl rfl) dX5_isAhead_107 (o_1 h) rfl rfl
        · replace h := o_f c99 h
          refine lv_iconst (v := 1) hx hb dX5_isAhead_102 (by decide) ?_
          refine lv_goto (tgt := 107) hx hb dX5_isAhead_103 (by decide) ?_
          exact rZ hQ hx hb hr hlk hw (Or.inr rfl) dX5_isAhead_107 (o_1 h) rfl rfl
      · replace h := o_f c71 h
        refine lv_aload_n hx hb dX5_isAhead_74 rfl (lv_at hl 0 rfl) ?_
        refine lv_iload_n hx hb dX5_isAhead_75 rfl (lv_at hl 1 rfl) ?_
        refine lv_iconst (v := 5) hx hb dX5_isAhead_76 (by decide) ?_
        obtain ⟨q77, eq77, h⟩ := o_bd h
        refine kV (As := [.int a1, .int (5 : Int32)]) (rest := []) (st' := [.int q77]) ⟨hx, hb, hml, hown, hts⟩ (kX5_is l G eq77) (cwV 2 hts gX5_isAhead_X5_is rfl rfl rfl qqX5_is ⟨Nat.le_of_ble_eq_true rfl, Nat.le_of_ble_eq_true rfl⟩) hw (rvMd hw) rfl hl.1 rfl (Nat.le_of_ble_eq_true rfl) dX5_isAhead_77 ⟨Nat.zero_le _, Nat.zero_le _⟩ rfl (fun H locs hw => ?_)
        refine lv_aload_n hx hb dX5_isAhead_80 rfl (lv_at hl 0 rfl) ?_
        refine lv_iload_n hx hb dX5_isAhead_81 rfl (lv_at hl 2 rfl) ?_
        refine lv_iconst (v := 5) hx hb dX5_isAhead_82 (by decide) ?_
        obtain ⟨q83, eq83, h⟩ := o_bd h
        refine kV (As := [.int a2, .int (5 : Int32)]) (rest := [.int q77]) (st' := [.int q83, .int q77]) ⟨hx, hb, hml, hown, hts⟩ (kX5_is l G eq83) (cwV 2 hts gX5_isAhead_X5_is rfl rfl rfl qqX5_is ⟨Nat.le_of_ble_eq_true rfl, Nat.le_of_ble_eq_true rfl⟩) hw (rvMd hw) rfl hl.1 rfl (Nat.le_of_ble_eq_true rfl) dX5_isAhead_83 ⟨Nat.zero_le _, Nat.zero_le _⟩ rfl (fun H locs hw => ?_)
        refine lv_icmp_le (tgt := 93) hx hb dX5_isAhead_86 (by decide) (fun c86 => ?_) (fun c86 => ?_)
        · replace h := o_t c86 h
          refine lv_iconst (v := 0) hx hb dX5_isAhead_93 (by decide) ?_
          refine lv_goto (tgt := 107) hx hb dX5_isAhead_94 (by decide) ?_
          exact rZ hQ hx hb hr hlk hw (Or.inl rfl) dX5_isAhead_107 (o_1 h) rfl rfl
        · replace h := o_f c86 h
          refine lv_iconst (v := 1) hx hb dX5_isAhead_89 (by decide) ?_
          refine lv_goto (tgt := 107) hx hb dX5_isAhead_90 (by decide) ?_
          exact rZ hQ hx hb hr hlk hw (Or.inr rfl) dX5_isAhead_107 (o_1 h) rfl rfl
    · replace h := o_f c33 h
      refine lv_aload_n hx hb dX5_isAhead_36 rfl (lv_at hl 0 rfl) ?_
      refine lv_iload_n hx hb dX5_isAhead_37 rfl (lv_at hl 1 rfl) ?_
      refine lv_bipush (v := 7) hx hb dX5_isAhead_38 (by decide) ?_
      obtain ⟨q40, eq40, h⟩ := o_bd h
      refine kV (As := [.int a1, .int (7 : Int32)]) (rest := []) (st' := [.int q40]) ⟨hx, hb, hml, hown, hts⟩ (kX5_is l G eq40) (cwV 2 hts gX5_isAhead_X5_is rfl rfl rfl qqX5_is ⟨Nat.le_of_ble_eq_true rfl, Nat.le_of_ble_eq_true rfl⟩) hw (rvMd hw) rfl hl.1 rfl (Nat.le_of_ble_eq_true rfl) dX5_isAhead_40 ⟨Nat.zero_le _, Nat.zero_le _⟩ rfl (fun H locs hw => ?_)
      refine lv_aload_n hx hb dX5_isAhead_43 rfl (lv_at hl 0 rfl) ?_
      refine lv_iload_n hx hb dX5_isAhead_44 rfl (lv_at hl 2 rfl) ?_
      refine lv_bipush (v := 7) hx hb dX5_isAhead_45 (by decide) ?_
      obtain ⟨q47, eq47, h⟩ := o_bd h
      refine kV (As := [.int a2, .int (7 : Int32)]) (rest := [.int q40]) (st' := [.int q47, .int q40]) ⟨hx, hb, hml, hown, hts⟩ (kX5_is l G eq47) (cwV 2 hts gX5_isAhead_X5_is rfl rfl rfl qqX5_is ⟨Nat.le_of_ble_eq_true rfl, Nat.le_of_ble_eq_true rfl⟩) hw (rvMd hw) rfl hl.1 rfl (Nat.le_of_ble_eq_true rfl) dX5_isAhead_47 ⟨Nat.zero_le _, Nat.zero_le _⟩ rfl (fun H locs hw => ?_)
      refine lv_icmp_ge (tgt := 57) hx hb dX5_isAhead_50 (by decide) (fun c50 => ?_) (fun c50 => ?_)
      · replace h := o_t c50 h
        refine lv_iconst (v := 0) hx hb dX5_isAhead_57 (by decide) ?_
        exact rZ hQ hx hb hr hlk hw (Or.inl rfl) dX5_isAhead_58 (o_1 h) rfl rfl
      · replace h := o_f c50 h
        refine lv_iconst (v := 1) hx hb dX5_isAhead_53 (by decide) ?_
        refine lv_goto (tgt := 58) hx hb dX5_isAhead_54 (by decide) ?_
        exact rZ hQ hx hb hr hlk hw (Or.inr rfl) dX5_isAhead_58 (o_1 h) rfl rfl
  · replace h := o_f c10 h
    refine lv_aload_n hx hb dX5_isAhead_13 rfl (lv_at hl 0 rfl) ?_
    refine lv_iload_n hx hb dX5_isAhead_14 rfl (lv_at hl 1 rfl) ?_
    obtain ⟨q15, eq15, h⟩ := o_bd h
    refine kV (As := [.int a1]) (rest := []) (st' := [.int q15]) ⟨hx, hb, hml, hown, hts⟩ (kX5_isHome l G eq15) (cwV 1 hts gX5_isAhead_X5_isHome rfl rfl rfl qqX5_isHome ⟨Nat.le_of_ble_eq_true rfl, Nat.le_of_ble_eq_true rfl⟩) hw (rvMd hw) rfl hl.1 rfl (Nat.le_of_ble_eq_true rfl) dX5_isAhead_15 ⟨Nat.zero_le _, Nat.zero_le _⟩ rfl (fun H locs hw => ?_)
    obtain ⟨b18, h⟩ := o_in h
    exact rZ hQ hx hb hr hlk hw (Decidable.not_not.mp b18) dX5_isAhead_18 (o_1 h) rfl rfl
-- X5_placeOf
set_option maxRecDepth 100000 in
set_option maxHeartbeats 4000000 in
theorem kX5_placeOf (l : Launch) (G : sGl) {S : sWo} {M : sOb} {a1 : Int32} {q : Int32}  (h : fX5_placeOf M a1 = some q) : sCt l G yX5_placeOf wsX5_placeOf rmX5_placeOf [.ref (sA G 9 0), .int a1] S M (some (.int q)) S M := by
  refine cMk (cc := cX5_placeOf) (maxL := 4) (ret := (some .int)) (by decide) rfl (Nat.le_of_ble_eq_true rfl) ?_
  intro p e s m args below meth c Q hQ hx hb hr hlk hml hown hts hw ls hl
  have hown : s.vm.findClass RX5 = some m.cls := hown
  have hl : lv_has ls 4 [(0, .ref (sA G 9 0)), (1, .int a1)] := hl
  have hiX5 : ∀ w ∈ u_ws RX5 TX5 15, w ∈ wsX5_placeOf := by decide +kernel
  unfold fX5_placeOf at h
  refine lv_iconst (v := 0) hx hb dX5_placeOf_0 (by decide) ?_
  refine lv_istore_n (lv' := [(2, .int (0 : Int32)), (0, .ref (sA G 9 0)), (1, .int a1)]) hx hb dX5_placeOf_1 rfl hl (by decide) rfl (fun ls hl => ?_)
  refine lv_iconst (v := 0) hx hb dX5_placeOf_2 (by decide) ?_
  refine lv_istore_n (lv' := [(3, .int (0 : Int32)), (2, .int (0 : Int32)), (0, .ref (sA G 9 0)), (1, .int a1)]) hx hb dX5_placeOf_3 rfl hl (by decide) rfl (fun ls hl => ?_)
  refine fx2_w (F := (bX5_placeOf_4 M a1)) (P := fun x2_4 x3_4 => ∀ (H : Heap) (locs : List Loc) (ls : Array Slot), sHw G s S M H locs → lv_has ls 4 [(0, .ref (sA G 9 0)), (1, .int a1), (2, .int x2_4), (3, .int x3_4)] → W p l e rmX5_placeOf s m args below meth c H locs 0 0 Q (F0 m 4 ls [])) ?_ _ _ _ h _ _ _ hw (lv_sub hl [2, 3, 1, 0] rfl)
  intro rc4 IH4 x2_4 x3_4 h H locs ls hw hl
  unfold bX5_placeOf_4 at h
  refine lv_iload_n hx hb dX5_placeOf_4 rfl (lv_at hl 3 rfl) ?_
  refine lv_aload_n hx hb dX5_placeOf_5 rfl (lv_at hl 0 rfl) ?_
  refine gMd (v := .ref (sA G 9 1)) hx hb hts hiX5 hown hw 0 (by decide) (hts (.fieldLink RX5 7 "SecondHomeModel" "s" "[I") (by decide +kernel)) rfl dX5_placeOf_6 ?_
  refine lv_iconst (v := 0) hx hb dX5_placeOf_9 (by decide) ?_
  refine ldMd hx hb hw 0 (by decide) (n := 77) rfl (by decide) dX5_placeOf_10 ?_
  refine lv_icmp_ge (tgt := 42) hx hb dX5_placeOf_11 (by decide) (fun c11 => ?_) (fun c11 => ?_)
  · replace h := o_t c11 h
    refine lv_iload_n hx hb dX5_placeOf_42 rfl (lv_at hl 2 rfl) ?_
    exact rI hQ hx hb hr hlk hw dX5_placeOf_43 (o_1 h) rfl rfl
  · replace h := o_f c11 h
    refine lv_iload_n hx hb dX5_placeOf_14 rfl (lv_at hl 2 rfl) ?_
    refine lv_iload_n hx hb dX5_placeOf_15 rfl (lv_at hl 3 rfl) ?_
    refine lv_iload_n hx hb dX5_placeOf_16 rfl (lv_at hl 1 rfl) ?_
    refine lv_icmp_eq (tgt := 33) hx hb dX5_placeOf_17 (by decide) (fun c17 => ?_) (fun c17 => ?_)
    · replace h := o_t c17 h
      refine lv_iconst (v := 0) hx hb dX5_placeOf_33 (by decide) ?_
      refine lv_iadd hx hb dX5_placeOf_34 ?_
      refine lv_topi (fun v35 ev35 => ?_)
      replace h := o_nx ev35 h
      refine lv_istore_n (lv' := [(2, .int v35), (0, .ref (sA G 9 0)), (1, .int a1), (3, .int x3_4)]) hx hb dX5_placeOf_35 rfl hl (by decide) rfl (fun ls hl => ?_)
      obtain ⟨v36, ev36, h⟩ := o_nm h
      refine lv_iinc (v := v36) (lv' := [(3, .int v36), (2, .int v35), (0, .ref (sA G 9 0)), (1, .int a1)]) hx hb dX5_placeOf_36 hl (k := 3) rfl (by rw [ev36]; rfl) (by decide) rfl (fun ls hl => ?_)
      refine lv_goto (tgt := 4) hx hb dX5_placeOf_39 (by decide) ?_
      exact IH4 v35 v36 h _ _ _ hw (lv_sub hl [2, 3, 1, 0] rfl)
    · replace h := o_f c17 h
      refine lv_aload_n hx hb dX5_placeOf_20 rfl (lv_at hl 0 rfl) ?_
      refine lv_iload_n hx hb dX5_placeOf_21 rfl (lv_at hl 3 rfl) ?_
      refine lv_iload_n hx hb dX5_placeOf_22 rfl (lv_at hl 1 rfl) ?_
      obtain ⟨q23, eq23, h⟩ := o_bd h
      refine kV (As := [.int x3_4, .int a1]) (rest := [.int x2_4]) (st' := [.int q23, .int x2_4]) ⟨hx, hb, hml, hown, hts⟩ (kX5_isAhead l G eq23) (cwV 2 hts gX5_placeOf_X5_isAhead rfl rfl rfl qqX5_isAhead ⟨Nat.le_of_ble_eq_true rfl, Nat.le_of_ble_eq_true rfl⟩) hw (rvMd hw) rfl hl.1 rfl (Nat.le_of_ble_eq_true rfl) dX5_placeOf_23 ⟨Nat.zero_le _, Nat.zero_le _⟩ rfl (fun H locs hw => ?_)
      refine lv_if_eq (tgt := 33) hx hb dX5_placeOf_26 (by decide) (fun c26 => ?_) (fun c26 => ?_)
      · replace h := o_t c26 h
        refine lv_iconst (v := 0) hx hb dX5_placeOf_33 (by decide) ?_
        refine lv_iadd hx hb dX5_placeOf_34 ?_
        refine lv_topi (fun v35 ev35 => ?_)
        replace h := o_nx ev35 h
        refine lv_istore_n (lv' := [(2, .int v35), (0, .ref (sA G 9 0)), (1, .int a1), (3, .int x3_4)]) hx hb dX5_placeOf_35 rfl hl (by decide) rfl (fun ls hl => ?_)
        obtain ⟨v36, ev36, h⟩ := o_nm h
        refine lv_iinc (v := v36) (lv' := [(3, .int v36), (2, .int v35), (0, .ref (sA G 9 0)), (1, .int a1)]) hx hb dX5_placeOf_36 hl (k := 3) rfl (by rw [ev36]; rfl) (by decide) rfl (fun ls hl => ?_)
        refine lv_goto (tgt := 4) hx hb dX5_placeOf_39 (by decide) ?_
        exact IH4 v35 v36 h _ _ _ hw (lv_sub hl [2, 3, 1, 0] rfl)
      · replace h := o_f c26 h
        refine lv_iconst (v := 1) hx hb dX5_placeOf_29 (by decide) ?_
        refine lv_goto (tgt := 34) hx hb dX5_placeOf_30 (by decide) ?_
        refine lv_iadd hx hb dX5_placeOf_34 ?_
        refine lv_topi (fun v35 ev35 => ?_)
        replace h := o_nx ev35 h
        refine lv_istore_n (lv' := [(2, .int v35), (0, .ref (sA G 9 0)), (1, .int a1), (3, .int x3_4)]) hx hb dX5_placeOf_35 rfl hl (by decide) rfl (fun ls hl => ?_)
        obtain ⟨v36, ev36, h⟩ := o_nm h
        refine lv_iinc (v := v36) (lv' := [(3, .int v36), (2, .int v35), (0, .ref (sA G 9 0)), (1, .int a1)]) hx hb dX5_placeOf_36 hl (k := 3) rfl (by rw [ev36]; rfl) (by decide) rfl (fun ls hl => ?_)
        refine lv_goto (tgt := 4) hx hb dX5_placeOf_39 (by decide) ?_
        exact IH4 v35 v36 h _ _ _ hw (lv_sub hl [2, 3, 1, 0] rfl)
-- X5_of
set_option maxRecDepth 100000 in
set_option maxHeartbeats 4000000 in
theorem kX5_of (l : Launch) (G : sGl) {S : sWo} {M : sOb} {a1 : Int32} {a2 : Int32} {q : (Int32 × sOb)}  (h : fX5_of M a1 a2 = some q) : sCt l G yX5_of wsX5_of rmX5_of [.ref (sA G 9 0), .int a1, .int a2] S M (some (.int q.1)) S q.2 := by
  refine cMk (cc := cX5_of) (maxL := 3) (ret := (some .int)) (by decide) rfl (Nat.le_of_ble_eq_true rfl) ?_
  intro p e s m args below meth c Q hQ hx hb hr hlk hml hown hts hw ls hl
  have hown : s.vm.findClass RX5 = some m.cls := hown
  have hl : lv_has ls 3 [(0, .ref (sA G 9 0)), (1, .int a1), (2, .int a2)] := hl
  unfold fX5_of at h
  refine lv_aload_n hx hb dX5_of_0 rfl (lv_at hl 0 rfl) ?_
  refine lv_iload_n hx hb dX5_of_1 rfl (lv_at hl 1 rfl) ?_
  obtain ⟨q2, eq2, h⟩ := o_bd h
  refine kV (As := [.int a1]) (rest := []) (st' := [.int q2]) ⟨hx, hb, hml, hown, hts⟩ (kX5_isRunner l G eq2) (cwV 1 hts gX5_of_X5_isRunner rfl rfl rfl qqX5_isRunner ⟨Nat.le_of_ble_eq_true rfl, Nat.le_of_ble_eq_true rfl⟩) hw (rvMd hw) rfl hl.1 rfl (Nat.le_of_ble_eq_true rfl) dX5_of_2 ⟨Nat.zero_le _, Nat.zero_le _⟩ rfl (fun H locs hw => ?_)
  refine lv_if_eq (tgt := 20) hx hb dX5_of_5 (by decide) (fun c5 => ?_) (fun c5 => ?_)
  · replace h := o_t c5 h
    refine lv_aload_n hx hb dX5_of_20 rfl (lv_at hl 0 rfl) ?_
    refine lv_ldc (v := -1000000001) hx hb hown (hts (.constant RX5 38 (-1000000001)) (by decide +kernel)) dX5_of_21 ?_
    obtain ⟨q23, eq23, h⟩ := o_bd h
    refine kV (As := [.int (-1000000001 : Int32)]) (rest := []) (st' := [.int q23.1]) ⟨hx, hb, hml, hown, hts⟩ (kX5_finds l G eq23) (cwV 1 hts gX5_of_X5_finds rfl rfl rfl qqX5_finds ⟨Nat.le_of_ble_eq_true rfl, Nat.le_of_ble_eq_true rfl⟩) hw (rvMd hw) rfl hl.1 rfl (Nat.le_of_ble_eq_true rfl) dX5_of_23 ⟨Nat.zero_le _, Nat.zero_le _⟩ rfl (fun H locs hw => ?_)
    exact rI hQ hx hb hr hlk hw dX5_of_26 (o_2a h) rfl (o_2b h)
  · replace h := o_f c5 h
    refine lv_iload_n hx hb dX5_of_8 rfl (lv_at hl 2 rfl) ?_
    refine lv_i2l hx hb dX5_of_9 rfl ?_
    refine lv_lconst (v := 0) hx hb dX5_of_10 (by decide) ?_
    refine lv_ldc2 (v := 8) hx hb hown (hts (.constantLong RX5 89 (8)) (by decide +kernel)) dX5_of_11 ?_
    obtain ⟨q14, eq14, h⟩ := o_bd h
    refine kS (As := [.long a2.toInt64, .long (0 : Int64), .long (8 : Int64)]) (rest := []) (st' := [.int q14]) ⟨hx, hb, hml, hown, hts⟩ (kX5_isIn l G eq14) (va_cwS 3 hts gX5_of_X5_isIn rfl rfl rfl qqX5_isIn ⟨Nat.le_of_ble_eq_true rfl, Nat.le_of_ble_eq_true rfl⟩) hw rfl hl.1 rfl (Nat.le_of_ble_eq_true rfl) dX5_of_14 ⟨Nat.zero_le _, Nat.zero_le _⟩ rfl (fun H locs hw => ?_)
    refine lv_if_ne (tgt := 27) hx hb dX5_of_17 (by decide) (fun c17 => ?_) (fun c17 => ?_)
    · replace h := o_f c17 h
      refine lv_iload_n hx hb dX5_of_27 rfl (lv_at hl 2 rfl) ?_
      refine lv_bipush (v := 8) hx hb dX5_of_28 (by decide) ?_
      refine lv_icmp_ge (tgt := 42) hx hb dX5_of_30 (by decide) (fun c30 => ?_) (fun c30 => ?_)
      · replace h := o_t c30 h
        refine lv_aload_n hx hb dX5_of_42 rfl (lv_at hl 0 rfl) ?_
        refine lv_iload_n hx hb dX5_of_43 rfl (lv_at hl 1 rfl) ?_
        obtain ⟨q44, eq44, h⟩ := o_bd h
        refine kV (As := [.int a1]) (rest := []) (st' := [.int q44]) ⟨hx, hb, hml, hown, hts⟩ (kX5_placeOf l G eq44) (cwV 1 hts gX5_of_X5_placeOf rfl rfl rfl qqX5_placeOf ⟨Nat.le_of_ble_eq_true rfl, Nat.le_of_ble_eq_true rfl⟩) hw (rvMd hw) rfl hl.1 rfl (Nat.le_of_ble_eq_true rfl) dX5_of_44 ⟨Nat.zero_le _, Nat.zero_le _⟩ rfl (fun H locs hw => ?_)
        exact rI hQ hx hb hr hlk hw dX5_of_47 (o_2a h) rfl (o_2b h)
      · replace h := o_f c30 h
        refine lv_aload_n hx hb dX5_of_33 rfl (lv_at hl 0 rfl) ?_
        refine lv_iload_n hx hb dX5_of_34 rfl (lv_at hl 1 rfl) ?_
        refine lv_iload_n hx hb dX5_of_35 rfl (lv_at hl 2 rfl) ?_
        obtain ⟨q36, eq36, h⟩ := o_bd h
        refine kV (As := [.int a1, .int a2]) (rest := []) (st' := [.int q36]) ⟨hx, hb, hml, hown, hts⟩ (kX5_is l G eq36) (cwV 2 hts gX5_of_X5_is rfl rfl rfl qqX5_is ⟨Nat.le_of_ble_eq_true rfl, Nat.le_of_ble_eq_true rfl⟩) hw (rvMd hw) rfl hl.1 rfl (Nat.le_of_ble_eq_true rfl) dX5_of_36 ⟨Nat.zero_le _, Nat.zero_le _⟩ rfl (fun H locs hw => ?_)
        refine lv_goto (tgt := 47) hx hb dX5_of_39 (by decide) ?_
        exact rI hQ hx hb hr hlk hw dX5_of_47 (o_2a h) rfl (o_2b h)
    · replace h := o_t c17 h
      refine lv_aload_n hx hb dX5_of_20 rfl (lv_at hl 0 rfl) ?_
      refine lv_ldc (v := -1000000001) hx hb hown (hts (.constant RX5 38 (-1000000001)) (by decide +kernel)) dX5_of_21 ?_
      obtain ⟨q23, eq23, h⟩ := o_bd h
      refine kV (As := [.int (-1000000001 : Int32)]) (rest := []) (st' := [.int q23.1]) ⟨hx, hb, hml, hown, hts⟩ (kX5_finds l G eq23) (cwV 1 hts gX5_of_X5_finds rfl rfl rfl qqX5_finds ⟨Nat.le_of_ble_eq_true rfl, Nat.le_of_ble_eq_true rfl⟩) hw (rvMd hw) rfl hl.1 rfl (Nat.le_of_ble_eq_true rfl) dX5_of_23 ⟨Nat.zero_le _, Nat.zero_le _⟩ rfl (fun H locs hw => ?_)
      exact rI hQ hx hb hr hlk hw dX5_of_26 (o_2a h) rfl (o_2b h)
-- X5_mayBe
set_option maxRecDepth 100000 in
set_option maxHeartbeats 4000000 in
theorem kX5_mayBe (l : Launch) (G : sGl) {S : sWo} {M : sOb} {a1 : Int32} {a2 : Int32} {a3 : Int32} {q : Int32}  (h : fX5_mayBe M a1 a2 a3 = some q) : sCt l G yX5_mayBe wsX5_mayBe rmX5_mayBe [.ref (sA G 9 0), .int a1, .int a2, .int a3] S M (some (.int q)) S M := by
  refine cMk (cc := cX5_mayBe) (maxL := 4) (ret := (some .boolean)) (by decide) rfl (Nat.le_of_ble_eq_true rfl) ?_
  intro p e s m args below meth c Q hQ hx hb hr hlk hml hown hts hw ls hl
  have hown : s.vm.findClass RX5 = some m.cls := hown
  have hl : lv_has ls 4 [(0, .ref (sA G 9 0)), (1, .int a1), (2, .int a2), (3, .int a3)] := hl
  have hiX5 : ∀ w ∈ u_ws RX5 TX5 15, w ∈ wsX5_mayBe := by decide +kernel
  unfold fX5_mayBe at h
  refine lv_iload_n hx hb dX5_mayBe_0 rfl (lv_at hl 2 rfl) ?_
  by_cases c1_1 : a2 = (1 : Int32)
  · replace h := o_t c1_1 h
    refine lv_tableIn (tgt := 32) hx hb dX5_mayBe_1 (by rw [c1_1]; decide) (by rw [c1_1]; decide) (by rw [c1_1]; rfl) (by decide) ?_
    refine lv_iload_n hx hb dX5_mayBe_32 rfl (lv_at hl 3 rfl) ?_
    refine lv_i2l hx hb dX5_mayBe_33 rfl ?_
    refine lv_lconst (v := 1) hx hb dX5_mayBe_34 (by decide) ?_
    refine lv_ldc2 (v := 12) hx hb hown (hts (.constantLong RX5 70 (12)) (by decide +kernel)) dX5_mayBe_35 ?_
    obtain ⟨q38, eq38, h⟩ := o_bd h
    refine kS (As := [.long a3.toInt64, .long (1 : Int64), .long (12 : Int64)]) (rest := []) (st' := [.int q38]) ⟨hx, hb, hml, hown, hts⟩ (kX5_isIn l G eq38) (va_cwS 3 hts gX5_mayBe_X5_isIn rfl rfl rfl qqX5_isIn ⟨Nat.le_of_ble_eq_true rfl, Nat.le_of_ble_eq_true rfl⟩) hw rfl hl.1 rfl (Nat.le_of_ble_eq_true rfl) dX5_mayBe_38 ⟨Nat.zero_le _, Nat.zero_le _⟩ rfl (fun H locs hw => ?_)
    obtain ⟨b41, h⟩ := o_in h
    exact rZ hQ hx hb hr hlk hw (Decidable.not_not.mp b41) dX5_mayBe_41 (o_1 h) rfl rfl
  replace h := o_f c1_1 h
  by_cases c1_2 : a2 = (2 : Int32)
  · replace h := o_t c1_2 h
    refine lv_tableIn (tgt := 42) hx hb dX5_mayBe_1 (by rw [c1_2]; decide) (by rw [c1_2]; decide) (by rw [c1_2]; rfl) (by decide) ?_
    refine lv_iload_n hx hb dX5_mayBe_42 rfl (lv_at hl 3 rfl) ?_
    refine lv_i2l hx hb dX5_mayBe_43 rfl ?_
    refine lv_lconst (v := 0) hx hb dX5_mayBe_44 (by decide) ?_
    refine lv_ldc2 (v := 999) hx hb hown (hts (.constantLong RX5 72 (999)) (by decide +kernel)) dX5_mayBe_45 ?_
    obtain ⟨q48, eq48, h⟩ := o_bd h
    refine kS (As := [.long a3.toInt64, .long (0 : Int64), .long (999 : Int64)]) (rest := []) (st' := [.int q48]) ⟨hx, hb, hml, hown, hts⟩ (kX5_isIn l G eq48) (va_cwS 3 hts gX5_mayBe_X5_isIn rfl rfl rfl qqX5_isIn ⟨Nat.le_of_ble_eq_true rfl, Nat.le_of_ble_eq_true rfl⟩) hw rfl hl.1 rfl (Nat.le_of_ble_eq_true rfl) dX5_mayBe_48 ⟨Nat.zero_le _, Nat.zero_le _⟩ rfl (fun H locs hw => ?_)
    obtain ⟨b51, h⟩ := o_in h
    exact rZ hQ hx hb hr hlk hw (Decidable.not_not.mp b51) dX5_mayBe_51 (o_1 h) rfl rfl
  replace h := o_f c1_2 h
  by_cases c1_3 : a2 = (3 : Int32)
  · replace h := o_t c1_3 h
    refine lv_tableIn (tgt := 52) hx hb dX5_mayBe_1 (by rw [c1_3]; decide) (by rw [c1_3]; decide) (by rw [c1_3]; rfl) (by decide) ?_
    refine lv_iload_n hx hb dX5_mayBe_52 rfl (lv_at hl 3 rfl) ?_
    refine lv_iconst (v := -1) hx hb dX5_mayBe_53 (by decide) ?_
    refine lv_icmp_eq (tgt := 70) hx hb dX5_mayBe_54 (by decide) (fun c54 => ?_) (fun c54 => ?_)
    · replace h := o_t c54 h
      refine lv_iconst (v := 1) hx hb dX5_mayBe_70 (by decide) ?_
      refine lv_goto (tgt := 75) hx hb dX5_mayBe_71 (by decide) ?_
      exact rZ hQ hx hb hr hlk hw (Or.inr rfl) dX5_mayBe_75 (o_1 h) rfl rfl
    · replace h := o_f c54 h
      refine lv_aload_n hx hb dX5_mayBe_57 rfl (lv_at hl 0 rfl) ?_
      refine lv_iload_n hx hb dX5_mayBe_58 rfl (lv_at hl 3 rfl) ?_
      obtain ⟨q59, eq59, h⟩ := o_bd h
      refine kV (As := [.int a3]) (rest := []) (st' := [.int q59]) ⟨hx, hb, hml, hown, hts⟩ (kX5_isRunner l G eq59) (cwV 1 hts gX5_mayBe_X5_isRunner rfl rfl rfl qqX5_isRunner ⟨Nat.le_of_ble_eq_true rfl, Nat.le_of_ble_eq_true rfl⟩) hw (rvMd hw) rfl hl.1 rfl (Nat.le_of_ble_eq_true rfl) dX5_mayBe_59 ⟨Nat.zero_le _, Nat.zero_le _⟩ rfl (fun H locs hw => ?_)
      refine lv_if_eq (tgt := 74) hx hb dX5_mayBe_62 (by decide) (fun c62 => ?_) (fun c62 => ?_)
      · replace h := o_t c62 h
        refine lv_iconst (v := 0) hx hb dX5_mayBe_74 (by decide) ?_
        exact rZ hQ hx hb hr hlk hw (Or.inl rfl) dX5_mayBe_75 (o_1 h) rfl rfl
      · replace h := o_f c62 h
        refine lv_iload_n hx hb dX5_mayBe_65 rfl (lv_at hl 3 rfl) ?_
        refine lv_iload_n hx hb dX5_mayBe_66 rfl (lv_at hl 1 rfl) ?_
        refine lv_icmp_eq (tgt := 74) hx hb dX5_mayBe_67 (by decide) (fun c67 => ?_) (fun c67 => ?_)
        · replace h := o_t c67 h
          refine lv_iconst (v := 0) hx hb dX5_mayBe_74 (by decide) ?_
          exact rZ hQ hx hb hr hlk hw (Or.inl rfl) dX5_mayBe_75 (o_1 h) rfl rfl
        · replace h := o_f c67 h
          refine lv_iconst (v := 1) hx hb dX5_mayBe_70 (by decide) ?_
          refine lv_goto (tgt := 75) hx hb dX5_mayBe_71 (by decide) ?_
          exact rZ hQ hx hb hr hlk hw (Or.inr rfl) dX5_mayBe_75 (o_1 h) rfl rfl
  replace h := o_f c1_3 h
  by_cases c1_4 : a2 = (4 : Int32)
  · replace h := o_t c1_4 h
    refine lv_tableIn (tgt := 76) hx hb dX5_mayBe_1 (by rw [c1_4]; decide) (by rw [c1_4]; decide) (by rw [c1_4]; rfl) (by decide) ?_
    refine lv_iload_n hx hb dX5_mayBe_76 rfl (lv_at hl 3 rfl) ?_
    refine lv_i2l hx hb dX5_mayBe_77 rfl ?_
    refine lv_lconst (v := 0) hx hb dX5_mayBe_78 (by decide) ?_
    refine lv_aload_n hx hb dX5_mayBe_79 rfl (lv_at hl 0 rfl) ?_
    refine gMd (v := .ref (sA G 9 1)) hx hb hts hiX5 hown hw 0 (by decide) (hts (.fieldLink RX5 7 "SecondHomeModel" "s" "[I") (by decide +kernel)) rfl dX5_mayBe_80 ?_
    refine lv_iconst (v := 1) hx hb dX5_mayBe_83 (by decide) ?_
    refine ldMd hx hb hw 0 (by decide) (n := 77) rfl (by decide) dX5_mayBe_84 ?_
    refine lv_iconst (v := 1) hx hb dX5_mayBe_85 (by decide) ?_
    refine lv_isub hx hb dX5_mayBe_86 ?_
    refine lv_i2l hx hb dX5_mayBe_87 rfl ?_
    obtain ⟨q88, eq88, h⟩ := o_bd h
    refine kS (As := [.long a3.toInt64, .long (0 : Int64), .long (((M.2.1 0 (1 : Int32).toNatClampNeg) - (1 : Int32)).toInt64)]) (rest := []) (st' := [.int q88]) ⟨hx, hb, hml, hown, hts⟩ (kX5_isIn l G eq88) (va_cwS 3 hts gX5_mayBe_X5_isIn rfl rfl rfl qqX5_isIn ⟨Nat.le_of_ble_eq_true rfl, Nat.le_of_ble_eq_true rfl⟩) hw rfl hl.1 rfl (Nat.le_of_ble_eq_true rfl) dX5_mayBe_88 ⟨Nat.zero_le _, Nat.zero_le _⟩ rfl (fun H locs hw => ?_)
    obtain ⟨b91, h⟩ := o_in h
    exact rZ hQ hx hb hr hlk hw (Decidable.not_not.mp b91) dX5_mayBe_91 (o_1 h) rfl rfl
  replace h := o_f c1_4 h
  have sw1 : a2.toInt < 1 ∨ 4 < a2.toInt := by
    have z1 := sw_ne c1_1
    have z2 := sw_ne c1_2
    have z3 := sw_ne c1_3
    have z4 := sw_ne c1_4
    rw [show ((1 : Int32)).toInt = 1 from rfl] at z1
    rw [show ((2 : Int32)).toInt = 2 from rfl] at z2
    rw [show ((3 : Int32)).toInt = 3 from rfl] at z3
    rw [show ((4 : Int32)).toInt = 4 from rfl] at z4
    omega
  refine lv_tableOut (tgt := 92) hx hb dX5_mayBe_1 sw1 (by decide) ?_
  refine lv_iconst (v := 0) hx hb dX5_mayBe_92 (by decide) ?_
  exact rZ hQ hx hb hr hlk hw (Or.inl rfl) dX5_mayBe_93 (o_1 h) rfl rfl
-- X5_set
set_option maxRecDepth 100000 in
set_option maxHeartbeats 4000000 in
theorem kX5_set (l : Launch) (G : sGl) {S : sWo} {M : sOb} {a1 : Int32} {a2 : Int32} {a3 : Int32} {q : (Int32 × sOb)}  (h : fX5_set M a1 a2 a3 = some q) : sCt l G yX5_set wsX5_set rmX5_set [.ref (sA G 9 0), .int a1, .int a2, .int a3] S M (some (.int q.1)) S q.2 := by
  refine cMk (cc := cX5_set) (maxL := 4) (ret := (some .int)) (by decide) rfl (Nat.le_of_ble_eq_true rfl) ?_
  intro p e s m args below meth c Q hQ hx hb hr hlk hml hown hts hw ls hl
  have hown : s.vm.findClass RX5 = some m.cls := hown
  have hl : lv_has ls 4 [(0, .ref (sA G 9 0)), (1, .int a1), (2, .int a2), (3, .int a3)] := hl
  unfold fX5_set at h
  refine lv_aload_n hx hb dX5_set_0 rfl (lv_at hl 0 rfl) ?_
  refine lv_iload_n hx hb dX5_set_1 rfl (lv_at hl 1 rfl) ?_
  obtain ⟨q2, eq2, h⟩ := o_bd h
  refine kV (As := [.int a1]) (rest := []) (st' := [.int q2]) ⟨hx, hb, hml, hown, hts⟩ (kX5_isRunner l G eq2) (cwV 1 hts gX5_set_X5_isRunner rfl rfl rfl qqX5_isRunner ⟨Nat.le_of_ble_eq_true rfl, Nat.le_of_ble_eq_true rfl⟩) hw (rvMd hw) rfl hl.1 rfl (Nat.le_of_ble_eq_true rfl) dX5_set_2 ⟨Nat.zero_le _, Nat.zero_le _⟩ rfl (fun H locs hw => ?_)
  refine lv_if_eq (tgt := 34) hx hb dX5_set_5 (by decide) (fun c5 => ?_) (fun c5 => ?_)
  · replace h := o_t c5 h
    refine lv_aload_n hx hb dX5_set_34 rfl (lv_at hl 0 rfl) ?_
    refine lv_ldc (v := -1000000001) hx hb hown (hts (.constant RX5 38 (-1000000001)) (by decide +kernel)) dX5_set_35 ?_
    obtain ⟨q37, eq37, h⟩ := o_bd h
    refine kV (As := [.int (-1000000001 : Int32)]) (rest := []) (st' := [.int q37.1]) ⟨hx, hb, hml, hown, hts⟩ (kX5_finds l G eq37) (cwV 1 hts gX5_set_X5_finds rfl rfl rfl qqX5_finds ⟨Nat.le_of_ble_eq_true rfl, Nat.le_of_ble_eq_true rfl⟩) hw (rvMd hw) rfl hl.1 rfl (Nat.le_of_ble_eq_true rfl) dX5_set_37 ⟨Nat.zero_le _, Nat.zero_le _⟩ rfl (fun H locs hw => ?_)
    exact rI hQ hx hb hr hlk hw dX5_set_40 (o_2a h) rfl (o_2b h)
  · replace h := o_f c5 h
    refine lv_aload_n hx hb dX5_set_8 rfl (lv_at hl 0 rfl) ?_
    refine lv_iload_n hx hb dX5_set_9 rfl (lv_at hl 1 rfl) ?_
    refine lv_iload_n hx hb dX5_set_10 rfl (lv_at hl 2 rfl) ?_
    refine lv_iload_n hx hb dX5_set_11 rfl (lv_at hl 3 rfl) ?_
    obtain ⟨q12, eq12, h⟩ := o_bd h
    refine kV (As := [.int a1, .int a2, .int a3]) (rest := []) (st' := [.int q12]) ⟨hx, hb, hml, hown, hts⟩ (kX5_mayBe l G eq12) (cwV 3 hts gX5_set_X5_mayBe rfl rfl rfl qqX5_mayBe ⟨Nat.le_of_ble_eq_true rfl, Nat.le_of_ble_eq_true rfl⟩) hw (rvMd hw) rfl hl.1 rfl (Nat.le_of_ble_eq_true rfl) dX5_set_12 ⟨Nat.zero_le _, Nat.zero_le _⟩ rfl (fun H locs hw => ?_)
    refine lv_if_eq (tgt := 34) hx hb dX5_set_15 (by decide) (fun c15 => ?_) (fun c15 => ?_)
    · replace h := o_t c15 h
      refine lv_aload_n hx hb dX5_set_34 rfl (lv_at hl 0 rfl) ?_
      refine lv_ldc (v := -1000000001) hx hb hown (hts (.constant RX5 38 (-1000000001)) (by decide +kernel)) dX5_set_35 ?_
      obtain ⟨q37, eq37, h⟩ := o_bd h
      refine kV (As := [.int (-1000000001 : Int32)]) (rest := []) (st' := [.int q37.1]) ⟨hx, hb, hml, hown, hts⟩ (kX5_finds l G eq37) (cwV 1 hts gX5_set_X5_finds rfl rfl rfl qqX5_finds ⟨Nat.le_of_ble_eq_true rfl, Nat.le_of_ble_eq_true rfl⟩) hw (rvMd hw) rfl hl.1 rfl (Nat.le_of_ble_eq_true rfl) dX5_set_37 ⟨Nat.zero_le _, Nat.zero_le _⟩ rfl (fun H locs hw => ?_)
      exact rI hQ hx hb hr hlk hw dX5_set_40 (o_2a h) rfl (o_2b h)
    · replace h := o_f c15 h
      refine lv_aload_n hx hb dX5_set_18 rfl (lv_at hl 0 rfl) ?_
      refine lv_iconst (v := 5) hx hb dX5_set_19 (by decide) ?_
      refine lv_bipush (v := 8) hx hb dX5_set_20 (by decide) ?_
      refine lv_iload_n hx hb dX5_set_22 rfl (lv_at hl 1 rfl) ?_
      refine lv_imul hx hb dX5_set_23 ?_
      refine lv_iadd hx hb dX5_set_24 ?_
      refine lv_iload_n hx hb dX5_set_25 rfl (lv_at hl 2 rfl) ?_
      refine lv_iadd hx hb dX5_set_26 ?_
      refine lv_iload_n hx hb dX5_set_27 rfl (lv_at hl 3 rfl) ?_
      obtain ⟨q28, eq28, h⟩ := o_bd h
      refine kV (As := [.int (((5 : Int32) + ((8 : Int32) * a1)) + a2), .int a3]) (rest := []) (st' := [.int q28.1]) ⟨hx, hb, hml, hown, hts⟩ (kX5_becomes l G eq28) (cwV 2 hts gX5_set_X5_becomes rfl rfl rfl qqX5_becomes ⟨Nat.le_of_ble_eq_true rfl, Nat.le_of_ble_eq_true rfl⟩) hw (rvMd hw) rfl hl.1 rfl (Nat.le_of_ble_eq_true rfl) dX5_set_28 ⟨Nat.zero_le _, Nat.zero_le _⟩ rfl (fun H locs hw => ?_)
      refine lv_goto (tgt := 40) hx hb dX5_set_31 (by decide) ?_
      exact rI hQ hx hb hr hlk hw dX5_set_40 (o_2a h) rfl (o_2b h)
