-- X4_deal
set_option maxRecDepth 100000 in
set_option maxHeartbeats 4000000 in
theorem kX4_deal (l : Launch) (G : sGl) {S : sWo} {M : sOb}  {q : (Int32 × sWo)}  (h : fX4_deal S = some q) : sCt l G yX4_deal wsX4_deal rmX4_deal [.ref (sA G 0 0)] S M (some (.int q.1)) q.2 M := by
  refine cMk (cc := cX4_deal) (maxL := 6) (ret := (some .int)) (by decide) rfl (Nat.le_of_ble_eq_true rfl) ?_
  intro p e s m args below meth c Q hQ hx hb hr hlk hml hown hts hw ls hl
  have hown : s.vm.findClass RX4 = some m.cls := hown
  have hl : lv_has ls 6 [(0, .ref (sA G 0 0))] := hl
  have hiX3 : ∀ w ∈ u_ws RX3 TX3 15, w ∈ wsX4_deal := by decide +kernel
  have hiX4 : ∀ w ∈ u_ws RX4 TX4 7, w ∈ wsX4_deal := by decide +kernel
  unfold fX4_deal at h
  refine lv_aload_n hx hb dX4_deal_0 rfl (lv_at hl 0 rfl) ?_
  obtain ⟨q1, eq1, h⟩ := o_bd h
  refine kV (As := []) (rest := []) (st' := [.ref (sA G 2 0)]) ⟨hx, hb, hml, hown, hts⟩ (kX4_tryOut l G eq1) (cwV 0 hts gX4_deal_X4_tryOut rfl rfl rfl qqX4_tryOut ⟨Nat.le_of_ble_eq_true rfl, Nat.le_of_ble_eq_true rfl⟩) hw (rvOw hw) rfl hl.1 rfl (Nat.le_of_ble_eq_true rfl) dX4_deal_1 ⟨Nat.zero_le _, Nat.zero_le _⟩ rfl (fun H locs hw => ?_)
  obtain ⟨q4, eq4, h⟩ := o_bd h
  refine kV (As := []) (rest := []) (st' := [.int q4.1]) ⟨hx, hb, hml, hown, hts⟩ (kX3_raceOwner l G (Or.inr (Or.inl rfl)) rfl eq4) (cwV 0 hts gX4_deal_X3_raceOwner rfl rfl rfl qqX3_raceOwner ⟨Nat.le_of_ble_eq_true rfl, Nat.le_of_ble_eq_true rfl⟩) hw (rvTk hw (Or.inr (Or.inl rfl))) rfl hl.1 rfl (Nat.le_of_ble_eq_true rfl) dX4_deal_4 ⟨Nat.zero_le _, Nat.zero_le _⟩ rfl (fun H locs hw => ?_)
  obtain ⟨S4, eS4, h⟩ := o_nm h
  rw [← eS4] at hw
  refine lv_istore_n (lv' := [(1, .int q4.1), (0, .ref (sA G 0 0))]) hx hb dX4_deal_7 rfl hl (by decide) rfl (fun ls hl => ?_)
  refine lv_iload_n hx hb dX4_deal_8 rfl (lv_at hl 0 rfl) ?_
  refine lv_iconst (v := -1) hx hb dX4_deal_9 (by decide) ?_
  refine lv_icmp_ne (tgt := 20) hx hb dX4_deal_10 (by decide) (fun c10 => ?_) (fun c10 => ?_)
  · replace h := o_f c10 h
    refine lv_iconst (v := 0) hx hb dX4_deal_20 (by decide) ?_
    refine lv_istore_n (lv' := [(2, .int (0 : Int32)), (1, .int q4.1), (0, .ref (sA G 0 0))]) hx hb dX4_deal_21 rfl hl (by decide) rfl (fun ls hl => ?_)
    refine fx2_w (F := (bX4_deal_22 q4)) (P := fun x2_22 S_22 => ∀ (H : Heap) (locs : List Loc) (ls : Array Slot), sHw G s S_22 M H locs → lv_has ls 6 [(0, .ref (sA G 0 0)), (1, .int q4.1), (2, .int x2_22)] → W p l e rmX4_deal s m args below meth c H locs 0 0 Q (F0 m 22 ls [])) ?_ _ _ _ h _ _ _ hw (lv_sub hl [2, 1, 0] rfl)
    intro rc22 IH22 x2_22 S_22 h H locs ls hw hl
    unfold bX4_deal_22 at h
    refine lv_iload_n hx hb dX4_deal_22 rfl (lv_at hl 2 rfl) ?_
    refine lv_aload_n hx hb dX4_deal_23 rfl (lv_at hl 0 rfl) ?_
    refine gOw (v := .ref (sA G 1 0)) hx hb hts hiX4 hown hw 0 (by decide) (hts (.fieldLink RX4 10 "SecondHome" "track" "LSecondHome$Track;") (by decide +kernel)) rfl dX4_deal_24 ?_
    refine gTk (v := .int ((S_22 1).1 4)) hx hb hts hiX3 hown hw (Or.inl rfl) rfl 4 (by decide) (hts (.fieldLink RX4 64 "SecondHome$Track" "count" "I") (by decide +kernel)) rfl dX4_deal_27 ?_
    refine lv_icmp_ge (tgt := 99) hx hb dX4_deal_30 (by decide) (fun c30 => ?_) (fun c30 => ?_)
    · replace h := o_t c30 h
      refine lv_aload_n hx hb dX4_deal_99 rfl (lv_at hl 0 rfl) ?_
      refine lv_ldc (v := -1000000004) hx hb hown (hts (.constant RX4 178 (-1000000004)) (by decide +kernel)) dX4_deal_100 ?_
      obtain ⟨q102, eq102, h⟩ := o_bd h
      refine kV (As := [.int (-1000000004 : Int32)]) (rest := []) (st' := [.int q102.1]) ⟨hx, hb, hml, hown, hts⟩ (kX4_found l G eq102) (cwV 1 hts gX4_deal_X4_found rfl rfl rfl qqX4_found ⟨Nat.le_of_ble_eq_true rfl, Nat.le_of_ble_eq_true rfl⟩) hw (rvOw hw) rfl hl.1 rfl (Nat.le_of_ble_eq_true rfl) dX4_deal_102 ⟨Nat.zero_le _, Nat.zero_le _⟩ rfl (fun H locs hw => ?_)
      exact rI hQ hx hb hr hlk hw dX4_deal_105 (o_2a h) (o_2b h) rfl
    · replace h := o_f c30 h
      refine lv_iload_n hx hb dX4_deal_33 rfl (lv_at hl 2 rfl) ?_
      refine lv_iconst (v := 1) hx hb dX4_deal_34 (by decide) ?_
      refine lv_iadd hx hb dX4_deal_35 ?_
      refine lv_topi (fun v36 ev36 => ?_)
      replace h := o_nx ev36 h
      refine lv_istore_n (lv' := [(3, .int v36), (0, .ref (sA G 0 0)), (1, .int q4.1), (2, .int x2_22)]) hx hb dX4_deal_36 rfl hl (by decide) rfl (fun ls hl => ?_)
      refine fx2_w (F := (bX4_deal_37 q4 rc22 x2_22)) (P := fun x3_37 S_37 => ∀ (H : Heap) (locs : List Loc) (ls : Array Slot), sHw G s S_37 M H locs → lv_has ls 6 [(0, .ref (sA G 0 0)), (1, .int q4.1), (2, .int x2_22), (3, .int x3_37)] → W p l e rmX4_deal s m args below meth c H locs 0 0 Q (F0 m 37 ls [])) ?_ _ _ _ h _ _ _ hw (lv_sub hl [1, 2, 3, 0] rfl)
      intro rc37 IH37 x3_37 S_37 h H locs ls hw hl
      unfold bX4_deal_37 at h
      refine lv_iload_n hx hb dX4_deal_37 rfl (lv_at hl 3 rfl) ?_
      refine lv_aload_n hx hb dX4_deal_38 rfl (lv_at hl 0 rfl) ?_
      refine gOw (v := .ref (sA G 1 0)) hx hb hts hiX4 hown hw 0 (by decide) (hts (.fieldLink RX4 10 "SecondHome" "track" "LSecondHome$Track;") (by decide +kernel)) rfl dX4_deal_39 ?_
      refine gTk (v := .int ((S_37 1).1 4)) hx hb hts hiX3 hown hw (Or.inl rfl) rfl 4 (by decide) (hts (.fieldLink RX4 64 "SecondHome$Track" "count" "I") (by decide +kernel)) rfl dX4_deal_42 ?_
      refine lv_icmp_ge (tgt := 93) hx hb dX4_deal_45 (by decide) (fun c45 => ?_) (fun c45 => ?_)
      · replace h := o_t c45 h
        obtain ⟨v93, ev93, h⟩ := o_nm h
        refine lv_iinc (v := v93) (lv' := [(2, .int v93), (0, .ref (sA G 0 0)), (1, .int q4.1), (3, .int x3_37)]) hx hb dX4_deal_93 hl (k := 2) rfl (by rw [ev93]; rfl) (by decide) rfl (fun ls hl => ?_)
        refine lv_goto (tgt := 22) hx hb dX4_deal_96 (by decide) ?_
        exact IH22 v93 S_37 h _ _ _ hw (lv_sub hl [1, 2, 0] rfl)
      · replace h := o_f c45 h
        refine lv_aload_n hx hb dX4_deal_48 rfl (lv_at hl 0 rfl) ?_
        obtain ⟨q49, eq49, h⟩ := o_bd h
        refine kV (As := []) (rest := []) (st' := [.ref (sA G 2 0)]) ⟨hx, hb, hml, hown, hts⟩ (kX4_tryOut l G eq49) (cwV 0 hts gX4_deal_X4_tryOut rfl rfl rfl qqX4_tryOut ⟨Nat.le_of_ble_eq_true rfl, Nat.le_of_ble_eq_true rfl⟩) hw (rvOw hw) rfl hl.1 rfl (Nat.le_of_ble_eq_true rfl) dX4_deal_49 ⟨Nat.zero_le _, Nat.zero_le _⟩ rfl (fun H locs hw => ?_)
        refine lv_astore (lv' := [(4, .ref (sA G 2 0)), (0, .ref (sA G 0 0)), (1, .int q4.1), (2, .int x2_22), (3, .int x3_37)]) hx hb dX4_deal_52 hl (by decide) rfl (fun ls hl => ?_)
        refine lv_aload hx hb dX4_deal_54 (lv_at hl 0 rfl) ?_
        refine lv_iload_n hx hb dX4_deal_56 rfl (lv_at hl 3 rfl) ?_
        refine lv_iload_n hx hb dX4_deal_57 rfl (lv_at hl 4 rfl) ?_
        obtain ⟨q58, eq58, h⟩ := o_bd h
        refine kV (As := [.int x2_22, .int x3_37]) (rest := []) (st' := []) ⟨hx, hb, hml, hown, hts⟩ (kX3_changePaces l G (Or.inr (Or.inl rfl)) rfl eq58) (cwV 2 hts gX4_deal_X3_changePaces rfl rfl rfl qqX3_changePaces ⟨Nat.le_of_ble_eq_true rfl, Nat.le_of_ble_eq_true rfl⟩) hw (rvTk hw (Or.inr (Or.inl rfl))) rfl hl.1 rfl (Nat.le_of_ble_eq_true rfl) dX4_deal_58 ⟨Nat.zero_le _, Nat.zero_le _⟩ rfl (fun H locs hw => ?_)
        obtain ⟨S58, eS58, h⟩ := o_nm h
        rw [← eS58] at hw
        refine lv_aload hx hb dX4_deal_61 (lv_at hl 0 rfl) ?_
        obtain ⟨q63, eq63, h⟩ := o_bd h
        refine kV (As := []) (rest := []) (st' := [.int q63.1]) ⟨hx, hb, hml, hown, hts⟩ (kX3_raceOwner l G (Or.inr (Or.inl rfl)) rfl eq63) (cwV 0 hts gX4_deal_X3_raceOwner rfl rfl rfl qqX3_raceOwner ⟨Nat.le_of_ble_eq_true rfl, Nat.le_of_ble_eq_true rfl⟩) hw (rvTk hw (Or.inr (Or.inl rfl))) rfl hl.1 rfl (Nat.le_of_ble_eq_true rfl) dX4_deal_63 ⟨Nat.zero_le _, Nat.zero_le _⟩ rfl (fun H locs hw => ?_)
        obtain ⟨S63, eS63, h⟩ := o_nm h
        rw [← eS63] at hw
        refine lv_istore (lv' := [(5, .int q63.1), (4, .ref (sA G 2 0)), (0, .ref (sA G 0 0)), (1, .int q4.1), (2, .int x2_22), (3, .int x3_37)]) hx hb dX4_deal_66 hl (by decide) rfl (fun ls hl => ?_)
        refine lv_iload hx hb dX4_deal_68 (lv_at hl 0 rfl) ?_
        refine lv_iconst (v := -1) hx hb dX4_deal_70 (by decide) ?_
        refine lv_icmp_eq (tgt := 87) hx hb dX4_deal_71 (by decide) (fun c71 => ?_) (fun c71 => ?_)
        · replace h := o_t c71 h
          obtain ⟨v87, ev87, h⟩ := o_nm h
          refine lv_iinc (v := v87) (lv' := [(3, .int v87), (5, .int q63.1), (4, .ref (sA G 2 0)), (0, .ref (sA G 0 0)), (1, .int q4.1), (2, .int x2_22)]) hx hb dX4_deal_87 hl (k := 5) rfl (by rw [ev87]; rfl) (by decide) rfl (fun ls hl => ?_)
          refine lv_goto (tgt := 37) hx hb dX4_deal_90 (by decide) ?_
          exact IH37 v87 S63 h _ _ _ hw (lv_sub hl [3, 4, 5, 0] rfl)
        · replace h := o_f c71 h
          refine lv_iload hx hb dX4_deal_74 (lv_at hl 0 rfl) ?_
          refine lv_iload_n hx hb dX4_deal_76 rfl (lv_at hl 3 rfl) ?_
          refine lv_icmp_eq (tgt := 87) hx hb dX4_deal_77 (by decide) (fun c77 => ?_) (fun c77 => ?_)
          · replace h := o_t c77 h
            obtain ⟨v87, ev87, h⟩ := o_nm h
            refine lv_iinc (v := v87) (lv' := [(3, .int v87), (5, .int q63.1), (4, .ref (sA G 2 0)), (0, .ref (sA G 0 0)), (1, .int q4.1), (2, .int x2_22)]) hx hb dX4_deal_87 hl (k := 5) rfl (by rw [ev87]; rfl) (by decide) rfl (fun ls hl => ?_)
            refine lv_goto (tgt := 37) hx hb dX4_deal_90 (by decide) ?_
            exact IH37 v87 S63 h _ _ _ hw (lv_sub hl [3, 4, 5, 0] rfl)
          · replace h := o_f c77 h
            refine lv_bipush (v := 10) hx hb dX4_deal_80 (by decide) ?_
            refine lv_iload_n hx hb dX4_deal_82 rfl (lv_at hl 4 rfl) ?_
            refine lv_imul hx hb dX4_deal_83 ?_
            refine lv_iload_n hx hb dX4_deal_84 rfl (lv_at hl 5 rfl) ?_
            refine lv_iadd hx hb dX4_deal_85 ?_
            exact rI hQ hx hb hr hlk hw dX4_deal_86 (o_2a h) (o_2b h) rfl
  · replace h := o_t c10 h
    refine lv_aload_n hx hb dX4_deal_13 rfl (lv_at hl 1 rfl) ?_
    refine lv_ldc (v := -1000000004) hx hb hown (hts (.constant RX4 178 (-1000000004)) (by decide +kernel)) dX4_deal_14 ?_
    obtain ⟨q16, eq16, h⟩ := o_bd h
    refine kV (As := [.int (-1000000004 : Int32)]) (rest := []) (st' := [.int q16.1]) ⟨hx, hb, hml, hown, hts⟩ (kX4_found l G eq16) (cwV 1 hts gX4_deal_X4_found rfl rfl rfl qqX4_found ⟨Nat.le_of_ble_eq_true rfl, Nat.le_of_ble_eq_true rfl⟩) hw (rvOw hw) rfl hl.1 rfl (Nat.le_of_ble_eq_true rfl) dX4_deal_16 ⟨Nat.zero_le _, Nat.zero_le _⟩ rfl (fun H locs hw => ?_)
    exact rI hQ hx hb hr hlk hw dX4_deal_19 (o_2a h) (o_2b h) rfl
-- X4_fair
set_option maxRecDepth 100000 in
set_option maxHeartbeats 4000000 in
theorem kX4_fair (l : Launch) (G : sGl) {S : sWo} {M : sOb}  {q : (Int32 × sWo)}  (h : fX4_fair S = some q) : sCt l G yX4_fair wsX4_fair rmX4_fair [.ref (sA G 0 0)] S M (some (.int q.1)) q.2 M := by
  refine cMk (cc := cX4_fair) (maxL := 4) (ret := (some .int)) (by decide) rfl (Nat.le_of_ble_eq_true rfl) ?_
  intro p e s m args below meth c Q hQ hx hb hr hlk hml hown hts hw ls hl
  have hown : s.vm.findClass RX4 = some m.cls := hown
  have hl : lv_has ls 4 [(0, .ref (sA G 0 0))] := hl
  have hiX3 : ∀ w ∈ u_ws RX3 TX3 15, w ∈ wsX4_fair := by decide +kernel
  have hiX4 : ∀ w ∈ u_ws RX4 TX4 7, w ∈ wsX4_fair := by decide +kernel
  unfold fX4_fair at h
  refine lv_aload_n hx hb dX4_fair_0 rfl (lv_at hl 0 rfl) ?_
  refine lv_aload_n hx hb dX4_fair_1 rfl (lv_at hl 0 rfl) ?_
  refine gOw (v := .ref (sA G 1 0)) hx hb hts hiX4 hown hw 0 (by decide) (hts (.fieldLink RX4 10 "SecondHome" "track" "LSecondHome$Track;") (by decide +kernel)) rfl dX4_fair_2 ?_
  refine gTk (v := .ref (sA G 1 2)) hx hb hts hiX3 hown hw (Or.inl rfl) rfl 7 (by decide) (hts (.fieldLink RX4 79 "SecondHome$Track" "paces" "[I") (by decide +kernel)) rfl dX4_fair_5 ?_
  obtain ⟨q8, eq8, h⟩ := o_bd h
  refine kV (As := [.ref (sA G 1 2)]) (rest := []) (st' := [.int q8]) ⟨hx, hb, hml, hown, hts⟩ (kX4_most l G (by decide) eq8) (cwV 1 hts gX4_fair_X4_most rfl rfl rfl qqX4_most ⟨Nat.le_of_ble_eq_true rfl, Nat.le_of_ble_eq_true rfl⟩) hw (rvOw hw) rfl hl.1 rfl (Nat.le_of_ble_eq_true rfl) dX4_fair_8 ⟨Nat.zero_le _, Nat.zero_le _⟩ rfl (fun H locs hw => ?_)
  refine lv_istore_n (lv' := [(1, .int q8), (0, .ref (sA G 0 0))]) hx hb dX4_fair_11 rfl hl (by decide) rfl (fun ls hl => ?_)
  refine lv_iload_n hx hb dX4_fair_12 rfl (lv_at hl 0 rfl) ?_
  refine lv_iconst (v := -1) hx hb dX4_fair_13 (by decide) ?_
  refine lv_icmp_ne (tgt := 24) hx hb dX4_fair_14 (by decide) (fun c14 => ?_) (fun c14 => ?_)
  · replace h := o_f c14 h
    refine lv_iconst (v := 0) hx hb dX4_fair_24 (by decide) ?_
    refine lv_istore_n (lv' := [(2, .int (0 : Int32)), (1, .int q8), (0, .ref (sA G 0 0))]) hx hb dX4_fair_25 rfl hl (by decide) rfl (fun ls hl => ?_)
    refine fx2_w (F := (bX4_fair_26 q8)) (P := fun x2_26 S_26 => ∀ (H : Heap) (locs : List Loc) (ls : Array Slot), sHw G s S_26 M H locs → lv_has ls 4 [(0, .ref (sA G 0 0)), (1, .int q8), (2, .int x2_26)] → W p l e rmX4_fair s m args below meth c H locs 0 0 Q (F0 m 26 ls [])) ?_ _ _ _ h _ _ _ hw (lv_sub hl [2, 1, 0] rfl)
    intro rc26 IH26 x2_26 S_26 h H locs ls hw hl
    unfold bX4_fair_26 at h
    refine lv_iload_n hx hb dX4_fair_26 rfl (lv_at hl 2 rfl) ?_
    refine lv_iconst (v := 5) hx hb dX4_fair_27 (by decide) ?_
    refine lv_icmp_gt (tgt := 57) hx hb dX4_fair_28 (by decide) (fun c28 => ?_) (fun c28 => ?_)
    · replace h := o_t c28 h
      refine lv_aload_n hx hb dX4_fair_57 rfl (lv_at hl 0 rfl) ?_
      refine lv_ldc (v := -1000000004) hx hb hown (hts (.constant RX4 178 (-1000000004)) (by decide +kernel)) dX4_fair_58 ?_
      obtain ⟨q60, eq60, h⟩ := o_bd h
      refine kV (As := [.int (-1000000004 : Int32)]) (rest := []) (st' := [.int q60.1]) ⟨hx, hb, hml, hown, hts⟩ (kX4_found l G eq60) (cwV 1 hts gX4_fair_X4_found rfl rfl rfl qqX4_found ⟨Nat.le_of_ble_eq_true rfl, Nat.le_of_ble_eq_true rfl⟩) hw (rvOw hw) rfl hl.1 rfl (Nat.le_of_ble_eq_true rfl) dX4_fair_60 ⟨Nat.zero_le _, Nat.zero_le _⟩ rfl (fun H locs hw => ?_)
      exact rI hQ hx hb hr hlk hw dX4_fair_63 (o_2a h) (o_2b h) rfl
    · replace h := o_f c28 h
      refine lv_aload_n hx hb dX4_fair_31 rfl (lv_at hl 0 rfl) ?_
      obtain ⟨q32, eq32, h⟩ := o_bd h
      refine kV (As := []) (rest := []) (st' := [.ref (sA G 2 0)]) ⟨hx, hb, hml, hown, hts⟩ (kX4_tryOut l G eq32) (cwV 0 hts gX4_fair_X4_tryOut rfl rfl rfl qqX4_tryOut ⟨Nat.le_of_ble_eq_true rfl, Nat.le_of_ble_eq_true rfl⟩) hw (rvOw hw) rfl hl.1 rfl (Nat.le_of_ble_eq_true rfl) dX4_fair_32 ⟨Nat.zero_le _, Nat.zero_le _⟩ rfl (fun H locs hw => ?_)
      refine lv_astore_n (lv' := [(3, .ref (sA G 2 0)), (0, .ref (sA G 0 0)), (1, .int q8), (2, .int x2_26)]) hx hb dX4_fair_35 rfl hl (by decide) rfl (fun ls hl => ?_)
      refine lv_aload_n hx hb dX4_fair_36 rfl (lv_at hl 0 rfl) ?_
      refine lv_iload_n hx hb dX4_fair_37 rfl (lv_at hl 3 rfl) ?_
      refine pTk hx hb hts hiX3 hown hw (Or.inr (Or.inl rfl)) rfl 1 (by decide) (hts (.fieldLink RX4 148 "SecondHome$Track" "least" "I") (by decide +kernel)) dX4_fair_38 rfl (fun H locs hw => ?_)
      obtain ⟨S38, eS38, h⟩ := o_nm h
      rw [← eS38] at hw
      refine lv_aload_n hx hb dX4_fair_41 rfl (lv_at hl 0 rfl) ?_
      obtain ⟨q42, eq42, h⟩ := o_bd h
      refine kV (As := []) (rest := []) (st' := [.int q42.1]) ⟨hx, hb, hml, hown, hts⟩ (kX3_raceOwner l G (Or.inr (Or.inl rfl)) rfl eq42) (cwV 0 hts gX4_fair_X3_raceOwner rfl rfl rfl qqX3_raceOwner ⟨Nat.le_of_ble_eq_true rfl, Nat.le_of_ble_eq_true rfl⟩) hw (rvTk hw (Or.inr (Or.inl rfl))) rfl hl.1 rfl (Nat.le_of_ble_eq_true rfl) dX4_fair_42 ⟨Nat.zero_le _, Nat.zero_le _⟩ rfl (fun H locs hw => ?_)
      obtain ⟨S42, eS42, h⟩ := o_nm h
      rw [← eS42] at hw
      refine lv_iload_n hx hb dX4_fair_45 rfl (lv_at hl 2 rfl) ?_
      refine lv_icmp_ne (tgt := 51) hx hb dX4_fair_46 (by decide) (fun c46 => ?_) (fun c46 => ?_)
      · replace h := o_f c46 h
        obtain ⟨v51, ev51, h⟩ := o_nm h
        refine lv_iinc (v := v51) (lv' := [(2, .int v51), (3, .ref (sA G 2 0)), (0, .ref (sA G 0 0)), (1, .int q8)]) hx hb dX4_fair_51 hl (k := 3) rfl (by rw [ev51]; rfl) (by decide) rfl (fun ls hl => ?_)
        refine lv_goto (tgt := 26) hx hb dX4_fair_54 (by decide) ?_
        exact IH26 v51 S42 h _ _ _ hw (lv_sub hl [2, 3, 0] rfl)
      · replace h := o_t c46 h
        refine lv_iload_n hx hb dX4_fair_49 rfl (lv_at hl 3 rfl) ?_
        exact rI hQ hx hb hr hlk hw dX4_fair_50 (o_2a h) (o_2b h) rfl
  · replace h := o_t c14 h
    refine lv_aload_n hx hb dX4_fair_17 rfl (lv_at hl 1 rfl) ?_
    refine lv_ldc (v := -1000000004) hx hb hown (hts (.constant RX4 178 (-1000000004)) (by decide +kernel)) dX4_fair_18 ?_
    obtain ⟨q20, eq20, h⟩ := o_bd h
    refine kV (As := [.int (-1000000004 : Int32)]) (rest := []) (st' := [.int q20.1]) ⟨hx, hb, hml, hown, hts⟩ (kX4_found l G eq20) (cwV 1 hts gX4_fair_X4_found rfl rfl rfl qqX4_found ⟨Nat.le_of_ble_eq_true rfl, Nat.le_of_ble_eq_true rfl⟩) hw (rvOw hw) rfl hl.1 rfl (Nat.le_of_ble_eq_true rfl) dX4_fair_20 ⟨Nat.zero_le _, Nat.zero_le _⟩ rfl (fun H locs hw => ?_)
    exact rI hQ hx hb hr hlk hw dX4_fair_23 (o_2a h) (o_2b h) rfl
-- X4_odds
set_option maxRecDepth 100000 in
set_option maxHeartbeats 4000000 in
theorem kX4_odds (l : Launch) (G : sGl) {S : sWo} {M : sOb} {a1 : Int32} {a2 : Int32} {a3 : Int32} {q : (Int32 × sWo)}  (h : fX4_odds S a1 a2 a3 = some q) : sCt l G yX4_odds wsX4_odds rmX4_odds [.ref (sA G 0 0), .int a1, .int a2, .int a3] S M (some (.int q.1)) q.2 M := by
  refine cMk (cc := cX4_odds) (maxL := 9) (ret := (some .int)) (by decide) rfl (Nat.le_of_ble_eq_true rfl) ?_
  intro p e s m args below meth c Q hQ hx hb hr hlk hml hown hts hw ls hl
  have hown : s.vm.findClass RX4 = some m.cls := hown
  have hl : lv_has ls 9 [(0, .ref (sA G 0 0)), (1, .int a1), (2, .int a2), (3, .int a3)] := hl
  have hiX3 : ∀ w ∈ u_ws RX3 TX3 15, w ∈ wsX4_odds := by decide +kernel
  have hiX4 : ∀ w ∈ u_ws RX4 TX4 7, w ∈ wsX4_odds := by decide +kernel
  unfold fX4_odds at h
  refine lv_aload_n hx hb dX4_odds_0 rfl (lv_at hl 0 rfl) ?_
  refine gOw (v := .ref (sA G 1 0)) hx hb hts hiX4 hown hw 0 (by decide) (hts (.fieldLink RX4 10 "SecondHome" "track" "LSecondHome$Track;") (by decide +kernel)) rfl dX4_odds_1 ?_
  refine lv_iload_n hx hb dX4_odds_4 rfl (lv_at hl 1 rfl) ?_
  obtain ⟨q5, eq5, h⟩ := o_bd h
  refine kV (As := [.int a1]) (rest := []) (st' := [.int q5]) ⟨hx, hb, hml, hown, hts⟩ (kX3_has l G (Or.inl rfl) rfl eq5) (cwV 1 hts gX4_odds_X3_has rfl rfl rfl qqX3_has ⟨Nat.le_of_ble_eq_true rfl, Nat.le_of_ble_eq_true rfl⟩) hw (rvTk hw (Or.inl rfl)) rfl hl.1 rfl (Nat.le_of_ble_eq_true rfl) dX4_odds_5 ⟨Nat.zero_le _, Nat.zero_le _⟩ rfl (fun H locs hw => ?_)
  refine lv_if_eq (tgt := 22) hx hb dX4_odds_8 (by decide) (fun c8 => ?_) (fun c8 => ?_)
  · replace h := o_t c8 h
    refine lv_aload_n hx hb dX4_odds_22 rfl (lv_at hl 0 rfl) ?_
    refine lv_ldc (v := -1000000001) hx hb hown (hts (.constant RX4 50 (-1000000001)) (by decide +kernel)) dX4_odds_23 ?_
    obtain ⟨q25, eq25, h⟩ := o_bd h
    refine kV (As := [.int (-1000000001 : Int32)]) (rest := []) (st' := [.int q25.1]) ⟨hx, hb, hml, hown, hts⟩ (kX4_found l G eq25) (cwV 1 hts gX4_odds_X4_found rfl rfl rfl qqX4_found ⟨Nat.le_of_ble_eq_true rfl, Nat.le_of_ble_eq_true rfl⟩) hw (rvOw hw) rfl hl.1 rfl (Nat.le_of_ble_eq_true rfl) dX4_odds_25 ⟨Nat.zero_le _, Nat.zero_le _⟩ rfl (fun H locs hw => ?_)
    exact rI hQ hx hb hr hlk hw dX4_odds_28 (o_2a h) (o_2b h) rfl
  · replace h := o_f c8 h
    refine lv_iload_n hx hb dX4_odds_11 rfl (lv_at hl 2 rfl) ?_
    refine lv_iconst (v := 1) hx hb dX4_odds_12 (by decide) ?_
    refine lv_icmp_lt (tgt := 22) hx hb dX4_odds_13 (by decide) (fun c13 => ?_) (fun c13 => ?_)
    · replace h := o_t c13 h
      refine lv_aload_n hx hb dX4_odds_22 rfl (lv_at hl 0 rfl) ?_
      refine lv_ldc (v := -1000000001) hx hb hown (hts (.constant RX4 50 (-1000000001)) (by decide +kernel)) dX4_odds_23 ?_
      obtain ⟨q25, eq25, h⟩ := o_bd h
      refine kV (As := [.int (-1000000001 : Int32)]) (rest := []) (st' := [.int q25.1]) ⟨hx, hb, hml, hown, hts⟩ (kX4_found l G eq25) (cwV 1 hts gX4_odds_X4_found rfl rfl rfl qqX4_found ⟨Nat.le_of_ble_eq_true rfl, Nat.le_of_ble_eq_true rfl⟩) hw (rvOw hw) rfl hl.1 rfl (Nat.le_of_ble_eq_true rfl) dX4_odds_25 ⟨Nat.zero_le _, Nat.zero_le _⟩ rfl (fun H locs hw => ?_)
      exact rI hQ hx hb hr hlk hw dX4_odds_28 (o_2a h) (o_2b h) rfl
    · replace h := o_f c13 h
      refine lv_iload_n hx hb dX4_odds_16 rfl (lv_at hl 2 rfl) ?_
      refine lv_bipush (v := 20) hx hb dX4_odds_17 (by decide) ?_
      refine lv_icmp_le (tgt := 29) hx hb dX4_odds_19 (by decide) (fun c19 => ?_) (fun c19 => ?_)
      · replace h := o_t c19 h
        refine lv_iload_n hx hb dX4_odds_29 rfl (lv_at hl 3 rfl) ?_
        refine lv_istore (lv' := [(4, .int a3), (0, .ref (sA G 0 0)), (1, .int a1), (2, .int a2), (3, .int a3)]) hx hb dX4_odds_30 hl (by decide) rfl (fun ls hl => ?_)
        refine lv_iconst (v := 0) hx hb dX4_odds_32 (by decide) ?_
        refine lv_istore (lv' := [(5, .int (0 : Int32)), (4, .int a3), (0, .ref (sA G 0 0)), (1, .int a1), (2, .int a2), (3, .int a3)]) hx hb dX4_odds_33 hl (by decide) rfl (fun ls hl => ?_)
        refine lv_iconst (v := 0) hx hb dX4_odds_35 (by decide) ?_
        refine lv_istore (lv' := [(6, .int (0 : Int32)), (5, .int (0 : Int32)), (4, .int a3), (0, .ref (sA G 0 0)), (1, .int a1), (2, .int a2), (3, .int a3)]) hx hb dX4_odds_36 hl (by decide) rfl (fun ls hl => ?_)
        refine fx4_w (F := (bX4_odds_38 a1 a2)) (P := fun x4_38 x5_38 x6_38 S_38 => ∀ (H : Heap) (locs : List Loc) (ls : Array Slot), sHw G s S_38 M H locs → lv_has ls 9 [(0, .ref (sA G 0 0)), (1, .int a1), (2, .int a2), (4, .int x4_38), (5, .int x5_38), (6, .int x6_38)] → W p l e rmX4_odds s m args below meth c H locs 0 0 Q (F0 m 38 ls [])) ?_ _ _ _ _ _ h _ _ _ hw (lv_sub hl [3, 4, 5, 2, 1, 0] rfl)
        intro rc38 IH38 x4_38 x5_38 x6_38 S_38 h H locs ls hw hl
        unfold bX4_odds_38 at h
        refine lv_iload hx hb dX4_odds_38 (lv_at hl 5 rfl) ?_
        refine lv_iload_n hx hb dX4_odds_40 rfl (lv_at hl 2 rfl) ?_
        refine lv_icmp_ge (tgt := 116) hx hb dX4_odds_41 (by decide) (fun c41 => ?_) (fun c41 => ?_)
        · replace h := o_t c41 h
          refine lv_iload hx hb dX4_odds_116 (lv_at hl 4 rfl) ?_
          exact rI hQ hx hb hr hlk hw dX4_odds_118 (o_2a h) (o_2b h) rfl
        · replace h := o_f c41 h
          refine lv_aload_n hx hb dX4_odds_44 rfl (lv_at hl 0 rfl) ?_
          obtain ⟨q45, eq45, h⟩ := o_bd h
          refine kV (As := []) (rest := []) (st' := [.ref (sA G 2 0)]) ⟨hx, hb, hml, hown, hts⟩ (kX4_tryOut l G eq45) (cwV 0 hts gX4_odds_X4_tryOut rfl rfl rfl qqX4_tryOut ⟨Nat.le_of_ble_eq_true rfl, Nat.le_of_ble_eq_true rfl⟩) hw (rvOw hw) rfl hl.1 rfl (Nat.le_of_ble_eq_true rfl) dX4_odds_45 ⟨Nat.zero_le _, Nat.zero_le _⟩ rfl (fun H locs hw => ?_)
          refine lv_astore (lv' := [(7, .ref (sA G 2 0)), (0, .ref (sA G 0 0)), (1, .int a1), (2, .int a2), (4, .int x4_38), (5, .int x5_38), (6, .int x6_38)]) hx hb dX4_odds_48 hl (by decide) rfl (fun ls hl => ?_)
          refine lv_iconst (v := 0) hx hb dX4_odds_50 (by decide) ?_
          refine lv_istore (lv' := [(8, .int (0 : Int32)), (7, .ref (sA G 2 0)), (0, .ref (sA G 0 0)), (1, .int a1), (2, .int a2), (4, .int x4_38), (5, .int x5_38), (6, .int x6_38)]) hx hb dX4_odds_51 hl (by decide) rfl (fun ls hl => ?_)
          obtain ⟨k98, ek98, h⟩ := o_nm h
          have J98 : ∀ (x4_98 : Int32) (S_98 : sWo) (H : Heap) (locs : List Loc) (ls : Array Slot), sHw G s S_98 M H locs → lv_has ls 9 [(0, .ref (sA G 0 0)), (1, .int a1), (2, .int a2), (4, .int x4_98), (5, .int x5_38), (6, .int x6_38), (7, .ref (sA G 2 0))] → k98 x4_98 S_98 = some q → W p l e rmX4_odds s m args below meth c H locs 0 0 Q (F0 m 98 ls []) := by
            intro x4_98 S_98 H locs ls hw hl h
            replace h := o_j2 ek98 h
            refine lv_aload hx hb dX4_odds_98 (lv_at hl 6 rfl) ?_
            obtain ⟨q100, eq100, h⟩ := o_bd h
            refine kV (As := []) (rest := []) (st' := [.int q100.1]) ⟨hx, hb, hml, hown, hts⟩ (kX3_raceOwner l G (Or.inr (Or.inl rfl)) rfl eq100) (cwV 0 hts gX4_odds_X3_raceOwner rfl rfl rfl qqX3_raceOwner ⟨Nat.le_of_ble_eq_true rfl, Nat.le_of_ble_eq_true rfl⟩) hw (rvTk hw (Or.inr (Or.inl rfl))) rfl hl.1 rfl (Nat.le_of_ble_eq_true rfl) dX4_odds_100 ⟨Nat.zero_le _, Nat.zero_le _⟩ rfl (fun H locs hw => ?_)
            obtain ⟨S100, eS100, h⟩ := o_nm h
            rw [← eS100] at hw
            refine lv_iload_n hx hb dX4_odds_103 rfl (lv_at hl 1 rfl) ?_
            refine lv_icmp_ne (tgt := 110) hx hb dX4_odds_104 (by decide) (fun c104 => ?_) (fun c104 => ?_)
            · replace h := o_f c104 h
              obtain ⟨v110, ev110, h⟩ := o_nm h
              refine lv_iinc (v := v110) (lv' := [(6, .int v110), (0, .ref (sA G 0 0)), (1, .int a1), (2, .int a2), (4, .int x4_98), (5, .int x5_38), (7, .ref (sA G 2 0))]) hx hb dX4_odds_110 hl (k := 5) rfl (by rw [ev110]; rfl) (by decide) rfl (fun ls hl => ?_)
              refine lv_goto (tgt := 38) hx hb dX4_odds_113 (by decide) ?_
              exact IH38 x4_98 x5_38 v110 S100 h _ _ _ hw (lv_sub hl [1, 2, 3, 4, 5, 0] rfl)
            · replace h := o_t c104 h
              obtain ⟨v107, ev107, h⟩ := o_nm h
              refine lv_iinc (v := v107) (lv' := [(5, .int v107), (0, .ref (sA G 0 0)), (1, .int a1), (2, .int a2), (4, .int x4_98), (6, .int x6_38), (7, .ref (sA G 2 0))]) hx hb dX4_odds_107 hl (k := 4) rfl (by rw [ev107]; rfl) (by decide) rfl (fun ls hl => ?_)
              obtain ⟨v110, ev110, h⟩ := o_nm h
              refine lv_iinc (v := v110) (lv' := [(6, .int v110), (5, .int v107), (0, .ref (sA G 0 0)), (1, .int a1), (2, .int a2), (4, .int x4_98), (7, .ref (sA G 2 0))]) hx hb dX4_odds_110 hl (k := 5) rfl (by rw [ev110]; rfl) (by decide) rfl (fun ls hl => ?_)
              refine lv_goto (tgt := 38) hx hb dX4_odds_113 (by decide) ?_
              exact IH38 x4_98 v107 v110 S100 h _ _ _ hw (lv_sub hl [2, 3, 4, 5, 1, 0] rfl)
          refine fx3_w (F := (bX4_odds_53 k98)) (P := fun x4_53 x8_53 S_53 => ∀ (H : Heap) (locs : List Loc) (ls : Array Slot), sHw G s S_53 M H locs → lv_has ls 9 [(0, .ref (sA G 0 0)), (1, .int a1), (2, .int a2), (4, .int x4_53), (5, .int x5_38), (6, .int x6_38), (7, .ref (sA G 2 0)), (8, .int x8_53)] → W p l e rmX4_odds s m args below meth c H locs 0 0 Q (F0 m 53 ls [])) ?_ _ _ _ _ h _ _ _ hw (lv_sub hl [2, 3, 4, 5, 6, 7, 1, 0] rfl)
          intro rc53 IH53 x4_53 x8_53 S_53 h H locs ls hw hl
          unfold bX4_odds_53 at h
          refine lv_iload hx hb dX4_odds_53 (lv_at hl 7 rfl) ?_
          refine lv_aload hx hb dX4_odds_55 (lv_at hl 6 rfl) ?_
          refine gTk (v := .int ((S_53 2).1 4)) hx hb hts hiX3 hown hw (Or.inr (Or.inl rfl)) rfl 4 (by decide) (hts (.fieldLink RX4 64 "SecondHome$Track" "count" "I") (by decide +kernel)) rfl dX4_odds_57 ?_
          refine lv_icmp_ge (tgt := 98) hx hb dX4_odds_60 (by decide) (fun c60 => ?_) (fun c60 => ?_)
          · replace h := o_t c60 h
            exact J98 x4_53 S_53 _ _ _ hw (lv_sub hl [0, 1, 2, 3, 4, 5, 6] rfl) h
          · replace h := o_f c60 h
            refine lv_iload hx hb dX4_odds_63 (lv_at hl 3 rfl) ?_
            refine lv_ldc (v := 1103515245) hx hb hown (hts (.constant RX4 192 (1103515245)) (by decide +kernel)) dX4_odds_65 ?_
            refine lv_imul hx hb dX4_odds_67 ?_
            refine lv_sipush (v := 12345) hx hb dX4_odds_68 (by decide) ?_
            refine lv_iadd hx hb dX4_odds_71 ?_
            refine lv_topi (fun v72 ev72 => ?_)
            replace h := o_nx ev72 h
            refine lv_istore (lv' := [(4, .int v72), (0, .ref (sA G 0 0)), (1, .int a1), (2, .int a2), (5, .int x5_38), (6, .int x6_38), (7, .ref (sA G 2 0)), (8, .int x8_53)]) hx hb dX4_odds_72 hl (by decide) rfl (fun ls hl => ?_)
            refine lv_aload hx hb dX4_odds_74 (lv_at hl 6 rfl) ?_
            refine gTk (v := .ref (sA G 2 2)) hx hb hts hiX3 hown hw (Or.inr (Or.inl rfl)) rfl 7 (by decide) (hts (.fieldLink RX4 79 "SecondHome$Track" "paces" "[I") (by decide +kernel)) rfl dX4_odds_76 ?_
            refine lv_iload hx hb dX4_odds_79 (lv_at hl 7 rfl) ?_
            refine lv_iload hx hb dX4_odds_81 (lv_at hl 0 rfl) ?_
            refine lv_bipush (v := 8) hx hb dX4_odds_83 (by decide) ?_
            refine lv_iushr hx hb dX4_odds_85 rfl ?_
            refine lv_bipush (v := 12) hx hb dX4_odds_86 (by decide) ?_
            refine lv_irem hx hb dX4_odds_88 (by decide) ?_
            refine lv_iconst (v := 1) hx hb dX4_odds_89 (by decide) ?_
            refine lv_iadd hx hb dX4_odds_90 ?_
            obtain ⟨b91, h⟩ := o_in h
            refine stTk hx hb hw (Or.inr (Or.inl rfl)) rfl 1 (by decide) b91 dX4_odds_91 rfl (fun H locs hw => ?_)
            obtain ⟨S91, eS91, h⟩ := o_nm h
            rw [← eS91] at hw
            obtain ⟨v92, ev92, h⟩ := o_nm h
            refine lv_iinc (v := v92) (lv' := [(8, .int v92), (4, .int v72), (0, .ref (sA G 0 0)), (1, .int a1), (2, .int a2), (5, .int x5_38), (6, .int x6_38), (7, .ref (sA G 2 0))]) hx hb dX4_odds_92 hl (k := 7) rfl (by rw [ev92]; rfl) (by decide) rfl (fun ls hl => ?_)
            refine lv_goto (tgt := 53) hx hb dX4_odds_95 (by decide) ?_
            exact IH53 v72 v92 S91 h _ _ _ hw (lv_sub hl [2, 3, 4, 1, 5, 6, 7, 0] rfl)
      · replace h := o_f c19 h
        refine lv_aload_n hx hb dX4_odds_22 rfl (lv_at hl 0 rfl) ?_
        refine lv_ldc (v := -1000000001) hx hb hown (hts (.constant RX4 50 (-1000000001)) (by decide +kernel)) dX4_odds_23 ?_
        obtain ⟨q25, eq25, h⟩ := o_bd h
        refine kV (As := [.int (-1000000001 : Int32)]) (rest := []) (st' := [.int q25.1]) ⟨hx, hb, hml, hown, hts⟩ (kX4_found l G eq25) (cwV 1 hts gX4_odds_X4_found rfl rfl rfl qqX4_found ⟨Nat.le_of_ble_eq_true rfl, Nat.le_of_ble_eq_true rfl⟩) hw (rvOw hw) rfl hl.1 rfl (Nat.le_of_ble_eq_true rfl) dX4_odds_25 ⟨Nat.zero_le _, Nat.zero_le _⟩ rfl (fun H locs hw => ?_)
        exact rI hQ hx hb hr hlk hw dX4_odds_28 (o_2a h) (o_2b h) rfl
-- X4_unwilling
set_option maxRecDepth 100000 in
set_option maxHeartbeats 4000000 in
theorem kX4_unwilling (l : Launch) (G : sGl) {S : sWo} {M : sOb}  {q : (Int32 × sWo)}  (h : fX4_unwilling S = some q) : sCt l G yX4_unwilling wsX4_unwilling rmX4_unwilling [.ref (sA G 0 0)] S M (some (.int q.1)) q.2 M := by
  refine cMk (cc := cX4_unwilling) (maxL := 6) (ret := (some .int)) (by decide) rfl (Nat.le_of_ble_eq_true rfl) ?_
  intro p e s m args below meth c Q hQ hx hb hr hlk hml hown hts hw ls hl
  have hown : s.vm.findClass RX4 = some m.cls := hown
  have hl : lv_has ls 6 [(0, .ref (sA G 0 0))] := hl
  have hiX3 : ∀ w ∈ u_ws RX3 TX3 15, w ∈ wsX4_unwilling := by decide +kernel
  unfold fX4_unwilling at h
  refine lv_aload_n hx hb dX4_unwilling_0 rfl (lv_at hl 0 rfl) ?_
  obtain ⟨q1, eq1, h⟩ := o_bd h
  refine kV (As := []) (rest := []) (st' := [.ref (sA G 2 0)]) ⟨hx, hb, hml, hown, hts⟩ (kX4_tryOut l G eq1) (cwV 0 hts gX4_unwilling_X4_tryOut rfl rfl rfl qqX4_tryOut ⟨Nat.le_of_ble_eq_true rfl, Nat.le_of_ble_eq_true rfl⟩) hw (rvOw hw) rfl hl.1 rfl (Nat.le_of_ble_eq_true rfl) dX4_unwilling_1 ⟨Nat.zero_le _, Nat.zero_le _⟩ rfl (fun H locs hw => ?_)
  refine lv_astore_n (lv' := [(1, .ref (sA G 2 0)), (0, .ref (sA G 0 0))]) hx hb dX4_unwilling_4 rfl hl (by decide) rfl (fun ls hl => ?_)
  refine lv_aload_n hx hb dX4_unwilling_5 rfl (lv_at hl 0 rfl) ?_
  obtain ⟨q6, eq6, h⟩ := o_bd h
  refine kV (As := []) (rest := []) (st' := []) ⟨hx, hb, hml, hown, hts⟩ (kX3_lineUp l G (Or.inr (Or.inl rfl)) rfl eq6) (cwV 0 hts gX4_unwilling_X3_lineUp rfl rfl rfl qqX3_lineUp ⟨Nat.le_of_ble_eq_true rfl, Nat.le_of_ble_eq_true rfl⟩) hw (rvTk hw (Or.inr (Or.inl rfl))) rfl hl.1 rfl (Nat.le_of_ble_eq_true rfl) dX4_unwilling_6 ⟨Nat.zero_le _, Nat.zero_le _⟩ rfl (fun H locs hw => ?_)
  obtain ⟨S6, eS6, h⟩ := o_nm h
  rw [← eS6] at hw
  refine lv_iconst (v := 0) hx hb dX4_unwilling_9 (by decide) ?_
  refine lv_istore_n (lv' := [(2, .int (0 : Int32)), (1, .ref (sA G 2 0)), (0, .ref (sA G 0 0))]) hx hb dX4_unwilling_10 rfl hl (by decide) rfl (fun ls hl => ?_)
  refine lv_iconst (v := 0) hx hb dX4_unwilling_11 (by decide) ?_
  refine lv_istore_n (lv' := [(3, .int (0 : Int32)), (2, .int (0 : Int32)), (1, .ref (sA G 2 0)), (0, .ref (sA G 0 0))]) hx hb dX4_unwilling_12 rfl hl (by decide) rfl (fun ls hl => ?_)
  refine fx3_w (F := bX4_unwilling_13) (P := fun x2_13 x3_13 S_13 => ∀ (H : Heap) (locs : List Loc) (ls : Array Slot), sHw G s S_13 M H locs → lv_has ls 6 [(1, .ref (sA G 2 0)), (2, .int x2_13), (3, .int x3_13)] → W p l e rmX4_unwilling s m args below meth c H locs 0 0 Q (F0 m 13 ls [])) ?_ _ _ _ _ h _ _ _ hw (lv_sub hl [2, 1, 0] rfl)
  intro rc13 IH13 x2_13 x3_13 S_13 h H locs ls hw hl
  unfold bX4_unwilling_13 at h
  refine lv_iload_n hx hb dX4_unwilling_13 rfl (lv_at hl 2 rfl) ?_
  refine lv_sipush (v := 2000) hx hb dX4_unwilling_14 (by decide) ?_
  refine lv_icmp_ge (tgt := 107) hx hb dX4_unwilling_17 (by decide) (fun c17 => ?_) (fun c17 => ?_)
  · replace h := o_t c17 h
    refine lv_iload_n hx hb dX4_unwilling_107 rfl (lv_at hl 1 rfl) ?_
    exact rI hQ hx hb hr hlk hw dX4_unwilling_108 (o_2a h) (o_2b h) rfl
  · replace h := o_f c17 h
    refine lv_aload_n hx hb dX4_unwilling_20 rfl (lv_at hl 0 rfl) ?_
    obtain ⟨q21, eq21, h⟩ := o_bd h
    refine kV (As := []) (rest := []) (st' := [.int q21]) ⟨hx, hb, hml, hown, hts⟩ (kX3_allHome l G (Or.inr (Or.inl rfl)) rfl eq21) (cwV 0 hts gX4_unwilling_X3_allHome rfl rfl rfl qqX3_allHome ⟨Nat.le_of_ble_eq_true rfl, Nat.le_of_ble_eq_true rfl⟩) hw (rvTk hw (Or.inr (Or.inl rfl))) rfl hl.1 rfl (Nat.le_of_ble_eq_true rfl) dX4_unwilling_21 ⟨Nat.zero_le _, Nat.zero_le _⟩ rfl (fun H locs hw => ?_)
    refine lv_if_ne (tgt := 107) hx hb dX4_unwilling_24 (by decide) (fun c24 => ?_) (fun c24 => ?_)
    · replace h := o_f c24 h
      refine lv_iload_n hx hb dX4_unwilling_107 rfl (lv_at hl 1 rfl) ?_
      exact rI hQ hx hb hr hlk hw dX4_unwilling_108 (o_2a h) (o_2b h) rfl
    · replace h := o_t c24 h
      refine lv_aload_n hx hb dX4_unwilling_27 rfl (lv_at hl 0 rfl) ?_
      obtain ⟨q28, eq28, h⟩ := o_bd h
      refine kV (As := []) (rest := []) (st' := [.int q28]) ⟨hx, hb, hml, hown, hts⟩ (kX3_firstAlone l G (Or.inr (Or.inl rfl)) rfl eq28) (cwV 0 hts gX4_unwilling_X3_firstAlone rfl rfl rfl qqX3_firstAlone ⟨Nat.le_of_ble_eq_true rfl, Nat.le_of_ble_eq_true rfl⟩) hw (rvTk hw (Or.inr (Or.inl rfl))) rfl hl.1 rfl (Nat.le_of_ble_eq_true rfl) dX4_unwilling_28 ⟨Nat.zero_le _, Nat.zero_le _⟩ rfl (fun H locs hw => ?_)
      refine lv_istore (lv' := [(4, .int q28), (1, .ref (sA G 2 0)), (2, .int x2_13), (3, .int x3_13)]) hx hb dX4_unwilling_31 hl (by decide) rfl (fun ls hl => ?_)
      refine lv_aload_n hx hb dX4_unwilling_33 rfl (lv_at hl 1 rfl) ?_
      refine lv_iload hx hb dX4_unwilling_34 (lv_at hl 0 rfl) ?_
      obtain ⟨q36, eq36, h⟩ := o_bd h
      refine kV (As := [.int q28]) (rest := []) (st' := [.int q36]) ⟨hx, hb, hml, hown, hts⟩ (kX3_has l G (Or.inr (Or.inl rfl)) rfl eq36) (cwV 1 hts gX4_unwilling_X3_has rfl rfl rfl qqX3_has ⟨Nat.le_of_ble_eq_true rfl, Nat.le_of_ble_eq_true rfl⟩) hw (rvTk hw (Or.inr (Or.inl rfl))) rfl hl.1 rfl (Nat.le_of_ble_eq_true rfl) dX4_unwilling_36 ⟨Nat.zero_le _, Nat.zero_le _⟩ rfl (fun H locs hw => ?_)
      obtain ⟨k66, ek66, h⟩ := o_nm h
      have J66 : ∀ (y0_66 : Int32) (H : Heap) (locs : List Loc) (ls : Array Slot), sHw G s S_13 M H locs → lv_has ls 6 [(1, .ref (sA G 2 0)), (2, .int x2_13), (3, .int x3_13), (4, .int q28)] → k66 y0_66 = some q → W p l e rmX4_unwilling s m args below meth c H locs 0 0 Q (F0 m 66 ls [.int y0_66]) := by
        intro y0_66 H locs ls hw hl h
        replace h := o_j1 ek66 h
        refine lv_istore (lv' := [(5, .int y0_66), (1, .ref (sA G 2 0)), (2, .int x2_13), (3, .int x3_13), (4, .int q28)]) hx hb dX4_unwilling_66 hl (by decide) rfl (fun ls hl => ?_)
        refine lv_aload_n hx hb dX4_unwilling_68 rfl (lv_at hl 1 rfl) ?_
        obtain ⟨q69, eq69, h⟩ := o_bd h
        refine kV (As := []) (rest := []) (st' := []) ⟨hx, hb, hml, hown, hts⟩ (kX3_goSecond l G (Or.inr (Or.inl rfl)) rfl eq69) (cwV 0 hts gX4_unwilling_X3_goSecond rfl rfl rfl qqX3_goSecond ⟨Nat.le_of_ble_eq_true rfl, Nat.le_of_ble_eq_true rfl⟩) hw (rvTk hw (Or.inr (Or.inl rfl))) rfl hl.1 rfl (Nat.le_of_ble_eq_true rfl) dX4_unwilling_69 ⟨Nat.zero_le _, Nat.zero_le _⟩ rfl (fun H locs hw => ?_)
        obtain ⟨S69, eS69, h⟩ := o_nm h
        rw [← eS69] at hw
        refine lv_iload hx hb dX4_unwilling_72 (lv_at hl 0 rfl) ?_
        refine lv_if_eq (tgt := 101) hx hb dX4_unwilling_74 (by decide) (fun c74 => ?_) (fun c74 => ?_)
        · replace h := o_t c74 h
          obtain ⟨v101, ev101, h⟩ := o_nm h
          refine lv_iinc (v := v101) (lv' := [(3, .int v101), (5, .int y0_66), (1, .ref (sA G 2 0)), (2, .int x2_13), (4, .int q28)]) hx hb dX4_unwilling_101 hl (k := 3) rfl (by rw [ev101]; rfl) (by decide) rfl (fun ls hl => ?_)
          refine lv_goto (tgt := 13) hx hb dX4_unwilling_104 (by decide) ?_
          exact IH13 x2_13 v101 S69 h _ _ _ hw (lv_sub hl [2, 3, 0] rfl)
        · replace h := o_f c74 h
          refine lv_aload_n hx hb dX4_unwilling_77 rfl (lv_at hl 1 rfl) ?_
          refine gTk (v := .ref (sA G 2 9)) hx hb hts hiX3 hown hw (Or.inr (Or.inl rfl)) rfl 14 (by decide) (hts (.fieldLink RX4 193 "SecondHome$Track" "strides" "[I") (by decide +kernel)) rfl dX4_unwilling_78 ?_
          refine lv_iload hx hb dX4_unwilling_81 (lv_at hl 4 rfl) ?_
          obtain ⟨b83, h⟩ := o_in h
          refine ldTk hx hb hw (Or.inr (Or.inl rfl)) rfl 8 (by decide) b83 dX4_unwilling_83 ?_
          refine lv_aload_n hx hb dX4_unwilling_84 rfl (lv_at hl 1 rfl) ?_
          refine gTk (v := .ref (sA G 2 2)) hx hb hts hiX3 hown hw (Or.inr (Or.inl rfl)) rfl 7 (by decide) (hts (.fieldLink RX4 79 "SecondHome$Track" "paces" "[I") (by decide +kernel)) rfl dX4_unwilling_85 ?_
          refine lv_iload hx hb dX4_unwilling_88 (lv_at hl 4 rfl) ?_
          refine ldTk hx hb hw (Or.inr (Or.inl rfl)) rfl 1 (by decide) b83 dX4_unwilling_90 ?_
          refine lv_icmp_ge (tgt := 101) hx hb dX4_unwilling_91 (by decide) (fun c91 => ?_) (fun c91 => ?_)
          · replace h := o_t c91 h
            obtain ⟨v101, ev101, h⟩ := o_nm h
            refine lv_iinc (v := v101) (lv' := [(3, .int v101), (5, .int y0_66), (1, .ref (sA G 2 0)), (2, .int x2_13), (4, .int q28)]) hx hb dX4_unwilling_101 hl (k := 3) rfl (by rw [ev101]; rfl) (by decide) rfl (fun ls hl => ?_)
            refine lv_goto (tgt := 13) hx hb dX4_unwilling_104 (by decide) ?_
            exact IH13 x2_13 v101 S69 h _ _ _ hw (lv_sub hl [2, 3, 0] rfl)
          · replace h := o_f c91 h
            refine lv_iload_n hx hb dX4_unwilling_94 rfl (lv_at hl 2 rfl) ?_
            refine lv_iconst (v := 1) hx hb dX4_unwilling_95 (by decide) ?_
            refine lv_iload hx hb dX4_unwilling_96 (lv_at hl 4 rfl) ?_
            refine lv_ishl hx hb dX4_unwilling_98 ?_
            refine lv_ior hx hb dX4_unwilling_99 ?_
            refine lv_topi (fun v100 ev100 => ?_)
            replace h := o_nx ev100 h
            refine lv_istore_n (lv' := [(2, .int v100), (5, .int y0_66), (1, .ref (sA G 2 0)), (3, .int x3_13), (4, .int q28)]) hx hb dX4_unwilling_100 rfl hl (by decide) rfl (fun ls hl => ?_)
            obtain ⟨v101, ev101, h⟩ := o_nm h
            refine lv_iinc (v := v101) (lv' := [(3, .int v101), (2, .int v100), (5, .int y0_66), (1, .ref (sA G 2 0)), (4, .int q28)]) hx hb dX4_unwilling_101 hl (k := 3) rfl (by rw [ev101]; rfl) (by decide) rfl (fun ls hl => ?_)
            refine lv_goto (tgt := 13) hx hb dX4_unwilling_104 (by decide) ?_
            exact IH13 v100 v101 S69 h _ _ _ hw (lv_sub hl [3, 1, 0] rfl)
      obtain ⟨k65, ek65, h⟩ := o_nm h
      have J65 : ∀ (H : Heap) (locs : List Loc) (ls : Array Slot), sHw G s S_13 M H locs → lv_has ls 6 [(1, .ref (sA G 2 0)), (2, .int x2_13), (3, .int x3_13), (4, .int q28)] → k65 = some q → W p l e rmX4_unwilling s m args below meth c H locs 0 0 Q (F0 m 65 ls []) := by
        intro H locs ls hw hl h
        replace h := o_j0 ek65 h
        refine lv_iconst (v := 0) hx hb dX4_unwilling_65 (by decide) ?_
        exact J66 (0 : Int32) _ _ _ hw (lv_sub hl [0, 1, 2, 3] rfl) h
      refine lv_if_eq (tgt := 65) hx hb dX4_unwilling_39 (by decide) (fun c39 => ?_) (fun c39 => ?_)
      · replace h := o_t c39 h
        exact J65 _ _ _ hw (lv_sub hl [1, 2, 3, 0] rfl) h
      · replace h := o_f c39 h
        refine lv_aload_n hx hb dX4_unwilling_42 rfl (lv_at hl 1 rfl) ?_
        refine gTk (v := .ref (sA G 2 3)) hx hb hts hiX3 hown hw (Or.inr (Or.inl rfl)) rfl 8 (by decide) (hts (.fieldLink RX4 82 "SecondHome$Track" "breaths" "[I") (by decide +kernel)) rfl dX4_unwilling_43 ?_
        refine lv_iload hx hb dX4_unwilling_46 (lv_at hl 0 rfl) ?_
        obtain ⟨b48, h⟩ := o_in h
        refine ldTk hx hb hw (Or.inr (Or.inl rfl)) rfl 2 (by decide) b48 dX4_unwilling_48 ?_
        refine lv_aload_n hx hb dX4_unwilling_49 rfl (lv_at hl 1 rfl) ?_
        refine gTk (v := .ref (sA G 2 2)) hx hb hts hiX3 hown hw (Or.inr (Or.inl rfl)) rfl 7 (by decide) (hts (.fieldLink RX4 79 "SecondHome$Track" "paces" "[I") (by decide +kernel)) rfl dX4_unwilling_50 ?_
        refine lv_iload hx hb dX4_unwilling_53 (lv_at hl 0 rfl) ?_
        refine ldTk hx hb hw (Or.inr (Or.inl rfl)) rfl 1 (by decide) b48 dX4_unwilling_55 ?_
        refine lv_iconst (v := 4) hx hb dX4_unwilling_56 (by decide) ?_
        refine lv_isub hx hb dX4_unwilling_57 ?_
        refine lv_icmp_lt (tgt := 65) hx hb dX4_unwilling_58 (by decide) (fun c58 => ?_) (fun c58 => ?_)
        · replace h := o_t c58 h
          exact J65 _ _ _ hw (lv_sub hl [1, 2, 3, 0] rfl) h
        · replace h := o_f c58 h
          refine lv_iconst (v := 1) hx hb dX4_unwilling_61 (by decide) ?_
          refine lv_goto (tgt := 66) hx hb dX4_unwilling_62 (by decide) ?_
          exact J66 (1 : Int32) _ _ _ hw (lv_sub hl [1, 2, 3, 0] rfl) h
-- X4_feed
set_option maxRecDepth 100000 in
set_option maxHeartbeats 4000000 in
theorem kX4_feed (l : Launch) (G : sGl) {S : sWo} {M : sOb} {a1 : Int32} {a2 : Int32} {q : (Int32 × sWo)}  (h : fX4_feed S a1 a2 = some q) : sCt l G yX4_feed wsX4_feed rmX4_feed [.ref (sA G 0 0), .int a1, .int a2] S M (some (.int q.1)) q.2 M := by
  refine cMk (cc := cX4_feed) (maxL := 4) (ret := (some .int)) (by decide) rfl (Nat.le_of_ble_eq_true rfl) ?_
  intro p e s m args below meth c Q hQ hx hb hr hlk hml hown hts hw ls hl
  have hown : s.vm.findClass RX4 = some m.cls := hown
  have hl : lv_has ls 4 [(0, .ref (sA G 0 0)), (1, .int a1), (2, .int a2)] := hl
  have hiX2 : ∀ w ∈ u_ws RX2 TX2 6, w ∈ wsX4_feed := by decide +kernel
  have hiX4 : ∀ w ∈ u_ws RX4 TX4 7, w ∈ wsX4_feed := by decide +kernel
  unfold fX4_feed at h
  refine lv_iload_n hx hb dX4_feed_0 rfl (lv_at hl 2 rfl) ?_
  refine lv_iconst (v := 1) hx hb dX4_feed_1 (by decide) ?_
  refine lv_icmp_lt (tgt := 10) hx hb dX4_feed_2 (by decide) (fun c2 => ?_) (fun c2 => ?_)
  · replace h := o_t c2 h
    refine lv_aload_n hx hb dX4_feed_10 rfl (lv_at hl 0 rfl) ?_
    refine lv_ldc (v := -1000000001) hx hb hown (hts (.constant RX4 50 (-1000000001)) (by decide +kernel)) dX4_feed_11 ?_
    obtain ⟨q13, eq13, h⟩ := o_bd h
    refine kV (As := [.int (-1000000001 : Int32)]) (rest := []) (st' := [.int q13.1]) ⟨hx, hb, hml, hown, hts⟩ (kX4_found l G eq13) (cwV 1 hts gX4_feed_X4_found rfl rfl rfl qqX4_found ⟨Nat.le_of_ble_eq_true rfl, Nat.le_of_ble_eq_true rfl⟩) hw (rvOw hw) rfl hl.1 rfl (Nat.le_of_ble_eq_true rfl) dX4_feed_13 ⟨Nat.zero_le _, Nat.zero_le _⟩ rfl (fun H locs hw => ?_)
    exact rI hQ hx hb hr hlk hw dX4_feed_16 (o_2a h) (o_2b h) rfl
  · replace h := o_f c2 h
    refine lv_iload_n hx hb dX4_feed_5 rfl (lv_at hl 2 rfl) ?_
    refine lv_iconst (v := 4) hx hb dX4_feed_6 (by decide) ?_
    refine lv_icmp_le (tgt := 17) hx hb dX4_feed_7 (by decide) (fun c7 => ?_) (fun c7 => ?_)
    · replace h := o_t c7 h
      refine lv_aload_n hx hb dX4_feed_17 rfl (lv_at hl 0 rfl) ?_
      refine gOw (v := .ref (sA G 4 0)) hx hb hts hiX4 hown hw 4 (by decide) (hts (.fieldLink RX4 25 "SecondHome" "tape" "LSecondHome$Tape;") (by decide +kernel)) rfl dX4_feed_18 ?_
      refine gTp (v := .int ((S 4).1 0)) hx hb hts hiX2 hown hw rfl 0 (by decide) (hts (.fieldLink RX4 196 "SecondHome$Tape" "size" "I") (by decide +kernel)) rfl dX4_feed_21 ?_
      refine lv_iload_n hx hb dX4_feed_24 rfl (lv_at hl 2 rfl) ?_
      refine lv_iadd hx hb dX4_feed_25 ?_
      refine lv_bipush (v := 120) hx hb dX4_feed_26 (by decide) ?_
      refine lv_icmp_le (tgt := 38) hx hb dX4_feed_28 (by decide) (fun c28 => ?_) (fun c28 => ?_)
      · replace h := o_t c28 h
        refine lv_iload_n hx hb dX4_feed_38 rfl (lv_at hl 2 rfl) ?_
        refine lv_iconst (v := 1) hx hb dX4_feed_39 (by decide) ?_
        refine lv_isub hx hb dX4_feed_40 ?_
        refine lv_topi (fun v41 ev41 => ?_)
        replace h := o_nx ev41 h
        refine lv_istore_n (lv' := [(3, .int v41), (0, .ref (sA G 0 0)), (1, .int a1), (2, .int a2)]) hx hb dX4_feed_41 rfl hl (by decide) rfl (fun ls hl => ?_)
        refine fx2_w (F := (bX4_feed_42 a1)) (P := fun x3_42 S_42 => ∀ (H : Heap) (locs : List Loc) (ls : Array Slot), sHw G s S_42 M H locs → lv_has ls 4 [(0, .ref (sA G 0 0)), (1, .int a1), (3, .int x3_42)] → W p l e rmX4_feed s m args below meth c H locs 0 0 Q (F0 m 42 ls [])) ?_ _ _ _ h _ _ _ hw (lv_sub hl [1, 2, 0] rfl)
        intro rc42 IH42 x3_42 S_42 h H locs ls hw hl
        unfold bX4_feed_42 at h
        refine lv_iload_n hx hb dX4_feed_42 rfl (lv_at hl 2 rfl) ?_
        refine lv_if_lt (tgt := 65) hx hb dX4_feed_43 (by decide) (fun c43 => ?_) (fun c43 => ?_)
        · replace h := o_t c43 h
          refine lv_aload_n hx hb dX4_feed_65 rfl (lv_at hl 0 rfl) ?_
          refine gOw (v := .ref (sA G 4 0)) hx hb hts hiX4 hown hw 4 (by decide) (hts (.fieldLink RX4 25 "SecondHome" "tape" "LSecondHome$Tape;") (by decide +kernel)) rfl dX4_feed_66 ?_
          refine gTp (v := .int ((S_42 4).1 0)) hx hb hts hiX2 hown hw rfl 0 (by decide) (hts (.fieldLink RX4 196 "SecondHome$Tape" "size" "I") (by decide +kernel)) rfl dX4_feed_69 ?_
          exact rI hQ hx hb hr hlk hw dX4_feed_72 (o_2a h) (o_2b h) rfl
        · replace h := o_f c43 h
          refine lv_aload_n hx hb dX4_feed_46 rfl (lv_at hl 0 rfl) ?_
          refine gOw (v := .ref (sA G 4 0)) hx hb hts hiX4 hown hw 4 (by decide) (hts (.fieldLink RX4 25 "SecondHome" "tape" "LSecondHome$Tape;") (by decide +kernel)) rfl dX4_feed_47 ?_
          refine lv_iload_n hx hb dX4_feed_50 rfl (lv_at hl 1 rfl) ?_
          refine lv_bipush (v := 8) hx hb dX4_feed_51 (by decide) ?_
          refine lv_iload_n hx hb dX4_feed_53 rfl (lv_at hl 2 rfl) ?_
          refine lv_imul hx hb dX4_feed_54 ?_
          refine lv_iushr hx hb dX4_feed_55 rfl ?_
          obtain ⟨q56, eq56, h⟩ := o_bd h
          refine kV (As := [.int ((a1.toUInt32 >>> (((8 : Int32) * x3_42).toUInt32 &&& Int32.toUInt32 31)).toInt32)]) (rest := []) (st' := []) ⟨hx, hb, hml, hown, hts⟩ (kX2_add l G rfl eq56) (cwV 1 hts gX4_feed_X2_add rfl rfl rfl qqX2_add ⟨Nat.le_of_ble_eq_true rfl, Nat.le_of_ble_eq_true rfl⟩) hw (rvTp hw) rfl hl.1 rfl (Nat.le_of_ble_eq_true rfl) dX4_feed_56 ⟨Nat.zero_le _, Nat.zero_le _⟩ rfl (fun H locs hw => ?_)
          obtain ⟨S56, eS56, h⟩ := o_nm h
          rw [← eS56] at hw
          obtain ⟨v59, ev59, h⟩ := o_nm h
          refine lv_iinc (v := v59) (lv' := [(3, .int v59), (0, .ref (sA G 0 0)), (1, .int a1)]) hx hb dX4_feed_59 hl (k := 2) rfl (by rw [ev59]; rfl) (by decide) rfl (fun ls hl => ?_)
          refine lv_goto (tgt := 42) hx hb dX4_feed_62 (by decide) ?_
          exact IH42 v59 S56 h _ _ _ hw (lv_sub hl [1, 2, 0] rfl)
      · replace h := o_f c28 h
        refine lv_aload_n hx hb dX4_feed_31 rfl (lv_at hl 0 rfl) ?_
        refine lv_ldc (v := -1000000002) hx hb hown (hts (.constant RX4 68 (-1000000002)) (by decide +kernel)) dX4_feed_32 ?_
        obtain ⟨q34, eq34, h⟩ := o_bd h
        refine kV (As := [.int (-1000000002 : Int32)]) (rest := []) (st' := [.int q34.1]) ⟨hx, hb, hml, hown, hts⟩ (kX4_found l G eq34) (cwV 1 hts gX4_feed_X4_found rfl rfl rfl qqX4_found ⟨Nat.le_of_ble_eq_true rfl, Nat.le_of_ble_eq_true rfl⟩) hw (rvOw hw) rfl hl.1 rfl (Nat.le_of_ble_eq_true rfl) dX4_feed_34 ⟨Nat.zero_le _, Nat.zero_le _⟩ rfl (fun H locs hw => ?_)
        exact rI hQ hx hb hr hlk hw dX4_feed_37 (o_2a h) (o_2b h) rfl
    · replace h := o_f c7 h
      refine lv_aload_n hx hb dX4_feed_10 rfl (lv_at hl 0 rfl) ?_
      refine lv_ldc (v := -1000000001) hx hb hown (hts (.constant RX4 50 (-1000000001)) (by decide +kernel)) dX4_feed_11 ?_
      obtain ⟨q13, eq13, h⟩ := o_bd h
      refine kV (As := [.int (-1000000001 : Int32)]) (rest := []) (st' := [.int q13.1]) ⟨hx, hb, hml, hown, hts⟩ (kX4_found l G eq13) (cwV 1 hts gX4_feed_X4_found rfl rfl rfl qqX4_found ⟨Nat.le_of_ble_eq_true rfl, Nat.le_of_ble_eq_true rfl⟩) hw (rvOw hw) rfl hl.1 rfl (Nat.le_of_ble_eq_true rfl) dX4_feed_13 ⟨Nat.zero_le _, Nat.zero_le _⟩ rfl (fun H locs hw => ?_)
      exact rI hQ hx hb hr hlk hw dX4_feed_16 (o_2a h) (o_2b h) rfl
-- X4_wipe
set_option maxRecDepth 100000 in
set_option maxHeartbeats 4000000 in
theorem kX4_wipe (l : Launch) (G : sGl) {S : sWo} {M : sOb}  {q : (Int32 × sWo)}  (h : fX4_wipe S = some q) : sCt l G yX4_wipe wsX4_wipe rmX4_wipe [.ref (sA G 0 0)] S M (some (.int q.1)) q.2 M := by
  refine cMk (cc := cX4_wipe) (maxL := 1) (ret := (some .int)) (by decide) rfl (Nat.le_of_ble_eq_true rfl) ?_
  intro p e s m args below meth c Q hQ hx hb hr hlk hml hown hts hw ls hl
  have hown : s.vm.findClass RX4 = some m.cls := hown
  have hl : lv_has ls 1 [(0, .ref (sA G 0 0))] := hl
  have hiX4 : ∀ w ∈ u_ws RX4 TX4 7, w ∈ wsX4_wipe := by decide +kernel
  unfold fX4_wipe at h
  refine lv_aload_n hx hb dX4_wipe_0 rfl (lv_at hl 0 rfl) ?_
  refine gOw (v := .ref (sA G 4 0)) hx hb hts hiX4 hown hw 4 (by decide) (hts (.fieldLink RX4 25 "SecondHome" "tape" "LSecondHome$Tape;") (by decide +kernel)) rfl dX4_wipe_1 ?_
  obtain ⟨q4, eq4, h⟩ := o_bd h
  refine kV (As := []) (rest := []) (st' := [.int q4.1]) ⟨hx, hb, hml, hown, hts⟩ (kX2_empty l G rfl eq4) (cwV 0 hts gX4_wipe_X2_empty rfl rfl rfl qqX2_empty ⟨Nat.le_of_ble_eq_true rfl, Nat.le_of_ble_eq_true rfl⟩) hw (rvTp hw) rfl hl.1 rfl (Nat.le_of_ble_eq_true rfl) dX4_wipe_4 ⟨Nat.zero_le _, Nat.zero_le _⟩ rfl (fun H locs hw => ?_)
  obtain ⟨S4, eS4, h⟩ := o_nm h
  rw [← eS4] at hw
  exact rI hQ hx hb hr hlk hw dX4_wipe_7 (o_2a h) (o_2b h) rfl
-- X4_text
set_option maxRecDepth 100000 in
set_option maxHeartbeats 4000000 in
theorem kX4_text (l : Launch) (G : sGl) {S : sWo} {M : sOb}  {q : (Int32 × sWo)}  (h : fX4_text S = some q) : sCt l G yX4_text wsX4_text rmX4_text [.ref (sA G 0 0)] S M (some (.int q.1)) q.2 M := by
  refine cMk (cc := cX4_text) (maxL := 3) (ret := (some .int)) (by decide) rfl (Nat.le_of_ble_eq_true rfl) ?_
  intro p e s m args below meth c Q hQ hx hb hr hlk hml hown hts hw ls hl
  have hown : s.vm.findClass RX4 = some m.cls := hown
  have hl : lv_has ls 3 [(0, .ref (sA G 0 0))] := hl
  have hiX4 : ∀ w ∈ u_ws RX4 TX4 7, w ∈ wsX4_text := by decide +kernel
  unfold fX4_text at h
  refine lv_aload_n hx hb dX4_text_0 rfl (lv_at hl 0 rfl) ?_
  obtain ⟨q1, eq1, h⟩ := o_bd h
  refine kV (As := []) (rest := []) (st' := [.ref (sA G 2 0)]) ⟨hx, hb, hml, hown, hts⟩ (kX4_tryOut l G eq1) (cwV 0 hts gX4_text_X4_tryOut rfl rfl rfl qqX4_tryOut ⟨Nat.le_of_ble_eq_true rfl, Nat.le_of_ble_eq_true rfl⟩) hw (rvOw hw) rfl hl.1 rfl (Nat.le_of_ble_eq_true rfl) dX4_text_1 ⟨Nat.zero_le _, Nat.zero_le _⟩ rfl (fun H locs hw => ?_)
  refine lv_astore_n (lv' := [(1, .ref (sA G 2 0)), (0, .ref (sA G 0 0))]) hx hb dX4_text_4 rfl hl (by decide) rfl (fun ls hl => ?_)
  refine lv_aload_n hx hb dX4_text_5 rfl (lv_at hl 1 rfl) ?_
  refine gOw (v := .ref (sA G 4 0)) hx hb hts hiX4 hown hw 4 (by decide) (hts (.fieldLink RX4 25 "SecondHome" "tape" "LSecondHome$Tape;") (by decide +kernel)) rfl dX4_text_6 ?_
  refine lv_aload_n hx hb dX4_text_9 rfl (lv_at hl 0 rfl) ?_
  obtain ⟨q10, eq10, h⟩ := o_bd h
  refine kV (As := [.ref (sA G 2 0)]) (rest := []) (st' := [.int q10.1]) ⟨hx, hb, hml, hown, hts⟩ (kX2_readRace l G eq10) (cwV 1 hts gX4_text_X2_readRace rfl rfl rfl qqX2_readRace ⟨Nat.le_of_ble_eq_true rfl, Nat.le_of_ble_eq_true rfl⟩) hw (rvTp hw) rfl hl.1 rfl (Nat.le_of_ble_eq_true rfl) dX4_text_10 ⟨Nat.zero_le _, Nat.zero_le _⟩ rfl (fun H locs hw => ?_)
  refine lv_istore_n (lv' := [(2, .int q10.1), (1, .ref (sA G 2 0)), (0, .ref (sA G 0 0))]) hx hb dX4_text_13 rfl hl (by decide) rfl (fun ls hl => ?_)
  refine lv_aload_n hx hb dX4_text_14 rfl (lv_at hl 2 rfl) ?_
  refine gOw (v := .ref (sA G 4 0)) hx hb hts hiX4 hown hw 4 (by decide) (hts (.fieldLink RX4 25 "SecondHome" "tape" "LSecondHome$Tape;") (by decide +kernel)) rfl dX4_text_15 ?_
  obtain ⟨q18, eq18, h⟩ := o_bd h
  refine kV (As := []) (rest := []) (st' := [.int q18.1]) ⟨hx, hb, hml, hown, hts⟩ (kX2_empty l G rfl eq18) (cwV 0 hts gX4_text_X2_empty rfl rfl rfl qqX2_empty ⟨Nat.le_of_ble_eq_true rfl, Nat.le_of_ble_eq_true rfl⟩) hw (rvTp hw) rfl hl.1 rfl (Nat.le_of_ble_eq_true rfl) dX4_text_18 ⟨Nat.zero_le _, Nat.zero_le _⟩ rfl (fun H locs hw => ?_)
  obtain ⟨S18, eS18, h⟩ := o_nm h
  rw [← eS18] at hw
  refine lv_pop hx hb dX4_text_21 rfl ?_
  refine lv_iload_n hx hb dX4_text_22 rfl (lv_at hl 0 rfl) ?_
  refine lv_if_lt (tgt := 34) hx hb dX4_text_23 (by decide) (fun c23 => ?_) (fun c23 => ?_)
  · replace h := o_t c23 h
    refine lv_iload_n hx hb dX4_text_34 rfl (lv_at hl 0 rfl) ?_
    exact rI hQ hx hb hr hlk hw dX4_text_35 (o_2a h) (o_2b h) rfl
  · replace h := o_f c23 h
    refine lv_aload_n hx hb dX4_text_26 rfl (lv_at hl 2 rfl) ?_
    refine gOw (v := .ref (sA G 1 0)) hx hb hts hiX4 hown hw 0 (by decide) (hts (.fieldLink RX4 10 "SecondHome" "track" "LSecondHome$Track;") (by decide +kernel)) rfl dX4_text_27 ?_
    refine lv_aload_n hx hb dX4_text_30 rfl (lv_at hl 1 rfl) ?_
    obtain ⟨q31, eq31, h⟩ := o_bd h
    refine kV (As := [.ref (sA G 2 0)]) (rest := []) (st' := []) ⟨hx, hb, hml, hown, hts⟩ (kX3_takeOver l G (Or.inl rfl) (Or.inr (Or.inl rfl)) (by decide) rfl rfl eq31) (cwV 1 hts gX4_text_X3_takeOver rfl rfl rfl qqX3_takeOver ⟨Nat.le_of_ble_eq_true rfl, Nat.le_of_ble_eq_true rfl⟩) hw (rvTk hw (Or.inl rfl)) rfl hl.1 rfl (Nat.le_of_ble_eq_true rfl) dX4_text_31 ⟨Nat.zero_le _, Nat.zero_le _⟩ rfl (fun H locs hw => ?_)
    obtain ⟨S31, eS31, h⟩ := o_nm h
    rw [← eS31] at hw
    refine lv_iload_n hx hb dX4_text_34 rfl (lv_at hl 0 rfl) ?_
    exact rI hQ hx hb hr hlk hw dX4_text_35 (o_2a h) (o_2b h) rfl
-- X4_isSheet
set_option maxRecDepth 100000 in
set_option maxHeartbeats 4000000 in
theorem kX4_isSheet (l : Launch) (G : sGl) {S : sWo} {M : sOb} {a0 : Int32} {q : Int32}  (h : fX4_isSheet a0 = some q) : sCt l G yX4_isSheet wsX4_isSheet rmX4_isSheet [.int a0] S M (some (.int q)) S M := by
  refine cMk (cc := cX4_isSheet) (maxL := 1) (ret := (some .boolean)) (by decide) rfl (Nat.le_of_ble_eq_true rfl) ?_
  intro p e s m args below meth c Q hQ hx hb hr hlk hml hown hts hw ls hl
  have hown : s.vm.findClass RX4 = some m.cls := hown
  have hl : lv_has ls 1 [(0, .int a0)] := hl
  unfold fX4_isSheet at h
  refine lv_iload_n hx hb dX4_isSheet_0 rfl (lv_at hl 0 rfl) ?_
  refine lv_if_lt (tgt := 13) hx hb dX4_isSheet_1 (by decide) (fun c1 => ?_) (fun c1 => ?_)
  · replace h := o_t c1 h
    refine lv_iconst (v := 0) hx hb dX4_isSheet_13 (by decide) ?_
    exact rZ hQ hx hb hr hlk hw (Or.inl rfl) dX4_isSheet_14 (o_1 h) rfl rfl
  · replace h := o_f c1 h
    refine lv_iload_n hx hb dX4_isSheet_4 rfl (lv_at hl 0 rfl) ?_
    refine lv_iconst (v := 4) hx hb dX4_isSheet_5 (by decide) ?_
    refine lv_icmp_ge (tgt := 13) hx hb dX4_isSheet_6 (by decide) (fun c6 => ?_) (fun c6 => ?_)
    · replace h := o_t c6 h
      refine lv_iconst (v := 0) hx hb dX4_isSheet_13 (by decide) ?_
      exact rZ hQ hx hb hr hlk hw (Or.inl rfl) dX4_isSheet_14 (o_1 h) rfl rfl
    · replace h := o_f c6 h
      refine lv_iconst (v := 1) hx hb dX4_isSheet_9 (by decide) ?_
      refine lv_goto (tgt := 14) hx hb dX4_isSheet_10 (by decide) ?_
      exact rZ hQ hx hb hr hlk hw (Or.inr rfl) dX4_isSheet_14 (o_1 h) rfl rfl
-- X4_isWidth
set_option maxRecDepth 100000 in
set_option maxHeartbeats 4000000 in
theorem kX4_isWidth (l : Launch) (G : sGl) {S : sWo} {M : sOb} {a0 : Int32} {q : Int32}  (h : fX4_isWidth a0 = some q) : sCt l G yX4_isWidth wsX4_isWidth rmX4_isWidth [.int a0] S M (some (.int q)) S M := by
  refine cMk (cc := cX4_isWidth) (maxL := 1) (ret := (some .boolean)) (by decide) rfl (Nat.le_of_ble_eq_true rfl) ?_
  intro p e s m args below meth c Q hQ hx hb hr hlk hml hown hts hw ls hl
  have hown : s.vm.findClass RX4 = some m.cls := hown
  have hl : lv_has ls 1 [(0, .int a0)] := hl
  unfold fX4_isWidth at h
  refine lv_iload_n hx hb dX4_isWidth_0 rfl (lv_at hl 0 rfl) ?_
  refine lv_if_eq (tgt := 22) hx hb dX4_isWidth_1 (by decide) (fun c1 => ?_) (fun c1 => ?_)
  · replace h := o_t c1 h
    refine lv_iconst (v := 1) hx hb dX4_isWidth_22 (by decide) ?_
    refine lv_goto (tgt := 27) hx hb dX4_isWidth_23 (by decide) ?_
    exact rZ hQ hx hb hr hlk hw (Or.inr rfl) dX4_isWidth_27 (o_1 h) rfl rfl
  · replace h := o_f c1 h
    refine lv_iload_n hx hb dX4_isWidth_4 rfl (lv_at hl 0 rfl) ?_
    refine lv_bipush (v := 8) hx hb dX4_isWidth_5 (by decide) ?_
    refine lv_icmp_eq (tgt := 22) hx hb dX4_isWidth_7 (by decide) (fun c7 => ?_) (fun c7 => ?_)
    · replace h := o_t c7 h
      refine lv_iconst (v := 1) hx hb dX4_isWidth_22 (by decide) ?_
      refine lv_goto (tgt := 27) hx hb dX4_isWidth_23 (by decide) ?_
      exact rZ hQ hx hb hr hlk hw (Or.inr rfl) dX4_isWidth_27 (o_1 h) rfl rfl
    · replace h := o_f c7 h
      refine lv_iload_n hx hb dX4_isWidth_10 rfl (lv_at hl 0 rfl) ?_
      refine lv_bipush (v := 16) hx hb dX4_isWidth_11 (by decide) ?_
      refine lv_icmp_eq (tgt := 22) hx hb dX4_isWidth_13 (by decide) (fun c13 => ?_) (fun c13 => ?_)
      · replace h := o_t c13 h
        refine lv_iconst (v := 1) hx hb dX4_isWidth_22 (by decide) ?_
        refine lv_goto (tgt := 27) hx hb dX4_isWidth_23 (by decide) ?_
        exact rZ hQ hx hb hr hlk hw (Or.inr rfl) dX4_isWidth_27 (o_1 h) rfl rfl
      · replace h := o_f c13 h
        refine lv_iload_n hx hb dX4_isWidth_16 rfl (lv_at hl 0 rfl) ?_
        refine lv_bipush (v := 64) hx hb dX4_isWidth_17 (by decide) ?_
        refine lv_icmp_ne (tgt := 26) hx hb dX4_isWidth_19 (by decide) (fun c19 => ?_) (fun c19 => ?_)
        · replace h := o_f c19 h
          refine lv_iconst (v := 0) hx hb dX4_isWidth_26 (by decide) ?_
          exact rZ hQ hx hb hr hlk hw (Or.inl rfl) dX4_isWidth_27 (o_1 h) rfl rfl
        · replace h := o_t c19 h
          refine lv_iconst (v := 1) hx hb dX4_isWidth_22 (by decide) ?_
          refine lv_goto (tgt := 27) hx hb dX4_isWidth_23 (by decide) ?_
          exact rZ hQ hx hb hr hlk hw (Or.inr rfl) dX4_isWidth_27 (o_1 h) rfl rfl
-- X4_sheet
set_option maxRecDepth 100000 in
set_option maxHeartbeats 4000000 in
theorem kX4_sheet (l : Launch) (G : sGl) {S : sWo} {M : sOb} {a1 : Int32} {a2 : Int32} {a3 : Int32} {q : (Int32 × sWo)}  (h : fX4_sheet S a1 a2 a3 = some q) : sCt l G yX4_sheet wsX4_sheet rmX4_sheet [.ref (sA G 0 0), .int a1, .int a2, .int a3] S M (some (.int q.1)) q.2 M := by
  refine cMk (cc := cX4_sheet) (maxL := 4) (ret := (some .int)) (by decide) rfl (Nat.le_of_ble_eq_true rfl) ?_
  intro p e s m args below meth c Q hQ hx hb hr hlk hml hown hts hw ls hl
  have hown : s.vm.findClass RX4 = some m.cls := hown
  have hl : lv_has ls 4 [(0, .ref (sA G 0 0)), (1, .int a1), (2, .int a2), (3, .int a3)] := hl
  have hiX4 : ∀ w ∈ u_ws RX4 TX4 7, w ∈ wsX4_sheet := by decide +kernel
  unfold fX4_sheet at h
  refine lv_iload_n hx hb dX4_sheet_0 rfl (lv_at hl 1 rfl) ?_
  obtain ⟨q1, eq1, h⟩ := o_bd h
  refine kS (As := [.int a1]) (rest := []) (st' := [.int q1]) ⟨hx, hb, hml, hown, hts⟩ (kX4_isSheet l G eq1) (va_cwS 1 hts gX4_sheet_X4_isSheet rfl rfl rfl qqX4_isSheet ⟨Nat.le_of_ble_eq_true rfl, Nat.le_of_ble_eq_true rfl⟩) hw rfl hl.1 rfl (Nat.le_of_ble_eq_true rfl) dX4_sheet_1 ⟨Nat.zero_le _, Nat.zero_le _⟩ rfl (fun H locs hw => ?_)
  refine lv_if_eq (tgt := 14) hx hb dX4_sheet_4 (by decide) (fun c4 => ?_) (fun c4 => ?_)
  · replace h := o_t c4 h
    refine lv_aload_n hx hb dX4_sheet_14 rfl (lv_at hl 0 rfl) ?_
    refine lv_ldc (v := -1000000001) hx hb hown (hts (.constant RX4 50 (-1000000001)) (by decide +kernel)) dX4_sheet_15 ?_
    obtain ⟨q17, eq17, h⟩ := o_bd h
    refine kV (As := [.int (-1000000001 : Int32)]) (rest := []) (st' := [.int q17.1]) ⟨hx, hb, hml, hown, hts⟩ (kX4_found l G eq17) (cwV 1 hts gX4_sheet_X4_found rfl rfl rfl qqX4_found ⟨Nat.le_of_ble_eq_true rfl, Nat.le_of_ble_eq_true rfl⟩) hw (rvOw hw) rfl hl.1 rfl (Nat.le_of_ble_eq_true rfl) dX4_sheet_17 ⟨Nat.zero_le _, Nat.zero_le _⟩ rfl (fun H locs hw => ?_)
    exact rI hQ hx hb hr hlk hw dX4_sheet_20 (o_2a h) (o_2b h) rfl
  · replace h := o_f c4 h
    refine lv_iload_n hx hb dX4_sheet_7 rfl (lv_at hl 2 rfl) ?_
    obtain ⟨q8, eq8, h⟩ := o_bd h
    refine kS (As := [.int a2]) (rest := []) (st' := [.int q8]) ⟨hx, hb, hml, hown, hts⟩ (kX4_isWidth l G eq8) (va_cwS 1 hts gX4_sheet_X4_isWidth rfl rfl rfl qqX4_isWidth ⟨Nat.le_of_ble_eq_true rfl, Nat.le_of_ble_eq_true rfl⟩) hw rfl hl.1 rfl (Nat.le_of_ble_eq_true rfl) dX4_sheet_8 ⟨Nat.zero_le _, Nat.zero_le _⟩ rfl (fun H locs hw => ?_)
    refine lv_if_ne (tgt := 21) hx hb dX4_sheet_11 (by decide) (fun c11 => ?_) (fun c11 => ?_)
    · replace h := o_f c11 h
      refine lv_iload_n hx hb dX4_sheet_21 rfl (lv_at hl 3 rfl) ?_
      refine lv_if_ge (tgt := 32) hx hb dX4_sheet_22 (by decide) (fun c22 => ?_) (fun c22 => ?_)
      · replace h := o_t c22 h
        refine lv_iload_n hx hb dX4_sheet_32 rfl (lv_at hl 3 rfl) ?_
        refine lv_bipush (v := 40) hx hb dX4_sheet_33 (by decide) ?_
        refine lv_icmp_le (tgt := 45) hx hb dX4_sheet_35 (by decide) (fun c35 => ?_) (fun c35 => ?_)
        · replace h := o_t c35 h
          refine lv_aload_n hx hb dX4_sheet_45 rfl (lv_at hl 0 rfl) ?_
          refine gOw (v := .ref (sA G 0 2)) hx hb hts hiX4 hown hw 5 (by decide) (hts (.fieldLink RX4 31 "SecondHome" "sheets" "[LSecondHome$Sheet;") (by decide +kernel)) rfl dX4_sheet_46 ?_
          refine lv_iload_n hx hb dX4_sheet_49 rfl (lv_at hl 1 rfl) ?_
          obtain ⟨b50, h⟩ := o_in h
          refine aaOw hx hb hw b50 dX4_sheet_50 ?_
          refine lv_iload_n hx hb dX4_sheet_51 rfl (lv_at hl 2 rfl) ?_
          refine lv_iload_n hx hb dX4_sheet_52 rfl (lv_at hl 3 rfl) ?_
          obtain ⟨q53, eq53, h⟩ := o_bd h
          refine kV (As := [.int a2, .int a3]) (rest := []) (st' := [.int q53.1]) ⟨hx, hb, hml, hown, hts⟩ (kX1_lay l G (isSh_of b50) rfl eq53) (cwV 2 hts gX4_sheet_X1_lay rfl rfl rfl qqX1_lay ⟨Nat.le_of_ble_eq_true rfl, Nat.le_of_ble_eq_true rfl⟩) hw (rvSh hw (isSh_of b50)) rfl hl.1 rfl (Nat.le_of_ble_eq_true rfl) dX4_sheet_53 ⟨Nat.zero_le _, Nat.zero_le _⟩ rfl (fun H locs hw => ?_)
          obtain ⟨S53, eS53, h⟩ := o_nm h
          rw [← eS53] at hw
          exact rI hQ hx hb hr hlk hw dX4_sheet_56 (o_2a h) (o_2b h) rfl
        · replace h := o_f c35 h
          refine lv_aload_n hx hb dX4_sheet_38 rfl (lv_at hl 0 rfl) ?_
          refine lv_ldc (v := -1000000001) hx hb hown (hts (.constant RX4 50 (-1000000001)) (by decide +kernel)) dX4_sheet_39 ?_
          obtain ⟨q41, eq41, h⟩ := o_bd h
          refine kV (As := [.int (-1000000001 : Int32)]) (rest := []) (st' := [.int q41.1]) ⟨hx, hb, hml, hown, hts⟩ (kX4_found l G eq41) (cwV 1 hts gX4_sheet_X4_found rfl rfl rfl qqX4_found ⟨Nat.le_of_ble_eq_true rfl, Nat.le_of_ble_eq_true rfl⟩) hw (rvOw hw) rfl hl.1 rfl (Nat.le_of_ble_eq_true rfl) dX4_sheet_41 ⟨Nat.zero_le _, Nat.zero_le _⟩ rfl (fun H locs hw => ?_)
          exact rI hQ hx hb hr hlk hw dX4_sheet_44 (o_2a h) (o_2b h) rfl
      · replace h := o_f c22 h
        refine lv_aload_n hx hb dX4_sheet_25 rfl (lv_at hl 0 rfl) ?_
        refine lv_ldc (v := -1000000007) hx hb hown (hts (.constant RX4 218 (-1000000007)) (by decide +kernel)) dX4_sheet_26 ?_
        obtain ⟨q28, eq28, h⟩ := o_bd h
        refine kV (As := [.int (-1000000007 : Int32)]) (rest := []) (st' := [.int q28.1]) ⟨hx, hb, hml, hown, hts⟩ (kX4_found l G eq28) (cwV 1 hts gX4_sheet_X4_found rfl rfl rfl qqX4_found ⟨Nat.le_of_ble_eq_true rfl, Nat.le_of_ble_eq_true rfl⟩) hw (rvOw hw) rfl hl.1 rfl (Nat.le_of_ble_eq_true rfl) dX4_sheet_28 ⟨Nat.zero_le _, Nat.zero_le _⟩ rfl (fun H locs hw => ?_)
        exact rI hQ hx hb hr hlk hw dX4_sheet_31 (o_2a h) (o_2b h) rfl
    · replace h := o_t c11 h
      refine lv_aload_n hx hb dX4_sheet_14 rfl (lv_at hl 0 rfl) ?_
      refine lv_ldc (v := -1000000001) hx hb hown (hts (.constant RX4 50 (-1000000001)) (by decide +kernel)) dX4_sheet_15 ?_
      obtain ⟨q17, eq17, h⟩ := o_bd h
      refine kV (As := [.int (-1000000001 : Int32)]) (rest := []) (st' := [.int q17.1]) ⟨hx, hb, hml, hown, hts⟩ (kX4_found l G eq17) (cwV 1 hts gX4_sheet_X4_found rfl rfl rfl qqX4_found ⟨Nat.le_of_ble_eq_true rfl, Nat.le_of_ble_eq_true rfl⟩) hw (rvOw hw) rfl hl.1 rfl (Nat.le_of_ble_eq_true rfl) dX4_sheet_17 ⟨Nat.zero_le _, Nat.zero_le _⟩ rfl (fun H locs hw => ?_)
      exact rI hQ hx hb hr hlk hw dX4_sheet_20 (o_2a h) (o_2b h) rfl
-- X4_sheetRefusal
set_option maxRecDepth 100000 in
set_option maxHeartbeats 4000000 in
theorem kX4_sheetRefusal (l : Launch) (G : sGl) {S : sWo} {M : sOb} {a1 : Int32} {q : Int32}  (h : fX4_sheetRefusal S a1 = some q) : sCt l G yX4_sheetRefusal wsX4_sheetRefusal rmX4_sheetRefusal [.ref (sA G 0 0), .int a1] S M (some (.int q)) S M := by
  refine cMk (cc := cX4_sheetRefusal) (maxL := 2) (ret := (some .int)) (by decide) rfl (Nat.le_of_ble_eq_true rfl) ?_
  intro p e s m args below meth c Q hQ hx hb hr hlk hml hown hts hw ls hl
  have hown : s.vm.findClass RX4 = some m.cls := hown
  have hl : lv_has ls 2 [(0, .ref (sA G 0 0)), (1, .int a1)] := hl
  have hiX4 : ∀ w ∈ u_ws RX4 TX4 7, w ∈ wsX4_sheetRefusal := by decide +kernel
  unfold fX4_sheetRefusal at h
  refine lv_iload_n hx hb dX4_sheetRefusal_0 rfl (lv_at hl 1 rfl) ?_
  obtain ⟨q1, eq1, h⟩ := o_bd h
  refine kS (As := [.int a1]) (rest := []) (st' := [.int q1]) ⟨hx, hb, hml, hown, hts⟩ (kX4_isSheet l G eq1) (va_cwS 1 hts gX4_sheetRefusal_X4_isSheet rfl rfl rfl qqX4_isSheet ⟨Nat.le_of_ble_eq_true rfl, Nat.le_of_ble_eq_true rfl⟩) hw rfl hl.1 rfl (Nat.le_of_ble_eq_true rfl) dX4_sheetRefusal_1 ⟨Nat.zero_le _, Nat.zero_le _⟩ rfl (fun H locs hw => ?_)
  refine lv_if_ne (tgt := 10) hx hb dX4_sheetRefusal_4 (by decide) (fun c4 => ?_) (fun c4 => ?_)
  · replace h := o_f c4 h
    refine lv_aload_n hx hb dX4_sheetRefusal_10 rfl (lv_at hl 0 rfl) ?_
    refine gOw (v := .ref (sA G 0 2)) hx hb hts hiX4 hown hw 5 (by decide) (hts (.fieldLink RX4 31 "SecondHome" "sheets" "[LSecondHome$Sheet;") (by decide +kernel)) rfl dX4_sheetRefusal_11 ?_
    refine lv_iload_n hx hb dX4_sheetRefusal_14 rfl (lv_at hl 1 rfl) ?_
    obtain ⟨b15, h⟩ := o_in h
    refine aaOw hx hb hw b15 dX4_sheetRefusal_15 ?_
    obtain ⟨q16, eq16, h⟩ := o_bd h
    refine kV (As := []) (rest := []) (st' := [.int q16]) ⟨hx, hb, hml, hown, hts⟩ (kX1_isMissing l G (isSh_of b15) rfl eq16) (cwV 0 hts gX4_sheetRefusal_X1_isMissing rfl rfl rfl qqX1_isMissing ⟨Nat.le_of_ble_eq_true rfl, Nat.le_of_ble_eq_true rfl⟩) hw (rvSh hw (isSh_of b15)) rfl hl.1 rfl (Nat.le_of_ble_eq_true rfl) dX4_sheetRefusal_16 ⟨Nat.zero_le _, Nat.zero_le _⟩ rfl (fun H locs hw => ?_)
    refine lv_if_eq (tgt := 27) hx hb dX4_sheetRefusal_19 (by decide) (fun c19 => ?_) (fun c19 => ?_)
    · replace h := o_t c19 h
      refine lv_iconst (v := 0) hx hb dX4_sheetRefusal_27 (by decide) ?_
      exact rI hQ hx hb hr hlk hw dX4_sheetRefusal_28 (o_1 h) rfl rfl
    · replace h := o_f c19 h
      refine lv_ldc (v := -1000000006) hx hb hown (hts (.constant RX4 237 (-1000000006)) (by decide +kernel)) dX4_sheetRefusal_22 ?_
      refine lv_goto (tgt := 28) hx hb dX4_sheetRefusal_24 (by decide) ?_
      exact rI hQ hx hb hr hlk hw dX4_sheetRefusal_28 (o_1 h) rfl rfl
  · replace h := o_t c4 h
    refine lv_ldc (v := -1000000001) hx hb hown (hts (.constant RX4 50 (-1000000001)) (by decide +kernel)) dX4_sheetRefusal_7 ?_
    exact rI hQ hx hb hr hlk hw dX4_sheetRefusal_9 (o_1 h) rfl rfl
-- X4_write
set_option maxRecDepth 100000 in
set_option maxHeartbeats 4000000 in
theorem kX4_write (l : Launch) (G : sGl) {S : sWo} {M : sOb} {a1 : Int32} {a2 : Int32} {a3 : Int64} {q : (Int64 × sWo)}  (h : fX4_write S a1 a2 a3 = some q) : sCt l G yX4_write wsX4_write rmX4_write [.ref (sA G 0 0), .int a1, .int a2, .long a3] S M (some (.long q.1)) q.2 M := by
  refine cMk (cc := cX4_write) (maxL := 8) (ret := (some .long)) (by decide) rfl (Nat.le_of_ble_eq_true rfl) ?_
  intro p e s m args below meth c Q hQ hx hb hr hlk hml hown hts hw ls hl
  have hown : s.vm.findClass RX4 = some m.cls := hown
  have hl : lv_has ls 8 [(0, .ref (sA G 0 0)), (1, .int a1), (2, .int a2), (3, .long a3)] := hl
  have hiX1 : ∀ w ∈ u_ws RX1 TX1 3, w ∈ wsX4_write := by decide +kernel
  have hiX4 : ∀ w ∈ u_ws RX4 TX4 7, w ∈ wsX4_write := by decide +kernel
  unfold fX4_write at h
  refine lv_aload_n hx hb dX4_write_0 rfl (lv_at hl 0 rfl) ?_
  refine lv_iload_n hx hb dX4_write_1 rfl (lv_at hl 1 rfl) ?_
  obtain ⟨q2, eq2, h⟩ := o_bd h
  refine kV (As := [.int a1]) (rest := []) (st' := [.int q2]) ⟨hx, hb, hml, hown, hts⟩ (kX4_sheetRefusal l G eq2) (cwV 1 hts gX4_write_X4_sheetRefusal rfl rfl rfl qqX4_sheetRefusal ⟨Nat.le_of_ble_eq_true rfl, Nat.le_of_ble_eq_true rfl⟩) hw (rvOw hw) rfl hl.1 rfl (Nat.le_of_ble_eq_true rfl) dX4_write_2 ⟨Nat.zero_le _, Nat.zero_le _⟩ rfl (fun H locs hw => ?_)
  refine lv_istore (lv' := [(5, .int q2), (0, .ref (sA G 0 0)), (1, .int a1), (2, .int a2), (3, .long a3)]) hx hb dX4_write_5 hl (by decide) rfl (fun ls hl => ?_)
  refine lv_iload hx hb dX4_write_7 (lv_at hl 0 rfl) ?_
  refine lv_if_eq (tgt := 20) hx hb dX4_write_9 (by decide) (fun c9 => ?_) (fun c9 => ?_)
  · replace h := o_t c9 h
    refine lv_aload_n hx hb dX4_write_20 rfl (lv_at hl 1 rfl) ?_
    refine gOw (v := .ref (sA G 0 2)) hx hb hts hiX4 hown hw 5 (by decide) (hts (.fieldLink RX4 31 "SecondHome" "sheets" "[LSecondHome$Sheet;") (by decide +kernel)) rfl dX4_write_21 ?_
    refine lv_iload_n hx hb dX4_write_24 rfl (lv_at hl 2 rfl) ?_
    obtain ⟨b25, h⟩ := o_in h
    refine aaOw hx hb hw b25 dX4_write_25 ?_
    refine lv_iload_n hx hb dX4_write_26 rfl (lv_at hl 3 rfl) ?_
    obtain ⟨q27, eq27, h⟩ := o_bd h
    refine kV (As := [.int a2]) (rest := []) (st' := [.int q27]) ⟨hx, hb, hml, hown, hts⟩ (kX1_has l G (isSh_of b25) rfl eq27) (cwV 1 hts gX4_write_X1_has rfl rfl rfl qqX1_has ⟨Nat.le_of_ble_eq_true rfl, Nat.le_of_ble_eq_true rfl⟩) hw (rvSh hw (isSh_of b25)) rfl hl.1 rfl (Nat.le_of_ble_eq_true rfl) dX4_write_27 ⟨Nat.zero_le _, Nat.zero_le _⟩ rfl (fun H locs hw => ?_)
    refine lv_if_ne (tgt := 41) hx hb dX4_write_30 (by decide) (fun c30 => ?_) (fun c30 => ?_)
    · replace h := o_f c30 h
      refine lv_aload_n hx hb dX4_write_41 rfl (lv_at hl 1 rfl) ?_
      refine gOw (v := .ref (sA G 0 2)) hx hb hts hiX4 hown hw 5 (by decide) (hts (.fieldLink RX4 31 "SecondHome" "sheets" "[LSecondHome$Sheet;") (by decide +kernel)) rfl dX4_write_42 ?_
      refine lv_iload_n hx hb dX4_write_45 rfl (lv_at hl 2 rfl) ?_
      refine aaOw hx hb hw b25 dX4_write_46 ?_
      refine gSh (v := .ref (sA G (5 + a1.toNatClampNeg) 1)) hx hb hts hiX1 hown hw (isSh_of b25) rfl 2 (by decide) (hts (.fieldLink RX4 226 "SecondHome$Sheet" "numbers" "[J") (by decide +kernel)) rfl dX4_write_47 ?_
      refine lv_iload_n hx hb dX4_write_50 rfl (lv_at hl 3 rfl) ?_
      obtain ⟨b51, h⟩ := o_in h
      refine ldSh hx hb hw (isSh_of b25) rfl b51 dX4_write_51 ?_
      refine lv_topl (fun v52 ev52 => ?_)
      replace h := o_nx ev52 h
      refine lv_lstore (lv' := [(6, .long v52), (5, .int q2), (0, .ref (sA G 0 0)), (1, .int a1), (2, .int a2), (3, .long a3)]) hx hb dX4_write_52 hl (by decide) rfl (fun ls hl => ?_)
      refine lv_aload_n hx hb dX4_write_54 rfl (lv_at hl 2 rfl) ?_
      refine gOw (v := .ref (sA G 0 2)) hx hb hts hiX4 hown hw 5 (by decide) (hts (.fieldLink RX4 31 "SecondHome" "sheets" "[LSecondHome$Sheet;") (by decide +kernel)) rfl dX4_write_55 ?_
      refine lv_iload_n hx hb dX4_write_58 rfl (lv_at hl 3 rfl) ?_
      refine aaOw hx hb hw b25 dX4_write_59 ?_
      refine lv_iload_n hx hb dX4_write_60 rfl (lv_at hl 4 rfl) ?_
      refine lv_lload_n hx hb dX4_write_61 rfl (lv_at hl 5 rfl) ?_
      obtain ⟨q62, eq62, h⟩ := o_bd h
      refine kV (As := [.int a2, .long a3]) (rest := []) (st' := []) ⟨hx, hb, hml, hown, hts⟩ (kX1_put l G (isSh_of b25) rfl eq62) (cwV 2 hts gX4_write_X1_put rfl rfl rfl qqX1_put ⟨Nat.le_of_ble_eq_true rfl, Nat.le_of_ble_eq_true rfl⟩) hw (rvSh hw (isSh_of b25)) rfl hl.1 rfl (Nat.le_of_ble_eq_true rfl) dX4_write_62 ⟨Nat.zero_le _, Nat.zero_le _⟩ rfl (fun H locs hw => ?_)
      obtain ⟨S62, eS62, h⟩ := o_nm h
      rw [← eS62] at hw
      refine lv_lload hx hb dX4_write_65 (lv_at hl 0 rfl) ?_
      exact rL hQ hx hb hr hlk hw dX4_write_67 (o_2a h) (o_2b h) rfl
    · replace h := o_t c30 h
      refine lv_aload_n hx hb dX4_write_33 rfl (lv_at hl 1 rfl) ?_
      refine lv_ldc (v := -1000000001) hx hb hown (hts (.constant RX4 50 (-1000000001)) (by decide +kernel)) dX4_write_34 ?_
      obtain ⟨q36, eq36, h⟩ := o_bd h
      refine kV (As := [.int (-1000000001 : Int32)]) (rest := []) (st' := [.int q36.1]) ⟨hx, hb, hml, hown, hts⟩ (kX4_found l G eq36) (cwV 1 hts gX4_write_X4_found rfl rfl rfl qqX4_found ⟨Nat.le_of_ble_eq_true rfl, Nat.le_of_ble_eq_true rfl⟩) hw (rvOw hw) rfl hl.1 rfl (Nat.le_of_ble_eq_true rfl) dX4_write_36 ⟨Nat.zero_le _, Nat.zero_le _⟩ rfl (fun H locs hw => ?_)
      refine lv_i2l hx hb dX4_write_39 rfl ?_
      exact rL hQ hx hb hr hlk hw dX4_write_40 (o_2a h) (o_2b h) rfl
  · replace h := o_f c9 h
    refine lv_aload_n hx hb dX4_write_12 rfl (lv_at hl 1 rfl) ?_
    refine lv_iload hx hb dX4_write_13 (lv_at hl 0 rfl) ?_
    obtain ⟨q15, eq15, h⟩ := o_bd h
    refine kV (As := [.int q2]) (rest := []) (st' := [.int q15.1]) ⟨hx, hb, hml, hown, hts⟩ (kX4_found l G eq15) (cwV 1 hts gX4_write_X4_found rfl rfl rfl qqX4_found ⟨Nat.le_of_ble_eq_true rfl, Nat.le_of_ble_eq_true rfl⟩) hw (rvOw hw) rfl hl.1 rfl (Nat.le_of_ble_eq_true rfl) dX4_write_15 ⟨Nat.zero_le _, Nat.zero_le _⟩ rfl (fun H locs hw => ?_)
    refine lv_i2l hx hb dX4_write_18 rfl ?_
    exact rL hQ hx hb hr hlk hw dX4_write_19 (o_2a h) (o_2b h) rfl
-- X4_copy
set_option maxRecDepth 100000 in
set_option maxHeartbeats 4000000 in
theorem kX4_copy (l : Launch) (G : sGl) {S : sWo} {M : sOb} {a1 : Int32} {a2 : Int32} {a3 : Int32} {a4 : Int32} {a5 : Int32} {q : (Int32 × sWo)}  (h : fX4_copy S a1 a2 a3 a4 a5 = some q) : sCt l G yX4_copy wsX4_copy rmX4_copy [.ref (sA G 0 0), .int a1, .int a2, .int a3, .int a4, .int a5] S M (some (.int q.1)) q.2 M := by
  refine cMk (cc := cX4_copy) (maxL := 6) (ret := (some .int)) (by decide) rfl (Nat.le_of_ble_eq_true rfl) ?_
  intro p e s m args below meth c Q hQ hx hb hr hlk hml hown hts hw ls hl
  have hown : s.vm.findClass RX4 = some m.cls := hown
  have hl : lv_has ls 6 [(0, .ref (sA G 0 0)), (1, .int a1), (2, .int a2), (3, .int a3), (4, .int a4), (5, .int a5)] := hl
  have hiX1 : ∀ w ∈ u_ws RX1 TX1 3, w ∈ wsX4_copy := by decide +kernel
  have hiX4 : ∀ w ∈ u_ws RX4 TX4 7, w ∈ wsX4_copy := by decide +kernel
  unfold fX4_copy at h
  refine lv_iload_n hx hb dX4_copy_0 rfl (lv_at hl 1 rfl) ?_
  obtain ⟨q1, eq1, h⟩ := o_bd h
  refine kS (As := [.int a1]) (rest := []) (st' := [.int q1]) ⟨hx, hb, hml, hown, hts⟩ (kX4_isSheet l G eq1) (va_cwS 1 hts gX4_copy_X4_isSheet rfl rfl rfl qqX4_isSheet ⟨Nat.le_of_ble_eq_true rfl, Nat.le_of_ble_eq_true rfl⟩) hw rfl hl.1 rfl (Nat.le_of_ble_eq_true rfl) dX4_copy_1 ⟨Nat.zero_le _, Nat.zero_le _⟩ rfl (fun H locs hw => ?_)
  refine lv_if_eq (tgt := 14) hx hb dX4_copy_4 (by decide) (fun c4 => ?_) (fun c4 => ?_)
  · replace h := o_t c4 h
    refine lv_aload_n hx hb dX4_copy_14 rfl (lv_at hl 0 rfl) ?_
    refine lv_ldc (v := -1000000001) hx hb hown (hts (.constant RX4 50 (-1000000001)) (by decide +kernel)) dX4_copy_15 ?_
    obtain ⟨q17, eq17, h⟩ := o_bd h
    refine kV (As := [.int (-1000000001 : Int32)]) (rest := []) (st' := [.int q17.1]) ⟨hx, hb, hml, hown, hts⟩ (kX4_found l G eq17) (cwV 1 hts gX4_copy_X4_found rfl rfl rfl qqX4_found ⟨Nat.le_of_ble_eq_true rfl, Nat.le_of_ble_eq_true rfl⟩) hw (rvOw hw) rfl hl.1 rfl (Nat.le_of_ble_eq_true rfl) dX4_copy_17 ⟨Nat.zero_le _, Nat.zero_le _⟩ rfl (fun H locs hw => ?_)
    exact rI hQ hx hb hr hlk hw dX4_copy_20 (o_2a h) (o_2b h) rfl
  · replace h := o_f c4 h
    refine lv_iload_n hx hb dX4_copy_7 rfl (lv_at hl 3 rfl) ?_
    obtain ⟨q8, eq8, h⟩ := o_bd h
    refine kS (As := [.int a3]) (rest := []) (st' := [.int q8]) ⟨hx, hb, hml, hown, hts⟩ (kX4_isSheet l G eq8) (va_cwS 1 hts gX4_copy_X4_isSheet rfl rfl rfl qqX4_isSheet ⟨Nat.le_of_ble_eq_true rfl, Nat.le_of_ble_eq_true rfl⟩) hw rfl hl.1 rfl (Nat.le_of_ble_eq_true rfl) dX4_copy_8 ⟨Nat.zero_le _, Nat.zero_le _⟩ rfl (fun H locs hw => ?_)
    refine lv_if_ne (tgt := 21) hx hb dX4_copy_11 (by decide) (fun c11 => ?_) (fun c11 => ?_)
    · replace h := o_f c11 h
      refine lv_aload_n hx hb dX4_copy_21 rfl (lv_at hl 0 rfl) ?_
      refine gOw (v := .ref (sA G 0 2)) hx hb hts hiX4 hown hw 5 (by decide) (hts (.fieldLink RX4 31 "SecondHome" "sheets" "[LSecondHome$Sheet;") (by decide +kernel)) rfl dX4_copy_22 ?_
      refine lv_iload_n hx hb dX4_copy_25 rfl (lv_at hl 1 rfl) ?_
      obtain ⟨b26, h⟩ := o_in h
      refine aaOw hx hb hw b26 dX4_copy_26 ?_
      obtain ⟨q27, eq27, h⟩ := o_bd h
      refine kV (As := []) (rest := []) (st' := [.int q27]) ⟨hx, hb, hml, hown, hts⟩ (kX1_isMissing l G (isSh_of b26) rfl eq27) (cwV 0 hts gX4_copy_X1_isMissing rfl rfl rfl qqX1_isMissing ⟨Nat.le_of_ble_eq_true rfl, Nat.le_of_ble_eq_true rfl⟩) hw (rvSh hw (isSh_of b26)) rfl hl.1 rfl (Nat.le_of_ble_eq_true rfl) dX4_copy_27 ⟨Nat.zero_le _, Nat.zero_le _⟩ rfl (fun H locs hw => ?_)
      refine lv_if_ne (tgt := 45) hx hb dX4_copy_30 (by decide) (fun c30 => ?_) (fun c30 => ?_)
      · replace h := o_f c30 h
        refine lv_aload_n hx hb dX4_copy_45 rfl (lv_at hl 0 rfl) ?_
        refine lv_ldc (v := -1000000006) hx hb hown (hts (.constant RX4 237 (-1000000006)) (by decide +kernel)) dX4_copy_46 ?_
        obtain ⟨q48, eq48, h⟩ := o_bd h
        refine kV (As := [.int (-1000000006 : Int32)]) (rest := []) (st' := [.int q48.1]) ⟨hx, hb, hml, hown, hts⟩ (kX4_found l G eq48) (cwV 1 hts gX4_copy_X4_found rfl rfl rfl qqX4_found ⟨Nat.le_of_ble_eq_true rfl, Nat.le_of_ble_eq_true rfl⟩) hw (rvOw hw) rfl hl.1 rfl (Nat.le_of_ble_eq_true rfl) dX4_copy_48 ⟨Nat.zero_le _, Nat.zero_le _⟩ rfl (fun H locs hw => ?_)
        exact rI hQ hx hb hr hlk hw dX4_copy_51 (o_2a h) (o_2b h) rfl
      · replace h := o_t c30 h
        refine lv_aload_n hx hb dX4_copy_33 rfl (lv_at hl 0 rfl) ?_
        refine gOw (v := .ref (sA G 0 2)) hx hb hts hiX4 hown hw 5 (by decide) (hts (.fieldLink RX4 31 "SecondHome" "sheets" "[LSecondHome$Sheet;") (by decide +kernel)) rfl dX4_copy_34 ?_
        refine lv_iload_n hx hb dX4_copy_37 rfl (lv_at hl 3 rfl) ?_
        obtain ⟨b38, h⟩ := o_in h
        refine aaOw hx hb hw b38 dX4_copy_38 ?_
        obtain ⟨q39, eq39, h⟩ := o_bd h
        refine kV (As := []) (rest := []) (st' := [.int q39]) ⟨hx, hb, hml, hown, hts⟩ (kX1_isMissing l G (isSh_of b38) rfl eq39) (cwV 0 hts gX4_copy_X1_isMissing rfl rfl rfl qqX1_isMissing ⟨Nat.le_of_ble_eq_true rfl, Nat.le_of_ble_eq_true rfl⟩) hw (rvSh hw (isSh_of b38)) rfl hl.1 rfl (Nat.le_of_ble_eq_true rfl) dX4_copy_39 ⟨Nat.zero_le _, Nat.zero_le _⟩ rfl (fun H locs hw => ?_)
        refine lv_if_eq (tgt := 52) hx hb dX4_copy_42 (by decide) (fun c42 => ?_) (fun c42 => ?_)
        · replace h := o_t c42 h
          refine lv_aload_n hx hb dX4_copy_52 rfl (lv_at hl 0 rfl) ?_
          refine gOw (v := .ref (sA G 0 2)) hx hb hts hiX4 hown hw 5 (by decide) (hts (.fieldLink RX4 31 "SecondHome" "sheets" "[LSecondHome$Sheet;") (by decide +kernel)) rfl dX4_copy_53 ?_
          refine lv_iload_n hx hb dX4_copy_56 rfl (lv_at hl 1 rfl) ?_
          refine aaOw hx hb hw b26 dX4_copy_57 ?_
          refine gSh (v := .int ((S (5 + a1.toNatClampNeg)).1 0)) hx hb hts hiX1 hown hw (isSh_of b26) rfl 0 (by decide) (hts (.fieldLink RX4 238 "SecondHome$Sheet" "bits" "I") (by decide +kernel)) rfl dX4_copy_58 ?_
          refine lv_aload_n hx hb dX4_copy_61 rfl (lv_at hl 0 rfl) ?_
          refine gOw (v := .ref (sA G 0 2)) hx hb hts hiX4 hown hw 5 (by decide) (hts (.fieldLink RX4 31 "SecondHome" "sheets" "[LSecondHome$Sheet;") (by decide +kernel)) rfl dX4_copy_62 ?_
          refine lv_iload_n hx hb dX4_copy_65 rfl (lv_at hl 3 rfl) ?_
          refine aaOw hx hb hw b38 dX4_copy_66 ?_
          refine gSh (v := .int ((S (5 + a3.toNatClampNeg)).1 0)) hx hb hts hiX1 hown hw (isSh_of b38) rfl 0 (by decide) (hts (.fieldLink RX4 238 "SecondHome$Sheet" "bits" "I") (by decide +kernel)) rfl dX4_copy_67 ?_
          refine lv_icmp_eq (tgt := 80) hx hb dX4_copy_70 (by decide) (fun c70 => ?_) (fun c70 => ?_)
          · replace h := o_t c70 h
            refine lv_aload_n hx hb dX4_copy_80 rfl (lv_at hl 0 rfl) ?_
            refine gOw (v := .ref (sA G 0 2)) hx hb hts hiX4 hown hw 5 (by decide) (hts (.fieldLink RX4 31 "SecondHome" "sheets" "[LSecondHome$Sheet;") (by decide +kernel)) rfl dX4_copy_81 ?_
            refine lv_iload_n hx hb dX4_copy_84 rfl (lv_at hl 1 rfl) ?_
            refine aaOw hx hb hw b26 dX4_copy_85 ?_
            refine lv_iload_n hx hb dX4_copy_86 rfl (lv_at hl 2 rfl) ?_
            refine lv_iload hx hb dX4_copy_87 (lv_at hl 5 rfl) ?_
            obtain ⟨q89, eq89, h⟩ := o_bd h
            refine kV (As := [.int a2, .int a5]) (rest := []) (st' := [.int q89]) ⟨hx, hb, hml, hown, hts⟩ (kX1_hasRow l G (isSh_of b26) rfl eq89) (cwV 2 hts gX4_copy_X1_hasRow rfl rfl rfl qqX1_hasRow ⟨Nat.le_of_ble_eq_true rfl, Nat.le_of_ble_eq_true rfl⟩) hw (rvSh hw (isSh_of b26)) rfl hl.1 rfl (Nat.le_of_ble_eq_true rfl) dX4_copy_89 ⟨Nat.zero_le _, Nat.zero_le _⟩ rfl (fun H locs hw => ?_)
            refine lv_if_eq (tgt := 111) hx hb dX4_copy_92 (by decide) (fun c92 => ?_) (fun c92 => ?_)
            · replace h := o_t c92 h
              refine lv_aload_n hx hb dX4_copy_111 rfl (lv_at hl 0 rfl) ?_
              refine lv_ldc (v := -1000000001) hx hb hown (hts (.constant RX4 50 (-1000000001)) (by decide +kernel)) dX4_copy_112 ?_
              obtain ⟨q114, eq114, h⟩ := o_bd h
              refine kV (As := [.int (-1000000001 : Int32)]) (rest := []) (st' := [.int q114.1]) ⟨hx, hb, hml, hown, hts⟩ (kX4_found l G eq114) (cwV 1 hts gX4_copy_X4_found rfl rfl rfl qqX4_found ⟨Nat.le_of_ble_eq_true rfl, Nat.le_of_ble_eq_true rfl⟩) hw (rvOw hw) rfl hl.1 rfl (Nat.le_of_ble_eq_true rfl) dX4_copy_114 ⟨Nat.zero_le _, Nat.zero_le _⟩ rfl (fun H locs hw => ?_)
              exact rI hQ hx hb hr hlk hw dX4_copy_117 (o_2a h) (o_2b h) rfl
            · replace h := o_f c92 h
              refine lv_aload_n hx hb dX4_copy_95 rfl (lv_at hl 0 rfl) ?_
              refine gOw (v := .ref (sA G 0 2)) hx hb hts hiX4 hown hw 5 (by decide) (hts (.fieldLink RX4 31 "SecondHome" "sheets" "[LSecondHome$Sheet;") (by decide +kernel)) rfl dX4_copy_96 ?_
              refine lv_iload_n hx hb dX4_copy_99 rfl (lv_at hl 3 rfl) ?_
              refine aaOw hx hb hw b38 dX4_copy_100 ?_
              refine lv_iload hx hb dX4_copy_101 (lv_at hl 4 rfl) ?_
              refine lv_iload hx hb dX4_copy_103 (lv_at hl 5 rfl) ?_
              obtain ⟨q105, eq105, h⟩ := o_bd h
              refine kV (As := [.int a4, .int a5]) (rest := []) (st' := [.int q105]) ⟨hx, hb, hml, hown, hts⟩ (kX1_hasRow l G (isSh_of b38) rfl eq105) (cwV 2 hts gX4_copy_X1_hasRow rfl rfl rfl qqX1_hasRow ⟨Nat.le_of_ble_eq_true rfl, Nat.le_of_ble_eq_true rfl⟩) hw (rvSh hw (isSh_of b38)) rfl hl.1 rfl (Nat.le_of_ble_eq_true rfl) dX4_copy_105 ⟨Nat.zero_le _, Nat.zero_le _⟩ rfl (fun H locs hw => ?_)
              refine lv_if_ne (tgt := 118) hx hb dX4_copy_108 (by decide) (fun c108 => ?_) (fun c108 => ?_)
              · replace h := o_f c108 h
                refine lv_aload_n hx hb dX4_copy_118 rfl (lv_at hl 0 rfl) ?_
                refine gOw (v := .ref (sA G 0 2)) hx hb hts hiX4 hown hw 5 (by decide) (hts (.fieldLink RX4 31 "SecondHome" "sheets" "[LSecondHome$Sheet;") (by decide +kernel)) rfl dX4_copy_119 ?_
                refine lv_iload_n hx hb dX4_copy_122 rfl (lv_at hl 1 rfl) ?_
                refine aaOw hx hb hw b26 dX4_copy_123 ?_
                refine gSh (v := .ref (sA G (5 + a1.toNatClampNeg) 1)) hx hb hts hiX1 hown hw (isSh_of b26) rfl 2 (by decide) (hts (.fieldLink RX4 226 "SecondHome$Sheet" "numbers" "[J") (by decide +kernel)) rfl dX4_copy_124 ?_
                refine lv_iload_n hx hb dX4_copy_127 rfl (lv_at hl 2 rfl) ?_
                refine lv_aload_n hx hb dX4_copy_128 rfl (lv_at hl 0 rfl) ?_
                refine gOw (v := .ref (sA G 0 2)) hx hb hts hiX4 hown hw 5 (by decide) (hts (.fieldLink RX4 31 "SecondHome" "sheets" "[LSecondHome$Sheet;") (by decide +kernel)) rfl dX4_copy_129 ?_
                refine lv_iload_n hx hb dX4_copy_132 rfl (lv_at hl 3 rfl) ?_
                refine aaOw hx hb hw b38 dX4_copy_133 ?_
                refine gSh (v := .ref (sA G (5 + a3.toNatClampNeg) 1)) hx hb hts hiX1 hown hw (isSh_of b38) rfl 2 (by decide) (hts (.fieldLink RX4 226 "SecondHome$Sheet" "numbers" "[J") (by decide +kernel)) rfl dX4_copy_134 ?_
                refine lv_iload hx hb dX4_copy_137 (lv_at hl 4 rfl) ?_
                refine lv_iload hx hb dX4_copy_139 (lv_at hl 5 rfl) ?_
                obtain ⟨b141, h⟩ := o_in h
                refine cpSh hx hb (hml.trans hl.1.symm) hown (hts (.methodLink RX4 244 arraycopyName) (by decide +kernel)) (hts (.native arraycopyName) (by decide +kernel)) (hts (.static arraycopyName) (by decide +kernel)) (hts (.initialized "java/lang/System") (by decide +kernel)) hw (isSh_of b26) (isSh_of b38) b141 (Nat.le_of_ble_eq_true rfl) (Nat.le_of_ble_eq_true rfl) dX4_copy_141 rfl (fun H locs hw => ?_)
                obtain ⟨S141, eS141, h⟩ := o_nm h
                rw [← eS141] at hw
                refine lv_iload hx hb dX4_copy_144 (lv_at hl 5 rfl) ?_
                exact rI hQ hx hb hr hlk hw dX4_copy_146 (o_2a h) (o_2b h) rfl
              · replace h := o_t c108 h
                refine lv_aload_n hx hb dX4_copy_111 rfl (lv_at hl 0 rfl) ?_
                refine lv_ldc (v := -1000000001) hx hb hown (hts (.constant RX4 50 (-1000000001)) (by decide +kernel)) dX4_copy_112 ?_
                obtain ⟨q114, eq114, h⟩ := o_bd h
                refine kV (As := [.int (-1000000001 : Int32)]) (rest := []) (st' := [.int q114.1]) ⟨hx, hb, hml, hown, hts⟩ (kX4_found l G eq114) (cwV 1 hts gX4_copy_X4_found rfl rfl rfl qqX4_found ⟨Nat.le_of_ble_eq_true rfl, Nat.le_of_ble_eq_true rfl⟩) hw (rvOw hw) rfl hl.1 rfl (Nat.le_of_ble_eq_true rfl) dX4_copy_114 ⟨Nat.zero_le _, Nat.zero_le _⟩ rfl (fun H locs hw => ?_)
                exact rI hQ hx hb hr hlk hw dX4_copy_117 (o_2a h) (o_2b h) rfl
          · replace h := o_f c70 h
            refine lv_aload_n hx hb dX4_copy_73 rfl (lv_at hl 0 rfl) ?_
            refine lv_ldc (v := -1000000003) hx hb hown (hts (.constant RX4 119 (-1000000003)) (by decide +kernel)) dX4_copy_74 ?_
            obtain ⟨q76, eq76, h⟩ := o_bd h
            refine kV (As := [.int (-1000000003 : Int32)]) (rest := []) (st' := [.int q76.1]) ⟨hx, hb, hml, hown, hts⟩ (kX4_found l G eq76) (cwV 1 hts gX4_copy_X4_found rfl rfl rfl qqX4_found ⟨Nat.le_of_ble_eq_true rfl, Nat.le_of_ble_eq_true rfl⟩) hw (rvOw hw) rfl hl.1 rfl (Nat.le_of_ble_eq_true rfl) dX4_copy_76 ⟨Nat.zero_le _, Nat.zero_le _⟩ rfl (fun H locs hw => ?_)
            exact rI hQ hx hb hr hlk hw dX4_copy_79 (o_2a h) (o_2b h) rfl
        · replace h := o_f c42 h
          refine lv_aload_n hx hb dX4_copy_45 rfl (lv_at hl 0 rfl) ?_
          refine lv_ldc (v := -1000000006) hx hb hown (hts (.constant RX4 237 (-1000000006)) (by decide +kernel)) dX4_copy_46 ?_
          obtain ⟨q48, eq48, h⟩ := o_bd h
          refine kV (As := [.int (-1000000006 : Int32)]) (rest := []) (st' := [.int q48.1]) ⟨hx, hb, hml, hown, hts⟩ (kX4_found l G eq48) (cwV 1 hts gX4_copy_X4_found rfl rfl rfl qqX4_found ⟨Nat.le_of_ble_eq_true rfl, Nat.le_of_ble_eq_true rfl⟩) hw (rvOw hw) rfl hl.1 rfl (Nat.le_of_ble_eq_true rfl) dX4_copy_48 ⟨Nat.zero_le _, Nat.zero_le _⟩ rfl (fun H locs hw => ?_)
          exact rI hQ hx hb hr hlk hw dX4_copy_51 (o_2a h) (o_2b h) rfl
    · replace h := o_t c11 h
      refine lv_aload_n hx hb dX4_copy_14 rfl (lv_at hl 0 rfl) ?_
      refine lv_ldc (v := -1000000001) hx hb hown (hts (.constant RX4 50 (-1000000001)) (by decide +kernel)) dX4_copy_15 ?_
      obtain ⟨q17, eq17, h⟩ := o_bd h
      refine kV (As := [.int (-1000000001 : Int32)]) (rest := []) (st' := [.int q17.1]) ⟨hx, hb, hml, hown, hts⟩ (kX4_found l G eq17) (cwV 1 hts gX4_copy_X4_found rfl rfl rfl qqX4_found ⟨Nat.le_of_ble_eq_true rfl, Nat.le_of_ble_eq_true rfl⟩) hw (rvOw hw) rfl hl.1 rfl (Nat.le_of_ble_eq_true rfl) dX4_copy_17 ⟨Nat.zero_le _, Nat.zero_le _⟩ rfl (fun H locs hw => ?_)
      exact rI hQ hx hb hr hlk hw dX4_copy_20 (o_2a h) (o_2b h) rfl
