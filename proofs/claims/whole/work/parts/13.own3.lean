-- X4_lays
set_option maxRecDepth 100000 in
set_option maxHeartbeats 4000000 in
theorem kX4_lays (l : Launch) (G : sGl) {S : sWo} {M : sOb} {a1 : Int32} {q : (Int32 × sWo)}  (h : fX4_lays S a1 = some q) : sCt l G yX4_lays wsX4_lays rmX4_lays [.ref (sA G 0 0), .int a1] S M (some (.int q.1)) q.2 M := by
  refine cMk (cc := cX4_lays) (maxL := 8) (ret := (some .int)) (by decide) rfl (Nat.le_of_ble_eq_true rfl) ?_
  intro p e s m args below meth c Q hQ hx hb hr hlk hml hown hts hw ls hl
  have hown : s.vm.findClass RX4 = some m.cls := hown
  have hl : lv_has ls 8 [(0, .ref (sA G 0 0)), (1, .int a1)] := hl
  have hiX1 : ∀ w ∈ u_ws RX1 TX1 3, w ∈ wsX4_lays := by decide +kernel
  have hiX3 : ∀ w ∈ u_ws RX3 TX3 15, w ∈ wsX4_lays := by decide +kernel
  have hiX4 : ∀ w ∈ u_ws RX4 TX4 7, w ∈ wsX4_lays := by decide +kernel
  unfold fX4_lays at h
  refine lv_aload_n hx hb dX4_lays_0 rfl (lv_at hl 0 rfl) ?_
  refine lv_iload_n hx hb dX4_lays_1 rfl (lv_at hl 1 rfl) ?_
  obtain ⟨q2, eq2, h⟩ := o_bd h
  refine kV (As := [.int a1]) (rest := []) (st' := [.int q2]) ⟨hx, hb, hml, hown, hts⟩ (kX4_sheetRefusal l G eq2) (cwV 1 hts gX4_lays_X4_sheetRefusal rfl rfl rfl qqX4_sheetRefusal ⟨Nat.le_of_ble_eq_true rfl, Nat.le_of_ble_eq_true rfl⟩) hw (rvOw hw) rfl hl.1 rfl (Nat.le_of_ble_eq_true rfl) dX4_lays_2 ⟨Nat.zero_le _, Nat.zero_le _⟩ rfl (fun H locs hw => ?_)
  refine lv_istore_n (lv' := [(2, .int q2), (0, .ref (sA G 0 0)), (1, .int a1)]) hx hb dX4_lays_5 rfl hl (by decide) rfl (fun ls hl => ?_)
  refine lv_iload_n hx hb dX4_lays_6 rfl (lv_at hl 0 rfl) ?_
  refine lv_if_eq (tgt := 16) hx hb dX4_lays_7 (by decide) (fun c7 => ?_) (fun c7 => ?_)
  · replace h := o_t c7 h
    refine lv_aload_n hx hb dX4_lays_16 rfl (lv_at hl 1 rfl) ?_
    refine gOw (v := .ref (sA G 0 2)) hx hb hts hiX4 hown hw 5 (by decide) (hts (.fieldLink RX4 31 "SecondHome" "sheets" "[LSecondHome$Sheet;") (by decide +kernel)) rfl dX4_lays_17 ?_
    refine lv_iload_n hx hb dX4_lays_20 rfl (lv_at hl 2 rfl) ?_
    obtain ⟨b21, h⟩ := o_in h
    refine aaOw hx hb hw b21 dX4_lays_21 ?_
    refine lv_astore_n (lv' := [(3, .ref (sA G (5 + a1.toNatClampNeg) 0)), (2, .int q2), (0, .ref (sA G 0 0)), (1, .int a1)]) hx hb dX4_lays_22 rfl hl (by decide) rfl (fun ls hl => ?_)
    refine lv_iconst (v := 0) hx hb dX4_lays_23 (by decide) ?_
    refine lv_istore (lv' := [(4, .int (0 : Int32)), (3, .ref (sA G (5 + a1.toNatClampNeg) 0)), (2, .int q2), (0, .ref (sA G 0 0)), (1, .int a1)]) hx hb dX4_lays_24 hl (by decide) rfl (fun ls hl => ?_)
    refine lv_iconst (v := 0) hx hb dX4_lays_26 (by decide) ?_
    refine lv_istore (lv' := [(5, .int (0 : Int32)), (4, .int (0 : Int32)), (3, .ref (sA G (5 + a1.toNatClampNeg) 0)), (2, .int q2), (0, .ref (sA G 0 0)), (1, .int a1)]) hx hb dX4_lays_27 hl (by decide) rfl (fun ls hl => ?_)
    refine fx3_w (F := (bX4_lays_29 a1)) (P := fun x4_29 x5_29 S_29 => ∀ (H : Heap) (locs : List Loc) (ls : Array Slot), sHw G s S_29 M H locs → lv_has ls 8 [(0, .ref (sA G 0 0)), (3, .ref (sA G (5 + a1.toNatClampNeg) 0)), (4, .int x4_29), (5, .int x5_29)] → W p l e rmX4_lays s m args below meth c H locs 0 0 Q (F0 m 29 ls [])) ?_ _ _ _ _ h _ _ _ hw (lv_sub hl [4, 2, 1, 0] rfl)
    intro rc29 IH29 x4_29 x5_29 S_29 h H locs ls hw hl
    unfold bX4_lays_29 at h
    refine lv_iload hx hb dX4_lays_29 (lv_at hl 3 rfl) ?_
    refine lv_aload_n hx hb dX4_lays_31 rfl (lv_at hl 1 rfl) ?_
    refine gSh (v := .int ((S_29 (5 + a1.toNatClampNeg)).1 1)) hx hb hts hiX1 hown hw (isSh_of b21) rfl 1 (by decide) (hts (.fieldLink RX4 250 "SecondHome$Sheet" "size" "I") (by decide +kernel)) rfl dX4_lays_32 ?_
    refine lv_icmp_ge (tgt := 97) hx hb dX4_lays_35 (by decide) (fun c35 => ?_) (fun c35 => ?_)
    · replace h := o_t c35 h
      refine lv_iload hx hb dX4_lays_97 (lv_at hl 2 rfl) ?_
      exact rI hQ hx hb hr hlk hw dX4_lays_99 (o_2a h) (o_2b h) rfl
    · replace h := o_f c35 h
      refine lv_iload hx hb dX4_lays_38 (lv_at hl 3 rfl) ?_
      refine lv_aload_n hx hb dX4_lays_40 rfl (lv_at hl 0 rfl) ?_
      refine gOw (v := .ref (sA G 1 0)) hx hb hts hiX4 hown hw 0 (by decide) (hts (.fieldLink RX4 10 "SecondHome" "track" "LSecondHome$Track;") (by decide +kernel)) rfl dX4_lays_41 ?_
      refine gTk (v := .int ((S_29 1).1 4)) hx hb hts hiX3 hown hw (Or.inl rfl) rfl 4 (by decide) (hts (.fieldLink RX4 64 "SecondHome$Track" "count" "I") (by decide +kernel)) rfl dX4_lays_44 ?_
      refine lv_icmp_ge (tgt := 97) hx hb dX4_lays_47 (by decide) (fun c47 => ?_) (fun c47 => ?_)
      · replace h := o_t c47 h
        refine lv_iload hx hb dX4_lays_97 (lv_at hl 2 rfl) ?_
        exact rI hQ hx hb hr hlk hw dX4_lays_99 (o_2a h) (o_2b h) rfl
      · replace h := o_f c47 h
        refine lv_aload_n hx hb dX4_lays_50 rfl (lv_at hl 1 rfl) ?_
        refine gSh (v := .ref (sA G (5 + a1.toNatClampNeg) 1)) hx hb hts hiX1 hown hw (isSh_of b21) rfl 2 (by decide) (hts (.fieldLink RX4 226 "SecondHome$Sheet" "numbers" "[J") (by decide +kernel)) rfl dX4_lays_51 ?_
        refine lv_iload hx hb dX4_lays_54 (lv_at hl 3 rfl) ?_
        obtain ⟨b56, h⟩ := o_in h
        refine ldSh hx hb hw (isSh_of b21) rfl b56 dX4_lays_56 ?_
        refine lv_topl (fun v57 ev57 => ?_)
        replace h := o_nx ev57 h
        refine lv_lstore (lv' := [(6, .long v57), (0, .ref (sA G 0 0)), (3, .ref (sA G (5 + a1.toNatClampNeg) 0)), (4, .int x4_29), (5, .int x5_29)]) hx hb dX4_lays_57 hl (by decide) rfl (fun ls hl => ?_)
        refine lv_lload hx hb dX4_lays_59 (lv_at hl 0 rfl) ?_
        refine lv_lconst (v := 1) hx hb dX4_lays_61 (by decide) ?_
        refine W.lcmp hx hb dX4_lays_62 ?_
        refine lv_if_lt (tgt := 91) hx hb dX4_lays_63 (by decide) (fun c63 => ?_) (fun c63 => ?_)
        · replace h := o_t c63 h
          obtain ⟨v91, ev91, h⟩ := o_nm h
          refine lv_iinc (v := v91) (lv' := [(5, .int v91), (6, .long v57), (0, .ref (sA G 0 0)), (3, .ref (sA G (5 + a1.toNatClampNeg) 0)), (4, .int x4_29)]) hx hb dX4_lays_91 hl (k := 4) rfl (by rw [ev91]; rfl) (by decide) rfl (fun ls hl => ?_)
          refine lv_goto (tgt := 29) hx hb dX4_lays_94 (by decide) ?_
          exact IH29 x4_29 v91 S_29 h _ _ _ hw (lv_sub hl [2, 3, 4, 0] rfl)
        · replace h := o_f c63 h
          refine lv_lload hx hb dX4_lays_66 (lv_at hl 0 rfl) ?_
          refine lv_ldc2 (v := 12) hx hb hown (hts (.constantLong RX4 251 (12)) (by decide +kernel)) dX4_lays_68 ?_
          refine W.lcmp hx hb dX4_lays_71 ?_
          refine lv_if_gt (tgt := 91) hx hb dX4_lays_72 (by decide) (fun c72 => ?_) (fun c72 => ?_)
          · replace h := o_t c72 h
            obtain ⟨v91, ev91, h⟩ := o_nm h
            refine lv_iinc (v := v91) (lv' := [(5, .int v91), (6, .long v57), (0, .ref (sA G 0 0)), (3, .ref (sA G (5 + a1.toNatClampNeg) 0)), (4, .int x4_29)]) hx hb dX4_lays_91 hl (k := 4) rfl (by rw [ev91]; rfl) (by decide) rfl (fun ls hl => ?_)
            refine lv_goto (tgt := 29) hx hb dX4_lays_94 (by decide) ?_
            exact IH29 x4_29 v91 S_29 h _ _ _ hw (lv_sub hl [2, 3, 4, 0] rfl)
          · replace h := o_f c72 h
            refine lv_aload_n hx hb dX4_lays_75 rfl (lv_at hl 1 rfl) ?_
            refine gOw (v := .ref (sA G 1 0)) hx hb hts hiX4 hown hw 0 (by decide) (hts (.fieldLink RX4 10 "SecondHome" "track" "LSecondHome$Track;") (by decide +kernel)) rfl dX4_lays_76 ?_
            refine gTk (v := .ref (sA G 1 2)) hx hb hts hiX3 hown hw (Or.inl rfl) rfl 7 (by decide) (hts (.fieldLink RX4 79 "SecondHome$Track" "paces" "[I") (by decide +kernel)) rfl dX4_lays_79 ?_
            refine lv_iload hx hb dX4_lays_82 (lv_at hl 4 rfl) ?_
            refine lv_lload hx hb dX4_lays_84 (lv_at hl 0 rfl) ?_
            refine lv_l2i hx hb dX4_lays_86 rfl ?_
            obtain ⟨b87, h⟩ := o_in h
            refine stTk hx hb hw (Or.inl rfl) rfl 1 (by decide) b87 dX4_lays_87 rfl (fun H locs hw => ?_)
            obtain ⟨S87, eS87, h⟩ := o_nm h
            rw [← eS87] at hw
            obtain ⟨v88, ev88, h⟩ := o_nm h
            refine lv_iinc (v := v88) (lv' := [(4, .int v88), (6, .long v57), (0, .ref (sA G 0 0)), (3, .ref (sA G (5 + a1.toNatClampNeg) 0)), (5, .int x5_29)]) hx hb dX4_lays_88 hl (k := 3) rfl (by rw [ev88]; rfl) (by decide) rfl (fun ls hl => ?_)
            obtain ⟨v91, ev91, h⟩ := o_nm h
            refine lv_iinc (v := v91) (lv' := [(5, .int v91), (4, .int v88), (6, .long v57), (0, .ref (sA G 0 0)), (3, .ref (sA G (5 + a1.toNatClampNeg) 0))]) hx hb dX4_lays_91 hl (k := 4) rfl (by rw [ev91]; rfl) (by decide) rfl (fun ls hl => ?_)
            refine lv_goto (tgt := 29) hx hb dX4_lays_94 (by decide) ?_
            exact IH29 v88 v91 S87 h _ _ _ hw (lv_sub hl [3, 4, 1, 0] rfl)
  · replace h := o_f c7 h
    refine lv_aload_n hx hb dX4_lays_10 rfl (lv_at hl 1 rfl) ?_
    refine lv_iload_n hx hb dX4_lays_11 rfl (lv_at hl 0 rfl) ?_
    obtain ⟨q12, eq12, h⟩ := o_bd h
    refine kV (As := [.int q2]) (rest := []) (st' := [.int q12.1]) ⟨hx, hb, hml, hown, hts⟩ (kX4_found l G eq12) (cwV 1 hts gX4_lays_X4_found rfl rfl rfl qqX4_found ⟨Nat.le_of_ble_eq_true rfl, Nat.le_of_ble_eq_true rfl⟩) hw (rvOw hw) rfl hl.1 rfl (Nat.le_of_ble_eq_true rfl) dX4_lays_12 ⟨Nat.zero_le _, Nat.zero_le _⟩ rfl (fun H locs hw => ?_)
    exact rI hQ hx hb hr hlk hw dX4_lays_15 (o_2a h) (o_2b h) rfl
-- X4_film
set_option maxRecDepth 100000 in
set_option maxHeartbeats 4000000 in
theorem kX4_film (l : Launch) (G : sGl) {S : sWo} {M : sOb} {a1 : Int32} {a2 : Int32} {q : (Int32 × sWo)}  (h : fX4_film S a1 a2 = some q) : sCt l G yX4_film wsX4_film rmX4_film [.ref (sA G 0 0), .int a1, .int a2] S M (some (.int q.1)) q.2 M := by
  refine cMk (cc := cX4_film) (maxL := 7) (ret := (some .int)) (by decide) rfl (Nat.le_of_ble_eq_true rfl) ?_
  intro p e s m args below meth c Q hQ hx hb hr hlk hml hown hts hw ls hl
  have hown : s.vm.findClass RX4 = some m.cls := hown
  have hl : lv_has ls 7 [(0, .ref (sA G 0 0)), (1, .int a1), (2, .int a2)] := hl
  have hiX1 : ∀ w ∈ u_ws RX1 TX1 3, w ∈ wsX4_film := by decide +kernel
  have hiX3 : ∀ w ∈ u_ws RX3 TX3 15, w ∈ wsX4_film := by decide +kernel
  have hiX4 : ∀ w ∈ u_ws RX4 TX4 7, w ∈ wsX4_film := by decide +kernel
  unfold fX4_film at h
  refine lv_aload_n hx hb dX4_film_0 rfl (lv_at hl 0 rfl) ?_
  refine lv_iload_n hx hb dX4_film_1 rfl (lv_at hl 1 rfl) ?_
  obtain ⟨q2, eq2, h⟩ := o_bd h
  refine kV (As := [.int a1]) (rest := []) (st' := [.int q2]) ⟨hx, hb, hml, hown, hts⟩ (kX4_sheetRefusal l G eq2) (cwV 1 hts gX4_film_X4_sheetRefusal rfl rfl rfl qqX4_sheetRefusal ⟨Nat.le_of_ble_eq_true rfl, Nat.le_of_ble_eq_true rfl⟩) hw (rvOw hw) rfl hl.1 rfl (Nat.le_of_ble_eq_true rfl) dX4_film_2 ⟨Nat.zero_le _, Nat.zero_le _⟩ rfl (fun H locs hw => ?_)
  refine lv_istore_n (lv' := [(3, .int q2), (0, .ref (sA G 0 0)), (1, .int a1), (2, .int a2)]) hx hb dX4_film_5 rfl hl (by decide) rfl (fun ls hl => ?_)
  refine lv_iload_n hx hb dX4_film_6 rfl (lv_at hl 0 rfl) ?_
  refine lv_if_eq (tgt := 16) hx hb dX4_film_7 (by decide) (fun c7 => ?_) (fun c7 => ?_)
  · replace h := o_t c7 h
    refine lv_aload_n hx hb dX4_film_16 rfl (lv_at hl 1 rfl) ?_
    refine gOw (v := .ref (sA G 1 0)) hx hb hts hiX4 hown hw 0 (by decide) (hts (.fieldLink RX4 10 "SecondHome" "track" "LSecondHome$Track;") (by decide +kernel)) rfl dX4_film_17 ?_
    refine lv_iload_n hx hb dX4_film_20 rfl (lv_at hl 3 rfl) ?_
    obtain ⟨q21, eq21, h⟩ := o_bd h
    refine kV (As := [.int a2]) (rest := []) (st' := [.int q21]) ⟨hx, hb, hml, hown, hts⟩ (kX3_has l G (Or.inl rfl) rfl eq21) (cwV 1 hts gX4_film_X3_has rfl rfl rfl qqX3_has ⟨Nat.le_of_ble_eq_true rfl, Nat.le_of_ble_eq_true rfl⟩) hw (rvTk hw (Or.inl rfl)) rfl hl.1 rfl (Nat.le_of_ble_eq_true rfl) dX4_film_21 ⟨Nat.zero_le _, Nat.zero_le _⟩ rfl (fun H locs hw => ?_)
    refine lv_if_ne (tgt := 34) hx hb dX4_film_24 (by decide) (fun c24 => ?_) (fun c24 => ?_)
    · replace h := o_f c24 h
      refine lv_aload_n hx hb dX4_film_34 rfl (lv_at hl 1 rfl) ?_
      refine gOw (v := .ref (sA G 0 2)) hx hb hts hiX4 hown hw 5 (by decide) (hts (.fieldLink RX4 31 "SecondHome" "sheets" "[LSecondHome$Sheet;") (by decide +kernel)) rfl dX4_film_35 ?_
      refine lv_iload_n hx hb dX4_film_38 rfl (lv_at hl 2 rfl) ?_
      obtain ⟨b39, h⟩ := o_in h
      refine aaOw hx hb hw b39 dX4_film_39 ?_
      refine lv_astore (lv' := [(4, .ref (sA G (5 + a1.toNatClampNeg) 0)), (3, .int q2), (0, .ref (sA G 0 0)), (1, .int a1), (2, .int a2)]) hx hb dX4_film_40 hl (by decide) rfl (fun ls hl => ?_)
      refine lv_aload_n hx hb dX4_film_42 rfl (lv_at hl 2 rfl) ?_
      obtain ⟨q43, eq43, h⟩ := o_bd h
      refine kV (As := []) (rest := []) (st' := [.ref (sA G 2 0)]) ⟨hx, hb, hml, hown, hts⟩ (kX4_tryOut l G eq43) (cwV 0 hts gX4_film_X4_tryOut rfl rfl rfl qqX4_tryOut ⟨Nat.le_of_ble_eq_true rfl, Nat.le_of_ble_eq_true rfl⟩) hw (rvOw hw) rfl hl.1 rfl (Nat.le_of_ble_eq_true rfl) dX4_film_43 ⟨Nat.zero_le _, Nat.zero_le _⟩ rfl (fun H locs hw => ?_)
      refine lv_astore (lv' := [(5, .ref (sA G 2 0)), (4, .ref (sA G (5 + a1.toNatClampNeg) 0)), (3, .int q2), (0, .ref (sA G 0 0)), (1, .int a1), (2, .int a2)]) hx hb dX4_film_46 hl (by decide) rfl (fun ls hl => ?_)
      refine lv_iconst (v := 0) hx hb dX4_film_48 (by decide) ?_
      refine lv_istore (lv' := [(6, .int (0 : Int32)), (5, .ref (sA G 2 0)), (4, .ref (sA G (5 + a1.toNatClampNeg) 0)), (3, .int q2), (0, .ref (sA G 0 0)), (1, .int a1), (2, .int a2)]) hx hb dX4_film_49 hl (by decide) rfl (fun ls hl => ?_)
      refine fx2_w (F := (bX4_film_51 a1 a2)) (P := fun x6_51 S_51 => ∀ (H : Heap) (locs : List Loc) (ls : Array Slot), sHw G s S_51 M H locs → lv_has ls 7 [(2, .int a2), (4, .ref (sA G (5 + a1.toNatClampNeg) 0)), (5, .ref (sA G 2 0)), (6, .int x6_51)] → W p l e rmX4_film s m args below meth c H locs 0 0 Q (F0 m 51 ls [])) ?_ _ _ _ h _ _ _ hw (lv_sub hl [6, 2, 1, 0] rfl)
      intro rc51 IH51 x6_51 S_51 h H locs ls hw hl
      unfold bX4_film_51 at h
      refine lv_iload hx hb dX4_film_51 (lv_at hl 3 rfl) ?_
      refine lv_aload hx hb dX4_film_53 (lv_at hl 1 rfl) ?_
      refine gSh (v := .int ((S_51 (5 + a1.toNatClampNeg)).1 1)) hx hb hts hiX1 hown hw (isSh_of b39) rfl 1 (by decide) (hts (.fieldLink RX4 250 "SecondHome$Sheet" "size" "I") (by decide +kernel)) rfl dX4_film_55 ?_
      refine lv_icmp_ge (tgt := 88) hx hb dX4_film_58 (by decide) (fun c58 => ?_) (fun c58 => ?_)
      · replace h := o_t c58 h
        refine lv_aload hx hb dX4_film_88 (lv_at hl 1 rfl) ?_
        refine gSh (v := .int ((S_51 (5 + a1.toNatClampNeg)).1 1)) hx hb hts hiX1 hown hw (isSh_of b39) rfl 1 (by decide) (hts (.fieldLink RX4 250 "SecondHome$Sheet" "size" "I") (by decide +kernel)) rfl dX4_film_90 ?_
        exact rI hQ hx hb hr hlk hw dX4_film_93 (o_2a h) (o_2b h) rfl
      · replace h := o_f c58 h
        refine lv_aload hx hb dX4_film_61 (lv_at hl 1 rfl) ?_
        refine lv_iload hx hb dX4_film_63 (lv_at hl 3 rfl) ?_
        refine lv_aload hx hb dX4_film_65 (lv_at hl 2 rfl) ?_
        refine gTk (v := .ref (sA G 2 6)) hx hb hts hiX3 hown hw (Or.inr (Or.inl rfl)) rfl 11 (by decide) (hts (.fieldLink RX4 91 "SecondHome$Track" "yards" "[I") (by decide +kernel)) rfl dX4_film_67 ?_
        refine lv_iload_n hx hb dX4_film_70 rfl (lv_at hl 0 rfl) ?_
        obtain ⟨b71, h⟩ := o_in h
        refine ldTk hx hb hw (Or.inr (Or.inl rfl)) rfl 5 (by decide) b71 dX4_film_71 ?_
        refine lv_i2l hx hb dX4_film_72 rfl ?_
        obtain ⟨q73, eq73, h⟩ := o_bd h
        refine kV (As := [.int x6_51, .long (((S_51 2).2.1 5 a2.toNatClampNeg).toInt64)]) (rest := []) (st' := []) ⟨hx, hb, hml, hown, hts⟩ (kX1_put l G (isSh_of b39) rfl eq73) (cwV 2 hts gX4_film_X1_put rfl rfl rfl qqX1_put ⟨Nat.le_of_ble_eq_true rfl, Nat.le_of_ble_eq_true rfl⟩) hw (rvSh hw (isSh_of b39)) rfl hl.1 rfl (Nat.le_of_ble_eq_true rfl) dX4_film_73 ⟨Nat.zero_le _, Nat.zero_le _⟩ rfl (fun H locs hw => ?_)
        obtain ⟨S73, eS73, h⟩ := o_nm h
        rw [← eS73] at hw
        refine lv_aload hx hb dX4_film_76 (lv_at hl 2 rfl) ?_
        refine lv_iconst (v := 1) hx hb dX4_film_78 (by decide) ?_
        obtain ⟨q79, eq79, h⟩ := o_bd h
        refine kV (As := [.int (1 : Int32)]) (rest := []) (st' := []) ⟨hx, hb, hml, hown, hts⟩ (kX3_goOn l G (Or.inr (Or.inl rfl)) rfl eq79) (cwV 1 hts gX4_film_X3_goOn rfl rfl rfl qqX3_goOn ⟨Nat.le_of_ble_eq_true rfl, Nat.le_of_ble_eq_true rfl⟩) hw (rvTk hw (Or.inr (Or.inl rfl))) rfl hl.1 rfl (Nat.le_of_ble_eq_true rfl) dX4_film_79 ⟨Nat.zero_le _, Nat.zero_le _⟩ rfl (fun H locs hw => ?_)
        obtain ⟨S79, eS79, h⟩ := o_nm h
        rw [← eS79] at hw
        obtain ⟨v82, ev82, h⟩ := o_nm h
        refine lv_iinc (v := v82) (lv' := [(6, .int v82), (2, .int a2), (4, .ref (sA G (5 + a1.toNatClampNeg) 0)), (5, .ref (sA G 2 0))]) hx hb dX4_film_82 hl (k := 3) rfl (by rw [ev82]; rfl) (by decide) rfl (fun ls hl => ?_)
        refine lv_goto (tgt := 51) hx hb dX4_film_85 (by decide) ?_
        exact IH51 v82 S79 h _ _ _ hw (lv_sub hl [1, 2, 3, 0] rfl)
    · replace h := o_t c24 h
      refine lv_aload_n hx hb dX4_film_27 rfl (lv_at hl 1 rfl) ?_
      refine lv_ldc (v := -1000000001) hx hb hown (hts (.constant RX4 50 (-1000000001)) (by decide +kernel)) dX4_film_28 ?_
      obtain ⟨q30, eq30, h⟩ := o_bd h
      refine kV (As := [.int (-1000000001 : Int32)]) (rest := []) (st' := [.int q30.1]) ⟨hx, hb, hml, hown, hts⟩ (kX4_found l G eq30) (cwV 1 hts gX4_film_X4_found rfl rfl rfl qqX4_found ⟨Nat.le_of_ble_eq_true rfl, Nat.le_of_ble_eq_true rfl⟩) hw (rvOw hw) rfl hl.1 rfl (Nat.le_of_ble_eq_true rfl) dX4_film_30 ⟨Nat.zero_le _, Nat.zero_le _⟩ rfl (fun H locs hw => ?_)
      exact rI hQ hx hb hr hlk hw dX4_film_33 (o_2a h) (o_2b h) rfl
  · replace h := o_f c7 h
    refine lv_aload_n hx hb dX4_film_10 rfl (lv_at hl 1 rfl) ?_
    refine lv_iload_n hx hb dX4_film_11 rfl (lv_at hl 0 rfl) ?_
    obtain ⟨q12, eq12, h⟩ := o_bd h
    refine kV (As := [.int q2]) (rest := []) (st' := [.int q12.1]) ⟨hx, hb, hml, hown, hts⟩ (kX4_found l G eq12) (cwV 1 hts gX4_film_X4_found rfl rfl rfl qqX4_found ⟨Nat.le_of_ble_eq_true rfl, Nat.le_of_ble_eq_true rfl⟩) hw (rvOw hw) rfl hl.1 rfl (Nat.le_of_ble_eq_true rfl) dX4_film_12 ⟨Nat.zero_le _, Nat.zero_le _⟩ rfl (fun H locs hw => ?_)
    exact rI hQ hx hb hr hlk hw dX4_film_15 (o_2a h) (o_2b h) rfl
-- X4_allFitting
set_option maxRecDepth 100000 in
set_option maxHeartbeats 4000000 in
theorem kX4_allFitting (l : Launch) (G : sGl) {S : sWo} {M : sOb} {j : Nat} {q : (Int32 × sWo)} (hj : isSh j) (h : fX4_allFitting S j = some q) : sCt l G yX4_allFitting wsX4_allFitting rmX4_allFitting [.ref (sA G 0 0), .ref (sA G j 0)] S M (some (.int q.1)) q.2 M := by
  refine cMk (cc := cX4_allFitting) (maxL := 6) (ret := (some .int)) (by decide) rfl (Nat.le_of_ble_eq_true rfl) ?_
  intro p e s m args below meth c Q hQ hx hb hr hlk hml hown hts hw ls hl
  have hown : s.vm.findClass RX4 = some m.cls := hown
  have hl : lv_has ls 6 [(0, .ref (sA G 0 0)), (1, .ref (sA G j 0))] := hl
  have hiX1 : ∀ w ∈ u_ws RX1 TX1 3, w ∈ wsX4_allFitting := by decide +kernel
  have hiX3 : ∀ w ∈ u_ws RX3 TX3 15, w ∈ wsX4_allFitting := by decide +kernel
  unfold fX4_allFitting at h
  refine lv_aload_n hx hb dX4_allFitting_0 rfl (lv_at hl 0 rfl) ?_
  obtain ⟨q1, eq1, h⟩ := o_bd h
  refine kV (As := []) (rest := []) (st' := [.ref (sA G 2 0)]) ⟨hx, hb, hml, hown, hts⟩ (kX4_tryOut l G eq1) (cwV 0 hts gX4_allFitting_X4_tryOut rfl rfl rfl qqX4_tryOut ⟨Nat.le_of_ble_eq_true rfl, Nat.le_of_ble_eq_true rfl⟩) hw (rvOw hw) rfl hl.1 rfl (Nat.le_of_ble_eq_true rfl) dX4_allFitting_1 ⟨Nat.zero_le _, Nat.zero_le _⟩ rfl (fun H locs hw => ?_)
  refine lv_astore_n (lv' := [(2, .ref (sA G 2 0)), (0, .ref (sA G 0 0)), (1, .ref (sA G j 0))]) hx hb dX4_allFitting_4 rfl hl (by decide) rfl (fun ls hl => ?_)
  refine lv_iconst (v := 1) hx hb dX4_allFitting_5 (by decide) ?_
  refine lv_aload_n hx hb dX4_allFitting_6 rfl (lv_at hl 0 rfl) ?_
  refine gTk (v := .int ((q1 2).1 4)) hx hb hts hiX3 hown hw (Or.inr (Or.inl rfl)) rfl 4 (by decide) (hts (.fieldLink RX4 64 "SecondHome$Track" "count" "I") (by decide +kernel)) rfl dX4_allFitting_7 ?_
  refine lv_ishl hx hb dX4_allFitting_10 ?_
  refine lv_iconst (v := 1) hx hb dX4_allFitting_11 (by decide) ?_
  refine lv_isub hx hb dX4_allFitting_12 ?_
  refine lv_topi (fun v13 ev13 => ?_)
  replace h := o_nx ev13 h
  refine lv_istore_n (lv' := [(3, .int v13), (2, .ref (sA G 2 0)), (0, .ref (sA G 0 0)), (1, .ref (sA G j 0))]) hx hb dX4_allFitting_13 rfl hl (by decide) rfl (fun ls hl => ?_)
  refine lv_iconst (v := 0) hx hb dX4_allFitting_14 (by decide) ?_
  refine lv_istore (lv' := [(4, .int (0 : Int32)), (3, .int v13), (2, .ref (sA G 2 0)), (0, .ref (sA G 0 0)), (1, .ref (sA G j 0))]) hx hb dX4_allFitting_15 hl (by decide) rfl (fun ls hl => ?_)
  refine fx3_w (F := (bX4_allFitting_17 j)) (P := fun x3_17 x4_17 S_17 => ∀ (H : Heap) (locs : List Loc) (ls : Array Slot), sHw G s S_17 M H locs → lv_has ls 6 [(1, .ref (sA G j 0)), (2, .ref (sA G 2 0)), (3, .int x3_17), (4, .int x4_17)] → W p l e rmX4_allFitting s m args below meth c H locs 0 0 Q (F0 m 17 ls [])) ?_ _ _ _ _ h _ _ _ hw (lv_sub hl [4, 2, 1, 0] rfl)
  intro rc17 IH17 x3_17 x4_17 S_17 h H locs ls hw hl
  unfold bX4_allFitting_17 at h
  refine lv_iload hx hb dX4_allFitting_17 (lv_at hl 3 rfl) ?_
  refine lv_aload_n hx hb dX4_allFitting_19 rfl (lv_at hl 0 rfl) ?_
  refine gSh (v := .int ((S_17 j).1 1)) hx hb hts hiX1 hown hw hj rfl 1 (by decide) (hts (.fieldLink RX4 250 "SecondHome$Sheet" "size" "I") (by decide +kernel)) rfl dX4_allFitting_20 ?_
  refine lv_icmp_ge (tgt := 87) hx hb dX4_allFitting_23 (by decide) (fun c23 => ?_) (fun c23 => ?_)
  · replace h := o_t c23 h
    refine lv_iload_n hx hb dX4_allFitting_87 rfl (lv_at hl 2 rfl) ?_
    exact rI hQ hx hb hr hlk hw dX4_allFitting_88 (o_2a h) (o_2b h) rfl
  · replace h := o_f c23 h
    refine lv_iload_n hx hb dX4_allFitting_26 rfl (lv_at hl 2 rfl) ?_
    refine lv_if_eq (tgt := 87) hx hb dX4_allFitting_27 (by decide) (fun c27 => ?_) (fun c27 => ?_)
    · replace h := o_t c27 h
      refine lv_iload_n hx hb dX4_allFitting_87 rfl (lv_at hl 2 rfl) ?_
      exact rI hQ hx hb hr hlk hw dX4_allFitting_88 (o_2a h) (o_2b h) rfl
    · replace h := o_f c27 h
      refine lv_iconst (v := 0) hx hb dX4_allFitting_30 (by decide) ?_
      refine lv_istore (lv' := [(5, .int (0 : Int32)), (1, .ref (sA G j 0)), (2, .ref (sA G 2 0)), (3, .int x3_17), (4, .int x4_17)]) hx hb dX4_allFitting_31 hl (by decide) rfl (fun ls hl => ?_)
      obtain ⟨k76, ek76, h⟩ := o_nm h
      have J76 : ∀ (x3_76 : Int32) (H : Heap) (locs : List Loc) (ls : Array Slot), sHw G s S_17 M H locs → lv_has ls 6 [(1, .ref (sA G j 0)), (2, .ref (sA G 2 0)), (3, .int x3_76), (4, .int x4_17)] → k76 x3_76 = some q → W p l e rmX4_allFitting s m args below meth c H locs 0 0 Q (F0 m 76 ls []) := by
        intro x3_76 H locs ls hw hl h
        replace h := o_j1 ek76 h
        refine lv_aload_n hx hb dX4_allFitting_76 rfl (lv_at hl 1 rfl) ?_
        refine lv_iconst (v := 1) hx hb dX4_allFitting_77 (by decide) ?_
        obtain ⟨q78, eq78, h⟩ := o_bd h
        refine kV (As := [.int (1 : Int32)]) (rest := []) (st' := []) ⟨hx, hb, hml, hown, hts⟩ (kX3_goOn l G (Or.inr (Or.inl rfl)) rfl eq78) (cwV 1 hts gX4_allFitting_X3_goOn rfl rfl rfl qqX3_goOn ⟨Nat.le_of_ble_eq_true rfl, Nat.le_of_ble_eq_true rfl⟩) hw (rvTk hw (Or.inr (Or.inl rfl))) rfl hl.1 rfl (Nat.le_of_ble_eq_true rfl) dX4_allFitting_78 ⟨Nat.zero_le _, Nat.zero_le _⟩ rfl (fun H locs hw => ?_)
        obtain ⟨S78, eS78, h⟩ := o_nm h
        rw [← eS78] at hw
        obtain ⟨v81, ev81, h⟩ := o_nm h
        refine lv_iinc (v := v81) (lv' := [(4, .int v81), (1, .ref (sA G j 0)), (2, .ref (sA G 2 0)), (3, .int x3_76)]) hx hb dX4_allFitting_81 hl (k := 3) rfl (by rw [ev81]; rfl) (by decide) rfl (fun ls hl => ?_)
        refine lv_goto (tgt := 17) hx hb dX4_allFitting_84 (by decide) ?_
        exact IH17 x3_76 v81 S78 h _ _ _ hw (lv_sub hl [1, 2, 3, 0] rfl)
      refine fx2_w (F := (bX4_allFitting_33 j x4_17 S_17 k76)) (P := fun x3_33 x5_33 => ∀ (H : Heap) (locs : List Loc) (ls : Array Slot), sHw G s S_17 M H locs → lv_has ls 6 [(1, .ref (sA G j 0)), (2, .ref (sA G 2 0)), (3, .int x3_33), (4, .int x4_17), (5, .int x5_33)] → W p l e rmX4_allFitting s m args below meth c H locs 0 0 Q (F0 m 33 ls [])) ?_ _ _ _ h _ _ _ hw (lv_sub hl [1, 2, 3, 4, 0] rfl)
      intro rc33 IH33 x3_33 x5_33 h H locs ls hw hl
      unfold bX4_allFitting_33 at h
      refine lv_iload hx hb dX4_allFitting_33 (lv_at hl 4 rfl) ?_
      refine lv_aload_n hx hb dX4_allFitting_35 rfl (lv_at hl 1 rfl) ?_
      refine gTk (v := .int ((S_17 2).1 4)) hx hb hts hiX3 hown hw (Or.inr (Or.inl rfl)) rfl 4 (by decide) (hts (.fieldLink RX4 64 "SecondHome$Track" "count" "I") (by decide +kernel)) rfl dX4_allFitting_36 ?_
      refine lv_icmp_ge (tgt := 76) hx hb dX4_allFitting_39 (by decide) (fun c39 => ?_) (fun c39 => ?_)
      · replace h := o_t c39 h
        exact J76 x3_33 _ _ _ hw (lv_sub hl [0, 1, 2, 3] rfl) h
      · replace h := o_f c39 h
        refine lv_aload_n hx hb dX4_allFitting_42 rfl (lv_at hl 1 rfl) ?_
        refine gTk (v := .ref (sA G 2 6)) hx hb hts hiX3 hown hw (Or.inr (Or.inl rfl)) rfl 11 (by decide) (hts (.fieldLink RX4 91 "SecondHome$Track" "yards" "[I") (by decide +kernel)) rfl dX4_allFitting_43 ?_
        refine lv_iload hx hb dX4_allFitting_46 (lv_at hl 4 rfl) ?_
        obtain ⟨b48, h⟩ := o_in h
        refine ldTk hx hb hw (Or.inr (Or.inl rfl)) rfl 5 (by decide) b48 dX4_allFitting_48 ?_
        refine lv_i2l hx hb dX4_allFitting_49 rfl ?_
        refine lv_aload_n hx hb dX4_allFitting_50 rfl (lv_at hl 0 rfl) ?_
        refine gSh (v := .ref (sA G j 1)) hx hb hts hiX1 hown hw hj rfl 2 (by decide) (hts (.fieldLink RX4 226 "SecondHome$Sheet" "numbers" "[J") (by decide +kernel)) rfl dX4_allFitting_51 ?_
        refine lv_iload hx hb dX4_allFitting_54 (lv_at hl 3 rfl) ?_
        obtain ⟨b56, h⟩ := o_in h
        refine ldSh hx hb hw hj rfl b56 dX4_allFitting_56 ?_
        refine W.lcmp hx hb dX4_allFitting_57 ?_
        refine lv_if_eq (tgt := 70) hx hb dX4_allFitting_58 (by decide) (fun c58 => ?_) (fun c58 => ?_)
        · replace h := o_t c58 h
          obtain ⟨v70, ev70, h⟩ := o_nm h
          refine lv_iinc (v := v70) (lv' := [(5, .int v70), (1, .ref (sA G j 0)), (2, .ref (sA G 2 0)), (3, .int x3_33), (4, .int x4_17)]) hx hb dX4_allFitting_70 hl (k := 4) rfl (by rw [ev70]; rfl) (by decide) rfl (fun ls hl => ?_)
          refine lv_goto (tgt := 33) hx hb dX4_allFitting_73 (by decide) ?_
          exact IH33 x3_33 v70 h _ _ _ hw (lv_sub hl [1, 2, 3, 4, 0] rfl)
        · replace h := o_f c58 h
          refine lv_iload_n hx hb dX4_allFitting_61 rfl (lv_at hl 2 rfl) ?_
          refine lv_iconst (v := 1) hx hb dX4_allFitting_62 (by decide) ?_
          refine lv_iload hx hb dX4_allFitting_63 (lv_at hl 4 rfl) ?_
          refine lv_ishl hx hb dX4_allFitting_65 ?_
          refine lv_iconst (v := -1) hx hb dX4_allFitting_66 (by decide) ?_
          refine lv_ixor hx hb dX4_allFitting_67 ?_
          refine lv_iand hx hb dX4_allFitting_68 ?_
          refine lv_topi (fun v69 ev69 => ?_)
          replace h := o_nx ev69 h
          refine lv_istore_n (lv' := [(3, .int v69), (1, .ref (sA G j 0)), (2, .ref (sA G 2 0)), (4, .int x4_17), (5, .int x5_33)]) hx hb dX4_allFitting_69 rfl hl (by decide) rfl (fun ls hl => ?_)
          obtain ⟨v70, ev70, h⟩ := o_nm h
          refine lv_iinc (v := v70) (lv' := [(5, .int v70), (3, .int v69), (1, .ref (sA G j 0)), (2, .ref (sA G 2 0)), (4, .int x4_17)]) hx hb dX4_allFitting_70 hl (k := 4) rfl (by rw [ev70]; rfl) (by decide) rfl (fun ls hl => ?_)
          refine lv_goto (tgt := 33) hx hb dX4_allFitting_73 (by decide) ?_
          exact IH33 v69 v70 h _ _ _ hw (lv_sub hl [2, 3, 1, 4, 0] rfl)
-- X4_read
set_option maxRecDepth 100000 in
set_option maxHeartbeats 4000000 in
theorem kX4_read (l : Launch) (G : sGl) {S : sWo} {M : sOb} {a1 : Int32} {q : (Int32 × sWo)}  (h : fX4_read S a1 = some q) : sCt l G yX4_read wsX4_read rmX4_read [.ref (sA G 0 0), .int a1] S M (some (.int q.1)) q.2 M := by
  refine cMk (cc := cX4_read) (maxL := 5) (ret := (some .int)) (by decide) rfl (Nat.le_of_ble_eq_true rfl) ?_
  intro p e s m args below meth c Q hQ hx hb hr hlk hml hown hts hw ls hl
  have hown : s.vm.findClass RX4 = some m.cls := hown
  have hl : lv_has ls 5 [(0, .ref (sA G 0 0)), (1, .int a1)] := hl
  have hiX3 : ∀ w ∈ u_ws RX3 TX3 15, w ∈ wsX4_read := by decide +kernel
  have hiX4 : ∀ w ∈ u_ws RX4 TX4 7, w ∈ wsX4_read := by decide +kernel
  unfold fX4_read at h
  refine lv_aload_n hx hb dX4_read_0 rfl (lv_at hl 0 rfl) ?_
  refine lv_iload_n hx hb dX4_read_1 rfl (lv_at hl 1 rfl) ?_
  obtain ⟨q2, eq2, h⟩ := o_bd h
  refine kV (As := [.int a1]) (rest := []) (st' := [.int q2]) ⟨hx, hb, hml, hown, hts⟩ (kX4_sheetRefusal l G eq2) (cwV 1 hts gX4_read_X4_sheetRefusal rfl rfl rfl qqX4_sheetRefusal ⟨Nat.le_of_ble_eq_true rfl, Nat.le_of_ble_eq_true rfl⟩) hw (rvOw hw) rfl hl.1 rfl (Nat.le_of_ble_eq_true rfl) dX4_read_2 ⟨Nat.zero_le _, Nat.zero_le _⟩ rfl (fun H locs hw => ?_)
  refine lv_istore_n (lv' := [(2, .int q2), (0, .ref (sA G 0 0)), (1, .int a1)]) hx hb dX4_read_5 rfl hl (by decide) rfl (fun ls hl => ?_)
  refine lv_iload_n hx hb dX4_read_6 rfl (lv_at hl 0 rfl) ?_
  refine lv_if_eq (tgt := 16) hx hb dX4_read_7 (by decide) (fun c7 => ?_) (fun c7 => ?_)
  · replace h := o_t c7 h
    refine lv_aload_n hx hb dX4_read_16 rfl (lv_at hl 1 rfl) ?_
    refine lv_aload_n hx hb dX4_read_17 rfl (lv_at hl 1 rfl) ?_
    refine gOw (v := .ref (sA G 0 2)) hx hb hts hiX4 hown hw 5 (by decide) (hts (.fieldLink RX4 31 "SecondHome" "sheets" "[LSecondHome$Sheet;") (by decide +kernel)) rfl dX4_read_18 ?_
    refine lv_iload_n hx hb dX4_read_21 rfl (lv_at hl 2 rfl) ?_
    obtain ⟨b22, h⟩ := o_in h
    refine aaOw hx hb hw b22 dX4_read_22 ?_
    obtain ⟨q23, eq23, h⟩ := o_bd h
    refine kV (As := [.ref (sA G (5 + a1.toNatClampNeg) 0)]) (rest := []) (st' := [.int q23.1]) ⟨hx, hb, hml, hown, hts⟩ (kX4_allFitting l G (isSh_of b22) eq23) (cwV 1 hts gX4_read_X4_allFitting rfl rfl rfl qqX4_allFitting ⟨Nat.le_of_ble_eq_true rfl, Nat.le_of_ble_eq_true rfl⟩) hw (rvOw hw) rfl hl.1 rfl (Nat.le_of_ble_eq_true rfl) dX4_read_23 ⟨Nat.zero_le _, Nat.zero_le _⟩ rfl (fun H locs hw => ?_)
    refine lv_istore_n (lv' := [(3, .int q23.1), (2, .int q2), (0, .ref (sA G 0 0)), (1, .int a1)]) hx hb dX4_read_26 rfl hl (by decide) rfl (fun ls hl => ?_)
    refine lv_iconst (v := 0) hx hb dX4_read_27 (by decide) ?_
    refine lv_istore (lv' := [(4, .int (0 : Int32)), (3, .int q23.1), (2, .int q2), (0, .ref (sA G 0 0)), (1, .int a1)]) hx hb dX4_read_28 hl (by decide) rfl (fun ls hl => ?_)
    refine fx1_w (F := (bX4_read_30 q23)) (P := fun x4_30 => ∀ (H : Heap) (locs : List Loc) (ls : Array Slot), sHw G s q23.2 M H locs → lv_has ls 5 [(0, .ref (sA G 0 0)), (3, .int q23.1), (4, .int x4_30)] → W p l e rmX4_read s m args below meth c H locs 0 0 Q (F0 m 30 ls [])) ?_ _ _ h _ _ _ hw (lv_sub hl [3, 1, 0] rfl)
    intro rc30 IH30 x4_30 h H locs ls hw hl
    unfold bX4_read_30 at h
    refine lv_iload hx hb dX4_read_30 (lv_at hl 2 rfl) ?_
    refine lv_aload_n hx hb dX4_read_32 rfl (lv_at hl 0 rfl) ?_
    refine gOw (v := .ref (sA G 1 0)) hx hb hts hiX4 hown hw 0 (by decide) (hts (.fieldLink RX4 10 "SecondHome" "track" "LSecondHome$Track;") (by decide +kernel)) rfl dX4_read_33 ?_
    refine gTk (v := .int ((q23.2 1).1 4)) hx hb hts hiX3 hown hw (Or.inl rfl) rfl 4 (by decide) (hts (.fieldLink RX4 64 "SecondHome$Track" "count" "I") (by decide +kernel)) rfl dX4_read_36 ?_
    refine lv_icmp_ge (tgt := 60) hx hb dX4_read_39 (by decide) (fun c39 => ?_) (fun c39 => ?_)
    · replace h := o_t c39 h
      refine lv_aload_n hx hb dX4_read_60 rfl (lv_at hl 0 rfl) ?_
      refine lv_ldc (v := -1000000004) hx hb hown (hts (.constant RX4 178 (-1000000004)) (by decide +kernel)) dX4_read_61 ?_
      obtain ⟨q63, eq63, h⟩ := o_bd h
      refine kV (As := [.int (-1000000004 : Int32)]) (rest := []) (st' := [.int q63.1]) ⟨hx, hb, hml, hown, hts⟩ (kX4_found l G eq63) (cwV 1 hts gX4_read_X4_found rfl rfl rfl qqX4_found ⟨Nat.le_of_ble_eq_true rfl, Nat.le_of_ble_eq_true rfl⟩) hw (rvOw hw) rfl hl.1 rfl (Nat.le_of_ble_eq_true rfl) dX4_read_63 ⟨Nat.zero_le _, Nat.zero_le _⟩ rfl (fun H locs hw => ?_)
      exact rI hQ hx hb hr hlk hw dX4_read_66 (o_2a h) (o_2b h) rfl
    · replace h := o_f c39 h
      refine lv_iload_n hx hb dX4_read_42 rfl (lv_at hl 1 rfl) ?_
      refine lv_iconst (v := 1) hx hb dX4_read_43 (by decide) ?_
      refine lv_iload hx hb dX4_read_44 (lv_at hl 2 rfl) ?_
      refine lv_ishl hx hb dX4_read_46 ?_
      refine lv_iand hx hb dX4_read_47 ?_
      refine lv_if_eq (tgt := 54) hx hb dX4_read_48 (by decide) (fun c48 => ?_) (fun c48 => ?_)
      · replace h := o_t c48 h
        obtain ⟨v54, ev54, h⟩ := o_nm h
        refine lv_iinc (v := v54) (lv' := [(4, .int v54), (0, .ref (sA G 0 0)), (3, .int q23.1)]) hx hb dX4_read_54 hl (k := 2) rfl (by rw [ev54]; rfl) (by decide) rfl (fun ls hl => ?_)
        refine lv_goto (tgt := 30) hx hb dX4_read_57 (by decide) ?_
        exact IH30 v54 h _ _ _ hw (lv_sub hl [1, 2, 0] rfl)
      · replace h := o_f c48 h
        refine lv_iload hx hb dX4_read_51 (lv_at hl 2 rfl) ?_
        exact rI hQ hx hb hr hlk hw dX4_read_53 (o_2a h) (o_2b h) rfl
  · replace h := o_f c7 h
    refine lv_aload_n hx hb dX4_read_10 rfl (lv_at hl 1 rfl) ?_
    refine lv_iload_n hx hb dX4_read_11 rfl (lv_at hl 0 rfl) ?_
    obtain ⟨q12, eq12, h⟩ := o_bd h
    refine kV (As := [.int q2]) (rest := []) (st' := [.int q12.1]) ⟨hx, hb, hml, hown, hts⟩ (kX4_found l G eq12) (cwV 1 hts gX4_read_X4_found rfl rfl rfl qqX4_found ⟨Nat.le_of_ble_eq_true rfl, Nat.le_of_ble_eq_true rfl⟩) hw (rvOw hw) rfl hl.1 rfl (Nat.le_of_ble_eq_true rfl) dX4_read_12 ⟨Nat.zero_le _, Nat.zero_le _⟩ rfl (fun H locs hw => ?_)
    exact rI hQ hx hb hr hlk hw dX4_read_15 (o_2a h) (o_2b h) rfl
-- X4_image
set_option maxRecDepth 100000 in
set_option maxHeartbeats 4000000 in
theorem kX4_image (l : Launch) (G : sGl) {S : sWo} {M : sOb}  {q : (Int32 × sWo)}  (h : fX4_image S = some q) : sCt l G yX4_image wsX4_image rmX4_image [.ref (sA G 0 0)] S M (some (.int q.1)) q.2 M := by
  refine cMk (cc := cX4_image) (maxL := 1) (ret := (some .int)) (by decide) rfl (Nat.le_of_ble_eq_true rfl) ?_
  intro p e s m args below meth c Q hQ hx hb hr hlk hml hown hts hw ls hl
  have hown : s.vm.findClass RX4 = some m.cls := hown
  have hl : lv_has ls 1 [(0, .ref (sA G 0 0))] := hl
  have hiX4 : ∀ w ∈ u_ws RX4 TX4 7, w ∈ wsX4_image := by decide +kernel
  unfold fX4_image at h
  refine lv_aload_n hx hb dX4_image_0 rfl (lv_at hl 0 rfl) ?_
  refine gOw (v := .ref (sA G 3 0)) hx hb hts hiX4 hown hw 2 (by decide) (hts (.fieldLink RX4 19 "SecondHome" "kept" "LSecondHome$Track;") (by decide +kernel)) rfl dX4_image_1 ?_
  refine lv_aload_n hx hb dX4_image_4 rfl (lv_at hl 0 rfl) ?_
  refine gOw (v := .ref (sA G 1 0)) hx hb hts hiX4 hown hw 0 (by decide) (hts (.fieldLink RX4 10 "SecondHome" "track" "LSecondHome$Track;") (by decide +kernel)) rfl dX4_image_5 ?_
  obtain ⟨q8, eq8, h⟩ := o_bd h
  refine kV (As := [.ref (sA G 1 0)]) (rest := []) (st' := []) ⟨hx, hb, hml, hown, hts⟩ (kX3_takeOver l G (Or.inr (Or.inr rfl)) (Or.inl rfl) (by decide) rfl rfl eq8) (cwV 1 hts gX4_image_X3_takeOver rfl rfl rfl qqX3_takeOver ⟨Nat.le_of_ble_eq_true rfl, Nat.le_of_ble_eq_true rfl⟩) hw (rvTk hw (Or.inr (Or.inr rfl))) rfl hl.1 rfl (Nat.le_of_ble_eq_true rfl) dX4_image_8 ⟨Nat.zero_le _, Nat.zero_le _⟩ rfl (fun H locs hw => ?_)
  obtain ⟨S8, eS8, h⟩ := o_nm h
  rw [← eS8] at hw
  refine lv_aload_n hx hb dX4_image_11 rfl (lv_at hl 0 rfl) ?_
  refine lv_iconst (v := 1) hx hb dX4_image_12 (by decide) ?_
  refine pOw hx hb hts hiX4 hown hw (Or.inr rfl) (hts (.fieldLink RX4 257 "SecondHome" "hasKept" "Z") (by decide +kernel)) dX4_image_13 rfl (fun H locs hw => ?_)
  obtain ⟨S13, eS13, h⟩ := o_nm h
  rw [← eS13] at hw
  refine lv_iconst (v := 1) hx hb dX4_image_16 (by decide) ?_
  exact rI hQ hx hb hr hlk hw dX4_image_17 (o_2a h) (o_2b h) rfl
-- X4_undo
set_option maxRecDepth 100000 in
set_option maxHeartbeats 4000000 in
theorem kX4_undo (l : Launch) (G : sGl) {S : sWo} {M : sOb}  {q : (Int32 × sWo)}  (h : fX4_undo S = some q) : sCt l G yX4_undo wsX4_undo rmX4_undo [.ref (sA G 0 0)] S M (some (.int q.1)) q.2 M := by
  refine cMk (cc := cX4_undo) (maxL := 1) (ret := (some .int)) (by decide) rfl (Nat.le_of_ble_eq_true rfl) ?_
  intro p e s m args below meth c Q hQ hx hb hr hlk hml hown hts hw ls hl
  have hown : s.vm.findClass RX4 = some m.cls := hown
  have hl : lv_has ls 1 [(0, .ref (sA G 0 0))] := hl
  have hiX3 : ∀ w ∈ u_ws RX3 TX3 15, w ∈ wsX4_undo := by decide +kernel
  have hiX4 : ∀ w ∈ u_ws RX4 TX4 7, w ∈ wsX4_undo := by decide +kernel
  unfold fX4_undo at h
  refine lv_aload_n hx hb dX4_undo_0 rfl (lv_at hl 0 rfl) ?_
  refine gOw (v := .int ((S 0).1 0)) hx hb hts hiX4 hown hw 3 (by decide) (hts (.fieldLink RX4 257 "SecondHome" "hasKept" "Z") (by decide +kernel)) rfl dX4_undo_1 ?_
  refine lv_if_ne (tgt := 14) hx hb dX4_undo_4 (by decide) (fun c4 => ?_) (fun c4 => ?_)
  · replace h := o_f c4 h
    refine lv_aload_n hx hb dX4_undo_14 rfl (lv_at hl 0 rfl) ?_
    refine gOw (v := .ref (sA G 1 0)) hx hb hts hiX4 hown hw 0 (by decide) (hts (.fieldLink RX4 10 "SecondHome" "track" "LSecondHome$Track;") (by decide +kernel)) rfl dX4_undo_15 ?_
    refine lv_aload_n hx hb dX4_undo_18 rfl (lv_at hl 0 rfl) ?_
    refine gOw (v := .ref (sA G 3 0)) hx hb hts hiX4 hown hw 2 (by decide) (hts (.fieldLink RX4 19 "SecondHome" "kept" "LSecondHome$Track;") (by decide +kernel)) rfl dX4_undo_19 ?_
    obtain ⟨q22, eq22, h⟩ := o_bd h
    refine kV (As := [.ref (sA G 3 0)]) (rest := []) (st' := []) ⟨hx, hb, hml, hown, hts⟩ (kX3_takeOver l G (Or.inl rfl) (Or.inr (Or.inr rfl)) (by decide) rfl rfl eq22) (cwV 1 hts gX4_undo_X3_takeOver rfl rfl rfl qqX3_takeOver ⟨Nat.le_of_ble_eq_true rfl, Nat.le_of_ble_eq_true rfl⟩) hw (rvTk hw (Or.inl rfl)) rfl hl.1 rfl (Nat.le_of_ble_eq_true rfl) dX4_undo_22 ⟨Nat.zero_le _, Nat.zero_le _⟩ rfl (fun H locs hw => ?_)
    obtain ⟨S22, eS22, h⟩ := o_nm h
    rw [← eS22] at hw
    refine lv_aload_n hx hb dX4_undo_25 rfl (lv_at hl 0 rfl) ?_
    refine gOw (v := .ref (sA G 1 0)) hx hb hts hiX4 hown hw 0 (by decide) (hts (.fieldLink RX4 10 "SecondHome" "track" "LSecondHome$Track;") (by decide +kernel)) rfl dX4_undo_26 ?_
    refine gTk (v := .int ((S22 1).1 4)) hx hb hts hiX3 hown hw (Or.inl rfl) rfl 4 (by decide) (hts (.fieldLink RX4 64 "SecondHome$Track" "count" "I") (by decide +kernel)) rfl dX4_undo_29 ?_
    exact rI hQ hx hb hr hlk hw dX4_undo_32 (o_2a h) (o_2b h) rfl
  · replace h := o_t c4 h
    refine lv_aload_n hx hb dX4_undo_7 rfl (lv_at hl 0 rfl) ?_
    refine lv_ldc (v := -1000000004) hx hb hown (hts (.constant RX4 178 (-1000000004)) (by decide +kernel)) dX4_undo_8 ?_
    obtain ⟨q10, eq10, h⟩ := o_bd h
    refine kV (As := [.int (-1000000004 : Int32)]) (rest := []) (st' := [.int q10.1]) ⟨hx, hb, hml, hown, hts⟩ (kX4_found l G eq10) (cwV 1 hts gX4_undo_X4_found rfl rfl rfl qqX4_found ⟨Nat.le_of_ble_eq_true rfl, Nat.le_of_ble_eq_true rfl⟩) hw (rvOw hw) rfl hl.1 rfl (Nat.le_of_ble_eq_true rfl) dX4_undo_10 ⟨Nat.zero_le _, Nat.zero_le _⟩ rfl (fun H locs hw => ?_)
    exact rI hQ hx hb hr hlk hw dX4_undo_13 (o_2a h) (o_2b h) rfl
-- X4_tear
set_option maxRecDepth 100000 in
set_option maxHeartbeats 4000000 in
theorem kX4_tear (l : Launch) (G : sGl) {S : sWo} {M : sOb}  {q : (Int32 × sWo)}  (h : fX4_tear S = some q) : sCt l G yX4_tear wsX4_tear rmX4_tear [.ref (sA G 0 0)] S M (some (.int q.1)) q.2 M := by
  refine cMk (cc := cX4_tear) (maxL := 2) (ret := (some .int)) (by decide) rfl (Nat.le_of_ble_eq_true rfl) ?_
  intro p e s m args below meth c Q hQ hx hb hr hlk hml hown hts hw ls hl
  have hown : s.vm.findClass RX4 = some m.cls := hown
  have hl : lv_has ls 2 [(0, .ref (sA G 0 0))] := hl
  have hiX4 : ∀ w ∈ u_ws RX4 TX4 7, w ∈ wsX4_tear := by decide +kernel
  unfold fX4_tear at h
  refine lv_aload_n hx hb dX4_tear_0 rfl (lv_at hl 0 rfl) ?_
  refine gOw (v := .int ((S 0).1 0)) hx hb hts hiX4 hown hw 3 (by decide) (hts (.fieldLink RX4 257 "SecondHome" "hasKept" "Z") (by decide +kernel)) rfl dX4_tear_1 ?_
  refine lv_if_eq (tgt := 11) hx hb dX4_tear_4 (by decide) (fun c4 => ?_) (fun c4 => ?_)
  · replace h := o_t c4 h
    refine lv_iconst (v := 0) hx hb dX4_tear_11 (by decide) ?_
    refine lv_istore_n (lv' := [(1, .int (0 : Int32)), (0, .ref (sA G 0 0))]) hx hb dX4_tear_12 rfl hl (by decide) rfl (fun ls hl => ?_)
    refine lv_aload_n hx hb dX4_tear_13 rfl (lv_at hl 1 rfl) ?_
    refine lv_iconst (v := 0) hx hb dX4_tear_14 (by decide) ?_
    refine pOw hx hb hts hiX4 hown hw (Or.inl rfl) (hts (.fieldLink RX4 257 "SecondHome" "hasKept" "Z") (by decide +kernel)) dX4_tear_15 rfl (fun H locs hw => ?_)
    obtain ⟨S15, eS15, h⟩ := o_nm h
    rw [← eS15] at hw
    refine lv_iload_n hx hb dX4_tear_18 rfl (lv_at hl 0 rfl) ?_
    exact rI hQ hx hb hr hlk hw dX4_tear_19 (o_2a h) (o_2b h) rfl
  · replace h := o_f c4 h
    refine lv_iconst (v := 1) hx hb dX4_tear_7 (by decide) ?_
    refine lv_goto (tgt := 12) hx hb dX4_tear_8 (by decide) ?_
    refine lv_istore_n (lv' := [(1, .int (1 : Int32)), (0, .ref (sA G 0 0))]) hx hb dX4_tear_12 rfl hl (by decide) rfl (fun ls hl => ?_)
    refine lv_aload_n hx hb dX4_tear_13 rfl (lv_at hl 1 rfl) ?_
    refine lv_iconst (v := 0) hx hb dX4_tear_14 (by decide) ?_
    refine pOw hx hb hts hiX4 hown hw (Or.inl rfl) (hts (.fieldLink RX4 257 "SecondHome" "hasKept" "Z") (by decide +kernel)) dX4_tear_15 rfl (fun H locs hw => ?_)
    obtain ⟨S15, eS15, h⟩ := o_nm h
    rw [← eS15] at hw
    refine lv_iload_n hx hb dX4_tear_18 rfl (lv_at hl 0 rfl) ?_
    exact rI hQ hx hb hr hlk hw dX4_tear_19 (o_2a h) (o_2b h) rfl
-- X4_sum
set_option maxRecDepth 100000 in
set_option maxHeartbeats 4000000 in
theorem kX4_sum (l : Launch) (G : sGl) {S : sWo} {M : sOb} {k : Nat} {q : Int32} (hk : k < 9) (h : fX4_sum S k = some q) : sCt l G yX4_sum wsX4_sum rmX4_sum [.ref (sA G 0 0), .ref (sA G 1 (k + 1))] S M (some (.int q)) S M := by
  refine cMk (cc := cX4_sum) (maxL := 4) (ret := (some .int)) (by decide) rfl (Nat.le_of_ble_eq_true rfl) ?_
  intro p e s m args below meth c Q hQ hx hb hr hlk hml hown hts hw ls hl
  have hown : s.vm.findClass RX4 = some m.cls := hown
  have hl : lv_has ls 4 [(0, .ref (sA G 0 0)), (1, .ref (sA G 1 (k + 1)))] := hl
  have hiX3 : ∀ w ∈ u_ws RX3 TX3 15, w ∈ wsX4_sum := by decide +kernel
  have hiX4 : ∀ w ∈ u_ws RX4 TX4 7, w ∈ wsX4_sum := by decide +kernel
  unfold fX4_sum at h
  refine lv_iconst (v := 0) hx hb dX4_sum_0 (by decide) ?_
  refine lv_istore_n (lv' := [(2, .int (0 : Int32)), (0, .ref (sA G 0 0)), (1, .ref (sA G 1 (k + 1)))]) hx hb dX4_sum_1 rfl hl (by decide) rfl (fun ls hl => ?_)
  refine lv_iconst (v := 0) hx hb dX4_sum_2 (by decide) ?_
  refine lv_istore_n (lv' := [(3, .int (0 : Int32)), (2, .int (0 : Int32)), (0, .ref (sA G 0 0)), (1, .ref (sA G 1 (k + 1)))]) hx hb dX4_sum_3 rfl hl (by decide) rfl (fun ls hl => ?_)
  refine fx2_w (F := (bX4_sum_4 S k)) (P := fun x2_4 x3_4 => ∀ (H : Heap) (locs : List Loc) (ls : Array Slot), sHw G s S M H locs → lv_has ls 4 [(0, .ref (sA G 0 0)), (1, .ref (sA G 1 (k + 1))), (2, .int x2_4), (3, .int x3_4)] → W p l e rmX4_sum s m args below meth c H locs 0 0 Q (F0 m 4 ls [])) ?_ _ _ _ h _ _ _ hw (lv_sub hl [2, 3, 1, 0] rfl)
  intro rc4 IH4 x2_4 x3_4 h H locs ls hw hl
  unfold bX4_sum_4 at h
  refine lv_iload_n hx hb dX4_sum_4 rfl (lv_at hl 3 rfl) ?_
  refine lv_aload_n hx hb dX4_sum_5 rfl (lv_at hl 0 rfl) ?_
  refine gOw (v := .ref (sA G 1 0)) hx hb hts hiX4 hown hw 0 (by decide) (hts (.fieldLink RX4 10 "SecondHome" "track" "LSecondHome$Track;") (by decide +kernel)) rfl dX4_sum_6 ?_
  refine gTk (v := .int ((S 1).1 4)) hx hb hts hiX3 hown hw (Or.inl rfl) rfl 4 (by decide) (hts (.fieldLink RX4 64 "SecondHome$Track" "count" "I") (by decide +kernel)) rfl dX4_sum_9 ?_
  refine lv_icmp_ge (tgt := 33) hx hb dX4_sum_12 (by decide) (fun c12 => ?_) (fun c12 => ?_)
  · replace h := o_t c12 h
    refine lv_iload_n hx hb dX4_sum_33 rfl (lv_at hl 2 rfl) ?_
    exact rI hQ hx hb hr hlk hw dX4_sum_34 (o_1 h) rfl rfl
  · replace h := o_f c12 h
    refine lv_iload_n hx hb dX4_sum_15 rfl (lv_at hl 3 rfl) ?_
    refine lv_aload_n hx hb dX4_sum_16 rfl (lv_at hl 1 rfl) ?_
    refine lenTk hx hb hw (Or.inl rfl) k hk dX4_sum_17 ?_
    refine lv_icmp_ge (tgt := 33) hx hb dX4_sum_18 (by decide) (fun c18 => ?_) (fun c18 => ?_)
    · replace h := o_t c18 h
      refine lv_iload_n hx hb dX4_sum_33 rfl (lv_at hl 2 rfl) ?_
      exact rI hQ hx hb hr hlk hw dX4_sum_34 (o_1 h) rfl rfl
    · replace h := o_f c18 h
      refine lv_iload_n hx hb dX4_sum_21 rfl (lv_at hl 2 rfl) ?_
      refine lv_aload_n hx hb dX4_sum_22 rfl (lv_at hl 1 rfl) ?_
      refine lv_iload_n hx hb dX4_sum_23 rfl (lv_at hl 3 rfl) ?_
      obtain ⟨b24, h⟩ := o_in h
      refine ldTk hx hb hw (Or.inl rfl) rfl k hk b24 dX4_sum_24 ?_
      refine lv_iadd hx hb dX4_sum_25 ?_
      refine lv_topi (fun v26 ev26 => ?_)
      replace h := o_nx ev26 h
      refine lv_istore_n (lv' := [(2, .int v26), (0, .ref (sA G 0 0)), (1, .ref (sA G 1 (k + 1))), (3, .int x3_4)]) hx hb dX4_sum_26 rfl hl (by decide) rfl (fun ls hl => ?_)
      obtain ⟨v27, ev27, h⟩ := o_nm h
      refine lv_iinc (v := v27) (lv' := [(3, .int v27), (2, .int v26), (0, .ref (sA G 0 0)), (1, .ref (sA G 1 (k + 1)))]) hx hb dX4_sum_27 hl (k := 3) rfl (by rw [ev27]; rfl) (by decide) rfl (fun ls hl => ?_)
      refine lv_goto (tgt := 4) hx hb dX4_sum_30 (by decide) ?_
      exact IH4 v26 v27 h _ _ _ hw (lv_sub hl [2, 3, 1, 0] rfl)
-- X4_count
set_option maxRecDepth 100000 in
set_option maxHeartbeats 4000000 in
theorem kX4_count (l : Launch) (G : sGl) {S : sWo} {M : sOb} {a1 : Int32} {q : (Int32 × sWo)}  (h : fX4_count S a1 = some q) : sCt l G yX4_count wsX4_count rmX4_count [.ref (sA G 0 0), .int a1] S M (some (.int q.1)) q.2 M := by
  refine cMk (cc := cX4_count) (maxL := 2) (ret := (some .int)) (by decide) rfl (Nat.le_of_ble_eq_true rfl) ?_
  intro p e s m args below meth c Q hQ hx hb hr hlk hml hown hts hw ls hl
  have hown : s.vm.findClass RX4 = some m.cls := hown
  have hl : lv_has ls 2 [(0, .ref (sA G 0 0)), (1, .int a1)] := hl
  have hiX2 : ∀ w ∈ u_ws RX2 TX2 6, w ∈ wsX4_count := by decide +kernel
  have hiX3 : ∀ w ∈ u_ws RX3 TX3 15, w ∈ wsX4_count := by decide +kernel
  have hiX4 : ∀ w ∈ u_ws RX4 TX4 7, w ∈ wsX4_count := by decide +kernel
  unfold fX4_count at h
  refine lv_iload_n hx hb dX4_count_0 rfl (lv_at hl 1 rfl) ?_
  by_cases c1_0 : a1 = (0 : Int32)
  · replace h := o_t c1_0 h
    refine lv_tableIn (tgt := 36) hx hb dX4_count_1 (by rw [c1_0]; decide) (by rw [c1_0]; decide) (by rw [c1_0]; rfl) (by decide) ?_
    refine lv_aload_n hx hb dX4_count_36 rfl (lv_at hl 0 rfl) ?_
    refine gOw (v := .ref (sA G 1 0)) hx hb hts hiX4 hown hw 0 (by decide) (hts (.fieldLink RX4 10 "SecondHome" "track" "LSecondHome$Track;") (by decide +kernel)) rfl dX4_count_37 ?_
    refine gTk (v := .int ((S 1).1 4)) hx hb hts hiX3 hown hw (Or.inl rfl) rfl 4 (by decide) (hts (.fieldLink RX4 64 "SecondHome$Track" "count" "I") (by decide +kernel)) rfl dX4_count_40 ?_
    exact rI hQ hx hb hr hlk hw dX4_count_43 (o_2a h) (o_2b h) rfl
  replace h := o_f c1_0 h
  by_cases c1_1 : a1 = (1 : Int32)
  · replace h := o_t c1_1 h
    refine lv_tableIn (tgt := 44) hx hb dX4_count_1 (by rw [c1_1]; decide) (by rw [c1_1]; decide) (by rw [c1_1]; rfl) (by decide) ?_
    refine lv_aload_n hx hb dX4_count_44 rfl (lv_at hl 0 rfl) ?_
    refine gOw (v := .ref (sA G 4 0)) hx hb hts hiX4 hown hw 4 (by decide) (hts (.fieldLink RX4 25 "SecondHome" "tape" "LSecondHome$Tape;") (by decide +kernel)) rfl dX4_count_45 ?_
    refine gTp (v := .int ((S 4).1 0)) hx hb hts hiX2 hown hw rfl 0 (by decide) (hts (.fieldLink RX4 196 "SecondHome$Tape" "size" "I") (by decide +kernel)) rfl dX4_count_48 ?_
    exact rI hQ hx hb hr hlk hw dX4_count_51 (o_2a h) (o_2b h) rfl
  replace h := o_f c1_1 h
  by_cases c1_2 : a1 = (2 : Int32)
  · replace h := o_t c1_2 h
    refine lv_tableIn (tgt := 52) hx hb dX4_count_1 (by rw [c1_2]; decide) (by rw [c1_2]; decide) (by rw [c1_2]; rfl) (by decide) ?_
    refine lv_aload_n hx hb dX4_count_52 rfl (lv_at hl 0 rfl) ?_
    refine lv_aload_n hx hb dX4_count_53 rfl (lv_at hl 0 rfl) ?_
    refine gOw (v := .ref (sA G 1 0)) hx hb hts hiX4 hown hw 0 (by decide) (hts (.fieldLink RX4 10 "SecondHome" "track" "LSecondHome$Track;") (by decide +kernel)) rfl dX4_count_54 ?_
    refine gTk (v := .ref (sA G 1 6)) hx hb hts hiX3 hown hw (Or.inl rfl) rfl 11 (by decide) (hts (.fieldLink RX4 91 "SecondHome$Track" "yards" "[I") (by decide +kernel)) rfl dX4_count_57 ?_
    obtain ⟨q60, eq60, h⟩ := o_bd h
    refine kV (As := [.ref (sA G 1 6)]) (rest := []) (st' := [.int q60]) ⟨hx, hb, hml, hown, hts⟩ (kX4_sum l G (by decide) eq60) (cwV 1 hts gX4_count_X4_sum rfl rfl rfl qqX4_sum ⟨Nat.le_of_ble_eq_true rfl, Nat.le_of_ble_eq_true rfl⟩) hw (rvOw hw) rfl hl.1 rfl (Nat.le_of_ble_eq_true rfl) dX4_count_60 ⟨Nat.zero_le _, Nat.zero_le _⟩ rfl (fun H locs hw => ?_)
    exact rI hQ hx hb hr hlk hw dX4_count_63 (o_2a h) (o_2b h) rfl
  replace h := o_f c1_2 h
  by_cases c1_3 : a1 = (3 : Int32)
  · replace h := o_t c1_3 h
    refine lv_tableIn (tgt := 64) hx hb dX4_count_1 (by rw [c1_3]; decide) (by rw [c1_3]; decide) (by rw [c1_3]; rfl) (by decide) ?_
    refine lv_aload_n hx hb dX4_count_64 rfl (lv_at hl 0 rfl) ?_
    refine lv_aload_n hx hb dX4_count_65 rfl (lv_at hl 0 rfl) ?_
    refine gOw (v := .ref (sA G 1 0)) hx hb hts hiX4 hown hw 0 (by decide) (hts (.fieldLink RX4 10 "SecondHome" "track" "LSecondHome$Track;") (by decide +kernel)) rfl dX4_count_66 ?_
    refine gTk (v := .ref (sA G 1 3)) hx hb hts hiX3 hown hw (Or.inl rfl) rfl 8 (by decide) (hts (.fieldLink RX4 82 "SecondHome$Track" "breaths" "[I") (by decide +kernel)) rfl dX4_count_69 ?_
    obtain ⟨q72, eq72, h⟩ := o_bd h
    refine kV (As := [.ref (sA G 1 3)]) (rest := []) (st' := [.int q72]) ⟨hx, hb, hml, hown, hts⟩ (kX4_sum l G (by decide) eq72) (cwV 1 hts gX4_count_X4_sum rfl rfl rfl qqX4_sum ⟨Nat.le_of_ble_eq_true rfl, Nat.le_of_ble_eq_true rfl⟩) hw (rvOw hw) rfl hl.1 rfl (Nat.le_of_ble_eq_true rfl) dX4_count_72 ⟨Nat.zero_le _, Nat.zero_le _⟩ rfl (fun H locs hw => ?_)
    exact rI hQ hx hb hr hlk hw dX4_count_75 (o_2a h) (o_2b h) rfl
  replace h := o_f c1_3 h
  by_cases c1_4 : a1 = (4 : Int32)
  · replace h := o_t c1_4 h
    refine lv_tableIn (tgt := 76) hx hb dX4_count_1 (by rw [c1_4]; decide) (by rw [c1_4]; decide) (by rw [c1_4]; rfl) (by decide) ?_
    refine lv_aload_n hx hb dX4_count_76 rfl (lv_at hl 0 rfl) ?_
    refine lv_aload_n hx hb dX4_count_77 rfl (lv_at hl 0 rfl) ?_
    refine gOw (v := .ref (sA G 1 0)) hx hb hts hiX4 hown hw 0 (by decide) (hts (.fieldLink RX4 10 "SecondHome" "track" "LSecondHome$Track;") (by decide +kernel)) rfl dX4_count_78 ?_
    refine gTk (v := .ref (sA G 1 7)) hx hb hts hiX3 hown hw (Or.inl rfl) rfl 12 (by decide) (hts (.fieldLink RX4 94 "SecondHome$Track" "points" "[I") (by decide +kernel)) rfl dX4_count_81 ?_
    obtain ⟨q84, eq84, h⟩ := o_bd h
    refine kV (As := [.ref (sA G 1 7)]) (rest := []) (st' := [.int q84]) ⟨hx, hb, hml, hown, hts⟩ (kX4_sum l G (by decide) eq84) (cwV 1 hts gX4_count_X4_sum rfl rfl rfl qqX4_sum ⟨Nat.le_of_ble_eq_true rfl, Nat.le_of_ble_eq_true rfl⟩) hw (rvOw hw) rfl hl.1 rfl (Nat.le_of_ble_eq_true rfl) dX4_count_84 ⟨Nat.zero_le _, Nat.zero_le _⟩ rfl (fun H locs hw => ?_)
    exact rI hQ hx hb hr hlk hw dX4_count_87 (o_2a h) (o_2b h) rfl
  replace h := o_f c1_4 h
  have sw1 : a1.toInt < 0 ∨ 4 < a1.toInt := by
    have z0 := sw_ne c1_0
    have z1 := sw_ne c1_1
    have z2 := sw_ne c1_2
    have z3 := sw_ne c1_3
    have z4 := sw_ne c1_4
    rw [show ((0 : Int32)).toInt = 0 from rfl] at z0
    rw [show ((1 : Int32)).toInt = 1 from rfl] at z1
    rw [show ((2 : Int32)).toInt = 2 from rfl] at z2
    rw [show ((3 : Int32)).toInt = 3 from rfl] at z3
    rw [show ((4 : Int32)).toInt = 4 from rfl] at z4
    omega
  refine lv_tableOut (tgt := 88) hx hb dX4_count_1 sw1 (by decide) ?_
  refine lv_aload_n hx hb dX4_count_88 rfl (lv_at hl 0 rfl) ?_
  refine lv_ldc (v := -1000000001) hx hb hown (hts (.constant RX4 50 (-1000000001)) (by decide +kernel)) dX4_count_89 ?_
  obtain ⟨q91, eq91, h⟩ := o_bd h
  refine kV (As := [.int (-1000000001 : Int32)]) (rest := []) (st' := [.int q91.1]) ⟨hx, hb, hml, hown, hts⟩ (kX4_found l G eq91) (cwV 1 hts gX4_count_X4_found rfl rfl rfl qqX4_found ⟨Nat.le_of_ble_eq_true rfl, Nat.le_of_ble_eq_true rfl⟩) hw (rvOw hw) rfl hl.1 rfl (Nat.le_of_ble_eq_true rfl) dX4_count_91 ⟨Nat.zero_le _, Nat.zero_le _⟩ rfl (fun H locs hw => ?_)
  exact rI hQ hx hb hr hlk hw dX4_count_94 (o_2a h) (o_2b h) rfl
-- X4_status
set_option maxRecDepth 100000 in
set_option maxHeartbeats 4000000 in
theorem kX4_status (l : Launch) (G : sGl) {S : sWo} {M : sOb} {a1 : Int32} {q : (Int32 × sWo)}  (h : fX4_status S a1 = some q) : sCt l G yX4_status wsX4_status rmX4_status [.ref (sA G 0 0), .int a1] S M (some (.int q.1)) q.2 M := by
  refine cMk (cc := cX4_status) (maxL := 4) (ret := (some .int)) (by decide) rfl (Nat.le_of_ble_eq_true rfl) ?_
  intro p e s m args below meth c Q hQ hx hb hr hlk hml hown hts hw ls hl
  have hown : s.vm.findClass RX4 = some m.cls := hown
  have hl : lv_has ls 4 [(0, .ref (sA G 0 0)), (1, .int a1)] := hl
  have hiX4 : ∀ w ∈ u_ws RX4 TX4 7, w ∈ wsX4_status := by decide +kernel
  unfold fX4_status at h
  refine lv_iload_n hx hb dX4_status_0 rfl (lv_at hl 1 rfl) ?_
  refine lv_iconst (v := -1) hx hb dX4_status_1 (by decide) ?_
  refine lv_icmp_lt (tgt := 11) hx hb dX4_status_2 (by decide) (fun c2 => ?_) (fun c2 => ?_)
  · replace h := o_t c2 h
    refine lv_aload_n hx hb dX4_status_11 rfl (lv_at hl 0 rfl) ?_
    refine lv_ldc (v := -1000000001) hx hb hown (hts (.constant RX4 50 (-1000000001)) (by decide +kernel)) dX4_status_12 ?_
    obtain ⟨q14, eq14, h⟩ := o_bd h
    refine kV (As := [.int (-1000000001 : Int32)]) (rest := []) (st' := [.int q14.1]) ⟨hx, hb, hml, hown, hts⟩ (kX4_found l G eq14) (cwV 1 hts gX4_status_X4_found rfl rfl rfl qqX4_found ⟨Nat.le_of_ble_eq_true rfl, Nat.le_of_ble_eq_true rfl⟩) hw (rvOw hw) rfl hl.1 rfl (Nat.le_of_ble_eq_true rfl) dX4_status_14 ⟨Nat.zero_le _, Nat.zero_le _⟩ rfl (fun H locs hw => ?_)
    exact rI hQ hx hb hr hlk hw dX4_status_17 (o_2a h) (o_2b h) rfl
  · replace h := o_f c2 h
    refine lv_iload_n hx hb dX4_status_5 rfl (lv_at hl 1 rfl) ?_
    refine lv_bipush (v := 7) hx hb dX4_status_6 (by decide) ?_
    refine lv_icmp_lt (tgt := 18) hx hb dX4_status_8 (by decide) (fun c8 => ?_) (fun c8 => ?_)
    · replace h := o_t c8 h
      refine lv_iload_n hx hb dX4_status_18 rfl (lv_at hl 1 rfl) ?_
      refine lv_if_lt (tgt := 29) hx hb dX4_status_19 (by decide) (fun c19 => ?_) (fun c19 => ?_)
      · replace h := o_t c19 h
        refine lv_iconst (v := 0) hx hb dX4_status_29 (by decide) ?_
        refine lv_istore_n (lv' := [(2, .int (0 : Int32)), (0, .ref (sA G 0 0)), (1, .int a1)]) hx hb dX4_status_30 rfl hl (by decide) rfl (fun ls hl => ?_)
        refine lv_iconst (v := 0) hx hb dX4_status_31 (by decide) ?_
        refine lv_istore_n (lv' := [(3, .int (0 : Int32)), (2, .int (0 : Int32)), (0, .ref (sA G 0 0)), (1, .int a1)]) hx hb dX4_status_32 rfl hl (by decide) rfl (fun ls hl => ?_)
        refine fx2_w (F := (bX4_status_33 S)) (P := fun x2_33 x3_33 => ∀ (H : Heap) (locs : List Loc) (ls : Array Slot), sHw G s S M H locs → lv_has ls 4 [(0, .ref (sA G 0 0)), (2, .int x2_33), (3, .int x3_33)] → W p l e rmX4_status s m args below meth c H locs 0 0 Q (F0 m 33 ls [])) ?_ _ _ _ h _ _ _ hw (lv_sub hl [2, 1, 0] rfl)
        intro rc33 IH33 x2_33 x3_33 h H locs ls hw hl
        unfold bX4_status_33 at h
        refine lv_iload_n hx hb dX4_status_33 rfl (lv_at hl 2 rfl) ?_
        refine lv_bipush (v := 7) hx hb dX4_status_34 (by decide) ?_
        refine lv_icmp_ge (tgt := 54) hx hb dX4_status_36 (by decide) (fun c36 => ?_) (fun c36 => ?_)
        · replace h := o_t c36 h
          refine lv_iload_n hx hb dX4_status_54 rfl (lv_at hl 1 rfl) ?_
          exact rI hQ hx hb hr hlk hw dX4_status_55 (o_2a h) (o_2b h) rfl
        · replace h := o_f c36 h
          refine lv_iload_n hx hb dX4_status_39 rfl (lv_at hl 1 rfl) ?_
          refine lv_aload_n hx hb dX4_status_40 rfl (lv_at hl 0 rfl) ?_
          refine gOw (v := .ref (sA G 0 1)) hx hb hts hiX4 hown hw 6 (by decide) (hts (.fieldLink RX4 35 "SecondHome" "findings" "[I") (by decide +kernel)) rfl dX4_status_41 ?_
          refine lv_iload_n hx hb dX4_status_44 rfl (lv_at hl 2 rfl) ?_
          obtain ⟨b45, h⟩ := o_in h
          refine ldOw hx hb hw b45 dX4_status_45 ?_
          refine lv_iadd hx hb dX4_status_46 ?_
          refine lv_topi (fun v47 ev47 => ?_)
          replace h := o_nx ev47 h
          refine lv_istore_n (lv' := [(2, .int v47), (0, .ref (sA G 0 0)), (3, .int x3_33)]) hx hb dX4_status_47 rfl hl (by decide) rfl (fun ls hl => ?_)
          obtain ⟨v48, ev48, h⟩ := o_nm h
          refine lv_iinc (v := v48) (lv' := [(3, .int v48), (2, .int v47), (0, .ref (sA G 0 0))]) hx hb dX4_status_48 hl (k := 2) rfl (by rw [ev48]; rfl) (by decide) rfl (fun ls hl => ?_)
          refine lv_goto (tgt := 33) hx hb dX4_status_51 (by decide) ?_
          exact IH33 v47 v48 h _ _ _ hw (lv_sub hl [2, 1, 0] rfl)
      · replace h := o_f c19 h
        refine lv_aload_n hx hb dX4_status_22 rfl (lv_at hl 0 rfl) ?_
        refine gOw (v := .ref (sA G 0 1)) hx hb hts hiX4 hown hw 6 (by decide) (hts (.fieldLink RX4 35 "SecondHome" "findings" "[I") (by decide +kernel)) rfl dX4_status_23 ?_
        refine lv_iload_n hx hb dX4_status_26 rfl (lv_at hl 1 rfl) ?_
        obtain ⟨b27, h⟩ := o_in h
        refine ldOw hx hb hw b27 dX4_status_27 ?_
        exact rI hQ hx hb hr hlk hw dX4_status_28 (o_2a h) (o_2b h) rfl
    · replace h := o_f c8 h
      refine lv_aload_n hx hb dX4_status_11 rfl (lv_at hl 0 rfl) ?_
      refine lv_ldc (v := -1000000001) hx hb hown (hts (.constant RX4 50 (-1000000001)) (by decide +kernel)) dX4_status_12 ?_
      obtain ⟨q14, eq14, h⟩ := o_bd h
      refine kV (As := [.int (-1000000001 : Int32)]) (rest := []) (st' := [.int q14.1]) ⟨hx, hb, hml, hown, hts⟩ (kX4_found l G eq14) (cwV 1 hts gX4_status_X4_found rfl rfl rfl qqX4_found ⟨Nat.le_of_ble_eq_true rfl, Nat.le_of_ble_eq_true rfl⟩) hw (rvOw hw) rfl hl.1 rfl (Nat.le_of_ble_eq_true rfl) dX4_status_14 ⟨Nat.zero_le _, Nat.zero_le _⟩ rfl (fun H locs hw => ?_)
      exact rI hQ hx hb hr hlk hw dX4_status_17 (o_2a h) (o_2b h) rfl
