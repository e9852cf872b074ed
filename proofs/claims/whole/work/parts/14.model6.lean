-- X5_copy
set_option maxRecDepth 100000 in
set_option maxHeartbeats 4000000 in
theorem kX5_copy (l : Launch) (G : sGl) {S : sWo} {M : sOb} {a1 : Int32} {a2 : Int32} {a3 : Int32} {a4 : Int32} {a5 : Int32} {q : (Int32 × sOb)}  (h : fX5_copy M a1 a2 a3 a4 a5 = some q) : sCt l G yX5_copy wsX5_copy rmX5_copy [.ref (sA G 9 0), .int a1, .int a2, .int a3, .int a4, .int a5] S M (some (.int q.1)) S q.2 := by
  refine cMk (cc := cX5_copy) (maxL := 10) (ret := (some .int)) (by decide) rfl (Nat.le_of_ble_eq_true rfl) ?_
  intro p e s m args below meth c Q hQ hx hb hr hlk hml hown hts hw ls hl
  have hown : s.vm.findClass RX5 = some m.cls := hown
  have hl : lv_has ls 10 [(0, .ref (sA G 9 0)), (1, .int a1), (2, .int a2), (3, .int a3), (4, .int a4), (5, .int a5)] := hl
  have hiX5 : ∀ w ∈ u_ws RX5 TX5 15, w ∈ wsX5_copy := by decide +kernel
  unfold fX5_copy at h
  refine lv_iload_n hx hb dX5_copy_0 rfl (lv_at hl 1 rfl) ?_
  obtain ⟨q1, eq1, h⟩ := o_bd h
  refine kS (As := [.int a1]) (rest := []) (st' := [.int q1]) ⟨hx, hb, hml, hown, hts⟩ (kX5_isSheet l G eq1) (va_cwS 1 hts gX5_copy_X5_isSheet rfl rfl rfl qqX5_isSheet ⟨Nat.le_of_ble_eq_true rfl, Nat.le_of_ble_eq_true rfl⟩) hw rfl hl.1 rfl (Nat.le_of_ble_eq_true rfl) dX5_copy_1 ⟨Nat.zero_le _, Nat.zero_le _⟩ rfl (fun H locs hw => ?_)
  refine lv_if_eq (tgt := 14) hx hb dX5_copy_4 (by decide) (fun c4 => ?_) (fun c4 => ?_)
  · replace h := o_t c4 h
    refine lv_aload_n hx hb dX5_copy_14 rfl (lv_at hl 0 rfl) ?_
    refine lv_ldc (v := -1000000001) hx hb hown (hts (.constant RX5 38 (-1000000001)) (by decide +kernel)) dX5_copy_15 ?_
    obtain ⟨q17, eq17, h⟩ := o_bd h
    refine kV (As := [.int (-1000000001 : Int32)]) (rest := []) (st' := [.int q17.1]) ⟨hx, hb, hml, hown, hts⟩ (kX5_finds l G eq17) (cwV 1 hts gX5_copy_X5_finds rfl rfl rfl qqX5_finds ⟨Nat.le_of_ble_eq_true rfl, Nat.le_of_ble_eq_true rfl⟩) hw (rvMd hw) rfl hl.1 rfl (Nat.le_of_ble_eq_true rfl) dX5_copy_17 ⟨Nat.zero_le _, Nat.zero_le _⟩ rfl (fun H locs hw => ?_)
    exact rI hQ hx hb hr hlk hw dX5_copy_20 (o_2a h) rfl (o_2b h)
  · replace h := o_f c4 h
    refine lv_iload_n hx hb dX5_copy_7 rfl (lv_at hl 3 rfl) ?_
    obtain ⟨q8, eq8, h⟩ := o_bd h
    refine kS (As := [.int a3]) (rest := []) (st' := [.int q8]) ⟨hx, hb, hml, hown, hts⟩ (kX5_isSheet l G eq8) (va_cwS 1 hts gX5_copy_X5_isSheet rfl rfl rfl qqX5_isSheet ⟨Nat.le_of_ble_eq_true rfl, Nat.le_of_ble_eq_true rfl⟩) hw rfl hl.1 rfl (Nat.le_of_ble_eq_true rfl) dX5_copy_8 ⟨Nat.zero_le _, Nat.zero_le _⟩ rfl (fun H locs hw => ?_)
    refine lv_if_ne (tgt := 21) hx hb dX5_copy_11 (by decide) (fun c11 => ?_) (fun c11 => ?_)
    · replace h := o_f c11 h
      refine lv_aload_n hx hb dX5_copy_21 rfl (lv_at hl 0 rfl) ?_
      refine gMd (v := .ref (sA G 9 6)) hx hb hts hiX5 hown hw 7 (by decide) (hts (.fieldLink RX5 25 "SecondHomeModel" "bitsOf" "[I") (by decide +kernel)) rfl dX5_copy_22 ?_
      refine lv_iload_n hx hb dX5_copy_25 rfl (lv_at hl 1 rfl) ?_
      obtain ⟨b26, h⟩ := o_in h
      refine ldMd hx hb hw 5 (by decide) (n := 4) rfl b26 dX5_copy_26 ?_
      refine lv_if_lt (tgt := 39) hx hb dX5_copy_27 (by decide) (fun c27 => ?_) (fun c27 => ?_)
      · replace h := o_t c27 h
        refine lv_aload_n hx hb dX5_copy_39 rfl (lv_at hl 0 rfl) ?_
        refine lv_ldc (v := -1000000006) hx hb hown (hts (.constant RX5 229 (-1000000006)) (by decide +kernel)) dX5_copy_40 ?_
        obtain ⟨q42, eq42, h⟩ := o_bd h
        refine kV (As := [.int (-1000000006 : Int32)]) (rest := []) (st' := [.int q42.1]) ⟨hx, hb, hml, hown, hts⟩ (kX5_finds l G eq42) (cwV 1 hts gX5_copy_X5_finds rfl rfl rfl qqX5_finds ⟨Nat.le_of_ble_eq_true rfl, Nat.le_of_ble_eq_true rfl⟩) hw (rvMd hw) rfl hl.1 rfl (Nat.le_of_ble_eq_true rfl) dX5_copy_42 ⟨Nat.zero_le _, Nat.zero_le _⟩ rfl (fun H locs hw => ?_)
        exact rI hQ hx hb hr hlk hw dX5_copy_45 (o_2a h) rfl (o_2b h)
      · replace h := o_f c27 h
        refine lv_aload_n hx hb dX5_copy_30 rfl (lv_at hl 0 rfl) ?_
        refine gMd (v := .ref (sA G 9 6)) hx hb hts hiX5 hown hw 7 (by decide) (hts (.fieldLink RX5 25 "SecondHomeModel" "bitsOf" "[I") (by decide +kernel)) rfl dX5_copy_31 ?_
        refine lv_iload_n hx hb dX5_copy_34 rfl (lv_at hl 3 rfl) ?_
        obtain ⟨b35, h⟩ := o_in h
        refine ldMd hx hb hw 5 (by decide) (n := 4) rfl b35 dX5_copy_35 ?_
        refine lv_if_ge (tgt := 46) hx hb dX5_copy_36 (by decide) (fun c36 => ?_) (fun c36 => ?_)
        · replace h := o_t c36 h
          refine lv_aload_n hx hb dX5_copy_46 rfl (lv_at hl 0 rfl) ?_
          refine gMd (v := .ref (sA G 9 6)) hx hb hts hiX5 hown hw 7 (by decide) (hts (.fieldLink RX5 25 "SecondHomeModel" "bitsOf" "[I") (by decide +kernel)) rfl dX5_copy_47 ?_
          refine lv_iload_n hx hb dX5_copy_50 rfl (lv_at hl 1 rfl) ?_
          refine ldMd hx hb hw 5 (by decide) (n := 4) rfl b26 dX5_copy_51 ?_
          refine lv_aload_n hx hb dX5_copy_52 rfl (lv_at hl 0 rfl) ?_
          refine gMd (v := .ref (sA G 9 6)) hx hb hts hiX5 hown hw 7 (by decide) (hts (.fieldLink RX5 25 "SecondHomeModel" "bitsOf" "[I") (by decide +kernel)) rfl dX5_copy_53 ?_
          refine lv_iload_n hx hb dX5_copy_56 rfl (lv_at hl 3 rfl) ?_
          refine ldMd hx hb hw 5 (by decide) (n := 4) rfl b35 dX5_copy_57 ?_
          refine lv_icmp_eq (tgt := 68) hx hb dX5_copy_58 (by decide) (fun c58 => ?_) (fun c58 => ?_)
          · replace h := o_t c58 h
            refine lv_iload_n hx hb dX5_copy_68 rfl (lv_at hl 2 rfl) ?_
            refine lv_if_lt (tgt := 109) hx hb dX5_copy_69 (by decide) (fun c69 => ?_) (fun c69 => ?_)
            · replace h := o_t c69 h
              refine lv_aload_n hx hb dX5_copy_109 rfl (lv_at hl 0 rfl) ?_
              refine lv_ldc (v := -1000000001) hx hb hown (hts (.constant RX5 38 (-1000000001)) (by decide +kernel)) dX5_copy_110 ?_
              obtain ⟨q112, eq112, h⟩ := o_bd h
              refine kV (As := [.int (-1000000001 : Int32)]) (rest := []) (st' := [.int q112.1]) ⟨hx, hb, hml, hown, hts⟩ (kX5_finds l G eq112) (cwV 1 hts gX5_copy_X5_finds rfl rfl rfl qqX5_finds ⟨Nat.le_of_ble_eq_true rfl, Nat.le_of_ble_eq_true rfl⟩) hw (rvMd hw) rfl hl.1 rfl (Nat.le_of_ble_eq_true rfl) dX5_copy_112 ⟨Nat.zero_le _, Nat.zero_le _⟩ rfl (fun H locs hw => ?_)
              exact rI hQ hx hb hr hlk hw dX5_copy_115 (o_2a h) rfl (o_2b h)
            · replace h := o_f c69 h
              refine lv_iload hx hb dX5_copy_72 (lv_at hl 4 rfl) ?_
              refine lv_if_lt (tgt := 109) hx hb dX5_copy_74 (by decide) (fun c74 => ?_) (fun c74 => ?_)
              · replace h := o_t c74 h
                refine lv_aload_n hx hb dX5_copy_109 rfl (lv_at hl 0 rfl) ?_
                refine lv_ldc (v := -1000000001) hx hb hown (hts (.constant RX5 38 (-1000000001)) (by decide +kernel)) dX5_copy_110 ?_
                obtain ⟨q112, eq112, h⟩ := o_bd h
                refine kV (As := [.int (-1000000001 : Int32)]) (rest := []) (st' := [.int q112.1]) ⟨hx, hb, hml, hown, hts⟩ (kX5_finds l G eq112) (cwV 1 hts gX5_copy_X5_finds rfl rfl rfl qqX5_finds ⟨Nat.le_of_ble_eq_true rfl, Nat.le_of_ble_eq_true rfl⟩) hw (rvMd hw) rfl hl.1 rfl (Nat.le_of_ble_eq_true rfl) dX5_copy_112 ⟨Nat.zero_le _, Nat.zero_le _⟩ rfl (fun H locs hw => ?_)
                exact rI hQ hx hb hr hlk hw dX5_copy_115 (o_2a h) rfl (o_2b h)
              · replace h := o_f c74 h
                refine lv_iload hx hb dX5_copy_77 (lv_at hl 5 rfl) ?_
                refine lv_if_lt (tgt := 109) hx hb dX5_copy_79 (by decide) (fun c79 => ?_) (fun c79 => ?_)
                · replace h := o_t c79 h
                  refine lv_aload_n hx hb dX5_copy_109 rfl (lv_at hl 0 rfl) ?_
                  refine lv_ldc (v := -1000000001) hx hb hown (hts (.constant RX5 38 (-1000000001)) (by decide +kernel)) dX5_copy_110 ?_
                  obtain ⟨q112, eq112, h⟩ := o_bd h
                  refine kV (As := [.int (-1000000001 : Int32)]) (rest := []) (st' := [.int q112.1]) ⟨hx, hb, hml, hown, hts⟩ (kX5_finds l G eq112) (cwV 1 hts gX5_copy_X5_finds rfl rfl rfl qqX5_finds ⟨Nat.le_of_ble_eq_true rfl, Nat.le_of_ble_eq_true rfl⟩) hw (rvMd hw) rfl hl.1 rfl (Nat.le_of_ble_eq_true rfl) dX5_copy_112 ⟨Nat.zero_le _, Nat.zero_le _⟩ rfl (fun H locs hw => ?_)
                  exact rI hQ hx hb hr hlk hw dX5_copy_115 (o_2a h) rfl (o_2b h)
                · replace h := o_f c79 h
                  refine lv_iload hx hb dX5_copy_82 (lv_at hl 5 rfl) ?_
                  refine lv_aload_n hx hb dX5_copy_84 rfl (lv_at hl 0 rfl) ?_
                  refine gMd (v := .ref (sA G 9 7)) hx hb hts hiX5 hown hw 8 (by decide) (hts (.fieldLink RX5 28 "SecondHomeModel" "sizes" "[I") (by decide +kernel)) rfl dX5_copy_85 ?_
                  refine lv_iload_n hx hb dX5_copy_88 rfl (lv_at hl 1 rfl) ?_
                  refine ldMd hx hb hw 6 (by decide) (n := 4) rfl b26 dX5_copy_89 ?_
                  refine lv_iload_n hx hb dX5_copy_90 rfl (lv_at hl 2 rfl) ?_
                  refine lv_isub hx hb dX5_copy_91 ?_
                  refine lv_icmp_gt (tgt := 109) hx hb dX5_copy_92 (by decide) (fun c92 => ?_) (fun c92 => ?_)
                  · replace h := o_t c92 h
                    refine lv_aload_n hx hb dX5_copy_109 rfl (lv_at hl 0 rfl) ?_
                    refine lv_ldc (v := -1000000001) hx hb hown (hts (.constant RX5 38 (-1000000001)) (by decide +kernel)) dX5_copy_110 ?_
                    obtain ⟨q112, eq112, h⟩ := o_bd h
                    refine kV (As := [.int (-1000000001 : Int32)]) (rest := []) (st' := [.int q112.1]) ⟨hx, hb, hml, hown, hts⟩ (kX5_finds l G eq112) (cwV 1 hts gX5_copy_X5_finds rfl rfl rfl qqX5_finds ⟨Nat.le_of_ble_eq_true rfl, Nat.le_of_ble_eq_true rfl⟩) hw (rvMd hw) rfl hl.1 rfl (Nat.le_of_ble_eq_true rfl) dX5_copy_112 ⟨Nat.zero_le _, Nat.zero_le _⟩ rfl (fun H locs hw => ?_)
                    exact rI hQ hx hb hr hlk hw dX5_copy_115 (o_2a h) rfl (o_2b h)
                  · replace h := o_f c92 h
                    refine lv_iload hx hb dX5_copy_95 (lv_at hl 5 rfl) ?_
                    refine lv_aload_n hx hb dX5_copy_97 rfl (lv_at hl 0 rfl) ?_
                    refine gMd (v := .ref (sA G 9 7)) hx hb hts hiX5 hown hw 8 (by decide) (hts (.fieldLink RX5 28 "SecondHomeModel" "sizes" "[I") (by decide +kernel)) rfl dX5_copy_98 ?_
                    refine lv_iload_n hx hb dX5_copy_101 rfl (lv_at hl 3 rfl) ?_
                    refine ldMd hx hb hw 6 (by decide) (n := 4) rfl b35 dX5_copy_102 ?_
                    refine lv_iload hx hb dX5_copy_103 (lv_at hl 4 rfl) ?_
                    refine lv_isub hx hb dX5_copy_105 ?_
                    refine lv_icmp_le (tgt := 116) hx hb dX5_copy_106 (by decide) (fun c106 => ?_) (fun c106 => ?_)
                    · replace h := o_t c106 h
                      refine lv_bipush (v := 40) hx hb dX5_copy_116 (by decide) ?_
                      refine lv_iload_n hx hb dX5_copy_118 rfl (lv_at hl 1 rfl) ?_
                      refine lv_imul hx hb dX5_copy_119 ?_
                      refine lv_iload_n hx hb dX5_copy_120 rfl (lv_at hl 2 rfl) ?_
                      refine lv_iadd hx hb dX5_copy_121 ?_
                      refine lv_topi (fun v122 ev122 => ?_)
                      replace h := o_nx ev122 h
                      refine lv_istore (lv' := [(6, .int v122), (0, .ref (sA G 9 0)), (1, .int a1), (2, .int a2), (3, .int a3), (4, .int a4), (5, .int a5)]) hx hb dX5_copy_122 hl (by decide) rfl (fun ls hl => ?_)
                      refine lv_bipush (v := 40) hx hb dX5_copy_124 (by decide) ?_
                      refine lv_iload_n hx hb dX5_copy_126 rfl (lv_at hl 4 rfl) ?_
                      refine lv_imul hx hb dX5_copy_127 ?_
                      refine lv_iload hx hb dX5_copy_128 (lv_at hl 5 rfl) ?_
                      refine lv_iadd hx hb dX5_copy_130 ?_
                      refine lv_topi (fun v131 ev131 => ?_)
                      replace h := o_nx ev131 h
                      refine lv_istore (lv' := [(7, .int v131), (6, .int v122), (0, .ref (sA G 9 0)), (1, .int a1), (2, .int a2), (3, .int a3), (4, .int a4), (5, .int a5)]) hx hb dX5_copy_131 hl (by decide) rfl (fun ls hl => ?_)
                      refine lv_iconst (v := 0) hx hb dX5_copy_133 (by decide) ?_
                      refine lv_istore (lv' := [(8, .int (0 : Int32)), (7, .int v131), (6, .int v122), (0, .ref (sA G 9 0)), (1, .int a1), (2, .int a2), (3, .int a3), (4, .int a4), (5, .int a5)]) hx hb dX5_copy_134 hl (by decide) rfl (fun ls hl => ?_)
                      refine fx2_w (F := (bX5_copy_136 a5 v122 v131)) (P := fun x8_136 T_136 => ∀ (H : Heap) (locs : List Loc) (ls : Array Slot), sHw G s S T_136 H locs → lv_has ls 10 [(0, .ref (sA G 9 0)), (5, .int a5), (6, .int v122), (7, .int v131), (8, .int x8_136)] → W p l e rmX5_copy s m args below meth c H locs 0 0 Q (F0 m 136 ls [])) ?_ _ _ _ h _ _ _ hw (lv_sub hl [3, 8, 2, 1, 0] rfl)
                      intro rc136 IH136 x8_136 T_136 h H locs ls hw hl
                      unfold bX5_copy_136 at h
                      refine lv_iload hx hb dX5_copy_136 (lv_at hl 4 rfl) ?_
                      refine lv_iload hx hb dX5_copy_138 (lv_at hl 1 rfl) ?_
                      refine lv_icmp_ge (tgt := 190) hx hb dX5_copy_140 (by decide) (fun c140 => ?_) (fun c140 => ?_)
                      · replace h := o_t c140 h
                        refine lv_iload hx hb dX5_copy_190 (lv_at hl 1 rfl) ?_
                        exact rI hQ hx hb hr hlk hw dX5_copy_192 (o_2a h) rfl (o_2b h)
                      · replace h := o_f c140 h
                        refine lv_iload hx hb dX5_copy_143 (lv_at hl 2 rfl) ?_
                        refine lv_iload hx hb dX5_copy_145 (lv_at hl 3 rfl) ?_
                        obtain ⟨k162, ek162, h⟩ := o_nm h
                        have J162 : ∀ (y0_162 : Int32) (H : Heap) (locs : List Loc) (ls : Array Slot), sHw G s S T_136 H locs → lv_has ls 10 [(0, .ref (sA G 9 0)), (5, .int a5), (6, .int v122), (7, .int v131), (8, .int x8_136)] → k162 y0_162 = some q → W p l e rmX5_copy s m args below meth c H locs 0 0 Q (F0 m 162 ls [.int y0_162]) := by
                          intro y0_162 H locs ls hw hl h
                          replace h := o_j1 ek162 h
                          refine lv_istore (lv' := [(9, .int y0_162), (0, .ref (sA G 9 0)), (5, .int a5), (6, .int v122), (7, .int v131), (8, .int x8_136)]) hx hb dX5_copy_162 hl (by decide) rfl (fun ls hl => ?_)
                          refine lv_aload_n hx hb dX5_copy_164 rfl (lv_at hl 1 rfl) ?_
                          refine gMd (v := .ref (sA G 9 9)) hx hb hts hiX5 hown hw 9 (by decide) (hts (.fieldLink RX5 31 "SecondHomeModel" "numbers" "[J") (by decide +kernel)) rfl dX5_copy_165 ?_
                          refine lv_iload hx hb dX5_copy_168 (lv_at hl 4 rfl) ?_
                          refine lv_iload hx hb dX5_copy_170 (lv_at hl 0 rfl) ?_
                          refine lv_iadd hx hb dX5_copy_172 ?_
                          refine lv_aload_n hx hb dX5_copy_173 rfl (lv_at hl 1 rfl) ?_
                          refine gMd (v := .ref (sA G 9 9)) hx hb hts hiX5 hown hw 9 (by decide) (hts (.fieldLink RX5 31 "SecondHomeModel" "numbers" "[J") (by decide +kernel)) rfl dX5_copy_174 ?_
                          refine lv_iload hx hb dX5_copy_177 (lv_at hl 3 rfl) ?_
                          refine lv_iload hx hb dX5_copy_179 (lv_at hl 0 rfl) ?_
                          refine lv_iadd hx hb dX5_copy_181 ?_
                          obtain ⟨b182, h⟩ := o_in h
                          refine ldMl hx hb hw b182 dX5_copy_182 ?_
                          obtain ⟨b183, h⟩ := o_in h
                          refine stMl hx hb hw b183 dX5_copy_183 rfl (fun H locs hw => ?_)
                          obtain ⟨M183, eM183, h⟩ := o_nm h
                          rw [← eM183] at hw
                          obtain ⟨v184, ev184, h⟩ := o_nm h
                          refine lv_iinc (v := v184) (lv' := [(8, .int v184), (9, .int y0_162), (0, .ref (sA G 9 0)), (5, .int a5), (6, .int v122), (7, .int v131)]) hx hb dX5_copy_184 hl (k := 5) rfl (by rw [ev184]; rfl) (by decide) rfl (fun ls hl => ?_)
                          refine lv_goto (tgt := 136) hx hb dX5_copy_187 (by decide) ?_
                          exact IH136 v184 M183 h _ _ _ hw (lv_sub hl [2, 3, 4, 5, 0] rfl)
                        refine lv_icmp_ge (tgt := 160) hx hb dX5_copy_147 (by decide) (fun c147 => ?_) (fun c147 => ?_)
                        · replace h := o_t c147 h
                          refine lv_iload hx hb dX5_copy_160 (lv_at hl 4 rfl) ?_
                          exact J162 x8_136 _ _ _ hw (lv_sub hl [0, 1, 2, 3, 4] rfl) h
                        · replace h := o_f c147 h
                          refine lv_iload hx hb dX5_copy_150 (lv_at hl 1 rfl) ?_
                          refine lv_iconst (v := 1) hx hb dX5_copy_152 (by decide) ?_
                          refine lv_isub hx hb dX5_copy_153 ?_
                          refine lv_iload hx hb dX5_copy_154 (lv_at hl 4 rfl) ?_
                          refine lv_isub hx hb dX5_copy_156 ?_
                          refine lv_goto (tgt := 162) hx hb dX5_copy_157 (by decide) ?_
                          exact J162 ((a5 - (1 : Int32)) - x8_136) _ _ _ hw (lv_sub hl [0, 1, 2, 3, 4] rfl) h
                    · replace h := o_f c106 h
                      refine lv_aload_n hx hb dX5_copy_109 rfl (lv_at hl 0 rfl) ?_
                      refine lv_ldc (v := -1000000001) hx hb hown (hts (.constant RX5 38 (-1000000001)) (by decide +kernel)) dX5_copy_110 ?_
                      obtain ⟨q112, eq112, h⟩ := o_bd h
                      refine kV (As := [.int (-1000000001 : Int32)]) (rest := []) (st' := [.int q112.1]) ⟨hx, hb, hml, hown, hts⟩ (kX5_finds l G eq112) (cwV 1 hts gX5_copy_X5_finds rfl rfl rfl qqX5_finds ⟨Nat.le_of_ble_eq_true rfl, Nat.le_of_ble_eq_true rfl⟩) hw (rvMd hw) rfl hl.1 rfl (Nat.le_of_ble_eq_true rfl) dX5_copy_112 ⟨Nat.zero_le _, Nat.zero_le _⟩ rfl (fun H locs hw => ?_)
                      exact rI hQ hx hb hr hlk hw dX5_copy_115 (o_2a h) rfl (o_2b h)
          · replace h := o_f c58 h
            refine lv_aload_n hx hb dX5_copy_61 rfl (lv_at hl 0 rfl) ?_
            refine lv_ldc (v := -1000000003) hx hb hown (hts (.constant RX5 101 (-1000000003)) (by decide +kernel)) dX5_copy_62 ?_
            obtain ⟨q64, eq64, h⟩ := o_bd h
            refine kV (As := [.int (-1000000003 : Int32)]) (rest := []) (st' := [.int q64.1]) ⟨hx, hb, hml, hown, hts⟩ (kX5_finds l G eq64) (cwV 1 hts gX5_copy_X5_finds rfl rfl rfl qqX5_finds ⟨Nat.le_of_ble_eq_true rfl, Nat.le_of_ble_eq_true rfl⟩) hw (rvMd hw) rfl hl.1 rfl (Nat.le_of_ble_eq_true rfl) dX5_copy_64 ⟨Nat.zero_le _, Nat.zero_le _⟩ rfl (fun H locs hw => ?_)
            exact rI hQ hx hb hr hlk hw dX5_copy_67 (o_2a h) rfl (o_2b h)
        · replace h := o_f c36 h
          refine lv_aload_n hx hb dX5_copy_39 rfl (lv_at hl 0 rfl) ?_
          refine lv_ldc (v := -1000000006) hx hb hown (hts (.constant RX5 229 (-1000000006)) (by decide +kernel)) dX5_copy_40 ?_
          obtain ⟨q42, eq42, h⟩ := o_bd h
          refine kV (As := [.int (-1000000006 : Int32)]) (rest := []) (st' := [.int q42.1]) ⟨hx, hb, hml, hown, hts⟩ (kX5_finds l G eq42) (cwV 1 hts gX5_copy_X5_finds rfl rfl rfl qqX5_finds ⟨Nat.le_of_ble_eq_true rfl, Nat.le_of_ble_eq_true rfl⟩) hw (rvMd hw) rfl hl.1 rfl (Nat.le_of_ble_eq_true rfl) dX5_copy_42 ⟨Nat.zero_le _, Nat.zero_le _⟩ rfl (fun H locs hw => ?_)
          exact rI hQ hx hb hr hlk hw dX5_copy_45 (o_2a h) rfl (o_2b h)
    · replace h := o_t c11 h
      refine lv_aload_n hx hb dX5_copy_14 rfl (lv_at hl 0 rfl) ?_
      refine lv_ldc (v := -1000000001) hx hb hown (hts (.constant RX5 38 (-1000000001)) (by decide +kernel)) dX5_copy_15 ?_
      obtain ⟨q17, eq17, h⟩ := o_bd h
      refine kV (As := [.int (-1000000001 : Int32)]) (rest := []) (st' := [.int q17.1]) ⟨hx, hb, hml, hown, hts⟩ (kX5_finds l G eq17) (cwV 1 hts gX5_copy_X5_finds rfl rfl rfl qqX5_finds ⟨Nat.le_of_ble_eq_true rfl, Nat.le_of_ble_eq_true rfl⟩) hw (rvMd hw) rfl hl.1 rfl (Nat.le_of_ble_eq_true rfl) dX5_copy_17 ⟨Nat.zero_le _, Nat.zero_le _⟩ rfl (fun H locs hw => ?_)
      exact rI hQ hx hb hr hlk hw dX5_copy_20 (o_2a h) rfl (o_2b h)
-- X5_lacks
set_option maxRecDepth 100000 in
set_option maxHeartbeats 4000000 in
theorem kX5_lacks (l : Launch) (G : sGl) {S : sWo} {M : sOb} {a1 : Int32} {q : Int32}  (h : fX5_lacks M a1 = some q) : sCt l G yX5_lacks wsX5_lacks rmX5_lacks [.ref (sA G 9 0), .int a1] S M (some (.int q)) S M := by
  refine cMk (cc := cX5_lacks) (maxL := 2) (ret := (some .int)) (by decide) rfl (Nat.le_of_ble_eq_true rfl) ?_
  intro p e s m args below meth c Q hQ hx hb hr hlk hml hown hts hw ls hl
  have hown : s.vm.findClass RX5 = some m.cls := hown
  have hl : lv_has ls 2 [(0, .ref (sA G 9 0)), (1, .int a1)] := hl
  have hiX5 : ∀ w ∈ u_ws RX5 TX5 15, w ∈ wsX5_lacks := by decide +kernel
  unfold fX5_lacks at h
  refine lv_iload_n hx hb dX5_lacks_0 rfl (lv_at hl 1 rfl) ?_
  obtain ⟨q1, eq1, h⟩ := o_bd h
  refine kS (As := [.int a1]) (rest := []) (st' := [.int q1]) ⟨hx, hb, hml, hown, hts⟩ (kX5_isSheet l G eq1) (va_cwS 1 hts gX5_lacks_X5_isSheet rfl rfl rfl qqX5_isSheet ⟨Nat.le_of_ble_eq_true rfl, Nat.le_of_ble_eq_true rfl⟩) hw rfl hl.1 rfl (Nat.le_of_ble_eq_true rfl) dX5_lacks_1 ⟨Nat.zero_le _, Nat.zero_le _⟩ rfl (fun H locs hw => ?_)
  refine lv_if_ne (tgt := 12) hx hb dX5_lacks_4 (by decide) (fun c4 => ?_) (fun c4 => ?_)
  · replace h := o_f c4 h
    refine lv_aload_n hx hb dX5_lacks_12 rfl (lv_at hl 0 rfl) ?_
    refine gMd (v := .ref (sA G 9 6)) hx hb hts hiX5 hown hw 7 (by decide) (hts (.fieldLink RX5 25 "SecondHomeModel" "bitsOf" "[I") (by decide +kernel)) rfl dX5_lacks_13 ?_
    refine lv_iload_n hx hb dX5_lacks_16 rfl (lv_at hl 1 rfl) ?_
    obtain ⟨b17, h⟩ := o_in h
    refine ldMd hx hb hw 5 (by decide) (n := 4) rfl b17 dX5_lacks_17 ?_
    refine lv_if_ge (tgt := 26) hx hb dX5_lacks_18 (by decide) (fun c18 => ?_) (fun c18 => ?_)
    · replace h := o_t c18 h
      refine lv_iconst (v := 0) hx hb dX5_lacks_26 (by decide) ?_
      exact rI hQ hx hb hr hlk hw dX5_lacks_27 (o_1 h) rfl rfl
    · replace h := o_f c18 h
      refine lv_ldc (v := -1000000006) hx hb hown (hts (.constant RX5 229 (-1000000006)) (by decide +kernel)) dX5_lacks_21 ?_
      refine lv_goto (tgt := 27) hx hb dX5_lacks_23 (by decide) ?_
      exact rI hQ hx hb hr hlk hw dX5_lacks_27 (o_1 h) rfl rfl
  · replace h := o_t c4 h
    refine lv_ldc (v := -1000000001) hx hb hown (hts (.constant RX5 38 (-1000000001)) (by decide +kernel)) dX5_lacks_7 ?_
    refine lv_goto (tgt := 27) hx hb dX5_lacks_9 (by decide) ?_
    exact rI hQ hx hb hr hlk hw dX5_lacks_27 (o_1 h) rfl rfl
-- X5_lays
set_option maxRecDepth 100000 in
set_option maxHeartbeats 4000000 in
theorem kX5_lays (l : Launch) (G : sGl) {S : sWo} {M : sOb} {a1 : Int32} {q : (Int32 × sOb)}  (h : fX5_lays M a1 = some q) : sCt l G yX5_lays wsX5_lays rmX5_lays [.ref (sA G 9 0), .int a1] S M (some (.int q.1)) S q.2 := by
  refine cMk (cc := cX5_lays) (maxL := 6) (ret := (some .int)) (by decide) rfl (Nat.le_of_ble_eq_true rfl) ?_
  intro p e s m args below meth c Q hQ hx hb hr hlk hml hown hts hw ls hl
  have hown : s.vm.findClass RX5 = some m.cls := hown
  have hl : lv_has ls 6 [(0, .ref (sA G 9 0)), (1, .int a1)] := hl
  have hiX5 : ∀ w ∈ u_ws RX5 TX5 15, w ∈ wsX5_lays := by decide +kernel
  unfold fX5_lays at h
  refine lv_aload_n hx hb dX5_lays_0 rfl (lv_at hl 0 rfl) ?_
  refine lv_iload_n hx hb dX5_lays_1 rfl (lv_at hl 1 rfl) ?_
  obtain ⟨q2, eq2, h⟩ := o_bd h
  refine kV (As := [.int a1]) (rest := []) (st' := [.int q2]) ⟨hx, hb, hml, hown, hts⟩ (kX5_lacks l G eq2) (cwV 1 hts gX5_lays_X5_lacks rfl rfl rfl qqX5_lacks ⟨Nat.le_of_ble_eq_true rfl, Nat.le_of_ble_eq_true rfl⟩) hw (rvMd hw) rfl hl.1 rfl (Nat.le_of_ble_eq_true rfl) dX5_lays_2 ⟨Nat.zero_le _, Nat.zero_le _⟩ rfl (fun H locs hw => ?_)
  refine lv_if_eq (tgt := 18) hx hb dX5_lays_5 (by decide) (fun c5 => ?_) (fun c5 => ?_)
  · replace h := o_t c5 h
    refine lv_iconst (v := 0) hx hb dX5_lays_18 (by decide) ?_
    refine lv_istore_n (lv' := [(2, .int (0 : Int32)), (0, .ref (sA G 9 0)), (1, .int a1)]) hx hb dX5_lays_19 rfl hl (by decide) rfl (fun ls hl => ?_)
    refine lv_iconst (v := 0) hx hb dX5_lays_20 (by decide) ?_
    refine lv_istore_n (lv' := [(3, .int (0 : Int32)), (2, .int (0 : Int32)), (0, .ref (sA G 9 0)), (1, .int a1)]) hx hb dX5_lays_21 rfl hl (by decide) rfl (fun ls hl => ?_)
    refine fx3_w (F := (bX5_lays_22 a1)) (P := fun x2_22 x3_22 T_22 => ∀ (H : Heap) (locs : List Loc) (ls : Array Slot), sHw G s S T_22 H locs → lv_has ls 6 [(0, .ref (sA G 9 0)), (1, .int a1), (2, .int x2_22), (3, .int x3_22)] → W p l e rmX5_lays s m args below meth c H locs 0 0 Q (F0 m 22 ls [])) ?_ _ _ _ _ h _ _ _ hw (lv_sub hl [2, 3, 1, 0] rfl)
    intro rc22 IH22 x2_22 x3_22 T_22 h H locs ls hw hl
    unfold bX5_lays_22 at h
    refine lv_iload_n hx hb dX5_lays_22 rfl (lv_at hl 3 rfl) ?_
    refine lv_aload_n hx hb dX5_lays_23 rfl (lv_at hl 0 rfl) ?_
    refine gMd (v := .ref (sA G 9 7)) hx hb hts hiX5 hown hw 8 (by decide) (hts (.fieldLink RX5 28 "SecondHomeModel" "sizes" "[I") (by decide +kernel)) rfl dX5_lays_24 ?_
    refine lv_iload_n hx hb dX5_lays_27 rfl (lv_at hl 1 rfl) ?_
    obtain ⟨b28, h⟩ := o_in h
    refine ldMd hx hb hw 6 (by decide) (n := 4) rfl b28 dX5_lays_28 ?_
    refine lv_icmp_ge (tgt := 85) hx hb dX5_lays_29 (by decide) (fun c29 => ?_) (fun c29 => ?_)
    · replace h := o_t c29 h
      refine lv_iload_n hx hb dX5_lays_85 rfl (lv_at hl 2 rfl) ?_
      exact rI hQ hx hb hr hlk hw dX5_lays_86 (o_2a h) rfl (o_2b h)
    · replace h := o_f c29 h
      refine lv_iload_n hx hb dX5_lays_32 rfl (lv_at hl 3 rfl) ?_
      refine lv_aload_n hx hb dX5_lays_33 rfl (lv_at hl 0 rfl) ?_
      refine gMd (v := .ref (sA G 9 1)) hx hb hts hiX5 hown hw 0 (by decide) (hts (.fieldLink RX5 7 "SecondHomeModel" "s" "[I") (by decide +kernel)) rfl dX5_lays_34 ?_
      refine lv_iconst (v := 0) hx hb dX5_lays_37 (by decide) ?_
      refine ldMd hx hb hw 0 (by decide) (n := 77) rfl (by decide) dX5_lays_38 ?_
      refine lv_icmp_ge (tgt := 85) hx hb dX5_lays_39 (by decide) (fun c39 => ?_) (fun c39 => ?_)
      · replace h := o_t c39 h
        refine lv_iload_n hx hb dX5_lays_85 rfl (lv_at hl 2 rfl) ?_
        exact rI hQ hx hb hr hlk hw dX5_lays_86 (o_2a h) rfl (o_2b h)
      · replace h := o_f c39 h
        refine lv_aload_n hx hb dX5_lays_42 rfl (lv_at hl 0 rfl) ?_
        refine gMd (v := .ref (sA G 9 9)) hx hb hts hiX5 hown hw 9 (by decide) (hts (.fieldLink RX5 31 "SecondHomeModel" "numbers" "[J") (by decide +kernel)) rfl dX5_lays_43 ?_
        refine lv_bipush (v := 40) hx hb dX5_lays_46 (by decide) ?_
        refine lv_iload_n hx hb dX5_lays_48 rfl (lv_at hl 1 rfl) ?_
        refine lv_imul hx hb dX5_lays_49 ?_
        refine lv_iload_n hx hb dX5_lays_50 rfl (lv_at hl 3 rfl) ?_
        refine lv_iadd hx hb dX5_lays_51 ?_
        obtain ⟨b52, h⟩ := o_in h
        refine ldMl hx hb hw b52 dX5_lays_52 ?_
        refine lv_topl (fun v53 ev53 => ?_)
        replace h := o_nx ev53 h
        refine lv_lstore (lv' := [(4, .long v53), (0, .ref (sA G 9 0)), (1, .int a1), (2, .int x2_22), (3, .int x3_22)]) hx hb dX5_lays_53 hl (by decide) rfl (fun ls hl => ?_)
        refine lv_lload hx hb dX5_lays_55 (lv_at hl 0 rfl) ?_
        refine lv_lconst (v := 1) hx hb dX5_lays_57 (by decide) ?_
        refine lv_ldc2 (v := 12) hx hb hown (hts (.constantLong RX5 70 (12)) (by decide +kernel)) dX5_lays_58 ?_
        obtain ⟨q61, eq61, h⟩ := o_bd h
        refine kS (As := [.long v53, .long (1 : Int64), .long (12 : Int64)]) (rest := []) (st' := [.int q61]) ⟨hx, hb, hml, hown, hts⟩ (kX5_isIn l G eq61) (va_cwS 3 hts gX5_lays_X5_isIn rfl rfl rfl qqX5_isIn ⟨Nat.le_of_ble_eq_true rfl, Nat.le_of_ble_eq_true rfl⟩) hw rfl hl.1 rfl (Nat.le_of_ble_eq_true rfl) dX5_lays_61 ⟨Nat.zero_le _, Nat.zero_le _⟩ rfl (fun H locs hw => ?_)
        refine lv_if_eq (tgt := 79) hx hb dX5_lays_64 (by decide) (fun c64 => ?_) (fun c64 => ?_)
        · replace h := o_t c64 h
          obtain ⟨v79, ev79, h⟩ := o_nm h
          refine lv_iinc (v := v79) (lv' := [(3, .int v79), (4, .long v53), (0, .ref (sA G 9 0)), (1, .int a1), (2, .int x2_22)]) hx hb dX5_lays_79 hl (k := 4) rfl (by rw [ev79]; rfl) (by decide) rfl (fun ls hl => ?_)
          refine lv_goto (tgt := 22) hx hb dX5_lays_82 (by decide) ?_
          exact IH22 x2_22 v79 T_22 h _ _ _ hw (lv_sub hl [2, 3, 4, 0] rfl)
        · replace h := o_f c64 h
          refine lv_aload_n hx hb dX5_lays_67 rfl (lv_at hl 1 rfl) ?_
          refine lv_iload_n hx hb dX5_lays_68 rfl (lv_at hl 4 rfl) ?_
          refine lv_iconst (v := 1) hx hb dX5_lays_69 (by decide) ?_
          refine lv_lload hx hb dX5_lays_70 (lv_at hl 0 rfl) ?_
          refine lv_l2i hx hb dX5_lays_72 rfl ?_
          obtain ⟨q73, eq73, h⟩ := o_bd h
          refine kV (As := [.int x3_22, .int (1 : Int32), .int v53.toInt32]) (rest := []) (st' := []) ⟨hx, hb, hml, hown, hts⟩ (kX5_puts l G eq73) (cwV 3 hts gX5_lays_X5_puts rfl rfl rfl qqX5_puts ⟨Nat.le_of_ble_eq_true rfl, Nat.le_of_ble_eq_true rfl⟩) hw (rvMd hw) rfl hl.1 rfl (Nat.le_of_ble_eq_true rfl) dX5_lays_73 ⟨Nat.zero_le _, Nat.zero_le _⟩ rfl (fun H locs hw => ?_)
          obtain ⟨v76, ev76, h⟩ := o_nm h
          refine lv_iinc (v := v76) (lv' := [(2, .int v76), (4, .long v53), (0, .ref (sA G 9 0)), (1, .int a1), (3, .int x3_22)]) hx hb dX5_lays_76 hl (k := 3) rfl (by rw [ev76]; rfl) (by decide) rfl (fun ls hl => ?_)
          obtain ⟨v79, ev79, h⟩ := o_nm h
          refine lv_iinc (v := v79) (lv' := [(3, .int v79), (2, .int v76), (4, .long v53), (0, .ref (sA G 9 0)), (1, .int a1)]) hx hb dX5_lays_79 hl (k := 4) rfl (by rw [ev79]; rfl) (by decide) rfl (fun ls hl => ?_)
          refine lv_goto (tgt := 22) hx hb dX5_lays_82 (by decide) ?_
          exact IH22 v76 v79 q73 h _ _ _ hw (lv_sub hl [3, 4, 1, 0] rfl)
  · replace h := o_f c5 h
    refine lv_aload_n hx hb dX5_lays_8 rfl (lv_at hl 0 rfl) ?_
    refine lv_aload_n hx hb dX5_lays_9 rfl (lv_at hl 0 rfl) ?_
    refine lv_iload_n hx hb dX5_lays_10 rfl (lv_at hl 1 rfl) ?_
    obtain ⟨q11, eq11, h⟩ := o_bd h
    refine kV (As := [.int a1]) (rest := [.ref (sA G 9 0)]) (st' := [.int q11, .ref (sA G 9 0)]) ⟨hx, hb, hml, hown, hts⟩ (kX5_lacks l G eq11) (cwV 1 hts gX5_lays_X5_lacks rfl rfl rfl qqX5_lacks ⟨Nat.le_of_ble_eq_true rfl, Nat.le_of_ble_eq_true rfl⟩) hw (rvMd hw) rfl hl.1 rfl (Nat.le_of_ble_eq_true rfl) dX5_lays_11 ⟨Nat.zero_le _, Nat.zero_le _⟩ rfl (fun H locs hw => ?_)
    obtain ⟨q14, eq14, h⟩ := o_bd h
    refine kV (As := [.int q11]) (rest := []) (st' := [.int q14.1]) ⟨hx, hb, hml, hown, hts⟩ (kX5_finds l G eq14) (cwV 1 hts gX5_lays_X5_finds rfl rfl rfl qqX5_finds ⟨Nat.le_of_ble_eq_true rfl, Nat.le_of_ble_eq_true rfl⟩) hw (rvMd hw) rfl hl.1 rfl (Nat.le_of_ble_eq_true rfl) dX5_lays_14 ⟨Nat.zero_le _, Nat.zero_le _⟩ rfl (fun H locs hw => ?_)
    exact rI hQ hx hb hr hlk hw dX5_lays_17 (o_2a h) rfl (o_2b h)
-- X5_film
set_option maxRecDepth 100000 in
set_option maxHeartbeats 4000000 in
theorem kX5_film (l : Launch) (G : sGl) {S : sWo} {M : sOb} {a1 : Int32} {a2 : Int32} {q : (Int32 × sOb)}  (h : fX5_film M a1 a2 = some q) : sCt l G yX5_film wsX5_film rmX5_film [.ref (sA G 9 0), .int a1, .int a2] S M (some (.int q.1)) S q.2 := by
  refine cMk (cc := cX5_film) (maxL := 5) (ret := (some .int)) (by decide) rfl (Nat.le_of_ble_eq_true rfl) ?_
  intro p e s m args below meth c Q hQ hx hb hr hlk hml hown hts hw ls hl
  have hown : s.vm.findClass RX5 = some m.cls := hown
  have hl : lv_has ls 5 [(0, .ref (sA G 9 0)), (1, .int a1), (2, .int a2)] := hl
  have hiX5 : ∀ w ∈ u_ws RX5 TX5 15, w ∈ wsX5_film := by decide +kernel
  unfold fX5_film at h
  refine lv_aload_n hx hb dX5_film_0 rfl (lv_at hl 0 rfl) ?_
  refine lv_iload_n hx hb dX5_film_1 rfl (lv_at hl 1 rfl) ?_
  obtain ⟨q2, eq2, h⟩ := o_bd h
  refine kV (As := [.int a1]) (rest := []) (st' := [.int q2]) ⟨hx, hb, hml, hown, hts⟩ (kX5_lacks l G eq2) (cwV 1 hts gX5_film_X5_lacks rfl rfl rfl qqX5_lacks ⟨Nat.le_of_ble_eq_true rfl, Nat.le_of_ble_eq_true rfl⟩) hw (rvMd hw) rfl hl.1 rfl (Nat.le_of_ble_eq_true rfl) dX5_film_2 ⟨Nat.zero_le _, Nat.zero_le _⟩ rfl (fun H locs hw => ?_)
  refine lv_if_eq (tgt := 18) hx hb dX5_film_5 (by decide) (fun c5 => ?_) (fun c5 => ?_)
  · replace h := o_t c5 h
    refine lv_aload_n hx hb dX5_film_18 rfl (lv_at hl 0 rfl) ?_
    refine lv_iload_n hx hb dX5_film_19 rfl (lv_at hl 2 rfl) ?_
    obtain ⟨q20, eq20, h⟩ := o_bd h
    refine kV (As := [.int a2]) (rest := []) (st' := [.int q20]) ⟨hx, hb, hml, hown, hts⟩ (kX5_isRunner l G eq20) (cwV 1 hts gX5_film_X5_isRunner rfl rfl rfl qqX5_isRunner ⟨Nat.le_of_ble_eq_true rfl, Nat.le_of_ble_eq_true rfl⟩) hw (rvMd hw) rfl hl.1 rfl (Nat.le_of_ble_eq_true rfl) dX5_film_20 ⟨Nat.zero_le _, Nat.zero_le _⟩ rfl (fun H locs hw => ?_)
    refine lv_if_ne (tgt := 33) hx hb dX5_film_23 (by decide) (fun c23 => ?_) (fun c23 => ?_)
    · replace h := o_f c23 h
      refine lv_aload_n hx hb dX5_film_33 rfl (lv_at hl 0 rfl) ?_
      obtain ⟨q34, eq34, h⟩ := o_bd h
      refine kV (As := []) (rest := []) (st' := []) ⟨hx, hb, hml, hown, hts⟩ (kX5_laysBy l G eq34) (cwV 0 hts gX5_film_X5_laysBy rfl rfl rfl qqX5_laysBy ⟨Nat.le_of_ble_eq_true rfl, Nat.le_of_ble_eq_true rfl⟩) hw (rvMd hw) rfl hl.1 rfl (Nat.le_of_ble_eq_true rfl) dX5_film_34 ⟨Nat.zero_le _, Nat.zero_le _⟩ rfl (fun H locs hw => ?_)
      refine lv_iconst (v := 0) hx hb dX5_film_37 (by decide) ?_
      refine lv_istore_n (lv' := [(3, .int (0 : Int32)), (0, .ref (sA G 9 0)), (1, .int a1), (2, .int a2)]) hx hb dX5_film_38 rfl hl (by decide) rfl (fun ls hl => ?_)
      obtain ⟨k88, ek88, h⟩ := o_nm h
      have J88 : ∀ (T_88 : sOb) (H : Heap) (locs : List Loc) (ls : Array Slot), sHw G s S T_88 H locs → lv_has ls 5 [(0, .ref (sA G 9 0)), (1, .int a1)] → k88 T_88 = some q → W p l e rmX5_film s m args below meth c H locs 0 0 Q (F0 m 88 ls []) := by
        intro T_88 H locs ls hw hl h
        replace h := o_j1 ek88 h
        refine lv_aload_n hx hb dX5_film_88 rfl (lv_at hl 0 rfl) ?_
        obtain ⟨q89, eq89, h⟩ := o_bd h
        refine kV (As := []) (rest := []) (st' := []) ⟨hx, hb, hml, hown, hts⟩ (kX5_laysBack l G eq89) (cwV 0 hts gX5_film_X5_laysBack rfl rfl rfl qqX5_laysBack ⟨Nat.le_of_ble_eq_true rfl, Nat.le_of_ble_eq_true rfl⟩) hw (rvMd hw) rfl hl.1 rfl (Nat.le_of_ble_eq_true rfl) dX5_film_89 ⟨Nat.zero_le _, Nat.zero_le _⟩ rfl (fun H locs hw => ?_)
        refine lv_aload_n hx hb dX5_film_92 rfl (lv_at hl 0 rfl) ?_
        refine gMd (v := .ref (sA G 9 7)) hx hb hts hiX5 hown hw 8 (by decide) (hts (.fieldLink RX5 28 "SecondHomeModel" "sizes" "[I") (by decide +kernel)) rfl dX5_film_93 ?_
        refine lv_iload_n hx hb dX5_film_96 rfl (lv_at hl 1 rfl) ?_
        obtain ⟨b97, h⟩ := o_in h
        refine ldMd hx hb hw 6 (by decide) (n := 4) rfl b97 dX5_film_97 ?_
        exact rI hQ hx hb hr hlk hw dX5_film_98 (o_2a h) rfl (o_2b h)
      refine fx2_w (F := (bX5_film_39 a1 a2 k88)) (P := fun x3_39 T_39 => ∀ (H : Heap) (locs : List Loc) (ls : Array Slot), sHw G s S T_39 H locs → lv_has ls 5 [(0, .ref (sA G 9 0)), (1, .int a1), (2, .int a2), (3, .int x3_39)] → W p l e rmX5_film s m args below meth c H locs 0 0 Q (F0 m 39 ls [])) ?_ _ _ _ h _ _ _ hw (lv_sub hl [1, 2, 3, 0] rfl)
      intro rc39 IH39 x3_39 T_39 h H locs ls hw hl
      unfold bX5_film_39 at h
      refine lv_iload_n hx hb dX5_film_39 rfl (lv_at hl 3 rfl) ?_
      refine lv_aload_n hx hb dX5_film_40 rfl (lv_at hl 0 rfl) ?_
      refine gMd (v := .ref (sA G 9 7)) hx hb hts hiX5 hown hw 8 (by decide) (hts (.fieldLink RX5 28 "SecondHomeModel" "sizes" "[I") (by decide +kernel)) rfl dX5_film_41 ?_
      refine lv_iload_n hx hb dX5_film_44 rfl (lv_at hl 1 rfl) ?_
      obtain ⟨b45, h⟩ := o_in h
      refine ldMd hx hb hw 6 (by decide) (n := 4) rfl b45 dX5_film_45 ?_
      refine lv_icmp_ge (tgt := 88) hx hb dX5_film_46 (by decide) (fun c46 => ?_) (fun c46 => ?_)
      · replace h := o_t c46 h
        exact J88 T_39 _ _ _ hw (lv_sub hl [0, 1] rfl) h
      · replace h := o_f c46 h
        refine lv_aload_n hx hb dX5_film_49 rfl (lv_at hl 0 rfl) ?_
        refine gMd (v := .ref (sA G 9 9)) hx hb hts hiX5 hown hw 9 (by decide) (hts (.fieldLink RX5 31 "SecondHomeModel" "numbers" "[J") (by decide +kernel)) rfl dX5_film_50 ?_
        refine lv_bipush (v := 40) hx hb dX5_film_53 (by decide) ?_
        refine lv_iload_n hx hb dX5_film_55 rfl (lv_at hl 1 rfl) ?_
        refine lv_imul hx hb dX5_film_56 ?_
        refine lv_iload_n hx hb dX5_film_57 rfl (lv_at hl 3 rfl) ?_
        refine lv_iadd hx hb dX5_film_58 ?_
        refine lv_aload_n hx hb dX5_film_59 rfl (lv_at hl 0 rfl) ?_
        refine gMd (v := .ref (sA G 9 6)) hx hb hts hiX5 hown hw 7 (by decide) (hts (.fieldLink RX5 25 "SecondHomeModel" "bitsOf" "[I") (by decide +kernel)) rfl dX5_film_60 ?_
        refine lv_iload_n hx hb dX5_film_63 rfl (lv_at hl 1 rfl) ?_
        refine ldMd hx hb hw 5 (by decide) (n := 4) rfl b45 dX5_film_64 ?_
        refine lv_aload_n hx hb dX5_film_65 rfl (lv_at hl 0 rfl) ?_
        refine lv_iload_n hx hb dX5_film_66 rfl (lv_at hl 2 rfl) ?_
        refine lv_iconst (v := 5) hx hb dX5_film_67 (by decide) ?_
        obtain ⟨q68, eq68, h⟩ := o_bd h
        refine kV (As := [.int a2, .int (5 : Int32)]) (rest := [.int (T_39.2.1 5 a1.toNatClampNeg), .int (((40 : Int32) * a1) + x3_39), .ref (sA G 9 9)]) (st' := [.int q68, .int (T_39.2.1 5 a1.toNatClampNeg), .int (((40 : Int32) * a1) + x3_39), .ref (sA G 9 9)]) ⟨hx, hb, hml, hown, hts⟩ (kX5_is l G eq68) (cwV 2 hts gX5_film_X5_is rfl rfl rfl qqX5_is ⟨Nat.le_of_ble_eq_true rfl, Nat.le_of_ble_eq_true rfl⟩) hw (rvMd hw) rfl hl.1 rfl (Nat.le_of_ble_eq_true rfl) dX5_film_68 ⟨Nat.zero_le _, Nat.zero_le _⟩ rfl (fun H locs hw => ?_)
        refine lv_i2l hx hb dX5_film_71 rfl ?_
        obtain ⟨q72, eq72, h⟩ := o_bd h
        refine kS (As := [.int (T_39.2.1 5 a1.toNatClampNeg), .long q68.toInt64]) (rest := [.int (((40 : Int32) * a1) + x3_39), .ref (sA G 9 9)]) (st' := [.long q72, .int (((40 : Int32) * a1) + x3_39), .ref (sA G 9 9)]) ⟨hx, hb, hml, hown, hts⟩ (kX5_narrow l G eq72) (va_cwS 2 hts gX5_film_X5_narrow rfl rfl rfl qqX5_narrow ⟨Nat.le_of_ble_eq_true rfl, Nat.le_of_ble_eq_true rfl⟩) hw rfl hl.1 rfl (Nat.le_of_ble_eq_true rfl) dX5_film_72 ⟨Nat.zero_le _, Nat.zero_le _⟩ rfl (fun H locs hw => ?_)
        obtain ⟨b75, h⟩ := o_in h
        refine stMl hx hb hw b75 dX5_film_75 rfl (fun H locs hw => ?_)
        obtain ⟨M75, eM75, h⟩ := o_nm h
        rw [← eM75] at hw
        refine lv_aload_n hx hb dX5_film_76 rfl (lv_at hl 0 rfl) ?_
        obtain ⟨q77, eq77, h⟩ := o_bd h
        refine kV (As := []) (rest := []) (st' := [.int q77.1]) ⟨hx, hb, hml, hown, hts⟩ (kX5_goesOn l G eq77) (cwV 0 hts gX5_film_X5_goesOn rfl rfl rfl qqX5_goesOn ⟨Nat.le_of_ble_eq_true rfl, Nat.le_of_ble_eq_true rfl⟩) hw (rvMd hw) rfl hl.1 rfl (Nat.le_of_ble_eq_true rfl) dX5_film_77 ⟨Nat.zero_le _, Nat.zero_le _⟩ rfl (fun H locs hw => ?_)
        refine lv_istore (lv' := [(4, .int q77.1), (0, .ref (sA G 9 0)), (1, .int a1), (2, .int a2), (3, .int x3_39)]) hx hb dX5_film_80 hl (by decide) rfl (fun ls hl => ?_)
        obtain ⟨v82, ev82, h⟩ := o_nm h
        refine lv_iinc (v := v82) (lv' := [(3, .int v82), (4, .int q77.1), (0, .ref (sA G 9 0)), (1, .int a1), (2, .int a2)]) hx hb dX5_film_82 hl (k := 4) rfl (by rw [ev82]; rfl) (by decide) rfl (fun ls hl => ?_)
        refine lv_goto (tgt := 39) hx hb dX5_film_85 (by decide) ?_
        exact IH39 v82 q77.2 h _ _ _ hw (lv_sub hl [2, 3, 4, 0] rfl)
    · replace h := o_t c23 h
      refine lv_aload_n hx hb dX5_film_26 rfl (lv_at hl 0 rfl) ?_
      refine lv_ldc (v := -1000000001) hx hb hown (hts (.constant RX5 38 (-1000000001)) (by decide +kernel)) dX5_film_27 ?_
      obtain ⟨q29, eq29, h⟩ := o_bd h
      refine kV (As := [.int (-1000000001 : Int32)]) (rest := []) (st' := [.int q29.1]) ⟨hx, hb, hml, hown, hts⟩ (kX5_finds l G eq29) (cwV 1 hts gX5_film_X5_finds rfl rfl rfl qqX5_finds ⟨Nat.le_of_ble_eq_true rfl, Nat.le_of_ble_eq_true rfl⟩) hw (rvMd hw) rfl hl.1 rfl (Nat.le_of_ble_eq_true rfl) dX5_film_29 ⟨Nat.zero_le _, Nat.zero_le _⟩ rfl (fun H locs hw => ?_)
      exact rI hQ hx hb hr hlk hw dX5_film_32 (o_2a h) rfl (o_2b h)
  · replace h := o_f c5 h
    refine lv_aload_n hx hb dX5_film_8 rfl (lv_at hl 0 rfl) ?_
    refine lv_aload_n hx hb dX5_film_9 rfl (lv_at hl 0 rfl) ?_
    refine lv_iload_n hx hb dX5_film_10 rfl (lv_at hl 1 rfl) ?_
    obtain ⟨q11, eq11, h⟩ := o_bd h
    refine kV (As := [.int a1]) (rest := [.ref (sA G 9 0)]) (st' := [.int q11, .ref (sA G 9 0)]) ⟨hx, hb, hml, hown, hts⟩ (kX5_lacks l G eq11) (cwV 1 hts gX5_film_X5_lacks rfl rfl rfl qqX5_lacks ⟨Nat.le_of_ble_eq_true rfl, Nat.le_of_ble_eq_true rfl⟩) hw (rvMd hw) rfl hl.1 rfl (Nat.le_of_ble_eq_true rfl) dX5_film_11 ⟨Nat.zero_le _, Nat.zero_le _⟩ rfl (fun H locs hw => ?_)
    obtain ⟨q14, eq14, h⟩ := o_bd h
    refine kV (As := [.int q11]) (rest := []) (st' := [.int q14.1]) ⟨hx, hb, hml, hown, hts⟩ (kX5_finds l G eq14) (cwV 1 hts gX5_film_X5_finds rfl rfl rfl qqX5_finds ⟨Nat.le_of_ble_eq_true rfl, Nat.le_of_ble_eq_true rfl⟩) hw (rvMd hw) rfl hl.1 rfl (Nat.le_of_ble_eq_true rfl) dX5_film_14 ⟨Nat.zero_le _, Nat.zero_le _⟩ rfl (fun H locs hw => ?_)
    exact rI hQ hx hb hr hlk hw dX5_film_17 (o_2a h) rfl (o_2b h)
-- X5_read
set_option maxRecDepth 100000 in
set_option maxHeartbeats 4000000 in
theorem kX5_read (l : Launch) (G : sGl) {S : sWo} {M : sOb} {a1 : Int32} {q : (Int32 × sOb)}  (h : fX5_read M a1 = some q) : sCt l G yX5_read wsX5_read rmX5_read [.ref (sA G 9 0), .int a1] S M (some (.int q.1)) S q.2 := by
  refine cMk (cc := cX5_read) (maxL := 5) (ret := (some .int)) (by decide) rfl (Nat.le_of_ble_eq_true rfl) ?_
  intro p e s m args below meth c Q hQ hx hb hr hlk hml hown hts hw ls hl
  have hown : s.vm.findClass RX5 = some m.cls := hown
  have hl : lv_has ls 5 [(0, .ref (sA G 9 0)), (1, .int a1)] := hl
  have hiX5 : ∀ w ∈ u_ws RX5 TX5 15, w ∈ wsX5_read := by decide +kernel
  unfold fX5_read at h
  refine lv_aload_n hx hb dX5_read_0 rfl (lv_at hl 0 rfl) ?_
  refine lv_iload_n hx hb dX5_read_1 rfl (lv_at hl 1 rfl) ?_
  obtain ⟨q2, eq2, h⟩ := o_bd h
  refine kV (As := [.int a1]) (rest := []) (st' := [.int q2]) ⟨hx, hb, hml, hown, hts⟩ (kX5_lacks l G eq2) (cwV 1 hts gX5_read_X5_lacks rfl rfl rfl qqX5_lacks ⟨Nat.le_of_ble_eq_true rfl, Nat.le_of_ble_eq_true rfl⟩) hw (rvMd hw) rfl hl.1 rfl (Nat.le_of_ble_eq_true rfl) dX5_read_2 ⟨Nat.zero_le _, Nat.zero_le _⟩ rfl (fun H locs hw => ?_)
  refine lv_if_eq (tgt := 18) hx hb dX5_read_5 (by decide) (fun c5 => ?_) (fun c5 => ?_)
  · replace h := o_t c5 h
    refine lv_aload_n hx hb dX5_read_18 rfl (lv_at hl 0 rfl) ?_
    obtain ⟨q19, eq19, h⟩ := o_bd h
    refine kV (As := []) (rest := []) (st' := []) ⟨hx, hb, hml, hown, hts⟩ (kX5_laysBy l G eq19) (cwV 0 hts gX5_read_X5_laysBy rfl rfl rfl qqX5_laysBy ⟨Nat.le_of_ble_eq_true rfl, Nat.le_of_ble_eq_true rfl⟩) hw (rvMd hw) rfl hl.1 rfl (Nat.le_of_ble_eq_true rfl) dX5_read_19 ⟨Nat.zero_le _, Nat.zero_le _⟩ rfl (fun H locs hw => ?_)
    refine lv_iconst (v := 1) hx hb dX5_read_22 (by decide) ?_
    refine lv_aload_n hx hb dX5_read_23 rfl (lv_at hl 0 rfl) ?_
    refine gMd (v := .ref (sA G 9 1)) hx hb hts hiX5 hown hw 0 (by decide) (hts (.fieldLink RX5 7 "SecondHomeModel" "s" "[I") (by decide +kernel)) rfl dX5_read_24 ?_
    refine lv_iconst (v := 0) hx hb dX5_read_27 (by decide) ?_
    refine ldMd hx hb hw 0 (by decide) (n := 77) rfl (by decide) dX5_read_28 ?_
    refine lv_ishl hx hb dX5_read_29 ?_
    refine lv_iconst (v := 1) hx hb dX5_read_30 (by decide) ?_
    refine lv_isub hx hb dX5_read_31 ?_
    refine lv_topi (fun v32 ev32 => ?_)
    replace h := o_nx ev32 h
    refine lv_istore_n (lv' := [(2, .int v32), (0, .ref (sA G 9 0)), (1, .int a1)]) hx hb dX5_read_32 rfl hl (by decide) rfl (fun ls hl => ?_)
    refine lv_iconst (v := 0) hx hb dX5_read_33 (by decide) ?_
    refine lv_istore_n (lv' := [(3, .int (0 : Int32)), (2, .int v32), (0, .ref (sA G 9 0)), (1, .int a1)]) hx hb dX5_read_34 rfl hl (by decide) rfl (fun ls hl => ?_)
    obtain ⟨k113, ek113, h⟩ := o_nm h
    have J113 : ∀ (x2_113 : Int32) (T_113 : sOb) (H : Heap) (locs : List Loc) (ls : Array Slot), sHw G s S T_113 H locs → lv_has ls 5 [(0, .ref (sA G 9 0)), (2, .int x2_113)] → k113 x2_113 T_113 = some q → W p l e rmX5_read s m args below meth c H locs 0 0 Q (F0 m 113 ls []) := by
      intro x2_113 T_113 H locs ls hw hl h
      replace h := o_j2 ek113 h
      refine lv_aload_n hx hb dX5_read_113 rfl (lv_at hl 0 rfl) ?_
      obtain ⟨q114, eq114, h⟩ := o_bd h
      refine kV (As := []) (rest := []) (st' := []) ⟨hx, hb, hml, hown, hts⟩ (kX5_laysBack l G eq114) (cwV 0 hts gX5_read_X5_laysBack rfl rfl rfl qqX5_laysBack ⟨Nat.le_of_ble_eq_true rfl, Nat.le_of_ble_eq_true rfl⟩) hw (rvMd hw) rfl hl.1 rfl (Nat.le_of_ble_eq_true rfl) dX5_read_114 ⟨Nat.zero_le _, Nat.zero_le _⟩ rfl (fun H locs hw => ?_)
      refine lv_iconst (v := 0) hx hb dX5_read_117 (by decide) ?_
      refine lv_istore_n (lv' := [(3, .int (0 : Int32)), (0, .ref (sA G 9 0)), (2, .int x2_113)]) hx hb dX5_read_118 rfl hl (by decide) rfl (fun ls hl => ?_)
      refine fx1_w (F := (bX5_read_119 x2_113 q114)) (P := fun x3_119 => ∀ (H : Heap) (locs : List Loc) (ls : Array Slot), sHw G s S q114 H locs → lv_has ls 5 [(0, .ref (sA G 9 0)), (2, .int x2_113), (3, .int x3_119)] → W p l e rmX5_read s m args below meth c H locs 0 0 Q (F0 m 119 ls [])) ?_ _ _ h _ _ _ hw (lv_sub hl [1, 2, 0] rfl)
      intro rc119 IH119 x3_119 h H locs ls hw hl
      unfold bX5_read_119 at h
      refine lv_iload_n hx hb dX5_read_119 rfl (lv_at hl 2 rfl) ?_
      refine lv_aload_n hx hb dX5_read_120 rfl (lv_at hl 0 rfl) ?_
      refine gMd (v := .ref (sA G 9 1)) hx hb hts hiX5 hown hw 0 (by decide) (hts (.fieldLink RX5 7 "SecondHomeModel" "s" "[I") (by decide +kernel)) rfl dX5_read_121 ?_
      refine lv_iconst (v := 0) hx hb dX5_read_124 (by decide) ?_
      refine ldMd hx hb hw 0 (by decide) (n := 77) rfl (by decide) dX5_read_125 ?_
      refine lv_icmp_ge (tgt := 146) hx hb dX5_read_126 (by decide) (fun c126 => ?_) (fun c126 => ?_)
      · replace h := o_t c126 h
        refine lv_aload_n hx hb dX5_read_146 rfl (lv_at hl 0 rfl) ?_
        refine lv_ldc (v := -1000000004) hx hb hown (hts (.constant RX5 39 (-1000000004)) (by decide +kernel)) dX5_read_147 ?_
        obtain ⟨q149, eq149, h⟩ := o_bd h
        refine kV (As := [.int (-1000000004 : Int32)]) (rest := []) (st' := [.int q149.1]) ⟨hx, hb, hml, hown, hts⟩ (kX5_finds l G eq149) (cwV 1 hts gX5_read_X5_finds rfl rfl rfl qqX5_finds ⟨Nat.le_of_ble_eq_true rfl, Nat.le_of_ble_eq_true rfl⟩) hw (rvMd hw) rfl hl.1 rfl (Nat.le_of_ble_eq_true rfl) dX5_read_149 ⟨Nat.zero_le _, Nat.zero_le _⟩ rfl (fun H locs hw => ?_)
        exact rI hQ hx hb hr hlk hw dX5_read_152 (o_2a h) rfl (o_2b h)
      · replace h := o_f c126 h
        refine lv_iload_n hx hb dX5_read_129 rfl (lv_at hl 1 rfl) ?_
        refine lv_iload_n hx hb dX5_read_130 rfl (lv_at hl 2 rfl) ?_
        refine lv_ishr hx hb dX5_read_131 ?_
        refine lv_iconst (v := 1) hx hb dX5_read_132 (by decide) ?_
        refine lv_iand hx hb dX5_read_133 ?_
        refine lv_iconst (v := 1) hx hb dX5_read_134 (by decide) ?_
        refine lv_icmp_ne (tgt := 140) hx hb dX5_read_135 (by decide) (fun c135 => ?_) (fun c135 => ?_)
        · replace h := o_f c135 h
          obtain ⟨v140, ev140, h⟩ := o_nm h
          refine lv_iinc (v := v140) (lv' := [(3, .int v140), (0, .ref (sA G 9 0)), (2, .int x2_113)]) hx hb dX5_read_140 hl (k := 2) rfl (by rw [ev140]; rfl) (by decide) rfl (fun ls hl => ?_)
          refine lv_goto (tgt := 119) hx hb dX5_read_143 (by decide) ?_
          exact IH119 v140 h _ _ _ hw (lv_sub hl [1, 2, 0] rfl)
        · replace h := o_t c135 h
          refine lv_iload_n hx hb dX5_read_138 rfl (lv_at hl 2 rfl) ?_
          exact rI hQ hx hb hr hlk hw dX5_read_139 (o_2a h) rfl (o_2b h)
    refine fx3_w (F := (bX5_read_35 a1 k113)) (P := fun x2_35 x3_35 T_35 => ∀ (H : Heap) (locs : List Loc) (ls : Array Slot), sHw G s S T_35 H locs → lv_has ls 5 [(0, .ref (sA G 9 0)), (1, .int a1), (2, .int x2_35), (3, .int x3_35)] → W p l e rmX5_read s m args below meth c H locs 0 0 Q (F0 m 35 ls [])) ?_ _ _ _ _ h _ _ _ hw (lv_sub hl [2, 3, 1, 0] rfl)
    intro rc35 IH35 x2_35 x3_35 T_35 h H locs ls hw hl
    unfold bX5_read_35 at h
    refine lv_iload_n hx hb dX5_read_35 rfl (lv_at hl 3 rfl) ?_
    refine lv_aload_n hx hb dX5_read_36 rfl (lv_at hl 0 rfl) ?_
    refine gMd (v := .ref (sA G 9 7)) hx hb hts hiX5 hown hw 8 (by decide) (hts (.fieldLink RX5 28 "SecondHomeModel" "sizes" "[I") (by decide +kernel)) rfl dX5_read_37 ?_
    refine lv_iload_n hx hb dX5_read_40 rfl (lv_at hl 1 rfl) ?_
    obtain ⟨b41, h⟩ := o_in h
    refine ldMd hx hb hw 6 (by decide) (n := 4) rfl b41 dX5_read_41 ?_
    refine lv_icmp_ge (tgt := 113) hx hb dX5_read_42 (by decide) (fun c42 => ?_) (fun c42 => ?_)
    · replace h := o_t c42 h
      exact J113 x2_35 T_35 _ _ _ hw (lv_sub hl [0, 2] rfl) h
    · replace h := o_f c42 h
      refine lv_iconst (v := 0) hx hb dX5_read_45 (by decide) ?_
      refine lv_istore (lv' := [(4, .int (0 : Int32)), (0, .ref (sA G 9 0)), (1, .int a1), (2, .int x2_35), (3, .int x3_35)]) hx hb dX5_read_46 hl (by decide) rfl (fun ls hl => ?_)
      obtain ⟨k101, ek101, h⟩ := o_nm h
      have J101 : ∀ (x2_101 : Int32) (H : Heap) (locs : List Loc) (ls : Array Slot), sHw G s S T_35 H locs → lv_has ls 5 [(0, .ref (sA G 9 0)), (1, .int a1), (2, .int x2_101), (3, .int x3_35)] → k101 x2_101 = some q → W p l e rmX5_read s m args below meth c H locs 0 0 Q (F0 m 101 ls []) := by
        intro x2_101 H locs ls hw hl h
        replace h := o_j1 ek101 h
        refine lv_aload_n hx hb dX5_read_101 rfl (lv_at hl 0 rfl) ?_
        obtain ⟨q102, eq102, h⟩ := o_bd h
        refine kV (As := []) (rest := []) (st' := [.int q102.1]) ⟨hx, hb, hml, hown, hts⟩ (kX5_goesOn l G eq102) (cwV 0 hts gX5_read_X5_goesOn rfl rfl rfl qqX5_goesOn ⟨Nat.le_of_ble_eq_true rfl, Nat.le_of_ble_eq_true rfl⟩) hw (rvMd hw) rfl hl.1 rfl (Nat.le_of_ble_eq_true rfl) dX5_read_102 ⟨Nat.zero_le _, Nat.zero_le _⟩ rfl (fun H locs hw => ?_)
        refine lv_istore (lv' := [(4, .int q102.1), (0, .ref (sA G 9 0)), (1, .int a1), (2, .int x2_101), (3, .int x3_35)]) hx hb dX5_read_105 hl (by decide) rfl (fun ls hl => ?_)
        obtain ⟨v107, ev107, h⟩ := o_nm h
        refine lv_iinc (v := v107) (lv' := [(3, .int v107), (4, .int q102.1), (0, .ref (sA G 9 0)), (1, .int a1), (2, .int x2_101)]) hx hb dX5_read_107 hl (k := 4) rfl (by rw [ev107]; rfl) (by decide) rfl (fun ls hl => ?_)
        refine lv_goto (tgt := 35) hx hb dX5_read_110 (by decide) ?_
        exact IH35 x2_101 v107 q102.2 h _ _ _ hw (lv_sub hl [2, 3, 4, 0] rfl)
      refine fx2_w (F := (bX5_read_48 a1 x3_35 T_35 k101)) (P := fun x2_48 x4_48 => ∀ (H : Heap) (locs : List Loc) (ls : Array Slot), sHw G s S T_35 H locs → lv_has ls 5 [(0, .ref (sA G 9 0)), (1, .int a1), (2, .int x2_48), (3, .int x3_35), (4, .int x4_48)] → W p l e rmX5_read s m args below meth c H locs 0 0 Q (F0 m 48 ls [])) ?_ _ _ _ h _ _ _ hw (lv_sub hl [1, 2, 3, 4, 0] rfl)
      intro rc48 IH48 x2_48 x4_48 h H locs ls hw hl
      unfold bX5_read_48 at h
      refine lv_iload hx hb dX5_read_48 (lv_at hl 4 rfl) ?_
      refine lv_aload_n hx hb dX5_read_50 rfl (lv_at hl 0 rfl) ?_
      refine gMd (v := .ref (sA G 9 1)) hx hb hts hiX5 hown hw 0 (by decide) (hts (.fieldLink RX5 7 "SecondHomeModel" "s" "[I") (by decide +kernel)) rfl dX5_read_51 ?_
      refine lv_iconst (v := 0) hx hb dX5_read_54 (by decide) ?_
      refine ldMd hx hb hw 0 (by decide) (n := 77) rfl (by decide) dX5_read_55 ?_
      refine lv_icmp_ge (tgt := 101) hx hb dX5_read_56 (by decide) (fun c56 => ?_) (fun c56 => ?_)
      · replace h := o_t c56 h
        exact J101 x2_48 _ _ _ hw (lv_sub hl [0, 1, 2, 3] rfl) h
      · replace h := o_f c56 h
        refine lv_iload_n hx hb dX5_read_59 rfl (lv_at hl 2 rfl) ?_
        refine lv_aload_n hx hb dX5_read_60 rfl (lv_at hl 0 rfl) ?_
        refine gMd (v := .ref (sA G 9 9)) hx hb hts hiX5 hown hw 9 (by decide) (hts (.fieldLink RX5 31 "SecondHomeModel" "numbers" "[J") (by decide +kernel)) rfl dX5_read_61 ?_
        refine lv_bipush (v := 40) hx hb dX5_read_64 (by decide) ?_
        refine lv_iload_n hx hb dX5_read_66 rfl (lv_at hl 1 rfl) ?_
        refine lv_imul hx hb dX5_read_67 ?_
        refine lv_iload_n hx hb dX5_read_68 rfl (lv_at hl 3 rfl) ?_
        refine lv_iadd hx hb dX5_read_69 ?_
        obtain ⟨b70, h⟩ := o_in h
        refine ldMl hx hb hw b70 dX5_read_70 ?_
        refine lv_aload_n hx hb dX5_read_71 rfl (lv_at hl 0 rfl) ?_
        refine lv_iload hx hb dX5_read_72 (lv_at hl 4 rfl) ?_
        refine lv_iconst (v := 5) hx hb dX5_read_74 (by decide) ?_
        obtain ⟨q75, eq75, h⟩ := o_bd h
        refine kV (As := [.int x4_48, .int (5 : Int32)]) (rest := [.long (T_35.2.2 (((40 : Int32) * a1) + x3_35).toNatClampNeg), .int x2_48]) (st' := [.int q75, .long (T_35.2.2 (((40 : Int32) * a1) + x3_35).toNatClampNeg), .int x2_48]) ⟨hx, hb, hml, hown, hts⟩ (kX5_is l G eq75) (cwV 2 hts gX5_read_X5_is rfl rfl rfl qqX5_is ⟨Nat.le_of_ble_eq_true rfl, Nat.le_of_ble_eq_true rfl⟩) hw (rvMd hw) rfl hl.1 rfl (Nat.le_of_ble_eq_true rfl) dX5_read_75 ⟨Nat.zero_le _, Nat.zero_le _⟩ rfl (fun H locs hw => ?_)
        refine lv_i2l hx hb dX5_read_78 rfl ?_
        refine W.lcmp hx hb dX5_read_79 ?_
        refine lv_if_ne (tgt := 87) hx hb dX5_read_80 (by decide) (fun c80 => ?_) (fun c80 => ?_)
        · replace h := o_f c80 h
          refine lv_iconst (v := 1) hx hb dX5_read_87 (by decide) ?_
          refine lv_iload hx hb dX5_read_88 (lv_at hl 4 rfl) ?_
          refine lv_ishl hx hb dX5_read_90 ?_
          refine lv_iconst (v := -1) hx hb dX5_read_91 (by decide) ?_
          refine lv_ixor hx hb dX5_read_92 ?_
          refine lv_iand hx hb dX5_read_93 ?_
          refine lv_topi (fun v94 ev94 => ?_)
          replace h := o_nx ev94 h
          refine lv_istore_n (lv' := [(2, .int v94), (0, .ref (sA G 9 0)), (1, .int a1), (3, .int x3_35), (4, .int x4_48)]) hx hb dX5_read_94 rfl hl (by decide) rfl (fun ls hl => ?_)
          obtain ⟨v95, ev95, h⟩ := o_nm h
          refine lv_iinc (v := v95) (lv' := [(4, .int v95), (2, .int v94), (0, .ref (sA G 9 0)), (1, .int a1), (3, .int x3_35)]) hx hb dX5_read_95 hl (k := 4) rfl (by rw [ev95]; rfl) (by decide) rfl (fun ls hl => ?_)
          refine lv_goto (tgt := 48) hx hb dX5_read_98 (by decide) ?_
          exact IH48 v94 v95 h _ _ _ hw (lv_sub hl [2, 3, 1, 4, 0] rfl)
        · replace h := o_t c80 h
          refine lv_iconst (v := -1) hx hb dX5_read_83 (by decide) ?_
          refine lv_goto (tgt := 93) hx hb dX5_read_84 (by decide) ?_
          refine lv_iand hx hb dX5_read_93 ?_
          refine lv_topi (fun v94 ev94 => ?_)
          replace h := o_nx ev94 h
          refine lv_istore_n (lv' := [(2, .int v94), (0, .ref (sA G 9 0)), (1, .int a1), (3, .int x3_35), (4, .int x4_48)]) hx hb dX5_read_94 rfl hl (by decide) rfl (fun ls hl => ?_)
          obtain ⟨v95, ev95, h⟩ := o_nm h
          refine lv_iinc (v := v95) (lv' := [(4, .int v95), (2, .int v94), (0, .ref (sA G 9 0)), (1, .int a1), (3, .int x3_35)]) hx hb dX5_read_95 hl (k := 4) rfl (by rw [ev95]; rfl) (by decide) rfl (fun ls hl => ?_)
          refine lv_goto (tgt := 48) hx hb dX5_read_98 (by decide) ?_
          exact IH48 v94 v95 h _ _ _ hw (lv_sub hl [2, 3, 1, 4, 0] rfl)
  · replace h := o_f c5 h
    refine lv_aload_n hx hb dX5_read_8 rfl (lv_at hl 0 rfl) ?_
    refine lv_aload_n hx hb dX5_read_9 rfl (lv_at hl 0 rfl) ?_
    refine lv_iload_n hx hb dX5_read_10 rfl (lv_at hl 1 rfl) ?_
    obtain ⟨q11, eq11, h⟩ := o_bd h
    refine kV (As := [.int a1]) (rest := [.ref (sA G 9 0)]) (st' := [.int q11, .ref (sA G 9 0)]) ⟨hx, hb, hml, hown, hts⟩ (kX5_lacks l G eq11) (cwV 1 hts gX5_read_X5_lacks rfl rfl rfl qqX5_lacks ⟨Nat.le_of_ble_eq_true rfl, Nat.le_of_ble_eq_true rfl⟩) hw (rvMd hw) rfl hl.1 rfl (Nat.le_of_ble_eq_true rfl) dX5_read_11 ⟨Nat.zero_le _, Nat.zero_le _⟩ rfl (fun H locs hw => ?_)
    obtain ⟨q14, eq14, h⟩ := o_bd h
    refine kV (As := [.int q11]) (rest := []) (st' := [.int q14.1]) ⟨hx, hb, hml, hown, hts⟩ (kX5_finds l G eq14) (cwV 1 hts gX5_read_X5_finds rfl rfl rfl qqX5_finds ⟨Nat.le_of_ble_eq_true rfl, Nat.le_of_ble_eq_true rfl⟩) hw (rvMd hw) rfl hl.1 rfl (Nat.le_of_ble_eq_true rfl) dX5_read_14 ⟨Nat.zero_le _, Nat.zero_le _⟩ rfl (fun H locs hw => ?_)
    exact rI hQ hx hb hr hlk hw dX5_read_17 (o_2a h) rfl (o_2b h)
-- X5_image
set_option maxRecDepth 100000 in
set_option maxHeartbeats 4000000 in
theorem kX5_image (l : Launch) (G : sGl) {S : sWo} {M : sOb}  {q : (Int32 × sOb)}  (h : fX5_image M = some q) : sCt l G yX5_image wsX5_image rmX5_image [.ref (sA G 9 0)] S M (some (.int q.1)) S q.2 := by
  refine cMk (cc := cX5_image) (maxL := 2) (ret := (some .int)) (by decide) rfl (Nat.le_of_ble_eq_true rfl) ?_
  intro p e s m args below meth c Q hQ hx hb hr hlk hml hown hts hw ls hl
  have hown : s.vm.findClass RX5 = some m.cls := hown
  have hl : lv_has ls 2 [(0, .ref (sA G 9 0))] := hl
  have hiX5 : ∀ w ∈ u_ws RX5 TX5 15, w ∈ wsX5_image := by decide +kernel
  unfold fX5_image at h
  refine lv_iconst (v := 0) hx hb dX5_image_0 (by decide) ?_
  refine lv_istore_n (lv' := [(1, .int (0 : Int32)), (0, .ref (sA G 9 0))]) hx hb dX5_image_1 rfl hl (by decide) rfl (fun ls hl => ?_)
  refine fx2_w (F := bX5_image_2) (P := fun x1_2 T_2 => ∀ (H : Heap) (locs : List Loc) (ls : Array Slot), sHw G s S T_2 H locs → lv_has ls 2 [(0, .ref (sA G 9 0)), (1, .int x1_2)] → W p l e rmX5_image s m args below meth c H locs 0 0 Q (F0 m 2 ls [])) ?_ _ _ _ h _ _ _ hw (lv_sub hl [1, 0] rfl)
  intro rc2 IH2 x1_2 T_2 h H locs ls hw hl
  unfold bX5_image_2 at h
  refine lv_iload_n hx hb dX5_image_2 rfl (lv_at hl 1 rfl) ?_
  refine lv_bipush (v := 77) hx hb dX5_image_3 (by decide) ?_
  refine lv_icmp_ge (tgt := 26) hx hb dX5_image_5 (by decide) (fun c5 => ?_) (fun c5 => ?_)
  · replace h := o_t c5 h
    refine lv_aload_n hx hb dX5_image_26 rfl (lv_at hl 0 rfl) ?_
    refine lv_iconst (v := 1) hx hb dX5_image_27 (by decide) ?_
    refine pMd (ty := .boolean) hx hb hts hiX5 hown hw 3 0 (by decide) rfl rfl (by decide +kernel) rfl rfl (hts (.fieldLink RX5 237 "SecondHomeModel" "isKept" "Z") (by decide +kernel)) dX5_image_28 rfl (fun H locs hw => ?_)
    obtain ⟨M28, eM28, h⟩ := o_nm h
    rw [← eM28] at hw
    refine lv_iconst (v := 1) hx hb dX5_image_31 (by decide) ?_
    exact rI hQ hx hb hr hlk hw dX5_image_32 (o_2a h) rfl (o_2b h)
  · replace h := o_f c5 h
    refine lv_aload_n hx hb dX5_image_8 rfl (lv_at hl 0 rfl) ?_
    refine gMd (v := .ref (sA G 9 2)) hx hb hts hiX5 hown hw 1 (by decide) (hts (.fieldLink RX5 13 "SecondHomeModel" "kept" "[I") (by decide +kernel)) rfl dX5_image_9 ?_
    refine lv_iload_n hx hb dX5_image_12 rfl (lv_at hl 1 rfl) ?_
    refine lv_aload_n hx hb dX5_image_13 rfl (lv_at hl 0 rfl) ?_
    refine gMd (v := .ref (sA G 9 1)) hx hb hts hiX5 hown hw 0 (by decide) (hts (.fieldLink RX5 7 "SecondHomeModel" "s" "[I") (by decide +kernel)) rfl dX5_image_14 ?_
    refine lv_iload_n hx hb dX5_image_17 rfl (lv_at hl 1 rfl) ?_
    obtain ⟨b18, h⟩ := o_in h
    refine ldMd hx hb hw 0 (by decide) (n := 77) rfl b18 dX5_image_18 ?_
    refine stMd hx hb hw 1 (by decide) (n := 77) rfl b18 dX5_image_19 rfl (fun H locs hw => ?_)
    obtain ⟨M19, eM19, h⟩ := o_nm h
    rw [← eM19] at hw
    obtain ⟨v20, ev20, h⟩ := o_nm h
    refine lv_iinc (v := v20) (lv' := [(1, .int v20), (0, .ref (sA G 9 0))]) hx hb dX5_image_20 hl (k := 1) rfl (by rw [ev20]; rfl) (by decide) rfl (fun ls hl => ?_)
    refine lv_goto (tgt := 2) hx hb dX5_image_23 (by decide) ?_
    exact IH2 v20 M19 h _ _ _ hw (lv_sub hl [1, 0] rfl)
-- X5_undo
set_option maxRecDepth 100000 in
set_option maxHeartbeats 4000000 in
theorem kX5_undo (l : Launch) (G : sGl) {S : sWo} {M : sOb}  {q : (Int32 × sOb)}  (h : fX5_undo M = some q) : sCt l G yX5_undo wsX5_undo rmX5_undo [.ref (sA G 9 0)] S M (some (.int q.1)) S q.2 := by
  refine cMk (cc := cX5_undo) (maxL := 2) (ret := (some .int)) (by decide) rfl (Nat.le_of_ble_eq_true rfl) ?_
  intro p e s m args below meth c Q hQ hx hb hr hlk hml hown hts hw ls hl
  have hown : s.vm.findClass RX5 = some m.cls := hown
  have hl : lv_has ls 2 [(0, .ref (sA G 9 0))] := hl
  have hiX5 : ∀ w ∈ u_ws RX5 TX5 15, w ∈ wsX5_undo := by decide +kernel
  unfold fX5_undo at h
  refine lv_aload_n hx hb dX5_undo_0 rfl (lv_at hl 0 rfl) ?_
  refine gMd (v := .int (M.1 0)) hx hb hts hiX5 hown hw 3 (by decide) (hts (.fieldLink RX5 237 "SecondHomeModel" "isKept" "Z") (by decide +kernel)) rfl dX5_undo_1 ?_
  refine lv_if_ne (tgt := 14) hx hb dX5_undo_4 (by decide) (fun c4 => ?_) (fun c4 => ?_)
  · replace h := o_f c4 h
    refine lv_iconst (v := 0) hx hb dX5_undo_14 (by decide) ?_
    refine lv_istore_n (lv' := [(1, .int (0 : Int32)), (0, .ref (sA G 9 0))]) hx hb dX5_undo_15 rfl hl (by decide) rfl (fun ls hl => ?_)
    refine fx2_w (F := bX5_undo_16) (P := fun x1_16 T_16 => ∀ (H : Heap) (locs : List Loc) (ls : Array Slot), sHw G s S T_16 H locs → lv_has ls 2 [(0, .ref (sA G 9 0)), (1, .int x1_16)] → W p l e rmX5_undo s m args below meth c H locs 0 0 Q (F0 m 16 ls [])) ?_ _ _ _ h _ _ _ hw (lv_sub hl [1, 0] rfl)
    intro rc16 IH16 x1_16 T_16 h H locs ls hw hl
    unfold bX5_undo_16 at h
    refine lv_iload_n hx hb dX5_undo_16 rfl (lv_at hl 1 rfl) ?_
    refine lv_bipush (v := 77) hx hb dX5_undo_17 (by decide) ?_
    refine lv_icmp_ge (tgt := 40) hx hb dX5_undo_19 (by decide) (fun c19 => ?_) (fun c19 => ?_)
    · replace h := o_t c19 h
      refine lv_aload_n hx hb dX5_undo_40 rfl (lv_at hl 0 rfl) ?_
      refine gMd (v := .ref (sA G 9 1)) hx hb hts hiX5 hown hw 0 (by decide) (hts (.fieldLink RX5 7 "SecondHomeModel" "s" "[I") (by decide +kernel)) rfl dX5_undo_41 ?_
      refine lv_iconst (v := 0) hx hb dX5_undo_44 (by decide) ?_
      refine ldMd hx hb hw 0 (by decide) (n := 77) rfl (by decide) dX5_undo_45 ?_
      exact rI hQ hx hb hr hlk hw dX5_undo_46 (o_2a h) rfl (o_2b h)
    · replace h := o_f c19 h
      refine lv_aload_n hx hb dX5_undo_22 rfl (lv_at hl 0 rfl) ?_
      refine gMd (v := .ref (sA G 9 1)) hx hb hts hiX5 hown hw 0 (by decide) (hts (.fieldLink RX5 7 "SecondHomeModel" "s" "[I") (by decide +kernel)) rfl dX5_undo_23 ?_
      refine lv_iload_n hx hb dX5_undo_26 rfl (lv_at hl 1 rfl) ?_
      refine lv_aload_n hx hb dX5_undo_27 rfl (lv_at hl 0 rfl) ?_
      refine gMd (v := .ref (sA G 9 2)) hx hb hts hiX5 hown hw 1 (by decide) (hts (.fieldLink RX5 13 "SecondHomeModel" "kept" "[I") (by decide +kernel)) rfl dX5_undo_28 ?_
      refine lv_iload_n hx hb dX5_undo_31 rfl (lv_at hl 1 rfl) ?_
      obtain ⟨b32, h⟩ := o_in h
      refine ldMd hx hb hw 1 (by decide) (n := 77) rfl b32 dX5_undo_32 ?_
      refine stMd hx hb hw 0 (by decide) (n := 77) rfl b32 dX5_undo_33 rfl (fun H locs hw => ?_)
      obtain ⟨M33, eM33, h⟩ := o_nm h
      rw [← eM33] at hw
      obtain ⟨v34, ev34, h⟩ := o_nm h
      refine lv_iinc (v := v34) (lv' := [(1, .int v34), (0, .ref (sA G 9 0))]) hx hb dX5_undo_34 hl (k := 1) rfl (by rw [ev34]; rfl) (by decide) rfl (fun ls hl => ?_)
      refine lv_goto (tgt := 16) hx hb dX5_undo_37 (by decide) ?_
      exact IH16 v34 M33 h _ _ _ hw (lv_sub hl [1, 0] rfl)
  · replace h := o_t c4 h
    refine lv_aload_n hx hb dX5_undo_7 rfl (lv_at hl 0 rfl) ?_
    refine lv_ldc (v := -1000000004) hx hb hown (hts (.constant RX5 39 (-1000000004)) (by decide +kernel)) dX5_undo_8 ?_
    obtain ⟨q10, eq10, h⟩ := o_bd h
    refine kV (As := [.int (-1000000004 : Int32)]) (rest := []) (st' := [.int q10.1]) ⟨hx, hb, hml, hown, hts⟩ (kX5_finds l G eq10) (cwV 1 hts gX5_undo_X5_finds rfl rfl rfl qqX5_finds ⟨Nat.le_of_ble_eq_true rfl, Nat.le_of_ble_eq_true rfl⟩) hw (rvMd hw) rfl hl.1 rfl (Nat.le_of_ble_eq_true rfl) dX5_undo_10 ⟨Nat.zero_le _, Nat.zero_le _⟩ rfl (fun H locs hw => ?_)
    exact rI hQ hx hb hr hlk hw dX5_undo_13 (o_2a h) rfl (o_2b h)
-- X5_tear
set_option maxRecDepth 100000 in
set_option maxHeartbeats 4000000 in
theorem kX5_tear (l : Launch) (G : sGl) {S : sWo} {M : sOb}  {q : (Int32 × sOb)}  (h : fX5_tear M = some q) : sCt l G yX5_tear wsX5_tear rmX5_tear [.ref (sA G 9 0)] S M (some (.int q.1)) S q.2 := by
  refine cMk (cc := cX5_tear) (maxL := 2) (ret := (some .int)) (by decide) rfl (Nat.le_of_ble_eq_true rfl) ?_
  intro p e s m args below meth c Q hQ hx hb hr hlk hml hown hts hw ls hl
  have hown : s.vm.findClass RX5 = some m.cls := hown
  have hl : lv_has ls 2 [(0, .ref (sA G 9 0))] := hl
  have hiX5 : ∀ w ∈ u_ws RX5 TX5 15, w ∈ wsX5_tear := by decide +kernel
  unfold fX5_tear at h
  refine lv_aload_n hx hb dX5_tear_0 rfl (lv_at hl 0 rfl) ?_
  refine gMd (v := .int (M.1 0)) hx hb hts hiX5 hown hw 3 (by decide) (hts (.fieldLink RX5 237 "SecondHomeModel" "isKept" "Z") (by decide +kernel)) rfl dX5_tear_1 ?_
  refine lv_topi (fun v4 ev4 => ?_)
  replace h := o_nx ev4 h
  refine lv_istore_n (lv' := [(1, .int v4), (0, .ref (sA G 9 0))]) hx hb dX5_tear_4 rfl hl (by decide) rfl (fun ls hl => ?_)
  refine lv_aload_n hx hb dX5_tear_5 rfl (lv_at hl 1 rfl) ?_
  refine lv_iconst (v := 0) hx hb dX5_tear_6 (by decide) ?_
  refine pMd (ty := .boolean) hx hb hts hiX5 hown hw 3 0 (by decide) rfl rfl (by decide +kernel) rfl rfl (hts (.fieldLink RX5 237 "SecondHomeModel" "isKept" "Z") (by decide +kernel)) dX5_tear_7 rfl (fun H locs hw => ?_)
  obtain ⟨M7, eM7, h⟩ := o_nm h
  rw [← eM7] at hw
  refine lv_iload_n hx hb dX5_tear_10 rfl (lv_at hl 0 rfl) ?_
  refine lv_if_eq (tgt := 18) hx hb dX5_tear_11 (by decide) (fun c11 => ?_) (fun c11 => ?_)
  · replace h := o_t c11 h
    refine lv_iconst (v := 0) hx hb dX5_tear_18 (by decide) ?_
    exact rI hQ hx hb hr hlk hw dX5_tear_19 (o_2a h) rfl (o_2b h)
  · replace h := o_f c11 h
    refine lv_iconst (v := 1) hx hb dX5_tear_14 (by decide) ?_
    refine lv_goto (tgt := 19) hx hb dX5_tear_15 (by decide) ?_
    exact rI hQ hx hb hr hlk hw dX5_tear_19 (o_2a h) rfl (o_2b h)
-- X5_ofAll
set_option maxRecDepth 100000 in
set_option maxHeartbeats 4000000 in
theorem kX5_ofAll (l : Launch) (G : sGl) {S : sWo} {M : sOb} {a1 : Int32} {q : Int32}  (h : fX5_ofAll M a1 = some q) : sCt l G yX5_ofAll wsX5_ofAll rmX5_ofAll [.ref (sA G 9 0), .int a1] S M (some (.int q)) S M := by
  refine cMk (cc := cX5_ofAll) (maxL := 4) (ret := (some .int)) (by decide) rfl (Nat.le_of_ble_eq_true rfl) ?_
  intro p e s m args below meth c Q hQ hx hb hr hlk hml hown hts hw ls hl
  have hown : s.vm.findClass RX5 = some m.cls := hown
  have hl : lv_has ls 4 [(0, .ref (sA G 9 0)), (1, .int a1)] := hl
  have hiX5 : ∀ w ∈ u_ws RX5 TX5 15, w ∈ wsX5_ofAll := by decide +kernel
  unfold fX5_ofAll at h
  refine lv_iconst (v := 0) hx hb dX5_ofAll_0 (by decide) ?_
  refine lv_istore_n (lv' := [(2, .int (0 : Int32)), (0, .ref (sA G 9 0)), (1, .int a1)]) hx hb dX5_ofAll_1 rfl hl (by decide) rfl (fun ls hl => ?_)
  refine lv_iconst (v := 0) hx hb dX5_ofAll_2 (by decide) ?_
  refine lv_istore_n (lv' := [(3, .int (0 : Int32)), (2, .int (0 : Int32)), (0, .ref (sA G 9 0)), (1, .int a1)]) hx hb dX5_ofAll_3 rfl hl (by decide) rfl (fun ls hl => ?_)
  refine fx2_w (F := (bX5_ofAll_4 M a1)) (P := fun x2_4 x3_4 => ∀ (H : Heap) (locs : List Loc) (ls : Array Slot), sHw G s S M H locs → lv_has ls 4 [(0, .ref (sA G 9 0)), (1, .int a1), (2, .int x2_4), (3, .int x3_4)] → W p l e rmX5_ofAll s m args below meth c H locs 0 0 Q (F0 m 4 ls [])) ?_ _ _ _ h _ _ _ hw (lv_sub hl [2, 3, 1, 0] rfl)
  intro rc4 IH4 x2_4 x3_4 h H locs ls hw hl
  unfold bX5_ofAll_4 at h
  refine lv_iload_n hx hb dX5_ofAll_4 rfl (lv_at hl 3 rfl) ?_
  refine lv_aload_n hx hb dX5_ofAll_5 rfl (lv_at hl 0 rfl) ?_
  refine gMd (v := .ref (sA G 9 1)) hx hb hts hiX5 hown hw 0 (by decide) (hts (.fieldLink RX5 7 "SecondHomeModel" "s" "[I") (by decide +kernel)) rfl dX5_ofAll_6 ?_
  refine lv_iconst (v := 0) hx hb dX5_ofAll_9 (by decide) ?_
  refine ldMd hx hb hw 0 (by decide) (n := 77) rfl (by decide) dX5_ofAll_10 ?_
  refine lv_icmp_ge (tgt := 29) hx hb dX5_ofAll_11 (by decide) (fun c11 => ?_) (fun c11 => ?_)
  · replace h := o_t c11 h
    refine lv_iload_n hx hb dX5_ofAll_29 rfl (lv_at hl 2 rfl) ?_
    exact rI hQ hx hb hr hlk hw dX5_ofAll_30 (o_1 h) rfl rfl
  · replace h := o_f c11 h
    refine lv_iload_n hx hb dX5_ofAll_14 rfl (lv_at hl 2 rfl) ?_
    refine lv_aload_n hx hb dX5_ofAll_15 rfl (lv_at hl 0 rfl) ?_
    refine lv_iload_n hx hb dX5_ofAll_16 rfl (lv_at hl 3 rfl) ?_
    refine lv_iload_n hx hb dX5_ofAll_17 rfl (lv_at hl 1 rfl) ?_
    obtain ⟨q18, eq18, h⟩ := o_bd h
    refine kV (As := [.int x3_4, .int a1]) (rest := [.int x2_4]) (st' := [.int q18, .int x2_4]) ⟨hx, hb, hml, hown, hts⟩ (kX5_is l G eq18) (cwV 2 hts gX5_ofAll_X5_is rfl rfl rfl qqX5_is ⟨Nat.le_of_ble_eq_true rfl, Nat.le_of_ble_eq_true rfl⟩) hw (rvMd hw) rfl hl.1 rfl (Nat.le_of_ble_eq_true rfl) dX5_ofAll_18 ⟨Nat.zero_le _, Nat.zero_le _⟩ rfl (fun H locs hw => ?_)
    refine lv_iadd hx hb dX5_ofAll_21 ?_
    refine lv_topi (fun v22 ev22 => ?_)
    replace h := o_nx ev22 h
    refine lv_istore_n (lv' := [(2, .int v22), (0, .ref (sA G 9 0)), (1, .int a1), (3, .int x3_4)]) hx hb dX5_ofAll_22 rfl hl (by decide) rfl (fun ls hl => ?_)
    obtain ⟨v23, ev23, h⟩ := o_nm h
    refine lv_iinc (v := v23) (lv' := [(3, .int v23), (2, .int v22), (0, .ref (sA G 9 0)), (1, .int a1)]) hx hb dX5_ofAll_23 hl (k := 3) rfl (by rw [ev23]; rfl) (by decide) rfl (fun ls hl => ?_)
    refine lv_goto (tgt := 4) hx hb dX5_ofAll_26 (by decide) ?_
    exact IH4 v22 v23 h _ _ _ hw (lv_sub hl [2, 3, 1, 0] rfl)
-- X5_count
set_option maxRecDepth 100000 in
set_option maxHeartbeats 4000000 in
theorem kX5_count (l : Launch) (G : sGl) {S : sWo} {M : sOb} {a1 : Int32} {q : (Int32 × sOb)}  (h : fX5_count M a1 = some q) : sCt l G yX5_count wsX5_count rmX5_count [.ref (sA G 9 0), .int a1] S M (some (.int q.1)) S q.2 := by
  refine cMk (cc := cX5_count) (maxL := 2) (ret := (some .int)) (by decide) rfl (Nat.le_of_ble_eq_true rfl) ?_
  intro p e s m args below meth c Q hQ hx hb hr hlk hml hown hts hw ls hl
  have hown : s.vm.findClass RX5 = some m.cls := hown
  have hl : lv_has ls 2 [(0, .ref (sA G 9 0)), (1, .int a1)] := hl
  have hiX5 : ∀ w ∈ u_ws RX5 TX5 15, w ∈ wsX5_count := by decide +kernel
  unfold fX5_count at h
  refine lv_iload_n hx hb dX5_count_0 rfl (lv_at hl 1 rfl) ?_
  by_cases c1_0 : a1 = (0 : Int32)
  · replace h := o_t c1_0 h
    refine lv_tableIn (tgt := 36) hx hb dX5_count_1 (by rw [c1_0]; decide) (by rw [c1_0]; decide) (by rw [c1_0]; rfl) (by decide) ?_
    refine lv_aload_n hx hb dX5_count_36 rfl (lv_at hl 0 rfl) ?_
    refine gMd (v := .ref (sA G 9 1)) hx hb hts hiX5 hown hw 0 (by decide) (hts (.fieldLink RX5 7 "SecondHomeModel" "s" "[I") (by decide +kernel)) rfl dX5_count_37 ?_
    refine lv_iconst (v := 0) hx hb dX5_count_40 (by decide) ?_
    refine ldMd hx hb hw 0 (by decide) (n := 77) rfl (by decide) dX5_count_41 ?_
    exact rI hQ hx hb hr hlk hw dX5_count_42 (o_2a h) rfl (o_2b h)
  replace h := o_f c1_0 h
  by_cases c1_1 : a1 = (1 : Int32)
  · replace h := o_t c1_1 h
    refine lv_tableIn (tgt := 43) hx hb dX5_count_1 (by rw [c1_1]; decide) (by rw [c1_1]; decide) (by rw [c1_1]; rfl) (by decide) ?_
    refine lv_aload_n hx hb dX5_count_43 rfl (lv_at hl 0 rfl) ?_
    refine gMd (v := .int (M.1 1)) hx hb hts hiX5 hown hw 6 (by decide) (hts (.fieldLink RX5 168 "SecondHomeModel" "taped" "I") (by decide +kernel)) rfl dX5_count_44 ?_
    exact rI hQ hx hb hr hlk hw dX5_count_47 (o_2a h) rfl (o_2b h)
  replace h := o_f c1_1 h
  by_cases c1_2 : a1 = (2 : Int32)
  · replace h := o_t c1_2 h
    refine lv_tableIn (tgt := 48) hx hb dX5_count_1 (by rw [c1_2]; decide) (by rw [c1_2]; decide) (by rw [c1_2]; rfl) (by decide) ?_
    refine lv_aload_n hx hb dX5_count_48 rfl (lv_at hl 0 rfl) ?_
    refine lv_iconst (v := 5) hx hb dX5_count_49 (by decide) ?_
    obtain ⟨q50, eq50, h⟩ := o_bd h
    refine kV (As := [.int (5 : Int32)]) (rest := []) (st' := [.int q50]) ⟨hx, hb, hml, hown, hts⟩ (kX5_ofAll l G eq50) (cwV 1 hts gX5_count_X5_ofAll rfl rfl rfl qqX5_ofAll ⟨Nat.le_of_ble_eq_true rfl, Nat.le_of_ble_eq_true rfl⟩) hw (rvMd hw) rfl hl.1 rfl (Nat.le_of_ble_eq_true rfl) dX5_count_50 ⟨Nat.zero_le _, Nat.zero_le _⟩ rfl (fun H locs hw => ?_)
    exact rI hQ hx hb hr hlk hw dX5_count_53 (o_2a h) rfl (o_2b h)
  replace h := o_f c1_2 h
  by_cases c1_3 : a1 = (3 : Int32)
  · replace h := o_t c1_3 h
    refine lv_tableIn (tgt := 54) hx hb dX5_count_1 (by rw [c1_3]; decide) (by rw [c1_3]; decide) (by rw [c1_3]; rfl) (by decide) ?_
    refine lv_aload_n hx hb dX5_count_54 rfl (lv_at hl 0 rfl) ?_
    refine lv_iconst (v := 2) hx hb dX5_count_55 (by decide) ?_
    obtain ⟨q56, eq56, h⟩ := o_bd h
    refine kV (As := [.int (2 : Int32)]) (rest := []) (st' := [.int q56]) ⟨hx, hb, hml, hown, hts⟩ (kX5_ofAll l G eq56) (cwV 1 hts gX5_count_X5_ofAll rfl rfl rfl qqX5_ofAll ⟨Nat.le_of_ble_eq_true rfl, Nat.le_of_ble_eq_true rfl⟩) hw (rvMd hw) rfl hl.1 rfl (Nat.le_of_ble_eq_true rfl) dX5_count_56 ⟨Nat.zero_le _, Nat.zero_le _⟩ rfl (fun H locs hw => ?_)
    exact rI hQ hx hb hr hlk hw dX5_count_59 (o_2a h) rfl (o_2b h)
  replace h := o_f c1_3 h
  by_cases c1_4 : a1 = (4 : Int32)
  · replace h := o_t c1_4 h
    refine lv_tableIn (tgt := 60) hx hb dX5_count_1 (by rw [c1_4]; decide) (by rw [c1_4]; decide) (by rw [c1_4]; rfl) (by decide) ?_
    refine lv_aload_n hx hb dX5_count_60 rfl (lv_at hl 0 rfl) ?_
    refine lv_bipush (v := 6) hx hb dX5_count_61 (by decide) ?_
    obtain ⟨q63, eq63, h⟩ := o_bd h
    refine kV (As := [.int (6 : Int32)]) (rest := []) (st' := [.int q63]) ⟨hx, hb, hml, hown, hts⟩ (kX5_ofAll l G eq63) (cwV 1 hts gX5_count_X5_ofAll rfl rfl rfl qqX5_ofAll ⟨Nat.le_of_ble_eq_true rfl, Nat.le_of_ble_eq_true rfl⟩) hw (rvMd hw) rfl hl.1 rfl (Nat.le_of_ble_eq_true rfl) dX5_count_63 ⟨Nat.zero_le _, Nat.zero_le _⟩ rfl (fun H locs hw => ?_)
    exact rI hQ hx hb hr hlk hw dX5_count_66 (o_2a h) rfl (o_2b h)
  replace h := o_f c1_4 h
  have sw1 : a1.toInt < 0 ∨ 4 < a1.toInt := by
    have z0 := sw_ne c1_0
    have z1 := sw_ne c1_1
    have z2 := sw_ne c1_2
    have z3 := sw_ne c1_3
    have z4 := sw_ne c1_4
    rw [show ((0 : Int32)).toInt = 0 from rfl] at z0
    rw [show ((1 : Int32)).toInt = 1 from rfl] at z1
    rw [show ((2 : Int32)).toInt = 2 from rfl] at z2
    rw [show ((3 : Int32)).toInt = 3 from rfl] at z3
    rw [show ((4 : Int32)).toInt = 4 from rfl] at z4
    omega
  refine lv_tableOut (tgt := 67) hx hb dX5_count_1 sw1 (by decide) ?_
  refine lv_aload_n hx hb dX5_count_67 rfl (lv_at hl 0 rfl) ?_
  refine lv_ldc (v := -1000000001) hx hb hown (hts (.constant RX5 38 (-1000000001)) (by decide +kernel)) dX5_count_68 ?_
  obtain ⟨q70, eq70, h⟩ := o_bd h
  refine kV (As := [.int (-1000000001 : Int32)]) (rest := []) (st' := [.int q70.1]) ⟨hx, hb, hml, hown, hts⟩ (kX5_finds l G eq70) (cwV 1 hts gX5_count_X5_finds rfl rfl rfl qqX5_finds ⟨Nat.le_of_ble_eq_true rfl, Nat.le_of_ble_eq_true rfl⟩) hw (rvMd hw) rfl hl.1 rfl (Nat.le_of_ble_eq_true rfl) dX5_count_70 ⟨Nat.zero_le _, Nat.zero_le _⟩ rfl (fun H locs hw => ?_)
  exact rI hQ hx hb hr hlk hw dX5_count_73 (o_2a h) rfl (o_2b h)
-- X5_status
set_option maxRecDepth 100000 in
set_option maxHeartbeats 4000000 in
theorem kX5_status (l : Launch) (G : sGl) {S : sWo} {M : sOb} {a1 : Int32} {q : (Int32 × sOb)}  (h : fX5_status M a1 = some q) : sCt l G yX5_status wsX5_status rmX5_status [.ref (sA G 9 0), .int a1] S M (some (.int q.1)) S q.2 := by
  refine cMk (cc := cX5_status) (maxL := 2) (ret := (some .int)) (by decide) rfl (Nat.le_of_ble_eq_true rfl) ?_
  intro p e s m args below meth c Q hQ hx hb hr hlk hml hown hts hw ls hl
  have hown : s.vm.findClass RX5 = some m.cls := hown
  have hl : lv_has ls 2 [(0, .ref (sA G 9 0)), (1, .int a1)] := hl
  have hiX5 : ∀ w ∈ u_ws RX5 TX5 15, w ∈ wsX5_status := by decide +kernel
  unfold fX5_status at h
  refine lv_iload_n hx hb dX5_status_0 rfl (lv_at hl 1 rfl) ?_
  refine lv_i2l hx hb dX5_status_1 rfl ?_
  refine lv_ldc2 (v := -1) hx hb hown (hts (.constantLong RX5 244 (-1)) (by decide +kernel)) dX5_status_2 ?_
  refine lv_ldc2 (v := 6) hx hb hown (hts (.constantLong RX5 246 (6)) (by decide +kernel)) dX5_status_5 ?_
  obtain ⟨q8, eq8, h⟩ := o_bd h
  refine kS (As := [.long a1.toInt64, .long (-1 : Int64), .long (6 : Int64)]) (rest := []) (st' := [.int q8]) ⟨hx, hb, hml, hown, hts⟩ (kX5_isIn l G eq8) (va_cwS 3 hts gX5_status_X5_isIn rfl rfl rfl qqX5_isIn ⟨Nat.le_of_ble_eq_true rfl, Nat.le_of_ble_eq_true rfl⟩) hw rfl hl.1 rfl (Nat.le_of_ble_eq_true rfl) dX5_status_8 ⟨Nat.zero_le _, Nat.zero_le _⟩ rfl (fun H locs hw => ?_)
  refine lv_if_eq (tgt := 25) hx hb dX5_status_11 (by decide) (fun c11 => ?_) (fun c11 => ?_)
  · replace h := o_t c11 h
    refine lv_aload_n hx hb dX5_status_25 rfl (lv_at hl 0 rfl) ?_
    refine lv_ldc (v := -1000000001) hx hb hown (hts (.constant RX5 38 (-1000000001)) (by decide +kernel)) dX5_status_26 ?_
    obtain ⟨q28, eq28, h⟩ := o_bd h
    refine kV (As := [.int (-1000000001 : Int32)]) (rest := []) (st' := [.int q28.1]) ⟨hx, hb, hml, hown, hts⟩ (kX5_finds l G eq28) (cwV 1 hts gX5_status_X5_finds rfl rfl rfl qqX5_finds ⟨Nat.le_of_ble_eq_true rfl, Nat.le_of_ble_eq_true rfl⟩) hw (rvMd hw) rfl hl.1 rfl (Nat.le_of_ble_eq_true rfl) dX5_status_28 ⟨Nat.zero_le _, Nat.zero_le _⟩ rfl (fun H locs hw => ?_)
    exact rI hQ hx hb hr hlk hw dX5_status_31 (o_2a h) rfl (o_2b h)
  · replace h := o_f c11 h
    refine lv_aload_n hx hb dX5_status_14 rfl (lv_at hl 0 rfl) ?_
    refine gMd (v := .ref (sA G 9 4)) hx hb hts hiX5 hown hw 4 (by decide) (hts (.fieldLink RX5 19 "SecondHomeModel" "findings" "[I") (by decide +kernel)) rfl dX5_status_15 ?_
    refine lv_iload_n hx hb dX5_status_18 rfl (lv_at hl 1 rfl) ?_
    refine lv_iconst (v := 1) hx hb dX5_status_19 (by decide) ?_
    refine lv_iadd hx hb dX5_status_20 ?_
    obtain ⟨b21, h⟩ := o_in h
    refine ldMd hx hb hw 3 (by decide) (n := 8) rfl b21 dX5_status_21 ?_
    refine lv_goto (tgt := 31) hx hb dX5_status_22 (by decide) ?_
    exact rI hQ hx hb hr hlk hw dX5_status_31 (o_2a h) rfl (o_2b h)
