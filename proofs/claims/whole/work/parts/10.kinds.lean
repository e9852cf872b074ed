-- X0_isUnder
set_option maxRecDepth 100000 in
set_option maxHeartbeats 4000000 in
theorem kX0_isUnder (l : Launch) (G : sGl) {S : sWo} {M : sOb} {a0 : Int32} {a1 : Int32} {q : Int32}  (h : fX0_isUnder a0 a1 = some q) : sCt l G yX0_isUnder wsX0_isUnder rmX0_isUnder [.int a0, .int a1] S M (some (.int q)) S M := by
  refine cMk (cc := cX0_isUnder) (maxL := 4) (ret := (some .boolean)) (by decide) rfl (Nat.le_of_ble_eq_true rfl) ?_
  intro p e s m args below meth c Q hQ hx hb hr hlk hml hown hts hw ls hl
  have hown : s.vm.findClass RX0 = some m.cls := hown
  have hl : lv_has ls 4 [(0, .int a0), (1, .int a1)] := hl
  unfold fX0_isUnder at h
  refine lv_iload_n hx hb dX0_isUnder_0 rfl (lv_at hl 0 rfl) ?_
  refine lv_istore_n (lv' := [(2, .int a0), (0, .int a0), (1, .int a1)]) hx hb dX0_isUnder_1 rfl hl (by decide) rfl (fun ls hl => ?_)
  refine lv_iconst (v := 0) hx hb dX0_isUnder_2 (by decide) ?_
  refine lv_istore_n (lv' := [(3, .int (0 : Int32)), (2, .int a0), (0, .int a0), (1, .int a1)]) hx hb dX0_isUnder_3 rfl hl (by decide) rfl (fun ls hl => ?_)
  refine fx2_w (F := (bX0_isUnder_4 a1)) (P := fun x2_4 x3_4 => ∀ (H : Heap) (locs : List Loc) (ls : Array Slot), sHw G s S M H locs → lv_has ls 4 [(1, .int a1), (2, .int x2_4), (3, .int x3_4)] → W p l e rmX0_isUnder s m args below meth c H locs 0 0 Q (F0 m 4 ls [])) ?_ _ _ _ h _ _ _ hw (lv_sub hl [3, 1, 0] rfl)
  intro rc4 IH4 x2_4 x3_4 h H locs ls hw hl
  unfold bX0_isUnder_4 at h
  refine lv_iload_n hx hb dX0_isUnder_4 rfl (lv_at hl 2 rfl) ?_
  refine lv_bipush (v := 6) hx hb dX0_isUnder_5 (by decide) ?_
  refine lv_icmp_ge (tgt := 41) hx hb dX0_isUnder_7 (by decide) (fun c7 => ?_) (fun c7 => ?_)
  · replace h := o_t c7 h
    refine lv_iconst (v := 0) hx hb dX0_isUnder_41 (by decide) ?_
    exact rZ hQ hx hb hr hlk hw (Or.inl rfl) dX0_isUnder_42 (o_1 h) rfl rfl
  · replace h := o_f c7 h
    refine lv_iload_n hx hb dX0_isUnder_10 rfl (lv_at hl 1 rfl) ?_
    refine lv_if_lt (tgt := 41) hx hb dX0_isUnder_11 (by decide) (fun c11 => ?_) (fun c11 => ?_)
    · replace h := o_t c11 h
      refine lv_iconst (v := 0) hx hb dX0_isUnder_41 (by decide) ?_
      exact rZ hQ hx hb hr hlk hw (Or.inl rfl) dX0_isUnder_42 (o_1 h) rfl rfl
    · replace h := o_f c11 h
      refine lv_iload_n hx hb dX0_isUnder_14 rfl (lv_at hl 1 rfl) ?_
      refine va_gets hx hb hw.2.2.2.2.1 hw.2.2.2.1 hown (hts (.fieldLink RX0 9 "SecondHome$Kinds" "ABOVE" "[I") (by decide +kernel)) (fun _ h9 => h9) dX0_isUnder_15 ?_
      refine va_tlen hx hb hw.2.2.2.2.2.1 hw.2.2.2.1 (v := 6) rfl dX0_isUnder_18 ?_
      refine lv_icmp_ge (tgt := 41) hx hb dX0_isUnder_19 (by decide) (fun c19 => ?_) (fun c19 => ?_)
      · replace h := o_t c19 h
        refine lv_iconst (v := 0) hx hb dX0_isUnder_41 (by decide) ?_
        exact rZ hQ hx hb hr hlk hw (Or.inl rfl) dX0_isUnder_42 (o_1 h) rfl rfl
      · replace h := o_f c19 h
        refine lv_iload_n hx hb dX0_isUnder_22 rfl (lv_at hl 1 rfl) ?_
        refine lv_iload_n hx hb dX0_isUnder_23 rfl (lv_at hl 0 rfl) ?_
        refine lv_icmp_ne (tgt := 29) hx hb dX0_isUnder_24 (by decide) (fun c24 => ?_) (fun c24 => ?_)
        · replace h := o_f c24 h
          refine va_gets hx hb hw.2.2.2.2.1 hw.2.2.2.1 hown (hts (.fieldLink RX0 9 "SecondHome$Kinds" "ABOVE" "[I") (by decide +kernel)) (fun _ h9 => h9) dX0_isUnder_29 ?_
          refine lv_iload_n hx hb dX0_isUnder_32 rfl (lv_at hl 1 rfl) ?_
          obtain ⟨b33, h⟩ := o_in h
          refine va_ti hx hb hw.2.2.2.2.2.1 hw.2.2.2.1 b33 (v := .int (kAb.getD x2_4.toNatClampNeg 0)) rfl dX0_isUnder_33 ?_
          refine lv_topi (fun v34 ev34 => ?_)
          replace h := o_nx ev34 h
          refine lv_istore_n (lv' := [(2, .int v34), (1, .int a1), (3, .int x3_4)]) hx hb dX0_isUnder_34 rfl hl (by decide) rfl (fun ls hl => ?_)
          obtain ⟨v35, ev35, h⟩ := o_nm h
          refine lv_iinc (v := v35) (lv' := [(3, .int v35), (2, .int v34), (1, .int a1)]) hx hb dX0_isUnder_35 hl (k := 2) rfl (by rw [ev35]; rfl) (by decide) rfl (fun ls hl => ?_)
          refine lv_goto (tgt := 4) hx hb dX0_isUnder_38 (by decide) ?_
          exact IH4 v34 v35 h _ _ _ hw (lv_sub hl [2, 1, 0] rfl)
        · replace h := o_t c24 h
          refine lv_iconst (v := 1) hx hb dX0_isUnder_27 (by decide) ?_
          exact rZ hQ hx hb hr hlk hw (Or.inr rfl) dX0_isUnder_28 (o_1 h) rfl rfl
-- X0_name
set_option maxRecDepth 100000 in
set_option maxHeartbeats 4000000 in
theorem kX0_name (l : Launch) (G : sGl) {S : sWo} {M : sOb} {a0 : Int32} {q : Nat}  (h : fX0_name a0 = some q) : sCt l G yX0_name wsX0_name rmX0_name [.int a0] S M (some (.ref (sX G (1 + q)))) S M := by
  refine cMk (cc := cX0_name) (maxL := 1) (ret := (some (.object "java/lang/String"))) (by decide) rfl (Nat.le_of_ble_eq_true rfl) ?_
  intro p e s m args below meth c Q hQ hx hb hr hlk hml hown hts hw ls hl
  have hown : s.vm.findClass RX0 = some m.cls := hown
  have hl : lv_has ls 1 [(0, .int a0)] := hl
  unfold fX0_name at h
  refine lv_iload_n hx hb dX0_name_0 rfl (lv_at hl 0 rfl) ?_
  by_cases c1_0 : a0 = (0 : Int32)
  · replace h := o_t c1_0 h
    refine lv_tableIn (tgt := 36) hx hb dX0_name_1 (by rw [c1_0]; decide) (by rw [c1_0]; decide) (by rw [c1_0]; rfl) (by decide) ?_
    refine va_ldcS hx hb hown (hw.2.2.2.2.2.2.2.2.2 0 (by decide)) dX0_name_36 ?_
    exact rA hQ hx hb hr ⟨_, rfl⟩ hlk hw dX0_name_38 (congrArg (fun z => sX G (1 + z)) (o_1 h)) rfl rfl
  replace h := o_f c1_0 h
  by_cases c1_1 : a0 = (1 : Int32)
  · replace h := o_t c1_1 h
    refine lv_tableIn (tgt := 39) hx hb dX0_name_1 (by rw [c1_1]; decide) (by rw [c1_1]; decide) (by rw [c1_1]; rfl) (by decide) ?_
    refine va_ldcS hx hb hown (hw.2.2.2.2.2.2.2.2.2 1 (by decide)) dX0_name_39 ?_
    exact rA hQ hx hb hr ⟨_, rfl⟩ hlk hw dX0_name_41 (congrArg (fun z => sX G (1 + z)) (o_1 h)) rfl rfl
  replace h := o_f c1_1 h
  by_cases c1_2 : a0 = (2 : Int32)
  · replace h := o_t c1_2 h
    refine lv_tableIn (tgt := 42) hx hb dX0_name_1 (by rw [c1_2]; decide) (by rw [c1_2]; decide) (by rw [c1_2]; rfl) (by decide) ?_
    refine va_ldcS hx hb hown (hw.2.2.2.2.2.2.2.2.2 2 (by decide)) dX0_name_42 ?_
    exact rA hQ hx hb hr ⟨_, rfl⟩ hlk hw dX0_name_44 (congrArg (fun z => sX G (1 + z)) (o_1 h)) rfl rfl
  replace h := o_f c1_2 h
  by_cases c1_3 : a0 = (3 : Int32)
  · replace h := o_t c1_3 h
    refine lv_tableIn (tgt := 45) hx hb dX0_name_1 (by rw [c1_3]; decide) (by rw [c1_3]; decide) (by rw [c1_3]; rfl) (by decide) ?_
    refine va_ldcS hx hb hown (hw.2.2.2.2.2.2.2.2.2 3 (by decide)) dX0_name_45 ?_
    exact rA hQ hx hb hr ⟨_, rfl⟩ hlk hw dX0_name_47 (congrArg (fun z => sX G (1 + z)) (o_1 h)) rfl rfl
  replace h := o_f c1_3 h
  by_cases c1_4 : a0 = (4 : Int32)
  · replace h := o_t c1_4 h
    refine lv_tableIn (tgt := 48) hx hb dX0_name_1 (by rw [c1_4]; decide) (by rw [c1_4]; decide) (by rw [c1_4]; rfl) (by decide) ?_
    refine va_ldcS hx hb hown (hw.2.2.2.2.2.2.2.2.2 4 (by decide)) dX0_name_48 ?_
    exact rA hQ hx hb hr ⟨_, rfl⟩ hlk hw dX0_name_50 (congrArg (fun z => sX G (1 + z)) (o_1 h)) rfl rfl
  replace h := o_f c1_4 h
  have sw1 : a0.toInt < 0 ∨ 4 < a0.toInt := by
    have z0 := sw_ne c1_0
    have z1 := sw_ne c1_1
    have z2 := sw_ne c1_2
    have z3 := sw_ne c1_3
    have z4 := sw_ne c1_4
    rw [show ((0 : Int32)).toInt = 0 from rfl] at z0
    rw [show ((1 : Int32)).toInt = 1 from rfl] at z1
    rw [show ((2 : Int32)).toInt = 2 from rfl] at z2
    rw [show ((3 : Int32)).toInt = 3 from rfl] at z3
    rw [show ((4 : Int32)).toInt = 4 from rfl] at z4
    omega
  refine lv_tableOut (tgt := 51) hx hb dX0_name_1 sw1 (by decide) ?_
  refine va_ldcS hx hb hown (hw.2.2.2.2.2.2.2.2.2 5 (by decide)) dX0_name_51 ?_
  exact rA hQ hx hb hr ⟨_, rfl⟩ hlk hw dX0_name_53 (congrArg (fun z => sX G (1 + z)) (o_1 h)) rfl rfl
