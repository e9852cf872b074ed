-- X3_takeOver
def bX3_takeOver_50 (T2 : sOb) (rc50 : Int32 → sOb → Option sOb) (x2_50 : Int32) (T_50 : sOb) : Option sOb :=
  if (9 : Int32) ≤ x2_50 then (some T_50) else (if x2_50 < 0 ∨ 9 ≤ x2_50.toNatClampNeg then none else nm (sSa T_50 0 x2_50.toNatClampNeg (T2.2.1 0 x2_50.toNatClampNeg)) fun T67 => nm (sSa T67 1 x2_50.toNatClampNeg (T2.2.1 1 x2_50.toNatClampNeg)) fun T79 => nm (sSa T79 2 x2_50.toNatClampNeg (T2.2.1 2 x2_50.toNatClampNeg)) fun T91 => nm (sSa T91 3 x2_50.toNatClampNeg (T2.2.1 3 x2_50.toNatClampNeg)) fun T103 => nm (sSa T103 4 x2_50.toNatClampNeg (T2.2.1 4 x2_50.toNatClampNeg)) fun T115 => nm (sSa T115 5 x2_50.toNatClampNeg (T2.2.1 5 x2_50.toNatClampNeg)) fun T127 => nm (sSa T127 6 x2_50.toNatClampNeg (T2.2.1 6 x2_50.toNatClampNeg)) fun T139 => nm (sSa T139 7 x2_50.toNatClampNeg (T2.2.1 7 x2_50.toNatClampNeg)) fun T151 => nm (x2_50 + (1 : Int32)) fun v152 => rc50 v152 T151)
def fX3_takeOver (T : sOb) (T2 : sOb) : Option sOb :=
  nm (sSs T 0 (T2.1 0)) fun T5 => nm (sSs T5 1 (T2.1 1)) fun T13 => nm (sSs T13 2 (T2.1 2)) fun T21 => nm (sSs T21 3 (T2.1 3)) fun T29 => nm (sSs T29 4 (T2.1 4)) fun T37 => nm (sSs T37 5 (T2.1 5)) fun T45 => fx2 (bX3_takeOver_50 T2) FU (0 : Int32) T45
def rmX3_takeOver : Room := { frames := 0, cells := 0, slots := 0, locals := 0 }
theorem qqX3_takeOver : yX3_takeOver.cls = RX3 ∧ yX3_takeOver.cls ≠ "java/lang/invoke/MethodHandle" ∧ yX3_takeOver.cls ≠ "java/lang/invoke/VarHandle" ∧ (parseMethodDescriptor yX3_takeOver.desc).map (fun d => d.parameters.length) = some 1 := by decide +kernel
set_option maxRecDepth 100000 in
set_option maxHeartbeats 4000000 in
theorem kX3_takeOver (l : Launch) (G : sGl) {S : sWo} {M : sOb} {o : Nat} {T : sOb} {o2 : Nat} {T2 : sOb} {q : sOb} (ho : isTk o) (ho2 : isTk o2) (hne : o2 ≠ o) (hT : S o = T) (hT2 : S o2 = T2) (h : fX3_takeOver T T2 = some q) : sCt l G yX3_takeOver wsX3_takeOver rmX3_takeOver [.ref (sA G o 0), .ref (sA G o2 0)] S M none (sUp S o q) M := by
  refine cMk (cc := cX3_takeOver) (maxL := 3) (ret := none) (by decide) rfl (Nat.le_of_ble_eq_true rfl) ?_
  intro p e s m args below meth c Q hQ hx hb hr hlk hml hown hts hw ls hl
  have hown : s.vm.findClass RX3 = some m.cls := hown
  have hl : lv_has ls 3 [(0, .ref (sA G o 0)), (1, .ref (sA G o2 0))] := hl
  have hiX3 : ∀ w ∈ u_ws RX3 TX3 15, w ∈ wsX3_takeOver := by decide +kernel
  rw [show S = sUp S o T from (by rw [← hT]; exact (sUp_i S o).symm)] at hw
  unfold fX3_takeOver at h
  refine lv_aload_n hx hb dX3_takeOver_0 rfl (lv_at hl 0 rfl) ?_
  refine lv_aload_n hx hb dX3_takeOver_1 rfl (lv_at hl 1 rfl) ?_
  refine gTk (v := .int (T2.1 0)) hx hb hts hiX3 hown hw ho2 ((sUp_n hne).trans hT2) 0 (by decide) (hts (.fieldLink RX3 9 "SecondHome$Track" "length" "I") (by decide +kernel)) rfl dX3_takeOver_2 ?_
  refine pTk hx hb hts hiX3 hown hw ho (sUp_s S o T) 0 (by decide) (hts (.fieldLink RX3 9 "SecondHome$Track" "length" "I") (by decide +kernel)) dX3_takeOver_5 (sUp_u S o T _) (fun H locs hw => ?_)
  obtain ⟨T5, eT5, h⟩ := o_nm h
  rw [← eT5] at hw
  refine lv_aload_n hx hb dX3_takeOver_8 rfl (lv_at hl 0 rfl) ?_
  refine lv_aload_n hx hb dX3_takeOver_9 rfl (lv_at hl 1 rfl) ?_
  refine gTk (v := .int (T2.1 1)) hx hb hts hiX3 hown hw ho2 ((sUp_n hne).trans hT2) 1 (by decide) (hts (.fieldLink RX3 15 "SecondHome$Track" "least" "I") (by decide +kernel)) rfl dX3_takeOver_10 ?_
  refine pTk hx hb hts hiX3 hown hw ho (sUp_s S o T5) 1 (by decide) (hts (.fieldLink RX3 15 "SecondHome$Track" "least" "I") (by decide +kernel)) dX3_takeOver_13 (sUp_u S o T5 _) (fun H locs hw => ?_)
  obtain ⟨T13, eT13, h⟩ := o_nm h
  rw [← eT13] at hw
  refine lv_aload_n hx hb dX3_takeOver_16 rfl (lv_at hl 0 rfl) ?_
  refine lv_aload_n hx hb dX3_takeOver_17 rfl (lv_at hl 1 rfl) ?_
  refine gTk (v := .int (T2.1 2)) hx hb hts hiX3 hown hw ho2 ((sUp_n hne).trans hT2) 2 (by decide) (hts (.fieldLink RX3 18 "SecondHome$Track" "law" "I") (by decide +kernel)) rfl dX3_takeOver_18 ?_
  refine pTk hx hb hts hiX3 hown hw ho (sUp_s S o T13) 2 (by decide) (hts (.fieldLink RX3 18 "SecondHome$Track" "law" "I") (by decide +kernel)) dX3_takeOver_21 (sUp_u S o T13 _) (fun H locs hw => ?_)
  obtain ⟨T21, eT21, h⟩ := o_nm h
  rw [← eT21] at hw
  refine lv_aload_n hx hb dX3_takeOver_24 rfl (lv_at hl 0 rfl) ?_
  refine lv_aload_n hx hb dX3_takeOver_25 rfl (lv_at hl 1 rfl) ?_
  refine gTk (v := .int (T2.1 3)) hx hb hts hiX3 hown hw ho2 ((sUp_n hne).trans hT2) 3 (by decide) (hts (.fieldLink RX3 49 "SecondHome$Track" "second" "I") (by decide +kernel)) rfl dX3_takeOver_26 ?_
  refine pTk hx hb hts hiX3 hown hw ho (sUp_s S o T21) 3 (by decide) (hts (.fieldLink RX3 49 "SecondHome$Track" "second" "I") (by decide +kernel)) dX3_takeOver_29 (sUp_u S o T21 _) (fun H locs hw => ?_)
  obtain ⟨T29, eT29, h⟩ := o_nm h
  rw [← eT29] at hw
  refine lv_aload_n hx hb dX3_takeOver_32 rfl (lv_at hl 0 rfl) ?_
  refine lv_aload_n hx hb dX3_takeOver_33 rfl (lv_at hl 1 rfl) ?_
  refine gTk (v := .int (T2.1 4)) hx hb hts hiX3 hown hw ho2 ((sUp_n hne).trans hT2) 4 (by decide) (hts (.fieldLink RX3 52 "SecondHome$Track" "count" "I") (by decide +kernel)) rfl dX3_takeOver_34 ?_
  refine pTk hx hb hts hiX3 hown hw ho (sUp_s S o T29) 4 (by decide) (hts (.fieldLink RX3 52 "SecondHome$Track" "count" "I") (by decide +kernel)) dX3_takeOver_37 (sUp_u S o T29 _) (fun H locs hw => ?_)
  obtain ⟨T37, eT37, h⟩ := o_nm h
  rw [← eT37] at hw
  refine lv_aload_n hx hb dX3_takeOver_40 rfl (lv_at hl 0 rfl) ?_
  refine lv_aload_n hx hb dX3_takeOver_41 rfl (lv_at hl 1 rfl) ?_
  refine gTk (v := .int (T2.1 5)) hx hb hts hiX3 hown hw ho2 ((sUp_n hne).trans hT2) 5 (by decide) (hts (.fieldLink RX3 55 "SecondHome$Track" "homeCount" "I") (by decide +kernel)) rfl dX3_takeOver_42 ?_
  refine pTk hx hb hts hiX3 hown hw ho (sUp_s S o T37) 5 (by decide) (hts (.fieldLink RX3 55 "SecondHome$Track" "homeCount" "I") (by decide +kernel)) dX3_takeOver_45 (sUp_u S o T37 _) (fun H locs hw => ?_)
  obtain ⟨T45, eT45, h⟩ := o_nm h
  rw [← eT45] at hw
  refine lv_iconst (v := 0) hx hb dX3_takeOver_48 (by decide) ?_
  refine lv_istore_n (lv' := [(2, .int (0 : Int32)), (0, .ref (sA G o 0)), (1, .ref (sA G o2 0))]) hx hb dX3_takeOver_49 rfl hl (by decide) rfl (fun ls hl => ?_)
  refine fx2_w (F := (bX3_takeOver_50 T2)) (P := fun x2_50 T_50 => ∀ (H : Heap) (locs : List Loc) (ls : Array Slot), sHw G s (sUp S o T_50) M H locs → lv_has ls 3 [(0, .ref (sA G o 0)), (1, .ref (sA G o2 0)), (2, .int x2_50)] → W p l e rmX3_takeOver s m args below meth c H locs 0 0 Q (F0 m 50 ls [])) ?_ _ _ _ h _ _ _ hw (lv_sub hl [1, 2, 0] rfl)
  intro rc50 IH50 x2_50 T_50 h H locs ls hw hl
  unfold bX3_takeOver_50 at h
  refine lv_iload_n hx hb dX3_takeOver_50 rfl (lv_at hl 2 rfl) ?_
  refine lv_bipush (v := 9) hx hb dX3_takeOver_51 (by decide) ?_
  refine lv_icmp_ge (tgt := 158) hx hb dX3_takeOver_53 (by decide) (fun c53 => ?_) (fun c53 => ?_)
  · replace h := o_t c53 h
    exact rV hQ hx hb hr hlk hw dX3_takeOver_158 (congrArg (sUp S o) (o_1 h)) rfl
  · replace h := o_f c53 h
    refine lv_aload_n hx hb dX3_takeOver_56 rfl (lv_at hl 0 rfl) ?_
    refine gTk (v := .ref (sA G o 1)) hx hb hts hiX3 hown hw ho (sUp_s S o T_50) 6 (by decide) (hts (.fieldLink RX3 21 "SecondHome$Track" "kinds" "[I") (by decide +kernel)) rfl dX3_takeOver_57 ?_
    refine lv_iload_n hx hb dX3_takeOver_60 rfl (lv_at hl 2 rfl) ?_
    refine lv_aload_n hx hb dX3_takeOver_61 rfl (lv_at hl 1 rfl) ?_
    refine gTk (v := .ref (sA G o2 1)) hx hb hts hiX3 hown hw ho2 ((sUp_n hne).trans hT2) 6 (by decide) (hts (.fieldLink RX3 21 "SecondHome$Track" "kinds" "[I") (by decide +kernel)) rfl dX3_takeOver_62 ?_
    refine lv_iload_n hx hb dX3_takeOver_65 rfl (lv_at hl 2 rfl) ?_
    obtain ⟨b66, h⟩ := o_in h
    refine ldTk hx hb hw ho2 ((sUp_n hne).trans hT2) 0 (by decide) b66 dX3_takeOver_66 ?_
    refine stTk hx hb hw ho (sUp_s S o T_50) 0 (by decide) b66 dX3_takeOver_67 (sUp_u S o T_50 _) (fun H locs hw => ?_)
    obtain ⟨T67, eT67, h⟩ := o_nm h
    rw [← eT67] at hw
    refine lv_aload_n hx hb dX3_takeOver_68 rfl (lv_at hl 0 rfl) ?_
    refine gTk (v := .ref (sA G o 2)) hx hb hts hiX3 hown hw ho (sUp_s S o T67) 7 (by decide) (hts (.fieldLink RX3 25 "SecondHome$Track" "paces" "[I") (by decide +kernel)) rfl dX3_takeOver_69 ?_
    refine lv_iload_n hx hb dX3_takeOver_72 rfl (lv_at hl 2 rfl) ?_
    refine lv_aload_n hx hb dX3_takeOver_73 rfl (lv_at hl 1 rfl) ?_
    refine gTk (v := .ref (sA G o2 2)) hx hb hts hiX3 hown hw ho2 ((sUp_n hne).trans hT2) 7 (by decide) (hts (.fieldLink RX3 25 "SecondHome$Track" "paces" "[I") (by decide +kernel)) rfl dX3_takeOver_74 ?_
    refine lv_iload_n hx hb dX3_takeOver_77 rfl (lv_at hl 2 rfl) ?_
    refine ldTk hx hb hw ho2 ((sUp_n hne).trans hT2) 1 (by decide) b66 dX3_takeOver_78 ?_
    refine stTk hx hb hw ho (sUp_s S o T67) 1 (by decide) b66 dX3_takeOver_79 (sUp_u S o T67 _) (fun H locs hw => ?_)
    obtain ⟨T79, eT79, h⟩ := o_nm h
    rw [← eT79] at hw
    refine lv_aload_n hx hb dX3_takeOver_80 rfl (lv_at hl 0 rfl) ?_
    refine gTk (v := .ref (sA G o 3)) hx hb hts hiX3 hown hw ho (sUp_s S o T79) 8 (by decide) (hts (.fieldLink RX3 28 "SecondHome$Track" "breaths" "[I") (by decide +kernel)) rfl dX3_takeOver_81 ?_
    refine lv_iload_n hx hb dX3_takeOver_84 rfl (lv_at hl 2 rfl) ?_
    refine lv_aload_n hx hb dX3_takeOver_85 rfl (lv_at hl 1 rfl) ?_
    refine gTk (v := .ref (sA G o2 3)) hx hb hts hiX3 hown hw ho2 ((sUp_n hne).trans hT2) 8 (by decide) (hts (.fieldLink RX3 28 "SecondHome$Track" "breaths" "[I") (by decide +kernel)) rfl dX3_takeOver_86 ?_
    refine lv_iload_n hx hb dX3_takeOver_89 rfl (lv_at hl 2 rfl) ?_
    refine ldTk hx hb hw ho2 ((sUp_n hne).trans hT2) 2 (by decide) b66 dX3_takeOver_90 ?_
    refine stTk hx hb hw ho (sUp_s S o T79) 2 (by decide) b66 dX3_takeOver_91 (sUp_u S o T79 _) (fun H locs hw => ?_)
    obtain ⟨T91, eT91, h⟩ := o_nm h
    rw [← eT91] at hw
    refine lv_aload_n hx hb dX3_takeOver_92 rfl (lv_at hl 0 rfl) ?_
    refine gTk (v := .ref (sA G o 4)) hx hb hts hiX3 hown hw ho (sUp_s S o T91) 9 (by decide) (hts (.fieldLink RX3 31 "SecondHome$Track" "friends" "[I") (by decide +kernel)) rfl dX3_takeOver_93 ?_
    refine lv_iload_n hx hb dX3_takeOver_96 rfl (lv_at hl 2 rfl) ?_
    refine lv_aload_n hx hb dX3_takeOver_97 rfl (lv_at hl 1 rfl) ?_
    refine gTk (v := .ref (sA G o2 4)) hx hb hts hiX3 hown hw ho2 ((sUp_n hne).trans hT2) 9 (by decide) (hts (.fieldLink RX3 31 "SecondHome$Track" "friends" "[I") (by decide +kernel)) rfl dX3_takeOver_98 ?_
    refine lv_iload_n hx hb dX3_takeOver_101 rfl (lv_at hl 2 rfl) ?_
    refine ldTk hx hb hw ho2 ((sUp_n hne).trans hT2) 3 (by decide) b66 dX3_takeOver_102 ?_
    refine stTk hx hb hw ho (sUp_s S o T91) 3 (by decide) b66 dX3_takeOver_103 (sUp_u S o T91 _) (fun H locs hw => ?_)
    obtain ⟨T103, eT103, h⟩ := o_nm h
    rw [← eT103] at hw
    refine lv_aload_n hx hb dX3_takeOver_104 rfl (lv_at hl 0 rfl) ?_
    refine gTk (v := .ref (sA G o 5)) hx hb hts hiX3 hown hw ho (sUp_s S o T103) 10 (by decide) (hts (.fieldLink RX3 34 "SecondHome$Track" "starts" "[I") (by decide +kernel)) rfl dX3_takeOver_105 ?_
    refine lv_iload_n hx hb dX3_takeOver_108 rfl (lv_at hl 2 rfl) ?_
    refine lv_aload_n hx hb dX3_takeOver_109 rfl (lv_at hl 1 rfl) ?_
    refine gTk (v := .ref (sA G o2 5)) hx hb hts hiX3 hown hw ho2 ((sUp_n hne).trans hT2) 10 (by decide) (hts (.fieldLink RX3 34 "SecondHome$Track" "starts" "[I") (by decide +kernel)) rfl dX3_takeOver_110 ?_
    refine lv_iload_n hx hb dX3_takeOver_113 rfl (lv_at hl 2 rfl) ?_
    refine ldTk hx hb hw ho2 ((sUp_n hne).trans hT2) 4 (by decide) b66 dX3_takeOver_114 ?_
    refine stTk hx hb hw ho (sUp_s S o T103) 4 (by decide) b66 dX3_takeOver_115 (sUp_u S o T103 _) (fun H locs hw => ?_)
    obtain ⟨T115, eT115, h⟩ := o_nm h
    rw [← eT115] at hw
    refine lv_aload_n hx hb dX3_takeOver_116 rfl (lv_at hl 0 rfl) ?_
    refine gTk (v := .ref (sA G o 6)) hx hb hts hiX3 hown hw ho (sUp_s S o T115) 11 (by decide) (hts (.fieldLink RX3 37 "SecondHome$Track" "yards" "[I") (by decide +kernel)) rfl dX3_takeOver_117 ?_
    refine lv_iload_n hx hb dX3_takeOver_120 rfl (lv_at hl 2 rfl) ?_
    refine lv_aload_n hx hb dX3_takeOver_121 rfl (lv_at hl 1 rfl) ?_
    refine gTk (v := .ref (sA G o2 6)) hx hb hts hiX3 hown hw ho2 ((sUp_n hne).trans hT2) 11 (by decide) (hts (.fieldLink RX3 37 "SecondHome$Track" "yards" "[I") (by decide +kernel)) rfl dX3_takeOver_122 ?_
    refine lv_iload_n hx hb dX3_takeOver_125 rfl (lv_at hl 2 rfl) ?_
    refine ldTk hx hb hw ho2 ((sUp_n hne).trans hT2) 5 (by decide) b66 dX3_takeOver_126 ?_
    refine stTk hx hb hw ho (sUp_s S o T115) 5 (by decide) b66 dX3_takeOver_127 (sUp_u S o T115 _) (fun H locs hw => ?_)
    obtain ⟨T127, eT127, h⟩ := o_nm h
    rw [← eT127] at hw
    refine lv_aload_n hx hb dX3_takeOver_128 rfl (lv_at hl 0 rfl) ?_
    refine gTk (v := .ref (sA G o 7)) hx hb hts hiX3 hown hw ho (sUp_s S o T127) 12 (by decide) (hts (.fieldLink RX3 40 "SecondHome$Track" "points" "[I") (by decide +kernel)) rfl dX3_takeOver_129 ?_
    refine lv_iload_n hx hb dX3_takeOver_132 rfl (lv_at hl 2 rfl) ?_
    refine lv_aload_n hx hb dX3_takeOver_133 rfl (lv_at hl 1 rfl) ?_
    refine gTk (v := .ref (sA G o2 7)) hx hb hts hiX3 hown hw ho2 ((sUp_n hne).trans hT2) 12 (by decide) (hts (.fieldLink RX3 40 "SecondHome$Track" "points" "[I") (by decide +kernel)) rfl dX3_takeOver_134 ?_
    refine lv_iload_n hx hb dX3_takeOver_137 rfl (lv_at hl 2 rfl) ?_
    refine ldTk hx hb hw ho2 ((sUp_n hne).trans hT2) 6 (by decide) b66 dX3_takeOver_138 ?_
    refine stTk hx hb hw ho (sUp_s S o T127) 6 (by decide) b66 dX3_takeOver_139 (sUp_u S o T127 _) (fun H locs hw => ?_)
    obtain ⟨T139, eT139, h⟩ := o_nm h
    rw [← eT139] at hw
    refine lv_aload_n hx hb dX3_takeOver_140 rfl (lv_at hl 0 rfl) ?_
    refine gTk (v := .ref (sA G o 8)) hx hb hts hiX3 hown hw ho (sUp_s S o T139) 13 (by decide) (hts (.fieldLink RX3 43 "SecondHome$Track" "homes" "[I") (by decide +kernel)) rfl dX3_takeOver_141 ?_
    refine lv_iload_n hx hb dX3_takeOver_144 rfl (lv_at hl 2 rfl) ?_
    refine lv_aload_n hx hb dX3_takeOver_145 rfl (lv_at hl 1 rfl) ?_
    refine gTk (v := .ref (sA G o2 8)) hx hb hts hiX3 hown hw ho2 ((sUp_n hne).trans hT2) 13 (by decide) (hts (.fieldLink RX3 43 "SecondHome$Track" "homes" "[I") (by decide +kernel)) rfl dX3_takeOver_146 ?_
    refine lv_iload_n hx hb dX3_takeOver_149 rfl (lv_at hl 2 rfl) ?_
    refine ldTk hx hb hw ho2 ((sUp_n hne).trans hT2) 7 (by decide) b66 dX3_takeOver_150 ?_
    refine stTk hx hb hw ho (sUp_s S o T139) 7 (by decide) b66 dX3_takeOver_151 (sUp_u S o T139 _) (fun H locs hw => ?_)
    obtain ⟨T151, eT151, h⟩ := o_nm h
    rw [← eT151] at hw
    obtain ⟨v152, ev152, h⟩ := o_nm h
    refine lv_iinc (v := v152) (lv' := [(2, .int v152), (0, .ref (sA G o 0)), (1, .ref (sA G o2 0))]) hx hb dX3_takeOver_152 hl (k := 2) rfl (by rw [ev152]; rfl) (by decide) rfl (fun ls hl => ?_)
    refine lv_goto (tgt := 50) hx hb dX3_takeOver_155 (by decide) ?_
    exact IH50 v152 T151 h _ _ _ hw (lv_sub hl [1, 2, 0] rfl)
-- X3_add
def fX3_add (T : sOb) (a1 : Int32) (a2 : Int32) (a3 : Int32) : Option (Int32 × sOb) :=
  if (T.1 4) < 0 then (some ((-1 : Int32), T)) else (if (T.1 4) < (9 : Int32) then (nm (T.1 4) fun v22 => if v22 < 0 ∨ 9 ≤ v22.toNatClampNeg then none else nm (sSa T 0 v22.toNatClampNeg a1) fun T31 => nm (sSa T31 1 v22.toNatClampNeg a2) fun T39 => nm (sSa T39 2 v22.toNatClampNeg a3) fun T47 => nm (sSa T47 3 v22.toNatClampNeg (-1 : Int32)) fun T55 => nm (sSa T55 4 v22.toNatClampNeg (0 : Int32)) fun T63 => nm (sSa T63 5 v22.toNatClampNeg (0 : Int32)) fun T71 => nm (sSa T71 6 v22.toNatClampNeg (0 : Int32)) fun T79 => nm (sSa T79 7 v22.toNatClampNeg (-1 : Int32)) fun T87 => nm (sSs T87 4 ((T87.1 4) + (1 : Int32))) fun T95 => some (v22, T95)) else (some ((-1 : Int32), T)))
def rmX3_add : Room := { frames := 0, cells := 0, slots := 0, locals := 0 }
theorem qqX3_add : yX3_add.cls = RX3 ∧ yX3_add.cls ≠ "java/lang/invoke/MethodHandle" ∧ yX3_add.cls ≠ "java/lang/invoke/VarHandle" ∧ (parseMethodDescriptor yX3_add.desc).map (fun d => d.parameters.length) = some 3 := by decide +kernel
set_option maxRecDepth 100000 in
set_option maxHeartbeats 4000000 in
theorem kX3_add (l : Launch) (G : sGl) {S : sWo} {M : sOb} {o : Nat} {T : sOb} {a1 : Int32} {a2 : Int32} {a3 : Int32} {q : (Int32 × sOb)} (ho : isTk o) (hT : S o = T) (h : fX3_add T a1 a2 a3 = some q) : sCt l G yX3_add wsX3_add rmX3_add [.ref (sA G o 0), .int a1, .int a2, .int a3] S M (some (.int q.1)) (sUp S o q.2) M := by
  refine cMk (cc := cX3_add) (maxL := 5) (ret := (some .int)) (by decide) rfl (Nat.le_of_ble_eq_true rfl) ?_
  intro p e s m args below meth c Q hQ hx hb hr hlk hml hown hts hw ls hl
  have hown : s.vm.findClass RX3 = some m.cls := hown
  have hl : lv_has ls 5 [(0, .ref (sA G o 0)), (1, .int a1), (2, .int a2), (3, .int a3)] := hl
  have hiX3 : ∀ w ∈ u_ws RX3 TX3 15, w ∈ wsX3_add := by decide +kernel
  rw [show S = sUp S o T from (by rw [← hT]; exact (sUp_i S o).symm)] at hw
  unfold fX3_add at h
  refine lv_aload_n hx hb dX3_add_0 rfl (lv_at hl 0 rfl) ?_
  refine gTk (v := .int (T.1 4)) hx hb hts hiX3 hown hw ho (sUp_s S o T) 4 (by decide) (hts (.fieldLink RX3 52 "SecondHome$Track" "count" "I") (by decide +kernel)) rfl dX3_add_1 ?_
  refine lv_if_lt (tgt := 16) hx hb dX3_add_4 (by decide) (fun c4 => ?_) (fun c4 => ?_)
  · replace h := o_t c4 h
    refine lv_iconst (v := -1) hx hb dX3_add_16 (by decide) ?_
    exact rI hQ hx hb hr hlk hw dX3_add_17 (o_2a h) (congrArg (sUp S o) (o_2b h)) rfl
  · replace h := o_f c4 h
    refine lv_aload_n hx hb dX3_add_7 rfl (lv_at hl 0 rfl) ?_
    refine gTk (v := .int (T.1 4)) hx hb hts hiX3 hown hw ho (sUp_s S o T) 4 (by decide) (hts (.fieldLink RX3 52 "SecondHome$Track" "count" "I") (by decide +kernel)) rfl dX3_add_8 ?_
    refine lv_bipush (v := 9) hx hb dX3_add_11 (by decide) ?_
    refine lv_icmp_lt (tgt := 18) hx hb dX3_add_13 (by decide) (fun c13 => ?_) (fun c13 => ?_)
    · replace h := o_t c13 h
      refine lv_aload_n hx hb dX3_add_18 rfl (lv_at hl 0 rfl) ?_
      refine gTk (v := .int (T.1 4)) hx hb hts hiX3 hown hw ho (sUp_s S o T) 4 (by decide) (hts (.fieldLink RX3 52 "SecondHome$Track" "count" "I") (by decide +kernel)) rfl dX3_add_19 ?_
      refine lv_topi (fun v22 ev22 => ?_)
      replace h := o_nx ev22 h
      refine lv_istore (lv' := [(4, .int v22), (0, .ref (sA G o 0)), (1, .int a1), (2, .int a2), (3, .int a3)]) hx hb dX3_add_22 hl (by decide) rfl (fun ls hl => ?_)
      refine lv_aload_n hx hb dX3_add_24 rfl (lv_at hl 1 rfl) ?_
      refine gTk (v := .ref (sA G o 1)) hx hb hts hiX3 hown hw ho (sUp_s S o T) 6 (by decide) (hts (.fieldLink RX3 21 "SecondHome$Track" "kinds" "[I") (by decide +kernel)) rfl dX3_add_25 ?_
      refine lv_iload hx hb dX3_add_28 (lv_at hl 0 rfl) ?_
      refine lv_iload_n hx hb dX3_add_30 rfl (lv_at hl 2 rfl) ?_
      obtain ⟨b31, h⟩ := o_in h
      refine stTk hx hb hw ho (sUp_s S o T) 0 (by decide) b31 dX3_add_31 (sUp_u S o T _) (fun H locs hw => ?_)
      obtain ⟨T31, eT31, h⟩ := o_nm h
      rw [← eT31] at hw
      refine lv_aload_n hx hb dX3_add_32 rfl (lv_at hl 1 rfl) ?_
      refine gTk (v := .ref (sA G o 2)) hx hb hts hiX3 hown hw ho (sUp_s S o T31) 7 (by decide) (hts (.fieldLink RX3 25 "SecondHome$Track" "paces" "[I") (by decide +kernel)) rfl dX3_add_33 ?_
      refine lv_iload hx hb dX3_add_36 (lv_at hl 0 rfl) ?_
      refine lv_iload_n hx hb dX3_add_38 rfl (lv_at hl 3 rfl) ?_
      refine stTk hx hb hw ho (sUp_s S o T31) 1 (by decide) b31 dX3_add_39 (sUp_u S o T31 _) (fun H locs hw => ?_)
      obtain ⟨T39, eT39, h⟩ := o_nm h
      rw [← eT39] at hw
      refine lv_aload_n hx hb dX3_add_40 rfl (lv_at hl 1 rfl) ?_
      refine gTk (v := .ref (sA G o 3)) hx hb hts hiX3 hown hw ho (sUp_s S o T39) 8 (by decide) (hts (.fieldLink RX3 28 "SecondHome$Track" "breaths" "[I") (by decide +kernel)) rfl dX3_add_41 ?_
      refine lv_iload hx hb dX3_add_44 (lv_at hl 0 rfl) ?_
      refine lv_iload_n hx hb dX3_add_46 rfl (lv_at hl 4 rfl) ?_
      refine stTk hx hb hw ho (sUp_s S o T39) 2 (by decide) b31 dX3_add_47 (sUp_u S o T39 _) (fun H locs hw => ?_)
      obtain ⟨T47, eT47, h⟩ := o_nm h
      rw [← eT47] at hw
      refine lv_aload_n hx hb dX3_add_48 rfl (lv_at hl 1 rfl) ?_
      refine gTk (v := .ref (sA G o 4)) hx hb hts hiX3 hown hw ho (sUp_s S o T47) 9 (by decide) (hts (.fieldLink RX3 31 "SecondHome$Track" "friends" "[I") (by decide +kernel)) rfl dX3_add_49 ?_
      refine lv_iload hx hb dX3_add_52 (lv_at hl 0 rfl) ?_
      refine lv_iconst (v := -1) hx hb dX3_add_54 (by decide) ?_
      refine stTk hx hb hw ho (sUp_s S o T47) 3 (by decide) b31 dX3_add_55 (sUp_u S o T47 _) (fun H locs hw => ?_)
      obtain ⟨T55, eT55, h⟩ := o_nm h
      rw [← eT55] at hw
      refine lv_aload_n hx hb dX3_add_56 rfl (lv_at hl 1 rfl) ?_
      refine gTk (v := .ref (sA G o 5)) hx hb hts hiX3 hown hw ho (sUp_s S o T55) 10 (by decide) (hts (.fieldLink RX3 34 "SecondHome$Track" "starts" "[I") (by decide +kernel)) rfl dX3_add_57 ?_
      refine lv_iload hx hb dX3_add_60 (lv_at hl 0 rfl) ?_
      refine lv_iconst (v := 0) hx hb dX3_add_62 (by decide) ?_
      refine stTk hx hb hw ho (sUp_s S o T55) 4 (by decide) b31 dX3_add_63 (sUp_u S o T55 _) (fun H locs hw => ?_)
      obtain ⟨T63, eT63, h⟩ := o_nm h
      rw [← eT63] at hw
      refine lv_aload_n hx hb dX3_add_64 rfl (lv_at hl 1 rfl) ?_
      refine gTk (v := .ref (sA G o 6)) hx hb hts hiX3 hown hw ho (sUp_s S o T63) 11 (by decide) (hts (.fieldLink RX3 37 "SecondHome$Track" "yards" "[I") (by decide +kernel)) rfl dX3_add_65 ?_
      refine lv_iload hx hb dX3_add_68 (lv_at hl 0 rfl) ?_
      refine lv_iconst (v := 0) hx hb dX3_add_70 (by decide) ?_
      refine stTk hx hb hw ho (sUp_s S o T63) 5 (by decide) b31 dX3_add_71 (sUp_u S o T63 _) (fun H locs hw => ?_)
      obtain ⟨T71, eT71, h⟩ := o_nm h
      rw [← eT71] at hw
      refine lv_aload_n hx hb dX3_add_72 rfl (lv_at hl 1 rfl) ?_
      refine gTk (v := .ref (sA G o 7)) hx hb hts hiX3 hown hw ho (sUp_s S o T71) 12 (by decide) (hts (.fieldLink RX3 40 "SecondHome$Track" "points" "[I") (by decide +kernel)) rfl dX3_add_73 ?_
      refine lv_iload hx hb dX3_add_76 (lv_at hl 0 rfl) ?_
      refine lv_iconst (v := 0) hx hb dX3_add_78 (by decide) ?_
      refine stTk hx hb hw ho (sUp_s S o T71) 6 (by decide) b31 dX3_add_79 (sUp_u S o T71 _) (fun H locs hw => ?_)
      obtain ⟨T79, eT79, h⟩ := o_nm h
      rw [← eT79] at hw
      refine lv_aload_n hx hb dX3_add_80 rfl (lv_at hl 1 rfl) ?_
      refine gTk (v := .ref (sA G o 8)) hx hb hts hiX3 hown hw ho (sUp_s S o T79) 13 (by decide) (hts (.fieldLink RX3 43 "SecondHome$Track" "homes" "[I") (by decide +kernel)) rfl dX3_add_81 ?_
      refine lv_iload hx hb dX3_add_84 (lv_at hl 0 rfl) ?_
      refine lv_iconst (v := -1) hx hb dX3_add_86 (by decide) ?_
      refine stTk hx hb hw ho (sUp_s S o T79) 7 (by decide) b31 dX3_add_87 (sUp_u S o T79 _) (fun H locs hw => ?_)
      obtain ⟨T87, eT87, h⟩ := o_nm h
      rw [← eT87] at hw
      refine lv_aload_n hx hb dX3_add_88 rfl (lv_at hl 1 rfl) ?_
      refine lv_dup hx hb dX3_add_89 rfl ?_
      refine gTk (v := .int (T87.1 4)) hx hb hts hiX3 hown hw ho (sUp_s S o T87) 4 (by decide) (hts (.fieldLink RX3 52 "SecondHome$Track" "count" "I") (by decide +kernel)) rfl dX3_add_90 ?_
      refine lv_iconst (v := 1) hx hb dX3_add_93 (by decide) ?_
      refine lv_iadd hx hb dX3_add_94 ?_
      refine pTk hx hb hts hiX3 hown hw ho (sUp_s S o T87) 4 (by decide) (hts (.fieldLink RX3 52 "SecondHome$Track" "count" "I") (by decide +kernel)) dX3_add_95 (sUp_u S o T87 _) (fun H locs hw => ?_)
      obtain ⟨T95, eT95, h⟩ := o_nm h
      rw [← eT95] at hw
      refine lv_iload hx hb dX3_add_98 (lv_at hl 0 rfl) ?_
      exact rI hQ hx hb hr hlk hw dX3_add_100 (o_2a h) (congrArg (sUp S o) (o_2b h)) rfl
    · replace h := o_f c13 h
      refine lv_iconst (v := -1) hx hb dX3_add_16 (by decide) ?_
      exact rI hQ hx hb hr hlk hw dX3_add_17 (o_2a h) (congrArg (sUp S o) (o_2b h)) rfl
-- X3_has
def fX3_has (T : sOb) (a1 : Int32) : Option Int32 :=
  if a1 < 0 then (some (0 : Int32)) else (if (T.1 4) ≤ a1 then (some (0 : Int32)) else (if (9 : Int32) ≤ a1 then (some (0 : Int32)) else (some (1 : Int32))))
def rmX3_has : Room := { frames := 0, cells := 0, slots := 0, locals := 0 }
theorem qqX3_has : yX3_has.cls = RX3 ∧ yX3_has.cls ≠ "java/lang/invoke/MethodHandle" ∧ yX3_has.cls ≠ "java/lang/invoke/VarHandle" ∧ (parseMethodDescriptor yX3_has.desc).map (fun d => d.parameters.length) = some 1 := by decide +kernel
set_option maxRecDepth 100000 in
set_option maxHeartbeats 4000000 in
theorem kX3_has (l : Launch) (G : sGl) {S : sWo} {M : sOb} {o : Nat} {T : sOb} {a1 : Int32} {q : Int32} (ho : isTk o) (hT : S o = T) (h : fX3_has T a1 = some q) : sCt l G yX3_has wsX3_has rmX3_has [.ref (sA G o 0), .int a1] S M (some (.int q)) S M := by
  refine cMk (cc := cX3_has) (maxL := 2) (ret := (some .boolean)) (by decide) rfl (Nat.le_of_ble_eq_true rfl) ?_
  intro p e s m args below meth c Q hQ hx hb hr hlk hml hown hts hw ls hl
  have hown : s.vm.findClass RX3 = some m.cls := hown
  have hl : lv_has ls 2 [(0, .ref (sA G o 0)), (1, .int a1)] := hl
  have hiX3 : ∀ w ∈ u_ws RX3 TX3 15, w ∈ wsX3_has := by decide +kernel
  unfold fX3_has at h
  refine lv_iload_n hx hb dX3_has_0 rfl (lv_at hl 1 rfl) ?_
  refine lv_if_lt (tgt := 22) hx hb dX3_has_1 (by decide) (fun c1 => ?_) (fun c1 => ?_)
  · replace h := o_t c1 h
    refine lv_iconst (v := 0) hx hb dX3_has_22 (by decide) ?_
    exact rZ hQ hx hb hr hlk hw (Or.inl rfl) dX3_has_23 (o_1 h) rfl rfl
  · replace h := o_f c1 h
    refine lv_iload_n hx hb dX3_has_4 rfl (lv_at hl 1 rfl) ?_
    refine lv_aload_n hx hb dX3_has_5 rfl (lv_at hl 0 rfl) ?_
    refine gTk (v := .int (T.1 4)) hx hb hts hiX3 hown hw ho hT 4 (by decide) (hts (.fieldLink RX3 52 "SecondHome$Track" "count" "I") (by decide +kernel)) rfl dX3_has_6 ?_
    refine lv_icmp_ge (tgt := 22) hx hb dX3_has_9 (by decide) (fun c9 => ?_) (fun c9 => ?_)
    · replace h := o_t c9 h
      refine lv_iconst (v := 0) hx hb dX3_has_22 (by decide) ?_
      exact rZ hQ hx hb hr hlk hw (Or.inl rfl) dX3_has_23 (o_1 h) rfl rfl
    · replace h := o_f c9 h
      refine lv_iload_n hx hb dX3_has_12 rfl (lv_at hl 1 rfl) ?_
      refine lv_bipush (v := 9) hx hb dX3_has_13 (by decide) ?_
      refine lv_icmp_ge (tgt := 22) hx hb dX3_has_15 (by decide) (fun c15 => ?_) (fun c15 => ?_)
      · replace h := o_t c15 h
        refine lv_iconst (v := 0) hx hb dX3_has_22 (by decide) ?_
        exact rZ hQ hx hb hr hlk hw (Or.inl rfl) dX3_has_23 (o_1 h) rfl rfl
      · replace h := o_f c15 h
        refine lv_iconst (v := 1) hx hb dX3_has_18 (by decide) ?_
        refine lv_goto (tgt := 23) hx hb dX3_has_19 (by decide) ?_
        exact rZ hQ hx hb hr hlk hw (Or.inr rfl) dX3_has_23 (o_1 h) rfl rfl
-- X3_changePaces
def fX3_changePaces (T : sOb) (a1 : Int32) (a2 : Int32) : Option sOb :=
  (fX3_has T a1).bind fun q2 => if q2 = 0 then (some T) else ((fX3_has T a2).bind fun q10 => if q10 = 0 then (some T) else (if a1 < 0 ∨ 9 ≤ a1.toNatClampNeg then none else nm (T.2.1 1 a1.toNatClampNeg) fun v22 => if a2 < 0 ∨ 9 ≤ a2.toNatClampNeg then none else nm (sSa T 1 a1.toNatClampNeg (T.2.1 1 a2.toNatClampNeg)) fun T34 => nm (sSa T34 1 a2.toNatClampNeg v22) fun T41 => some T41))
def rmX3_changePaces : Room := { frames := 1, cells := 0, slots := 0, locals := 21 }
theorem qqX3_changePaces : yX3_changePaces.cls = RX3 ∧ yX3_changePaces.cls ≠ "java/lang/invoke/MethodHandle" ∧ yX3_changePaces.cls ≠ "java/lang/invoke/VarHandle" ∧ (parseMethodDescriptor yX3_changePaces.desc).map (fun d => d.parameters.length) = some 2 := by decide +kernel
set_option maxRecDepth 100000 in
set_option maxHeartbeats 4000000 in
theorem kX3_changePaces (l : Launch) (G : sGl) {S : sWo} {M : sOb} {o : Nat} {T : sOb} {a1 : Int32} {a2 : Int32} {q : sOb} (ho : isTk o) (hT : S o = T) (h : fX3_changePaces T a1 a2 = some q) : sCt l G yX3_changePaces wsX3_changePaces rmX3_changePaces [.ref (sA G o 0), .int a1, .int a2] S M none (sUp S o q) M := by
  refine cMk (cc := cX3_changePaces) (maxL := 4) (ret := none) (by decide) rfl (Nat.le_of_ble_eq_true rfl) ?_
  intro p e s m args below meth c Q hQ hx hb hr hlk hml hown hts hw ls hl
  have hown : s.vm.findClass RX3 = some m.cls := hown
  have hl : lv_has ls 4 [(0, .ref (sA G o 0)), (1, .int a1), (2, .int a2)] := hl
  have hiX3 : ∀ w ∈ u_ws RX3 TX3 15, w ∈ wsX3_changePaces := by decide +kernel
  rw [show S = sUp S o T from (by rw [← hT]; exact (sUp_i S o).symm)] at hw
  unfold fX3_changePaces at h
  refine lv_aload_n hx hb dX3_changePaces_0 rfl (lv_at hl 0 rfl) ?_
  refine lv_iload_n hx hb dX3_changePaces_1 rfl (lv_at hl 1 rfl) ?_
  obtain ⟨q2, eq2, h⟩ := o_bd h
  refine kV (As := [.int a1]) (rest := []) (st' := [.int q2]) ⟨hx, hb, hml, hown, hts⟩ (kX3_has l G ho (sUp_s S o T) eq2) (cwV 1 hts gX3_changePaces_X3_has rfl rfl rfl qqX3_has ⟨Nat.le_of_ble_eq_true rfl, Nat.le_of_ble_eq_true rfl⟩) hw (rvTk hw ho) rfl hl.1 rfl (Nat.le_of_ble_eq_true rfl) dX3_changePaces_2 ⟨Nat.zero_le _, Nat.zero_le _⟩ rfl (fun H locs hw => ?_)
  refine lv_if_eq (tgt := 42) hx hb dX3_changePaces_5 (by decide) (fun c5 => ?_) (fun c5 => ?_)
  · replace h := o_t c5 h
    exact rV hQ hx hb hr hlk hw dX3_changePaces_42 (congrArg (sUp S o) (o_1 h)) rfl
  · replace h := o_f c5 h
    refine lv_aload_n hx hb dX3_changePaces_8 rfl (lv_at hl 0 rfl) ?_
    refine lv_iload_n hx hb dX3_changePaces_9 rfl (lv_at hl 2 rfl) ?_
    obtain ⟨q10, eq10, h⟩ := o_bd h
    refine kV (As := [.int a2]) (rest := []) (st' := [.int q10]) ⟨hx, hb, hml, hown, hts⟩ (kX3_has l G ho (sUp_s S o T) eq10) (cwV 1 hts gX3_changePaces_X3_has rfl rfl rfl qqX3_has ⟨Nat.le_of_ble_eq_true rfl, Nat.le_of_ble_eq_true rfl⟩) hw (rvTk hw ho) rfl hl.1 rfl (Nat.le_of_ble_eq_true rfl) dX3_changePaces_10 ⟨Nat.zero_le _, Nat.zero_le _⟩ rfl (fun H locs hw => ?_)
    refine lv_if_eq (tgt := 42) hx hb dX3_changePaces_13 (by decide) (fun c13 => ?_) (fun c13 => ?_)
    · replace h := o_t c13 h
      exact rV hQ hx hb hr hlk hw dX3_changePaces_42 (congrArg (sUp S o) (o_1 h)) rfl
    · replace h := o_f c13 h
      refine lv_aload_n hx hb dX3_changePaces_16 rfl (lv_at hl 0 rfl) ?_
      refine gTk (v := .ref (sA G o 2)) hx hb hts hiX3 hown hw ho (sUp_s S o T) 7 (by decide) (hts (.fieldLink RX3 25 "SecondHome$Track" "paces" "[I") (by decide +kernel)) rfl dX3_changePaces_17 ?_
      refine lv_iload_n hx hb dX3_changePaces_20 rfl (lv_at hl 1 rfl) ?_
      obtain ⟨b21, h⟩ := o_in h
      refine ldTk hx hb hw ho (sUp_s S o T) 1 (by decide) b21 dX3_changePaces_21 ?_
      refine lv_topi (fun v22 ev22 => ?_)
      replace h := o_nx ev22 h
      refine lv_istore_n (lv' := [(3, .int v22), (0, .ref (sA G o 0)), (1, .int a1), (2, .int a2)]) hx hb dX3_changePaces_22 rfl hl (by decide) rfl (fun ls hl => ?_)
      refine lv_aload_n hx hb dX3_changePaces_23 rfl (lv_at hl 1 rfl) ?_
      refine gTk (v := .ref (sA G o 2)) hx hb hts hiX3 hown hw ho (sUp_s S o T) 7 (by decide) (hts (.fieldLink RX3 25 "SecondHome$Track" "paces" "[I") (by decide +kernel)) rfl dX3_changePaces_24 ?_
      refine lv_iload_n hx hb dX3_changePaces_27 rfl (lv_at hl 2 rfl) ?_
      refine lv_aload_n hx hb dX3_changePaces_28 rfl (lv_at hl 1 rfl) ?_
      refine gTk (v := .ref (sA G o 2)) hx hb hts hiX3 hown hw ho (sUp_s S o T) 7 (by decide) (hts (.fieldLink RX3 25 "SecondHome$Track" "paces" "[I") (by decide +kernel)) rfl dX3_changePaces_29 ?_
      refine lv_iload_n hx hb dX3_changePaces_32 rfl (lv_at hl 3 rfl) ?_
      obtain ⟨b33, h⟩ := o_in h
      refine ldTk hx hb hw ho (sUp_s S o T) 1 (by decide) b33 dX3_changePaces_33 ?_
      refine stTk hx hb hw ho (sUp_s S o T) 1 (by decide) b21 dX3_changePaces_34 (sUp_u S o T _) (fun H locs hw => ?_)
      obtain ⟨T34, eT34, h⟩ := o_nm h
      rw [← eT34] at hw
      refine lv_aload_n hx hb dX3_changePaces_35 rfl (lv_at hl 1 rfl) ?_
      refine gTk (v := .ref (sA G o 2)) hx hb hts hiX3 hown hw ho (sUp_s S o T34) 7 (by decide) (hts (.fieldLink RX3 25 "SecondHome$Track" "paces" "[I") (by decide +kernel)) rfl dX3_changePaces_36 ?_
      refine lv_iload_n hx hb dX3_changePaces_39 rfl (lv_at hl 3 rfl) ?_
      refine lv_iload_n hx hb dX3_changePaces_40 rfl (lv_at hl 0 rfl) ?_
      refine stTk hx hb hw ho (sUp_s S o T34) 1 (by decide) b33 dX3_changePaces_41 (sUp_u S o T34 _) (fun H locs hw => ?_)
      obtain ⟨T41, eT41, h⟩ := o_nm h
      rw [← eT41] at hw
      exact rV hQ hx hb hr hlk hw dX3_changePaces_42 (congrArg (sUp S o) (o_1 h)) rfl
-- X3_isStart
def fX3_isStart (T : sOb) (a1 : Int32) : Option Int32 :=
  if a1 < 0 then (some (0 : Int32)) else (if (T.1 0) ≤ a1 then (some (0 : Int32)) else (some (1 : Int32)))
def rmX3_isStart : Room := { frames := 0, cells := 0, slots := 0, locals := 0 }
theorem qqX3_isStart : yX3_isStart.cls = RX3 ∧ yX3_isStart.cls ≠ "java/lang/invoke/MethodHandle" ∧ yX3_isStart.cls ≠ "java/lang/invoke/VarHandle" ∧ (parseMethodDescriptor yX3_isStart.desc).map (fun d => d.parameters.length) = some 1 := by decide +kernel
set_option maxRecDepth 100000 in
set_option maxHeartbeats 4000000 in
theorem kX3_isStart (l : Launch) (G : sGl) {S : sWo} {M : sOb} {o : Nat} {T : sOb} {a1 : Int32} {q : Int32} (ho : isTk o) (hT : S o = T) (h : fX3_isStart T a1 = some q) : sCt l G yX3_isStart wsX3_isStart rmX3_isStart [.ref (sA G o 0), .int a1] S M (some (.int q)) S M := by
  refine cMk (cc := cX3_isStart) (maxL := 2) (ret := (some .boolean)) (by decide) rfl (Nat.le_of_ble_eq_true rfl) ?_
  intro p e s m args below meth c Q hQ hx hb hr hlk hml hown hts hw ls hl
  have hown : s.vm.findClass RX3 = some m.cls := hown
  have hl : lv_has ls 2 [(0, .ref (sA G o 0)), (1, .int a1)] := hl
  have hiX3 : ∀ w ∈ u_ws RX3 TX3 15, w ∈ wsX3_isStart := by decide +kernel
  unfold fX3_isStart at h
  refine lv_iload_n hx hb dX3_isStart_0 rfl (lv_at hl 1 rfl) ?_
  refine lv_if_lt (tgt := 16) hx hb dX3_isStart_1 (by decide) (fun c1 => ?_) (fun c1 => ?_)
  · replace h := o_t c1 h
    refine lv_iconst (v := 0) hx hb dX3_isStart_16 (by decide) ?_
    exact rZ hQ hx hb hr hlk hw (Or.inl rfl) dX3_isStart_17 (o_1 h) rfl rfl
  · replace h := o_f c1 h
    refine lv_iload_n hx hb dX3_isStart_4 rfl (lv_at hl 1 rfl) ?_
    refine lv_aload_n hx hb dX3_isStart_5 rfl (lv_at hl 0 rfl) ?_
    refine gTk (v := .int (T.1 0)) hx hb hts hiX3 hown hw ho hT 0 (by decide) (hts (.fieldLink RX3 9 "SecondHome$Track" "length" "I") (by decide +kernel)) rfl dX3_isStart_6 ?_
    refine lv_icmp_ge (tgt := 16) hx hb dX3_isStart_9 (by decide) (fun c9 => ?_) (fun c9 => ?_)
    · replace h := o_t c9 h
      refine lv_iconst (v := 0) hx hb dX3_isStart_16 (by decide) ?_
      exact rZ hQ hx hb hr hlk hw (Or.inl rfl) dX3_isStart_17 (o_1 h) rfl rfl
    · replace h := o_f c9 h
      refine lv_iconst (v := 1) hx hb dX3_isStart_12 (by decide) ?_
      refine lv_goto (tgt := 17) hx hb dX3_isStart_13 (by decide) ?_
      exact rZ hQ hx hb hr hlk hw (Or.inr rfl) dX3_isStart_17 (o_1 h) rfl rfl
-- X3_isHome
def fX3_isHome (T : sOb) (a1 : Int32) : Option Int32 :=
  (fX3_has T a1).bind fun q2 => if q2 = 0 then (some (0 : Int32)) else (if a1 < 0 ∨ 9 ≤ a1.toNatClampNeg then none else if (T.2.1 7 a1.toNatClampNeg) < 0 then (some (0 : Int32)) else (some (1 : Int32)))
def rmX3_isHome : Room := { frames := 1, cells := 0, slots := 0, locals := 21 }
theorem qqX3_isHome : yX3_isHome.cls = RX3 ∧ yX3_isHome.cls ≠ "java/lang/invoke/MethodHandle" ∧ yX3_isHome.cls ≠ "java/lang/invoke/VarHandle" ∧ (parseMethodDescriptor yX3_isHome.desc).map (fun d => d.parameters.length) = some 1 := by decide +kernel
set_option maxRecDepth 100000 in
set_option maxHeartbeats 4000000 in
theorem kX3_isHome (l : Launch) (G : sGl) {S : sWo} {M : sOb} {o : Nat} {T : sOb} {a1 : Int32} {q : Int32} (ho : isTk o) (hT : S o = T) (h : fX3_isHome T a1 = some q) : sCt l G yX3_isHome wsX3_isHome rmX3_isHome [.ref (sA G o 0), .int a1] S M (some (.int q)) S M := by
  refine cMk (cc := cX3_isHome) (maxL := 2) (ret := (some .boolean)) (by decide) rfl (Nat.le_of_ble_eq_true rfl) ?_
  intro p e s m args below meth c Q hQ hx hb hr hlk hml hown hts hw ls hl
  have hown : s.vm.findClass RX3 = some m.cls := hown
  have hl : lv_has ls 2 [(0, .ref (sA G o 0)), (1, .int a1)] := hl
  have hiX3 : ∀ w ∈ u_ws RX3 TX3 15, w ∈ wsX3_isHome := by decide +kernel
  unfold fX3_isHome at h
  refine lv_aload_n hx hb dX3_isHome_0 rfl (lv_at hl 0 rfl) ?_
  refine lv_iload_n hx hb dX3_isHome_1 rfl (lv_at hl 1 rfl) ?_
  obtain ⟨q2, eq2, h⟩ := o_bd h
  refine kV (As := [.int a1]) (rest := []) (st' := [.int q2]) ⟨hx, hb, hml, hown, hts⟩ (kX3_has l G ho hT eq2) (cwV 1 hts gX3_isHome_X3_has rfl rfl rfl qqX3_has ⟨Nat.le_of_ble_eq_true rfl, Nat.le_of_ble_eq_true rfl⟩) hw (rvTk hw ho) rfl hl.1 rfl (Nat.le_of_ble_eq_true rfl) dX3_isHome_2 ⟨Nat.zero_le _, Nat.zero_le _⟩ rfl (fun H locs hw => ?_)
  refine lv_if_eq (tgt := 21) hx hb dX3_isHome_5 (by decide) (fun c5 => ?_) (fun c5 => ?_)
  · replace h := o_t c5 h
    refine lv_iconst (v := 0) hx hb dX3_isHome_21 (by decide) ?_
    exact rZ hQ hx hb hr hlk hw (Or.inl rfl) dX3_isHome_22 (o_1 h) rfl rfl
  · replace h := o_f c5 h
    refine lv_aload_n hx hb dX3_isHome_8 rfl (lv_at hl 0 rfl) ?_
    refine gTk (v := .ref (sA G o 8)) hx hb hts hiX3 hown hw ho hT 13 (by decide) (hts (.fieldLink RX3 43 "SecondHome$Track" "homes" "[I") (by decide +kernel)) rfl dX3_isHome_9 ?_
    refine lv_iload_n hx hb dX3_isHome_12 rfl (lv_at hl 1 rfl) ?_
    obtain ⟨b13, h⟩ := o_in h
    refine ldTk hx hb hw ho hT 7 (by decide) b13 dX3_isHome_13 ?_
    refine lv_if_lt (tgt := 21) hx hb dX3_isHome_14 (by decide) (fun c14 => ?_) (fun c14 => ?_)
    · replace h := o_t c14 h
      refine lv_iconst (v := 0) hx hb dX3_isHome_21 (by decide) ?_
      exact rZ hQ hx hb hr hlk hw (Or.inl rfl) dX3_isHome_22 (o_1 h) rfl rfl
    · replace h := o_f c14 h
      refine lv_iconst (v := 1) hx hb dX3_isHome_17 (by decide) ?_
      refine lv_goto (tgt := 22) hx hb dX3_isHome_18 (by decide) ?_
      exact rZ hQ hx hb hr hlk hw (Or.inr rfl) dX3_isHome_22 (o_1 h) rfl rfl
-- X3_allHome
def fX3_allHome (T : sOb) : Option Int32 :=
  if (T.1 5) < (T.1 4) then (some (0 : Int32)) else (some (1 : Int32))
def rmX3_allHome : Room := { frames := 0, cells := 0, slots := 0, locals := 0 }
theorem qqX3_allHome : yX3_allHome.cls = RX3 ∧ yX3_allHome.cls ≠ "java/lang/invoke/MethodHandle" ∧ yX3_allHome.cls ≠ "java/lang/invoke/VarHandle" ∧ (parseMethodDescriptor yX3_allHome.desc).map (fun d => d.parameters.length) = some 0 := by decide +kernel
set_option maxRecDepth 100000 in
set_option maxHeartbeats 4000000 in
theorem kX3_allHome (l : Launch) (G : sGl) {S : sWo} {M : sOb} {o : Nat} {T : sOb} {q : Int32} (ho : isTk o) (hT : S o = T) (h : fX3_allHome T = some q) : sCt l G yX3_allHome wsX3_allHome rmX3_allHome [.ref (sA G o 0)] S M (some (.int q)) S M := by
  refine cMk (cc := cX3_allHome) (maxL := 1) (ret := (some .boolean)) (by decide) rfl (Nat.le_of_ble_eq_true rfl) ?_
  intro p e s m args below meth c Q hQ hx hb hr hlk hml hown hts hw ls hl
  have hown : s.vm.findClass RX3 = some m.cls := hown
  have hl : lv_has ls 1 [(0, .ref (sA G o 0))] := hl
  have hiX3 : ∀ w ∈ u_ws RX3 TX3 15, w ∈ wsX3_allHome := by decide +kernel
  unfold fX3_allHome at h
  refine lv_aload_n hx hb dX3_allHome_0 rfl (lv_at hl 0 rfl) ?_
  refine gTk (v := .int (T.1 5)) hx hb hts hiX3 hown hw ho hT 5 (by decide) (hts (.fieldLink RX3 55 "SecondHome$Track" "homeCount" "I") (by decide +kernel)) rfl dX3_allHome_1 ?_
  refine lv_aload_n hx hb dX3_allHome_4 rfl (lv_at hl 0 rfl) ?_
  refine gTk (v := .int (T.1 4)) hx hb hts hiX3 hown hw ho hT 4 (by decide) (hts (.fieldLink RX3 52 "SecondHome$Track" "count" "I") (by decide +kernel)) rfl dX3_allHome_5 ?_
  refine lv_icmp_lt (tgt := 15) hx hb dX3_allHome_8 (by decide) (fun c8 => ?_) (fun c8 => ?_)
  · replace h := o_t c8 h
    refine lv_iconst (v := 0) hx hb dX3_allHome_15 (by decide) ?_
    exact rZ hQ hx hb hr hlk hw (Or.inl rfl) dX3_allHome_16 (o_1 h) rfl rfl
  · replace h := o_f c8 h
    refine lv_iconst (v := 1) hx hb dX3_allHome_11 (by decide) ?_
    refine lv_goto (tgt := 16) hx hb dX3_allHome_12 (by decide) ?_
    exact rZ hQ hx hb hr hlk hw (Or.inr rfl) dX3_allHome_16 (o_1 h) rfl rfl
-- X3_lineUp
def bX3_lineUp_2 (rc2 : Int32 → sOb → Option sOb) (x1_2 : Int32) (T_2 : sOb) : Option sOb :=
  if (T_2.1 4) ≤ x1_2 then (nm (sSs T_2 3 (0 : Int32)) fun T37 => nm (sSs T37 5 (0 : Int32)) fun T42 => some T42) else (if x1_2 < 0 ∨ 9 ≤ x1_2.toNatClampNeg then none else nm (sSa T_2 5 x1_2.toNatClampNeg (T_2.2.1 4 x1_2.toNatClampNeg)) fun T21 => nm (sSa T21 7 x1_2.toNatClampNeg (-1 : Int32)) fun T28 => nm (x1_2 + (1 : Int32)) fun v29 => rc2 v29 T28)
def fX3_lineUp (T : sOb) : Option sOb :=
  fx2 bX3_lineUp_2 FU (0 : Int32) T
def rmX3_lineUp : Room := { frames := 0, cells := 0, slots := 0, locals := 0 }
theorem qqX3_lineUp : yX3_lineUp.cls = RX3 ∧ yX3_lineUp.cls ≠ "java/lang/invoke/MethodHandle" ∧ yX3_lineUp.cls ≠ "java/lang/invoke/VarHandle" ∧ (parseMethodDescriptor yX3_lineUp.desc).map (fun d => d.parameters.length) = some 0 := by decide +kernel
set_option maxRecDepth 100000 in
set_option maxHeartbeats 4000000 in
theorem kX3_lineUp (l : Launch) (G : sGl) {S : sWo} {M : sOb} {o : Nat} {T : sOb} {q : sOb} (ho : isTk o) (hT : S o = T) (h : fX3_lineUp T = some q) : sCt l G yX3_lineUp wsX3_lineUp rmX3_lineUp [.ref (sA G o 0)] S M none (sUp S o q) M := by
  refine cMk (cc := cX3_lineUp) (maxL := 2) (ret := none) (by decide) rfl (Nat.le_of_ble_eq_true rfl) ?_
  intro p e s m args below meth c Q hQ hx hb hr hlk hml hown hts hw ls hl
  have hown : s.vm.findClass RX3 = some m.cls := hown
  have hl : lv_has ls 2 [(0, .ref (sA G o 0))] := hl
  have hiX3 : ∀ w ∈ u_ws RX3 TX3 15, w ∈ wsX3_lineUp := by decide +kernel
  rw [show S = sUp S o T from (by rw [← hT]; exact (sUp_i S o).symm)] at hw
  unfold fX3_lineUp at h
  refine lv_iconst (v := 0) hx hb dX3_lineUp_0 (by decide) ?_
  refine lv_istore_n (lv' := [(1, .int (0 : Int32)), (0, .ref (sA G o 0))]) hx hb dX3_lineUp_1 rfl hl (by decide) rfl (fun ls hl => ?_)
  refine fx2_w (F := bX3_lineUp_2) (P := fun x1_2 T_2 => ∀ (H : Heap) (locs : List Loc) (ls : Array Slot), sHw G s (sUp S o T_2) M H locs → lv_has ls 2 [(0, .ref (sA G o 0)), (1, .int x1_2)] → W p l e rmX3_lineUp s m args below meth c H locs 0 0 Q (F0 m 2 ls [])) ?_ _ _ _ h _ _ _ hw (lv_sub hl [1, 0] rfl)
  intro rc2 IH2 x1_2 T_2 h H locs ls hw hl
  unfold bX3_lineUp_2 at h
  refine lv_iload_n hx hb dX3_lineUp_2 rfl (lv_at hl 1 rfl) ?_
  refine lv_aload_n hx hb dX3_lineUp_3 rfl (lv_at hl 0 rfl) ?_
  refine gTk (v := .int (T_2.1 4)) hx hb hts hiX3 hown hw ho (sUp_s S o T_2) 4 (by decide) (hts (.fieldLink RX3 52 "SecondHome$Track" "count" "I") (by decide +kernel)) rfl dX3_lineUp_4 ?_
  refine lv_icmp_ge (tgt := 35) hx hb dX3_lineUp_7 (by decide) (fun c7 => ?_) (fun c7 => ?_)
  · replace h := o_t c7 h
    refine lv_aload_n hx hb dX3_lineUp_35 rfl (lv_at hl 0 rfl) ?_
    refine lv_iconst (v := 0) hx hb dX3_lineUp_36 (by decide) ?_
    refine pTk hx hb hts hiX3 hown hw ho (sUp_s S o T_2) 3 (by decide) (hts (.fieldLink RX3 49 "SecondHome$Track" "second" "I") (by decide +kernel)) dX3_lineUp_37 (sUp_u S o T_2 _) (fun H locs hw => ?_)
    obtain ⟨T37, eT37, h⟩ := o_nm h
    rw [← eT37] at hw
    refine lv_aload_n hx hb dX3_lineUp_40 rfl (lv_at hl 0 rfl) ?_
    refine lv_iconst (v := 0) hx hb dX3_lineUp_41 (by decide) ?_
    refine pTk hx hb hts hiX3 hown hw ho (sUp_s S o T37) 5 (by decide) (hts (.fieldLink RX3 55 "SecondHome$Track" "homeCount" "I") (by decide +kernel)) dX3_lineUp_42 (sUp_u S o T37 _) (fun H locs hw => ?_)
    obtain ⟨T42, eT42, h⟩ := o_nm h
    rw [← eT42] at hw
    exact rV hQ hx hb hr hlk hw dX3_lineUp_45 (congrArg (sUp S o) (o_1 h)) rfl
  · replace h := o_f c7 h
    refine lv_aload_n hx hb dX3_lineUp_10 rfl (lv_at hl 0 rfl) ?_
    refine gTk (v := .ref (sA G o 6)) hx hb hts hiX3 hown hw ho (sUp_s S o T_2) 11 (by decide) (hts (.fieldLink RX3 37 "SecondHome$Track" "yards" "[I") (by decide +kernel)) rfl dX3_lineUp_11 ?_
    refine lv_iload_n hx hb dX3_lineUp_14 rfl (lv_at hl 1 rfl) ?_
    refine lv_aload_n hx hb dX3_lineUp_15 rfl (lv_at hl 0 rfl) ?_
    refine gTk (v := .ref (sA G o 5)) hx hb hts hiX3 hown hw ho (sUp_s S o T_2) 10 (by decide) (hts (.fieldLink RX3 34 "SecondHome$Track" "starts" "[I") (by decide +kernel)) rfl dX3_lineUp_16 ?_
    refine lv_iload_n hx hb dX3_lineUp_19 rfl (lv_at hl 1 rfl) ?_
    obtain ⟨b20, h⟩ := o_in h
    refine ldTk hx hb hw ho (sUp_s S o T_2) 4 (by decide) b20 dX3_lineUp_20 ?_
    refine stTk hx hb hw ho (sUp_s S o T_2) 5 (by decide) b20 dX3_lineUp_21 (sUp_u S o T_2 _) (fun H locs hw => ?_)
    obtain ⟨T21, eT21, h⟩ := o_nm h
    rw [← eT21] at hw
    refine lv_aload_n hx hb dX3_lineUp_22 rfl (lv_at hl 0 rfl) ?_
    refine gTk (v := .ref (sA G o 8)) hx hb hts hiX3 hown hw ho (sUp_s S o T21) 13 (by decide) (hts (.fieldLink RX3 43 "SecondHome$Track" "homes" "[I") (by decide +kernel)) rfl dX3_lineUp_23 ?_
    refine lv_iload_n hx hb dX3_lineUp_26 rfl (lv_at hl 1 rfl) ?_
    refine lv_iconst (v := -1) hx hb dX3_lineUp_27 (by decide) ?_
    refine stTk hx hb hw ho (sUp_s S o T21) 7 (by decide) b20 dX3_lineUp_28 (sUp_u S o T21 _) (fun H locs hw => ?_)
    obtain ⟨T28, eT28, h⟩ := o_nm h
    rw [← eT28] at hw
    obtain ⟨v29, ev29, h⟩ := o_nm h
    refine lv_iinc (v := v29) (lv' := [(1, .int v29), (0, .ref (sA G o 0))]) hx hb dX3_lineUp_29 hl (k := 1) rfl (by rw [ev29]; rfl) (by decide) rfl (fun ls hl => ?_)
    refine lv_goto (tgt := 2) hx hb dX3_lineUp_32 (by decide) ?_
    exact IH2 v29 T28 h _ _ _ hw (lv_sub hl [1, 0] rfl)
-- X3_firstAlone
def bX3_firstAlone_6 (T : sOb) (rc6 : Int32 → Int32 → Int32 → Option Int32) (x1_6 : Int32) (x2_6 : Int32) (x3_6 : Int32) : Option Int32 :=
  if (T.1 4) ≤ x3_6 then (some x1_6) else (if x3_6 < 0 ∨ 9 ≤ x3_6.toNatClampNeg then none else if (T.2.1 7 x3_6.toNatClampNeg) < 0 then (if (T.2.1 5 x3_6.toNatClampNeg) ≤ x2_6 then (if (T.2.1 5 x3_6.toNatClampNeg) = x2_6 then (nm (x3_6 + (1 : Int32)) fun v60 => rc6 (-1 : Int32) x2_6 v60) else (nm (x3_6 + (1 : Int32)) fun v60 => rc6 x1_6 x2_6 v60)) else (nm (T.2.1 5 x3_6.toNatClampNeg) fun v42 => nm (x3_6 + (1 : Int32)) fun v60 => rc6 x3_6 v42 v60)) else (nm (x3_6 + (1 : Int32)) fun v60 => rc6 x1_6 x2_6 v60))
def fX3_firstAlone (T : sOb) : Option Int32 :=
  fx3 (bX3_firstAlone_6 T) FU (-1 : Int32) (-1 : Int32) (0 : Int32)
def rmX3_firstAlone : Room := { frames := 0, cells := 0, slots := 0, locals := 0 }
theorem qqX3_firstAlone : yX3_firstAlone.cls = RX3 ∧ yX3_firstAlone.cls ≠ "java/lang/invoke/MethodHandle" ∧ yX3_firstAlone.cls ≠ "java/lang/invoke/VarHandle" ∧ (parseMethodDescriptor yX3_firstAlone.desc).map (fun d => d.parameters.length) = some 0 := by decide +kernel
set_option maxRecDepth 100000 in
set_option maxHeartbeats 4000000 in
theorem kX3_firstAlone (l : Launch) (G : sGl) {S : sWo} {M : sOb} {o : Nat} {T : sOb} {q : Int32} (ho : isTk o) (hT : S o = T) (h : fX3_firstAlone T = some q) : sCt l G yX3_firstAlone wsX3_firstAlone rmX3_firstAlone [.ref (sA G o 0)] S M (some (.int q)) S M := by
  refine cMk (cc := cX3_firstAlone) (maxL := 4) (ret := (some .int)) (by decide) rfl (Nat.le_of_ble_eq_true rfl) ?_
  intro p e s m args below meth c Q hQ hx hb hr hlk hml hown hts hw ls hl
  have hown : s.vm.findClass RX3 = some m.cls := hown
  have hl : lv_has ls 4 [(0, .ref (sA G o 0))] := hl
  have hiX3 : ∀ w ∈ u_ws RX3 TX3 15, w ∈ wsX3_firstAlone := by decide +kernel
  unfold fX3_firstAlone at h
  refine lv_iconst (v := -1) hx hb dX3_firstAlone_0 (by decide) ?_
  refine lv_istore_n (lv' := [(1, .int (-1 : Int32)), (0, .ref (sA G o 0))]) hx hb dX3_firstAlone_1 rfl hl (by decide) rfl (fun ls hl => ?_)
  refine lv_iconst (v := -1) hx hb dX3_firstAlone_2 (by decide) ?_
  refine lv_istore_n (lv' := [(2, .int (-1 : Int32)), (1, .int (-1 : Int32)), (0, .ref (sA G o 0))]) hx hb dX3_firstAlone_3 rfl hl (by decide) rfl (fun ls hl => ?_)
  refine lv_iconst (v := 0) hx hb dX3_firstAlone_4 (by decide) ?_
  refine lv_istore_n (lv' := [(3, .int (0 : Int32)), (2, .int (-1 : Int32)), (1, .int (-1 : Int32)), (0, .ref (sA G o 0))]) hx hb dX3_firstAlone_5 rfl hl (by decide) rfl (fun ls hl => ?_)
  refine fx3_w (F := (bX3_firstAlone_6 T)) (P := fun x1_6 x2_6 x3_6 => ∀ (H : Heap) (locs : List Loc) (ls : Array Slot), sHw G s S M H locs → lv_has ls 4 [(0, .ref (sA G o 0)), (1, .int x1_6), (2, .int x2_6), (3, .int x3_6)] → W p l e rmX3_firstAlone s m args below meth c H locs 0 0 Q (F0 m 6 ls [])) ?_ _ _ _ _ h _ _ _ hw (lv_sub hl [3, 2, 1, 0] rfl)
  intro rc6 IH6 x1_6 x2_6 x3_6 h H locs ls hw hl
  unfold bX3_firstAlone_6 at h
  refine lv_iload_n hx hb dX3_firstAlone_6 rfl (lv_at hl 3 rfl) ?_
  refine lv_aload_n hx hb dX3_firstAlone_7 rfl (lv_at hl 0 rfl) ?_
  refine gTk (v := .int (T.1 4)) hx hb hts hiX3 hown hw ho hT 4 (by decide) (hts (.fieldLink RX3 52 "SecondHome$Track" "count" "I") (by decide +kernel)) rfl dX3_firstAlone_8 ?_
  refine lv_icmp_ge (tgt := 66) hx hb dX3_firstAlone_11 (by decide) (fun c11 => ?_) (fun c11 => ?_)
  · replace h := o_t c11 h
    refine lv_iload_n hx hb dX3_firstAlone_66 rfl (lv_at hl 1 rfl) ?_
    exact rI hQ hx hb hr hlk hw dX3_firstAlone_67 (o_1 h) rfl rfl
  · replace h := o_f c11 h
    refine lv_aload_n hx hb dX3_firstAlone_14 rfl (lv_at hl 0 rfl) ?_
    refine gTk (v := .ref (sA G o 8)) hx hb hts hiX3 hown hw ho hT 13 (by decide) (hts (.fieldLink RX3 43 "SecondHome$Track" "homes" "[I") (by decide +kernel)) rfl dX3_firstAlone_15 ?_
    refine lv_iload_n hx hb dX3_firstAlone_18 rfl (lv_at hl 3 rfl) ?_
    obtain ⟨b19, h⟩ := o_in h
    refine ldTk hx hb hw ho hT 7 (by decide) b19 dX3_firstAlone_19 ?_
    refine lv_if_lt (tgt := 26) hx hb dX3_firstAlone_20 (by decide) (fun c20 => ?_) (fun c20 => ?_)
    · replace h := o_t c20 h
      refine lv_aload_n hx hb dX3_firstAlone_26 rfl (lv_at hl 0 rfl) ?_
      refine gTk (v := .ref (sA G o 6)) hx hb hts hiX3 hown hw ho hT 11 (by decide) (hts (.fieldLink RX3 37 "SecondHome$Track" "yards" "[I") (by decide +kernel)) rfl dX3_firstAlone_27 ?_
      refine lv_iload_n hx hb dX3_firstAlone_30 rfl (lv_at hl 3 rfl) ?_
      refine ldTk hx hb hw ho hT 5 (by decide) b19 dX3_firstAlone_31 ?_
      refine lv_iload_n hx hb dX3_firstAlone_32 rfl (lv_at hl 2 rfl) ?_
      refine lv_icmp_le (tgt := 48) hx hb dX3_firstAlone_33 (by decide) (fun c33 => ?_) (fun c33 => ?_)
      · replace h := o_t c33 h
        refine lv_aload_n hx hb dX3_firstAlone_48 rfl (lv_at hl 0 rfl) ?_
        refine gTk (v := .ref (sA G o 6)) hx hb hts hiX3 hown hw ho hT 11 (by decide) (hts (.fieldLink RX3 37 "SecondHome$Track" "yards" "[I") (by decide +kernel)) rfl dX3_firstAlone_49 ?_
        refine lv_iload_n hx hb dX3_firstAlone_52 rfl (lv_at hl 3 rfl) ?_
        refine ldTk hx hb hw ho hT 5 (by decide) b19 dX3_firstAlone_53 ?_
        refine lv_iload_n hx hb dX3_firstAlone_54 rfl (lv_at hl 2 rfl) ?_
        refine lv_icmp_ne (tgt := 60) hx hb dX3_firstAlone_55 (by decide) (fun c55 => ?_) (fun c55 => ?_)
        · replace h := o_f c55 h
          obtain ⟨v60, ev60, h⟩ := o_nm h
          refine lv_iinc (v := v60) (lv' := [(3, .int v60), (0, .ref (sA G o 0)), (1, .int x1_6), (2, .int x2_6)]) hx hb dX3_firstAlone_60 hl (k := 3) rfl (by rw [ev60]; rfl) (by decide) rfl (fun ls hl => ?_)
          refine lv_goto (tgt := 6) hx hb dX3_firstAlone_63 (by decide) ?_
          exact IH6 x1_6 x2_6 v60 h _ _ _ hw (lv_sub hl [1, 2, 3, 0] rfl)
        · replace h := o_t c55 h
          refine lv_iconst (v := -1) hx hb dX3_firstAlone_58 (by decide) ?_
          refine lv_istore_n (lv' := [(1, .int (-1 : Int32)), (0, .ref (sA G o 0)), (2, .int x2_6), (3, .int x3_6)]) hx hb dX3_firstAlone_59 rfl hl (by decide) rfl (fun ls hl => ?_)
          obtain ⟨v60, ev60, h⟩ := o_nm h
          refine lv_iinc (v := v60) (lv' := [(3, .int v60), (1, .int (-1 : Int32)), (0, .ref (sA G o 0)), (2, .int x2_6)]) hx hb dX3_firstAlone_60 hl (k := 3) rfl (by rw [ev60]; rfl) (by decide) rfl (fun ls hl => ?_)
          refine lv_goto (tgt := 6) hx hb dX3_firstAlone_63 (by decide) ?_
          exact IH6 (-1 : Int32) x2_6 v60 h _ _ _ hw (lv_sub hl [2, 1, 3, 0] rfl)
      · replace h := o_f c33 h
        refine lv_aload_n hx hb dX3_firstAlone_36 rfl (lv_at hl 0 rfl) ?_
        refine gTk (v := .ref (sA G o 6)) hx hb hts hiX3 hown hw ho hT 11 (by decide) (hts (.fieldLink RX3 37 "SecondHome$Track" "yards" "[I") (by decide +kernel)) rfl dX3_firstAlone_37 ?_
        refine lv_iload_n hx hb dX3_firstAlone_40 rfl (lv_at hl 3 rfl) ?_
        refine ldTk hx hb hw ho hT 5 (by decide) b19 dX3_firstAlone_41 ?_
        refine lv_topi (fun v42 ev42 => ?_)
        replace h := o_nx ev42 h
        refine lv_istore_n (lv' := [(2, .int v42), (0, .ref (sA G o 0)), (1, .int x1_6), (3, .int x3_6)]) hx hb dX3_firstAlone_42 rfl hl (by decide) rfl (fun ls hl => ?_)
        refine lv_iload_n hx hb dX3_firstAlone_43 rfl (lv_at hl 3 rfl) ?_
        refine lv_istore_n (lv' := [(1, .int x3_6), (2, .int v42), (0, .ref (sA G o 0)), (3, .int x3_6)]) hx hb dX3_firstAlone_44 rfl hl (by decide) rfl (fun ls hl => ?_)
        refine lv_goto (tgt := 60) hx hb dX3_firstAlone_45 (by decide) ?_
        obtain ⟨v60, ev60, h⟩ := o_nm h
        refine lv_iinc (v := v60) (lv' := [(3, .int v60), (1, .int x3_6), (2, .int v42), (0, .ref (sA G o 0))]) hx hb dX3_firstAlone_60 hl (k := 3) rfl (by rw [ev60]; rfl) (by decide) rfl (fun ls hl => ?_)
        refine lv_goto (tgt := 6) hx hb dX3_firstAlone_63 (by decide) ?_
        exact IH6 x3_6 v42 v60 h _ _ _ hw (lv_sub hl [3, 1, 2, 0] rfl)
    · replace h := o_f c20 h
      refine lv_goto (tgt := 60) hx hb dX3_firstAlone_23 (by decide) ?_
      obtain ⟨v60, ev60, h⟩ := o_nm h
      refine lv_iinc (v := v60) (lv' := [(3, .int v60), (0, .ref (sA G o 0)), (1, .int x1_6), (2, .int x2_6)]) hx hb dX3_firstAlone_60 hl (k := 3) rfl (by rw [ev60]; rfl) (by decide) rfl (fun ls hl => ?_)
      refine lv_goto (tgt := 6) hx hb dX3_firstAlone_63 (by decide) ?_
      exact IH6 x1_6 x2_6 v60 h _ _ _ hw (lv_sub hl [1, 2, 3, 0] rfl)
-- X3_holderWish
def fX3_holderWish (T : sOb) (a1 : Int32) (a2 : Int32) : Option Int32 :=
  if a1 = a2 then (if a1 < 0 ∨ 9 ≤ a1.toNatClampNeg then none else if ((4 : Int32) * (T.2.1 5 a1.toNatClampNeg)) < ((3 : Int32) * (T.1 0)) then (some (T.2.1 1 a1.toNatClampNeg)) else (some (T.1 1))) else (if a1 < 0 ∨ 9 ≤ a1.toNatClampNeg then none else some (T.2.1 1 a1.toNatClampNeg))
def rmX3_holderWish : Room := { frames := 0, cells := 0, slots := 0, locals := 0 }
theorem qqX3_holderWish : yX3_holderWish.cls = RX3 ∧ yX3_holderWish.cls ≠ "java/lang/invoke/MethodHandle" ∧ yX3_holderWish.cls ≠ "java/lang/invoke/VarHandle" ∧ (parseMethodDescriptor yX3_holderWish.desc).map (fun d => d.parameters.length) = some 2 := by decide +kernel
set_option maxRecDepth 100000 in
set_option maxHeartbeats 4000000 in
theorem kX3_holderWish (l : Launch) (G : sGl) {S : sWo} {M : sOb} {o : Nat} {T : sOb} {a1 : Int32} {a2 : Int32} {q : Int32} (ho : isTk o) (hT : S o = T) (h : fX3_holderWish T a1 a2 = some q) : sCt l G yX3_holderWish wsX3_holderWish rmX3_holderWish [.ref (sA G o 0), .int a1, .int a2] S M (some (.int q)) S M := by
  refine cMk (cc := cX3_holderWish) (maxL := 3) (ret := (some .int)) (by decide) rfl (Nat.le_of_ble_eq_true rfl) ?_
  intro p e s m args below meth c Q hQ hx hb hr hlk hml hown hts hw ls hl
  have hown : s.vm.findClass RX3 = some m.cls := hown
  have hl : lv_has ls 3 [(0, .ref (sA G o 0)), (1, .int a1), (2, .int a2)] := hl
  have hiX3 : ∀ w ∈ u_ws RX3 TX3 15, w ∈ wsX3_holderWish := by decide +kernel
  unfold fX3_holderWish at h
  refine lv_iload_n hx hb dX3_holderWish_0 rfl (lv_at hl 1 rfl) ?_
  refine lv_iload_n hx hb dX3_holderWish_1 rfl (lv_at hl 2 rfl) ?_
  refine lv_icmp_ne (tgt := 29) hx hb dX3_holderWish_2 (by decide) (fun c2 => ?_) (fun c2 => ?_)
  · replace h := o_f c2 h
    refine lv_aload_n hx hb dX3_holderWish_29 rfl (lv_at hl 0 rfl) ?_
    refine gTk (v := .ref (sA G o 2)) hx hb hts hiX3 hown hw ho hT 7 (by decide) (hts (.fieldLink RX3 25 "SecondHome$Track" "paces" "[I") (by decide +kernel)) rfl dX3_holderWish_30 ?_
    refine lv_iload_n hx hb dX3_holderWish_33 rfl (lv_at hl 1 rfl) ?_
    obtain ⟨b34, h⟩ := o_in h
    refine ldTk hx hb hw ho hT 1 (by decide) b34 dX3_holderWish_34 ?_
    exact rI hQ hx hb hr hlk hw dX3_holderWish_35 (o_1 h) rfl rfl
  · replace h := o_t c2 h
    refine lv_iconst (v := 4) hx hb dX3_holderWish_5 (by decide) ?_
    refine lv_aload_n hx hb dX3_holderWish_6 rfl (lv_at hl 0 rfl) ?_
    refine gTk (v := .ref (sA G o 6)) hx hb hts hiX3 hown hw ho hT 11 (by decide) (hts (.fieldLink RX3 37 "SecondHome$Track" "yards" "[I") (by decide +kernel)) rfl dX3_holderWish_7 ?_
    refine lv_iload_n hx hb dX3_holderWish_10 rfl (lv_at hl 1 rfl) ?_
    obtain ⟨b11, h⟩ := o_in h
    refine ldTk hx hb hw ho hT 5 (by decide) b11 dX3_holderWish_11 ?_
    refine lv_imul hx hb dX3_holderWish_12 ?_
    refine lv_iconst (v := 3) hx hb dX3_holderWish_13 (by decide) ?_
    refine lv_aload_n hx hb dX3_holderWish_14 rfl (lv_at hl 0 rfl) ?_
    refine gTk (v := .int (T.1 0)) hx hb hts hiX3 hown hw ho hT 0 (by decide) (hts (.fieldLink RX3 9 "SecondHome$Track" "length" "I") (by decide +kernel)) rfl dX3_holderWish_15 ?_
    refine lv_imul hx hb dX3_holderWish_18 ?_
    refine lv_icmp_lt (tgt := 29) hx hb dX3_holderWish_19 (by decide) (fun c19 => ?_) (fun c19 => ?_)
    · replace h := o_t c19 h
      refine lv_aload_n hx hb dX3_holderWish_29 rfl (lv_at hl 0 rfl) ?_
      refine gTk (v := .ref (sA G o 2)) hx hb hts hiX3 hown hw ho hT 7 (by decide) (hts (.fieldLink RX3 25 "SecondHome$Track" "paces" "[I") (by decide +kernel)) rfl dX3_holderWish_30 ?_
      refine lv_iload_n hx hb dX3_holderWish_33 rfl (lv_at hl 1 rfl) ?_
      refine ldTk hx hb hw ho hT 1 (by decide) b11 dX3_holderWish_34 ?_
      exact rI hQ hx hb hr hlk hw dX3_holderWish_35 (o_1 h) rfl rfl
    · replace h := o_f c19 h
      refine lv_aload_n hx hb dX3_holderWish_22 rfl (lv_at hl 0 rfl) ?_
      refine gTk (v := .int (T.1 1)) hx hb hts hiX3 hown hw ho hT 1 (by decide) (hts (.fieldLink RX3 15 "SecondHome$Track" "least" "I") (by decide +kernel)) rfl dX3_holderWish_23 ?_
      refine lv_goto (tgt := 35) hx hb dX3_holderWish_26 (by decide) ?_
      exact rI hQ hx hb hr hlk hw dX3_holderWish_35 (o_1 h) rfl rfl
-- X3_keeperWish
def fX3_keeperWish (T : sOb) (a1 : Int32) : Option Int32 :=
  if a1 < 0 ∨ 9 ≤ a1.toNatClampNeg then none else nm (T.2.1 3 a1.toNatClampNeg) fun v6 => (fX3_has T v6).bind fun q9 => if q9 = 0 then (some (T.2.1 1 a1.toNatClampNeg)) else (if v6 < 0 ∨ 9 ≤ v6.toNatClampNeg then none else if (T.2.1 7 v6.toNatClampNeg) < 0 then (some (if (1 : Int32) < (if ((T.2.1 5 v6.toNatClampNeg) - (T.2.1 5 a1.toNatClampNeg)) < (T.2.1 1 a1.toNatClampNeg) then ((T.2.1 5 v6.toNatClampNeg) - (T.2.1 5 a1.toNatClampNeg)) else (T.2.1 1 a1.toNatClampNeg)) then (if ((T.2.1 5 v6.toNatClampNeg) - (T.2.1 5 a1.toNatClampNeg)) < (T.2.1 1 a1.toNatClampNeg) then ((T.2.1 5 v6.toNatClampNeg) - (T.2.1 5 a1.toNatClampNeg)) else (T.2.1 1 a1.toNatClampNeg)) else (1 : Int32))) else (some (T.2.1 1 a1.toNatClampNeg)))
def rmX3_keeperWish : Room := { frames := 1, cells := 0, slots := 0, locals := 21 }
theorem qqX3_keeperWish : yX3_keeperWish.cls = RX3 ∧ yX3_keeperWish.cls ≠ "java/lang/invoke/MethodHandle" ∧ yX3_keeperWish.cls ≠ "java/lang/invoke/VarHandle" ∧ (parseMethodDescriptor yX3_keeperWish.desc).map (fun d => d.parameters.length) = some 1 := by decide +kernel
set_option maxRecDepth 100000 in
set_option maxHeartbeats 4000000 in
theorem kX3_keeperWish (l : Launch) (G : sGl) {S : sWo} {M : sOb} {o : Nat} {T : sOb} {a1 : Int32} {q : Int32} (ho : isTk o) (hT : S o = T) (h : fX3_keeperWish T a1 = some q) : sCt l G yX3_keeperWish wsX3_keeperWish rmX3_keeperWish [.ref (sA G o 0), .int a1] S M (some (.int q)) S M := by
  refine cMk (cc := cX3_keeperWish) (maxL := 3) (ret := (some .int)) (by decide) rfl (Nat.le_of_ble_eq_true rfl) ?_
  intro p e s m args below meth c Q hQ hx hb hr hlk hml hown hts hw ls hl
  have hown : s.vm.findClass RX3 = some m.cls := hown
  have hl : lv_has ls 3 [(0, .ref (sA G o 0)), (1, .int a1)] := hl
  have hiX3 : ∀ w ∈ u_ws RX3 TX3 15, w ∈ wsX3_keeperWish := by decide +kernel
  unfold fX3_keeperWish at h
  refine lv_aload_n hx hb dX3_keeperWish_0 rfl (lv_at hl 0 rfl) ?_
  refine gTk (v := .ref (sA G o 4)) hx hb hts hiX3 hown hw ho hT 9 (by decide) (hts (.fieldLink RX3 31 "SecondHome$Track" "friends" "[I") (by decide +kernel)) rfl dX3_keeperWish_1 ?_
  refine lv_iload_n hx hb dX3_keeperWish_4 rfl (lv_at hl 1 rfl) ?_
  obtain ⟨b5, h⟩ := o_in h
  refine ldTk hx hb hw ho hT 3 (by decide) b5 dX3_keeperWish_5 ?_
  refine lv_topi (fun v6 ev6 => ?_)
  replace h := o_nx ev6 h
  refine lv_istore_n (lv' := [(2, .int v6), (0, .ref (sA G o 0)), (1, .int a1)]) hx hb dX3_keeperWish_6 rfl hl (by decide) rfl (fun ls hl => ?_)
  refine lv_aload_n hx hb dX3_keeperWish_7 rfl (lv_at hl 1 rfl) ?_
  refine lv_iload_n hx hb dX3_keeperWish_8 rfl (lv_at hl 0 rfl) ?_
  obtain ⟨q9, eq9, h⟩ := o_bd h
  refine kV (As := [.int v6]) (rest := []) (st' := [.int q9]) ⟨hx, hb, hml, hown, hts⟩ (kX3_has l G ho hT eq9) (cwV 1 hts gX3_keeperWish_X3_has rfl rfl rfl qqX3_has ⟨Nat.le_of_ble_eq_true rfl, Nat.le_of_ble_eq_true rfl⟩) hw (rvTk hw ho) rfl hl.1 rfl (Nat.le_of_ble_eq_true rfl) dX3_keeperWish_9 ⟨Nat.zero_le _, Nat.zero_le _⟩ rfl (fun H locs hw => ?_)
  refine lv_if_eq (tgt := 24) hx hb dX3_keeperWish_12 (by decide) (fun c12 => ?_) (fun c12 => ?_)
  · replace h := o_t c12 h
    refine lv_aload_n hx hb dX3_keeperWish_24 rfl (lv_at hl 1 rfl) ?_
    refine gTk (v := .ref (sA G o 2)) hx hb hts hiX3 hown hw ho hT 7 (by decide) (hts (.fieldLink RX3 25 "SecondHome$Track" "paces" "[I") (by decide +kernel)) rfl dX3_keeperWish_25 ?_
    refine lv_iload_n hx hb dX3_keeperWish_28 rfl (lv_at hl 2 rfl) ?_
    refine ldTk hx hb hw ho hT 1 (by decide) b5 dX3_keeperWish_29 ?_
    exact rI hQ hx hb hr hlk hw dX3_keeperWish_30 (o_1 h) rfl rfl
  · replace h := o_f c12 h
    refine lv_aload_n hx hb dX3_keeperWish_15 rfl (lv_at hl 1 rfl) ?_
    refine gTk (v := .ref (sA G o 8)) hx hb hts hiX3 hown hw ho hT 13 (by decide) (hts (.fieldLink RX3 43 "SecondHome$Track" "homes" "[I") (by decide +kernel)) rfl dX3_keeperWish_16 ?_
    refine lv_iload_n hx hb dX3_keeperWish_19 rfl (lv_at hl 0 rfl) ?_
    obtain ⟨b20, h⟩ := o_in h
    refine ldTk hx hb hw ho hT 7 (by decide) b20 dX3_keeperWish_20 ?_
    refine lv_if_lt (tgt := 31) hx hb dX3_keeperWish_21 (by decide) (fun c21 => ?_) (fun c21 => ?_)
    · replace h := o_t c21 h
      refine lv_iconst (v := 1) hx hb dX3_keeperWish_31 (by decide) ?_
      refine lv_aload_n hx hb dX3_keeperWish_32 rfl (lv_at hl 1 rfl) ?_
      refine gTk (v := .ref (sA G o 2)) hx hb hts hiX3 hown hw ho hT 7 (by decide) (hts (.fieldLink RX3 25 "SecondHome$Track" "paces" "[I") (by decide +kernel)) rfl dX3_keeperWish_33 ?_
      refine lv_iload_n hx hb dX3_keeperWish_36 rfl (lv_at hl 2 rfl) ?_
      refine ldTk hx hb hw ho hT 1 (by decide) b5 dX3_keeperWish_37 ?_
      refine lv_aload_n hx hb dX3_keeperWish_38 rfl (lv_at hl 1 rfl) ?_
      refine gTk (v := .ref (sA G o 6)) hx hb hts hiX3 hown hw ho hT 11 (by decide) (hts (.fieldLink RX3 37 "SecondHome$Track" "yards" "[I") (by decide +kernel)) rfl dX3_keeperWish_39 ?_
      refine lv_iload_n hx hb dX3_keeperWish_42 rfl (lv_at hl 0 rfl) ?_
      refine ldTk hx hb hw ho hT 5 (by decide) b20 dX3_keeperWish_43 ?_
      refine lv_aload_n hx hb dX3_keeperWish_44 rfl (lv_at hl 1 rfl) ?_
      refine gTk (v := .ref (sA G o 6)) hx hb hts hiX3 hown hw ho hT 11 (by decide) (hts (.fieldLink RX3 37 "SecondHome$Track" "yards" "[I") (by decide +kernel)) rfl dX3_keeperWish_45 ?_
      refine lv_iload_n hx hb dX3_keeperWish_48 rfl (lv_at hl 2 rfl) ?_
      refine ldTk hx hb hw ho hT 5 (by decide) b5 dX3_keeperWish_49 ?_
      refine lv_isub hx hb dX3_keeperWish_50 ?_
      refine va_mmin hx hb (hml.trans hl.1.symm) hown (hts (.methodLink RX3 76 Lib.Math.min.name) (by decide +kernel)) (hts (.static Lib.Math.min.name) (by decide +kernel)) (hts (.initialized "java/lang/Math") (by decide +kernel)) (hts (.code Lib.Math.min.name Lib.Math.min.code 2 (some .int)) (by decide +kernel)) (Nat.le_of_ble_eq_true rfl) (Nat.le_of_ble_eq_true rfl) (Nat.zero_le _) (Nat.zero_le _) dX3_keeperWish_51 ?_
      refine va_mmax hx hb (hml.trans hl.1.symm) hown (hts (.methodLink RX3 81 Lib.Math.max.name) (by decide +kernel)) (hts (.static Lib.Math.max.name) (by decide +kernel)) (hts (.initialized "java/lang/Math") (by decide +kernel)) (hts (.code Lib.Math.max.name Lib.Math.max.code 2 (some .int)) (by decide +kernel)) (Nat.le_of_ble_eq_true rfl) (Nat.le_of_ble_eq_true rfl) (Nat.zero_le _) (Nat.zero_le _) dX3_keeperWish_54 ?_
      exact rI hQ hx hb hr hlk hw dX3_keeperWish_57 (o_1 h) rfl rfl
    · replace h := o_f c21 h
      refine lv_aload_n hx hb dX3_keeperWish_24 rfl (lv_at hl 1 rfl) ?_
      refine gTk (v := .ref (sA G o 2)) hx hb hts hiX3 hown hw ho hT 7 (by decide) (hts (.fieldLink RX3 25 "SecondHome$Track" "paces" "[I") (by decide +kernel)) rfl dX3_keeperWish_25 ?_
      refine lv_iload_n hx hb dX3_keeperWish_28 rfl (lv_at hl 2 rfl) ?_
      refine ldTk hx hb hw ho hT 1 (by decide) b5 dX3_keeperWish_29 ?_
      exact rI hQ hx hb hr hlk hw dX3_keeperWish_30 (o_1 h) rfl rfl
-- X3_sprinterWish
def fX3_sprinterWish (T : sOb) (a1 : Int32) (a2 : Int32) : Option Int32 :=
  nm (fun (y0_17 : Int32) => (fX3_holderWish T a1 a2).bind fun q21 => if a1 < 0 ∨ 9 ≤ a1.toNatClampNeg then none else if (T.2.1 5 a1.toNatClampNeg) < ((T.1 0) - (40 : Int32)) then (some q21) else (if y0_17 = 0 then (some ((2 : Int32) * q21)) else (some q21))) fun k17 => nm (k17 (0 : Int32)) fun k16 => if a1 = a2 then (if (T.1 5) = 0 then (k17 (1 : Int32)) else k16) else k16
def rmX3_sprinterWish : Room := { frames := 1, cells := 0, slots := 0, locals := 22 }
theorem qqX3_sprinterWish : yX3_sprinterWish.cls = RX3 ∧ yX3_sprinterWish.cls ≠ "java/lang/invoke/MethodHandle" ∧ yX3_sprinterWish.cls ≠ "java/lang/invoke/VarHandle" ∧ (parseMethodDescriptor yX3_sprinterWish.desc).map (fun d => d.parameters.length) = some 2 := by decide +kernel
set_option maxRecDepth 100000 in
set_option maxHeartbeats 4000000 in
theorem kX3_sprinterWish (l : Launch) (G : sGl) {S : sWo} {M : sOb} {o : Nat} {T : sOb} {a1 : Int32} {a2 : Int32} {q : Int32} (ho : isTk o) (hT : S o = T) (h : fX3_sprinterWish T a1 a2 = some q) : sCt l G yX3_sprinterWish wsX3_sprinterWish rmX3_sprinterWish [.ref (sA G o 0), .int a1, .int a2] S M (some (.int q)) S M := by
  refine cMk (cc := cX3_sprinterWish) (maxL := 5) (ret := (some .int)) (by decide) rfl (Nat.le_of_ble_eq_true rfl) ?_
  intro p e s m args below meth c Q hQ hx hb hr hlk hml hown hts hw ls hl
  have hown : s.vm.findClass RX3 = some m.cls := hown
  have hl : lv_has ls 5 [(0, .ref (sA G o 0)), (1, .int a1), (2, .int a2)] := hl
  have hiX3 : ∀ w ∈ u_ws RX3 TX3 15, w ∈ wsX3_sprinterWish := by decide +kernel
  unfold fX3_sprinterWish at h
  refine lv_iload_n hx hb dX3_sprinterWish_0 rfl (lv_at hl 1 rfl) ?_
  refine lv_iload_n hx hb dX3_sprinterWish_1 rfl (lv_at hl 2 rfl) ?_
  obtain ⟨k17, ek17, h⟩ := o_nm h
  have J17 : ∀ (y0_17 : Int32) (H : Heap) (locs : List Loc) (ls : Array Slot), sHw G s S M H locs → lv_has ls 5 [(0, .ref (sA G o 0)), (1, .int a1), (2, .int a2)] → k17 y0_17 = some q → W p l e rmX3_sprinterWish s m args below meth c H locs 0 0 Q (F0 m 17 ls [.int y0_17]) := by
    intro y0_17 H locs ls hw hl h
    replace h := o_j1 ek17 h
    refine lv_istore_n (lv' := [(3, .int y0_17), (0, .ref (sA G o 0)), (1, .int a1), (2, .int a2)]) hx hb dX3_sprinterWish_17 rfl hl (by decide) rfl (fun ls hl => ?_)
    refine lv_aload_n hx hb dX3_sprinterWish_18 rfl (lv_at hl 1 rfl) ?_
    refine lv_iload_n hx hb dX3_sprinterWish_19 rfl (lv_at hl 2 rfl) ?_
    refine lv_iload_n hx hb dX3_sprinterWish_20 rfl (lv_at hl 3 rfl) ?_
    obtain ⟨q21, eq21, h⟩ := o_bd h
    refine kV (As := [.int a1, .int a2]) (rest := []) (st' := [.int q21]) ⟨hx, hb, hml, hown, hts⟩ (kX3_holderWish l G ho hT eq21) (cwV 2 hts gX3_sprinterWish_X3_holderWish rfl rfl rfl qqX3_holderWish ⟨Nat.le_of_ble_eq_true rfl, Nat.le_of_ble_eq_true rfl⟩) hw (rvTk hw ho) rfl hl.1 rfl (Nat.le_of_ble_eq_true rfl) dX3_sprinterWish_21 ⟨Nat.zero_le _, Nat.zero_le _⟩ rfl (fun H locs hw => ?_)
    refine lv_istore (lv' := [(4, .int q21), (3, .int y0_17), (0, .ref (sA G o 0)), (1, .int a1), (2, .int a2)]) hx hb dX3_sprinterWish_24 hl (by decide) rfl (fun ls hl => ?_)
    refine lv_aload_n hx hb dX3_sprinterWish_26 rfl (lv_at hl 2 rfl) ?_
    refine gTk (v := .ref (sA G o 6)) hx hb hts hiX3 hown hw ho hT 11 (by decide) (hts (.fieldLink RX3 37 "SecondHome$Track" "yards" "[I") (by decide +kernel)) rfl dX3_sprinterWish_27 ?_
    refine lv_iload_n hx hb dX3_sprinterWish_30 rfl (lv_at hl 3 rfl) ?_
    obtain ⟨b31, h⟩ := o_in h
    refine ldTk hx hb hw ho hT 5 (by decide) b31 dX3_sprinterWish_31 ?_
    refine lv_aload_n hx hb dX3_sprinterWish_32 rfl (lv_at hl 2 rfl) ?_
    refine gTk (v := .int (T.1 0)) hx hb hts hiX3 hown hw ho hT 0 (by decide) (hts (.fieldLink RX3 9 "SecondHome$Track" "length" "I") (by decide +kernel)) rfl dX3_sprinterWish_33 ?_
    refine lv_bipush (v := 40) hx hb dX3_sprinterWish_36 (by decide) ?_
    refine lv_isub hx hb dX3_sprinterWish_38 ?_
    refine lv_icmp_lt (tgt := 53) hx hb dX3_sprinterWish_39 (by decide) (fun c39 => ?_) (fun c39 => ?_)
    · replace h := o_t c39 h
      refine lv_iload hx hb dX3_sprinterWish_53 (lv_at hl 0 rfl) ?_
      exact rI hQ hx hb hr hlk hw dX3_sprinterWish_55 (o_1 h) rfl rfl
    · replace h := o_f c39 h
      refine lv_iload_n hx hb dX3_sprinterWish_42 rfl (lv_at hl 1 rfl) ?_
      refine lv_if_ne (tgt := 53) hx hb dX3_sprinterWish_43 (by decide) (fun c43 => ?_) (fun c43 => ?_)
      · replace h := o_f c43 h
        refine lv_iload hx hb dX3_sprinterWish_53 (lv_at hl 0 rfl) ?_
        exact rI hQ hx hb hr hlk hw dX3_sprinterWish_55 (o_1 h) rfl rfl
      · replace h := o_t c43 h
        refine lv_iconst (v := 2) hx hb dX3_sprinterWish_46 (by decide) ?_
        refine lv_iload hx hb dX3_sprinterWish_47 (lv_at hl 0 rfl) ?_
        refine lv_imul hx hb dX3_sprinterWish_49 ?_
        refine lv_goto (tgt := 55) hx hb dX3_sprinterWish_50 (by decide) ?_
        exact rI hQ hx hb hr hlk hw dX3_sprinterWish_55 (o_1 h) rfl rfl
  obtain ⟨k16, ek16, h⟩ := o_nm h
  have J16 : ∀ (H : Heap) (locs : List Loc) (ls : Array Slot), sHw G s S M H locs → lv_has ls 5 [(0, .ref (sA G o 0)), (1, .int a1), (2, .int a2)] → k16 = some q → W p l e rmX3_sprinterWish s m args below meth c H locs 0 0 Q (F0 m 16 ls []) := by
    intro H locs ls hw hl h
    replace h := o_j0 ek16 h
    refine lv_iconst (v := 0) hx hb dX3_sprinterWish_16 (by decide) ?_
    exact J17 (0 : Int32) _ _ _ hw (lv_sub hl [0, 1, 2] rfl) h
  refine lv_icmp_ne (tgt := 16) hx hb dX3_sprinterWish_2 (by decide) (fun c2 => ?_) (fun c2 => ?_)
  · replace h := o_f c2 h
    exact J16 _ _ _ hw (lv_sub hl [0, 1, 2] rfl) h
  · replace h := o_t c2 h
    refine lv_aload_n hx hb dX3_sprinterWish_5 rfl (lv_at hl 0 rfl) ?_
    refine gTk (v := .int (T.1 5)) hx hb hts hiX3 hown hw ho hT 5 (by decide) (hts (.fieldLink RX3 55 "SecondHome$Track" "homeCount" "I") (by decide +kernel)) rfl dX3_sprinterWish_6 ?_
    refine lv_if_ne (tgt := 16) hx hb dX3_sprinterWish_9 (by decide) (fun c9 => ?_) (fun c9 => ?_)
    · replace h := o_f c9 h
      exact J16 _ _ _ hw (lv_sub hl [0, 1, 2] rfl) h
    · replace h := o_t c9 h
      refine lv_iconst (v := 1) hx hb dX3_sprinterWish_12 (by decide) ?_
      refine lv_goto (tgt := 17) hx hb dX3_sprinterWish_13 (by decide) ?_
      exact J17 (1 : Int32) _ _ _ hw (lv_sub hl [0, 1, 2] rfl) h
-- X3_wishOf
def fX3_wishOf (T : sOb) (a1 : Int32) (a2 : Int32) : Option Int32 :=
  (fX3_has T a1).bind fun q2 => if q2 = 0 then (some (0 : Int32)) else (if a1 < 0 ∨ 9 ≤ a1.toNatClampNeg then none else if (T.2.1 0 a1.toNatClampNeg) = (1 : Int32) then ((fX3_holderWish T a1 a2).bind fun q55 => some q55) else if (T.2.1 0 a1.toNatClampNeg) = (2 : Int32) then ((fX3_keeperWish T a1).bind fun q61 => some q61) else if (T.2.1 0 a1.toNatClampNeg) = (3 : Int32) then ((fX3_isHome T (T.2.1 3 a1.toNatClampNeg)).bind fun q72 => if q72 = 0 then ((fX3_keeperWish T a1).bind fun q87 => some q87) else (some (T.1 1))) else if (T.2.1 0 a1.toNatClampNeg) = (4 : Int32) then ((fX3_sprinterWish T a1 a2).bind fun q94 => some q94) else if (T.2.1 0 a1.toNatClampNeg) = (5 : Int32) then ((fX3_holderWish T a1 a2).bind fun q101 => some (if ((T.1 1) + (2 : Int32)) < q101 then ((T.1 1) + (2 : Int32)) else q101)) else (some (T.2.1 1 a1.toNatClampNeg)))
def rmX3_wishOf : Room := { frames := 2, cells := 0, slots := 0, locals := 46 }
theorem qqX3_wishOf : yX3_wishOf.cls = RX3 ∧ yX3_wishOf.cls ≠ "java/lang/invoke/MethodHandle" ∧ yX3_wishOf.cls ≠ "java/lang/invoke/VarHandle" ∧ (parseMethodDescriptor yX3_wishOf.desc).map (fun d => d.parameters.length) = some 2 := by decide +kernel
set_option maxRecDepth 100000 in
set_option maxHeartbeats 4000000 in
theorem kX3_wishOf (l : Launch) (G : sGl) {S : sWo} {M : sOb} {o : Nat} {T : sOb} {a1 : Int32} {a2 : Int32} {q : Int32} (ho : isTk o) (hT : S o = T) (h : fX3_wishOf T a1 a2 = some q) : sCt l G yX3_wishOf wsX3_wishOf rmX3_wishOf [.ref (sA G o 0), .int a1, .int a2] S M (some (.int q)) S M := by
  refine cMk (cc := cX3_wishOf) (maxL := 3) (ret := (some .int)) (by decide) rfl (Nat.le_of_ble_eq_true rfl) ?_
  intro p e s m args below meth c Q hQ hx hb hr hlk hml hown hts hw ls hl
  have hown : s.vm.findClass RX3 = some m.cls := hown
  have hl : lv_has ls 3 [(0, .ref (sA G o 0)), (1, .int a1), (2, .int a2)] := hl
  have hiX3 : ∀ w ∈ u_ws RX3 TX3 15, w ∈ wsX3_wishOf := by decide +kernel
  unfold fX3_wishOf at h
  refine lv_aload_n hx hb dX3_wishOf_0 rfl (lv_at hl 0 rfl) ?_
  refine lv_iload_n hx hb dX3_wishOf_1 rfl (lv_at hl 1 rfl) ?_
  obtain ⟨q2, eq2, h⟩ := o_bd h
  refine kV (As := [.int a1]) (rest := []) (st' := [.int q2]) ⟨hx, hb, hml, hown, hts⟩ (kX3_has l G ho hT eq2) (cwV 1 hts gX3_wishOf_X3_has rfl rfl rfl qqX3_has ⟨Nat.le_of_ble_eq_true rfl, Nat.le_of_ble_eq_true rfl⟩) hw (rvTk hw ho) rfl hl.1 rfl (Nat.le_of_ble_eq_true rfl) dX3_wishOf_2 ⟨Nat.zero_le _, Nat.zero_le _⟩ rfl (fun H locs hw => ?_)
  refine lv_if_ne (tgt := 10) hx hb dX3_wishOf_5 (by decide) (fun c5 => ?_) (fun c5 => ?_)
  · replace h := o_f c5 h
    refine lv_aload_n hx hb dX3_wishOf_10 rfl (lv_at hl 0 rfl) ?_
    refine gTk (v := .ref (sA G o 1)) hx hb hts hiX3 hown hw ho hT 6 (by decide) (hts (.fieldLink RX3 21 "SecondHome$Track" "kinds" "[I") (by decide +kernel)) rfl dX3_wishOf_11 ?_
    refine lv_iload_n hx hb dX3_wishOf_14 rfl (lv_at hl 1 rfl) ?_
    obtain ⟨b15, h⟩ := o_in h
    refine ldTk hx hb hw ho hT 0 (by decide) b15 dX3_wishOf_15 ?_
    by_cases c16_1 : (T.2.1 0 a1.toNatClampNeg) = (1 : Int32)
    · replace h := o_t c16_1 h
      refine lv_tableIn (tgt := 52) hx hb dX3_wishOf_16 (by rw [c16_1]; decide) (by rw [c16_1]; decide) (by rw [c16_1]; rfl) (by decide) ?_
      refine lv_aload_n hx hb dX3_wishOf_52 rfl (lv_at hl 0 rfl) ?_
      refine lv_iload_n hx hb dX3_wishOf_53 rfl (lv_at hl 1 rfl) ?_
      refine lv_iload_n hx hb dX3_wishOf_54 rfl (lv_at hl 2 rfl) ?_
      obtain ⟨q55, eq55, h⟩ := o_bd h
      refine kV (As := [.int a1, .int a2]) (rest := []) (st' := [.int q55]) ⟨hx, hb, hml, hown, hts⟩ (kX3_holderWish l G ho hT eq55) (cwV 2 hts gX3_wishOf_X3_holderWish rfl rfl rfl qqX3_holderWish ⟨Nat.le_of_ble_eq_true rfl, Nat.le_of_ble_eq_true rfl⟩) hw (rvTk hw ho) rfl hl.1 rfl (Nat.le_of_ble_eq_true rfl) dX3_wishOf_55 ⟨Nat.zero_le _, Nat.zero_le _⟩ rfl (fun H locs hw => ?_)
      exact rI hQ hx hb hr hlk hw dX3_wishOf_58 (o_1 h) rfl rfl
    replace h := o_f c16_1 h
    by_cases c16_2 : (T.2.1 0 a1.toNatClampNeg) = (2 : Int32)
    · replace h := o_t c16_2 h
      refine lv_tableIn (tgt := 59) hx hb dX3_wishOf_16 (by rw [c16_2]; decide) (by rw [c16_2]; decide) (by rw [c16_2]; rfl) (by decide) ?_
      refine lv_aload_n hx hb dX3_wishOf_59 rfl (lv_at hl 0 rfl) ?_
      refine lv_iload_n hx hb dX3_wishOf_60 rfl (lv_at hl 1 rfl) ?_
      obtain ⟨q61, eq61, h⟩ := o_bd h
      refine kV (As := [.int a1]) (rest := []) (st' := [.int q61]) ⟨hx, hb, hml, hown, hts⟩ (kX3_keeperWish l G ho hT eq61) (cwV 1 hts gX3_wishOf_X3_keeperWish rfl rfl rfl qqX3_keeperWish ⟨Nat.le_of_ble_eq_true rfl, Nat.le_of_ble_eq_true rfl⟩) hw (rvTk hw ho) rfl hl.1 rfl (Nat.le_of_ble_eq_true rfl) dX3_wishOf_61 ⟨Nat.zero_le _, Nat.zero_le _⟩ rfl (fun H locs hw => ?_)
      exact rI hQ hx hb hr hlk hw dX3_wishOf_64 (o_1 h) rfl rfl
    replace h := o_f c16_2 h
    by_cases c16_3 : (T.2.1 0 a1.toNatClampNeg) = (3 : Int32)
    · replace h := o_t c16_3 h
      refine lv_tableIn (tgt := 65) hx hb dX3_wishOf_16 (by rw [c16_3]; decide) (by rw [c16_3]; decide) (by rw [c16_3]; rfl) (by decide) ?_
      refine lv_aload_n hx hb dX3_wishOf_65 rfl (lv_at hl 0 rfl) ?_
      refine lv_aload_n hx hb dX3_wishOf_66 rfl (lv_at hl 0 rfl) ?_
      refine gTk (v := .ref (sA G o 4)) hx hb hts hiX3 hown hw ho hT 9 (by decide) (hts (.fieldLink RX3 31 "SecondHome$Track" "friends" "[I") (by decide +kernel)) rfl dX3_wishOf_67 ?_
      refine lv_iload_n hx hb dX3_wishOf_70 rfl (lv_at hl 1 rfl) ?_
      refine ldTk hx hb hw ho hT 3 (by decide) b15 dX3_wishOf_71 ?_
      obtain ⟨q72, eq72, h⟩ := o_bd h
      refine kV (As := [.int (T.2.1 3 a1.toNatClampNeg)]) (rest := []) (st' := [.int q72]) ⟨hx, hb, hml, hown, hts⟩ (kX3_isHome l G ho hT eq72) (cwV 1 hts gX3_wishOf_X3_isHome rfl rfl rfl qqX3_isHome ⟨Nat.le_of_ble_eq_true rfl, Nat.le_of_ble_eq_true rfl⟩) hw (rvTk hw ho) rfl hl.1 rfl (Nat.le_of_ble_eq_true rfl) dX3_wishOf_72 ⟨Nat.zero_le _, Nat.zero_le _⟩ rfl (fun H locs hw => ?_)
      refine lv_if_eq (tgt := 85) hx hb dX3_wishOf_75 (by decide) (fun c75 => ?_) (fun c75 => ?_)
      · replace h := o_t c75 h
        refine lv_aload_n hx hb dX3_wishOf_85 rfl (lv_at hl 0 rfl) ?_
        refine lv_iload_n hx hb dX3_wishOf_86 rfl (lv_at hl 1 rfl) ?_
        obtain ⟨q87, eq87, h⟩ := o_bd h
        refine kV (As := [.int a1]) (rest := []) (st' := [.int q87]) ⟨hx, hb, hml, hown, hts⟩ (kX3_keeperWish l G ho hT eq87) (cwV 1 hts gX3_wishOf_X3_keeperWish rfl rfl rfl qqX3_keeperWish ⟨Nat.le_of_ble_eq_true rfl, Nat.le_of_ble_eq_true rfl⟩) hw (rvTk hw ho) rfl hl.1 rfl (Nat.le_of_ble_eq_true rfl) dX3_wishOf_87 ⟨Nat.zero_le _, Nat.zero_le _⟩ rfl (fun H locs hw => ?_)
        exact rI hQ hx hb hr hlk hw dX3_wishOf_90 (o_1 h) rfl rfl
      · replace h := o_f c75 h
        refine lv_aload_n hx hb dX3_wishOf_78 rfl (lv_at hl 0 rfl) ?_
        refine gTk (v := .int (T.1 1)) hx hb hts hiX3 hown hw ho hT 1 (by decide) (hts (.fieldLink RX3 15 "SecondHome$Track" "least" "I") (by decide +kernel)) rfl dX3_wishOf_79 ?_
        refine lv_goto (tgt := 90) hx hb dX3_wishOf_82 (by decide) ?_
        exact rI hQ hx hb hr hlk hw dX3_wishOf_90 (o_1 h) rfl rfl
    replace h := o_f c16_3 h
    by_cases c16_4 : (T.2.1 0 a1.toNatClampNeg) = (4 : Int32)
    · replace h := o_t c16_4 h
      refine lv_tableIn (tgt := 91) hx hb dX3_wishOf_16 (by rw [c16_4]; decide) (by rw [c16_4]; decide) (by rw [c16_4]; rfl) (by decide) ?_
      refine lv_aload_n hx hb dX3_wishOf_91 rfl (lv_at hl 0 rfl) ?_
      refine lv_iload_n hx hb dX3_wishOf_92 rfl (lv_at hl 1 rfl) ?_
      refine lv_iload_n hx hb dX3_wishOf_93 rfl (lv_at hl 2 rfl) ?_
      obtain ⟨q94, eq94, h⟩ := o_bd h
      refine kV (As := [.int a1, .int a2]) (rest := []) (st' := [.int q94]) ⟨hx, hb, hml, hown, hts⟩ (kX3_sprinterWish l G ho hT eq94) (cwV 2 hts gX3_wishOf_X3_sprinterWish rfl rfl rfl qqX3_sprinterWish ⟨Nat.le_of_ble_eq_true rfl, Nat.le_of_ble_eq_true rfl⟩) hw (rvTk hw ho) rfl hl.1 rfl (Nat.le_of_ble_eq_true rfl) dX3_wishOf_94 ⟨Nat.zero_le _, Nat.zero_le _⟩ rfl (fun H locs hw => ?_)
      exact rI hQ hx hb hr hlk hw dX3_wishOf_97 (o_1 h) rfl rfl
    replace h := o_f c16_4 h
    by_cases c16_5 : (T.2.1 0 a1.toNatClampNeg) = (5 : Int32)
    · replace h := o_t c16_5 h
      refine lv_tableIn (tgt := 98) hx hb dX3_wishOf_16 (by rw [c16_5]; decide) (by rw [c16_5]; decide) (by rw [c16_5]; rfl) (by decide) ?_
      refine lv_aload_n hx hb dX3_wishOf_98 rfl (lv_at hl 0 rfl) ?_
      refine lv_iload_n hx hb dX3_wishOf_99 rfl (lv_at hl 1 rfl) ?_
      refine lv_iload_n hx hb dX3_wishOf_100 rfl (lv_at hl 2 rfl) ?_
      obtain ⟨q101, eq101, h⟩ := o_bd h
      refine kV (As := [.int a1, .int a2]) (rest := []) (st' := [.int q101]) ⟨hx, hb, hml, hown, hts⟩ (kX3_holderWish l G ho hT eq101) (cwV 2 hts gX3_wishOf_X3_holderWish rfl rfl rfl qqX3_holderWish ⟨Nat.le_of_ble_eq_true rfl, Nat.le_of_ble_eq_true rfl⟩) hw (rvTk hw ho) rfl hl.1 rfl (Nat.le_of_ble_eq_true rfl) dX3_wishOf_101 ⟨Nat.zero_le _, Nat.zero_le _⟩ rfl (fun H locs hw => ?_)
      refine lv_aload_n hx hb dX3_wishOf_104 rfl (lv_at hl 0 rfl) ?_
      refine gTk (v := .int (T.1 1)) hx hb hts hiX3 hown hw ho hT 1 (by decide) (hts (.fieldLink RX3 15 "SecondHome$Track" "least" "I") (by decide +kernel)) rfl dX3_wishOf_105 ?_
      refine lv_iconst (v := 2) hx hb dX3_wishOf_108 (by decide) ?_
      refine lv_iadd hx hb dX3_wishOf_109 ?_
      refine va_mmin hx hb (hml.trans hl.1.symm) hown (hts (.methodLink RX3 76 Lib.Math.min.name) (by decide +kernel)) (hts (.static Lib.Math.min.name) (by decide +kernel)) (hts (.initialized "java/lang/Math") (by decide +kernel)) (hts (.code Lib.Math.min.name Lib.Math.min.code 2 (some .int)) (by decide +kernel)) (Nat.le_of_ble_eq_true rfl) (Nat.le_of_ble_eq_true rfl) (Nat.zero_le _) (Nat.zero_le _) dX3_wishOf_110 ?_
      exact rI hQ hx hb hr hlk hw dX3_wishOf_113 (o_1 h) rfl rfl
    replace h := o_f c16_5 h
    have sw16 : (T.2.1 0 a1.toNatClampNeg).toInt < 1 ∨ 5 < (T.2.1 0 a1.toNatClampNeg).toInt := by
      have z1 := sw_ne c16_1
      have z2 := sw_ne c16_2
      have z3 := sw_ne c16_3
      have z4 := sw_ne c16_4
      have z5 := sw_ne c16_5
      rw [show ((1 : Int32)).toInt = 1 from rfl] at z1
      rw [show ((2 : Int32)).toInt = 2 from rfl] at z2
      rw [show ((3 : Int32)).toInt = 3 from rfl] at z3
      rw [show ((4 : Int32)).toInt = 4 from rfl] at z4
      rw [show ((5 : Int32)).toInt = 5 from rfl] at z5
      omega
    refine lv_tableOut (tgt := 114) hx hb dX3_wishOf_16 sw16 (by decide) ?_
    refine lv_aload_n hx hb dX3_wishOf_114 rfl (lv_at hl 0 rfl) ?_
    refine gTk (v := .ref (sA G o 2)) hx hb hts hiX3 hown hw ho hT 7 (by decide) (hts (.fieldLink RX3 25 "SecondHome$Track" "paces" "[I") (by decide +kernel)) rfl dX3_wishOf_115 ?_
    refine lv_iload_n hx hb dX3_wishOf_118 rfl (lv_at hl 1 rfl) ?_
    refine ldTk hx hb hw ho hT 1 (by decide) b15 dX3_wishOf_119 ?_
    exact rI hQ hx hb hr hlk hw dX3_wishOf_120 (o_1 h) rfl rfl
  · replace h := o_t c5 h
    refine lv_iconst (v := 0) hx hb dX3_wishOf_8 (by decide) ?_
    exact rI hQ hx hb hr hlk hw dX3_wishOf_9 (o_1 h) rfl rfl
-- X3_strideOf
def fX3_strideOf (T : sOb) (a1 : Int32) (a2 : Int32) : Option (Int32 × sOb) :=
  nm (a2 - (4 : Int32)) fun v3 => if a1 < 0 ∨ 9 ≤ a1.toNatClampNeg then none else if v3 ≤ (T.2.1 2 a1.toNatClampNeg) then (if v3 ≤ 0 then (if 0 ≤ v3 then (some (a2, T)) else (nm (sSa T 2 a1.toNatClampNeg (if (999 : Int32) < ((T.2.1 2 a1.toNatClampNeg) + (1 : Int32)) then (999 : Int32) else ((T.2.1 2 a1.toNatClampNeg) + (1 : Int32)))) fun T63 => some (a2, T63))) else (nm (sSa T 2 a1.toNatClampNeg ((T.2.1 2 a1.toNatClampNeg) - v3)) fun T36 => some (a2, T36))) else (some ((if (4 : Int32) < (T.1 1) then (T.1 1) else (4 : Int32)), T))
def rmX3_strideOf : Room := { frames := 1, cells := 0, slots := 0, locals := 21 }
theorem qqX3_strideOf : yX3_strideOf.cls = RX3 ∧ yX3_strideOf.cls ≠ "java/lang/invoke/MethodHandle" ∧ yX3_strideOf.cls ≠ "java/lang/invoke/VarHandle" ∧ (parseMethodDescriptor yX3_strideOf.desc).map (fun d => d.parameters.length) = some 2 := by decide +kernel
set_option maxRecDepth 100000 in
set_option maxHeartbeats 4000000 in
theorem kX3_strideOf (l : Launch) (G : sGl) {S : sWo} {M : sOb} {o : Nat} {T : sOb} {a1 : Int32} {a2 : Int32} {q : (Int32 × sOb)} (ho : isTk o) (hT : S o = T) (h : fX3_strideOf T a1 a2 = some q) : sCt l G yX3_strideOf wsX3_strideOf rmX3_strideOf [.ref (sA G o 0), .int a1, .int a2] S M (some (.int q.1)) (sUp S o q.2) M := by
  refine cMk (cc := cX3_strideOf) (maxL := 4) (ret := (some .int)) (by decide) rfl (Nat.le_of_ble_eq_true rfl) ?_
  intro p e s m args below meth c Q hQ hx hb hr hlk hml hown hts hw ls hl
  have hown : s.vm.findClass RX3 = some m.cls := hown
  have hl : lv_has ls 4 [(0, .ref (sA G o 0)), (1, .int a1), (2, .int a2)] := hl
  have hiX3 : ∀ w ∈ u_ws RX3 TX3 15, w ∈ wsX3_strideOf := by decide +kernel
  rw [show S = sUp S o T from (by rw [← hT]; exact (sUp_i S o).symm)] at hw
  unfold fX3_strideOf at h
  refine lv_iload_n hx hb dX3_strideOf_0 rfl (lv_at hl 2 rfl) ?_
  refine lv_iconst (v := 4) hx hb dX3_strideOf_1 (by decide) ?_
  refine lv_isub hx hb dX3_strideOf_2 ?_
  refine lv_topi (fun v3 ev3 => ?_)
  replace h := o_nx ev3 h
  refine lv_istore_n (lv' := [(3, .int v3), (0, .ref (sA G o 0)), (1, .int a1), (2, .int a2)]) hx hb dX3_strideOf_3 rfl hl (by decide) rfl (fun ls hl => ?_)
  refine lv_iload_n hx hb dX3_strideOf_4 rfl (lv_at hl 0 rfl) ?_
  refine lv_aload_n hx hb dX3_strideOf_5 rfl (lv_at hl 1 rfl) ?_
  refine gTk (v := .ref (sA G o 3)) hx hb hts hiX3 hown hw ho (sUp_s S o T) 8 (by decide) (hts (.fieldLink RX3 28 "SecondHome$Track" "breaths" "[I") (by decide +kernel)) rfl dX3_strideOf_6 ?_
  refine lv_iload_n hx hb dX3_strideOf_9 rfl (lv_at hl 2 rfl) ?_
  obtain ⟨b10, h⟩ := o_in h
  refine ldTk hx hb hw ho (sUp_s S o T) 2 (by decide) b10 dX3_strideOf_10 ?_
  refine lv_icmp_le (tgt := 23) hx hb dX3_strideOf_11 (by decide) (fun c11 => ?_) (fun c11 => ?_)
  · replace h := o_t c11 h
    refine lv_iload_n hx hb dX3_strideOf_23 rfl (lv_at hl 0 rfl) ?_
    refine lv_if_le (tgt := 40) hx hb dX3_strideOf_24 (by decide) (fun c24 => ?_) (fun c24 => ?_)
    · replace h := o_t c24 h
      refine lv_iload_n hx hb dX3_strideOf_40 rfl (lv_at hl 0 rfl) ?_
      refine lv_if_ge (tgt := 64) hx hb dX3_strideOf_41 (by decide) (fun c41 => ?_) (fun c41 => ?_)
      · replace h := o_t c41 h
        refine lv_iload_n hx hb dX3_strideOf_64 rfl (lv_at hl 3 rfl) ?_
        exact rI hQ hx hb hr hlk hw dX3_strideOf_65 (o_2a h) (congrArg (sUp S o) (o_2b h)) rfl
      · replace h := o_f c41 h
        refine lv_aload_n hx hb dX3_strideOf_44 rfl (lv_at hl 1 rfl) ?_
        refine gTk (v := .ref (sA G o 3)) hx hb hts hiX3 hown hw ho (sUp_s S o T) 8 (by decide) (hts (.fieldLink RX3 28 "SecondHome$Track" "breaths" "[I") (by decide +kernel)) rfl dX3_strideOf_45 ?_
        refine lv_iload_n hx hb dX3_strideOf_48 rfl (lv_at hl 2 rfl) ?_
        refine lv_aload_n hx hb dX3_strideOf_49 rfl (lv_at hl 1 rfl) ?_
        refine gTk (v := .ref (sA G o 3)) hx hb hts hiX3 hown hw ho (sUp_s S o T) 8 (by decide) (hts (.fieldLink RX3 28 "SecondHome$Track" "breaths" "[I") (by decide +kernel)) rfl dX3_strideOf_50 ?_
        refine lv_iload_n hx hb dX3_strideOf_53 rfl (lv_at hl 2 rfl) ?_
        refine ldTk hx hb hw ho (sUp_s S o T) 2 (by decide) b10 dX3_strideOf_54 ?_
        refine lv_iconst (v := 1) hx hb dX3_strideOf_55 (by decide) ?_
        refine lv_iadd hx hb dX3_strideOf_56 ?_
        refine lv_sipush (v := 999) hx hb dX3_strideOf_57 (by decide) ?_
        refine va_mmin hx hb (hml.trans hl.1.symm) hown (hts (.methodLink RX3 76 Lib.Math.min.name) (by decide +kernel)) (hts (.static Lib.Math.min.name) (by decide +kernel)) (hts (.initialized "java/lang/Math") (by decide +kernel)) (hts (.code Lib.Math.min.name Lib.Math.min.code 2 (some .int)) (by decide +kernel)) (Nat.le_of_ble_eq_true rfl) (Nat.le_of_ble_eq_true rfl) (Nat.zero_le _) (Nat.zero_le _) dX3_strideOf_60 ?_
        refine stTk hx hb hw ho (sUp_s S o T) 2 (by decide) b10 dX3_strideOf_63 (sUp_u S o T _) (fun H locs hw => ?_)
        obtain ⟨T63, eT63, h⟩ := o_nm h
        rw [← eT63] at hw
        refine lv_iload_n hx hb dX3_strideOf_64 rfl (lv_at hl 3 rfl) ?_
        exact rI hQ hx hb hr hlk hw dX3_strideOf_65 (o_2a h) (congrArg (sUp S o) (o_2b h)) rfl
    · replace h := o_f c24 h
      refine lv_aload_n hx hb dX3_strideOf_27 rfl (lv_at hl 1 rfl) ?_
      refine gTk (v := .ref (sA G o 3)) hx hb hts hiX3 hown hw ho (sUp_s S o T) 8 (by decide) (hts (.fieldLink RX3 28 "SecondHome$Track" "breaths" "[I") (by decide +kernel)) rfl dX3_strideOf_28 ?_
      refine lv_iload_n hx hb dX3_strideOf_31 rfl (lv_at hl 2 rfl) ?_
      refine lv_dup2_11 hx hb dX3_strideOf_32 rfl rfl ?_
      refine ldTk hx hb hw ho (sUp_s S o T) 2 (by decide) b10 dX3_strideOf_33 ?_
      refine lv_iload_n hx hb dX3_strideOf_34 rfl (lv_at hl 0 rfl) ?_
      refine lv_isub hx hb dX3_strideOf_35 ?_
      refine stTk hx hb hw ho (sUp_s S o T) 2 (by decide) b10 dX3_strideOf_36 (sUp_u S o T _) (fun H locs hw => ?_)
      obtain ⟨T36, eT36, h⟩ := o_nm h
      rw [← eT36] at hw
      refine lv_goto (tgt := 64) hx hb dX3_strideOf_37 (by decide) ?_
      refine lv_iload_n hx hb dX3_strideOf_64 rfl (lv_at hl 3 rfl) ?_
      exact rI hQ hx hb hr hlk hw dX3_strideOf_65 (o_2a h) (congrArg (sUp S o) (o_2b h)) rfl
  · replace h := o_f c11 h
    refine lv_iconst (v := 4) hx hb dX3_strideOf_14 (by decide) ?_
    refine lv_aload_n hx hb dX3_strideOf_15 rfl (lv_at hl 1 rfl) ?_
    refine gTk (v := .int (T.1 1)) hx hb hts hiX3 hown hw ho (sUp_s S o T) 1 (by decide) (hts (.fieldLink RX3 15 "SecondHome$Track" "least" "I") (by decide +kernel)) rfl dX3_strideOf_16 ?_
    refine va_mmax hx hb (hml.trans hl.1.symm) hown (hts (.methodLink RX3 81 Lib.Math.max.name) (by decide +kernel)) (hts (.static Lib.Math.max.name) (by decide +kernel)) (hts (.initialized "java/lang/Math") (by decide +kernel)) (hts (.code Lib.Math.max.name Lib.Math.max.code 2 (some .int)) (by decide +kernel)) (Nat.le_of_ble_eq_true rfl) (Nat.le_of_ble_eq_true rfl) (Nat.zero_le _) (Nat.zero_le _) dX3_strideOf_19 ?_
    exact rI hQ hx hb hr hlk hw dX3_strideOf_22 (o_2a h) (congrArg (sUp S o) (o_2b h)) rfl
-- X3_goSecond
def bX3_goSecond_70 (rc70 : Int32 → sOb → Option sOb) (x2_70 : Int32) (T_70 : sOb) : Option sOb :=
  if (T_70.1 4) ≤ x2_70 then (some T_70) else (if x2_70 < 0 ∨ 9 ≤ x2_70.toNatClampNeg then none else nm (sSa T_70 5 x2_70.toNatClampNeg ((T_70.2.1 5 x2_70.toNatClampNeg) + (T_70.2.1 8 x2_70.toNatClampNeg))) fun T92 => if 0 ≤ (T92.2.1 7 x2_70.toNatClampNeg) then (nm (x2_70 + (1 : Int32)) fun v135 => rc70 v135 T92) else (if (T92.2.1 5 x2_70.toNatClampNeg) < (T92.1 0) then (nm (x2_70 + (1 : Int32)) fun v135 => rc70 v135 T92) else (nm (sSa T92 7 x2_70.toNatClampNeg (T92.1 3)) fun T124 => nm (sSs T124 5 ((T124.1 5) + (1 : Int32))) fun T132 => nm (x2_70 + (1 : Int32)) fun v135 => rc70 v135 T132)))
def bX3_goSecond_7 (q1 : Int32) (k58 : sOb → Option sOb) (rc7 : Int32 → sOb → Option sOb) (x2_7 : Int32) (T_7 : sOb) : Option sOb :=
  if (T_7.1 4) ≤ x2_7 then (k58 T_7) else (if x2_7 < 0 ∨ 9 ≤ x2_7.toNatClampNeg then none else if (T_7.2.1 7 x2_7.toNatClampNeg) < 0 then ((fX3_wishOf T_7 x2_7 q1).bind fun q38 => (fX3_strideOf T_7 x2_7 (if q38 < (T_7.1 1) then (T_7.1 1) else q38)).bind fun q48 => nm (sSa q48.2 8 x2_7.toNatClampNeg q48.1) fun T51 => nm (x2_7 + (1 : Int32)) fun v52 => rc7 v52 T51) else (nm (sSa T_7 8 x2_7.toNatClampNeg (0 : Int32)) fun T51 => nm (x2_7 + (1 : Int32)) fun v52 => rc7 v52 T51))
def fX3_goSecond (T : sOb) : Option sOb :=
  (fX3_firstAlone T).bind fun q1 => nm (fun (T_58 : sOb) => nm (sSs T_58 3 ((T_58.1 3) + (1 : Int32))) fun T65 => fx2 bX3_goSecond_70 FU (0 : Int32) T65) fun k58 => fx2 (bX3_goSecond_7 q1 k58) FU (0 : Int32) T
def rmX3_goSecond : Room := { frames := 3, cells := 0, slots := 0, locals := 68 }
theorem qqX3_goSecond : yX3_goSecond.cls = RX3 ∧ yX3_goSecond.cls ≠ "java/lang/invoke/MethodHandle" ∧ yX3_goSecond.cls ≠ "java/lang/invoke/VarHandle" ∧ (parseMethodDescriptor yX3_goSecond.desc).map (fun d => d.parameters.length) = some 0 := by decide +kernel
set_option maxRecDepth 100000 in
set_option maxHeartbeats 4000000 in
theorem kX3_goSecond (l : Launch) (G : sGl) {S : sWo} {M : sOb} {o : Nat} {T : sOb} {q : sOb} (ho : isTk o) (hT : S o = T) (h : fX3_goSecond T = some q) : sCt l G yX3_goSecond wsX3_goSecond rmX3_goSecond [.ref (sA G o 0)] S M none (sUp S o q) M := by
  refine cMk (cc := cX3_goSecond) (maxL := 3) (ret := none) (by decide) rfl (Nat.le_of_ble_eq_true rfl) ?_
  intro p e s m args below meth c Q hQ hx hb hr hlk hml hown hts hw ls hl
  have hown : s.vm.findClass RX3 = some m.cls := hown
  have hl : lv_has ls 3 [(0, .ref (sA G o 0))] := hl
  have hiX3 : ∀ w ∈ u_ws RX3 TX3 15, w ∈ wsX3_goSecond := by decide +kernel
  rw [show S = sUp S o T from (by rw [← hT]; exact (sUp_i S o).symm)] at hw
  unfold fX3_goSecond at h
  refine lv_aload_n hx hb dX3_goSecond_0 rfl (lv_at hl 0 rfl) ?_
  obtain ⟨q1, eq1, h⟩ := o_bd h
  refine kV (As := []) (rest := []) (st' := [.int q1]) ⟨hx, hb, hml, hown, hts⟩ (kX3_firstAlone l G ho (sUp_s S o T) eq1) (cwV 0 hts gX3_goSecond_X3_firstAlone rfl rfl rfl qqX3_firstAlone ⟨Nat.le_of_ble_eq_true rfl, Nat.le_of_ble_eq_true rfl⟩) hw (rvTk hw ho) rfl hl.1 rfl (Nat.le_of_ble_eq_true rfl) dX3_goSecond_1 ⟨Nat.zero_le _, Nat.zero_le _⟩ rfl (fun H locs hw => ?_)
  refine lv_istore_n (lv' := [(1, .int q1), (0, .ref (sA G o 0))]) hx hb dX3_goSecond_4 rfl hl (by decide) rfl (fun ls hl => ?_)
  refine lv_iconst (v := 0) hx hb dX3_goSecond_5 (by decide) ?_
  refine lv_istore_n (lv' := [(2, .int (0 : Int32)), (1, .int q1), (0, .ref (sA G o 0))]) hx hb dX3_goSecond_6 rfl hl (by decide) rfl (fun ls hl => ?_)
  obtain ⟨k58, ek58, h⟩ := o_nm h
  have J58 : ∀ (T_58 : sOb) (H : Heap) (locs : List Loc) (ls : Array Slot), sHw G s (sUp S o T_58) M H locs → lv_has ls 3 [(0, .ref (sA G o 0))] → k58 T_58 = some q → W p l e rmX3_goSecond s m args below meth c H locs 0 0 Q (F0 m 58 ls []) := by
    intro T_58 H locs ls hw hl h
    replace h := o_j1 ek58 h
    refine lv_aload_n hx hb dX3_goSecond_58 rfl (lv_at hl 0 rfl) ?_
    refine lv_dup hx hb dX3_goSecond_59 rfl ?_
    refine gTk (v := .int (T_58.1 3)) hx hb hts hiX3 hown hw ho (sUp_s S o T_58) 3 (by decide) (hts (.fieldLink RX3 49 "SecondHome$Track" "second" "I") (by decide +kernel)) rfl dX3_goSecond_60 ?_
    refine lv_iconst (v := 1) hx hb dX3_goSecond_63 (by decide) ?_
    refine lv_iadd hx hb dX3_goSecond_64 ?_
    refine pTk hx hb hts hiX3 hown hw ho (sUp_s S o T_58) 3 (by decide) (hts (.fieldLink RX3 49 "SecondHome$Track" "second" "I") (by decide +kernel)) dX3_goSecond_65 (sUp_u S o T_58 _) (fun H locs hw => ?_)
    obtain ⟨T65, eT65, h⟩ := o_nm h
    rw [← eT65] at hw
    refine lv_iconst (v := 0) hx hb dX3_goSecond_68 (by decide) ?_
    refine lv_istore_n (lv' := [(2, .int (0 : Int32)), (0, .ref (sA G o 0))]) hx hb dX3_goSecond_69 rfl hl (by decide) rfl (fun ls hl => ?_)
    refine fx2_w (F := bX3_goSecond_70) (P := fun x2_70 T_70 => ∀ (H : Heap) (locs : List Loc) (ls : Array Slot), sHw G s (sUp S o T_70) M H locs → lv_has ls 3 [(0, .ref (sA G o 0)), (2, .int x2_70)] → W p l e rmX3_goSecond s m args below meth c H locs 0 0 Q (F0 m 70 ls [])) ?_ _ _ _ h _ _ _ hw (lv_sub hl [1, 0] rfl)
    intro rc70 IH70 x2_70 T_70 h H locs ls hw hl
    unfold bX3_goSecond_70 at h
    refine lv_iload_n hx hb dX3_goSecond_70 rfl (lv_at hl 1 rfl) ?_
    refine lv_aload_n hx hb dX3_goSecond_71 rfl (lv_at hl 0 rfl) ?_
    refine gTk (v := .int (T_70.1 4)) hx hb hts hiX3 hown hw ho (sUp_s S o T_70) 4 (by decide) (hts (.fieldLink RX3 52 "SecondHome$Track" "count" "I") (by decide +kernel)) rfl dX3_goSecond_72 ?_
    refine lv_icmp_ge (tgt := 141) hx hb dX3_goSecond_75 (by decide) (fun c75 => ?_) (fun c75 => ?_)
    · replace h := o_t c75 h
      exact rV hQ hx hb hr hlk hw dX3_goSecond_141 (congrArg (sUp S o) (o_1 h)) rfl
    · replace h := o_f c75 h
      refine lv_aload_n hx hb dX3_goSecond_78 rfl (lv_at hl 0 rfl) ?_
      refine gTk (v := .ref (sA G o 6)) hx hb hts hiX3 hown hw ho (sUp_s S o T_70) 11 (by decide) (hts (.fieldLink RX3 37 "SecondHome$Track" "yards" "[I") (by decide +kernel)) rfl dX3_goSecond_79 ?_
      refine lv_iload_n hx hb dX3_goSecond_82 rfl (lv_at hl 1 rfl) ?_
      refine lv_dup2_11 hx hb dX3_goSecond_83 rfl rfl ?_
      obtain ⟨b84, h⟩ := o_in h
      refine ldTk hx hb hw ho (sUp_s S o T_70) 5 (by decide) b84 dX3_goSecond_84 ?_
      refine lv_aload_n hx hb dX3_goSecond_85 rfl (lv_at hl 0 rfl) ?_
      refine gTk (v := .ref (sA G o 9)) hx hb hts hiX3 hown hw ho (sUp_s S o T_70) 14 (by decide) (hts (.fieldLink RX3 46 "SecondHome$Track" "strides" "[I") (by decide +kernel)) rfl dX3_goSecond_86 ?_
      refine lv_iload_n hx hb dX3_goSecond_89 rfl (lv_at hl 1 rfl) ?_
      refine ldTk hx hb hw ho (sUp_s S o T_70) 8 (by decide) b84 dX3_goSecond_90 ?_
      refine lv_iadd hx hb dX3_goSecond_91 ?_
      refine stTk hx hb hw ho (sUp_s S o T_70) 5 (by decide) b84 dX3_goSecond_92 (sUp_u S o T_70 _) (fun H locs hw => ?_)
      obtain ⟨T92, eT92, h⟩ := o_nm h
      rw [← eT92] at hw
      refine lv_aload_n hx hb dX3_goSecond_93 rfl (lv_at hl 0 rfl) ?_
      refine gTk (v := .ref (sA G o 8)) hx hb hts hiX3 hown hw ho (sUp_s S o T92) 13 (by decide) (hts (.fieldLink RX3 43 "SecondHome$Track" "homes" "[I") (by decide +kernel)) rfl dX3_goSecond_94 ?_
      refine lv_iload_n hx hb dX3_goSecond_97 rfl (lv_at hl 1 rfl) ?_
      refine ldTk hx hb hw ho (sUp_s S o T92) 7 (by decide) b84 dX3_goSecond_98 ?_
      refine lv_if_ge (tgt := 135) hx hb dX3_goSecond_99 (by decide) (fun c99 => ?_) (fun c99 => ?_)
      · replace h := o_t c99 h
        obtain ⟨v135, ev135, h⟩ := o_nm h
        refine lv_iinc (v := v135) (lv' := [(2, .int v135), (0, .ref (sA G o 0))]) hx hb dX3_goSecond_135 hl (k := 1) rfl (by rw [ev135]; rfl) (by decide) rfl (fun ls hl => ?_)
        refine lv_goto (tgt := 70) hx hb dX3_goSecond_138 (by decide) ?_
        exact IH70 v135 T92 h _ _ _ hw (lv_sub hl [1, 0] rfl)
      · replace h := o_f c99 h
        refine lv_aload_n hx hb dX3_goSecond_102 rfl (lv_at hl 0 rfl) ?_
        refine gTk (v := .ref (sA G o 6)) hx hb hts hiX3 hown hw ho (sUp_s S o T92) 11 (by decide) (hts (.fieldLink RX3 37 "SecondHome$Track" "yards" "[I") (by decide +kernel)) rfl dX3_goSecond_103 ?_
        refine lv_iload_n hx hb dX3_goSecond_106 rfl (lv_at hl 1 rfl) ?_
        refine ldTk hx hb hw ho (sUp_s S o T92) 5 (by decide) b84 dX3_goSecond_107 ?_
        refine lv_aload_n hx hb dX3_goSecond_108 rfl (lv_at hl 0 rfl) ?_
        refine gTk (v := .int (T92.1 0)) hx hb hts hiX3 hown hw ho (sUp_s S o T92) 0 (by decide) (hts (.fieldLink RX3 9 "SecondHome$Track" "length" "I") (by decide +kernel)) rfl dX3_goSecond_109 ?_
        refine lv_icmp_lt (tgt := 135) hx hb dX3_goSecond_112 (by decide) (fun c112 => ?_) (fun c112 => ?_)
        · replace h := o_t c112 h
          obtain ⟨v135, ev135, h⟩ := o_nm h
          refine lv_iinc (v := v135) (lv' := [(2, .int v135), (0, .ref (sA G o 0))]) hx hb dX3_goSecond_135 hl (k := 1) rfl (by rw [ev135]; rfl) (by decide) rfl (fun ls hl => ?_)
          refine lv_goto (tgt := 70) hx hb dX3_goSecond_138 (by decide) ?_
          exact IH70 v135 T92 h _ _ _ hw (lv_sub hl [1, 0] rfl)
        · replace h := o_f c112 h
          refine lv_aload_n hx hb dX3_goSecond_115 rfl (lv_at hl 0 rfl) ?_
          refine gTk (v := .ref (sA G o 8)) hx hb hts hiX3 hown hw ho (sUp_s S o T92) 13 (by decide) (hts (.fieldLink RX3 43 "SecondHome$Track" "homes" "[I") (by decide +kernel)) rfl dX3_goSecond_116 ?_
          refine lv_iload_n hx hb dX3_goSecond_119 rfl (lv_at hl 1 rfl) ?_
          refine lv_aload_n hx hb dX3_goSecond_120 rfl (lv_at hl 0 rfl) ?_
          refine gTk (v := .int (T92.1 3)) hx hb hts hiX3 hown hw ho (sUp_s S o T92) 3 (by decide) (hts (.fieldLink RX3 49 "SecondHome$Track" "second" "I") (by decide +kernel)) rfl dX3_goSecond_121 ?_
          refine stTk hx hb hw ho (sUp_s S o T92) 7 (by decide) b84 dX3_goSecond_124 (sUp_u S o T92 _) (fun H locs hw => ?_)
          obtain ⟨T124, eT124, h⟩ := o_nm h
          rw [← eT124] at hw
          refine lv_aload_n hx hb dX3_goSecond_125 rfl (lv_at hl 0 rfl) ?_
          refine lv_dup hx hb dX3_goSecond_126 rfl ?_
          refine gTk (v := .int (T124.1 5)) hx hb hts hiX3 hown hw ho (sUp_s S o T124) 5 (by decide) (hts (.fieldLink RX3 55 "SecondHome$Track" "homeCount" "I") (by decide +kernel)) rfl dX3_goSecond_127 ?_
          refine lv_iconst (v := 1) hx hb dX3_goSecond_130 (by decide) ?_
          refine lv_iadd hx hb dX3_goSecond_131 ?_
          refine pTk hx hb hts hiX3 hown hw ho (sUp_s S o T124) 5 (by decide) (hts (.fieldLink RX3 55 "SecondHome$Track" "homeCount" "I") (by decide +kernel)) dX3_goSecond_132 (sUp_u S o T124 _) (fun H locs hw => ?_)
          obtain ⟨T132, eT132, h⟩ := o_nm h
          rw [← eT132] at hw
          obtain ⟨v135, ev135, h⟩ := o_nm h
          refine lv_iinc (v := v135) (lv' := [(2, .int v135), (0, .ref (sA G o 0))]) hx hb dX3_goSecond_135 hl (k := 1) rfl (by rw [ev135]; rfl) (by decide) rfl (fun ls hl => ?_)
          refine lv_goto (tgt := 70) hx hb dX3_goSecond_138 (by decide) ?_
          exact IH70 v135 T132 h _ _ _ hw (lv_sub hl [1, 0] rfl)
  refine fx2_w (F := (bX3_goSecond_7 q1 k58)) (P := fun x2_7 T_7 => ∀ (H : Heap) (locs : List Loc) (ls : Array Slot), sHw G s (sUp S o T_7) M H locs → lv_has ls 3 [(0, .ref (sA G o 0)), (1, .int q1), (2, .int x2_7)] → W p l e rmX3_goSecond s m args below meth c H locs 0 0 Q (F0 m 7 ls [])) ?_ _ _ _ h _ _ _ hw (lv_sub hl [2, 1, 0] rfl)
  intro rc7 IH7 x2_7 T_7 h H locs ls hw hl
  unfold bX3_goSecond_7 at h
  refine lv_iload_n hx hb dX3_goSecond_7 rfl (lv_at hl 2 rfl) ?_
  refine lv_aload_n hx hb dX3_goSecond_8 rfl (lv_at hl 0 rfl) ?_
  refine gTk (v := .int (T_7.1 4)) hx hb hts hiX3 hown hw ho (sUp_s S o T_7) 4 (by decide) (hts (.fieldLink RX3 52 "SecondHome$Track" "count" "I") (by decide +kernel)) rfl dX3_goSecond_9 ?_
  refine lv_icmp_ge (tgt := 58) hx hb dX3_goSecond_12 (by decide) (fun c12 => ?_) (fun c12 => ?_)
  · replace h := o_t c12 h
    exact J58 T_7 _ _ _ hw (lv_sub hl [0] rfl) h
  · replace h := o_f c12 h
    refine lv_aload_n hx hb dX3_goSecond_15 rfl (lv_at hl 0 rfl) ?_
    refine gTk (v := .ref (sA G o 9)) hx hb hts hiX3 hown hw ho (sUp_s S o T_7) 14 (by decide) (hts (.fieldLink RX3 46 "SecondHome$Track" "strides" "[I") (by decide +kernel)) rfl dX3_goSecond_16 ?_
    refine lv_iload_n hx hb dX3_goSecond_19 rfl (lv_at hl 2 rfl) ?_
    refine lv_aload_n hx hb dX3_goSecond_20 rfl (lv_at hl 0 rfl) ?_
    refine gTk (v := .ref (sA G o 8)) hx hb hts hiX3 hown hw ho (sUp_s S o T_7) 13 (by decide) (hts (.fieldLink RX3 43 "SecondHome$Track" "homes" "[I") (by decide +kernel)) rfl dX3_goSecond_21 ?_
    refine lv_iload_n hx hb dX3_goSecond_24 rfl (lv_at hl 2 rfl) ?_
    obtain ⟨b25, h⟩ := o_in h
    refine ldTk hx hb hw ho (sUp_s S o T_7) 7 (by decide) b25 dX3_goSecond_25 ?_
    refine lv_if_lt (tgt := 33) hx hb dX3_goSecond_26 (by decide) (fun c26 => ?_) (fun c26 => ?_)
    · replace h := o_t c26 h
      refine lv_aload_n hx hb dX3_goSecond_33 rfl (lv_at hl 0 rfl) ?_
      refine lv_iload_n hx hb dX3_goSecond_34 rfl (lv_at hl 2 rfl) ?_
      refine lv_aload_n hx hb dX3_goSecond_35 rfl (lv_at hl 0 rfl) ?_
      refine lv_iload_n hx hb dX3_goSecond_36 rfl (lv_at hl 2 rfl) ?_
      refine lv_iload_n hx hb dX3_goSecond_37 rfl (lv_at hl 1 rfl) ?_
      obtain ⟨q38, eq38, h⟩ := o_bd h
      refine kV (As := [.int x2_7, .int q1]) (rest := [.int x2_7, .ref (sA G o 0), .int x2_7, .ref (sA G o 9)]) (st' := [.int q38, .int x2_7, .ref (sA G o 0), .int x2_7, .ref (sA G o 9)]) ⟨hx, hb, hml, hown, hts⟩ (kX3_wishOf l G ho (sUp_s S o T_7) eq38) (cwV 2 hts gX3_goSecond_X3_wishOf rfl rfl rfl qqX3_wishOf ⟨Nat.le_of_ble_eq_true rfl, Nat.le_of_ble_eq_true rfl⟩) hw (rvTk hw ho) rfl hl.1 rfl (Nat.le_of_ble_eq_true rfl) dX3_goSecond_38 ⟨Nat.zero_le _, Nat.zero_le _⟩ rfl (fun H locs hw => ?_)
      refine lv_aload_n hx hb dX3_goSecond_41 rfl (lv_at hl 0 rfl) ?_
      refine gTk (v := .int (T_7.1 1)) hx hb hts hiX3 hown hw ho (sUp_s S o T_7) 1 (by decide) (hts (.fieldLink RX3 15 "SecondHome$Track" "least" "I") (by decide +kernel)) rfl dX3_goSecond_42 ?_
      refine va_mmax hx hb (hml.trans hl.1.symm) hown (hts (.methodLink RX3 81 Lib.Math.max.name) (by decide +kernel)) (hts (.static Lib.Math.max.name) (by decide +kernel)) (hts (.initialized "java/lang/Math") (by decide +kernel)) (hts (.code Lib.Math.max.name Lib.Math.max.code 2 (some .int)) (by decide +kernel)) (Nat.le_of_ble_eq_true rfl) (Nat.le_of_ble_eq_true rfl) (Nat.zero_le _) (Nat.zero_le _) dX3_goSecond_45 ?_
      obtain ⟨q48, eq48, h⟩ := o_bd h
      refine kV (As := [.int x2_7, .int (if q38 < (T_7.1 1) then (T_7.1 1) else q38)]) (rest := [.int x2_7, .ref (sA G o 9)]) (st' := [.int q48.1, .int x2_7, .ref (sA G o 9)]) ⟨hx, hb, hml, hown, hts⟩ (kX3_strideOf l G ho (sUp_s S o T_7) eq48) (cwV 2 hts gX3_goSecond_X3_strideOf rfl rfl rfl qqX3_strideOf ⟨Nat.le_of_ble_eq_true rfl, Nat.le_of_ble_eq_true rfl⟩) hw (rvTk hw ho) rfl hl.1 rfl (Nat.le_of_ble_eq_true rfl) dX3_goSecond_48 ⟨Nat.zero_le _, Nat.zero_le _⟩ rfl (fun H locs hw => ?_)
      rw [sUp_u] at hw
      refine stTk hx hb hw ho (sUp_s S o q48.2) 8 (by decide) b25 dX3_goSecond_51 (sUp_u S o q48.2 _) (fun H locs hw => ?_)
      obtain ⟨T51, eT51, h⟩ := o_nm h
      rw [← eT51] at hw
      obtain ⟨v52, ev52, h⟩ := o_nm h
      refine lv_iinc (v := v52) (lv' := [(2, .int v52), (0, .ref (sA G o 0)), (1, .int q1)]) hx hb dX3_goSecond_52 hl (k := 2) rfl (by rw [ev52]; rfl) (by decide) rfl (fun ls hl => ?_)
      refine lv_goto (tgt := 7) hx hb dX3_goSecond_55 (by decide) ?_
      exact IH7 v52 T51 h _ _ _ hw (lv_sub hl [1, 2, 0] rfl)
    · replace h := o_f c26 h
      refine lv_iconst (v := 0) hx hb dX3_goSecond_29 (by decide) ?_
      refine lv_goto (tgt := 51) hx hb dX3_goSecond_30 (by decide) ?_
      refine stTk hx hb hw ho (sUp_s S o T_7) 8 (by decide) b25 dX3_goSecond_51 (sUp_u S o T_7 _) (fun H locs hw => ?_)
      obtain ⟨T51, eT51, h⟩ := o_nm h
      rw [← eT51] at hw
      obtain ⟨v52, ev52, h⟩ := o_nm h
      refine lv_iinc (v := v52) (lv' := [(2, .int v52), (0, .ref (sA G o 0)), (1, .int q1)]) hx hb dX3_goSecond_52 hl (k := 2) rfl (by rw [ev52]; rfl) (by decide) rfl (fun ls hl => ?_)
      refine lv_goto (tgt := 7) hx hb dX3_goSecond_55 (by decide) ?_
      exact IH7 v52 T51 h _ _ _ hw (lv_sub hl [1, 2, 0] rfl)
-- X3_goOn
def bX3_goOn_2 (a1 : Int32) (rc2 : Int32 → sOb → Option sOb) (x2_2 : Int32) (T_2 : sOb) : Option sOb :=
  if a1 ≤ x2_2 then (some T_2) else ((fX3_allHome T_2).bind fun q8 => if q8 = 0 then ((fX3_goSecond T_2).bind fun q15 => nm (x2_2 + (1 : Int32)) fun v18 => rc2 v18 q15) else (some T_2))
def fX3_goOn (T : sOb) (a1 : Int32) : Option sOb :=
  fx2 (bX3_goOn_2 a1) FU (0 : Int32) T
def rmX3_goOn : Room := { frames := 4, cells := 0, slots := 0, locals := 90 }
theorem qqX3_goOn : yX3_goOn.cls = RX3 ∧ yX3_goOn.cls ≠ "java/lang/invoke/MethodHandle" ∧ yX3_goOn.cls ≠ "java/lang/invoke/VarHandle" ∧ (parseMethodDescriptor yX3_goOn.desc).map (fun d => d.parameters.length) = some 1 := by decide +kernel
set_option maxRecDepth 100000 in
set_option maxHeartbeats 4000000 in
theorem kX3_goOn (l : Launch) (G : sGl) {S : sWo} {M : sOb} {o : Nat} {T : sOb} {a1 : Int32} {q : sOb} (ho : isTk o) (hT : S o = T) (h : fX3_goOn T a1 = some q) : sCt l G yX3_goOn wsX3_goOn rmX3_goOn [.ref (sA G o 0), .int a1] S M none (sUp S o q) M := by
  refine cMk (cc := cX3_goOn) (maxL := 3) (ret := none) (by decide) rfl (Nat.le_of_ble_eq_true rfl) ?_
  intro p e s m args below meth c Q hQ hx hb hr hlk hml hown hts hw ls hl
  have hown : s.vm.findClass RX3 = some m.cls := hown
  have hl : lv_has ls 3 [(0, .ref (sA G o 0)), (1, .int a1)] := hl
  rw [show S = sUp S o T from (by rw [← hT]; exact (sUp_i S o).symm)] at hw
  unfold fX3_goOn at h
  refine lv_iconst (v := 0) hx hb dX3_goOn_0 (by decide) ?_
  refine lv_istore_n (lv' := [(2, .int (0 : Int32)), (0, .ref (sA G o 0)), (1, .int a1)]) hx hb dX3_goOn_1 rfl hl (by decide) rfl (fun ls hl => ?_)
  refine fx2_w (F := (bX3_goOn_2 a1)) (P := fun x2_2 T_2 => ∀ (H : Heap) (locs : List Loc) (ls : Array Slot), sHw G s (sUp S o T_2) M H locs → lv_has ls 3 [(0, .ref (sA G o 0)), (1, .int a1), (2, .int x2_2)] → W p l e rmX3_goOn s m args below meth c H locs 0 0 Q (F0 m 2 ls [])) ?_ _ _ _ h _ _ _ hw (lv_sub hl [1, 2, 0] rfl)
  intro rc2 IH2 x2_2 T_2 h H locs ls hw hl
  unfold bX3_goOn_2 at h
  refine lv_iload_n hx hb dX3_goOn_2 rfl (lv_at hl 2 rfl) ?_
  refine lv_iload_n hx hb dX3_goOn_3 rfl (lv_at hl 1 rfl) ?_
  refine lv_icmp_ge (tgt := 24) hx hb dX3_goOn_4 (by decide) (fun c4 => ?_) (fun c4 => ?_)
  · replace h := o_t c4 h
    exact rV hQ hx hb hr hlk hw dX3_goOn_24 (congrArg (sUp S o) (o_1 h)) rfl
  · replace h := o_f c4 h
    refine lv_aload_n hx hb dX3_goOn_7 rfl (lv_at hl 0 rfl) ?_
    obtain ⟨q8, eq8, h⟩ := o_bd h
    refine kV (As := []) (rest := []) (st' := [.int q8]) ⟨hx, hb, hml, hown, hts⟩ (kX3_allHome l G ho (sUp_s S o T_2) eq8) (cwV 0 hts gX3_goOn_X3_allHome rfl rfl rfl qqX3_allHome ⟨Nat.le_of_ble_eq_true rfl, Nat.le_of_ble_eq_true rfl⟩) hw (rvTk hw ho) rfl hl.1 rfl (Nat.le_of_ble_eq_true rfl) dX3_goOn_8 ⟨Nat.zero_le _, Nat.zero_le _⟩ rfl (fun H locs hw => ?_)
    refine lv_if_ne (tgt := 24) hx hb dX3_goOn_11 (by decide) (fun c11 => ?_) (fun c11 => ?_)
    · replace h := o_f c11 h
      exact rV hQ hx hb hr hlk hw dX3_goOn_24 (congrArg (sUp S o) (o_1 h)) rfl
    · replace h := o_t c11 h
      refine lv_aload_n hx hb dX3_goOn_14 rfl (lv_at hl 0 rfl) ?_
      obtain ⟨q15, eq15, h⟩ := o_bd h
      refine kV (As := []) (rest := []) (st' := []) ⟨hx, hb, hml, hown, hts⟩ (kX3_goSecond l G ho (sUp_s S o T_2) eq15) (cwV 0 hts gX3_goOn_X3_goSecond rfl rfl rfl qqX3_goSecond ⟨Nat.le_of_ble_eq_true rfl, Nat.le_of_ble_eq_true rfl⟩) hw (rvTk hw ho) rfl hl.1 rfl (Nat.le_of_ble_eq_true rfl) dX3_goOn_15 ⟨Nat.zero_le _, Nat.zero_le _⟩ rfl (fun H locs hw => ?_)
      rw [sUp_u] at hw
      obtain ⟨v18, ev18, h⟩ := o_nm h
      refine lv_iinc (v := v18) (lv' := [(2, .int v18), (0, .ref (sA G o 0)), (1, .int a1)]) hx hb dX3_goOn_18 hl (k := 2) rfl (by rw [ev18]; rfl) (by decide) rfl (fun ls hl => ?_)
      refine lv_goto (tgt := 2) hx hb dX3_goOn_21 (by decide) ?_
      exact IH2 v18 q15 h _ _ _ hw (lv_sub hl [1, 2, 0] rfl)
-- X3_isAhead
def fX3_isAhead (T : sOb) (a1 : Int32) (a2 : Int32) : Option Int32 :=
  if a1 < 0 ∨ 9 ≤ a1.toNatClampNeg then none else nm (fun (y0_14 : Int32) => if a2 < 0 ∨ 9 ≤ a2.toNatClampNeg then none else nm (fun (y0_30 : Int32) => if y0_14 = y0_30 then (if (T.2.1 7 a1.toNatClampNeg) = (T.2.1 7 a2.toNatClampNeg) then (if (T.2.1 5 a1.toNatClampNeg) = (T.2.1 5 a2.toNatClampNeg) then (if a2 ≤ a1 then (some (0 : Int32)) else (some (1 : Int32))) else (if (T.2.1 5 a1.toNatClampNeg) ≤ (T.2.1 5 a2.toNatClampNeg) then (some (0 : Int32)) else (some (1 : Int32)))) else (if (T.2.1 7 a2.toNatClampNeg) ≤ (T.2.1 7 a1.toNatClampNeg) then (some (0 : Int32)) else (some (1 : Int32)))) else (if ¬ (y0_14 = 0 ∨ y0_14 = 1) then none else some y0_14)) fun k30 => if (T.2.1 7 a2.toNatClampNeg) < 0 then (k30 (0 : Int32)) else (k30 (1 : Int32))) fun k14 => if (T.2.1 7 a1.toNatClampNeg) < 0 then (k14 (0 : Int32)) else (k14 (1 : Int32))
def rmX3_isAhead : Room := { frames := 0, cells := 0, slots := 0, locals := 0 }
theorem qqX3_isAhead : yX3_isAhead.cls = RX3 ∧ yX3_isAhead.cls ≠ "java/lang/invoke/MethodHandle" ∧ yX3_isAhead.cls ≠ "java/lang/invoke/VarHandle" ∧ (parseMethodDescriptor yX3_isAhead.desc).map (fun d => d.parameters.length) = some 2 := by decide +kernel
set_option maxRecDepth 100000 in
set_option maxHeartbeats 4000000 in
theorem kX3_isAhead (l : Launch) (G : sGl) {S : sWo} {M : sOb} {o : Nat} {T : sOb} {a1 : Int32} {a2 : Int32} {q : Int32} (ho : isTk o) (hT : S o = T) (h : fX3_isAhead T a1 a2 = some q) : sCt l G yX3_isAhead wsX3_isAhead rmX3_isAhead [.ref (sA G o 0), .int a1, .int a2] S M (some (.int q)) S M := by
  refine cMk (cc := cX3_isAhead) (maxL := 4) (ret := (some .boolean)) (by decide) rfl (Nat.le_of_ble_eq_true rfl) ?_
  intro p e s m args below meth c Q hQ hx hb hr hlk hml hown hts hw ls hl
  have hown : s.vm.findClass RX3 = some m.cls := hown
  have hl : lv_has ls 4 [(0, .ref (sA G o 0)), (1, .int a1), (2, .int a2)] := hl
  have hiX3 : ∀ w ∈ u_ws RX3 TX3 15, w ∈ wsX3_isAhead := by decide +kernel
  unfold fX3_isAhead at h
  refine lv_aload_n hx hb dX3_isAhead_0 rfl (lv_at hl 0 rfl) ?_
  refine gTk (v := .ref (sA G o 8)) hx hb hts hiX3 hown hw ho hT 13 (by decide) (hts (.fieldLink RX3 43 "SecondHome$Track" "homes" "[I") (by decide +kernel)) rfl dX3_isAhead_1 ?_
  refine lv_iload_n hx hb dX3_isAhead_4 rfl (lv_at hl 1 rfl) ?_
  obtain ⟨b5, h⟩ := o_in h
  refine ldTk hx hb hw ho hT 7 (by decide) b5 dX3_isAhead_5 ?_
  obtain ⟨k14, ek14, h⟩ := o_nm h
  have J14 : ∀ (y0_14 : Int32) (H : Heap) (locs : List Loc) (ls : Array Slot), sHw G s S M H locs → lv_has ls 4 [(0, .ref (sA G o 0)), (1, .int a1), (2, .int a2)] → k14 y0_14 = some q → W p l e rmX3_isAhead s m args below meth c H locs 0 0 Q (F0 m 14 ls [.int y0_14]) := by
    intro y0_14 H locs ls hw hl h
    replace h := o_j1 ek14 h
    refine lv_istore_n (lv' := [(3, .int y0_14), (0, .ref (sA G o 0)), (1, .int a1), (2, .int a2)]) hx hb dX3_isAhead_14 rfl hl (by decide) rfl (fun ls hl => ?_)
    refine lv_iload_n hx hb dX3_isAhead_15 rfl (lv_at hl 0 rfl) ?_
    refine lv_aload_n hx hb dX3_isAhead_16 rfl (lv_at hl 1 rfl) ?_
    refine gTk (v := .ref (sA G o 8)) hx hb hts hiX3 hown hw ho hT 13 (by decide) (hts (.fieldLink RX3 43 "SecondHome$Track" "homes" "[I") (by decide +kernel)) rfl dX3_isAhead_17 ?_
    refine lv_iload_n hx hb dX3_isAhead_20 rfl (lv_at hl 3 rfl) ?_
    obtain ⟨b21, h⟩ := o_in h
    refine ldTk hx hb hw ho hT 7 (by decide) b21 dX3_isAhead_21 ?_
    obtain ⟨k30, ek30, h⟩ := o_nm h
    have J30 : ∀ (y0_30 : Int32) (H : Heap) (locs : List Loc) (ls : Array Slot), sHw G s S M H locs → lv_has ls 4 [(0, .ref (sA G o 0)), (1, .int a1), (2, .int a2), (3, .int y0_14)] → k30 y0_30 = some q → W p l e rmX3_isAhead s m args below meth c H locs 0 0 Q (F0 m 30 ls [.int y0_30, .int y0_14]) := by
      intro y0_30 H locs ls hw hl h
      replace h := o_j1 ek30 h
      refine lv_icmp_eq (tgt := 35) hx hb dX3_isAhead_30 (by decide) (fun c30 => ?_) (fun c30 => ?_)
      · replace h := o_t c30 h
        refine lv_aload_n hx hb dX3_isAhead_35 rfl (lv_at hl 0 rfl) ?_
        refine gTk (v := .ref (sA G o 8)) hx hb hts hiX3 hown hw ho hT 13 (by decide) (hts (.fieldLink RX3 43 "SecondHome$Track" "homes" "[I") (by decide +kernel)) rfl dX3_isAhead_36 ?_
        refine lv_iload_n hx hb dX3_isAhead_39 rfl (lv_at hl 1 rfl) ?_
        refine ldTk hx hb hw ho hT 7 (by decide) b5 dX3_isAhead_40 ?_
        refine lv_aload_n hx hb dX3_isAhead_41 rfl (lv_at hl 0 rfl) ?_
        refine gTk (v := .ref (sA G o 8)) hx hb hts hiX3 hown hw ho hT 13 (by decide) (hts (.fieldLink RX3 43 "SecondHome$Track" "homes" "[I") (by decide +kernel)) rfl dX3_isAhead_42 ?_
        refine lv_iload_n hx hb dX3_isAhead_45 rfl (lv_at hl 2 rfl) ?_
        refine ldTk hx hb hw ho hT 7 (by decide) b21 dX3_isAhead_46 ?_
        refine lv_icmp_eq (tgt := 71) hx hb dX3_isAhead_47 (by decide) (fun c47 => ?_) (fun c47 => ?_)
        · replace h := o_t c47 h
          refine lv_aload_n hx hb dX3_isAhead_71 rfl (lv_at hl 0 rfl) ?_
          refine gTk (v := .ref (sA G o 6)) hx hb hts hiX3 hown hw ho hT 11 (by decide) (hts (.fieldLink RX3 37 "SecondHome$Track" "yards" "[I") (by decide +kernel)) rfl dX3_isAhead_72 ?_
          refine lv_iload_n hx hb dX3_isAhead_75 rfl (lv_at hl 1 rfl) ?_
          refine ldTk hx hb hw ho hT 5 (by decide) b5 dX3_isAhead_76 ?_
          refine lv_aload_n hx hb dX3_isAhead_77 rfl (lv_at hl 0 rfl) ?_
          refine gTk (v := .ref (sA G o 6)) hx hb hts hiX3 hown hw ho hT 11 (by decide) (hts (.fieldLink RX3 37 "SecondHome$Track" "yards" "[I") (by decide +kernel)) rfl dX3_isAhead_78 ?_
          refine lv_iload_n hx hb dX3_isAhead_81 rfl (lv_at hl 2 rfl) ?_
          refine ldTk hx hb hw ho hT 5 (by decide) b21 dX3_isAhead_82 ?_
          refine lv_icmp_eq (tgt := 107) hx hb dX3_isAhead_83 (by decide) (fun c83 => ?_) (fun c83 => ?_)
          · replace h := o_t c83 h
            refine lv_iload_n hx hb dX3_isAhead_107 rfl (lv_at hl 1 rfl) ?_
            refine lv_iload_n hx hb dX3_isAhead_108 rfl (lv_at hl 2 rfl) ?_
            refine lv_icmp_ge (tgt := 116) hx hb dX3_isAhead_109 (by decide) (fun c109 => ?_) (fun c109 => ?_)
            · replace h := o_t c109 h
              refine lv_iconst (v := 0) hx hb dX3_isAhead_116 (by decide) ?_
              exact rZ hQ hx hb hr hlk hw (Or.inl rfl) dX3_isAhead_117 (o_1 h) rfl rfl
            · replace h := o_f c109 h
              refine lv_iconst (v := 1) hx hb dX3_isAhead_112 (by decide) ?_
              refine lv_goto (tgt := 117) hx hb dX3_isAhead_113 (by decide) ?_
              exact rZ hQ hx hb hr hlk hw (Or.inr rfl) dX3_isAhead_117 (o_1 h) rfl rfl
          · replace h := o_f c83 h
            refine lv_aload_n hx hb dX3_isAhead_86 rfl (lv_at hl 0 rfl) ?_
            refine gTk (v := .ref (sA G o 6)) hx hb hts hiX3 hown hw ho hT 11 (by decide) (hts (.fieldLink RX3 37 "SecondHome$Track" "yards" "[I") (by decide +kernel)) rfl dX3_isAhead_87 ?_
            refine lv_iload_n hx hb dX3_isAhead_90 rfl (lv_at hl 1 rfl) ?_
            refine ldTk hx hb hw ho hT 5 (by decide) b5 dX3_isAhead_91 ?_
            refine lv_aload_n hx hb dX3_isAhead_92 rfl (lv_at hl 0 rfl) ?_
            refine gTk (v := .ref (sA G o 6)) hx hb hts hiX3 hown hw ho hT 11 (by decide) (hts (.fieldLink RX3 37 "SecondHome$Track" "yards" "[I") (by decide +kernel)) rfl dX3_isAhead_93 ?_
            refine lv_iload_n hx hb dX3_isAhead_96 rfl (lv_at hl 2 rfl) ?_
            refine ldTk hx hb hw ho hT 5 (by decide) b21 dX3_isAhead_97 ?_
            refine lv_icmp_le (tgt := 105) hx hb dX3_isAhead_98 (by decide) (fun c98 => ?_) (fun c98 => ?_)
            · replace h := o_t c98 h
              refine lv_iconst (v := 0) hx hb dX3_isAhead_105 (by decide) ?_
              exact rZ hQ hx hb hr hlk hw (Or.inl rfl) dX3_isAhead_106 (o_1 h) rfl rfl
            · replace h := o_f c98 h
              refine lv_iconst (v := 1) hx hb dX3_isAhead_101 (by decide) ?_
              refine lv_goto (tgt := 106) hx hb dX3_isAhead_102 (by decide) ?_
              exact rZ hQ hx hb hr hlk hw (Or.inr rfl) dX3_isAhead_106 (o_1 h) rfl rfl
        · replace h := o_f c47 h
          refine lv_aload_n hx hb dX3_isAhead_50 rfl (lv_at hl 0 rfl) ?_
          refine gTk (v := .ref (sA G o 8)) hx hb hts hiX3 hown hw ho hT 13 (by decide) (hts (.fieldLink RX3 43 "SecondHome$Track" "homes" "[I") (by decide +kernel)) rfl dX3_isAhead_51 ?_
          refine lv_iload_n hx hb dX3_isAhead_54 rfl (lv_at hl 1 rfl) ?_
          refine ldTk hx hb hw ho hT 7 (by decide) b5 dX3_isAhead_55 ?_
          refine lv_aload_n hx hb dX3_isAhead_56 rfl (lv_at hl 0 rfl) ?_
          refine gTk (v := .ref (sA G o 8)) hx hb hts hiX3 hown hw ho hT 13 (by decide) (hts (.fieldLink RX3 43 "SecondHome$Track" "homes" "[I") (by decide +kernel)) rfl dX3_isAhead_57 ?_
          refine lv_iload_n hx hb dX3_isAhead_60 rfl (lv_at hl 2 rfl) ?_
          refine ldTk hx hb hw ho hT 7 (by decide) b21 dX3_isAhead_61 ?_
          refine lv_icmp_ge (tgt := 69) hx hb dX3_isAhead_62 (by decide) (fun c62 => ?_) (fun c62 => ?_)
          · replace h := o_t c62 h
            refine lv_iconst (v := 0) hx hb dX3_isAhead_69 (by decide) ?_
            exact rZ hQ hx hb hr hlk hw (Or.inl rfl) dX3_isAhead_70 (o_1 h) rfl rfl
          · replace h := o_f c62 h
            refine lv_iconst (v := 1) hx hb dX3_isAhead_65 (by decide) ?_
            refine lv_goto (tgt := 70) hx hb dX3_isAhead_66 (by decide) ?_
            exact rZ hQ hx hb hr hlk hw (Or.inr rfl) dX3_isAhead_70 (o_1 h) rfl rfl
      · replace h := o_f c30 h
        refine lv_iload_n hx hb dX3_isAhead_33 rfl (lv_at hl 3 rfl) ?_
        obtain ⟨b34, h⟩ := o_in h
        exact rZ hQ hx hb hr hlk hw (Decidable.not_not.mp b34) dX3_isAhead_34 (o_1 h) rfl rfl
    refine lv_if_lt (tgt := 29) hx hb dX3_isAhead_22 (by decide) (fun c22 => ?_) (fun c22 => ?_)
    · replace h := o_t c22 h
      refine lv_iconst (v := 0) hx hb dX3_isAhead_29 (by decide) ?_
      exact J30 (0 : Int32) _ _ _ hw (lv_sub hl [1, 2, 3, 0] rfl) h
    · replace h := o_f c22 h
      refine lv_iconst (v := 1) hx hb dX3_isAhead_25 (by decide) ?_
      refine lv_goto (tgt := 30) hx hb dX3_isAhead_26 (by decide) ?_
      exact J30 (1 : Int32) _ _ _ hw (lv_sub hl [1, 2, 3, 0] rfl) h
  refine lv_if_lt (tgt := 13) hx hb dX3_isAhead_6 (by decide) (fun c6 => ?_) (fun c6 => ?_)
  · replace h := o_t c6 h
    refine lv_iconst (v := 0) hx hb dX3_isAhead_13 (by decide) ?_
    exact J14 (0 : Int32) _ _ _ hw (lv_sub hl [0, 1, 2] rfl) h
  · replace h := o_f c6 h
    refine lv_iconst (v := 1) hx hb dX3_isAhead_9 (by decide) ?_
    refine lv_goto (tgt := 14) hx hb dX3_isAhead_10 (by decide) ?_
    exact J14 (1 : Int32) _ _ _ hw (lv_sub hl [0, 1, 2] rfl) h
-- X3_placeOf
def bX3_placeOf_12 (T : sOb) (a1 : Int32) (rc12 : Int32 → Int32 → Option Int32) (x2_12 : Int32) (x3_12 : Int32) : Option Int32 :=
  if (T.1 4) ≤ x3_12 then (some x2_12) else (if x3_12 = a1 then (nm (x3_12 + (1 : Int32)) fun v37 => rc12 x2_12 v37) else ((fX3_isAhead T x3_12 a1).bind fun q28 => if q28 = 0 then (nm (x3_12 + (1 : Int32)) fun v37 => rc12 x2_12 v37) else (nm (x2_12 + (1 : Int32)) fun v34 => nm (x3_12 + (1 : Int32)) fun v37 => rc12 v34 v37)))
def fX3_placeOf (T : sOb) (a1 : Int32) : Option Int32 :=
  (fX3_has T a1).bind fun q4 => if q4 = 0 then (some (0 : Int32)) else (fx2 (bX3_placeOf_12 T a1) FU (0 : Int32) (0 : Int32))
def rmX3_placeOf : Room := { frames := 1, cells := 0, slots := 0, locals := 23 }
theorem qqX3_placeOf : yX3_placeOf.cls = RX3 ∧ yX3_placeOf.cls ≠ "java/lang/invoke/MethodHandle" ∧ yX3_placeOf.cls ≠ "java/lang/invoke/VarHandle" ∧ (parseMethodDescriptor yX3_placeOf.desc).map (fun d => d.parameters.length) = some 1 := by decide +kernel
set_option maxRecDepth 100000 in
set_option maxHeartbeats 4000000 in
theorem kX3_placeOf (l : Launch) (G : sGl) {S : sWo} {M : sOb} {o : Nat} {T : sOb} {a1 : Int32} {q : Int32} (ho : isTk o) (hT : S o = T) (h : fX3_placeOf T a1 = some q) : sCt l G yX3_placeOf wsX3_placeOf rmX3_placeOf [.ref (sA G o 0), .int a1] S M (some (.int q)) S M := by
  refine cMk (cc := cX3_placeOf) (maxL := 4) (ret := (some .int)) (by decide) rfl (Nat.le_of_ble_eq_true rfl) ?_
  intro p e s m args below meth c Q hQ hx hb hr hlk hml hown hts hw ls hl
  have hown : s.vm.findClass RX3 = some m.cls := hown
  have hl : lv_has ls 4 [(0, .ref (sA G o 0)), (1, .int a1)] := hl
  have hiX3 : ∀ w ∈ u_ws RX3 TX3 15, w ∈ wsX3_placeOf := by decide +kernel
  unfold fX3_placeOf at h
  refine lv_iconst (v := 0) hx hb dX3_placeOf_0 (by decide) ?_
  refine lv_istore_n (lv' := [(2, .int (0 : Int32)), (0, .ref (sA G o 0)), (1, .int a1)]) hx hb dX3_placeOf_1 rfl hl (by decide) rfl (fun ls hl => ?_)
  refine lv_aload_n hx hb dX3_placeOf_2 rfl (lv_at hl 1 rfl) ?_
  refine lv_iload_n hx hb dX3_placeOf_3 rfl (lv_at hl 2 rfl) ?_
  obtain ⟨q4, eq4, h⟩ := o_bd h
  refine kV (As := [.int a1]) (rest := []) (st' := [.int q4]) ⟨hx, hb, hml, hown, hts⟩ (kX3_has l G ho hT eq4) (cwV 1 hts gX3_placeOf_X3_has rfl rfl rfl qqX3_has ⟨Nat.le_of_ble_eq_true rfl, Nat.le_of_ble_eq_true rfl⟩) hw (rvTk hw ho) rfl hl.1 rfl (Nat.le_of_ble_eq_true rfl) dX3_placeOf_4 ⟨Nat.zero_le _, Nat.zero_le _⟩ rfl (fun H locs hw => ?_)
  refine lv_if_eq (tgt := 43) hx hb dX3_placeOf_7 (by decide) (fun c7 => ?_) (fun c7 => ?_)
  · replace h := o_t c7 h
    refine lv_iload_n hx hb dX3_placeOf_43 rfl (lv_at hl 0 rfl) ?_
    exact rI hQ hx hb hr hlk hw dX3_placeOf_44 (o_1 h) rfl rfl
  · replace h := o_f c7 h
    refine lv_iconst (v := 0) hx hb dX3_placeOf_10 (by decide) ?_
    refine lv_istore_n (lv' := [(3, .int (0 : Int32)), (2, .int (0 : Int32)), (0, .ref (sA G o 0)), (1, .int a1)]) hx hb dX3_placeOf_11 rfl hl (by decide) rfl (fun ls hl => ?_)
    refine fx2_w (F := (bX3_placeOf_12 T a1)) (P := fun x2_12 x3_12 => ∀ (H : Heap) (locs : List Loc) (ls : Array Slot), sHw G s S M H locs → lv_has ls 4 [(0, .ref (sA G o 0)), (1, .int a1), (2, .int x2_12), (3, .int x3_12)] → W p l e rmX3_placeOf s m args below meth c H locs 0 0 Q (F0 m 12 ls [])) ?_ _ _ _ h _ _ _ hw (lv_sub hl [2, 3, 1, 0] rfl)
    intro rc12 IH12 x2_12 x3_12 h H locs ls hw hl
    unfold bX3_placeOf_12 at h
    refine lv_iload_n hx hb dX3_placeOf_12 rfl (lv_at hl 3 rfl) ?_
    refine lv_aload_n hx hb dX3_placeOf_13 rfl (lv_at hl 0 rfl) ?_
    refine gTk (v := .int (T.1 4)) hx hb hts hiX3 hown hw ho hT 4 (by decide) (hts (.fieldLink RX3 52 "SecondHome$Track" "count" "I") (by decide +kernel)) rfl dX3_placeOf_14 ?_
    refine lv_icmp_ge (tgt := 43) hx hb dX3_placeOf_17 (by decide) (fun c17 => ?_) (fun c17 => ?_)
    · replace h := o_t c17 h
      refine lv_iload_n hx hb dX3_placeOf_43 rfl (lv_at hl 2 rfl) ?_
      exact rI hQ hx hb hr hlk hw dX3_placeOf_44 (o_1 h) rfl rfl
    · replace h := o_f c17 h
      refine lv_iload_n hx hb dX3_placeOf_20 rfl (lv_at hl 3 rfl) ?_
      refine lv_iload_n hx hb dX3_placeOf_21 rfl (lv_at hl 1 rfl) ?_
      refine lv_icmp_eq (tgt := 37) hx hb dX3_placeOf_22 (by decide) (fun c22 => ?_) (fun c22 => ?_)
      · replace h := o_t c22 h
        obtain ⟨v37, ev37, h⟩ := o_nm h
        refine lv_iinc (v := v37) (lv' := [(3, .int v37), (0, .ref (sA G o 0)), (1, .int a1), (2, .int x2_12)]) hx hb dX3_placeOf_37 hl (k := 3) rfl (by rw [ev37]; rfl) (by decide) rfl (fun ls hl => ?_)
        refine lv_goto (tgt := 12) hx hb dX3_placeOf_40 (by decide) ?_
        exact IH12 x2_12 v37 h _ _ _ hw (lv_sub hl [1, 2, 3, 0] rfl)
      · replace h := o_f c22 h
        refine lv_aload_n hx hb dX3_placeOf_25 rfl (lv_at hl 0 rfl) ?_
        refine lv_iload_n hx hb dX3_placeOf_26 rfl (lv_at hl 3 rfl) ?_
        refine lv_iload_n hx hb dX3_placeOf_27 rfl (lv_at hl 1 rfl) ?_
        obtain ⟨q28, eq28, h⟩ := o_bd h
        refine kV (As := [.int x3_12, .int a1]) (rest := []) (st' := [.int q28]) ⟨hx, hb, hml, hown, hts⟩ (kX3_isAhead l G ho hT eq28) (cwV 2 hts gX3_placeOf_X3_isAhead rfl rfl rfl qqX3_isAhead ⟨Nat.le_of_ble_eq_true rfl, Nat.le_of_ble_eq_true rfl⟩) hw (rvTk hw ho) rfl hl.1 rfl (Nat.le_of_ble_eq_true rfl) dX3_placeOf_28 ⟨Nat.zero_le _, Nat.zero_le _⟩ rfl (fun H locs hw => ?_)
        refine lv_if_eq (tgt := 37) hx hb dX3_placeOf_31 (by decide) (fun c31 => ?_) (fun c31 => ?_)
        · replace h := o_t c31 h
          obtain ⟨v37, ev37, h⟩ := o_nm h
          refine lv_iinc (v := v37) (lv' := [(3, .int v37), (0, .ref (sA G o 0)), (1, .int a1), (2, .int x2_12)]) hx hb dX3_placeOf_37 hl (k := 3) rfl (by rw [ev37]; rfl) (by decide) rfl (fun ls hl => ?_)
          refine lv_goto (tgt := 12) hx hb dX3_placeOf_40 (by decide) ?_
          exact IH12 x2_12 v37 h _ _ _ hw (lv_sub hl [1, 2, 3, 0] rfl)
        · replace h := o_f c31 h
          obtain ⟨v34, ev34, h⟩ := o_nm h
          refine lv_iinc (v := v34) (lv' := [(2, .int v34), (0, .ref (sA G o 0)), (1, .int a1), (3, .int x3_12)]) hx hb dX3_placeOf_34 hl (k := 2) rfl (by rw [ev34]; rfl) (by decide) rfl (fun ls hl => ?_)
          obtain ⟨v37, ev37, h⟩ := o_nm h
          refine lv_iinc (v := v37) (lv' := [(3, .int v37), (2, .int v34), (0, .ref (sA G o 0)), (1, .int a1)]) hx hb dX3_placeOf_37 hl (k := 3) rfl (by rw [ev37]; rfl) (by decide) rfl (fun ls hl => ?_)
          refine lv_goto (tgt := 12) hx hb dX3_placeOf_40 (by decide) ?_
          exact IH12 v34 v37 h _ _ _ hw (lv_sub hl [2, 3, 1, 0] rfl)
-- X3_whoseAt
def bX3_whoseAt_2 (T : sOb) (a1 : Int32) (rc2 : Int32 → Option Int32) (x2_2 : Int32) : Option Int32 :=
  if (T.1 4) ≤ x2_2 then (some (-1 : Int32)) else ((fX3_placeOf T x2_2).bind fun q12 => if q12 = a1 then (some x2_2) else (nm (x2_2 + (1 : Int32)) fun v21 => rc2 v21))
def fX3_whoseAt (T : sOb) (a1 : Int32) : Option Int32 :=
  fx1 (bX3_whoseAt_2 T a1) FU (0 : Int32)
def rmX3_whoseAt : Room := { frames := 2, cells := 0, slots := 0, locals := 46 }
theorem qqX3_whoseAt : yX3_whoseAt.cls = RX3 ∧ yX3_whoseAt.cls ≠ "java/lang/invoke/MethodHandle" ∧ yX3_whoseAt.cls ≠ "java/lang/invoke/VarHandle" ∧ (parseMethodDescriptor yX3_whoseAt.desc).map (fun d => d.parameters.length) = some 1 := by decide +kernel
set_option maxRecDepth 100000 in
set_option maxHeartbeats 4000000 in
theorem kX3_whoseAt (l : Launch) (G : sGl) {S : sWo} {M : sOb} {o : Nat} {T : sOb} {a1 : Int32} {q : Int32} (ho : isTk o) (hT : S o = T) (h : fX3_whoseAt T a1 = some q) : sCt l G yX3_whoseAt wsX3_whoseAt rmX3_whoseAt [.ref (sA G o 0), .int a1] S M (some (.int q)) S M := by
  refine cMk (cc := cX3_whoseAt) (maxL := 3) (ret := (some .int)) (by decide) rfl (Nat.le_of_ble_eq_true rfl) ?_
  intro p e s m args below meth c Q hQ hx hb hr hlk hml hown hts hw ls hl
  have hown : s.vm.findClass RX3 = some m.cls := hown
  have hl : lv_has ls 3 [(0, .ref (sA G o 0)), (1, .int a1)] := hl
  have hiX3 : ∀ w ∈ u_ws RX3 TX3 15, w ∈ wsX3_whoseAt := by decide +kernel
  unfold fX3_whoseAt at h
  refine lv_iconst (v := 0) hx hb dX3_whoseAt_0 (by decide) ?_
  refine lv_istore_n (lv' := [(2, .int (0 : Int32)), (0, .ref (sA G o 0)), (1, .int a1)]) hx hb dX3_whoseAt_1 rfl hl (by decide) rfl (fun ls hl => ?_)
  refine fx1_w (F := (bX3_whoseAt_2 T a1)) (P := fun x2_2 => ∀ (H : Heap) (locs : List Loc) (ls : Array Slot), sHw G s S M H locs → lv_has ls 3 [(0, .ref (sA G o 0)), (1, .int a1), (2, .int x2_2)] → W p l e rmX3_whoseAt s m args below meth c H locs 0 0 Q (F0 m 2 ls [])) ?_ _ _ h _ _ _ hw (lv_sub hl [1, 2, 0] rfl)
  intro rc2 IH2 x2_2 h H locs ls hw hl
  unfold bX3_whoseAt_2 at h
  refine lv_iload_n hx hb dX3_whoseAt_2 rfl (lv_at hl 2 rfl) ?_
  refine lv_aload_n hx hb dX3_whoseAt_3 rfl (lv_at hl 0 rfl) ?_
  refine gTk (v := .int (T.1 4)) hx hb hts hiX3 hown hw ho hT 4 (by decide) (hts (.fieldLink RX3 52 "SecondHome$Track" "count" "I") (by decide +kernel)) rfl dX3_whoseAt_4 ?_
  refine lv_icmp_ge (tgt := 27) hx hb dX3_whoseAt_7 (by decide) (fun c7 => ?_) (fun c7 => ?_)
  · replace h := o_t c7 h
    refine lv_iconst (v := -1) hx hb dX3_whoseAt_27 (by decide) ?_
    exact rI hQ hx hb hr hlk hw dX3_whoseAt_28 (o_1 h) rfl rfl
  · replace h := o_f c7 h
    refine lv_aload_n hx hb dX3_whoseAt_10 rfl (lv_at hl 0 rfl) ?_
    refine lv_iload_n hx hb dX3_whoseAt_11 rfl (lv_at hl 2 rfl) ?_
    obtain ⟨q12, eq12, h⟩ := o_bd h
    refine kV (As := [.int x2_2]) (rest := []) (st' := [.int q12]) ⟨hx, hb, hml, hown, hts⟩ (kX3_placeOf l G ho hT eq12) (cwV 1 hts gX3_whoseAt_X3_placeOf rfl rfl rfl qqX3_placeOf ⟨Nat.le_of_ble_eq_true rfl, Nat.le_of_ble_eq_true rfl⟩) hw (rvTk hw ho) rfl hl.1 rfl (Nat.le_of_ble_eq_true rfl) dX3_whoseAt_12 ⟨Nat.zero_le _, Nat.zero_le _⟩ rfl (fun H locs hw => ?_)
    refine lv_iload_n hx hb dX3_whoseAt_15 rfl (lv_at hl 1 rfl) ?_
    refine lv_icmp_ne (tgt := 21) hx hb dX3_whoseAt_16 (by decide) (fun c16 => ?_) (fun c16 => ?_)
    · replace h := o_f c16 h
      obtain ⟨v21, ev21, h⟩ := o_nm h
      refine lv_iinc (v := v21) (lv' := [(2, .int v21), (0, .ref (sA G o 0)), (1, .int a1)]) hx hb dX3_whoseAt_21 hl (k := 2) rfl (by rw [ev21]; rfl) (by decide) rfl (fun ls hl => ?_)
      refine lv_goto (tgt := 2) hx hb dX3_whoseAt_24 (by decide) ?_
      exact IH2 v21 h _ _ _ hw (lv_sub hl [1, 2, 0] rfl)
    · replace h := o_t c16 h
      refine lv_iload_n hx hb dX3_whoseAt_19 rfl (lv_at hl 2 rfl) ?_
      exact rI hQ hx hb hr hlk hw dX3_whoseAt_20 (o_1 h) rfl rfl
-- X3_prizeOwner
def fX3_prizeOwner (T : sOb) (a1 : Int32) : Option Int32 :=
  if a1 = (0 : Int32) then ((fX3_whoseAt T (0 : Int32)).bind fun q30 => some q30) else if a1 = (1 : Int32) then ((fX3_whoseAt T (1 : Int32)).bind fun q36 => some q36) else if a1 = (2 : Int32) then ((fX3_whoseAt T ((T.1 4) - (2 : Int32))).bind fun q47 => some q47) else ((fX3_whoseAt T (((T.1 4) - (1 : Int32)) / (2 : Int32))).bind fun q60 => some q60)
def rmX3_prizeOwner : Room := { frames := 3, cells := 0, slots := 0, locals := 68 }
theorem qqX3_prizeOwner : yX3_prizeOwner.cls = RX3 ∧ yX3_prizeOwner.cls ≠ "java/lang/invoke/MethodHandle" ∧ yX3_prizeOwner.cls ≠ "java/lang/invoke/VarHandle" ∧ (parseMethodDescriptor yX3_prizeOwner.desc).map (fun d => d.parameters.length) = some 1 := by decide +kernel
set_option maxRecDepth 100000 in
set_option maxHeartbeats 4000000 in
theorem kX3_prizeOwner (l : Launch) (G : sGl) {S : sWo} {M : sOb} {o : Nat} {T : sOb} {a1 : Int32} {q : Int32} (ho : isTk o) (hT : S o = T) (h : fX3_prizeOwner T a1 = some q) : sCt l G yX3_prizeOwner wsX3_prizeOwner rmX3_prizeOwner [.ref (sA G o 0), .int a1] S M (some (.int q)) S M := by
  refine cMk (cc := cX3_prizeOwner) (maxL := 2) (ret := (some .int)) (by decide) rfl (Nat.le_of_ble_eq_true rfl) ?_
  intro p e s m args below meth c Q hQ hx hb hr hlk hml hown hts hw ls hl
  have hown : s.vm.findClass RX3 = some m.cls := hown
  have hl : lv_has ls 2 [(0, .ref (sA G o 0)), (1, .int a1)] := hl
  have hiX3 : ∀ w ∈ u_ws RX3 TX3 15, w ∈ wsX3_prizeOwner := by decide +kernel
  unfold fX3_prizeOwner at h
  refine lv_iload_n hx hb dX3_prizeOwner_0 rfl (lv_at hl 1 rfl) ?_
  by_cases c1_0 : a1 = (0 : Int32)
  · replace h := o_t c1_0 h
    refine lv_tableIn (tgt := 28) hx hb dX3_prizeOwner_1 (by rw [c1_0]; decide) (by rw [c1_0]; decide) (by rw [c1_0]; rfl) (by decide) ?_
    refine lv_aload_n hx hb dX3_prizeOwner_28 rfl (lv_at hl 0 rfl) ?_
    refine lv_iconst (v := 0) hx hb dX3_prizeOwner_29 (by decide) ?_
    obtain ⟨q30, eq30, h⟩ := o_bd h
    refine kV (As := [.int (0 : Int32)]) (rest := []) (st' := [.int q30]) ⟨hx, hb, hml, hown, hts⟩ (kX3_whoseAt l G ho hT eq30) (cwV 1 hts gX3_prizeOwner_X3_whoseAt rfl rfl rfl qqX3_whoseAt ⟨Nat.le_of_ble_eq_true rfl, Nat.le_of_ble_eq_true rfl⟩) hw (rvTk hw ho) rfl hl.1 rfl (Nat.le_of_ble_eq_true rfl) dX3_prizeOwner_30 ⟨Nat.zero_le _, Nat.zero_le _⟩ rfl (fun H locs hw => ?_)
    exact rI hQ hx hb hr hlk hw dX3_prizeOwner_33 (o_1 h) rfl rfl
  replace h := o_f c1_0 h
  by_cases c1_1 : a1 = (1 : Int32)
  · replace h := o_t c1_1 h
    refine lv_tableIn (tgt := 34) hx hb dX3_prizeOwner_1 (by rw [c1_1]; decide) (by rw [c1_1]; decide) (by rw [c1_1]; rfl) (by decide) ?_
    refine lv_aload_n hx hb dX3_prizeOwner_34 rfl (lv_at hl 0 rfl) ?_
    refine lv_iconst (v := 1) hx hb dX3_prizeOwner_35 (by decide) ?_
    obtain ⟨q36, eq36, h⟩ := o_bd h
    refine kV (As := [.int (1 : Int32)]) (rest := []) (st' := [.int q36]) ⟨hx, hb, hml, hown, hts⟩ (kX3_whoseAt l G ho hT eq36) (cwV 1 hts gX3_prizeOwner_X3_whoseAt rfl rfl rfl qqX3_whoseAt ⟨Nat.le_of_ble_eq_true rfl, Nat.le_of_ble_eq_true rfl⟩) hw (rvTk hw ho) rfl hl.1 rfl (Nat.le_of_ble_eq_true rfl) dX3_prizeOwner_36 ⟨Nat.zero_le _, Nat.zero_le _⟩ rfl (fun H locs hw => ?_)
    exact rI hQ hx hb hr hlk hw dX3_prizeOwner_39 (o_1 h) rfl rfl
  replace h := o_f c1_1 h
  by_cases c1_2 : a1 = (2 : Int32)
  · replace h := o_t c1_2 h
    refine lv_tableIn (tgt := 40) hx hb dX3_prizeOwner_1 (by rw [c1_2]; decide) (by rw [c1_2]; decide) (by rw [c1_2]; rfl) (by decide) ?_
    refine lv_aload_n hx hb dX3_prizeOwner_40 rfl (lv_at hl 0 rfl) ?_
    refine lv_aload_n hx hb dX3_prizeOwner_41 rfl (lv_at hl 0 rfl) ?_
    refine gTk (v := .int (T.1 4)) hx hb hts hiX3 hown hw ho hT 4 (by decide) (hts (.fieldLink RX3 52 "SecondHome$Track" "count" "I") (by decide +kernel)) rfl dX3_prizeOwner_42 ?_
    refine lv_iconst (v := 2) hx hb dX3_prizeOwner_45 (by decide) ?_
    refine lv_isub hx hb dX3_prizeOwner_46 ?_
    obtain ⟨q47, eq47, h⟩ := o_bd h
    refine kV (As := [.int ((T.1 4) - (2 : Int32))]) (rest := []) (st' := [.int q47]) ⟨hx, hb, hml, hown, hts⟩ (kX3_whoseAt l G ho hT eq47) (cwV 1 hts gX3_prizeOwner_X3_whoseAt rfl rfl rfl qqX3_whoseAt ⟨Nat.le_of_ble_eq_true rfl, Nat.le_of_ble_eq_true rfl⟩) hw (rvTk hw ho) rfl hl.1 rfl (Nat.le_of_ble_eq_true rfl) dX3_prizeOwner_47 ⟨Nat.zero_le _, Nat.zero_le _⟩ rfl (fun H locs hw => ?_)
    exact rI hQ hx hb hr hlk hw dX3_prizeOwner_50 (o_1 h) rfl rfl
  replace h := o_f c1_2 h
  have sw1 : a1.toInt < 0 ∨ 2 < a1.toInt := by
    have z0 := sw_ne c1_0
    have z1 := sw_ne c1_1
    have z2 := sw_ne c1_2
    rw [show ((0 : Int32)).toInt = 0 from rfl] at z0
    rw [show ((1 : Int32)).toInt = 1 from rfl] at z1
    rw [show ((2 : Int32)).toInt = 2 from rfl] at z2
    omega
  refine lv_tableOut (tgt := 51) hx hb dX3_prizeOwner_1 sw1 (by decide) ?_
  refine lv_aload_n hx hb dX3_prizeOwner_51 rfl (lv_at hl 0 rfl) ?_
  refine lv_aload_n hx hb dX3_prizeOwner_52 rfl (lv_at hl 0 rfl) ?_
  refine gTk (v := .int (T.1 4)) hx hb hts hiX3 hown hw ho hT 4 (by decide) (hts (.fieldLink RX3 52 "SecondHome$Track" "count" "I") (by decide +kernel)) rfl dX3_prizeOwner_53 ?_
  refine lv_iconst (v := 1) hx hb dX3_prizeOwner_56 (by decide) ?_
  refine lv_isub hx hb dX3_prizeOwner_57 ?_
  refine lv_iconst (v := 2) hx hb dX3_prizeOwner_58 (by decide) ?_
  refine lv_idiv hx hb dX3_prizeOwner_59 (by decide) ?_
  obtain ⟨q60, eq60, h⟩ := o_bd h
  refine kV (As := [.int (((T.1 4) - (1 : Int32)) / (2 : Int32))]) (rest := []) (st' := [.int q60]) ⟨hx, hb, hml, hown, hts⟩ (kX3_whoseAt l G ho hT eq60) (cwV 1 hts gX3_prizeOwner_X3_whoseAt rfl rfl rfl qqX3_whoseAt ⟨Nat.le_of_ble_eq_true rfl, Nat.le_of_ble_eq_true rfl⟩) hw (rvTk hw ho) rfl hl.1 rfl (Nat.le_of_ble_eq_true rfl) dX3_prizeOwner_60 ⟨Nat.zero_le _, Nat.zero_le _⟩ rfl (fun H locs hw => ?_)
  exact rI hQ hx hb hr hlk hw dX3_prizeOwner_63 (o_1 h) rfl rfl
-- X3_raceOwner
def fX3_raceOwner (T : sOb) : Option (Int32 × sOb) :=
  (fX3_lineUp T).bind fun q1 => (fX3_goOn q1 (2000 : Int32)).bind fun q8 => (fX3_allHome q8).bind fun q12 => if q12 = 0 then (some ((-1 : Int32), q8)) else ((fX3_prizeOwner q8 (q8.1 2)).bind fun q23 => some (q23, q8))
def rmX3_raceOwner : Room := { frames := 5, cells := 0, slots := 0, locals := 112 }
theorem qqX3_raceOwner : yX3_raceOwner.cls = RX3 ∧ yX3_raceOwner.cls ≠ "java/lang/invoke/MethodHandle" ∧ yX3_raceOwner.cls ≠ "java/lang/invoke/VarHandle" ∧ (parseMethodDescriptor yX3_raceOwner.desc).map (fun d => d.parameters.length) = some 0 := by decide +kernel
set_option maxRecDepth 100000 in
set_option maxHeartbeats 4000000 in
theorem kX3_raceOwner (l : Launch) (G : sGl) {S : sWo} {M : sOb} {o : Nat} {T : sOb} {q : (Int32 × sOb)} (ho : isTk o) (hT : S o = T) (h : fX3_raceOwner T = some q) : sCt l G yX3_raceOwner wsX3_raceOwner rmX3_raceOwner [.ref (sA G o 0)] S M (some (.int q.1)) (sUp S o q.2) M := by
  refine cMk (cc := cX3_raceOwner) (maxL := 1) (ret := (some .int)) (by decide) rfl (Nat.le_of_ble_eq_true rfl) ?_
  intro p e s m args below meth c Q hQ hx hb hr hlk hml hown hts hw ls hl
  have hown : s.vm.findClass RX3 = some m.cls := hown
  have hl : lv_has ls 1 [(0, .ref (sA G o 0))] := hl
  have hiX3 : ∀ w ∈ u_ws RX3 TX3 15, w ∈ wsX3_raceOwner := by decide +kernel
  rw [show S = sUp S o T from (by rw [← hT]; exact (sUp_i S o).symm)] at hw
  unfold fX3_raceOwner at h
  refine lv_aload_n hx hb dX3_raceOwner_0 rfl (lv_at hl 0 rfl) ?_
  obtain ⟨q1, eq1, h⟩ := o_bd h
  refine kV (As := []) (rest := []) (st' := []) ⟨hx, hb, hml, hown, hts⟩ (kX3_lineUp l G ho (sUp_s S o T) eq1) (cwV 0 hts gX3_raceOwner_X3_lineUp rfl rfl rfl qqX3_lineUp ⟨Nat.le_of_ble_eq_true rfl, Nat.le_of_ble_eq_true rfl⟩) hw (rvTk hw ho) rfl hl.1 rfl (Nat.le_of_ble_eq_true rfl) dX3_raceOwner_1 ⟨Nat.zero_le _, Nat.zero_le _⟩ rfl (fun H locs hw => ?_)
  rw [sUp_u] at hw
  refine lv_aload_n hx hb dX3_raceOwner_4 rfl (lv_at hl 0 rfl) ?_
  refine lv_sipush (v := 2000) hx hb dX3_raceOwner_5 (by decide) ?_
  obtain ⟨q8, eq8, h⟩ := o_bd h
  refine kV (As := [.int (2000 : Int32)]) (rest := []) (st' := []) ⟨hx, hb, hml, hown, hts⟩ (kX3_goOn l G ho (sUp_s S o q1) eq8) (cwV 1 hts gX3_raceOwner_X3_goOn rfl rfl rfl qqX3_goOn ⟨Nat.le_of_ble_eq_true rfl, Nat.le_of_ble_eq_true rfl⟩) hw (rvTk hw ho) rfl hl.1 rfl (Nat.le_of_ble_eq_true rfl) dX3_raceOwner_8 ⟨Nat.zero_le _, Nat.zero_le _⟩ rfl (fun H locs hw => ?_)
  rw [sUp_u] at hw
  refine lv_aload_n hx hb dX3_raceOwner_11 rfl (lv_at hl 0 rfl) ?_
  obtain ⟨q12, eq12, h⟩ := o_bd h
  refine kV (As := []) (rest := []) (st' := [.int q12]) ⟨hx, hb, hml, hown, hts⟩ (kX3_allHome l G ho (sUp_s S o q8) eq12) (cwV 0 hts gX3_raceOwner_X3_allHome rfl rfl rfl qqX3_allHome ⟨Nat.le_of_ble_eq_true rfl, Nat.le_of_ble_eq_true rfl⟩) hw (rvTk hw ho) rfl hl.1 rfl (Nat.le_of_ble_eq_true rfl) dX3_raceOwner_12 ⟨Nat.zero_le _, Nat.zero_le _⟩ rfl (fun H locs hw => ?_)
  refine lv_if_eq (tgt := 29) hx hb dX3_raceOwner_15 (by decide) (fun c15 => ?_) (fun c15 => ?_)
  · replace h := o_t c15 h
    refine lv_iconst (v := -1) hx hb dX3_raceOwner_29 (by decide) ?_
    exact rI hQ hx hb hr hlk hw dX3_raceOwner_30 (o_2a h) (congrArg (sUp S o) (o_2b h)) rfl
  · replace h := o_f c15 h
    refine lv_aload_n hx hb dX3_raceOwner_18 rfl (lv_at hl 0 rfl) ?_
    refine lv_aload_n hx hb dX3_raceOwner_19 rfl (lv_at hl 0 rfl) ?_
    refine gTk (v := .int (q8.1 2)) hx hb hts hiX3 hown hw ho (sUp_s S o q8) 2 (by decide) (hts (.fieldLink RX3 18 "SecondHome$Track" "law" "I") (by decide +kernel)) rfl dX3_raceOwner_20 ?_
    obtain ⟨q23, eq23, h⟩ := o_bd h
    refine kV (As := [.int (q8.1 2)]) (rest := []) (st' := [.int q23]) ⟨hx, hb, hml, hown, hts⟩ (kX3_prizeOwner l G ho (sUp_s S o q8) eq23) (cwV 1 hts gX3_raceOwner_X3_prizeOwner rfl rfl rfl qqX3_prizeOwner ⟨Nat.le_of_ble_eq_true rfl, Nat.le_of_ble_eq_true rfl⟩) hw (rvTk hw ho) rfl hl.1 rfl (Nat.le_of_ble_eq_true rfl) dX3_raceOwner_23 ⟨Nat.zero_le _, Nat.zero_le _⟩ rfl (fun H locs hw => ?_)
    refine lv_goto (tgt := 30) hx hb dX3_raceOwner_26 (by decide) ?_
    exact rI hQ hx hb hr hlk hw dX3_raceOwner_30 (o_2a h) (congrArg (sUp S o) (o_2b h)) rfl
-- X3_givePoints
def bX3_givePoints_13 (q7 : Int32) (rc13 : Int32 → Int32 → sOb → Option (Int32 × sOb)) (x1_13 : Int32) (x3_13 : Int32) (T_13 : sOb) : Option (Int32 × sOb) :=
  if (T_13.1 4) ≤ x3_13 then (some (x1_13, T_13)) else ((fX3_placeOf T_13 x3_13).bind fun q29 => nm (fun (y0_44 : Int32) => nm ((((T_13.1 4) - (1 : Int32)) - q29) + y0_44) fun v45 => if x3_13 < 0 ∨ 9 ≤ x3_13.toNatClampNeg then none else nm (sSa T_13 6 x3_13.toNatClampNeg ((T_13.2.1 6 x3_13.toNatClampNeg) + v45)) fun T57 => nm (x1_13 + v45) fun v62 => nm (x3_13 + (1 : Int32)) fun v63 => rc13 v62 v63 T57) fun k44 => if x3_13 = q7 then (k44 (10 : Int32)) else (k44 (0 : Int32)))
def fX3_givePoints (T : sOb) : Option (Int32 × sOb) :=
  (fX3_prizeOwner T (T.1 2)).bind fun q7 => fx3 (bX3_givePoints_13 q7) FU (0 : Int32) (0 : Int32) T
def rmX3_givePoints : Room := { frames := 4, cells := 0, slots := 0, locals := 89 }
theorem qqX3_givePoints : yX3_givePoints.cls = RX3 ∧ yX3_givePoints.cls ≠ "java/lang/invoke/MethodHandle" ∧ yX3_givePoints.cls ≠ "java/lang/invoke/VarHandle" ∧ (parseMethodDescriptor yX3_givePoints.desc).map (fun d => d.parameters.length) = some 0 := by decide +kernel
set_option maxRecDepth 100000 in
set_option maxHeartbeats 4000000 in
theorem kX3_givePoints (l : Launch) (G : sGl) {S : sWo} {M : sOb} {o : Nat} {T : sOb} {q : (Int32 × sOb)} (ho : isTk o) (hT : S o = T) (h : fX3_givePoints T = some q) : sCt l G yX3_givePoints wsX3_givePoints rmX3_givePoints [.ref (sA G o 0)] S M (some (.int q.1)) (sUp S o q.2) M := by
  refine cMk (cc := cX3_givePoints) (maxL := 5) (ret := (some .int)) (by decide) rfl (Nat.le_of_ble_eq_true rfl) ?_
  intro p e s m args below meth c Q hQ hx hb hr hlk hml hown hts hw ls hl
  have hown : s.vm.findClass RX3 = some m.cls := hown
  have hl : lv_has ls 5 [(0, .ref (sA G o 0))] := hl
  have hiX3 : ∀ w ∈ u_ws RX3 TX3 15, w ∈ wsX3_givePoints := by decide +kernel
  rw [show S = sUp S o T from (by rw [← hT]; exact (sUp_i S o).symm)] at hw
  unfold fX3_givePoints at h
  refine lv_iconst (v := 0) hx hb dX3_givePoints_0 (by decide) ?_
  refine lv_istore_n (lv' := [(1, .int (0 : Int32)), (0, .ref (sA G o 0))]) hx hb dX3_givePoints_1 rfl hl (by decide) rfl (fun ls hl => ?_)
  refine lv_aload_n hx hb dX3_givePoints_2 rfl (lv_at hl 1 rfl) ?_
  refine lv_aload_n hx hb dX3_givePoints_3 rfl (lv_at hl 1 rfl) ?_
  refine gTk (v := .int (T.1 2)) hx hb hts hiX3 hown hw ho (sUp_s S o T) 2 (by decide) (hts (.fieldLink RX3 18 "SecondHome$Track" "law" "I") (by decide +kernel)) rfl dX3_givePoints_4 ?_
  obtain ⟨q7, eq7, h⟩ := o_bd h
  refine kV (As := [.int (T.1 2)]) (rest := []) (st' := [.int q7]) ⟨hx, hb, hml, hown, hts⟩ (kX3_prizeOwner l G ho (sUp_s S o T) eq7) (cwV 1 hts gX3_givePoints_X3_prizeOwner rfl rfl rfl qqX3_prizeOwner ⟨Nat.le_of_ble_eq_true rfl, Nat.le_of_ble_eq_true rfl⟩) hw (rvTk hw ho) rfl hl.1 rfl (Nat.le_of_ble_eq_true rfl) dX3_givePoints_7 ⟨Nat.zero_le _, Nat.zero_le _⟩ rfl (fun H locs hw => ?_)
  refine lv_istore_n (lv' := [(2, .int q7), (1, .int (0 : Int32)), (0, .ref (sA G o 0))]) hx hb dX3_givePoints_10 rfl hl (by decide) rfl (fun ls hl => ?_)
  refine lv_iconst (v := 0) hx hb dX3_givePoints_11 (by decide) ?_
  refine lv_istore_n (lv' := [(3, .int (0 : Int32)), (2, .int q7), (1, .int (0 : Int32)), (0, .ref (sA G o 0))]) hx hb dX3_givePoints_12 rfl hl (by decide) rfl (fun ls hl => ?_)
  refine fx3_w (F := (bX3_givePoints_13 q7)) (P := fun x1_13 x3_13 T_13 => ∀ (H : Heap) (locs : List Loc) (ls : Array Slot), sHw G s (sUp S o T_13) M H locs → lv_has ls 5 [(0, .ref (sA G o 0)), (1, .int x1_13), (2, .int q7), (3, .int x3_13)] → W p l e rmX3_givePoints s m args below meth c H locs 0 0 Q (F0 m 13 ls [])) ?_ _ _ _ _ h _ _ _ hw (lv_sub hl [3, 2, 1, 0] rfl)
  intro rc13 IH13 x1_13 x3_13 T_13 h H locs ls hw hl
  unfold bX3_givePoints_13 at h
  refine lv_iload_n hx hb dX3_givePoints_13 rfl (lv_at hl 3 rfl) ?_
  refine lv_aload_n hx hb dX3_givePoints_14 rfl (lv_at hl 0 rfl) ?_
  refine gTk (v := .int (T_13.1 4)) hx hb hts hiX3 hown hw ho (sUp_s S o T_13) 4 (by decide) (hts (.fieldLink RX3 52 "SecondHome$Track" "count" "I") (by decide +kernel)) rfl dX3_givePoints_15 ?_
  refine lv_icmp_ge (tgt := 69) hx hb dX3_givePoints_18 (by decide) (fun c18 => ?_) (fun c18 => ?_)
  · replace h := o_t c18 h
    refine lv_iload_n hx hb dX3_givePoints_69 rfl (lv_at hl 1 rfl) ?_
    exact rI hQ hx hb hr hlk hw dX3_givePoints_70 (o_2a h) (congrArg (sUp S o) (o_2b h)) rfl
  · replace h := o_f c18 h
    refine lv_aload_n hx hb dX3_givePoints_21 rfl (lv_at hl 0 rfl) ?_
    refine gTk (v := .int (T_13.1 4)) hx hb hts hiX3 hown hw ho (sUp_s S o T_13) 4 (by decide) (hts (.fieldLink RX3 52 "SecondHome$Track" "count" "I") (by decide +kernel)) rfl dX3_givePoints_22 ?_
    refine lv_iconst (v := 1) hx hb dX3_givePoints_25 (by decide) ?_
    refine lv_isub hx hb dX3_givePoints_26 ?_
    refine lv_aload_n hx hb dX3_givePoints_27 rfl (lv_at hl 0 rfl) ?_
    refine lv_iload_n hx hb dX3_givePoints_28 rfl (lv_at hl 3 rfl) ?_
    obtain ⟨q29, eq29, h⟩ := o_bd h
    refine kV (As := [.int x3_13]) (rest := [.int ((T_13.1 4) - (1 : Int32))]) (st' := [.int q29, .int ((T_13.1 4) - (1 : Int32))]) ⟨hx, hb, hml, hown, hts⟩ (kX3_placeOf l G ho (sUp_s S o T_13) eq29) (cwV 1 hts gX3_givePoints_X3_placeOf rfl rfl rfl qqX3_placeOf ⟨Nat.le_of_ble_eq_true rfl, Nat.le_of_ble_eq_true rfl⟩) hw (rvTk hw ho) rfl hl.1 rfl (Nat.le_of_ble_eq_true rfl) dX3_givePoints_29 ⟨Nat.zero_le _, Nat.zero_le _⟩ rfl (fun H locs hw => ?_)
    refine lv_isub hx hb dX3_givePoints_32 ?_
    refine lv_iload_n hx hb dX3_givePoints_33 rfl (lv_at hl 3 rfl) ?_
    refine lv_iload_n hx hb dX3_givePoints_34 rfl (lv_at hl 2 rfl) ?_
    obtain ⟨k44, ek44, h⟩ := o_nm h
    have J44 : ∀ (y0_44 : Int32) (H : Heap) (locs : List Loc) (ls : Array Slot), sHw G s (sUp S o T_13) M H locs → lv_has ls 5 [(0, .ref (sA G o 0)), (1, .int x1_13), (2, .int q7), (3, .int x3_13)] → k44 y0_44 = some q → W p l e rmX3_givePoints s m args below meth c H locs 0 0 Q (F0 m 44 ls [.int y0_44, .int (((T_13.1 4) - (1 : Int32)) - q29)]) := by
      intro y0_44 H locs ls hw hl h
      replace h := o_j1 ek44 h
      refine lv_iadd hx hb dX3_givePoints_44 ?_
      refine lv_topi (fun v45 ev45 => ?_)
      replace h := o_nx ev45 h
      refine lv_istore (lv' := [(4, .int v45), (0, .ref (sA G o 0)), (1, .int x1_13), (2, .int q7), (3, .int x3_13)]) hx hb dX3_givePoints_45 hl (by decide) rfl (fun ls hl => ?_)
      refine lv_aload_n hx hb dX3_givePoints_47 rfl (lv_at hl 1 rfl) ?_
      refine gTk (v := .ref (sA G o 7)) hx hb hts hiX3 hown hw ho (sUp_s S o T_13) 12 (by decide) (hts (.fieldLink RX3 40 "SecondHome$Track" "points" "[I") (by decide +kernel)) rfl dX3_givePoints_48 ?_
      refine lv_iload_n hx hb dX3_givePoints_51 rfl (lv_at hl 4 rfl) ?_
      refine lv_dup2_11 hx hb dX3_givePoints_52 rfl rfl ?_
      obtain ⟨b53, h⟩ := o_in h
      refine ldTk hx hb hw ho (sUp_s S o T_13) 6 (by decide) b53 dX3_givePoints_53 ?_
      refine lv_iload hx hb dX3_givePoints_54 (lv_at hl 0 rfl) ?_
      refine lv_iadd hx hb dX3_givePoints_56 ?_
      refine stTk hx hb hw ho (sUp_s S o T_13) 6 (by decide) b53 dX3_givePoints_57 (sUp_u S o T_13 _) (fun H locs hw => ?_)
      obtain ⟨T57, eT57, h⟩ := o_nm h
      rw [← eT57] at hw
      refine lv_iload_n hx hb dX3_givePoints_58 rfl (lv_at hl 2 rfl) ?_
      refine lv_iload hx hb dX3_givePoints_59 (lv_at hl 0 rfl) ?_
      refine lv_iadd hx hb dX3_givePoints_61 ?_
      refine lv_topi (fun v62 ev62 => ?_)
      replace h := o_nx ev62 h
      refine lv_istore_n (lv' := [(1, .int v62), (4, .int v45), (0, .ref (sA G o 0)), (2, .int q7), (3, .int x3_13)]) hx hb dX3_givePoints_62 rfl hl (by decide) rfl (fun ls hl => ?_)
      obtain ⟨v63, ev63, h⟩ := o_nm h
      refine lv_iinc (v := v63) (lv' := [(3, .int v63), (1, .int v62), (4, .int v45), (0, .ref (sA G o 0)), (2, .int q7)]) hx hb dX3_givePoints_63 hl (k := 4) rfl (by rw [ev63]; rfl) (by decide) rfl (fun ls hl => ?_)
      refine lv_goto (tgt := 13) hx hb dX3_givePoints_66 (by decide) ?_
      exact IH13 v62 v63 T57 h _ _ _ hw (lv_sub hl [3, 1, 4, 0] rfl)
    refine lv_icmp_ne (tgt := 43) hx hb dX3_givePoints_35 (by decide) (fun c35 => ?_) (fun c35 => ?_)
    · replace h := o_f c35 h
      refine lv_iconst (v := 0) hx hb dX3_givePoints_43 (by decide) ?_
      exact J44 (0 : Int32) _ _ _ hw (lv_sub hl [0, 1, 2, 3] rfl) h
    · replace h := o_t c35 h
      refine lv_bipush (v := 10) hx hb dX3_givePoints_38 (by decide) ?_
      refine lv_goto (tgt := 44) hx hb dX3_givePoints_40 (by decide) ?_
      exact J44 (10 : Int32) _ _ _ hw (lv_sub hl [0, 1, 2, 3] rfl) h
