-- X3_takeOver
set_option maxRecDepth 100000 in
set_option maxHeartbeats 4000000 in
theorem kX3_takeOver (l : Launch) (G : sGl) {S : sWo} {M : sOb} {o : Nat} {T : sOb} {o2 : Nat} {T2 : sOb} {q : sOb} (ho : isTk o) (ho2 : isTk o2) (hne : o2 ≠ o) (hT : S o = T) (hT2 : S o2 = T2) (h : fX3_takeOver T T2 = some q) : sCt l G yX3_takeOver wsX3_takeOver rmX3_takeOver [.ref (sA G o 0), .ref (sA G o2 0)] S M none (sUp S o q) M := by
  refine cMk (cc := cX3_takeOver) (maxL := 3) (ret := none) (by decide) rfl (Nat.le_of_ble_eq_true rfl) ?_
  intro p e s m args below meth c Q hQ hx hb hr hlk hml hown hts hw ls hl
  have hown : s.vm.findClass RX3 = some m.cls := hown
  have hl : lv_has ls 3 [(0, .ref (sA G o 0)), (1, .ref (sA G o2 0))] := hl
  have hiX3 : ∀ w ∈ u_ws RX3 TX3 15, w ∈ wsX3_takeOver := by decide +kernel
  rw [show S = sUp S o T from (by rw [← hT]; exact (sUp_i S o).symm)] at hw
  unfold fX3_takeOver at h
  refine lv_aload_n hx hb dX3_takeOver_0 rfl (lv_at hl 0 rfl) ?_
  refine lv_aload_n hx hb dX3_takeOver_1 rfl (lv_at hl 1 rfl) ?_
  refine gTk (v := .int (T2.1 0)) hx hb hts hiX3 hown hw ho2 ((sUp_n hne).trans hT2) 0 (by decide) (hts (.fieldLink RX3 9 "SecondHome$Track" "length" "I") (by decide +kernel)) rfl dX3_takeOver_2 ?_
  refine pTk hx hb hts hiX3 hown hw ho (sUp_s S o T) 0 (by decide) (hts (.fieldLink RX3 9 "SecondHome$Track" "length" "I") (by decide +kernel)) dX3_takeOver_5 (sUp_u S o T _) (fun H locs hw => ?_)
  obtain ⟨T5, eT5, h⟩ := o_nm h
  rw [← eT5] at hw
  refine lv_aload_n hx hb dX3_takeOver_8 rfl (lv_at hl 0 rfl) ?_
  refine lv_aload_n hx hb dX3_takeOver_9 rfl (lv_at hl 1 rfl) ?_
  refine gTk (v := .int (T2.1 1)) hx hb hts hiX3 hown hw ho2 ((sUp_n hne).trans hT2) 1 (by decide) (hts (.fieldLink RX3 15 "SecondHome$Track" "least" "I") (by decide +kernel)) rfl dX3_takeOver_10 ?_
  refine pTk hx hb hts hiX3 hown hw ho (sUp_s S o T5) 1 (by decide) (hts (.fieldLink RX3 15 "SecondHome$Track" "least" "I") (by decide +kernel)) dX3_takeOver_13 (sUp_u S o T5 _) (fun H locs hw => ?_)
  obtain ⟨T13, eT13, h⟩ := o_nm h
  rw [← eT13] at hw
  refine lv_aload_n hx hb dX3_takeOver_16 rfl (lv_at hl 0 rfl) ?_
  refine lv_aload_n hx hb dX3_takeOver_17 rfl (lv_at hl 1 rfl) ?_
  refine gTk (v := .int (T2.1 2)) hx hb hts hiX3 hown hw ho2 ((sUp_n hne).trans hT2) 2 (by decide) (hts (.fieldLink RX3 18 "SecondHome$Track" "law" "I") (by decide +kernel)) rfl dX3_takeOver_18 ?_
  refine pTk hx hb hts hiX3 hown hw ho (sUp_s S o T13) 2 (by decide) (hts (.fieldLink RX3 18 "SecondHome$Track" "law" "I") (by decide +kernel)) dX3_takeOver_21 (sUp_u S o T13 _) (fun H locs hw => ?_)
  obtain ⟨T21, eT21, h⟩ := o_nm h
  rw [← eT21] at hw
  refine lv_aload_n hx hb dX3_takeOver_24 rfl (lv_at hl 0 rfl) ?_
  refine lv_aload_n hx hb dX3_takeOver_25 rfl (lv_at hl 1 rfl) ?_
  refine gTk (v := .int (T2.1 3)) hx hb hts hiX3 hown hw ho2 ((sUp_n hne).trans hT2) 3 (by decide) (hts (.fieldLink RX3 49 "SecondHome$Track" "second" "I") (by decide +kernel)) rfl dX3_takeOver_26 ?_
  refine pTk hx hb hts hiX3 hown hw ho (sUp_s S o T21) 3 (by decide) (hts (.fieldLink RX3 49 "SecondHome$Track" "second" "I") (by decide +kernel)) dX3_takeOver_29 (sUp_u S o T21 _) (fun H locs hw => ?_)
  obtain ⟨T29, eT29, h⟩ := o_nm h
  rw [← eT29] at hw
  refine lv_aload_n hx hb dX3_takeOver_32 rfl (lv_at hl 0 rfl) ?_
  refine lv_aload_n hx hb dX3_takeOver_33 rfl (lv_at hl 1 rfl) ?_
  refine gTk (v := .int (T2.1 4)) hx hb hts hiX3 hown hw ho2 ((sUp_n hne).trans hT2) 4 (by decide) (hts (.fieldLink RX3 52 "SecondHome$Track" "count" "I") (by decide +kernel)) rfl dX3_takeOver_34 ?_
  refine pTk hx hb hts hiX3 hown hw ho (sUp_s S o T29) 4 (by decide) (hts (.fieldLink RX3 52 "SecondHome$Track" "count" "I") (by decide +kernel)) dX3_takeOver_37 (sUp_u S o T29 _) (fun H locs hw => ?_)
  obtain ⟨T37, eT37, h⟩ := o_nm h
  rw [← eT37] at hw
  refine lv_aload_n hx hb dX3_takeOver_40 rfl (lv_at hl 0 rfl) ?_
  refine lv_aload_n hx hb dX3_takeOver_41 rfl (lv_at hl 1 rfl) ?_
  refine gTk (v := .int (T2.1 5)) hx hb hts hiX3 hown hw ho2 ((sUp_n hne).trans hT2) 5 (by decide) (hts (.fieldLink RX3 55 "SecondHome$Track" "homeCount" "I") (by decide +kernel)) rfl dX3_takeOver_42 ?_
  refine pTk hx hb hts hiX3 hown hw ho (sUp_s S o T37) 5 (by decide) (hts (.fieldLink RX3 55 "SecondHome$Track" "homeCount" "I") (by decide +kernel)) dX3_takeOver_45 (sUp_u S o T37 _) (fun H locs hw => ?_)
  obtain ⟨T45, eT45, h⟩ := o_nm h
  rw [← eT45] at hw
  refine lv_iconst (v := 0) hx hb dX3_takeOver_48 (by decide) ?_
  refine lv_istore_n (lv' := [(2, .int (0 : Int32)), (0, .ref (sA G o 0)), (1, .ref (sA G o2 0))]) hx hb dX3_takeOver_49 rfl hl (by decide) rfl (fun ls hl => ?_)
  refine fx2_w (F := (bX3_takeOver_50 T2)) (P := fun x2_50 T_50 => ∀ (H : Heap) (locs : List Loc) (ls : Array Slot), sHw G s (sUp S o T_50) M H locs → lv_has ls 3 [(0, .ref (sA G o 0)), (1, .ref (sA G o2 0)), (2, .int x2_50)] → W p l e rmX3_takeOver s m args below meth c H locs 0 0 Q (F0 m 50 ls [])) ?_ _ _ _ h _ _ _ hw (lv_sub hl [1, 2, 0] rfl)
  intro rc50 IH50 x2_50 T_50 h H locs ls hw hl
  unfold bX3_takeOver_50 at h
  refine lv_iload_n hx hb dX3_takeOver_50 rfl (lv_at hl 2 rfl) ?_
  refine lv_bipush (v := 9) hx hb dX3_takeOver_51 (by decide) ?_
  refine lv_icmp_ge (tgt := 158) hx hb dX3_takeOver_53 (by decide) (fun c53 => ?_) (fun c53 => ?_)
  · replace h := o_t c53 h
    exact rV hQ hx hb hr hlk hw dX3_takeOver_158 (congrArg (sUp S o) (o_1 h)) rfl
  · replace h := o_f c53 h
    refine lv_aload_n hx hb dX3_takeOver_56 rfl (lv_at hl 0 rfl) ?_
    refine gTk (v := .ref (sA G o 1)) hx hb hts hiX3 hown hw ho (sUp_s S o T_50) 6 (by decide) (hts (.fieldLink RX3 21 "SecondHome$Track" "kinds" "[I") (by decide +kernel)) rfl dX3_takeOver_57 ?_
    refine lv_iload_n hx hb dX3_takeOver_60 rfl (lv_at hl 2 rfl) ?_
    refine lv_aload_n hx hb dX3_takeOver_61 rfl (lv_at hl 1 rfl) ?_
    refine gTk (v := .ref (sA G o2 1)) hx hb hts hiX3 hown hw ho2 ((sUp_n hne).trans hT2) 6 (by decide) (hts (.fieldLink RX3 21 "SecondHome$Track" "kinds" "[I") (by decide +kernel)) rfl dX3_takeOver_62 ?_
    refine lv_iload_n hx hb dX3_takeOver_65 rfl (lv_at hl 2 rfl) ?_
    obtain ⟨b66, h⟩ := o_in h
    refine ldTk hx hb hw ho2 ((sUp_n hne).trans hT2) 0 (by decide) b66 dX3_takeOver_66 ?_
    refine stTk hx hb hw ho (sUp_s S o T_50) 0 (by decide) b66 dX3_takeOver_67 (sUp_u S o T_50 _) (fun H locs hw => ?_)
    obtain ⟨T67, eT67, h⟩ := o_nm h
    rw [← eT67] at hw
    refine lv_aload_n hx hb dX3_takeOver_68 rfl (lv_at hl 0 rfl) ?_
    refine gTk (v := .ref (sA G o 2)) hx hb hts hiX3 hown hw ho (sUp_s S o T67) 7 (by decide) (hts (.fieldLink RX3 25 "SecondHome$Track" "paces" "[I") (by decide +kernel)) rfl dX3_takeOver_69 ?_
    refine lv_iload_n hx hb dX3_takeOver_72 rfl (lv_at hl 2 rfl) ?_
    refine lv_aload_n hx hb dX3_takeOver_73 rfl (lv_at hl 1 rfl) ?_
    refine gTk (v := .ref (sA G o2 2)) hx hb hts hiX3 hown hw ho2 ((sUp_n hne).trans hT2) 7 (by decide) (hts (.fieldLink RX3 25 "SecondHome$Track" "paces" "[I") (by decide +kernel)) rfl dX3_takeOver_74 ?_
    refine lv_iload_n hx hb dX3_takeOver_77 rfl (lv_at hl 2 rfl) ?_
    refine ldTk hx hb hw ho2 ((sUp_n hne).trans hT2) 1 (by decide) b66 dX3_takeOver_78 ?_
    refine stTk hx hb hw ho (sUp_s S o T67) 1 (by decide) b66 dX3_takeOver_79 (sUp_u S o T67 _) (fun H locs hw => ?_)
    obtain ⟨T79, eT79, h⟩ := o_nm h
    rw [← eT79] at hw
    refine lv_aload_n hx hb dX3_takeOver_80 rfl (lv_at hl 0 rfl) ?_
    refine gTk (v := .ref (sA G o 3)) hx hb hts hiX3 hown hw ho (sUp_s S o T79) 8 (by decide) (hts (.fieldLink RX3 28 "SecondHome$Track" "breaths" "[I") (by decide +kernel)) rfl dX3_takeOver_81 ?_
    refine lv_iload_n hx hb dX3_takeOver_84 rfl (lv_at hl 2 rfl) ?_
    refine lv_aload_n hx hb dX3_takeOver_85 rfl (lv_at hl 1 rfl) ?_
    refine gTk (v := .ref (sA G o2 3)) hx hb hts hiX3 hown hw ho2 ((sUp_n hne).trans hT2) 8 (by decide) (hts (.fieldLink RX3 28 "SecondHome$Track" "breaths" "[I") (by decide +kernel)) rfl dX3_takeOver_86 ?_
    refine lv_iload_n hx hb dX3_takeOver_89 rfl (lv_at hl 2 rfl) ?_
    refine ldTk hx hb hw ho2 ((sUp_n hne).trans hT2) 2 (by decide) b66 dX3_takeOver_90 ?_
    refine stTk hx hb hw ho (sUp_s S o T79) 2 (by decide) b66 dX3_takeOver_91 (sUp_u S o T79 _) (fun H locs hw => ?_)
    obtain ⟨T91, eT91, h⟩ := o_nm h
    rw [← eT91] at hw
    refine lv_aload_n hx hb dX3_takeOver_92 rfl (lv_at hl 0 rfl) ?_
    refine gTk (v := .ref (sA G o 4)) hx hb hts hiX3 hown hw ho (sUp_s S o T91) 9 (by decide) (hts (.fieldLink RX3 31 "SecondHome$Track" "friends" "[I") (by decide +kernel)) rfl dX3_takeOver_93 ?_
    refine lv_iload_n hx hb dX3_takeOver_96 rfl (lv_at hl 2 rfl) ?_
    refine lv_aload_n hx hb dX3_takeOver_97 rfl (lv_at hl 1 rfl) ?_
    refine gTk (v := .ref (sA G o2 4)) hx hb hts hiX3 hown hw ho2 ((sUp_n hne).trans hT2) 9 (by decide) (hts (.fieldLink RX3 31 "SecondHome$Track" "friends" "[I") (by decide +kernel)) rfl dX3_takeOver_98 ?_
    refine lv_iload_n hx hb dX3_takeOver_101 rfl (lv_at hl 2 rfl) ?_
    refine ldTk hx hb hw ho2 ((sUp_n hne).trans hT2) 3 (by decide) b66 dX3_takeOver_102 ?_
    refine stTk hx hb hw ho (sUp_s S o T91) 3 (by decide) b66 dX3_takeOver_103 (sUp_u S o T91 _) (fun H locs hw => ?_)
    obtain ⟨T103, eT103, h⟩ := o_nm h
    rw [← eT103] at hw
    refine lv_aload_n hx hb dX3_takeOver_104 rfl (lv_at hl 0 rfl) ?_
    refine gTk (v := .ref (sA G o 5)) hx hb hts hiX3 hown hw ho (sUp_s S o T103) 10 (by decide) (hts (.fieldLink RX3 34 "SecondHome$Track" "starts" "[I") (by decide +kernel)) rfl dX3_takeOver_105 ?_
    refine lv_iload_n hx hb dX3_takeOver_108 rfl (lv_at hl 2 rfl) ?_
    refine lv_aload_n hx hb dX3_takeOver_109 rfl (lv_at hl 1 rfl) ?_
    refine gTk (v := .ref (sA G o2 5)) hx hb hts hiX3 hown hw ho2 ((sUp_n hne).trans hT2) 10 (by decide) (hts (.fieldLink RX3 34 "SecondHome$Track" "starts" "[I") (by decide +kernel)) rfl dX3_takeOver_110 ?_
    refine lv_iload_n hx hb dX3_takeOver_113 rfl (lv_at hl 2 rfl) ?_
    refine ldTk hx hb hw ho2 ((sUp_n hne).trans hT2) 4 (by decide) b66 dX3_takeOver_114 ?_
    refine stTk hx hb hw ho (sUp_s S o T103) 4 (by decide) b66 dX3_takeOver_115 (sUp_u S o T103 _) (fun H locs hw => ?_)
    obtain ⟨T115, eT115, h⟩ := o_nm h
    rw [← eT115] at hw
    refine lv_aload_n hx hb dX3_takeOver_116 rfl (lv_at hl 0 rfl) ?_
    refine gTk (v := .ref (sA G o 6)) hx hb hts hiX3 hown hw ho (sUp_s S o T115) 11 (by decide) (hts (.fieldLink RX3 37 "SecondHome$Track" "yards" "[I") (by decide +kernel)) rfl dX3_takeOver_117 ?_
    refine lv_iload_n hx hb dX3_takeOver_120 rfl (lv_at hl 2 rfl) ?_
    refine lv_aload_n hx hb dX3_takeOver_121 rfl (lv_at hl 1 rfl) ?_
    refine gTk (v := .ref (sA G o2 6)) hx hb hts hiX3 hown hw ho2 ((sUp_n hne).trans hT2) 11 (by decide) (hts (.fieldLink RX3 37 "SecondHome$Track" "yards" "[I") (by decide +kernel)) rfl dX3_takeOver_122 ?_
    refine lv_iload_n hx hb dX3_takeOver_125 rfl (lv_at hl 2 rfl) ?_
    refine ldTk hx hb hw ho2 ((sUp_n hne).trans hT2) 5 (by decide) b66 dX3_takeOver_126 ?_
    refine stTk hx hb hw ho (sUp_s S o T115) 5 (by decide) b66 dX3_takeOver_127 (sUp_u S o T115 _) (fun H locs hw => ?_)
    obtain ⟨T127, eT127, h⟩ := o_nm h
    rw [← eT127] at hw
    refine lv_aload_n hx hb dX3_takeOver_128 rfl (lv_at hl 0 rfl) ?_
    refine gTk (v := .ref (sA G o 7)) hx hb hts hiX3 hown hw ho (sUp_s S o T127) 12 (by decide) (hts (.fieldLink RX3 40 "SecondHome$Track" "points" "[I") (by decide +kernel)) rfl dX3_takeOver_129 ?_
    refine lv_iload_n hx hb dX3_takeOver_132 rfl (lv_at hl 2 rfl) ?_
    refine lv_aload_n hx hb dX3_takeOver_133 rfl (lv_at hl 1 rfl) ?_
    refine gTk (v := .ref (sA G o2 7)) hx hb hts hiX3 hown hw ho2 ((sUp_n hne).trans hT2) 12 (by decide) (hts (.fieldLink RX3 40 "SecondHome$Track" "points" "[I") (by decide +kernel)) rfl dX3_takeOver_134 ?_
    refine lv_iload_n hx hb dX3_takeOver_137 rfl (lv_at hl 2 rfl) ?_
    refine ldTk hx hb hw ho2 ((sUp_n hne).trans hT2) 6 (by decide) b66 dX3_takeOver_138 ?_
    refine stTk hx hb hw ho (sUp_s S o T127) 6 (by decide) b66 dX3_takeOver_139 (sUp_u S o T127 _) (fun H locs hw => ?_)
    obtain ⟨T139, eT139, h⟩ := o_nm h
    rw [← eT139] at hw
    refine lv_aload_n hx hb dX3_takeOver_140 rfl (lv_at hl 0 rfl) ?_
    refine gTk (v := .ref (sA G o 8)) hx hb hts hiX3 hown hw ho (sUp_s S o T139) 13 (by decide) (hts (.fieldLink RX3 43 "SecondHome$Track" "homes" "[I") (by decide +kernel)) rfl dX3_takeOver_141 ?_
    refine lv_iload_n hx hb dX3_takeOver_144 rfl (lv_at hl 2 rfl) ?_
    refine lv_aload_n hx hb dX3_takeOver_145 rfl (lv_at hl 1 rfl) ?_
    refine gTk (v := .ref (sA G o2 8)) hx hb hts hiX3 hown hw ho2 ((sUp_n hne).trans hT2) 13 (by decide) (hts (.fieldLink RX3 43 "SecondHome$Track" "homes" "[I") (by decide +kernel)) rfl dX3_takeOver_146 ?_
    refine lv_iload_n hx hb dX3_takeOver_149 rfl (lv_at hl 2 rfl) ?_
    refine ldTk hx hb hw ho2 ((sUp_n hne).trans hT2) 7 (by decide) b66 dX3_takeOver_150 ?_
    refine stTk hx hb hw ho (sUp_s S o T139) 7 (by decide) b66 dX3_takeOver_151 (sUp_u S o T139 _) (fun H locs hw => ?_)
    obtain ⟨T151, eT151, h⟩ := o_nm h
    rw [← eT151] at hw
    obtain ⟨v152, ev152, h⟩ := o_nm h
    refine lv_iinc (v := v152) (lv' := [(2, .int v152), (0, .ref (sA G o 0)), (1, .ref (sA G o2 0))]) hx hb dX3_takeOver_152 hl (k := 2) rfl (by rw [ev152]; rfl) (by decide) rfl (fun ls hl => ?_)
    refine lv_goto (tgt := 50) hx hb dX3_takeOver_155 (by decide) ?_
    exact IH50 v152 T151 h _ _ _ hw (lv_sub hl [1, 2, 0] rfl)
-- X3_add
set_option maxRecDepth 100000 in
set_option maxHeartbeats 4000000 in
theorem kX3_add (l : Launch) (G : sGl) {S : sWo} {M : sOb} {o : Nat} {T : sOb} {a1 : Int32} {a2 : Int32} {a3 : Int32} {q : (Int32 × sOb)} (ho : isTk o) (hT : S o = T) (h : fX3_add T a1 a2 a3 = some q) : sCt l G yX3_add wsX3_add rmX3_add [.ref (sA G o 0), .int a1, .int a2, .int a3] S M (some (.int q.1)) (sUp S o q.2) M := by
  refine cMk (cc := cX3_add) (maxL := 5) (ret := (some .int)) (by decide) rfl (Nat.le_of_ble_eq_true rfl) ?_
  intro p e s m args below meth c Q hQ hx hb hr hlk hml hown hts hw ls hl
  have hown : s.vm.findClass RX3 = some m.cls := hown
  have hl : lv_has ls 5 [(0, .ref (sA G o 0)), (1, .int a1), (2, .int a2), (3, .int a3)] := hl
  have hiX3 : ∀ w ∈ u_ws RX3 TX3 15, w ∈ wsX3_add := by decide +kernel
  rw [show S = sUp S o T from (by rw [← hT]; exact (sUp_i S o).symm)] at hw
  unfold fX3_add at h
  refine lv_aload_n hx hb dX3_add_0 rfl (lv_at hl 0 rfl) ?_
  refine gTk (v := .int (T.1 4)) hx hb hts hiX3 hown hw ho (sUp_s S o T) 4 (by decide) (hts (.fieldLink RX3 52 "SecondHome$Track" "count" "I") (by decide +kernel)) rfl dX3_add_1 ?_
  refine lv_if_lt (tgt := 16) hx hb dX3_add_4 (by decide) (fun c4 => ?_) (fun c4 => ?_)
  · replace h := o_t c4 h
    refine lv_iconst (v := -1) hx hb dX3_add_16 (by decide) ?_
    exact rI hQ hx hb hr hlk hw dX3_add_17 (o_2a h) (congrArg (sUp S o) (o_2b h)) rfl
  · replace h := o_f c4 h
    refine lv_aload_n hx hb dX3_add_7 rfl (lv_at hl 0 rfl) ?_
    refine gTk (v := .int (T.1 4)) hx hb hts hiX3 hown hw ho (sUp_s S o T) 4 (by decide) (hts (.fieldLink RX3 52 "SecondHome$Track" "count" "I") (by decide +kernel)) rfl dX3_add_8 ?_
    refine lv_bipush (v := 9) hx hb dX3_add_11 (by decide) ?_
    refine lv_icmp_lt (tgt := 18) hx hb dX3_add_13 (by decide) (fun c13 => ?_) (fun c13 => ?_)
    · replace h := o_t c13 h
      refine lv_aload_n hx hb dX3_add_18 rfl (lv_at hl 0 rfl) ?_
      refine gTk (v := .int (T.1 4)) hx hb hts hiX3 hown hw ho (sUp_s S o T) 4 (by decide) (hts (.fieldLink RX3 52 "SecondHome$Track" "count" "I") (by decide +kernel)) rfl dX3_add_19 ?_
      refine lv_topi (fun v22 ev22 => ?_)
      replace h := o_nx ev22 h
      refine lv_istore (lv' := [(4, .int v22), (0, .ref (sA G o 0)), (1, .int a1), (2, .int a2), (3, .int a3)]) hx hb dX3_add_22 hl (by decide) rfl (fun ls hl => ?_)
      refine lv_aload_n hx hb dX3_add_24 rfl (lv_at hl 1 rfl) ?_
      refine gTk (v := .ref (sA G o 1)) hx hb hts hiX3 hown hw ho (sUp_s S o T) 6 (by decide) (hts (.fieldLink RX3 21 "SecondHome$Track" "kinds" "[I") (by decide +kernel)) rfl dX3_add_25 ?_
      refine lv_iload hx hb dX3_add_28 (lv_at hl 0 rfl) ?_
      refine lv_iload_n hx hb dX3_add_30 rfl (lv_at hl 2 rfl) ?_
      obtain ⟨b31, h⟩ := o_in h
      refine stTk hx hb hw ho (sUp_s S o T) 0 (by decide) b31 dX3_add_31 (sUp_u S o T _) (fun H locs hw => ?_)
      obtain ⟨T31, eT31, h⟩ := o_nm h
      rw [← eT31] at hw
      refine lv_aload_n hx hb dX3_add_32 rfl (lv_at hl 1 rfl) ?_
      refine gTk (v := .ref (sA G o 2)) hx hb hts hiX3 hown hw ho (sUp_s S o T31) 7 (by decide) (hts (.fieldLink RX3 25 "SecondHome$Track" "paces" "[I") (by decide +kernel)) rfl dX3_add_33 ?_
      refine lv_iload hx hb dX3_add_36 (lv_at hl 0 rfl) ?_
      refine lv_iload_n hx hb dX3_add_38 rfl (lv_at hl 3 rfl) ?_
      refine stTk hx hb hw ho (sUp_s S o T31) 1 (by decide) b31 dX3_add_39 (sUp_u S o T31 _) (fun H locs hw => ?_)
      obtain ⟨T39, eT39, h⟩ := o_nm h
      rw [← eT39] at hw
      refine lv_aload_n hx hb dX3_add_40 rfl (lv_at hl 1 rfl) ?_
      refine gTk (v := .ref (sA G o 3)) hx hb hts hiX3 hown hw ho (sUp_s S o T39) 8 (by decide) (hts (.fieldLink RX3 28 "SecondHome$Track" "breaths" "[I") (by decide +kernel)) rfl dX3_add_41 ?_
      refine lv_iload hx hb dX3_add_44 (lv_at hl 0 rfl) ?_
      refine lv_iload_n hx hb dX3_add_46 rfl (lv_at hl 4 rfl) ?_
      refine stTk hx hb hw ho (sUp_s S o T39) 2 (by decide) b31 dX3_add_47 (sUp_u S o T39 _) (fun H locs hw => ?_)
      obtain ⟨T47, eT47, h⟩ := o_nm h
      rw [← eT47] at hw
      refine lv_aload_n hx hb dX3_add_48 rfl (lv_at hl 1 rfl) ?_
      refine gTk (v := .ref (sA G o 4)) hx hb hts hiX3 hown hw ho (sUp_s S o T47) 9 (by decide) (hts (.fieldLink RX3 31 "SecondHome$Track" "friends" "[I") (by decide +kernel)) rfl dX3_add_49 ?_
      refine lv_iload hx hb dX3_add_52 (lv_at hl 0 rfl) ?_
      refine lv_iconst (v := -1) hx hb dX3_add_54 (by decide) ?_
      refine stTk hx hb hw ho (sUp_s S o T47) 3 (by decide) b31 dX3_add_55 (sUp_u S o T47 _) (fun H locs hw => ?_)
      obtain ⟨T55, eT55, h⟩ := o_nm h
      rw [← eT55] at hw
      refine lv_aload_n hx hb dX3_add_56 rfl (lv_at hl 1 rfl) ?_
      refine gTk (v := .ref (sA G o 5)) hx hb hts hiX3 hown hw ho (sUp_s S o T55) 10 (by decide) (hts (.fieldLink RX3 34 "SecondHome$Track" "starts" "[I") (by decide +kernel)) rfl dX3_add_57 ?_
      refine lv_iload hx hb dX3_add_60 (lv_at hl 0 rfl) ?_
      refine lv_iconst (v := 0) hx hb dX3_add_62 (by decide) ?_
      refine stTk hx hb hw ho (sUp_s S o T55) 4 (by decide) b31 dX3_add_63 (sUp_u S o T55 _) (fun H locs hw => ?_)
      obtain ⟨T63, eT63, h⟩ := o_nm h
      rw [← eT63] at hw
      refine lv_aload_n hx hb dX3_add_64 rfl (lv_at hl 1 rfl) ?_
      refine gTk (v := .ref (sA G o 6)) hx hb hts hiX3 hown hw ho (sUp_s S o T63) 11 (by decide) (hts (.fieldLink RX3 37 "SecondHome$Track" "yards" "[I") (by decide +kernel)) rfl dX3_add_65 ?_
      refine lv_iload hx hb dX3_add_68 (lv_at hl 0 rfl) ?_
      refine lv_iconst (v := 0) hx hb dX3_add_70 (by decide) ?_
      refine stTk hx hb hw ho (sUp_s S o T63) 5 (by decide) b31 dX3_add_71 (sUp_u S o T63 _) (fun H locs hw => ?_)
      obtain ⟨T71, eT71, h⟩ := o_nm h
      rw [← eT71] at hw
      refine lv_aload_n hx hb dX3_add_72 rfl (lv_at hl 1 rfl) ?_
      refine gTk (v := .ref (sA G o 7)) hx hb hts hiX3 hown hw ho (sUp_s S o T71) 12 (by decide) (hts (.fieldLink RX3 40 "SecondHome$Track" "points" "[I") (by decide +kernel)) rfl dX3_add_73 ?_
      refine lv_iload hx hb dX3_add_76 (lv_at hl 0 rfl) ?_
      refine lv_iconst (v := 0) hx hb dX3_add_78 (by decide) ?_
      refine stTk hx hb hw ho (sUp_s S o T71) 6 (by decide) b31 dX3_add_79 (sUp_u S o T71 _) (fun H locs hw => ?_)
      obtain ⟨T79, eT79, h⟩ := o_nm h
      rw [← eT79] at hw
      refine lv_aload_n hx hb dX3_add_80 rfl (lv_at hl 1 rfl) ?_
      refine gTk (v := .ref (sA G o 8)) hx hb hts hiX3 hown hw ho (sUp_s S o T79) 13 (by decide) (hts (.fieldLink RX3 43 "SecondHome$Track" "homes" "[I") (by decide +kernel)) rfl dX3_add_81 ?_
      refine lv_iload hx hb dX3_add_84 (lv_at hl 0 rfl) ?_
      refine lv_iconst (v := -1) hx hb dX3_add_86 (by decide) ?_
      refine stTk hx hb hw ho (sUp_s S o T79) 7 (by decide) b31 dX3_add_87 (sUp_u S o T79 _) (fun H locs hw => ?_)
      obtain ⟨T87, eT87, h⟩ := o_nm h
      rw [← eT87] at hw
      refine lv_aload_n hx hb dX3_add_88 rfl (lv_at hl 1 rfl) ?_
      refine lv_dup hx hb dX3_add_89 rfl ?_
      refine gTk (v := .int (T87.1 4)) hx hb hts hiX3 hown hw ho (sUp_s S o T87) 4 (by decide) (hts (.fieldLink RX3 52 "SecondHome$Track" "count" "I") (by decide +kernel)) rfl dX3_add_90 ?_
      refine lv_iconst (v := 1) hx hb dX3_add_93 (by decide) ?_
      refine lv_iadd hx hb dX3_add_94 ?_
      refine pTk hx hb hts hiX3 hown hw ho (sUp_s S o T87) 4 (by decide) (hts (.fieldLink RX3 52 "SecondHome$Track" "count" "I") (by decide +kernel)) dX3_add_95 (sUp_u S o T87 _) (fun H locs hw => ?_)
      obtain ⟨T95, eT95, h⟩ := o_nm h
      rw [← eT95] at hw
      refine lv_iload hx hb dX3_add_98 (lv_at hl 0 rfl) ?_
      exact rI hQ hx hb hr hlk hw dX3_add_100 (o_2a h) (congrArg (sUp S o) (o_2b h)) rfl
    · replace h := o_f c13 h
      refine lv_iconst (v := -1) hx hb dX3_add_16 (by decide) ?_
      exact rI hQ hx hb hr hlk hw dX3_add_17 (o_2a h) (congrArg (sUp S o) (o_2b h)) rfl
-- X3_has
set_option maxRecDepth 100000 in
set_option maxHeartbeats 4000000 in
theorem kX3_has (l : Launch) (G : sGl) {S : sWo} {M : sOb} {o : Nat} {T : sOb} {a1 : Int32} {q : Int32} (ho : isTk o) (hT : S o = T) (h : fX3_has T a1 = some q) : sCt l G yX3_has wsX3_has rmX3_has [.ref (sA G o 0), .int a1] S M (some (.int q)) S M := by
  refine cMk (cc := cX3_has) (maxL := 2) (ret := (some .boolean)) (by decide) rfl (Nat.le_of_ble_eq_true rfl) ?_
  intro p e s m args below meth c Q hQ hx hb hr hlk hml hown hts hw ls hl
  have hown : s.vm.findClass RX3 = some m.cls := hown
  have hl : lv_has ls 2 [(0, .ref (sA G o 0)), (1, .int a1)] := hl
  have hiX3 : ∀ w ∈ u_ws RX3 TX3 15, w ∈ wsX3_has := by decide +kernel
  unfold fX3_has at h
  refine lv_iload_n hx hb dX3_has_0 rfl (lv_at hl 1 rfl) ?_
  refine lv_if_lt (tgt := 22) hx hb dX3_has_1 (by decide) (fun c1 => ?_) (fun c1 => ?_)
  · replace h := o_t c1 h
    refine lv_iconst (v := 0) hx hb dX3_has_22 (by decide) ?_
    exact rZ hQ hx hb hr hlk hw (Or.inl rfl) dX3_has_23 (o_1 h) rfl rfl
  · replace h := o_f c1 h
    refine lv_iload_n hx hb dX3_has_4 rfl (lv_at hl 1 rfl) ?_
    refine lv_aload_n hx hb dX3_has_5 rfl (lv_at hl 0 rfl) ?_
    refine gTk (v := .int (T.1 4)) hx hb hts hiX3 hown hw ho hT 4 (by decide) (hts (.fieldLink RX3 52 "SecondHome$Track" "count" "I") (by decide +kernel)) rfl dX3_has_6 ?_
    refine lv_icmp_ge (tgt := 22) hx hb dX3_has_9 (by decide) (fun c9 => ?_) (fun c9 => ?_)
    · replace h := o_t c9 h
      refine lv_iconst (v := 0) hx hb dX3_has_22 (by decide) ?_
      exact rZ hQ hx hb hr hlk hw (Or.inl rfl) dX3_has_23 (o_1 h) rfl rfl
    · replace h := o_f c9 h
      refine lv_iload_n hx hb dX3_has_12 rfl (lv_at hl 1 rfl) ?_
      refine lv_bipush (v := 9) hx hb dX3_has_13 (by decide) ?_
      refine lv_icmp_ge (tgt := 22) hx hb dX3_has_15 (by decide) (fun c15 => ?_) (fun c15 => ?_)
      · replace h := o_t c15 h
        refine lv_iconst (v := 0) hx hb dX3_has_22 (by decide) ?_
        exact rZ hQ hx hb hr hlk hw (Or.inl rfl) dX3_has_23 (o_1 h) rfl rfl
      · replace h := o_f c15 h
        refine lv_iconst (v := 1) hx hb dX3_has_18 (by decide) ?_
        refine lv_goto (tgt := 23) hx hb dX3_has_19 (by decide) ?_
        exact rZ hQ hx hb hr hlk hw (Or.inr rfl) dX3_has_23 (o_1 h) rfl rfl
-- X3_changePaces
set_option maxRecDepth 100000 in
set_option maxHeartbeats 4000000 in
theorem kX3_changePaces (l : Launch) (G : sGl) {S : sWo} {M : sOb} {o : Nat} {T : sOb} {a1 : Int32} {a2 : Int32} {q : sOb} (ho : isTk o) (hT : S o = T) (h : fX3_changePaces T a1 a2 = some q) : sCt l G yX3_changePaces wsX3_changePaces rmX3_changePaces [.ref (sA G o 0), .int a1, .int a2] S M none (sUp S o q) M := by
  refine cMk (cc := cX3_changePaces) (maxL := 4) (ret := none) (by decide) rfl (Nat.le_of_ble_eq_true rfl) ?_
  intro p e s m args below meth c Q hQ hx hb hr hlk hml hown hts hw ls hl
  have hown : s.vm.findClass RX3 = some m.cls := hown
  have hl : lv_has ls 4 [(0, .ref (sA G o 0)), (1, .int a1), (2, .int a2)] := hl
  have hiX3 : ∀ w ∈ u_ws RX3 TX3 15, w ∈ wsX3_changePaces := by decide +kernel
  rw [show S = sUp S o T from (by rw [← hT]; exact (sUp_i S o).symm)] at hw
  unfold fX3_changePaces at h
  refine lv_aload_n hx hb dX3_changePaces_0 rfl (lv_at hl 0 rfl) ?_
  refine lv_iload_n hx hb dX3_changePaces_1 rfl (lv_at hl 1 rfl) ?_
  obtain ⟨q2, eq2, h⟩ := o_bd h
  refine kV (As := [.int a1]) (rest := []) (st' := [.int q2]) ⟨hx, hb, hml, hown, hts⟩ (kX3_has l G ho (sUp_s S o T) eq2) (cwV 1 hts gX3_changePaces_X3_has rfl rfl rfl qqX3_has ⟨Nat.le_of_ble_eq_true rfl, Nat.le_of_ble_eq_true rfl⟩) hw (rvTk hw ho) rfl hl.1 rfl (Nat.le_of_ble_eq_true rfl) dX3_changePaces_2 ⟨Nat.zero_le _, Nat.zero_le _⟩ rfl (fun H locs hw => ?_)
  refine lv_if_eq (tgt := 42) hx hb dX3_changePaces_5 (by decide) (fun c5 => ?_) (fun c5 => ?_)
  · replace h := o_t c5 h
    exact rV hQ hx hb hr hlk hw dX3_changePaces_42 (congrArg (sUp S o) (o_1 h)) rfl
  · replace h := o_f c5 h
    refine lv_aload_n hx hb dX3_changePaces_8 rfl (lv_at hl 0 rfl) ?_
    refine lv_iload_n hx hb dX3_changePaces_9 rfl (lv_at hl 2 rfl) ?_
    obtain ⟨q10, eq10, h⟩ := o_bd h
    refine kV (As := [.int a2]) (rest := []) (st' := [.int q10]) ⟨hx, hb, hml, hown, hts⟩ (kX3_has l G ho (sUp_s S o T) eq10) (cwV 1 hts gX3_changePaces_X3_has rfl rfl rfl qqX3_has ⟨Nat.le_of_ble_eq_true rfl, Nat.le_of_ble_eq_true rfl⟩) hw (rvTk hw ho) rfl hl.1 rfl (Nat.le_of_ble_eq_true rfl) dX3_changePaces_10 ⟨Nat.zero_le _, Nat.zero_le _⟩ rfl (fun H locs hw => ?_)
    refine lv_if_eq (tgt := 42) hx hb dX3_changePaces_13 (by decide) (fun c13 => ?_) (fun c13 => ?_)
    · replace h := o_t c13 h
      exact rV hQ hx hb hr hlk hw dX3_changePaces_42 (congrArg (sUp S o) (o_1 h)) rfl
    · replace h := o_f c13 h
      refine lv_aload_n hx hb dX3_changePaces_16 rfl (lv_at hl 0 rfl) ?_
      refine gTk (v := .ref (sA G o 2)) hx hb hts hiX3 hown hw ho (sUp_s S o T) 7 (by decide) (hts (.fieldLink RX3 25 "SecondHome$Track" "paces" "[I") (by decide +kernel)) rfl dX3_changePaces_17 ?_
      refine lv_iload_n hx hb dX3_changePaces_20 rfl (lv_at hl 1 rfl) ?_
      obtain ⟨b21, h⟩ := o_in h
      refine ldTk hx hb hw ho (sUp_s S o T) 1 (by decide) b21 dX3_changePaces_21 ?_
      refine lv_topi (fun v22 ev22 => ?_)
      replace h := o_nx ev22 h
      refine lv_istore_n (lv' := [(3, .int v22), (0, .ref (sA G o 0)), (1, .int a1), (2, .int a2)]) hx hb dX3_changePaces_22 rfl hl (by decide) rfl (fun ls hl => ?_)
      refine lv_aload_n hx hb dX3_changePaces_23 rfl (lv_at hl 1 rfl) ?_
      refine gTk (v := .ref (sA G o 2)) hx hb hts hiX3 hown hw ho (sUp_s S o T) 7 (by decide) (hts (.fieldLink RX3 25 "SecondHome$Track" "paces" "[I") (by decide +kernel)) rfl dX3_changePaces_24 ?_
      refine lv_iload_n hx hb dX3_changePaces_27 rfl (lv_at hl 2 rfl) ?_
      refine lv_aload_n hx hb dX3_changePaces_28 rfl (lv_at hl 1 rfl) ?_
      refine gTk (v := .ref (sA G o 2)) hx hb hts hiX3 hown hw ho (sUp_s S o T) 7 (by decide) (hts (.fieldLink RX3 25 "SecondHome$Track" "paces" "[I") (by decide +kernel)) rfl dX3_changePaces_29 ?_
      refine lv_iload_n hx hb dX3_changePaces_32 rfl (lv_at hl 3 rfl) ?_
      obtain ⟨b33, h⟩ := o_in h
      refine ldTk hx hb hw ho (sUp_s S o T) 1 (by decide) b33 dX3_changePaces_33 ?_
      refine stTk hx hb hw ho (sUp_s S o T) 1 (by decide) b21 dX3_changePaces_34 (sUp_u S o T _) (fun H locs hw => ?_)
      obtain ⟨T34, eT34, h⟩ := o_nm h
      rw [← eT34] at hw
      refine lv_aload_n hx hb dX3_changePaces_35 rfl (lv_at hl 1 rfl) ?_
      refine gTk (v := .ref (sA G o 2)) hx hb hts hiX3 hown hw ho (sUp_s S o T34) 7 (by decide) (hts (.fieldLink RX3 25 "SecondHome$Track" "paces" "[I") (by decide +kernel)) rfl dX3_changePaces_36 ?_
      refine lv_iload_n hx hb dX3_changePaces_39 rfl (lv_at hl 3 rfl) ?_
      refine lv_iload_n hx hb dX3_changePaces_40 rfl (lv_at hl 0 rfl) ?_
      refine stTk hx hb hw ho (sUp_s S o T34) 1 (by decide) b33 dX3_changePaces_41 (sUp_u S o T34 _) (fun H locs hw => ?_)
      obtain ⟨T41, eT41, h⟩ := o_nm h
      rw [← eT41] at hw
      exact rV hQ hx hb hr hlk hw dX3_changePaces_42 (congrArg (sUp S o) (o_1 h)) rfl
-- X3_isStart
set_option maxRecDepth 100000 in
set_option maxHeartbeats 4000000 in
theorem kX3_isStart (l : Launch) (G : sGl) {S : sWo} {M : sOb} {o : Nat} {T : sOb} {a1 : Int32} {q : Int32} (ho : isTk o) (hT : S o = T) (h : fX3_isStart T a1 = some q) : sCt l G yX3_isStart wsX3_isStart rmX3_isStart [.ref (sA G o 0), .int a1] S M (some (.int q)) S M := by
  refine cMk (cc := cX3_isStart) (maxL := 2) (ret := (some .boolean)) (by decide) rfl (Nat.le_of_ble_eq_true rfl) ?_
  intro p e s m args below meth c Q hQ hx hb hr hlk hml hown hts hw ls hl
  have hown : s.vm.findClass RX3 = some m.cls := hown
  have hl : lv_has ls 2 [(0, .ref (sA G o 0)), (1, .int a1)] := hl
  have hiX3 : ∀ w ∈ u_ws RX3 TX3 15, w ∈ wsX3_isStart := by decide +kernel
  unfold fX3_isStart at h
  refine lv_iload_n hx hb dX3_isStart_0 rfl (lv_at hl 1 rfl) ?_
  refine lv_if_lt (tgt := 16) hx hb dX3_isStart_1 (by decide) (fun c1 => ?_) (fun c1 => ?_)
  · replace h := o_t c1 h
    refine lv_iconst (v := 0) hx hb dX3_isStart_16 (by decide) ?_
    exact rZ hQ hx hb hr hlk hw (Or.inl rfl) dX3_isStart_17 (o_1 h) rfl rfl
  · replace h := o_f c1 h
    refine lv_iload_n hx hb dX3_isStart_4 rfl (lv_at hl 1 rfl) ?_
    refine lv_aload_n hx hb dX3_isStart_5 rfl (lv_at hl 0 rfl) ?_
    refine gTk (v := .int (T.1 0)) hx hb hts hiX3 hown hw ho hT 0 (by decide) (hts (.fieldLink RX3 9 "SecondHome$Track" "length" "I") (by decide +kernel)) rfl dX3_isStart_6 ?_
    refine lv_icmp_ge (tgt := 16) hx hb dX3_isStart_9 (by decide) (fun c9 => ?_) (fun c9 => ?_)
    · replace h := o_t c9 h
      refine lv_iconst (v := 0) hx hb dX3_isStart_16 (by decide) ?_
      exact rZ hQ hx hb hr hlk hw (Or.inl rfl) dX3_isStart_17 (o_1 h) rfl rfl
    · replace h := o_f c9 h
      refine lv_iconst (v := 1) hx hb dX3_isStart_12 (by decide) ?_
      refine lv_goto (tgt := 17) hx hb dX3_isStart_13 (by decide) ?_
      exact rZ hQ hx hb hr hlk hw (Or.inr rfl) dX3_isStart_17 (o_1 h) rfl rfl
-- X3_isHome
set_option maxRecDepth 100000 in
set_option maxHeartbeats 4000000 in
theorem kX3_isHome (l : Launch) (G : sGl) {S : sWo} {M : sOb} {o : Nat} {T : sOb} {a1 : Int32} {q : Int32} (ho : isTk o) (hT : S o = T) (h : fX3_isHome T a1 = some q) : sCt l G yX3_isHome wsX3_isHome rmX3_isHome [.ref (sA G o 0), .int a1] S M (some (.int q)) S M := by
  refine cMk (cc := cX3_isHome) (maxL := 2) (ret := (some .boolean)) (by decide) rfl (Nat.le_of_ble_eq_true rfl) ?_
  intro p e s m args below meth c Q hQ hx hb hr hlk hml hown hts hw ls hl
  have hown : s.vm.findClass RX3 = some m.cls := hown
  have hl : lv_has ls 2 [(0, .ref (sA G o 0)), (1, .int a1)] := hl
  have hiX3 : ∀ w ∈ u_ws RX3 TX3 15, w ∈ wsX3_isHome := by decide +kernel
  unfold fX3_isHome at h
  refine lv_aload_n hx hb dX3_isHome_0 rfl (lv_at hl 0 rfl) ?_
  refine lv_iload_n hx hb dX3_isHome_1 rfl (lv_at hl 1 rfl) ?_
  obtain ⟨q2, eq2, h⟩ := o_bd h
  refine kV (As := [.int a1]) (rest := []) (st' := [.int q2]) ⟨hx, hb, hml, hown, hts⟩ (kX3_has l G ho hT eq2) (cwV 1 hts gX3_isHome_X3_has rfl rfl rfl qqX3_has ⟨Nat.le_of_ble_eq_true rfl, Nat.le_of_ble_eq_true rfl⟩) hw (rvTk hw ho) rfl hl.1 rfl (Nat.le_of_ble_eq_true rfl) dX3_isHome_2 ⟨Nat.zero_le _, Nat.zero_le _⟩ rfl (fun H locs hw => ?_)
  refine lv_if_eq (tgt := 21) hx hb dX3_isHome_5 (by decide) (fun c5 => ?_) (fun c5 => ?_)
  · replace h := o_t c5 h
    refine lv_iconst (v := 0) hx hb dX3_isHome_21 (by decide) ?_
    exact rZ hQ hx hb hr hlk hw (Or.inl rfl) dX3_isHome_22 (o_1 h) rfl rfl
  · replace h := o_f c5 h
    refine lv_aload_n hx hb dX3_isHome_8 rfl (lv_at hl 0 rfl) ?_
    refine gTk (v := .ref (sA G o 8)) hx hb hts hiX3 hown hw ho hT 13 (by decide) (hts (.fieldLink RX3 43 "SecondHome$Track" "homes" "[I") (by decide +kernel)) rfl dX3_isHome_9 ?_
    refine lv_iload_n hx hb dX3_isHome_12 rfl (lv_at hl 1 rfl) ?_
    obtain ⟨b13, h⟩ := o_in h
    refine ldTk hx hb hw ho hT 7 (by decide) b13 dX3_isHome_13 ?_
    refine lv_if_lt (tgt := 21) hx hb dX3_isHome_14 (by decide) (fun c14 => ?_) (fun c14 => ?_)
    · replace h := o_t c14 h
      refine lv_iconst (v := 0) hx hb dX3_isHome_21 (by decide) ?_
      exact rZ hQ hx hb hr hlk hw (Or.inl rfl) dX3_isHome_22 (o_1 h) rfl rfl
    · replace h := o_f c14 h
      refine lv_iconst (v := 1) hx hb dX3_isHome_17 (by decide) ?_
      refine lv_goto (tgt := 22) hx hb dX3_isHome_18 (by decide) ?_
      exact rZ hQ hx hb hr hlk hw (Or.inr rfl) dX3_isHome_22 (o_1 h) rfl rfl
-- X3_allHome
set_option maxRecDepth 100000 in
set_option maxHeartbeats 4000000 in
theorem kX3_allHome (l : Launch) (G : sGl) {S : sWo} {M : sOb} {o : Nat} {T : sOb} {q : Int32} (ho : isTk o) (hT : S o = T) (h : fX3_allHome T = some q) : sCt l G yX3_allHome wsX3_allHome rmX3_allHome [.ref (sA G o 0)] S M (some (.int q)) S M := by
  refine cMk (cc := cX3_allHome) (maxL := 1) (ret := (some .boolean)) (by decide) rfl (Nat.le_of_ble_eq_true rfl) ?_
  intro p e s m args below meth c Q hQ hx hb hr hlk hml hown hts hw ls hl
  have hown : s.vm.findClass RX3 = some m.cls := hown
  have hl : lv_has ls 1 [(0, .ref (sA G o 0))] := hl
  have hiX3 : ∀ w ∈ u_ws RX3 TX3 15, w ∈ wsX3_allHome := by decide +kernel
  unfold fX3_allHome at h
  refine lv_aload_n hx hb dX3_allHome_0 rfl (lv_at hl 0 rfl) ?_
  refine gTk (v := .int (T.1 5)) hx hb hts hiX3 hown hw ho hT 5 (by decide) (hts (.fieldLink RX3 55 "SecondHome$Track" "homeCount" "I") (by decide +kernel)) rfl dX3_allHome_1 ?_
  refine lv_aload_n hx hb dX3_allHome_4 rfl (lv_at hl 0 rfl) ?_
  refine gTk (v := .int (T.1 4)) hx hb hts hiX3 hown hw ho hT 4 (by decide) (hts (.fieldLink RX3 52 "SecondHome$Track" "count" "I") (by decide +kernel)) rfl dX3_allHome_5 ?_
  refine lv_icmp_lt (tgt := 15) hx hb dX3_allHome_8 (by decide) (fun c8 => ?_) (fun c8 => ?_)
  · replace h := o_t c8 h
    refine lv_iconst (v := 0) hx hb dX3_allHome_15 (by decide) ?_
    exact rZ hQ hx hb hr hlk hw (Or.inl rfl) dX3_allHome_16 (o_1 h) rfl rfl
  · replace h := o_f c8 h
    refine lv_iconst (v := 1) hx hb dX3_allHome_11 (by decide) ?_
    refine lv_goto (tgt := 16) hx hb dX3_allHome_12 (by decide) ?_
    exact rZ hQ hx hb hr hlk hw (Or.inr rfl) dX3_allHome_16 (o_1 h) rfl rfl
-- X3_lineUp
set_option maxRecDepth 100000 in
set_option maxHeartbeats 4000000 in
theorem kX3_lineUp (l : Launch) (G : sGl) {S : sWo} {M : sOb} {o : Nat} {T : sOb} {q : sOb} (ho : isTk o) (hT : S o = T) (h : fX3_lineUp T = some q) : sCt l G yX3_lineUp wsX3_lineUp rmX3_lineUp [.ref (sA G o 0)] S M none (sUp S o q) M := by
  refine cMk (cc := cX3_lineUp) (maxL := 2) (ret := none) (by decide) rfl (Nat.le_of_ble_eq_true rfl) ?_
  intro p e s m args below meth c Q hQ hx hb hr hlk hml hown hts hw ls hl
  have hown : s.vm.findClass RX3 = some m.cls := hown
  have hl : lv_has ls 2 [(0, .ref (sA G o 0))] := hl
  have hiX3 : ∀ w ∈ u_ws RX3 TX3 15, w ∈ wsX3_lineUp := by decide +kernel
  rw [show S = sUp S o T from (by rw [← hT]; exact (sUp_i S o).symm)] at hw
  unfold fX3_lineUp at h
  refine lv_iconst (v := 0) hx hb dX3_lineUp_0 (by decide) ?_
  refine lv_istore_n (lv' := [(1, .int (0 : Int32)), (0, .ref (sA G o 0))]) hx hb dX3_lineUp_1 rfl hl (by decide) rfl (fun ls hl => ?_)
  refine fx2_w (F := bX3_lineUp_2) (P := fun x1_2 T_2 => ∀ (H : Heap) (locs : List Loc) (ls : Array Slot), sHw G s (sUp S o T_2) M H locs → lv_has ls 2 [(0, .ref (sA G o 0)), (1, .int x1_2)] → W p l e rmX3_lineUp s m args below meth c H locs 0 0 Q (F0 m 2 ls [])) ?_ _ _ _ h _ _ _ hw (lv_sub hl [1, 0] rfl)
  intro rc2 IH2 x1_2 T_2 h H locs ls hw hl
  unfold bX3_lineUp_2 at h
  refine lv_iload_n hx hb dX3_lineUp_2 rfl (lv_at hl 1 rfl) ?_
  refine lv_aload_n hx hb dX3_lineUp_3 rfl (lv_at hl 0 rfl) ?_
  refine gTk (v := .int (T_2.1 4)) hx hb hts hiX3 hown hw ho (sUp_s S o T_2) 4 (by decide) (hts (.fieldLink RX3 52 "SecondHome$Track" "count" "I") (by decide +kernel)) rfl dX3_lineUp_4 ?_
  refine lv_icmp_ge (tgt := 35) hx hb dX3_lineUp_7 (by decide) (fun c7 => ?_) (fun c7 => ?_)
  · replace h := o_t c7 h
    refine lv_aload_n hx hb dX3_lineUp_35 rfl (lv_at hl 0 rfl) ?_
    refine lv_iconst (v := 0) hx hb dX3_lineUp_36 (by decide) ?_
    refine pTk hx hb hts hiX3 hown hw ho (sUp_s S o T_2) 3 (by decide) (hts (.fieldLink RX3 49 "SecondHome$Track" "second" "I") (by decide +kernel)) dX3_lineUp_37 (sUp_u S o T_2 _) (fun H locs hw => ?_)
    obtain ⟨T37, eT37, h⟩ := o_nm h
    rw [← eT37] at hw
    refine lv_aload_n hx hb dX3_lineUp_40 rfl (lv_at hl 0 rfl) ?_
    refine lv_iconst (v := 0) hx hb dX3_lineUp_41 (by decide) ?_
    refine pTk hx hb hts hiX3 hown hw ho (sUp_s S o T37) 5 (by decide) (hts (.fieldLink RX3 55 "SecondHome$Track" "homeCount" "I") (by decide +kernel)) dX3_lineUp_42 (sUp_u S o T37 _) (fun H locs hw => ?_)
    obtain ⟨T42, eT42, h⟩ := o_nm h
    rw [← eT42] at hw
    exact rV hQ hx hb hr hlk hw dX3_lineUp_45 (congrArg (sUp S o) (o_1 h)) rfl
  · replace h := o_f c7 h
    refine lv_aload_n hx hb dX3_lineUp_10 rfl (lv_at hl 0 rfl) ?_
    refine gTk (v := .ref (sA G o 6)) hx hb hts hiX3 hown hw ho (sUp_s S o T_2) 11 (by decide) (hts (.fieldLink RX3 37 "SecondHome$Track" "yards" "[I") (by decide +kernel)) rfl dX3_lineUp_11 ?_
    refine lv_iload_n hx hb dX3_lineUp_14 rfl (lv_at hl 1 rfl) ?_
    refine lv_aload_n hx hb dX3_lineUp_15 rfl (lv_at hl 0 rfl) ?_
    refine gTk (v := .ref (sA G o 5)) hx hb hts hiX3 hown hw ho (sUp_s S o T_2) 10 (by decide) (hts (.fieldLink RX3 34 "SecondHome$Track" "starts" "[I") (by decide +kernel)) rfl dX3_lineUp_16 ?_
    refine lv_iload_n hx hb dX3_lineUp_19 rfl (lv_at hl 1 rfl) ?_
    obtain ⟨b20, h⟩ := o_in h
    refine ldTk hx hb hw ho (sUp_s S o T_2) 4 (by decide) b20 dX3_lineUp_20 ?_
    refine stTk hx hb hw ho (sUp_s S o T_2) 5 (by decide) b20 dX3_lineUp_21 (sUp_u S o T_2 _) (fun H locs hw => ?_)
    obtain ⟨T21, eT21, h⟩ := o_nm h
    rw [← eT21] at hw
    refine lv_aload_n hx hb dX3_lineUp_22 rfl (lv_at hl 0 rfl) ?_
    refine gTk (v := .ref (sA G o 8)) hx hb hts hiX3 hown hw ho (sUp_s S o T21) 13 (by decide) (hts (.fieldLink RX3 43 "SecondHome$Track" "homes" "[I") (by decide +kernel)) rfl dX3_lineUp_23 ?_
    refine lv_iload_n hx hb dX3_lineUp_26 rfl (lv_at hl 1 rfl) ?_
    refine lv_iconst (v := -1) hx hb dX3_lineUp_27 (by decide) ?_
    refine stTk hx hb hw ho (sUp_s S o T21) 7 (by decide) b20 dX3_lineUp_28 (sUp_u S o T21 _) (fun H locs hw => ?_)
    obtain ⟨T28, eT28, h⟩ := o_nm h
    rw [← eT28] at hw
    obtain ⟨v29, ev29, h⟩ := o_nm h
    refine lv_iinc (v := v29) (lv' := [(1, .int v29), (0, .ref (sA G o 0))]) hx hb dX3_lineUp_29 hl (k := 1) rfl (by rw [ev29]; rfl) (by decide) rfl (fun ls hl => ?_)
    refine lv_goto (tgt := 2) hx hb dX3_lineUp_32 (by decide) ?_
    exact IH2 v29 T28 h _ _ _ hw (lv_sub hl [1, 0] rfl)
-- X3_firstAlone
set_option maxRecDepth 100000 in
set_option maxHeartbeats 4000000 in
theorem kX3_firstAlone (l : Launch) (G : sGl) {S : sWo} {M : sOb} {o : Nat} {T : sOb} {q : Int32} (ho : isTk o) (hT : S o = T) (h : fX3_firstAlone T = some q) : sCt l G yX3_firstAlone wsX3_firstAlone rmX3_firstAlone [.ref (sA G o 0)] S M (some (.int q)) S M := by
  refine cMk (cc := cX3_firstAlone) (maxL := 4) (ret := (some .int)) (by decide) rfl (Nat.le_of_ble_eq_true rfl) ?_
  intro p e s m args below meth c Q hQ hx hb hr hlk hml hown hts hw ls hl
  have hown : s.vm.findClass RX3 = some m.cls := hown
  have hl : lv_has ls 4 [(0, .ref (sA G o 0))] := hl
  have hiX3 : ∀ w ∈ u_ws RX3 TX3 15, w ∈ wsX3_firstAlone := by decide +kernel
  unfold fX3_firstAlone at h
  refine lv_iconst (v := -1) hx hb dX3_firstAlone_0 (by decide) ?_
  refine lv_istore_n (lv' := [(1, .int (-1 : Int32)), (0, .ref (sA G o 0))]) hx hb dX3_firstAlone_1 rfl hl (by decide) rfl (fun ls hl => ?_)
  refine lv_iconst (v := -1) hx hb dX3_firstAlone_2 (by decide) ?_
  refine lv_istore_n (lv' := [(2, .int (-1 : Int32)), (1, .int (-1 : Int32)), (0, .ref (sA G o 0))]) hx hb dX3_firstAlone_3 rfl hl (by decide) rfl (fun ls hl => ?_)
  refine lv_iconst (v := 0) hx hb dX3_firstAlone_4 (by decide) ?_
  refine lv_istore_n (lv' := [(3, .int (0 : Int32)), (2, .int (-1 : Int32)), (1, .int (-1 : Int32)), (0, .ref (sA G o 0))]) hx hb dX3_firstAlone_5 rfl hl (by decide) rfl (fun ls hl => ?_)
  refine fx3_w (F := (bX3_firstAlone_6 T)) (P := fun x1_6 x2_6 x3_6 => ∀ (H : Heap) (locs : List Loc) (ls : Array Slot), sHw G s S M H locs → lv_has ls 4 [(0, .ref (sA G o 0)), (1, .int x1_6), (2, .int x2_6), (3, .int x3_6)] → W p l e rmX3_firstAlone s m args below meth c H locs 0 0 Q (F0 m 6 ls [])) ?_ _ _ _ _ h _ _ _ hw (lv_sub hl [3, 2, 1, 0] rfl)
  intro rc6 IH6 x1_6 x2_6 x3_6 h H locs ls hw hl
  unfold bX3_firstAlone_6 at h
  refine lv_iload_n hx hb dX3_firstAlone_6 rfl (lv_at hl 3 rfl) ?_
  refine lv_aload_n hx hb dX3_firstAlone_7 rfl (lv_at hl 0 rfl) ?_
  refine gTk (v := .int (T.1 4)) hx hb hts hiX3 hown hw ho hT 4 (by decide) (hts (.fieldLink RX3 52 "SecondHome$Track" "count" "I") (by decide +kernel)) rfl dX3_firstAlone_8 ?_
  refine lv_icmp_ge (tgt := 66) hx hb dX3_firstAlone_11 (by decide) (fun c11 => ?_) (fun c11 => ?_)
  · replace h := o_t c11 h
    refine lv_iload_n hx hb dX3_firstAlone_66 rfl (lv_at hl 1 rfl) ?_
    exact rI hQ hx hb hr hlk hw dX3_firstAlone_67 (o_1 h) rfl rfl
  · replace h := o_f c11 h
    refine lv_aload_n hx hb dX3_firstAlone_14 rfl (lv_at hl 0 rfl) ?_
    refine gTk (v := .ref (sA G o 8)) hx hb hts hiX3 hown hw ho hT 13 (by decide) (hts (.fieldLink RX3 43 "SecondHome$Track" "homes" "[I") (by decide +kernel)) rfl dX3_firstAlone_15 ?_
    refine lv_iload_n hx hb dX3_firstAlone_18 rfl (lv_at hl 3 rfl) ?_
    obtain ⟨b19, h⟩ := o_in h
    refine ldTk hx hb hw ho hT 7 (by decide) b19 dX3_firstAlone_19 ?_
    refine lv_if_lt (tgt := 26) hx hb dX3_firstAlone_20 (by decide) (fun c20 => ?_) (fun c20 => ?_)
    · replace h := o_t c20 h
      refine lv_aload_n hx hb dX3_firstAlone_26 rfl (lv_at hl 0 rfl) ?_
      refine gTk (v := .ref (sA G o 6)) hx hb hts hiX3 hown hw ho hT 11 (by decide) (hts (.fieldLink RX3 37 "SecondHome$Track" "yards" "[I") (by decide +kernel)) rfl dX3_firstAlone_27 ?_
      refine lv_iload_n hx hb dX3_firstAlone_30 rfl (lv_at hl 3 rfl) ?_
      refine ldTk hx hb hw ho hT 5 (by decide) b19 dX3_firstAlone_31 ?_
      refine lv_iload_n hx hb dX3_firstAlone_32 rfl (lv_at hl 2 rfl) ?_
      refine lv_icmp_le (tgt := 48) hx hb dX3_firstAlone_33 (by decide) (fun c33 => ?_) (fun c33 => ?_)
      · replace h := o_t c33 h
        refine lv_aload_n hx hb dX3_firstAlone_48 rfl (lv_at hl 0 rfl) ?_
        refine gTk (v := .ref (sA G o 6)) hx hb hts hiX3 hown hw ho hT 11 (by decide) (hts (.fieldLink RX3 37 "SecondHome$Track" "yards" "[I") (by decide +kernel)) rfl dX3_firstAlone_49 ?_
        refine lv_iload_n hx hb dX3_firstAlone_52 rfl (lv_at hl 3 rfl) ?_
        refine ldTk hx hb hw ho hT 5 (by decide) b19 dX3_firstAlone_53 ?_
        refine lv_iload_n hx hb dX3_firstAlone_54 rfl (lv_at hl 2 rfl) ?_
        refine lv_icmp_ne (tgt := 60) hx hb dX3_firstAlone_55 (by decide) (fun c55 => ?_) (fun c55 => ?_)
        · replace h := o_f c55 h
          obtain ⟨v60, ev60, h⟩ := o_nm h
          refine lv_iinc (v := v60) (lv' := [(3, .int v60), (0, .ref (sA G o 0)), (1, .int x1_6), (2, .int x2_6)]) hx hb dX3_firstAlone_60 hl (k := 3) rfl (by rw [ev60]; rfl) (by decide) rfl (fun ls hl => ?_)
          refine lv_goto (tgt := 6) hx hb dX3_firstAlone_63 (by decide) ?_
          exact IH6 x1_6 x2_6 v60 h _ _ _ hw (lv_sub hl [1, 2, 3, 0] rfl)
        · replace h := o_t c55 h
          refine lv_iconst (v := -1) hx hb dX3_firstAlone_58 (by decide) ?_
          refine lv_istore_n (lv' := [(1, .int (-1 : Int32)), (0, .ref (sA G o 0)), (2, .int x2_6), (3, .int x3_6)]) hx hb dX3_firstAlone_59 rfl hl (by decide) rfl (fun ls hl => ?_)
          obtain ⟨v60, ev60, h⟩ := o_nm h
          refine lv_iinc (v := v60) (lv' := [(3, .int v60), (1, .int (-1 : Int32)), (0, .ref (sA G o 0)), (2, .int x2_6)]) hx hb dX3_firstAlone_60 hl (k := 3) rfl (by rw [ev60]; rfl) (by decide) rfl (fun ls hl => ?_)
          refine lv_goto (tgt := 6) hx hb dX3_firstAlone_63 (by decide) ?_
          exact IH6 (-1 : Int32) x2_6 v60 h _ _ _ hw (lv_sub hl [2, 1, 3, 0] rfl)
      · replace h := o_f c33 h
        refine lv_aload_n hx hb dX3_firstAlone_36 rfl (lv_at hl 0 rfl) ?_
        refine gTk (v := .ref (sA G o 6)) hx hb hts hiX3 hown hw ho hT 11 (by decide) (hts (.fieldLink RX3 37 "SecondHome$Track" "yards" "[I") (by decide +kernel)) rfl dX3_firstAlone_37 ?_
        refine lv_iload_n hx hb dX3_firstAlone_40 rfl (lv_at hl 3 rfl) ?_
        refine ldTk hx hb hw ho hT 5 (by decide) b19 dX3_firstAlone_41 ?_
        refine lv_topi (fun v42 ev42 => ?_)
        replace h := o_nx ev42 h
        refine lv_istore_n (lv' := [(2, .int v42), (0, .ref (sA G o 0)), (1, .int x1_6), (3, .int x3_6)]) hx hb dX3_firstAlone_42 rfl hl (by decide) rfl (fun ls hl => ?_)
        refine lv_iload_n hx hb dX3_firstAlone_43 rfl (lv_at hl 3 rfl) ?_
        refine lv_istore_n (lv' := [(1, .int x3_6), (2, .int v42), (0, .ref (sA G o 0)), (3, .int x3_6)]) hx hb dX3_firstAlone_44 rfl hl (by decide) rfl (fun ls hl => ?_)
        refine lv_goto (tgt := 60) hx hb dX3_firstAlone_45 (by decide) ?_
        obtain ⟨v60, ev60, h⟩ := o_nm h
        refine lv_iinc (v := v60) (lv' := [(3, .int v60), (1, .int x3_6), (2, .int v42), (0, .ref (sA G o 0))]) hx hb dX3_firstAlone_60 hl (k := 3) rfl (by rw [ev60]; rfl) (by decide) rfl (fun ls hl => ?_)
        refine lv_goto (tgt := 6) hx hb dX3_firstAlone_63 (by decide) ?_
        exact IH6 x3_6 v42 v60 h _ _ _ hw (lv_sub hl [3, 1, 2, 0] rfl)
    · replace h := o_f c20 h
      refine lv_goto (tgt := 60) hx hb dX3_firstAlone_23 (by decide) ?_
      obtain ⟨v60, ev60, h⟩ := o_nm h
      refine lv_iinc (v := v60) (lv' := [(3, .int v60), (0, .ref (sA G o 0)), (1, .int x1_6), (2, .int x2_6)]) hx hb dX3_firstAlone_60 hl (k := 3) rfl (by rw [ev60]; rfl) (by decide) rfl (fun ls hl => ?_)
      refine lv_goto (tgt := 6) hx hb dX3_firstAlone_63 (by decide) ?_
      exact IH6 x1_6 x2_6 v60 h _ _ _ hw (lv_sub hl [1, 2, 3, 0] rfl)
-- X3_holderWish
set_option maxRecDepth 100000 in
set_option maxHeartbeats 4000000 in
theorem kX3_holderWish (l : Launch) (G : sGl) {S : sWo} {M : sOb} {o : Nat} {T : sOb} {a1 : Int32} {a2 : Int32} {q : Int32} (ho : isTk o) (hT : S o = T) (h : fX3_holderWish T a1 a2 = some q) : sCt l G yX3_holderWish wsX3_holderWish rmX3_holderWish [.ref (sA G o 0), .int a1, .int a2] S M (some (.int q)) S M := by
  refine cMk (cc := cX3_holderWish) (maxL := 3) (ret := (some .int)) (by decide) rfl (Nat.le_of_ble_eq_true rfl) ?_
  intro p e s m args below meth c Q hQ hx hb hr hlk hml hown hts hw ls hl
  have hown : s.vm.findClass RX3 = some m.cls := hown
  have hl : lv_has ls 3 [(0, .ref (sA G o 0)), (1, .int a1), (2, .int a2)] := hl
  have hiX3 : ∀ w ∈ u_ws RX3 TX3 15, w ∈ wsX3_holderWish := by decide +kernel
  unfold fX3_holderWish at h
  refine lv_iload_n hx hb dX3_holderWish_0 rfl (lv_at hl 1 rfl) ?_
  refine lv_iload_n hx hb dX3_holderWish_1 rfl (lv_at hl 2 rfl) ?_
  refine lv_icmp_ne (tgt := 29) hx hb dX3_holderWish_2 (by decide) (fun c2 => ?_) (fun c2 => ?_)
  · replace h := o_f c2 h
    refine lv_aload_n hx hb dX3_holderWish_29 rfl (lv_at hl 0 rfl) ?_
    refine gTk (v := .ref (sA G o 2)) hx hb hts hiX3 hown hw ho hT 7 (by decide) (hts (.fieldLink RX3 25 "SecondHome$Track" "paces" "[I") (by decide +kernel)) rfl dX3_holderWish_30 ?_
    refine lv_iload_n hx hb dX3_holderWish_33 rfl (lv_at hl 1 rfl) ?_
    obtain ⟨b34, h⟩ := o_in h
    refine ldTk hx hb hw ho hT 1 (by decide) b34 dX3_holderWish_34 ?_
    exact rI hQ hx hb hr hlk hw dX3_holderWish_35 (o_1 h) rfl rfl
  · replace h := o_t c2 h
    refine lv_iconst (v := 4) hx hb dX3_holderWish_5 (by decide) ?_
    refine lv_aload_n hx hb dX3_holderWish_6 rfl (lv_at hl 0 rfl) ?_
    refine gTk (v := .ref (sA G o 6)) hx hb hts hiX3 hown hw ho hT 11 (by decide) (hts (.fieldLink RX3 37 "SecondHome$Track" "yards" "[I") (by decide +kernel)) rfl dX3_holderWish_7 ?_
    refine lv_iload_n hx hb dX3_holderWish_10 rfl (lv_at hl 1 rfl) ?_
    obtain ⟨b11, h⟩ := o_in h
    refine ldTk hx hb hw ho hT 5 (by decide) b11 dX3_holderWish_11 ?_
    refine lv_imul hx hb dX3_holderWish_12 ?_
    refine lv_iconst (v := 3) hx hb dX3_holderWish_13 (by decide) ?_
    refine lv_aload_n hx hb dX3_holderWish_14 rfl (lv_at hl 0 rfl) ?_
    refine gTk (v := .int (T.1 0)) hx hb hts hiX3 hown hw ho hT 0 (by decide) (hts (.fieldLink RX3 9 "SecondHome$Track" "length" "I") (by decide +kernel)) rfl dX3_holderWish_15 ?_
    refine lv_imul hx hb dX3_holderWish_18 ?_
    refine lv_icmp_lt (tgt := 29) hx hb dX3_holderWish_19 (by decide) (fun c19 => ?_) (fun c19 => ?_)
    · replace h := o_t c19 h
      refine lv_aload_n hx hb dX3_holderWish_29 rfl (lv_at hl 0 rfl) ?_
      refine gTk (v := .ref (sA G o 2)) hx hb hts hiX3 hown hw ho hT 7 (by decide) (hts (.fieldLink RX3 25 "SecondHome$Track" "paces" "[I") (by decide +kernel)) rfl dX3_holderWish_30 ?_
      refine lv_iload_n hx hb dX3_holderWish_33 rfl (lv_at hl 1 rfl) ?_
      refine ldTk hx hb hw ho hT 1 (by decide) b11 dX3_holderWish_34 ?_
      exact rI hQ hx hb hr hlk hw dX3_holderWish_35 (o_1 h) rfl rfl
    · replace h := o_f c19 h
      refine lv_aload_n hx hb dX3_holderWish_22 rfl (lv_at hl 0 rfl) ?_
      refine gTk (v := .int (T.1 1)) hx hb hts hiX3 hown hw ho hT 1 (by decide) (hts (.fieldLink RX3 15 "SecondHome$Track" "least" "I") (by decide +kernel)) rfl dX3_holderWish_23 ?_
      refine lv_goto (tgt := 35) hx hb dX3_holderWish_26 (by decide) ?_
      exact rI hQ hx hb hr hlk hw dX3_holderWish_35 (o_1 h) rfl rfl
-- X3_keeperWish
set_option maxRecDepth 100000 in
set_option maxHeartbeats 4000000 in
theorem kX3_keeperWish (l : Launch) (G : sGl) {S : sWo} {M : sOb} {o : Nat} {T : sOb} {a1 : Int32} {q : Int32} (ho : isTk o) (hT : S o = T) (h : fX3_keeperWish T a1 = some q) : sCt l G yX3_keeperWish wsX3_keeperWish rmX3_keeperWish [.ref (sA G o 0), .int a1] S M (some (.int q)) S M := by
  refine cMk (cc := cX3_keeperWish) (maxL := 3) (ret := (some .int)) (by decide) rfl (Nat.le_of_ble_eq_true rfl) ?_
  intro p e s m args below meth c Q hQ hx hb hr hlk hml hown hts hw ls hl
  have hown : s.vm.findClass RX3 = some m.cls := hown
  have hl : lv_has ls 3 [(0, .ref (sA G o 0)), (1, .int a1)] := hl
  have hiX3 : ∀ w ∈ u_ws RX3 TX3 15, w ∈ wsX3_keeperWish := by decide +kernel
  unfold fX3_keeperWish at h
  refine lv_aload_n hx hb dX3_keeperWish_0 rfl (lv_at hl 0 rfl) ?_
  refine gTk (v := .ref (sA G o 4)) hx hb hts hiX3 hown hw ho hT 9 (by decide) (hts (.fieldLink RX3 31 "SecondHome$Track" "friends" "[I") (by decide +kernel)) rfl dX3_keeperWish_1 ?_
  refine lv_iload_n hx hb dX3_keeperWish_4 rfl (lv_at hl 1 rfl) ?_
  obtain ⟨b5, h⟩ := o_in h
  refine ldTk hx hb hw ho hT 3 (by decide) b5 dX3_keeperWish_5 ?_
  refine lv_topi (fun v6 ev6 => ?_)
  replace h := o_nx ev6 h
  refine lv_istore_n (lv' := [(2, .int v6), (0, .ref (sA G o 0)), (1, .int a1)]) hx hb dX3_keeperWish_6 rfl hl (by decide) rfl (fun ls hl => ?_)
  refine lv_aload_n hx hb dX3_keeperWish_7 rfl (lv_at hl 1 rfl) ?_
  refine lv_iload_n hx hb dX3_keeperWish_8 rfl (lv_at hl 0 rfl) ?_
  obtain ⟨q9, eq9, h⟩ := o_bd h
  refine kV (As := [.int v6]) (rest := []) (st' := [.int q9]) ⟨hx, hb, hml, hown, hts⟩ (kX3_has l G ho hT eq9) (cwV 1 hts gX3_keeperWish_X3_has rfl rfl rfl qqX3_has ⟨Nat.le_of_ble_eq_true rfl, Nat.le_of_ble_eq_true rfl⟩) hw (rvTk hw ho) rfl hl.1 rfl (Nat.le_of_ble_eq_true rfl) dX3_keeperWish_9 ⟨Nat.zero_le _, Nat.zero_le _⟩ rfl (fun H locs hw => ?_)
  refine lv_if_eq (tgt := 24) hx hb dX3_keeperWish_12 (by decide) (fun c12 => ?_) (fun c12 => ?_)
  · replace h := o_t c12 h
    refine lv_aload_n hx hb dX3_keeperWish_24 rfl (lv_at hl 1 rfl) ?_
    refine gTk (v := .ref (sA G o 2)) hx hb hts hiX3 hown hw ho hT 7 (by decide) (hts (.fieldLink RX3 25 "SecondHome$Track" "paces" "[I") (by decide +kernel)) rfl dX3_keeperWish_25 ?_
    refine lv_iload_n hx hb dX3_keeperWish_28 rfl (lv_at hl 2 rfl) ?_
    refine ldTk hx hb hw ho hT 1 (by decide) b5 dX3_keeperWish_29 ?_
    exact rI hQ hx hb hr hlk hw dX3_keeperWish_30 (o_1 h) rfl rfl
  · replace h := o_f c12 h
    refine lv_aload_n hx hb dX3_keeperWish_15 rfl (lv_at hl 1 rfl) ?_
    refine gTk (v := .ref (sA G o 8)) hx hb hts hiX3 hown hw ho hT 13 (by decide) (hts (.fieldLink RX3 43 "SecondHome$Track" "homes" "[I") (by decide +kernel)) rfl dX3_keeperWish_16 ?_
    refine lv_iload_n hx hb dX3_keeperWish_19 rfl (lv_at hl 0 rfl) ?_
    obtain ⟨b20, h⟩ := o_in h
    refine ldTk hx hb hw ho hT 7 (by decide) b20 dX3_keeperWish_20 ?_
    refine lv_if_lt (tgt := 31) hx hb dX3_keeperWish_21 (by decide) (fun c21 => ?_) (fun c21 => ?_)
    · replace h := o_t c21 h
      refine lv_iconst (v := 1) hx hb dX3_keeperWish_31 (by decide) ?_
      refine lv_aload_n hx hb dX3_keeperWish_32 rfl (lv_at hl 1 rfl) ?_
      refine gTk (v := .ref (sA G o 2)) hx hb hts hiX3 hown hw ho hT 7 (by decide) (hts (.fieldLink RX3 25 "SecondHome$Track" "paces" "[I") (by decide +kernel)) rfl dX3_keeperWish_33 ?_
      refine lv_iload_n hx hb dX3_keeperWish_36 rfl (lv_at hl 2 rfl) ?_
      refine ldTk hx hb hw ho hT 1 (by decide) b5 dX3_keeperWish_37 ?_
      refine lv_aload_n hx hb dX3_keeperWish_38 rfl (lv_at hl 1 rfl) ?_
      refine gTk (v := .ref (sA G o 6)) hx hb hts hiX3 hown hw ho hT 11 (by decide) (hts (.fieldLink RX3 37 "SecondHome$Track" "yards" "[I") (by decide +kernel)) rfl dX3_keeperWish_39 ?_
      refine lv_iload_n hx hb dX3_keeperWish_42 rfl (lv_at hl 0 rfl) ?_
      refine ldTk hx hb hw ho hT 5 (by decide) b20 dX3_keeperWish_43 ?_
      refine lv_aload_n hx hb dX3_keeperWish_44 rfl (lv_at hl 1 rfl) ?_
      refine gTk (v := .ref (sA G o 6)) hx hb hts hiX3 hown hw ho hT 11 (by decide) (hts (.fieldLink RX3 37 "SecondHome$Track" "yards" "[I") (by decide +kernel)) rfl dX3_keeperWish_45 ?_
      refine lv_iload_n hx hb dX3_keeperWish_48 rfl (lv_at hl 2 rfl) ?_
      refine ldTk hx hb hw ho hT 5 (by decide) b5 dX3_keeperWish_49 ?_
      refine lv_isub hx hb dX3_keeperWish_50 ?_
      refine va_mmin hx hb (hml.trans hl.1.symm) hown (hts (.methodLink RX3 76 Lib.Math.min.name) (by decide +kernel)) (hts (.static Lib.Math.min.name) (by decide +kernel)) (hts (.initialized "java/lang/Math") (by decide +kernel)) (hts (.code Lib.Math.min.name Lib.Math.min.code 2 (some .int)) (by decide +kernel)) (Nat.le_of_ble_eq_true rfl) (Nat.le_of_ble_eq_true rfl) (Nat.zero_le _) (Nat.zero_le _) dX3_keeperWish_51 ?_
      refine va_mmax hx hb (hml.trans hl.1.symm) hown (hts (.methodLink RX3 81 Lib.Math.max.name) (by decide +kernel)) (hts (.static Lib.Math.max.name) (by decide +kernel)) (hts (.initialized "java/lang/Math") (by decide +kernel)) (hts (.code Lib.Math.max.name Lib.Math.max.code 2 (some .int)) (by decide +kernel)) (Nat.le_of_ble_eq_true rfl) (Nat.le_of_ble_eq_true rfl) (Nat.zero_le _) (Nat.zero_le _) dX3_keeperWish_54 ?_
      exact rI hQ hx hb hr hlk hw dX3_keeperWish_57 (o_1 h) rfl rfl
    · replace h := o_f c21 h
      refine lv_aload_n hx hb dX3_keeperWish_24 rfl (lv_at hl 1 rfl) ?_
      refine gTk (v := .ref (sA G o 2)) hx hb hts hiX3 hown hw ho hT 7 (by decide) (hts (.fieldLink RX3 25 "SecondHome$Track" "paces" "[I") (by decide +kernel)) rfl dX3_keeperWish_25 ?_
      refine lv_iload_n hx hb dX3_keeperWish_28 rfl (lv_at hl 2 rfl) ?_
      refine ldTk hx hb hw ho hT 1 (by decide) b5 dX3_keeperWish_29 ?_
      exact rI hQ hx hb hr hlk hw dX3_keeperWish_30 (o_1 h) rfl rfl
-- X3_sprinterWish
set_option maxRecDepth 100000 in
set_option maxHeartbeats 4000000 in
theorem kX3_sprinterWish (l : Launch) (G : sGl) {S : sWo} {M : sOb} {o : Nat} {T : sOb} {a1 : Int32} {a2 : Int32} {q : Int32} (ho : isTk o) (hT : S o = T) (h : fX3_sprinterWish T a1 a2 = some q) : sCt l G yX3_sprinterWish wsX3_sprinterWish rmX3_sprinterWish [.ref (sA G o 0), .int a1, .int a2] S M (some (.int q)) S M := by
  refine cMk (cc := cX3_sprinterWish) (maxL := 5) (ret := (some .int)) (by decide) rfl (Nat.le_of_ble_eq_true rfl) ?_
  intro p e s m args below meth c Q hQ hx hb hr hlk hml hown hts hw ls hl
  have hown : s.vm.findClass RX3 = some m.cls := hown
  have hl : lv_has ls 5 [(0, .ref (sA G o 0)), (1, .int a1), (2, .int a2)] := hl
  have hiX3 : ∀ w ∈ u_ws RX3 TX3 15, w ∈ wsX3_sprinterWish := by decide +kernel
  unfold fX3_sprinterWish at h
  refine lv_iload_n hx hb dX3_sprinterWish_0 rfl (lv_at hl 1 rfl) ?_
  refine lv_iload_n hx hb dX3_sprinterWish_1 rfl (lv_at hl 2 rfl) ?_
  obtain ⟨k17, ek17, h⟩ := o_nm h
  have J17 : ∀ (y0_17 : Int32) (H : Heap) (locs : List Loc) (ls : Array Slot), sHw G s S M H locs → lv_has ls 5 [(0, .ref (sA G o 0)), (1, .int a1), (2, .int a2)] → k17 y0_17 = some q → W p l e rmX3_sprinterWish s m args below meth c H locs 0 0 Q (F0 m 17 ls [.int y0_17]) := by
    intro y0_17 H locs ls hw hl h
    replace h := o_j1 ek17 h
    refine lv_istore_n (lv' := [(3, .int y0_17), (0, .ref (sA G o 0)), (1, .int a1), (2, .int a2)]) hx hb dX3_sprinterWish_17 rfl hl (by decide) rfl (fun ls hl => ?_)
    refine lv_aload_n hx hb dX3_sprinterWish_18 rfl (lv_at hl 1 rfl) ?_
    refine lv_iload_n hx hb dX3_sprinterWish_19 rfl (lv_at hl 2 rfl) ?_
    refine lv_iload_n hx hb dX3_sprinterWish_20 rfl (lv_at hl 3 rfl) ?_
    obtain ⟨q21, eq21, h⟩ := o_bd h
    refine kV (As := [.int a1, .int a2]) (rest := []) (st' := [.int q21]) ⟨hx, hb, hml, hown, hts⟩ (kX3_holderWish l G ho hT eq21) (cwV 2 hts gX3_sprinterWish_X3_holderWish rfl rfl rfl qqX3_holderWish ⟨Nat.le_of_ble_eq_true rfl, Nat.le_of_ble_eq_true rfl⟩) hw (rvTk hw ho) rfl hl.1 rfl (Nat.le_of_ble_eq_true rfl) dX3_sprinterWish_21 ⟨Nat.zero_le _, Nat.zero_le _⟩ rfl (fun H locs hw => ?_)
    refine lv_istore (lv' := [(4, .int q21), (3, .int y0_17), (0, .ref (sA G o 0)), (1, .int a1), (2, .int a2)]) hx hb dX3_sprinterWish_24 hl (by decide) rfl (fun ls hl => ?_)
    refine lv_aload_n hx hb dX3_sprinterWish_26 rfl (lv_at hl 2 rfl) ?_
    refine gTk (v := .ref (sA G o 6)) hx hb hts hiX3 hown hw ho hT 11 (by decide) (hts (.fieldLink RX3 37 "SecondHome$Track" "yards" "[I") (by decide +kernel)) rfl dX3_sprinterWish_27 ?_
    refine lv_iload_n hx hb dX3_sprinterWish_30 rfl (lv_at hl 3 rfl) ?_
    obtain ⟨b31, h⟩ := o_in h
    refine ldTk hx hb hw ho hT 5 (by decide) b31 dX3_sprinterWish_31 ?_
    refine lv_aload_n hx hb dX3_sprinterWish_32 rfl (lv_at hl 2 rfl) ?_
    refine gTk (v := .int (T.1 0)) hx hb hts hiX3 hown hw ho hT 0 (by decide) (hts (.fieldLink RX3 9 "SecondHome$Track" "length" "I") (by decide +kernel)) rfl dX3_sprinterWish_33 ?_
    refine lv_bipush (v := 40) hx hb dX3_sprinterWish_36 (by decide) ?_
    refine lv_isub hx hb dX3_sprinterWish_38 ?_
    refine lv_icmp_lt (tgt := 53) hx hb dX3_sprinterWish_39 (by decide) (fun c39 => ?_) (fun c39 => ?_)
    · replace h := o_t c39 h
      refine lv_iload hx hb dX3_sprinterWish_53 (lv_at hl 0 rfl) ?_
      exact rI hQ hx hb hr hlk hw dX3_sprinterWish_55 (o_1 h) rfl rfl
    · replace h := o_f c39 h
      refine lv_iload_n hx hb dX3_sprinterWish_42 rfl (lv_at hl 1 rfl) ?_
      refine lv_if_ne (tgt := 53) hx hb dX3_sprinterWish_43 (by decide) (fun c43 => ?_) (fun c43 => ?_)
      · replace h := o_f c43 h
        refine lv_iload hx hb dX3_sprinterWish_53 (lv_at hl 0 rfl) ?_
        exact rI hQ hx hb hr hlk hw dX3_sprinterWish_55 (o_1 h) rfl rfl
      · replace h := o_t c43 h
        refine lv_iconst (v := 2) hx hb dX3_sprinterWish_46 (by decide) ?_
        refine lv_iload hx hb dX3_sprinterWish_47 (lv_at hl 0 rfl) ?_
        refine lv_imul hx hb dX3_sprinterWish_49 ?_
        refine lv_goto (tgt := 55) hx hb dX3_sprinterWish_50 (by decide) ?_
        exact rI hQ hx hb hr hlk hw dX3_sprinterWish_55 (o_1 h) rfl rfl
  obtain ⟨k16, ek16, h⟩ := o_nm h
  have J16 : ∀ (H : Heap) (locs : List Loc) (ls : Array Slot), sHw G s S M H locs → lv_has ls 5 [(0, .ref (sA G o 0)), (1, .int a1), (2, .int a2)] → k16 = some q → W p l e rmX3_sprinterWish s m args below meth c H locs 0 0 Q (F0 m 16 ls []) := by
    intro H locs ls hw hl h
    replace h := o_j0 ek16 h
    refine lv_iconst (v := 0) hx hb dX3_sprinterWish_16 (by decide) ?_
    exact J17 (0 : Int32) _ _ _ hw (lv_sub hl [0, 1, 2] rfl) h
  refine lv_icmp_ne (tgt := 16) hx hb dX3_sprinterWish_2 (by decide) (fun c2 => ?_) (fun c2 => ?_)
  · replace h := o_f c2 h
    exact J16 _ _ _ hw (lv_sub hl [0, 1, 2] rfl) h
  · replace h := o_t c2 h
    refine lv_aload_n hx hb dX3_sprinterWish_5 rfl (lv_at hl 0 rfl) ?_
    refine gTk (v := .int (T.1 5)) hx hb hts hiX3 hown hw ho hT 5 (by decide) (hts (.fieldLink RX3 55 "SecondHome$Track" "homeCount" "I") (by decide +kernel)) rfl dX3_sprinterWish_6 ?_
    refine lv_if_ne (tgt := 16) hx hb dX3_sprinterWish_9 (by decide) (fun c9 => ?_) (fun c9 => ?_)
    · replace h := o_f c9 h
      exact J16 _ _ _ hw (lv_sub hl [0, 1, 2] rfl) h
    · replace h := o_t c9 h
      refine lv_iconst (v := 1) hx hb dX3_sprinterWish_12 (by decide) ?_
      refine lv_goto (tgt := 17) hx hb dX3_sprinterWish_13 (by decide) ?_
      exact J17 (1 : Int32) _ _ _ hw (lv_sub hl [0, 1, 2] rfl) h
-- X3_wishOf
set_option maxRecDepth 100000 in
set_option maxHeartbeats 4000000 in
theorem kX3_wishOf (l : Launch) (G : sGl) {S : sWo} {M : sOb} {o : Nat} {T : sOb} {a1 : Int32} {a2 : Int32} {q : Int32} (ho : isTk o) (hT : S o = T) (h : fX3_wishOf T a1 a2 = some q) : sCt l G yX3_wishOf wsX3_wishOf rmX3_wishOf [.ref (sA G o 0), .int a1, .int a2] S M (some (.int q)) S M := by
  refine cMk (cc := cX3_wishOf) (maxL := 3) (ret := (some .int)) (by decide) rfl (Nat.le_of_ble_eq_true rfl) ?_
  intro p e s m args below meth c Q hQ hx hb hr hlk hml hown hts hw ls hl
  have hown : s.vm.findClass RX3 = some m.cls := hown
  have hl : lv_has ls 3 [(0, .ref (sA G o 0)), (1, .int a1), (2, .int a2)] := hl
  have hiX3 : ∀ w ∈ u_ws RX3 TX3 15, w ∈ wsX3_wishOf := by decide +kernel
  unfold fX3_wishOf at h
  refine lv_aload_n hx hb dX3_wishOf_0 rfl (lv_at hl 0 rfl) ?_
  refine lv_iload_n hx hb dX3_wishOf_1 rfl (lv_at hl 1 rfl) ?_
  obtain ⟨q2, eq2, h⟩ := o_bd h
  refine kV (As := [.int a1]) (rest := []) (st' := [.int q2]) ⟨hx, hb, hml, hown, hts⟩ (kX3_has l G ho hT eq2) (cwV 1 hts gX3_wishOf_X3_has rfl rfl rfl qqX3_has ⟨Nat.le_of_ble_eq_true rfl, Nat.le_of_ble_eq_true rfl⟩) hw (rvTk hw ho) rfl hl.1 rfl (Nat.le_of_ble_eq_true rfl) dX3_wishOf_2 ⟨Nat.zero_le _, Nat.zero_le _⟩ rfl (fun H locs hw => ?_)
  refine lv_if_ne (tgt := 10) hx hb dX3_wishOf_5 (by decide) (fun c5 => ?_) (fun c5 => ?_)
  · replace h := o_f c5 h
    refine lv_aload_n hx hb dX3_wishOf_10 rfl (lv_at hl 0 rfl) ?_
    refine gTk (v := .ref (sA G o 1)) hx hb hts hiX3 hown hw ho hT 6 (by decide) (hts (.fieldLink RX3 21 "SecondHome$Track" "kinds" "[I") (by decide +kernel)) rfl dX3_wishOf_11 ?_
    refine lv_iload_n hx hb dX3_wishOf_14 rfl (lv_at hl 1 rfl) ?_
    obtain ⟨b15, h⟩ := o_in h
    refine ldTk hx hb hw ho hT 0 (by decide) b15 dX3_wishOf_15 ?_
    by_cases c16_1 : (T.2.1 0 a1.toNatClampNeg) = (1 : Int32)
    · replace h := o_t c16_1 h
      refine lv_tableIn (tgt := 52) hx hb dX3_wishOf_16 (by rw [c16_1]; decide) (by rw [c16_1]; decide) (by rw [c16_1]; rfl) (by decide) ?_
      refine lv_aload_n hx hb dX3_wishOf_52 rfl (lv_at hl 0 rfl) ?_
      refine lv_iload_n hx hb dX3_wishOf_53 rfl (lv_at hl 1 rfl) ?_
      refine lv_iload_n hx hb dX3_wishOf_54 rfl (lv_at hl 2 rfl) ?_
      obtain ⟨q55, eq55, h⟩ := o_bd h
      refine kV (As := [.int a1, .int a2]) (rest := []) (st' := [.int q55]) ⟨hx, hb, hml, hown, hts⟩ (kX3_holderWish l G ho hT eq55) (cwV 2 hts gX3_wishOf_X3_holderWish rfl rfl rfl qqX3_holderWish ⟨Nat.le_of_ble_eq_true rfl, Nat.le_of_ble_eq_true rfl⟩) hw (rvTk hw ho) rfl hl.1 rfl (Nat.le_of_ble_eq_true rfl) dX3_wishOf_55 ⟨Nat.zero_le _, Nat.zero_le _⟩ rfl (fun H locs hw => ?_)
      exact rI hQ hx hb hr hlk hw dX3_wishOf_58 (o_1 h) rfl rfl
    replace h := o_f c16_1 h
    by_cases c16_2 : (T.2.1 0 a1.toNatClampNeg) = (2 : Int32)
    · replace h := o_t c16_2 h
      refine lv_tableIn (tgt := 59) hx hb dX3_wishOf_16 (by rw [c16_2]; decide) (by rw [c16_2]; decide) (by rw [c16_2]; rfl) (by decide) ?_
      refine lv_aload_n hx hb dX3_wishOf_59 rfl (lv_at hl 0 rfl) ?_
      refine lv_iload_n hx hb dX3_wishOf_60 rfl (lv_at hl 1 rfl) ?_
      obtain ⟨q61, eq61, h⟩ := o_bd h
      refine kV (As := [.int a1]) (rest := []) (st' := [.int q61]) ⟨hx, hb, hml, hown, hts⟩ (kX3_keeperWish l G ho hT eq61) (cwV 1 hts gX3_wishOf_X3_keeperWish rfl rfl rfl qqX3_keeperWish ⟨Nat.le_of_ble_eq_true rfl, Nat.le_of_ble_eq_true rfl⟩) hw (rvTk hw ho) rfl hl.1 rfl (Nat.le_of_ble_eq_true rfl) dX3_wishOf_61 ⟨Nat.zero_le _, Nat.zero_le _⟩ rfl (fun H locs hw => ?_)
      exact rI hQ hx hb hr hlk hw dX3_wishOf_64 (o_1 h) rfl rfl
    replace h := o_f c16_2 h
    by_cases c16_3 : (T.2.1 0 a1.toNatClampNeg) = (3 : Int32)
    · replace h := o_t c16_3 h
      refine lv_tableIn (tgt := 65) hx hb dX3_wishOf_16 (by rw [c16_3]; decide) (by rw [c16_3]; decide) (by rw [c16_3]; rfl) (by decide) ?_
      refine lv_aload_n hx hb dX3_wishOf_65 rfl (lv_at hl 0 rfl) ?_
      refine lv_aload_n hx hb dX3_wishOf_66 rfl (lv_at hl 0 rfl) ?_
      refine gTk (v := .ref (sA G o 4)) hx hb hts hiX3 hown hw ho hT 9 (by decide) (hts (.fieldLink RX3 31 "SecondHome$Track" "friends" "[I") (by decide +kernel)) rfl dX3_wishOf_67 ?_
      refine lv_iload_n hx hb dX3_wishOf_70 rfl (lv_at hl 1 rfl) ?_
      refine ldTk hx hb hw ho hT 3 (by decide) b15 dX3_wishOf_71 ?_
      obtain ⟨q72, eq72, h⟩ := o_bd h
      refine kV (As := [.int (T.2.1 3 a1.toNatClampNeg)]) (rest := []) (st' := [.int q72]) ⟨hx, hb, hml, hown, hts⟩ (kX3_isHome l G ho hT eq72) (cwV 1 hts gX3_wishOf_X3_isHome rfl rfl rfl qqX3_isHome ⟨Nat.le_of_ble_eq_true rfl, Nat.le_of_ble_eq_true rfl⟩) hw (rvTk hw ho) rfl hl.1 rfl (Nat.le_of_ble_eq_true rfl) dX3_wishOf_72 ⟨Nat.zero_le _, Nat.zero_le _⟩ rfl (fun H locs hw => ?_)
      refine lv_if_eq (tgt := 85) hx hb dX3_wishOf_75 (by decide) (fun c75 => ?_) (fun c75 => ?_)
      · replace h := o_t c75 h
        refine lv_aload_n hx hb dX3_wishOf_85 rfl (lv_at hl 0 rfl) ?_
        refine lv_iload_n hx hb dX3_wishOf_86 rfl (lv_at hl 1 rfl) ?_
        obtain ⟨q87, eq87, h⟩ := o_bd h
        refine kV (As := [.int a1]) (rest := []) (st' := [.int q87]) ⟨hx, hb, hml, hown, hts⟩ (kX3_keeperWish l G ho hT eq87) (cwV 1 hts gX3_wishOf_X3_keeperWish rfl rfl rfl qqX3_keeperWish ⟨Nat.le_of_ble_eq_true rfl, Nat.le_of_ble_eq_true rfl⟩) hw (rvTk hw ho) rfl hl.1 rfl (Nat.le_of_ble_eq_true rfl) dX3_wishOf_87 ⟨Nat.zero_le _, Nat.zero_le _⟩ rfl (fun H locs hw => ?_)
        exact rI hQ hx hb hr hlk hw dX3_wishOf_90 (o_1 h) rfl rfl
      · replace h := o_f c75 h
        refine lv_aload_n hx hb dX3_wishOf_78 rfl (lv_at hl 0 rfl) ?_
        refine gTk (v := .int (T.1 1)) hx hb hts hiX3 hown hw ho hT 1 (by decide) (hts (.fieldLink RX3 15 "SecondHome$Track" "least" "I") (by decide +kernel)) rfl dX3_wishOf_79 ?_
        refine lv_goto (tgt := 90) hx hb dX3_wishOf_82 (by decide) ?_
        exact rI hQ hx hb hr hlk hw dX3_wishOf_90 (o_1 h) rfl rfl
    replace h := o_f c16_3 h
    by_cases c16_4 : (T.2.1 0 a1.toNatClampNeg) = (4 : Int32)
    · replace h := o_t c16_4 h
      refine lv_tableIn (tgt := 91) hx hb dX3_wishOf_16 (by rw [c16_4]; decide) (by rw [c16_4]; decide) (by rw [c16_4]; rfl) (by decide) ?_
      refine lv_aload_n hx hb dX3_wishOf_91 rfl (lv_at hl 0 rfl) ?_
      refine lv_iload_n hx hb dX3_wishOf_92 rfl (lv_at hl 1 rfl) ?_
      refine lv_iload_n hx hb dX3_wishOf_93 rfl (lv_at hl 2 rfl) ?_
      obtain ⟨q94, eq94, h⟩ := o_bd h
      refine kV (As := [.int a1, .int a2]) (rest := []) (st' := [.int q94]) ⟨hx, hb, hml, hown, hts⟩ (kX3_sprinterWish l G ho hT eq94) (cwV 2 hts gX3_wishOf_X3_sprinterWish rfl rfl rfl qqX3_sprinterWish ⟨Nat.le_of_ble_eq_true rfl, Nat.le_of_ble_eq_true rfl⟩) hw (rvTk hw ho) rfl hl.1 rfl (Nat.le_of_ble_eq_true rfl) dX3_wishOf_94 ⟨Nat.zero_le _, Nat.zero_le _⟩ rfl (fun H locs hw => ?_)
      exact rI hQ hx hb hr hlk hw dX3_wishOf_97 (o_1 h) rfl rfl
    replace h := o_f c16_4 h
    by_cases c16_5 : (T.2.1 0 a1.toNatClampNeg) = (5 : Int32)
    · replace h := o_t c16_5 h
      refine lv_tableIn (tgt := 98) hx hb dX3_wishOf_16 (by rw [c16_5]; decide) (by rw [c16_5]; decide) (by rw [c16_5]; rfl) (by decide) ?_
      refine lv_aload_n hx hb dX3_wishOf_98 rfl (lv_at hl 0 rfl) ?_
      refine lv_iload_n hx hb dX3_wishOf_99 rfl (lv_at hl 1 rfl) ?_
      refine lv_iload_n hx hb dX3_wishOf_100 rfl (lv_at hl 2 rfl) ?_
      obtain ⟨q101, eq101, h⟩ := o_bd h
      refine kV (As := [.int a1, .int a2]) (rest := []) (st' := [.int q101]) ⟨hx, hb, hml, hown, hts⟩ (kX3_holderWish l G ho hT eq101) (cwV 2 hts gX3_wishOf_X3_holderWish rfl rfl rfl qqX3_holderWish ⟨Nat.le_of_ble_eq_true rfl, Nat.le_of_ble_eq_true rfl⟩) hw (rvTk hw ho) rfl hl.1 rfl (Nat.le_of_ble_eq_true rfl) dX3_wishOf_101 ⟨Nat.zero_le _, Nat.zero_le _⟩ rfl (fun H locs hw => ?_)
      refine lv_aload_n hx hb dX3_wishOf_104 rfl (lv_at hl 0 rfl) ?_
      refine gTk (v := .int (T.1 1)) hx hb hts hiX3 hown hw ho hT 1 (by decide) (hts (.fieldLink RX3 15 "SecondHome$Track" "least" "I") (by decide +kernel)) rfl dX3_wishOf_105 ?_
      refine lv_iconst (v := 2) hx hb dX3_wishOf_108 (by decide) ?_
      refine lv_iadd hx hb dX3_wishOf_109 ?_
      refine va_mmin hx hb (hml.trans hl.1.symm) hown (hts (.methodLink RX3 76 Lib.Math.min.name) (by decide +kernel)) (hts (.static Lib.Math.min.name) (by decide +kernel)) (hts (.initialized "java/lang/Math") (by decide +kernel)) (hts (.code Lib.Math.min.name Lib.Math.min.code 2 (some .int)) (by decide +kernel)) (Nat.le_of_ble_eq_true rfl) (Nat.le_of_ble_eq_true rfl) (Nat.zero_le _) (Nat.zero_le _) dX3_wishOf_110 ?_
      exact rI hQ hx hb hr hlk hw dX3_wishOf_113 (o_1 h) rfl rfl
    replace h := o_f c16_5 h
    have sw16 : (T.2.1 0 a1.toNatClampNeg).toInt < 1 ∨ 5 < (T.2.1 0 a1.toNatClampNeg).toInt := by
      have z1 := sw_ne c16_1
      have z2 := sw_ne c16_2
      have z3 := sw_ne c16_3
      have z4 := sw_ne c16_4
      have z5 := sw_ne c16_5
      rw [show ((1 : Int32)).toInt = 1 from rfl] at z1
      rw [show ((2 : Int32)).toInt = 2 from rfl] at z2
      rw [show ((3 : Int32)).toInt = 3 from rfl] at z3
      rw [show ((4 : Int32)).toInt = 4 from rfl] at z4
      rw [show ((5 : Int32)).toInt = 5 from rfl] at z5
      omega
    refine lv_tableOut (tgt := 114) hx hb dX3_wishOf_16 sw16 (by decide) ?_
    refine lv_aload_n hx hb dX3_wishOf_114 rfl (lv_at hl 0 rfl) ?_
    refine gTk (v := .ref (sA G o 2)) hx hb hts hiX3 hown hw ho hT 7 (by decide) (hts (.fieldLink RX3 25 "SecondHome$Track" "paces" "[I") (by decide +kernel)) rfl dX3_wishOf_115 ?_
    refine lv_iload_n hx hb dX3_wishOf_118 rfl (lv_at hl 1 rfl) ?_
    refine ldTk hx hb hw ho hT 1 (by decide) b15 dX3_wishOf_119 ?_
    exact rI hQ hx hb hr hlk hw dX3_wishOf_120 (o_1 h) rfl rfl
  · replace h := o_t c5 h
    refine lv_iconst (v := 0) hx hb dX3_wishOf_8 (by decide) ?_
    exact rI hQ hx hb hr hlk hw dX3_wishOf_9 (o_1 h) rfl rfl
-- X3_strideOf
set_option maxRecDepth 100000 in
set_option maxHeartbeats 4000000 in
theorem kX3_strideOf (l : Launch) (G : sGl) {S : sWo} {M : sOb} {o : Nat} {T : sOb} {a1 : Int32} {a2 : Int32} {q : (Int32 × sOb)} (ho : isTk o) (hT : S o = T) (h : fX3_strideOf T a1 a2 = some q) : sCt l G yX3_strideOf wsX3_strideOf rmX3_strideOf [.ref (sA G o 0), .int a1, .int a2] S M (some (.int q.1)) (sUp S o q.2) M := by
  refine cMk (cc := cX3_strideOf) (maxL := 4) (ret := (some .int)) (by decide) rfl (Nat.le_of_ble_eq_true rfl) ?_
  intro p e s m args below meth c Q hQ hx hb hr hlk hml hown hts hw ls hl
  have hown : s.vm.findClass RX3 = some m.cls := hown
  have hl : lv_has ls 4 [(0, .ref (sA G o 0)), (1, .int a1), (2, .int a2)] := hl
  have hiX3 : ∀ w ∈ u_ws RX3 TX3 15, w ∈ wsX3_strideOf := by decide +kernel
  rw [show S = sUp S o T from (by rw [← hT]; exact (sUp_i S o).symm)] at hw
  unfold fX3_strideOf at h
  refine lv_iload_n hx hb dX3_strideOf_0 rfl (lv_at hl 2 rfl) ?_
  refine lv_iconst (v := 4) hx hb dX3_strideOf_1 (by decide) ?_
  refine lv_isub hx hb dX3_strideOf_2 ?_
  refine lv_topi (fun v3 ev3 => ?_)
  replace h := o_nx ev3 h
  refine lv_istore_n (lv' := [(3, .int v3), (0, .ref (sA G o 0)), (1, .int a1), (2, .int a2)]) hx hb dX3_strideOf_3 rfl hl (by decide) rfl (fun ls hl => ?_)
  refine lv_iload_n hx hb dX3_strideOf_4 rfl (lv_at hl 0 rfl) ?_
  refine lv_aload_n hx hb dX3_strideOf_5 rfl (lv_at hl 1 rfl) ?_
  refine gTk (v := .ref (sA G o 3)) hx hb hts hiX3 hown hw ho (sUp_s S o T) 8 (by decide) (hts (.fieldLink RX3 28 "SecondHome$Track" "breaths" "[I") (by decide +kernel)) rfl dX3_strideOf_6 ?_
  refine lv_iload_n hx hb dX3_strideOf_9 rfl (lv_at hl 2 rfl) ?_
  obtain ⟨b10, h⟩ := o_in h
  refine ldTk hx hb hw ho (sUp_s S o T) 2 (by decide) b10 dX3_strideOf_10 ?_
  refine lv_icmp_le (tgt := 23) hx hb dX3_strideOf_11 (by decide) (fun c11 => ?_) (fun c11 => ?_)
  · replace h := o_t c11 h
    refine lv_iload_n hx hb dX3_strideOf_23 rfl (lv_at hl 0 rfl) ?_
    refine lv_if_le (tgt := 40) hx hb dX3_strideOf_24 (by decide) (fun c24 => ?_) (fun c24 => ?_)
    · replace h := o_t c24 h
      refine lv_iload_n hx hb dX3_strideOf_40 rfl (lv_at hl 0 rfl) ?_
      refine lv_if_ge (tgt := 64) hx hb dX3_strideOf_41 (by decide) (fun c41 => ?_) (fun c41 => ?_)
      · replace h := o_t c41 h
        refine lv_iload_n hx hb dX3_strideOf_64 rfl (lv_at hl 3 rfl) ?_
        exact rI hQ hx hb hr hlk hw dX3_strideOf_65 (o_2a h) (congrArg (sUp S o) (o_2b h)) rfl
      · replace h := o_f c41 h
        refine lv_aload_n hx hb dX3_strideOf_44 rfl (lv_at hl 1 rfl) ?_
        refine gTk (v := .ref (sA G o 3)) hx hb hts hiX3 hown hw ho (sUp_s S o T) 8 (by decide) (hts (.fieldLink RX3 28 "SecondHome$Track" "breaths" "[I") (by decide +kernel)) rfl dX3_strideOf_45 ?_
        refine lv_iload_n hx hb dX3_strideOf_48 rfl (lv_at hl 2 rfl) ?_
        refine lv_aload_n hx hb dX3_strideOf_49 rfl (lv_at hl 1 rfl) ?_
        refine gTk (v := .ref (sA G o 3)) hx hb hts hiX3 hown hw ho (sUp_s S o T) 8 (by decide) (hts (.fieldLink RX3 28 "SecondHome$Track" "breaths" "[I") (by decide +kernel)) rfl dX3_strideOf_50 ?_
        refine lv_iload_n hx hb dX3_strideOf_53 rfl (lv_at hl 2 rfl) ?_
        refine ldTk hx hb hw ho (sUp_s S o T) 2 (by decide) b10 dX3_strideOf_54 ?_
        refine lv_iconst (v := 1) hx hb dX3_strideOf_55 (by decide) ?_
        refine lv_iadd hx hb dX3_strideOf_56 ?_
        refine lv_sipush (v := 999) hx hb dX3_strideOf_57 (by decide) ?_
        refine va_mmin hx hb (hml.trans hl.1.symm) hown (hts (.methodLink RX3 76 Lib.Math.min.name) (by decide +kernel)) (hts (.static Lib.Math.min.name) (by decide +kernel)) (hts (.initialized "java/lang/Math") (by decide +kernel)) (hts (.code Lib.Math.min.name Lib.Math.min.code 2 (some .int)) (by decide +kernel)) (Nat.le_of_ble_eq_true rfl) (Nat.le_of_ble_eq_true rfl) (Nat.zero_le _) (Nat.zero_le _) dX3_strideOf_60 ?_
        refine stTk hx hb hw ho (sUp_s S o T) 2 (by decide) b10 dX3_strideOf_63 (sUp_u S o T _) (fun H locs hw => ?_)
        obtain ⟨T63, eT63, h⟩ := o_nm h
        rw [← eT63] at hw
        refine lv_iload_n hx hb dX3_strideOf_64 rfl (lv_at hl 3 rfl) ?_
        exact rI hQ hx hb hr hlk hw dX3_strideOf_65 (o_2a h) (congrArg (sUp S o) (o_2b h)) rfl
    · replace h := o_f c24 h
      refine lv_aload_n hx hb dX3_strideOf_27 rfl (lv_at hl 1 rfl) ?_
      refine gTk (v := .ref (sA G o 3)) hx hb hts hiX3 hown hw ho (sUp_s S o T) 8 (by decide) (hts (.fieldLink RX3 28 "SecondHome$Track" "breaths" "[I") (by decide +kernel)) rfl dX3_strideOf_28 ?_
      refine lv_iload_n hx hb dX3_strideOf_31 rfl (lv_at hl 2 rfl) ?_
      refine lv_dup2_11 hx hb dX3_strideOf_32 rfl rfl ?_
      refine ldTk hx hb hw ho (sUp_s S o T) 2 (by decide) b10 dX3_strideOf_33 ?_
      refine lv_iload_n hx hb dX3_strideOf_34 rfl (lv_at hl 0 rfl) ?_
      refine lv_isub hx hb dX3_strideOf_35 ?_
      refine stTk hx hb hw ho (sUp_s S o T) 2 (by decide) b10 dX3_strideOf_36 (sUp_u S o T _) (fun H locs hw => ?_)
      obtain ⟨T36, eT36, h⟩ := o_nm h
      rw [← eT36] at hw
      refine lv_goto (tgt := 64) hx hb dX3_strideOf_37 (by decide) ?_
      refine lv_iload_n hx hb dX3_strideOf_64 rfl (lv_at hl 3 rfl) ?_
      exact rI hQ hx hb hr hlk hw dX3_strideOf_65 (o_2a h) (congrArg (sUp S o) (o_2b h)) rfl
  · replace h := o_f c11 h
    refine lv_iconst (v := 4) hx hb dX3_strideOf_14 (by decide) ?_
    refine lv_aload_n hx hb dX3_strideOf_15 rfl (lv_at hl 1 rfl) ?_
    refine gTk (v := .int (T.1 1)) hx hb hts hiX3 hown hw ho (sUp_s S o T) 1 (by decide) (hts (.fieldLink RX3 15 "SecondHome$Track" "least" "I") (by decide +kernel)) rfl dX3_strideOf_16 ?_
    refine va_mmax hx hb (hml.trans hl.1.symm) hown (hts (.methodLink RX3 81 Lib.Math.max.name) (by decide +kernel)) (hts (.static Lib.Math.max.name) (by decide +kernel)) (hts (.initialized "java/lang/Math") (by decide +kernel)) (hts (.code Lib.Math.max.name Lib.Math.max.code 2 (some .int)) (by decide +kernel)) (Nat.le_of_ble_eq_true rfl) (Nat.le_of_ble_eq_true rfl) (Nat.zero_le _) (Nat.zero_le _) dX3_strideOf_19 ?_
    exact rI hQ hx hb hr hlk hw dX3_strideOf_22 (o_2a h) (congrArg (sUp S o) (o_2b h)) rfl
