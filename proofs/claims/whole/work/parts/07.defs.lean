def bX3_takeOver_50 (T2 : sOb) (rc50 : Int32 → sOb → Option sOb) (x2_50 : Int32) (T_50 : sOb) : Option sOb :=
  if (9 : Int32) ≤ x2_50 then (some T_50) else (if x2_50 < 0 ∨ 9 ≤ x2_50.toNatClampNeg then none else nm (sSa T_50 0 x2_50.toNatClampNeg (T2.2.1 0 x2_50.toNatClampNeg)) fun T67 => nm (sSa T67 1 x2_50.toNatClampNeg (T2.2.1 1 x2_50.toNatClampNeg)) fun T79 => nm (sSa T79 2 x2_50.toNatClampNeg (T2.2.1 2 x2_50.toNatClampNeg)) fun T91 => nm (sSa T91 3 x2_50.toNatClampNeg (T2.2.1 3 x2_50.toNatClampNeg)) fun T103 => nm (sSa T103 4 x2_50.toNatClampNeg (T2.2.1 4 x2_50.toNatClampNeg)) fun T115 => nm (sSa T115 5 x2_50.toNatClampNeg (T2.2.1 5 x2_50.toNatClampNeg)) fun T127 => nm (sSa T127 6 x2_50.toNatClampNeg (T2.2.1 6 x2_50.toNatClampNeg)) fun T139 => nm (sSa T139 7 x2_50.toNatClampNeg (T2.2.1 7 x2_50.toNatClampNeg)) fun T151 => nm (x2_50 + (1 : Int32)) fun v152 => rc50 v152 T151)
def fX3_takeOver (T : sOb) (T2 : sOb) : Option sOb :=
  nm (sSs T 0 (T2.1 0)) fun T5 => nm (sSs T5 1 (T2.1 1)) fun T13 => nm (sSs T13 2 (T2.1 2)) fun T21 => nm (sSs T21 3 (T2.1 3)) fun T29 => nm (sSs T29 4 (T2.1 4)) fun T37 => nm (sSs T37 5 (T2.1 5)) fun T45 => fx2 (bX3_takeOver_50 T2) FU (0 : Int32) T45
def rmX3_takeOver : Room := { frames := 0, cells := 0, slots := 0, locals := 0 }
theorem qqX3_takeOver : yX3_takeOver.cls = RX3 ∧ yX3_takeOver.cls ≠ "java/lang/invoke/MethodHandle" ∧ yX3_takeOver.cls ≠ "java/lang/invoke/VarHandle" ∧ (parseMethodDescriptor yX3_takeOver.desc).map (fun d => d.parameters.length) = some 1 := by decide +kernel
def fX3_add (T : sOb) (a1 : Int32) (a2 : Int32) (a3 : Int32) : Option (Int32 × sOb) :=
  if (T.1 4) < 0 then (some ((-1 : Int32), T)) else (if (T.1 4) < (9 : Int32) then (nm (T.1 4) fun v22 => if v22 < 0 ∨ 9 ≤ v22.toNatClampNeg then none else nm (sSa T 0 v22.toNatClampNeg a1) fun T31 => nm (sSa T31 1 v22.toNatClampNeg a2) fun T39 => nm (sSa T39 2 v22.toNatClampNeg a3) fun T47 => nm (sSa T47 3 v22.toNatClampNeg (-1 : Int32)) fun T55 => nm (sSa T55 4 v22.toNatClampNeg (0 : Int32)) fun T63 => nm (sSa T63 5 v22.toNatClampNeg (0 : Int32)) fun T71 => nm (sSa T71 6 v22.toNatClampNeg (0 : Int32)) fun T79 => nm (sSa T79 7 v22.toNatClampNeg (-1 : Int32)) fun T87 => nm (sSs T87 4 ((T87.1 4) + (1 : Int32))) fun T95 => some (v22, T95)) else (some ((-1 : Int32), T)))
def rmX3_add : Room := { frames := 0, cells := 0, slots := 0, locals := 0 }
theorem qqX3_add : yX3_add.cls = RX3 ∧ yX3_add.cls ≠ "java/lang/invoke/MethodHandle" ∧ yX3_add.cls ≠ "java/lang/invoke/VarHandle" ∧ (parseMethodDescriptor yX3_add.desc).map (fun d => d.parameters.length) = some 3 := by decide +kernel
def fX3_has (T : sOb) (a1 : Int32) : Option Int32 :=
  if a1 < 0 then (some (0 : Int32)) else (if (T.1 4) ≤ a1 then (some (0 : Int32)) else (if (9 : Int32) ≤ a1 then (some (0 : Int32)) else (some (1 : Int32))))
def rmX3_has : Room := { frames := 0, cells := 0, slots := 0, locals := 0 }
theorem qqX3_has : yX3_has.cls = RX3 ∧ yX3_has.cls ≠ "java/lang/invoke/MethodHandle" ∧ yX3_has.cls ≠ "java/lang/invoke/VarHandle" ∧ (parseMethodDescriptor yX3_has.desc).map (fun d => d.parameters.length) = some 1 := by decide +kernel
def fX3_changePaces (T : sOb) (a1 : Int32) (a2 : Int32) : Option sOb :=
  (fX3_has T a1).bind fun q2 => if q2 = 0 then (some T) else ((fX3_has T a2).bind fun q10 => if q10 = 0 then (some T) else (if a1 < 0 ∨ 9 ≤ a1.toNatClampNeg then none else nm (T.2.1 1 a1.toNatClampNeg) fun v22 => if a2 < 0 ∨ 9 ≤ a2.toNatClampNeg then none else nm (sSa T 1 a1.toNatClampNeg (T.2.1 1 a2.toNatClampNeg)) fun T34 => nm (sSa T34 1 a2.toNatClampNeg v22) fun T41 => some T41))
def rmX3_changePaces : Room := { frames := 1, cells := 0, slots := 0, locals := 21 }
theorem qqX3_changePaces : yX3_changePaces.cls = RX3 ∧ yX3_changePaces.cls ≠ "java/lang/invoke/MethodHandle" ∧ yX3_changePaces.cls ≠ "java/lang/invoke/VarHandle" ∧ (parseMethodDescriptor yX3_changePaces.desc).map (fun d => d.parameters.length) = some 2 := by decide +kernel
def fX3_isStart (T : sOb) (a1 : Int32) : Option Int32 :=
  if a1 < 0 then (some (0 : Int32)) else (if (T.1 0) ≤ a1 then (some (0 : Int32)) else (some (1 : Int32)))
def rmX3_isStart : Room := { frames := 0, cells := 0, slots := 0, locals := 0 }
theorem qqX3_isStart : yX3_isStart.cls = RX3 ∧ yX3_isStart.cls ≠ "java/lang/invoke/MethodHandle" ∧ yX3_isStart.cls ≠ "java/lang/invoke/VarHandle" ∧ (parseMethodDescriptor yX3_isStart.desc).map (fun d => d.parameters.length) = some 1 := by decide +kernel
def fX3_isHome (T : sOb) (a1 : Int32) : Option Int32 :=
  (fX3_has T a1).bind fun q2 => if q2 = 0 then (some (0 : Int32)) else (if a1 < 0 ∨ 9 ≤ a1.toNatClampNeg then none else if (T.2.1 7 a1.toNatClampNeg) < 0 then (some (0 : Int32)) else (some (1 : Int32)))
def rmX3_isHome : Room := { frames := 1, cells := 0, slots := 0, locals := 21 }
theorem qqX3_isHome : yX3_isHome.cls = RX3 ∧ yX3_isHome.cls ≠ "java/lang/invoke/MethodHandle" ∧ yX3_isHome.cls ≠ "java/lang/invoke/VarHandle" ∧ (parseMethodDescriptor yX3_isHome.desc).map (fun d => d.parameters.length) = some 1 := by decide +kernel
def fX3_allHome (T : sOb) : Option Int32 :=
  if (T.1 5) < (T.1 4) then (some (0 : Int32)) else (some (1 : Int32))
def rmX3_allHome : Room := { frames := 0, cells := 0, slots := 0, locals := 0 }
theorem qqX3_allHome : yX3_allHome.cls = RX3 ∧ yX3_allHome.cls ≠ "java/lang/invoke/MethodHandle" ∧ yX3_allHome.cls ≠ "java/lang/invoke/VarHandle" ∧ (parseMethodDescriptor yX3_allHome.desc).map (fun d => d.parameters.length) = some 0 := by decide +kernel
def bX3_lineUp_2 (rc2 : Int32 → sOb → Option sOb) (x1_2 : Int32) (T_2 : sOb) : Option sOb :=
  if (T_2.1 4) ≤ x1_2 then (nm (sSs T_2 3 (0 : Int32)) fun T37 => nm (sSs T37 5 (0 : Int32)) fun T42 => some T42) else (if x1_2 < 0 ∨ 9 ≤ x1_2.toNatClampNeg then none else nm (sSa T_2 5 x1_2.toNatClampNeg (T_2.2.1 4 x1_2.toNatClampNeg)) fun T21 => nm (sSa T21 7 x1_2.toNatClampNeg (-1 : Int32)) fun T28 => nm (x1_2 + (1 : Int32)) fun v29 => rc2 v29 T28)
def fX3_lineUp (T : sOb) : Option sOb :=
  fx2 bX3_lineUp_2 FU (0 : Int32) T
def rmX3_lineUp : Room := { frames := 0, cells := 0, slots := 0, locals := 0 }
theorem qqX3_lineUp : yX3_lineUp.cls = RX3 ∧ yX3_lineUp.cls ≠ "java/lang/invoke/MethodHandle" ∧ yX3_lineUp.cls ≠ "java/lang/invoke/VarHandle" ∧ (parseMethodDescriptor yX3_lineUp.desc).map (fun d => d.parameters.length) = some 0 := by decide +kernel
def bX3_firstAlone_6 (T : sOb) (rc6 : Int32 → Int32 → Int32 → Option Int32) (x1_6 : Int32) (x2_6 : Int32) (x3_6 : Int32) : Option Int32 :=
  if (T.1 4) ≤ x3_6 then (some x1_6) else (if x3_6 < 0 ∨ 9 ≤ x3_6.toNatClampNeg then none else if (T.2.1 7 x3_6.toNatClampNeg) < 0 then (if (T.2.1 5 x3_6.toNatClampNeg) ≤ x2_6 then (if (T.2.1 5 x3_6.toNatClampNeg) = x2_6 then (nm (x3_6 + (1 : Int32)) fun v60 => rc6 (-1 : Int32) x2_6 v60) else (nm (x3_6 + (1 : Int32)) fun v60 => rc6 x1_6 x2_6 v60)) else (nm (T.2.1 5 x3_6.toNatClampNeg) fun v42 => nm (x3_6 + (1 : Int32)) fun v60 => rc6 x3_6 v42 v60)) else (nm (x3_6 + (1 : Int32)) fun v60 => rc6 x1_6 x2_6 v60))
def fX3_firstAlone (T : sOb) : Option Int32 :=
  fx3 (bX3_firstAlone_6 T) FU (-1 : Int32) (-1 : Int32) (0 : Int32)
def rmX3_firstAlone : Room := { frames := 0, cells := 0, slots := 0, locals := 0 }
theorem qqX3_firstAlone : yX3_firstAlone.cls = RX3 ∧ yX3_firstAlone.cls ≠ "java/lang/invoke/MethodHandle" ∧ yX3_firstAlone.cls ≠ "java/lang/invoke/VarHandle" ∧ (parseMethodDescriptor yX3_firstAlone.desc).map (fun d => d.parameters.length) = some 0 := by decide +kernel
def fX3_holderWish (T : sOb) (a1 : Int32) (a2 : Int32) : Option Int32 :=
  if a1 = a2 then (if a1 < 0 ∨ 9 ≤ a1.toNatClampNeg then none else if ((4 : Int32) * (T.2.1 5 a1.toNatClampNeg)) < ((3 : Int32) * (T.1 0)) then (some (T.2.1 1 a1.toNatClampNeg)) else (some (T.1 1))) else (if a1 < 0 ∨ 9 ≤ a1.toNatClampNeg then none else some (T.2.1 1 a1.toNatClampNeg))
def rmX3_holderWish : Room := { frames := 0, cells := 0, slots := 0, locals := 0 }
theorem qqX3_holderWish : yX3_holderWish.cls = RX3 ∧ yX3_holderWish.cls ≠ "java/lang/invoke/MethodHandle" ∧ yX3_holderWish.cls ≠ "java/lang/invoke/VarHandle" ∧ (parseMethodDescriptor yX3_holderWish.desc).map (fun d => d.parameters.length) = some 2 := by decide +kernel
def fX3_keeperWish (T : sOb) (a1 : Int32) : Option Int32 :=
  if a1 < 0 ∨ 9 ≤ a1.toNatClampNeg then none else nm (T.2.1 3 a1.toNatClampNeg) fun v6 => (fX3_has T v6).bind fun q9 => if q9 = 0 then (some (T.2.1 1 a1.toNatClampNeg)) else (if v6 < 0 ∨ 9 ≤ v6.toNatClampNeg then none else if (T.2.1 7 v6.toNatClampNeg) < 0 then (some (if (1 : Int32) < (if ((T.2.1 5 v6.toNatClampNeg) - (T.2.1 5 a1.toNatClampNeg)) < (T.2.1 1 a1.toNatClampNeg) then ((T.2.1 5 v6.toNatClampNeg) - (T.2.1 5 a1.toNatClampNeg)) else (T.2.1 1 a1.toNatClampNeg)) then (if ((T.2.1 5 v6.toNatClampNeg) - (T.2.1 5 a1.toNatClampNeg)) < (T.2.1 1 a1.toNatClampNeg) then ((T.2.1 5 v6.toNatClampNeg) - (T.2.1 5 a1.toNatClampNeg)) else (T.2.1 1 a1.toNatClampNeg)) else (1 : Int32))) else (some (T.2.1 1 a1.toNatClampNeg)))
def rmX3_keeperWish : Room := { frames := 1, cells := 0, slots := 0, locals := 21 }
theorem qqX3_keeperWish : yX3_keeperWish.cls = RX3 ∧ yX3_keeperWish.cls ≠ "java/lang/invoke/MethodHandle" ∧ yX3_keeperWish.cls ≠ "java/lang/invoke/VarHandle" ∧ (parseMethodDescriptor yX3_keeperWish.desc).map (fun d => d.parameters.length) = some 1 := by decide +kernel
def fX3_sprinterWish (T : sOb) (a1 : Int32) (a2 : Int32) : Option Int32 :=
  nm (fun (y0_17 : Int32) => (fX3_holderWish T a1 a2).bind fun q21 => if a1 < 0 ∨ 9 ≤ a1.toNatClampNeg then none else if (T.2.1 5 a1.toNatClampNeg) < ((T.1 0) - (40 : Int32)) then (some q21) else (if y0_17 = 0 then (some ((2 : Int32) * q21)) else (some q21))) fun k17 => nm (k17 (0 : Int32)) fun k16 => if a1 = a2 then (if (T.1 5) = 0 then (k17 (1 : Int32)) else k16) else k16
def rmX3_sprinterWish : Room := { frames := 1, cells := 0, slots := 0, locals := 22 }
theorem qqX3_sprinterWish : yX3_sprinterWish.cls = RX3 ∧ yX3_sprinterWish.cls ≠ "java/lang/invoke/MethodHandle" ∧ yX3_sprinterWish.cls ≠ "java/lang/invoke/VarHandle" ∧ (parseMethodDescriptor yX3_sprinterWish.desc).map (fun d => d.parameters.length) = some 2 := by decide +kernel
def fX3_wishOf (T : sOb) (a1 : Int32) (a2 : Int32) : Option Int32 :=
  (fX3_has T a1).bind fun q2 => if q2 = 0 then (some (0 : Int32)) else (if a1 < 0 ∨ 9 ≤ a1.toNatClampNeg then none else if (T.2.1 0 a1.toNatClampNeg) = (1 : Int32) then ((fX3_holderWish T a1 a2).bind fun q55 => some q55) else if (T.2.1 0 a1.toNatClampNeg) = (2 : Int32) then ((fX3_keeperWish T a1).bind fun q61 => some q61) else if (T.2.1 0 a1.toNatClampNeg) = (3 : Int32) then ((fX3_isHome T (T.2.1 3 a1.toNatClampNeg)).bind fun q72 => if q72 = 0 then ((fX3_keeperWish T a1).bind fun q87 => some q87) else (some (T.1 1))) else if (T.2.1 0 a1.toNatClampNeg) = (4 : Int32) then ((fX3_sprinterWish T a1 a2).bind fun q94 => some q94) else if (T.2.1 0 a1.toNatClampNeg) = (5 : Int32) then ((fX3_holderWish T a1 a2).bind fun q101 => some (if ((T.1 1) + (2 : Int32)) < q101 then ((T.1 1) + (2 : Int32)) else q101)) else (some (T.2.1 1 a1.toNatClampNeg)))
def rmX3_wishOf : Room := { frames := 2, cells := 0, slots := 0, locals := 46 }
theorem qqX3_wishOf : yX3_wishOf.cls = RX3 ∧ yX3_wishOf.cls ≠ "java/lang/invoke/MethodHandle" ∧ yX3_wishOf.cls ≠ "java/lang/invoke/VarHandle" ∧ (parseMethodDescriptor yX3_wishOf.desc).map (fun d => d.parameters.length) = some 2 := by decide +kernel
def fX3_strideOf (T : sOb) (a1 : Int32) (a2 : Int32) : Option (Int32 × sOb) :=
  nm (a2 - (4 : Int32)) fun v3 => if a1 < 0 ∨ 9 ≤ a1.toNatClampNeg then none else if v3 ≤ (T.2.1 2 a1.toNatClampNeg) then (if v3 ≤ 0 then (if 0 ≤ v3 then (some (a2, T)) else (nm (sSa T 2 a1.toNatClampNeg (if (999 : Int32) < ((T.2.1 2 a1.toNatClampNeg) + (1 : Int32)) then (999 : Int32) else ((T.2.1 2 a1.toNatClampNeg) + (1 : Int32)))) fun T63 => some (a2, T63))) else (nm (sSa T 2 a1.toNatClampNeg ((T.2.1 2 a1.toNatClampNeg) - v3)) fun T36 => some (a2, T36))) else (some ((if (4 : Int32) < (T.1 1) then (T.1 1) else (4 : Int32)), T))
def rmX3_strideOf : Room := { frames := 1, cells := 0, slots := 0, locals := 21 }
theorem qqX3_strideOf : yX3_strideOf.cls = RX3 ∧ yX3_strideOf.cls ≠ "java/lang/invoke/MethodHandle" ∧ yX3_strideOf.cls ≠ "java/lang/invoke/VarHandle" ∧ (parseMethodDescriptor yX3_strideOf.desc).map (fun d => d.parameters.length) = some 2 := by decide +kernel
def bX3_goSecond_70 (rc70 : Int32 → sOb → Option sOb) (x2_70 : Int32) (T_70 : sOb) : Option sOb :=
  if (T_70.1 4) ≤ x2_70 then (some T_70) else (if x2_70 < 0 ∨ 9 ≤ x2_70.toNatClampNeg then none else nm (sSa T_70 5 x2_70.toNatClampNeg ((T_70.2.1 5 x2_70.toNatClampNeg) + (T_70.2.1 8 x2_70.toNatClampNeg))) fun T92 => if 0 ≤ (T92.2.1 7 x2_70.toNatClampNeg) then (nm (x2_70 + (1 : Int32)) fun v135 => rc70 v135 T92) else (if (T92.2.1 5 x2_70.toNatClampNeg) < (T92.1 0) then (nm (x2_70 + (1 : Int32)) fun v135 => rc70 v135 T92) else (nm (sSa T92 7 x2_70.toNatClampNeg (T92.1 3)) fun T124 => nm (sSs T124 5 ((T124.1 5) + (1 : Int32))) fun T132 => nm (x2_70 + (1 : Int32)) fun v135 => rc70 v135 T132)))
def bX3_goSecond_7 (q1 : Int32) (k58 : sOb → Option sOb) (rc7 : Int32 → sOb → Option sOb) (x2_7 : Int32) (T_7 : sOb) : Option sOb :=
  if (T_7.1 4) ≤ x2_7 then (k58 T_7) else (if x2_7 < 0 ∨ 9 ≤ x2_7.toNatClampNeg then none else if (T_7.2.1 7 x2_7.toNatClampNeg) < 0 then ((fX3_wishOf T_7 x2_7 q1).bind fun q38 => (fX3_strideOf T_7 x2_7 (if q38 < (T_7.1 1) then (T_7.1 1) else q38)).bind fun q48 => nm (sSa q48.2 8 x2_7.toNatClampNeg q48.1) fun T51 => nm (x2_7 + (1 : Int32)) fun v52 => rc7 v52 T51) else (nm (sSa T_7 8 x2_7.toNatClampNeg (0 : Int32)) fun T51 => nm (x2_7 + (1 : Int32)) fun v52 => rc7 v52 T51))
def fX3_goSecond (T : sOb) : Option sOb :=
  (fX3_firstAlone T).bind fun q1 => nm (fun (T_58 : sOb) => nm (sSs T_58 3 ((T_58.1 3) + (1 : Int32))) fun T65 => fx2 bX3_goSecond_70 FU (0 : Int32) T65) fun k58 => fx2 (bX3_goSecond_7 q1 k58) FU (0 : Int32) T
def rmX3_goSecond : Room := { frames := 3, cells := 0, slots := 0, locals := 68 }
theorem qqX3_goSecond : yX3_goSecond.cls = RX3 ∧ yX3_goSecond.cls ≠ "java/lang/invoke/MethodHandle" ∧ yX3_goSecond.cls ≠ "java/lang/invoke/VarHandle" ∧ (parseMethodDescriptor yX3_goSecond.desc).map (fun d => d.parameters.length) = some 0 := by decide +kernel
def bX3_goOn_2 (a1 : Int32) (rc2 : Int32 → sOb → Option sOb) (x2_2 : Int32) (T_2 : sOb) : Option sOb :=
  if a1 ≤ x2_2 then (some T_2) else ((fX3_allHome T_2).bind fun q8 => if q8 = 0 then ((fX3_goSecond T_2).bind fun q15 => nm (x2_2 + (1 : Int32)) fun v18 => rc2 v18 q15) else (some T_2))
def fX3_goOn (T : sOb) (a1 : Int32) : Option sOb :=
  fx2 (bX3_goOn_2 a1) FU (0 : Int32) T
def rmX3_goOn : Room := { frames := 4, cells := 0, slots := 0, locals := 90 }
theorem qqX3_goOn : yX3_goOn.cls = RX3 ∧ yX3_goOn.cls ≠ "java/lang/invoke/MethodHandle" ∧ yX3_goOn.cls ≠ "java/lang/invoke/VarHandle" ∧ (parseMethodDescriptor yX3_goOn.desc).map (fun d => d.parameters.length) = some 1 := by decide +kernel
def fX3_isAhead (T : sOb) (a1 : Int32) (a2 : Int32) : Option Int32 :=
  if a1 < 0 ∨ 9 ≤ a1.toNatClampNeg then none else nm (fun (y0_14 : Int32) => if a2 < 0 ∨ 9 ≤ a2.toNatClampNeg then none else nm (fun (y0_30 : Int32) => if y0_14 = y0_30 then (if (T.2.1 7 a1.toNatClampNeg) = (T.2.1 7 a2.toNatClampNeg) then (if (T.2.1 5 a1.toNatClampNeg) = (T.2.1 5 a2.toNatClampNeg) then (if a2 ≤ a1 then (some (0 : Int32)) else (some (1 : Int32))) else (if (T.2.1 5 a1.toNatClampNeg) ≤ (T.2.1 5 a2.toNatClampNeg) then (some (0 : Int32)) else (some (1 : Int32)))) else (if (T.2.1 7 a2.toNatClampNeg) ≤ (T.2.1 7 a1.toNatClampNeg) then (some (0 : Int32)) else (some (1 : Int32)))) else (if ¬ (y0_14 = 0 ∨ y0_14 = 1) then none else some y0_14)) fun k30 => if (T.2.1 7 a2.toNatClampNeg) < 0 then (k30 (0 : Int32)) else (k30 (1 : Int32))) fun k14 => if (T.2.1 7 a1.toNatClampNeg) < 0 then (k14 (0 : Int32)) else (k14 (1 : Int32))
def rmX3_isAhead : Room := { frames := 0, cells := 0, slots := 0, locals := 0 }
theorem qqX3_isAhead : yX3_isAhead.cls = RX3 ∧ yX3_isAhead.cls ≠ "java/lang/invoke/MethodHandle" ∧ yX3_isAhead.cls ≠ "java/lang/invoke/VarHandle" ∧ (parseMethodDescriptor yX3_isAhead.desc).map (fun d => d.parameters.length) = some 2 := by decide +kernel
def bX3_placeOf_12 (T : sOb) (a1 : Int32) (rc12 : Int32 → Int32 → Option Int32) (x2_12 : Int32) (x3_12 : Int32) : Option Int32 :=
  if (T.1 4) ≤ x3_12 then (some x2_12) else (if x3_12 = a1 then (nm (x3_12 + (1 : Int32)) fun v37 => rc12 x2_12 v37) else ((fX3_isAhead T x3_12 a1).bind fun q28 => if q28 = 0 then (nm (x3_12 + (1 : Int32)) fun v37 => rc12 x2_12 v37) else (nm (x2_12 + (1 : Int32)) fun v34 => nm (x3_12 + (1 : Int32)) fun v37 => rc12 v34 v37)))
def fX3_placeOf (T : sOb) (a1 : Int32) : Option Int32 :=
  (fX3_has T a1).bind fun q4 => if q4 = 0 then (some (0 : Int32)) else (fx2 (bX3_placeOf_12 T a1) FU (0 : Int32) (0 : Int32))
def rmX3_placeOf : Room := { frames := 1, cells := 0, slots := 0, locals := 23 }
theorem qqX3_placeOf : yX3_placeOf.cls = RX3 ∧ yX3_placeOf.cls ≠ "java/lang/invoke/MethodHandle" ∧ yX3_placeOf.cls ≠ "java/lang/invoke/VarHandle" ∧ (parseMethodDescriptor yX3_placeOf.desc).map (fun d => d.parameters.length) = some 1 := by decide +kernel
def bX3_whoseAt_2 (T : sOb) (a1 : Int32) (rc2 : Int32 → Option Int32) (x2_2 : Int32) : Option Int32 :=
  if (T.1 4) ≤ x2_2 then (some (-1 : Int32)) else ((fX3_placeOf T x2_2).bind fun q12 => if q12 = a1 then (some x2_2) else (nm (x2_2 + (1 : Int32)) fun v21 => rc2 v21))
def fX3_whoseAt (T : sOb) (a1 : Int32) : Option Int32 :=
  fx1 (bX3_whoseAt_2 T a1) FU (0 : Int32)
def rmX3_whoseAt : Room := { frames := 2, cells := 0, slots := 0, locals := 46 }
theorem qqX3_whoseAt : yX3_whoseAt.cls = RX3 ∧ yX3_whoseAt.cls ≠ "java/lang/invoke/MethodHandle" ∧ yX3_whoseAt.cls ≠ "java/lang/invoke/VarHandle" ∧ (parseMethodDescriptor yX3_whoseAt.desc).map (fun d => d.parameters.length) = some 1 := by decide +kernel
def fX3_prizeOwner (T : sOb) (a1 : Int32) : Option Int32 :=
  if a1 = (0 : Int32) then ((fX3_whoseAt T (0 : Int32)).bind fun q30 => some q30) else if a1 = (1 : Int32) then ((fX3_whoseAt T (1 : Int32)).bind fun q36 => some q36) else if a1 = (2 : Int32) then ((fX3_whoseAt T ((T.1 4) - (2 : Int32))).bind fun q47 => some q47) else ((fX3_whoseAt T (((T.1 4) - (1 : Int32)) / (2 : Int32))).bind fun q60 => some q60)
def rmX3_prizeOwner : Room := { frames := 3, cells := 0, slots := 0, locals := 68 }
theorem qqX3_prizeOwner : yX3_prizeOwner.cls = RX3 ∧ yX3_prizeOwner.cls ≠ "java/lang/invoke/MethodHandle" ∧ yX3_prizeOwner.cls ≠ "java/lang/invoke/VarHandle" ∧ (parseMethodDescriptor yX3_prizeOwner.desc).map (fun d => d.parameters.length) = some 1 := by decide +kernel
def fX3_raceOwner (T : sOb) : Option (Int32 × sOb) :=
  (fX3_lineUp T).bind fun q1 => (fX3_goOn q1 (2000 : Int32)).bind fun q8 => (fX3_allHome q8).bind fun q12 => if q12 = 0 then (some ((-1 : Int32), q8)) else ((fX3_prizeOwner q8 (q8.1 2)).bind fun q23 => some (q23, q8))
def rmX3_raceOwner : Room := { frames := 5, cells := 0, slots := 0, locals := 112 }
theorem qqX3_raceOwner : yX3_raceOwner.cls = RX3 ∧ yX3_raceOwner.cls ≠ "java/lang/invoke/MethodHandle" ∧ yX3_raceOwner.cls ≠ "java/lang/invoke/VarHandle" ∧ (parseMethodDescriptor yX3_raceOwner.desc).map (fun d => d.parameters.length) = some 0 := by decide +kernel
def bX3_givePoints_13 (q7 : Int32) (rc13 : Int32 → Int32 → sOb → Option (Int32 × sOb)) (x1_13 : Int32) (x3_13 : Int32) (T_13 : sOb) : Option (Int32 × sOb) :=
  if (T_13.1 4) ≤ x3_13 then (some (x1_13, T_13)) else ((fX3_placeOf T_13 x3_13).bind fun q29 => nm (fun (y0_44 : Int32) => nm ((((T_13.1 4) - (1 : Int32)) - q29) + y0_44) fun v45 => if x3_13 < 0 ∨ 9 ≤ x3_13.toNatClampNeg then none else nm (sSa T_13 6 x3_13.toNatClampNeg ((T_13.2.1 6 x3_13.toNatClampNeg) + v45)) fun T57 => nm (x1_13 + v45) fun v62 => nm (x3_13 + (1 : Int32)) fun v63 => rc13 v62 v63 T57) fun k44 => if x3_13 = q7 then (k44 (10 : Int32)) else (k44 (0 : Int32)))
def fX3_givePoints (T : sOb) : Option (Int32 × sOb) :=
  (fX3_prizeOwner T (T.1 2)).bind fun q7 => fx3 (bX3_givePoints_13 q7) FU (0 : Int32) (0 : Int32) T
def rmX3_givePoints : Room := { frames := 4, cells := 0, slots := 0, locals := 89 }
theorem qqX3_givePoints : yX3_givePoints.cls = RX3 ∧ yX3_givePoints.cls ≠ "java/lang/invoke/MethodHandle" ∧ yX3_givePoints.cls ≠ "java/lang/invoke/VarHandle" ∧ (parseMethodDescriptor yX3_givePoints.desc).map (fun d => d.parameters.length) = some 0 := by decide +kernel
def bJ7_fill_d0a16_6 (a1 : Int64) (rc6 : Int32 → sOb → Option sOb) (x3_6 : Int32) (T_6 : sOb) : Option sOb :=
  if (40 : Int32) ≤ x3_6 then (some T_6) else (if x3_6 < 0 ∨ 40 ≤ x3_6.toNatClampNeg then none else nm (sSl T_6 x3_6.toNatClampNeg a1) fun T15 => nm (x3_6 + (1 : Int32)) fun v16 => rc6 v16 T15)
def fJ7_fill_d0a16 (T : sOb) (a1 : Int64) : Option sOb :=
  fx2 (bJ7_fill_d0a16_6 a1) FU (0 : Int32) T
def rmJ7_fill_d0a16 : Room := { frames := 0, cells := 0, slots := 0, locals := 0 }
theorem qqJ7_fill_d0a16 : yJ7_fill_d0a16.cls ≠ "java/lang/invoke/MethodHandle" ∧ yJ7_fill_d0a16.cls ≠ "java/lang/invoke/VarHandle" ∧ (parseMethodDescriptor yJ7_fill_d0a16.desc).map (fun d => d.parameters.length) = some 2 := by decide +kernel
def fX1_isMissing (T : sOb) : Option Int32 :=
  if (T.1 0) = 0 then (some (1 : Int32)) else (some (0 : Int32))
def rmX1_isMissing : Room := { frames := 0, cells := 0, slots := 0, locals := 0 }
theorem qqX1_isMissing : yX1_isMissing.cls = RX1 ∧ yX1_isMissing.cls ≠ "java/lang/invoke/MethodHandle" ∧ yX1_isMissing.cls ≠ "java/lang/invoke/VarHandle" ∧ (parseMethodDescriptor yX1_isMissing.desc).map (fun d => d.parameters.length) = some 0 := by decide +kernel
def fX1_has (T : sOb) (a1 : Int32) : Option Int32 :=
  if a1 < 0 then (some (0 : Int32)) else (if (T.1 1) ≤ a1 then (some (0 : Int32)) else (if (40 : Int32) ≤ a1 then (some (0 : Int32)) else (some (1 : Int32))))
def rmX1_has : Room := { frames := 0, cells := 0, slots := 0, locals := 0 }
theorem qqX1_has : yX1_has.cls = RX1 ∧ yX1_has.cls ≠ "java/lang/invoke/MethodHandle" ∧ yX1_has.cls ≠ "java/lang/invoke/VarHandle" ∧ (parseMethodDescriptor yX1_has.desc).map (fun d => d.parameters.length) = some 1 := by decide +kernel
def fX1_hasRow (T : sOb) (a1 : Int32) (a2 : Int32) : Option Int32 :=
  if a1 < 0 then (some (0 : Int32)) else (if a2 < 0 then (some (0 : Int32)) else (if (T.1 1) < a2 then (some (0 : Int32)) else (if ((T.1 1) - a2) < a1 then (some (0 : Int32)) else (some (1 : Int32)))))
def rmX1_hasRow : Room := { frames := 0, cells := 0, slots := 0, locals := 0 }
theorem qqX1_hasRow : yX1_hasRow.cls = RX1 ∧ yX1_hasRow.cls ≠ "java/lang/invoke/MethodHandle" ∧ yX1_hasRow.cls ≠ "java/lang/invoke/VarHandle" ∧ (parseMethodDescriptor yX1_hasRow.desc).map (fun d => d.parameters.length) = some 2 := by decide +kernel
def fX1_lay (T : sOb) (a1 : Int32) (a2 : Int32) : Option (Int32 × sOb) :=
  nm (sSs T 0 a1) fun T2 => nm (fun (y0_15 : Int32) => nm (sSs T2 1 y0_15) fun T15 => (fJ7_fill_d0a16 T15 (0 : Int64)).bind fun q23 => some ((q23.1 1), q23)) fun k15 => if a1 = 0 then (k15 (0 : Int32)) else (k15 a2)
def rmX1_lay : Room := { frames := 1, cells := 0, slots := 0, locals := 24 }
theorem qqX1_lay : yX1_lay.cls = RX1 ∧ yX1_lay.cls ≠ "java/lang/invoke/MethodHandle" ∧ yX1_lay.cls ≠ "java/lang/invoke/VarHandle" ∧ (parseMethodDescriptor yX1_lay.desc).map (fun d => d.parameters.length) = some 2 := by decide +kernel
def fX1_lowest (T : sOb) (a1 : Int64) : Option Int64 :=
  if (T.1 0) = (8 : Int32) then (some a1.toInt32.toInt8.toInt32.toInt64) else if (T.1 0) = (16 : Int32) then (some a1.toInt32.toInt16.toInt32.toInt64) else (some a1)
def rmX1_lowest : Room := { frames := 0, cells := 0, slots := 0, locals := 0 }
theorem qqX1_lowest : yX1_lowest.cls = RX1 ∧ yX1_lowest.cls ≠ "java/lang/invoke/MethodHandle" ∧ yX1_lowest.cls ≠ "java/lang/invoke/VarHandle" ∧ (parseMethodDescriptor yX1_lowest.desc).map (fun d => d.parameters.length) = some 1 := by decide +kernel
def fX1_put (T : sOb) (a1 : Int32) (a2 : Int64) : Option sOb :=
  (fX1_has T a1).bind fun q2 => if q2 = 0 then (some T) else ((fX1_lowest T a2).bind fun q15 => if a1 < 0 ∨ 40 ≤ a1.toNatClampNeg then none else nm (sSl T a1.toNatClampNeg q15) fun T18 => some T18)
def rmX1_put : Room := { frames := 1, cells := 0, slots := 0, locals := 22 }
theorem qqX1_put : yX1_put.cls = RX1 ∧ yX1_put.cls ≠ "java/lang/invoke/MethodHandle" ∧ yX1_put.cls ≠ "java/lang/invoke/VarHandle" ∧ (parseMethodDescriptor yX1_put.desc).map (fun d => d.parameters.length) = some 2 := by decide +kernel
def bX0_isUnder_4 (a1 : Int32) (rc4 : Int32 → Int32 → Option Int32) (x2_4 : Int32) (x3_4 : Int32) : Option Int32 :=
  if (6 : Int32) ≤ x3_4 then (some (0 : Int32)) else (if x2_4 < 0 then (some (0 : Int32)) else (if (6 : Int32) ≤ x2_4 then (some (0 : Int32)) else (if x2_4 = a1 then (some (1 : Int32)) else (if x2_4 < 0 ∨ 6 ≤ x2_4.toNatClampNeg then none else nm (kAb.getD x2_4.toNatClampNeg 0) fun v34 => nm (x3_4 + (1 : Int32)) fun v35 => rc4 v34 v35))))
def fX0_isUnder (a0 : Int32) (a1 : Int32) : Option Int32 :=
  fx2 (bX0_isUnder_4 a1) FU a0 (0 : Int32)
def rmX0_isUnder : Room := { frames := 0, cells := 0, slots := 0, locals := 0 }
theorem qqX0_isUnder : yX0_isUnder.cls ≠ "java/lang/invoke/MethodHandle" ∧ yX0_isUnder.cls ≠ "java/lang/invoke/VarHandle" ∧ (parseMethodDescriptor yX0_isUnder.desc).map (fun d => d.parameters.length) = some 2 := by decide +kernel
def fX0_name (a0 : Int32) : Option Nat :=
  if a0 = (0 : Int32) then (some 0) else if a0 = (1 : Int32) then (some 1) else if a0 = (2 : Int32) then (some 2) else if a0 = (3 : Int32) then (some 3) else if a0 = (4 : Int32) then (some 4) else (some 5)
def rmX0_name : Room := { frames := 0, cells := 0, slots := 0, locals := 0 }
theorem qqX0_name : yX0_name.cls ≠ "java/lang/invoke/MethodHandle" ∧ yX0_name.cls ≠ "java/lang/invoke/VarHandle" ∧ (parseMethodDescriptor yX0_name.desc).map (fun d => d.parameters.length) = some 1 := by decide +kernel
-- J3_checkIndex, by hand
def fJ3 (a0 : Int32) (a1 : Int32) : Option Int32 := if a0 < 0 then none else (if a0 < a1 then some a0 else none)
def rmJ3_checkIndex_8e157 : Room := { frames := 0, cells := 0, slots := 0, locals := 0 }
theorem qqJ3_checkIndex_8e157 : yJ3_checkIndex_8e157.cls ≠ "java/lang/invoke/MethodHandle" ∧ yJ3_checkIndex_8e157.cls ≠ "java/lang/invoke/VarHandle" ∧ (parseMethodDescriptor yJ3_checkIndex_8e157.desc).map (fun d => d.parameters.length) = some 3 := by decide +kernel
def fJ0_checkIndex_df160 (a0 : Int32) (a1 : Int32) : Option Unit := (fJ3 a0 a1).bind fun q5 => some ()
def rmJ0_checkIndex_df160 : Room := { frames := 1, cells := 0, slots := 0, locals := 22 }
theorem qqJ0_checkIndex_df160 : yJ0_checkIndex_df160.cls ≠ "java/lang/invoke/MethodHandle" ∧ yJ0_checkIndex_df160.cls ≠ "java/lang/invoke/VarHandle" ∧ (parseMethodDescriptor yJ0_checkIndex_df160.desc).map (fun d => d.parameters.length) = some 2 := by decide +kernel
def fJ0_coder_7d493 (w : Nat) : Option Int32 :=
  if (1 : Int32) = 0 then (some (1 : Int32)) else (some (0 : Int32))
def rmJ0_coder_7d493 : Room := { frames := 0, cells := 0, slots := 0, locals := 0 }
theorem qqJ0_coder_7d493 : yJ0_coder_7d493.cls = RJ0 ∧ yJ0_coder_7d493.cls ≠ "java/lang/invoke/MethodHandle" ∧ yJ0_coder_7d493.cls ≠ "java/lang/invoke/VarHandle" ∧ (parseMethodDescriptor yJ0_coder_7d493.desc).map (fun d => d.parameters.length) = some 0 := by decide +kernel
def fJ0_length_8abf5 (w : Nat) : Option Int32 :=
  (fJ0_coder_7d493 w).bind fun q6 => some ((Int32.ofNat (kLe.getD w 0)) >>> (q6 &&& 31))
def rmJ0_length_8abf5 : Room := { frames := 1, cells := 0, slots := 0, locals := 20 }
theorem qqJ0_length_8abf5 : yJ0_length_8abf5.cls = RJ0 ∧ yJ0_length_8abf5.cls ≠ "java/lang/invoke/MethodHandle" ∧ yJ0_length_8abf5.cls ≠ "java/lang/invoke/VarHandle" ∧ (parseMethodDescriptor yJ0_length_8abf5.desc).map (fun d => d.parameters.length) = some 0 := by decide +kernel
def fJ0_isLatin1_aae02 (w : Nat) : Option Int32 :=
  if (1 : Int32) = 0 then (some (0 : Int32)) else (if (0 : Int32) = 0 then (some (1 : Int32)) else (some (0 : Int32)))
def rmJ0_isLatin1_aae02 : Room := { frames := 0, cells := 0, slots := 0, locals := 0 }
theorem qqJ0_isLatin1_aae02 : yJ0_isLatin1_aae02.cls = RJ0 ∧ yJ0_isLatin1_aae02.cls ≠ "java/lang/invoke/MethodHandle" ∧ yJ0_isLatin1_aae02.cls ≠ "java/lang/invoke/VarHandle" ∧ (parseMethodDescriptor yJ0_isLatin1_aae02.desc).map (fun d => d.parameters.length) = some 0 := by decide +kernel
def fJ1_charAt_3b067 (w : Nat) (a1 : Int32) : Option Int32 :=
  (fJ0_checkIndex_df160 a1 (Int32.ofNat (kLe.getD w 0))).bind fun q3 => if a1 < 0 ∨ kLe.getD w 0 ≤ a1.toNatClampNeg then none else if ¬ ((((kBy.getD w []).getD a1.toNatClampNeg 0) &&& (255 : Int32)).toUInt32 % 65536).toInt32 = ((((((kBy.getD w []).getD a1.toNatClampNeg 0) &&& (255 : Int32)).toUInt32 % 65536).toInt32).toUInt32 % 65536).toInt32 then none else some (((((kBy.getD w []).getD a1.toNatClampNeg 0) &&& (255 : Int32)).toUInt32 % 65536).toInt32)
def rmJ1_charAt_3b067 : Room := { frames := 2, cells := 0, slots := 0, locals := 43 }
theorem qqJ1_charAt_3b067 : yJ1_charAt_3b067.cls ≠ "java/lang/invoke/MethodHandle" ∧ yJ1_charAt_3b067.cls ≠ "java/lang/invoke/VarHandle" ∧ (parseMethodDescriptor yJ1_charAt_3b067.desc).map (fun d => d.parameters.length) = some 2 := by decide +kernel
def fJ0_charAt_5068e (w : Nat) (a1 : Int32) : Option Int32 :=
  (fJ0_isLatin1_aae02 w).bind fun q1 => if q1 = 0 then none else ((fJ1_charAt_3b067 w a1).bind fun q12 => if ¬ q12 = (q12.toUInt32 % 65536).toInt32 then none else some q12)
def rmJ0_charAt_5068e : Room := { frames := 3, cells := 0, slots := 0, locals := 64 }
theorem qqJ0_charAt_5068e : yJ0_charAt_5068e.cls = RJ0 ∧ yJ0_charAt_5068e.cls ≠ "java/lang/invoke/MethodHandle" ∧ yJ0_charAt_5068e.cls ≠ "java/lang/invoke/VarHandle" ∧ (parseMethodDescriptor yJ0_charAt_5068e.desc).map (fun d => d.parameters.length) = some 1 := by decide +kernel
def fX2_add (T : sOb) (a1 : Int32) : Option sOb :=
  if (T.1 0) < 0 then (some T) else (if (120 : Int32) ≤ (T.1 0) then (some T) else (if (T.1 0) < 0 ∨ 120 ≤ (T.1 0).toNatClampNeg then none else nm (sSa T 0 (T.1 0).toNatClampNeg (vp_nar .byte a1.toInt8.toInt32)) fun T26 => nm (sSs T26 0 ((T26.1 0) + (1 : Int32))) fun T34 => some T34))
def rmX2_add : Room := { frames := 0, cells := 0, slots := 0, locals := 0 }
theorem qqX2_add : yX2_add.cls = RX2 ∧ yX2_add.cls ≠ "java/lang/invoke/MethodHandle" ∧ yX2_add.cls ≠ "java/lang/invoke/VarHandle" ∧ (parseMethodDescriptor yX2_add.desc).map (fun d => d.parameters.length) = some 1 := by decide +kernel
def fX2_empty (T : sOb) : Option (Int32 × sOb) :=
  nm (T.1 0) fun v4 => nm (sSs T 0 (0 : Int32)) fun T7 => some (v4, T7)
def rmX2_empty : Room := { frames := 0, cells := 0, slots := 0, locals := 0 }
theorem qqX2_empty : yX2_empty.cls = RX2 ∧ yX2_empty.cls ≠ "java/lang/invoke/MethodHandle" ∧ yX2_empty.cls ≠ "java/lang/invoke/VarHandle" ∧ (parseMethodDescriptor yX2_empty.desc).map (fun d => d.parameters.length) = some 0 := by decide +kernel
def fX2_byteAt (T : sOb) (a1 : Int32) : Option Int32 :=
  if a1 < 0 then (some (-1 : Int32)) else (if (T.1 0) ≤ a1 then (some (-1 : Int32)) else (if (120 : Int32) ≤ a1 then (some (-1 : Int32)) else (if a1 < 0 ∨ 120 ≤ a1.toNatClampNeg then none else some ((T.2.1 0 a1.toNatClampNeg) &&& (255 : Int32)))))
def rmX2_byteAt : Room := { frames := 0, cells := 0, slots := 0, locals := 0 }
theorem qqX2_byteAt : yX2_byteAt.cls = RX2 ∧ yX2_byteAt.cls ≠ "java/lang/invoke/MethodHandle" ∧ yX2_byteAt.cls ≠ "java/lang/invoke/VarHandle" ∧ (parseMethodDescriptor yX2_byteAt.desc).map (fun d => d.parameters.length) = some 1 := by decide +kernel
def fX2_tokenBegunBy (a0 : Int32) : Option Int32 :=
  if 0 ≤ a0 then (nm (nm (if a0 = (59 : Int32) then (some (3 : Int32)) else (some (4 : Int32))) fun k34 => if a0 < (48 : Int32) then k34 else (if (57 : Int32) < a0 then k34 else (some (2 : Int32)))) fun k20 => if a0 < (97 : Int32) then k20 else (if (122 : Int32) < a0 then k20 else (some (1 : Int32)))) else (some (0 : Int32))
def rmX2_tokenBegunBy : Room := { frames := 0, cells := 0, slots := 0, locals := 0 }
theorem qqX2_tokenBegunBy : yX2_tokenBegunBy.cls ≠ "java/lang/invoke/MethodHandle" ∧ yX2_tokenBegunBy.cls ≠ "java/lang/invoke/VarHandle" ∧ (parseMethodDescriptor yX2_tokenBegunBy.desc).map (fun d => d.parameters.length) = some 1 := by decide +kernel
def bX2_next_86 (rc86 : sOb → Option sOb) (T_86 : sOb) : Option sOb :=
  if (T_86.1 0) ≤ (T_86.1 3) then (some T_86) else ((fX2_byteAt T_86 (T_86.1 3)).bind fun q102 => (fX2_tokenBegunBy q102).bind fun q105 => if q105 = (T_86.1 1) then (nm (sSs T_86 3 ((T_86.1 3) + (1 : Int32))) fun T122 => rc86 T122) else (some T_86))
def bX2_next_8 (k45 : sOb → Option sOb) (rc8 : sOb → Option sOb) (T_8 : sOb) : Option sOb :=
  if (T_8.1 0) ≤ (T_8.1 2) then (k45 T_8) else ((fX2_byteAt T_8 (T_8.1 2)).bind fun q24 => if q24 = (32 : Int32) then (nm (sSs T_8 2 ((T_8.1 2) + (1 : Int32))) fun T39 => rc8 T39) else (k45 T_8))
def fX2_next (T : sOb) : Option sOb :=
  nm (sSs T 2 (T.1 3)) fun T5 => nm (fun (T_45 : sOb) => (fX2_byteAt T_45 (T_45.1 2)).bind fun q51 => (fX2_tokenBegunBy q51).bind fun q54 => nm (sSs T_45 1 q54) fun T57 => nm (sSs T57 3 ((T57.1 2) + (1 : Int32))) fun T67 => if (T67.1 1) = (1 : Int32) then (fx1 bX2_next_86 FU T67) else (if (T67.1 1) = (2 : Int32) then (fx1 bX2_next_86 FU T67) else (some T67))) fun k45 => fx1 (bX2_next_8 k45) FU T5
def rmX2_next : Room := { frames := 1, cells := 0, slots := 0, locals := 21 }
theorem qqX2_next : yX2_next.cls = RX2 ∧ yX2_next.cls ≠ "java/lang/invoke/MethodHandle" ∧ yX2_next.cls ≠ "java/lang/invoke/VarHandle" ∧ (parseMethodDescriptor yX2_next.desc).map (fun d => d.parameters.length) = some 0 := by decide +kernel
def bX2_isWord_28 (T : sOb) (w : Nat) (rc28 : Int32 → Option Int32) (x2_28 : Int32) : Option Int32 :=
  (fJ0_length_8abf5 w).bind fun q30 => if q30 ≤ x2_28 then (some (1 : Int32)) else ((fJ0_charAt_5068e w x2_28).bind fun q38 => (fX2_byteAt T ((T.1 2) + x2_28)).bind fun q48 => if q38 = q48 then (nm (x2_28 + (1 : Int32)) fun v56 => rc28 v56) else (some (0 : Int32)))
def fX2_isWord (T : sOb) (w : Nat) : Option Int32 :=
  if (T.1 1) = (1 : Int32) then ((fJ0_length_8abf5 w).bind fun q9 => if q9 = ((T.1 3) - (T.1 2)) then (fx1 (bX2_isWord_28 T w) FU (0 : Int32)) else (some (0 : Int32))) else (some (0 : Int32))
def rmX2_isWord : Room := { frames := 4, cells := 0, slots := 0, locals := 85 }
theorem qqX2_isWord : yX2_isWord.cls = RX2 ∧ yX2_isWord.cls ≠ "java/lang/invoke/MethodHandle" ∧ yX2_isWord.cls ≠ "java/lang/invoke/VarHandle" ∧ (parseMethodDescriptor yX2_isWord.desc).map (fun d => d.parameters.length) = some 1 := by decide +kernel
def bX2_kindNamed_2 (T : sOb) (rc2 : Int32 → Option Int32) (x1_2 : Int32) : Option Int32 :=
  if (6 : Int32) ≤ x1_2 then (some (-1 : Int32)) else ((fX0_name x1_2).bind fun q10 => if 13 ≤ q10 then none else (fX2_isWord T q10).bind fun q13 => if q13 = 0 then (nm (x1_2 + (1 : Int32)) fun v21 => rc2 v21) else (some x1_2))
def fX2_kindNamed (T : sOb) : Option Int32 :=
  fx1 (bX2_kindNamed_2 T) FU (0 : Int32)
def rmX2_kindNamed : Room := { frames := 5, cells := 0, slots := 0, locals := 107 }
theorem qqX2_kindNamed : yX2_kindNamed.cls = RX2 ∧ yX2_kindNamed.cls ≠ "java/lang/invoke/MethodHandle" ∧ yX2_kindNamed.cls ≠ "java/lang/invoke/VarHandle" ∧ (parseMethodDescriptor yX2_kindNamed.desc).map (fun d => d.parameters.length) = some 0 := by decide +kernel
def bX2_numberHere_7 (T : sOb) (rc7 : Int32 → Int32 → Option Int32) (x1_7 : Int32) (x2_7 : Int32) : Option Int32 :=
  if (T.1 3) ≤ x2_7 then (some x1_7) else (if (9999 : Int32) < x1_7 then (some x1_7) else ((fX2_byteAt T x2_7).bind fun q28 => nm ((((10 : Int32) * x1_7) + q28) - (48 : Int32)) fun v35 => nm (x2_7 + (1 : Int32)) fun v36 => rc7 v35 v36))
def fX2_numberHere (T : sOb) : Option Int32 :=
  nm (T.1 2) fun v6 => fx2 (bX2_numberHere_7 T) FU (0 : Int32) v6
def rmX2_numberHere : Room := { frames := 1, cells := 0, slots := 0, locals := 21 }
theorem qqX2_numberHere : yX2_numberHere.cls = RX2 ∧ yX2_numberHere.cls ≠ "java/lang/invoke/MethodHandle" ∧ yX2_numberHere.cls ≠ "java/lang/invoke/VarHandle" ∧ (parseMethodDescriptor yX2_numberHere.desc).map (fun d => d.parameters.length) = some 0 := by decide +kernel
def fX2_readNumberBehind (T : sOb) (a1 : Int32) (a2 : Int32) : Option (Int32 × sOb) :=
  (fX2_next T).bind fun q1 => if (q1.1 1) = (2 : Int32) then ((fX2_numberHere q1).bind fun q16 => nm (sSs q1 4 q16) fun T19 => if (T19.1 4) < a1 then (some ((0 : Int32), T19)) else (if (T19.1 4) ≤ a2 then ((fX2_next T19).bind fun q41 => some ((1 : Int32), q41)) else (some ((0 : Int32), T19)))) else (some ((0 : Int32), q1))
def rmX2_readNumberBehind : Room := { frames := 2, cells := 0, slots := 0, locals := 43 }
theorem qqX2_readNumberBehind : yX2_readNumberBehind.cls = RX2 ∧ yX2_readNumberBehind.cls ≠ "java/lang/invoke/MethodHandle" ∧ yX2_readNumberBehind.cls ≠ "java/lang/invoke/VarHandle" ∧ (parseMethodDescriptor yX2_readNumberBehind.desc).map (fun d => d.parameters.length) = some 2 := by decide +kernel
def fX2_readRunner (S : sWo) (a2 : Int32) : Option (Int32 × sWo) :=
  (fX2_next (S 4)).bind fun q1 => nm (sUp S 4 q1) fun S1 => (fX2_isWord (S1 4) 9).bind fun q7 => if q7 = 0 then (some ((0 : Int32), S1)) else ((fX2_readNumberBehind (S1 4) (1 : Int32) (12 : Int32)).bind fun q17 => nm (sUp S1 4 q17.2) fun S17 => if q17.1 = 0 then (some ((0 : Int32), S17)) else (nm ((S17 4).1 4) fun v29 => nm (sUp S17 4 (sSs (S17 4) 4 (100 : Int32))) fun S33 => (fX2_isWord (S33 4) 10).bind fun q39 => nm (fun (S_58 : sWo) => nm ((S_58 4).1 4) fun v62 => nm (sUp S_58 4 (sSs (S_58 4) 4 (-1 : Int32))) fun S66 => (fX2_isWord (S66 4) 11).bind fun q72 => nm (fun (S_94 : sWo) => nm ((S_94 4).1 4) fun v98 => nm (sUp S_94 4 (sSs (S_94 4) 4 (0 : Int32))) fun S102 => (fX2_isWord (S102 4) 12).bind fun q108 => nm (fun (S_130 : sWo) => (fX3_add (S_130 2) a2 v29 v62).bind fun q135 => nm (sUp S_130 2 q135.2) fun S135 => (fX3_has (S135 2) q135.1).bind fun q143 => if q143 = 0 then (some ((1 : Int32), S135)) else (if q135.1 < 0 ∨ 9 ≤ q135.1.toNatClampNeg then none else nm (sUp S135 2 (sSa (S135 2) 3 q135.1.toNatClampNeg v98)) fun S157 => nm (sUp S157 2 (sSa (S157 2) 4 q135.1.toNatClampNeg ((S157 4).1 4))) fun S168 => nm (sUp S168 2 (sSa (S168 2) 5 q135.1.toNatClampNeg ((S168 4).1 4))) fun S179 => some ((1 : Int32), S179))) fun k130 => if q108 = 0 then (k130 S102) else ((fX2_readNumberBehind (S102 4) (0 : Int32) (((S102 2).1 0) - (1 : Int32))).bind fun q122 => nm (sUp S102 4 q122.2) fun S122 => if q122.1 = 0 then (some ((0 : Int32), S122)) else (k130 S122))) fun k94 => if q72 = 0 then (k94 S66) else ((fX2_readNumberBehind (S66 4) (0 : Int32) (((S66 2).1 4) - (1 : Int32))).bind fun q86 => nm (sUp S66 4 q86.2) fun S86 => if q86.1 = 0 then (some ((0 : Int32), S86)) else (k94 S86))) fun k58 => if q39 = 0 then (k58 S33) else ((fX2_readNumberBehind (S33 4) (0 : Int32) (999 : Int32)).bind fun q50 => nm (sUp S33 4 q50.2) fun S50 => if q50.1 = 0 then (some ((0 : Int32), S50)) else (k58 S50))))
def rmX2_readRunner : Room := { frames := 5, cells := 0, slots := 0, locals := 107 }
theorem qqX2_readRunner : yX2_readRunner.cls = RX2 ∧ yX2_readRunner.cls ≠ "java/lang/invoke/MethodHandle" ∧ yX2_readRunner.cls ≠ "java/lang/invoke/VarHandle" ∧ (parseMethodDescriptor yX2_readRunner.desc).map (fun d => d.parameters.length) = some 2 := by decide +kernel
def fX2_readLength (S : sWo) : Option (Int32 × sWo) :=
  (fX2_readNumberBehind (S 4) (10 : Int32) (9999 : Int32)).bind fun q6 => nm (sUp S 4 q6.2) fun S6 => if q6.1 = 0 then (some ((0 : Int32), S6)) else (nm (sUp S6 2 (sSs (S6 2) 0 ((S6 4).1 4))) fun S19 => some ((1 : Int32), S19))
def rmX2_readLength : Room := { frames := 3, cells := 0, slots := 0, locals := 65 }
theorem qqX2_readLength : yX2_readLength.cls = RX2 ∧ yX2_readLength.cls ≠ "java/lang/invoke/MethodHandle" ∧ yX2_readLength.cls ≠ "java/lang/invoke/VarHandle" ∧ (parseMethodDescriptor yX2_readLength.desc).map (fun d => d.parameters.length) = some 1 := by decide +kernel
def fX2_readLeast (S : sWo) : Option (Int32 × sWo) :=
  (fX2_readNumberBehind (S 4) (0 : Int32) (5 : Int32)).bind fun q3 => nm (sUp S 4 q3.2) fun S3 => if q3.1 = 0 then (some ((0 : Int32), S3)) else (nm (sUp S3 2 (sSs (S3 2) 1 ((S3 4).1 4))) fun S16 => some ((1 : Int32), S16))
def rmX2_readLeast : Room := { frames := 3, cells := 0, slots := 0, locals := 65 }
theorem qqX2_readLeast : yX2_readLeast.cls = RX2 ∧ yX2_readLeast.cls ≠ "java/lang/invoke/MethodHandle" ∧ yX2_readLeast.cls ≠ "java/lang/invoke/VarHandle" ∧ (parseMethodDescriptor yX2_readLeast.desc).map (fun d => d.parameters.length) = some 1 := by decide +kernel
def fX2_readLaw (S : sWo) : Option (Int32 × sWo) :=
  (fX2_readNumberBehind (S 4) (0 : Int32) (3 : Int32)).bind fun q3 => nm (sUp S 4 q3.2) fun S3 => if q3.1 = 0 then (some ((0 : Int32), S3)) else (nm (sUp S3 2 (sSs (S3 2) 2 ((S3 4).1 4))) fun S16 => some ((1 : Int32), S16))
def rmX2_readLaw : Room := { frames := 3, cells := 0, slots := 0, locals := 65 }
theorem qqX2_readLaw : yX2_readLaw.cls = RX2 ∧ yX2_readLaw.cls ≠ "java/lang/invoke/MethodHandle" ∧ yX2_readLaw.cls ≠ "java/lang/invoke/VarHandle" ∧ (parseMethodDescriptor yX2_readLaw.desc).map (fun d => d.parameters.length) = some 1 := by decide +kernel
def fX2_readItem (S : sWo) : Option (Int32 × sWo) :=
  (fX2_kindNamed (S 4)).bind fun q1 => if q1 = (-1 : Int32) then ((fX2_isWord (S 4) 6).bind fun q37 => if q37 = 0 then ((fX2_isWord (S 4) 7).bind fun q67 => if q67 = 0 then ((fX2_isWord (S 4) 8).bind fun q82 => if q82 = 0 then (some ((0 : Int32), S)) else ((fX2_readLaw S).bind fun q90 => if q90.1 = 0 then (some ((0 : Int32), q90.2)) else (some ((1 : Int32), q90.2)))) else ((fX2_readLeast S).bind fun q75 => if ¬ (q75.1 = 0 ∨ q75.1 = 1) then none else some (q75.1, q75.2))) else (if ((S 2).1 4) = 0 then ((fX2_readLength S).bind fun q52 => if q52.1 = 0 then (some ((0 : Int32), q52.2)) else (some ((1 : Int32), q52.2))) else (some ((0 : Int32), S)))) else (if (9 : Int32) ≤ ((S 2).1 4) then (some ((0 : Int32), S)) else ((fX2_readRunner S q1).bind fun q22 => if q22.1 = 0 then (some ((0 : Int32), q22.2)) else (some ((1 : Int32), q22.2))))
def rmX2_readItem : Room := { frames := 6, cells := 0, slots := 0, locals := 133 }
theorem qqX2_readItem : yX2_readItem.cls = RX2 ∧ yX2_readItem.cls ≠ "java/lang/invoke/MethodHandle" ∧ yX2_readItem.cls ≠ "java/lang/invoke/VarHandle" ∧ (parseMethodDescriptor yX2_readItem.desc).map (fun d => d.parameters.length) = some 1 := by decide +kernel
def bX2_readRace_11 (rc11 : Int32 → sWo → Option (Int32 × sWo)) (x2_11 : Int32) (S_11 : sWo) : Option (Int32 × sWo) :=
  if (120 : Int32) < x2_11 then (some (((-1 : Int32) - ((S_11 4).1 2)), S_11)) else ((fX2_readItem S_11).bind fun q19 => if q19.1 = 0 then (some (((-1 : Int32) - ((q19.2 4).1 2)), q19.2)) else (if ((q19.2 4).1 1) = 0 then (some (x2_11, q19.2)) else (if ((q19.2 4).1 1) = (3 : Int32) then ((fX2_next (q19.2 4)).bind fun q49 => nm (sUp q19.2 4 q49) fun S49 => nm (x2_11 + (1 : Int32)) fun v52 => rc11 v52 S49) else (some (((-1 : Int32) - ((q19.2 4).1 2)), q19.2)))))
def fX2_readRace (S : sWo) : Option (Int32 × sWo) :=
  nm (sUp S 4 (sSs (S 4) 3 (0 : Int32))) fun S2 => (fX2_next (S2 4)).bind fun q6 => nm (sUp S2 4 q6) fun S6 => fx2 bX2_readRace_11 FU (1 : Int32) S6
def rmX2_readRace : Room := { frames := 7, cells := 0, slots := 0, locals := 155 }
theorem qqX2_readRace : yX2_readRace.cls = RX2 ∧ yX2_readRace.cls ≠ "java/lang/invoke/MethodHandle" ∧ yX2_readRace.cls ≠ "java/lang/invoke/VarHandle" ∧ (parseMethodDescriptor yX2_readRace.desc).map (fun d => d.parameters.length) = some 1 := by decide +kernel
def fX4_found (S : sWo) (a1 : Int32) : Option (Int32 × sWo) :=
  nm ((-1000000001 : Int32) - a1) fun v4 => if v4 < 0 then (some (a1, S)) else (if (7 : Int32) ≤ v4 then (some (a1, S)) else (if v4 < 0 ∨ 7 ≤ v4.toNatClampNeg then none else nm (sUp S 0 (sSa (S 0) 0 v4.toNatClampNeg (((S 0).2.1 0 v4.toNatClampNeg) + (1 : Int32)))) fun S24 => some (a1, S24)))
def rmX4_found : Room := { frames := 0, cells := 0, slots := 0, locals := 0 }
theorem qqX4_found : yX4_found.cls = RX4 ∧ yX4_found.cls ≠ "java/lang/invoke/MethodHandle" ∧ yX4_found.cls ≠ "java/lang/invoke/VarHandle" ∧ (parseMethodDescriptor yX4_found.desc).map (fun d => d.parameters.length) = some 1 := by decide +kernel
def fX4_letLength (S : sWo) (a1 : Int32) : Option (Int32 × sWo) :=
  if a1 < (10 : Int32) then ((fX4_found S (-1000000001 : Int32)).bind fun q16 => some (q16.1, q16.2)) else (if a1 ≤ (9999 : Int32) then (if ((S 1).1 4) ≤ 0 then (nm ((S 1).1 0) fun v44 => nm (sUp S 1 (sSs (S 1) 0 a1)) fun S50 => some (v44, S50)) else ((fX4_found S (-1000000005 : Int32)).bind fun q33 => some (q33.1, q33.2))) else ((fX4_found S (-1000000001 : Int32)).bind fun q16 => some (q16.1, q16.2)))
def rmX4_letLength : Room := { frames := 1, cells := 0, slots := 0, locals := 22 }
theorem qqX4_letLength : yX4_letLength.cls = RX4 ∧ yX4_letLength.cls ≠ "java/lang/invoke/MethodHandle" ∧ yX4_letLength.cls ≠ "java/lang/invoke/VarHandle" ∧ (parseMethodDescriptor yX4_letLength.desc).map (fun d => d.parameters.length) = some 1 := by decide +kernel
def fX4_letLeast (S : sWo) (a1 : Int32) : Option (Int32 × sWo) :=
  if a1 < 0 then ((fX4_found S (-1000000001 : Int32)).bind fun q12 => some (q12.1, q12.2)) else (if a1 ≤ (5 : Int32) then (nm ((S 1).1 1) fun v23 => nm (sUp S 1 (sSs (S 1) 1 a1)) fun S29 => some (v23, S29)) else ((fX4_found S (-1000000001 : Int32)).bind fun q12 => some (q12.1, q12.2)))
def rmX4_letLeast : Room := { frames := 1, cells := 0, slots := 0, locals := 22 }
theorem qqX4_letLeast : yX4_letLeast.cls = RX4 ∧ yX4_letLeast.cls ≠ "java/lang/invoke/MethodHandle" ∧ yX4_letLeast.cls ≠ "java/lang/invoke/VarHandle" ∧ (parseMethodDescriptor yX4_letLeast.desc).map (fun d => d.parameters.length) = some 1 := by decide +kernel
def fX4_isLaw (a0 : Int32) : Option Int32 :=
  if a0 < 0 then (some (0 : Int32)) else (if (4 : Int32) ≤ a0 then (some (0 : Int32)) else (some (1 : Int32)))
def rmX4_isLaw : Room := { frames := 0, cells := 0, slots := 0, locals := 0 }
theorem qqX4_isLaw : yX4_isLaw.cls ≠ "java/lang/invoke/MethodHandle" ∧ yX4_isLaw.cls ≠ "java/lang/invoke/VarHandle" ∧ (parseMethodDescriptor yX4_isLaw.desc).map (fun d => d.parameters.length) = some 1 := by decide +kernel
def fX4_letLaw (S : sWo) (a1 : Int32) : Option (Int32 × sWo) :=
  (fX4_isLaw a1).bind fun q1 => if q1 = 0 then ((fX4_found S (-1000000001 : Int32)).bind fun q10 => some (q10.1, q10.2)) else (nm ((S 1).1 2) fun v21 => nm (sUp S 1 (sSs (S 1) 2 a1)) fun S27 => some (v21, S27))
def rmX4_letLaw : Room := { frames := 1, cells := 0, slots := 0, locals := 22 }
theorem qqX4_letLaw : yX4_letLaw.cls = RX4 ∧ yX4_letLaw.cls ≠ "java/lang/invoke/MethodHandle" ∧ yX4_letLaw.cls ≠ "java/lang/invoke/VarHandle" ∧ (parseMethodDescriptor yX4_letLaw.desc).map (fun d => d.parameters.length) = some 1 := by decide +kernel
def fX4_let (S : sWo) (a1 : Int32) (a2 : Int32) : Option (Int32 × sWo) :=
  if a1 = (0 : Int32) then ((fX4_letLength S a2).bind fun q30 => some (q30.1, q30.2)) else if a1 = (1 : Int32) then ((fX4_letLeast S a2).bind fun q36 => some (q36.1, q36.2)) else if a1 = (2 : Int32) then ((fX4_letLaw S a2).bind fun q42 => some (q42.1, q42.2)) else ((fX4_found S (-1000000001 : Int32)).bind fun q49 => some (q49.1, q49.2))
def rmX4_let : Room := { frames := 2, cells := 0, slots := 0, locals := 44 }
theorem qqX4_let : yX4_let.cls = RX4 ∧ yX4_let.cls ≠ "java/lang/invoke/MethodHandle" ∧ yX4_let.cls ≠ "java/lang/invoke/VarHandle" ∧ (parseMethodDescriptor yX4_let.desc).map (fun d => d.parameters.length) = some 2 := by decide +kernel
def fX4_isKind (a0 : Int32) : Option Int32 :=
  if a0 < 0 then (some (0 : Int32)) else (if (6 : Int32) ≤ a0 then (some (0 : Int32)) else (some (1 : Int32)))
def rmX4_isKind : Room := { frames := 0, cells := 0, slots := 0, locals := 0 }
theorem qqX4_isKind : yX4_isKind.cls ≠ "java/lang/invoke/MethodHandle" ∧ yX4_isKind.cls ≠ "java/lang/invoke/VarHandle" ∧ (parseMethodDescriptor yX4_isKind.desc).map (fun d => d.parameters.length) = some 1 := by decide +kernel
def fX4_isPace (a0 : Int32) : Option Int32 :=
  if a0 < (1 : Int32) then (some (0 : Int32)) else (if (12 : Int32) < a0 then (some (0 : Int32)) else (some (1 : Int32)))
def rmX4_isPace : Room := { frames := 0, cells := 0, slots := 0, locals := 0 }
theorem qqX4_isPace : yX4_isPace.cls ≠ "java/lang/invoke/MethodHandle" ∧ yX4_isPace.cls ≠ "java/lang/invoke/VarHandle" ∧ (parseMethodDescriptor yX4_isPace.desc).map (fun d => d.parameters.length) = some 1 := by decide +kernel
def fX4_isBreath (a0 : Int32) : Option Int32 :=
  if a0 < 0 then (some (0 : Int32)) else (if (999 : Int32) < a0 then (some (0 : Int32)) else (some (1 : Int32)))
def rmX4_isBreath : Room := { frames := 0, cells := 0, slots := 0, locals := 0 }
theorem qqX4_isBreath : yX4_isBreath.cls ≠ "java/lang/invoke/MethodHandle" ∧ yX4_isBreath.cls ≠ "java/lang/invoke/VarHandle" ∧ (parseMethodDescriptor yX4_isBreath.desc).map (fun d => d.parameters.length) = some 1 := by decide +kernel
def fX4_runner (S : sWo) (a1 : Int32) (a2 : Int32) (a3 : Int32) : Option (Int32 × sWo) :=
  (fX4_isKind a1).bind fun q1 => if q1 = 0 then ((fX4_found S (-1000000001 : Int32)).bind fun q24 => some (q24.1, q24.2)) else ((fX4_isPace a2).bind fun q8 => if q8 = 0 then ((fX4_found S (-1000000001 : Int32)).bind fun q24 => some (q24.1, q24.2)) else ((fX4_isBreath a3).bind fun q15 => if q15 = 0 then ((fX4_found S (-1000000001 : Int32)).bind fun q24 => some (q24.1, q24.2)) else (if ((S 1).1 4) < (9 : Int32) then ((fX3_add (S 1) a1 a2 a3).bind fun q54 => nm (sUp S 1 q54.2) fun S54 => some (q54.1, S54)) else ((fX4_found S (-1000000002 : Int32)).bind fun q43 => some (q43.1, q43.2)))))
def rmX4_runner : Room := { frames := 1, cells := 0, slots := 0, locals := 24 }
theorem qqX4_runner : yX4_runner.cls = RX4 ∧ yX4_runner.cls ≠ "java/lang/invoke/MethodHandle" ∧ yX4_runner.cls ≠ "java/lang/invoke/VarHandle" ∧ (parseMethodDescriptor yX4_runner.desc).map (fun d => d.parameters.length) = some 3 := by decide +kernel
def fX4_of (S : sWo) (a1 : Int32) (a2 : Int32) : Option (Int32 × sWo) :=
  (fX3_has (S 1) a1).bind fun q5 => if q5 = 0 then ((fX4_found S (-1000000001 : Int32)).bind fun q14 => some (q14.1, q14.2)) else (if a2 = (0 : Int32) then (if a1 < 0 ∨ 9 ≤ a1.toNatClampNeg then none else some (((S 1).2.1 0 a1.toNatClampNeg), S)) else if a2 = (1 : Int32) then (if a1 < 0 ∨ 9 ≤ a1.toNatClampNeg then none else some (((S 1).2.1 1 a1.toNatClampNeg), S)) else if a2 = (2 : Int32) then (if a1 < 0 ∨ 9 ≤ a1.toNatClampNeg then none else some (((S 1).2.1 2 a1.toNatClampNeg), S)) else if a2 = (3 : Int32) then (if a1 < 0 ∨ 9 ≤ a1.toNatClampNeg then none else some (((S 1).2.1 3 a1.toNatClampNeg), S)) else if a2 = (4 : Int32) then (if a1 < 0 ∨ 9 ≤ a1.toNatClampNeg then none else some (((S 1).2.1 4 a1.toNatClampNeg), S)) else if a2 = (5 : Int32) then (if a1 < 0 ∨ 9 ≤ a1.toNatClampNeg then none else some (((S 1).2.1 5 a1.toNatClampNeg), S)) else if a2 = (6 : Int32) then (if a1 < 0 ∨ 9 ≤ a1.toNatClampNeg then none else some (((S 1).2.1 6 a1.toNatClampNeg), S)) else if a2 = (7 : Int32) then (if a1 < 0 ∨ 9 ≤ a1.toNatClampNeg then none else some (((S 1).2.1 7 a1.toNatClampNeg), S)) else if a2 = (8 : Int32) then ((fX3_placeOf (S 1) a1).bind fun q153 => some (q153, S)) else ((fX4_found S (-1000000001 : Int32)).bind fun q160 => some (q160.1, q160.2)))
def rmX4_of : Room := { frames := 2, cells := 0, slots := 0, locals := 46 }
theorem qqX4_of : yX4_of.cls = RX4 ∧ yX4_of.cls ≠ "java/lang/invoke/MethodHandle" ∧ yX4_of.cls ≠ "java/lang/invoke/VarHandle" ∧ (parseMethodDescriptor yX4_of.desc).map (fun d => d.parameters.length) = some 2 := by decide +kernel
def fX4_exchange (T : sOb) (k : Nat) (a1 : Int32) (a2 : Int32) : Option (Int32 × sOb) :=
  if a1 < 0 then (some (a2, T)) else (if a1 < (9 : Int32) then (if a1 < 0 ∨ 9 ≤ a1.toNatClampNeg then none else nm (T.2.1 k a1.toNatClampNeg) fun v15 => nm (sSa T k a1.toNatClampNeg a2) fun T19 => some (v15, T19)) else (some (a2, T)))
def rmX4_exchange : Room := { frames := 0, cells := 0, slots := 0, locals := 0 }
theorem qqX4_exchange : yX4_exchange.cls ≠ "java/lang/invoke/MethodHandle" ∧ yX4_exchange.cls ≠ "java/lang/invoke/VarHandle" ∧ (parseMethodDescriptor yX4_exchange.desc).map (fun d => d.parameters.length) = some 3 := by decide +kernel
def fX4_isFriendFor (S : sWo) (a1 : Int32) (a2 : Int32) : Option Int32 :=
  if a2 = (-1 : Int32) then (some (1 : Int32)) else ((fX3_has (S 1) a2).bind fun q10 => if q10 = 0 then (some (0 : Int32)) else (if a2 = a1 then (some (0 : Int32)) else (some (1 : Int32))))
def rmX4_isFriendFor : Room := { frames := 1, cells := 0, slots := 0, locals := 21 }
theorem qqX4_isFriendFor : yX4_isFriendFor.cls = RX4 ∧ yX4_isFriendFor.cls ≠ "java/lang/invoke/MethodHandle" ∧ yX4_isFriendFor.cls ≠ "java/lang/invoke/VarHandle" ∧ (parseMethodDescriptor yX4_isFriendFor.desc).map (fun d => d.parameters.length) = some 2 := by decide +kernel
def fX4_set (S : sWo) (a1 : Int32) (a2 : Int32) (a3 : Int32) : Option (Int32 × sWo) :=
  (fX3_has (S 1) a1).bind fun q5 => if q5 = 0 then ((fX4_found S (-1000000001 : Int32)).bind fun q14 => some (q14.1, q14.2)) else (if a2 = (1 : Int32) then ((fX4_isPace a3).bind fun q49 => if q49 = 0 then ((fX4_found S (-1000000001 : Int32)).bind fun q73 => some (q73.1, q73.2)) else ((fX4_exchange (S 1) 1 a1 a3).bind fun q64 => nm (sUp S 1 q64.2) fun S64 => some (q64.1, S64))) else if a2 = (2 : Int32) then ((fX4_isBreath a3).bind fun q78 => if q78 = 0 then ((fX4_found S (-1000000001 : Int32)).bind fun q102 => some (q102.1, q102.2)) else ((fX4_exchange (S 1) 2 a1 a3).bind fun q93 => nm (sUp S 1 q93.2) fun S93 => some (q93.1, S93))) else if a2 = (3 : Int32) then ((fX4_isFriendFor S a1 a3).bind fun q109 => if q109 = 0 then ((fX4_found S (-1000000001 : Int32)).bind fun q133 => some (q133.1, q133.2)) else ((fX4_exchange (S 1) 3 a1 a3).bind fun q124 => nm (sUp S 1 q124.2) fun S124 => some (q124.1, S124))) else if a2 = (4 : Int32) then ((fX3_isStart (S 1) a3).bind fun q142 => if q142 = 0 then ((fX4_found S (-1000000001 : Int32)).bind fun q166 => some (q166.1, q166.2)) else ((fX4_exchange (S 1) 4 a1 a3).bind fun q157 => nm (sUp S 1 q157.2) fun S157 => some (q157.1, S157))) else ((fX4_found S (-1000000001 : Int32)).bind fun q173 => some (q173.1, q173.2)))
def rmX4_set : Room := { frames := 2, cells := 0, slots := 0, locals := 43 }
theorem qqX4_set : yX4_set.cls = RX4 ∧ yX4_set.cls ≠ "java/lang/invoke/MethodHandle" ∧ yX4_set.cls ≠ "java/lang/invoke/VarHandle" ∧ (parseMethodDescriptor yX4_set.desc).map (fun d => d.parameters.length) = some 3 := by decide +kernel
def fX4_turn (S : sWo) (a1 : Int32) (a2 : Int32) : Option (Int32 × sWo) :=
  (fX3_has (S 1) a1).bind fun q5 => if q5 = 0 then ((fX4_found S (-1000000001 : Int32)).bind fun q21 => some (q21.1, q21.2)) else ((fX4_isKind a2).bind fun q12 => if q12 = 0 then ((fX4_found S (-1000000001 : Int32)).bind fun q21 => some (q21.1, q21.2)) else ((fX4_exchange (S 1) 0 a1 a2).bind fun q34 => nm (sUp S 1 q34.2) fun S34 => some (q34.1, S34)))
def rmX4_turn : Room := { frames := 1, cells := 0, slots := 0, locals := 23 }
theorem qqX4_turn : yX4_turn.cls = RX4 ∧ yX4_turn.cls ≠ "java/lang/invoke/MethodHandle" ∧ yX4_turn.cls ≠ "java/lang/invoke/VarHandle" ∧ (parseMethodDescriptor yX4_turn.desc).map (fun d => d.parameters.length) = some 2 := by decide +kernel
def fX4_as (S : sWo) (a1 : Int32) (a2 : Int32) : Option (Int32 × sWo) :=
  (fX3_has (S 1) a1).bind fun q5 => if q5 = 0 then ((fX4_found S (-1000000001 : Int32)).bind fun q21 => some (q21.1, q21.2)) else ((fX4_isKind a2).bind fun q12 => if q12 = 0 then ((fX4_found S (-1000000001 : Int32)).bind fun q21 => some (q21.1, q21.2)) else (if a1 < 0 ∨ 9 ≤ a1.toNatClampNeg then none else (fX0_isUnder ((S 1).2.1 0 a1.toNatClampNeg) a2).bind fun q35 => if q35 = 0 then ((fX4_found S (-1000000003 : Int32)).bind fun q44 => some (q44.1, q44.2)) else (some (((S 1).2.1 1 a1.toNatClampNeg), S))))
def rmX4_as : Room := { frames := 1, cells := 0, slots := 0, locals := 23 }
theorem qqX4_as : yX4_as.cls = RX4 ∧ yX4_as.cls ≠ "java/lang/invoke/MethodHandle" ∧ yX4_as.cls ≠ "java/lang/invoke/VarHandle" ∧ (parseMethodDescriptor yX4_as.desc).map (fun d => d.parameters.length) = some 2 := by decide +kernel
def fX4_wish (S : sWo) (a1 : Int32) : Option (Int32 × sWo) :=
  (fX3_has (S 1) a1).bind fun q5 => if q5 = 0 then ((fX4_found S (-1000000001 : Int32)).bind fun q14 => some (q14.1, q14.2)) else ((fX3_isHome (S 1) a1).bind fun q23 => if q23 = 0 then ((fX3_firstAlone (S 1)).bind fun q45 => (fX3_wishOf (S 1) a1 q45).bind fun q48 => some (q48, S)) else ((fX4_found S (-1000000005 : Int32)).bind fun q32 => some (q32.1, q32.2)))
def rmX4_wish : Room := { frames := 3, cells := 0, slots := 0, locals := 68 }
theorem qqX4_wish : yX4_wish.cls = RX4 ∧ yX4_wish.cls ≠ "java/lang/invoke/MethodHandle" ∧ yX4_wish.cls ≠ "java/lang/invoke/VarHandle" ∧ (parseMethodDescriptor yX4_wish.desc).map (fun d => d.parameters.length) = some 1 := by decide +kernel
def fX4_line (S : sWo) : Option (Int32 × sWo) :=
  nm ((S 1).1 5) fun v7 => (fX3_lineUp (S 1)).bind fun q12 => nm (sUp S 1 q12) fun S12 => some (v7, S12)
def rmX4_line : Room := { frames := 1, cells := 0, slots := 0, locals := 21 }
theorem qqX4_line : yX4_line.cls = RX4 ∧ yX4_line.cls ≠ "java/lang/invoke/MethodHandle" ∧ yX4_line.cls ≠ "java/lang/invoke/VarHandle" ∧ (parseMethodDescriptor yX4_line.desc).map (fun d => d.parameters.length) = some 0 := by decide +kernel
def fX4_seconds (S : sWo) (a1 : Int32) : Option (Int32 × sWo) :=
  if a1 < (1 : Int32) then ((fX4_found S (-1000000001 : Int32)).bind fun q15 => some (q15.1, q15.2)) else (if a1 ≤ (600 : Int32) then (nm ((S 1).1 5) fun v26 => (fX3_goOn (S 1) a1).bind fun q32 => nm (sUp S 1 q32) fun S32 => some ((((S32 1).1 5) - v26), S32)) else ((fX4_found S (-1000000001 : Int32)).bind fun q15 => some (q15.1, q15.2)))
def rmX4_seconds : Room := { frames := 5, cells := 0, slots := 0, locals := 112 }
theorem qqX4_seconds : yX4_seconds.cls = RX4 ∧ yX4_seconds.cls ≠ "java/lang/invoke/MethodHandle" ∧ yX4_seconds.cls ≠ "java/lang/invoke/VarHandle" ∧ (parseMethodDescriptor yX4_seconds.desc).map (fun d => d.parameters.length) = some 1 := by decide +kernel
def fX4_now (S : sWo) (a1 : Int32) : Option (Int32 × sWo) :=
  if a1 = (0 : Int32) then (some (((S 1).1 3), S)) else if a1 = (1 : Int32) then (some (((S 1).1 0), S)) else if a1 = (2 : Int32) then (some (((S 1).1 1), S)) else if a1 = (3 : Int32) then (some (((S 1).1 2), S)) else if a1 = (4 : Int32) then (some (((S 1).1 5), S)) else ((fX4_found S (-1000000001 : Int32)).bind fun q79 => some (q79.1, q79.2))
def rmX4_now : Room := { frames := 1, cells := 0, slots := 0, locals := 22 }
theorem qqX4_now : yX4_now.cls = RX4 ∧ yX4_now.cls ≠ "java/lang/invoke/MethodHandle" ∧ yX4_now.cls ≠ "java/lang/invoke/VarHandle" ∧ (parseMethodDescriptor yX4_now.desc).map (fun d => d.parameters.length) = some 1 := by decide +kernel
def fX4_place (S : sWo) (a1 : Int32) : Option (Int32 × sWo) :=
  (fX3_has (S 1) a1).bind fun q5 => if q5 = 0 then ((fX4_found S (-1000000001 : Int32)).bind fun q25 => some (q25.1, q25.2)) else ((fX3_whoseAt (S 1) a1).bind fun q16 => some (q16, S))
def rmX4_place : Room := { frames := 3, cells := 0, slots := 0, locals := 68 }
theorem qqX4_place : yX4_place.cls = RX4 ∧ yX4_place.cls ≠ "java/lang/invoke/MethodHandle" ∧ yX4_place.cls ≠ "java/lang/invoke/VarHandle" ∧ (parseMethodDescriptor yX4_place.desc).map (fun d => d.parameters.length) = some 1 := by decide +kernel
def fX4_runnerOrNone (S : sWo) (a1 : Int32) : Option (Int32 × sWo) :=
  if a1 = (-1 : Int32) then ((fX4_found S (-1000000004 : Int32)).bind fun q8 => some (q8.1, q8.2)) else (some (a1, S))
def rmX4_runnerOrNone : Room := { frames := 1, cells := 0, slots := 0, locals := 22 }
theorem qqX4_runnerOrNone : yX4_runnerOrNone.cls = RX4 ∧ yX4_runnerOrNone.cls ≠ "java/lang/invoke/MethodHandle" ∧ yX4_runnerOrNone.cls ≠ "java/lang/invoke/VarHandle" ∧ (parseMethodDescriptor yX4_runnerOrNone.desc).map (fun d => d.parameters.length) = some 1 := by decide +kernel
def fX4_prize (S : sWo) : Option (Int32 × sWo) :=
  (fX3_prizeOwner (S 1) ((S 1).1 2)).bind fun q12 => (fX4_runnerOrNone S q12).bind fun q15 => some (q15.1, q15.2)
def rmX4_prize : Room := { frames := 4, cells := 0, slots := 0, locals := 89 }
theorem qqX4_prize : yX4_prize.cls = RX4 ∧ yX4_prize.cls ≠ "java/lang/invoke/MethodHandle" ∧ yX4_prize.cls ≠ "java/lang/invoke/VarHandle" ∧ (parseMethodDescriptor yX4_prize.desc).map (fun d => d.parameters.length) = some 0 := by decide +kernel
def fX4_score (S : sWo) : Option (Int32 × sWo) :=
  if ((S 1).1 4) = 0 then ((fX4_found S (-1000000005 : Int32)).bind fun q23 => some (q23.1, q23.2)) else ((fX3_allHome (S 1)).bind fun q14 => if q14 = 0 then ((fX4_found S (-1000000005 : Int32)).bind fun q23 => some (q23.1, q23.2)) else ((fX3_givePoints (S 1)).bind fun q31 => nm (sUp S 1 q31.2) fun S31 => some (q31.1, S31)))
def rmX4_score : Room := { frames := 5, cells := 0, slots := 0, locals := 113 }
theorem qqX4_score : yX4_score.cls = RX4 ∧ yX4_score.cls ≠ "java/lang/invoke/MethodHandle" ∧ yX4_score.cls ≠ "java/lang/invoke/VarHandle" ∧ (parseMethodDescriptor yX4_score.desc).map (fun d => d.parameters.length) = some 0 := by decide +kernel
def bX4_most_4 (S : sWo) (k : Nat) (rc4 : Int32 → Int32 → Option Int32) (x2_4 : Int32) (x3_4 : Int32) : Option Int32 :=
  if ((S 1).1 4) ≤ x3_4 then (some x2_4) else (if (9 : Int32) ≤ x3_4 then (some x2_4) else (if x2_4 = (-1 : Int32) then (nm (x3_4 + (1 : Int32)) fun v37 => rc4 x3_4 v37) else (if x3_4 < 0 ∨ 9 ≤ x3_4.toNatClampNeg then none else if x2_4 < 0 ∨ 9 ≤ x2_4.toNatClampNeg then none else if ((S 1).2.1 k x3_4.toNatClampNeg) ≤ ((S 1).2.1 k x2_4.toNatClampNeg) then (nm (x3_4 + (1 : Int32)) fun v37 => rc4 x2_4 v37) else (nm (x3_4 + (1 : Int32)) fun v37 => rc4 x3_4 v37))))
def fX4_most (S : sWo) (k : Nat) : Option Int32 :=
  fx2 (bX4_most_4 S k) FU (-1 : Int32) (0 : Int32)
def rmX4_most : Room := { frames := 0, cells := 0, slots := 0, locals := 0 }
theorem qqX4_most : yX4_most.cls = RX4 ∧ yX4_most.cls ≠ "java/lang/invoke/MethodHandle" ∧ yX4_most.cls ≠ "java/lang/invoke/VarHandle" ∧ (parseMethodDescriptor yX4_most.desc).map (fun d => d.parameters.length) = some 1 := by decide +kernel
def fX4_leads (S : sWo) : Option (Int32 × sWo) :=
  (fX4_most S 6).bind fun q9 => (fX4_runnerOrNone S q9).bind fun q12 => some (q12.1, q12.2)
def rmX4_leads : Room := { frames := 2, cells := 0, slots := 0, locals := 43 }
theorem qqX4_leads : yX4_leads.cls = RX4 ∧ yX4_leads.cls ≠ "java/lang/invoke/MethodHandle" ∧ yX4_leads.cls ≠ "java/lang/invoke/VarHandle" ∧ (parseMethodDescriptor yX4_leads.desc).map (fun d => d.parameters.length) = some 0 := by decide +kernel
def fX4_tryOut (S : sWo) : Option sWo :=
  (fX3_takeOver (S 2) (S 1)).bind fun q8 => nm (sUp S 2 q8) fun S8 => some S8
def rmX4_tryOut : Room := { frames := 1, cells := 0, slots := 0, locals := 22 }
theorem qqX4_tryOut : yX4_tryOut.cls = RX4 ∧ yX4_tryOut.cls ≠ "java/lang/invoke/MethodHandle" ∧ yX4_tryOut.cls ≠ "java/lang/invoke/VarHandle" ∧ (parseMethodDescriptor yX4_tryOut.desc).map (fun d => d.parameters.length) = some 0 := by decide +kernel
def fX4_on (S : sWo) (a1 : Int32) (a2 : Int32) : Option (Int32 × sWo) :=
  (fX3_has (S 1) a1).bind fun q5 => if q5 = 0 then ((fX4_found S (-1000000001 : Int32)).bind fun q25 => some (q25.1, q25.2)) else (if a2 < 0 then ((fX4_found S (-1000000001 : Int32)).bind fun q25 => some (q25.1, q25.2)) else (if a2 ≤ (2000 : Int32) then ((fX4_tryOut S).bind fun q30 => (fX3_goOn (q30 2) a2).bind fun q36 => nm (sUp q30 2 q36) fun S36 => if a1 < 0 ∨ 9 ≤ a1.toNatClampNeg then none else some (((S36 2).2.1 5 a1.toNatClampNeg), S36)) else ((fX4_found S (-1000000001 : Int32)).bind fun q25 => some (q25.1, q25.2))))
def rmX4_on : Room := { frames := 5, cells := 0, slots := 0, locals := 112 }
theorem qqX4_on : yX4_on.cls = RX4 ∧ yX4_on.cls ≠ "java/lang/invoke/MethodHandle" ∧ yX4_on.cls ≠ "java/lang/invoke/VarHandle" ∧ (parseMethodDescriptor yX4_on.desc).map (fun d => d.parameters.length) = some 2 := by decide +kernel
def fX4_home (S : sWo) (a1 : Int32) : Option (Int32 × sWo) :=
  (fX3_has (S 1) a1).bind fun q5 => if q5 = 0 then ((fX4_found S (-1000000001 : Int32)).bind fun q14 => some (q14.1, q14.2)) else ((fX4_tryOut S).bind fun q19 => (fX3_goOn (q19 2) (2000 : Int32)).bind fun q27 => nm (sUp q19 2 q27) fun S27 => (fX3_isHome (S27 2) a1).bind fun q32 => if q32 = 0 then ((fX4_found S27 (-1000000004 : Int32)).bind fun q50 => some (q50.1, q50.2)) else (if a1 < 0 ∨ 9 ≤ a1.toNatClampNeg then none else some (((S27 2).2.1 7 a1.toNatClampNeg), S27)))
def rmX4_home : Room := { frames := 5, cells := 0, slots := 0, locals := 112 }
theorem qqX4_home : yX4_home.cls = RX4 ∧ yX4_home.cls ≠ "java/lang/invoke/MethodHandle" ∧ yX4_home.cls ≠ "java/lang/invoke/VarHandle" ∧ (parseMethodDescriptor yX4_home.desc).map (fun d => d.parameters.length) = some 1 := by decide +kernel
def fX4_prizeBy (S : sWo) (a1 : Int32) : Option (Int32 × sWo) :=
  (fX4_isLaw a1).bind fun q1 => if q1 = 0 then ((fX4_found S (-1000000001 : Int32)).bind fun q10 => some (q10.1, q10.2)) else ((fX4_tryOut S).bind fun q15 => (fX3_goOn (q15 2) (2000 : Int32)).bind fun q23 => nm (sUp q15 2 q23) fun S23 => (fX3_allHome (S23 2)).bind fun q28 => if q28 = 0 then ((fX4_runnerOrNone S23 (-1 : Int32)).bind fun q43 => some (q43.1, q43.2)) else ((fX3_prizeOwner (S23 2) a1).bind fun q36 => (fX4_runnerOrNone S23 q36).bind fun q43 => some (q43.1, q43.2)))
def rmX4_prizeBy : Room := { frames := 5, cells := 0, slots := 0, locals := 112 }
theorem qqX4_prizeBy : yX4_prizeBy.cls = RX4 ∧ yX4_prizeBy.cls ≠ "java/lang/invoke/MethodHandle" ∧ yX4_prizeBy.cls ≠ "java/lang/invoke/VarHandle" ∧ (parseMethodDescriptor yX4_prizeBy.desc).map (fun d => d.parameters.length) = some 1 := by decide +kernel
def bX4_leaders_12 (rc12 : Int32 → Int32 → Int32 → sWo → Option (Int32 × sWo)) (x2_12 : Int32) (x3_12 : Int32) (x4_12 : Int32) (S_12 : sWo) : Option (Int32 × sWo) :=
  if (2000 : Int32) < x4_12 then (some (x3_12, S_12)) else ((fX3_allHome (S_12 2)).bind fun q21 => if q21 = 0 then ((fX3_firstAlone (S_12 2)).bind fun q28 => if q28 = (-1 : Int32) then ((fX3_goSecond (S_12 2)).bind fun q52 => nm (sUp S_12 2 q52) fun S52 => nm (x4_12 + (1 : Int32)) fun v55 => rc12 x2_12 x3_12 v55 S52) else (if q28 = x2_12 then ((fX3_goSecond (S_12 2)).bind fun q52 => nm (sUp S_12 2 q52) fun S52 => nm (x4_12 + (1 : Int32)) fun v55 => rc12 x2_12 x3_12 v55 S52) else (nm (x3_12 + (1 : Int32)) fun v48 => (fX3_goSecond (S_12 2)).bind fun q52 => nm (sUp S_12 2 q52) fun S52 => nm (x4_12 + (1 : Int32)) fun v55 => rc12 q28 v48 v55 S52))) else (some (x3_12, S_12)))
def fX4_leaders (S : sWo) : Option (Int32 × sWo) :=
  (fX4_tryOut S).bind fun q1 => fx4 bX4_leaders_12 FU (-1 : Int32) (0 : Int32) (0 : Int32) q1
def rmX4_leaders : Room := { frames := 4, cells := 0, slots := 0, locals := 90 }
theorem qqX4_leaders : yX4_leaders.cls = RX4 ∧ yX4_leaders.cls ≠ "java/lang/invoke/MethodHandle" ∧ yX4_leaders.cls ≠ "java/lang/invoke/VarHandle" ∧ (parseMethodDescriptor yX4_leaders.desc).map (fun d => d.parameters.length) = some 0 := by decide +kernel
def bX4_passes_42 (a1 : Int32) (a2 : Int32) (k75 : sWo → Option (Int32 × sWo)) (rc42 : Int32 → sWo → Option (Int32 × sWo)) (x4_42 : Int32) (S_42 : sWo) : Option (Int32 × sWo) :=
  if (2000 : Int32) < x4_42 then ((fX4_found S_42 (-1000000004 : Int32)).bind fun q91 => some (q91.1, q91.2)) else (if a1 < 0 ∨ 9 ≤ a1.toNatClampNeg then none else if a2 < 0 ∨ 9 ≤ a2.toNatClampNeg then none else if ((S_42 2).2.1 5 a1.toNatClampNeg) ≤ ((S_42 2).2.1 5 a2.toNatClampNeg) then ((fX3_allHome (S_42 2)).bind fun q69 => if q69 = 0 then ((fX3_goSecond (S_42 2)).bind fun q79 => nm (sUp S_42 2 q79) fun S79 => nm (x4_42 + (1 : Int32)) fun v82 => rc42 v82 S79) else (k75 S_42)) else (some (x4_42, S_42)))
def fX4_passes (S : sWo) (a1 : Int32) (a2 : Int32) : Option (Int32 × sWo) :=
  (fX3_has (S 1) a1).bind fun q5 => if q5 = 0 then ((fX4_found S (-1000000001 : Int32)).bind fun q30 => some (q30.1, q30.2)) else ((fX3_has (S 1) a2).bind fun q16 => if q16 = 0 then ((fX4_found S (-1000000001 : Int32)).bind fun q30 => some (q30.1, q30.2)) else (if a1 = a2 then ((fX4_found S (-1000000001 : Int32)).bind fun q30 => some (q30.1, q30.2)) else ((fX4_tryOut S).bind fun q35 => nm (fun (S_75 : sWo) => (fX4_found S_75 (-1000000004 : Int32)).bind fun q91 => some (q91.1, q91.2)) fun k75 => fx2 (bX4_passes_42 a1 a2 k75) FU (0 : Int32) q35)))
def rmX4_passes : Room := { frames := 4, cells := 0, slots := 0, locals := 90 }
theorem qqX4_passes : yX4_passes.cls = RX4 ∧ yX4_passes.cls ≠ "java/lang/invoke/MethodHandle" ∧ yX4_passes.cls ≠ "java/lang/invoke/VarHandle" ∧ (parseMethodDescriptor yX4_passes.desc).map (fun d => d.parameters.length) = some 2 := by decide +kernel
def fX4_race (S : sWo) : Option (Int32 × sWo) :=
  (fX4_tryOut S).bind fun q2 => (fX3_raceOwner (q2 2)).bind fun q5 => nm (sUp q2 2 q5.2) fun S5 => (fX4_runnerOrNone S5 q5.1).bind fun q8 => some (q8.1, q8.2)
def rmX4_race : Room := { frames := 6, cells := 0, slots := 0, locals := 132 }
theorem qqX4_race : yX4_race.cls = RX4 ∧ yX4_race.cls ≠ "java/lang/invoke/MethodHandle" ∧ yX4_race.cls ≠ "java/lang/invoke/VarHandle" ∧ (parseMethodDescriptor yX4_race.desc).map (fun d => d.parameters.length) = some 0 := by decide +kernel
def bX4_pace_20 (a1 : Int32) (rc20 : Int32 → sWo → Option (Int32 × sWo)) (x2_20 : Int32) (S_20 : sWo) : Option (Int32 × sWo) :=
  if (12 : Int32) < x2_20 then ((fX4_found S_20 (-1000000004 : Int32)).bind fun q57 => some (q57.1, q57.2)) else ((fX4_tryOut S_20).bind fun q27 => if a1 < 0 ∨ 9 ≤ a1.toNatClampNeg then none else nm (sUp q27 2 (sSa (q27 2) 1 a1.toNatClampNeg x2_20)) fun S37 => (fX3_raceOwner (S37 2)).bind fun q39 => nm (sUp S37 2 q39.2) fun S39 => if q39.1 = a1 then (some (x2_20, S39)) else (nm (x2_20 + (1 : Int32)) fun v48 => rc20 v48 S39))
def fX4_pace (S : sWo) (a1 : Int32) : Option (Int32 × sWo) :=
  (fX3_has (S 1) a1).bind fun q5 => if q5 = 0 then ((fX4_found S (-1000000001 : Int32)).bind fun q14 => some (q14.1, q14.2)) else (fx2 (bX4_pace_20 a1) FU (1 : Int32) S)
def rmX4_pace : Room := { frames := 6, cells := 0, slots := 0, locals := 132 }
theorem qqX4_pace : yX4_pace.cls = RX4 ∧ yX4_pace.cls ≠ "java/lang/invoke/MethodHandle" ∧ yX4_pace.cls ≠ "java/lang/invoke/VarHandle" ∧ (parseMethodDescriptor yX4_pace.desc).map (fun d => d.parameters.length) = some 1 := by decide +kernel
def bX4_kind_20 (a1 : Int32) (rc20 : Int32 → sWo → Option (Int32 × sWo)) (x2_20 : Int32) (S_20 : sWo) : Option (Int32 × sWo) :=
  if (6 : Int32) ≤ x2_20 then ((fX4_found S_20 (-1000000004 : Int32)).bind fun q57 => some (q57.1, q57.2)) else ((fX4_tryOut S_20).bind fun q27 => if a1 < 0 ∨ 9 ≤ a1.toNatClampNeg then none else nm (sUp q27 2 (sSa (q27 2) 0 a1.toNatClampNeg x2_20)) fun S37 => (fX3_raceOwner (S37 2)).bind fun q39 => nm (sUp S37 2 q39.2) fun S39 => if q39.1 = a1 then (some (x2_20, S39)) else (nm (x2_20 + (1 : Int32)) fun v48 => rc20 v48 S39))
def fX4_kind (S : sWo) (a1 : Int32) : Option (Int32 × sWo) :=
  (fX3_has (S 1) a1).bind fun q5 => if q5 = 0 then ((fX4_found S (-1000000001 : Int32)).bind fun q14 => some (q14.1, q14.2)) else (fx2 (bX4_kind_20 a1) FU (0 : Int32) S)
def rmX4_kind : Room := { frames := 6, cells := 0, slots := 0, locals := 132 }
theorem qqX4_kind : yX4_kind.cls = RX4 ∧ yX4_kind.cls ≠ "java/lang/invoke/MethodHandle" ∧ yX4_kind.cls ≠ "java/lang/invoke/VarHandle" ∧ (parseMethodDescriptor yX4_kind.desc).map (fun d => d.parameters.length) = some 1 := by decide +kernel
def bX4_start_20 (a1 : Int32) (rc20 : Int32 → sWo → Option (Int32 × sWo)) (x2_20 : Int32) (S_20 : sWo) : Option (Int32 × sWo) :=
  if (200 : Int32) < x2_20 then ((fX4_found S_20 (-1000000004 : Int32)).bind fun q69 => some (q69.1, q69.2)) else (if ((S_20 1).1 0) ≤ x2_20 then ((fX4_found S_20 (-1000000004 : Int32)).bind fun q69 => some (q69.1, q69.2)) else ((fX4_tryOut S_20).bind fun q39 => if a1 < 0 ∨ 9 ≤ a1.toNatClampNeg then none else nm (sUp q39 2 (sSa (q39 2) 4 a1.toNatClampNeg x2_20)) fun S49 => (fX3_raceOwner (S49 2)).bind fun q51 => nm (sUp S49 2 q51.2) fun S51 => if q51.1 = a1 then (some (x2_20, S51)) else (nm (x2_20 + (5 : Int32)) fun v60 => rc20 v60 S51)))
def fX4_start (S : sWo) (a1 : Int32) : Option (Int32 × sWo) :=
  (fX3_has (S 1) a1).bind fun q5 => if q5 = 0 then ((fX4_found S (-1000000001 : Int32)).bind fun q14 => some (q14.1, q14.2)) else (fx2 (bX4_start_20 a1) FU (0 : Int32) S)
def rmX4_start : Room := { frames := 6, cells := 0, slots := 0, locals := 132 }
theorem qqX4_start : yX4_start.cls = RX4 ∧ yX4_start.cls ≠ "java/lang/invoke/MethodHandle" ∧ yX4_start.cls ≠ "java/lang/invoke/VarHandle" ∧ (parseMethodDescriptor yX4_start.desc).map (fun d => d.parameters.length) = some 1 := by decide +kernel
def bX4_favours_53 (a1 : Int32) (S31 : sWo) (rc53 : Int32 → Int32 → Option (Int32 × sWo)) (x3_53 : Int32) (x4_53 : Int32) : Option (Int32 × sWo) :=
  if (4 : Int32) ≤ x4_53 then (some (x3_53, S31)) else ((fX3_prizeOwner (S31 2) x4_53).bind fun q62 => if q62 = a1 then (nm (x3_53 ||| ((1 : Int32) <<< (x4_53 &&& 31))) fun v75 => nm (x4_53 + (1 : Int32)) fun v76 => rc53 v75 v76) else (nm (x4_53 + (1 : Int32)) fun v76 => rc53 x3_53 v76))
def fX4_favours (S : sWo) (a1 : Int32) : Option (Int32 × sWo) :=
  (fX3_has (S 1) a1).bind fun q5 => if q5 = 0 then ((fX4_found S (-1000000001 : Int32)).bind fun q14 => some (q14.1, q14.2)) else ((fX4_tryOut S).bind fun q19 => (fX3_lineUp (q19 2)).bind fun q24 => nm (sUp q19 2 q24) fun S24 => (fX3_goOn (S24 2) (2000 : Int32)).bind fun q31 => nm (sUp S24 2 q31) fun S31 => (fX3_allHome (S31 2)).bind fun q35 => if q35 = 0 then ((fX4_found S31 (-1000000004 : Int32)).bind fun q44 => some (q44.1, q44.2)) else (fx2 (bX4_favours_53 a1 S31) FU (0 : Int32) (0 : Int32)))
def rmX4_favours : Room := { frames := 5, cells := 0, slots := 0, locals := 112 }
theorem qqX4_favours : yX4_favours.cls = RX4 ∧ yX4_favours.cls ≠ "java/lang/invoke/MethodHandle" ∧ yX4_favours.cls ≠ "java/lang/invoke/VarHandle" ∧ (parseMethodDescriptor yX4_favours.desc).map (fun d => d.parameters.length) = some 1 := by decide +kernel
def bX4_friend_20 (a1 : Int32) (rc20 : Int32 → sWo → Option (Int32 × sWo)) (x2_20 : Int32) (S_20 : sWo) : Option (Int32 × sWo) :=
  if ((S_20 1).1 4) ≤ x2_20 then ((fX4_found S_20 (-1000000004 : Int32)).bind fun q70 => some (q70.1, q70.2)) else (if x2_20 = a1 then (nm (x2_20 + (1 : Int32)) fun v61 => rc20 v61 S_20) else ((fX4_tryOut S_20).bind fun q40 => if a1 < 0 ∨ 9 ≤ a1.toNatClampNeg then none else nm (sUp q40 2 (sSa (q40 2) 3 a1.toNatClampNeg x2_20)) fun S50 => (fX3_raceOwner (S50 2)).bind fun q52 => nm (sUp S50 2 q52.2) fun S52 => if q52.1 = a1 then (some (x2_20, S52)) else (nm (x2_20 + (1 : Int32)) fun v61 => rc20 v61 S52)))
def fX4_friend (S : sWo) (a1 : Int32) : Option (Int32 × sWo) :=
  (fX3_has (S 1) a1).bind fun q5 => if q5 = 0 then ((fX4_found S (-1000000001 : Int32)).bind fun q14 => some (q14.1, q14.2)) else (fx2 (bX4_friend_20 a1) FU (-1 : Int32) S)
def rmX4_friend : Room := { frames := 6, cells := 0, slots := 0, locals := 132 }
theorem qqX4_friend : yX4_friend.cls = RX4 ∧ yX4_friend.cls ≠ "java/lang/invoke/MethodHandle" ∧ yX4_friend.cls ≠ "java/lang/invoke/VarHandle" ∧ (parseMethodDescriptor yX4_friend.desc).map (fun d => d.parameters.length) = some 1 := by decide +kernel
def bX4_deal_37 (q4 : Int32 × sOb) (rc22 : Int32 → sWo → Option (Int32 × sWo)) (x2_22 : Int32) (rc37 : Int32 → sWo → Option (Int32 × sWo)) (x3_37 : Int32) (S_37 : sWo) : Option (Int32 × sWo) :=
  if ((S_37 1).1 4) ≤ x3_37 then (nm (x2_22 + (1 : Int32)) fun v93 => rc22 v93 S_37) else ((fX4_tryOut S_37).bind fun q49 => (fX3_changePaces (q49 2) x2_22 x3_37).bind fun q58 => nm (sUp q49 2 q58) fun S58 => (fX3_raceOwner (S58 2)).bind fun q63 => nm (sUp S58 2 q63.2) fun S63 => if q63.1 = (-1 : Int32) then (nm (x3_37 + (1 : Int32)) fun v87 => rc37 v87 S63) else (if q63.1 = q4.1 then (nm (x3_37 + (1 : Int32)) fun v87 => rc37 v87 S63) else (some ((((10 : Int32) * x2_22) + x3_37), S63))))
def bX4_deal_22 (q4 : Int32 × sOb) (rc22 : Int32 → sWo → Option (Int32 × sWo)) (x2_22 : Int32) (S_22 : sWo) : Option (Int32 × sWo) :=
  if ((S_22 1).1 4) ≤ x2_22 then ((fX4_found S_22 (-1000000004 : Int32)).bind fun q102 => some (q102.1, q102.2)) else (nm (x2_22 + (1 : Int32)) fun v36 => fx2 (bX4_deal_37 q4 rc22 x2_22) FU v36 S_22)
def fX4_deal (S : sWo) : Option (Int32 × sWo) :=
  (fX4_tryOut S).bind fun q1 => (fX3_raceOwner (q1 2)).bind fun q4 => nm (sUp q1 2 q4.2) fun S4 => if q4.1 = (-1 : Int32) then ((fX4_found S4 (-1000000004 : Int32)).bind fun q16 => some (q16.1, q16.2)) else (fx2 (bX4_deal_22 q4) FU (0 : Int32) S4)
def rmX4_deal : Room := { frames := 6, cells := 0, slots := 0, locals := 132 }
theorem qqX4_deal : yX4_deal.cls = RX4 ∧ yX4_deal.cls ≠ "java/lang/invoke/MethodHandle" ∧ yX4_deal.cls ≠ "java/lang/invoke/VarHandle" ∧ (parseMethodDescriptor yX4_deal.desc).map (fun d => d.parameters.length) = some 0 := by decide +kernel
def bX4_fair_26 (q8 : Int32) (rc26 : Int32 → sWo → Option (Int32 × sWo)) (x2_26 : Int32) (S_26 : sWo) : Option (Int32 × sWo) :=
  if (5 : Int32) < x2_26 then ((fX4_found S_26 (-1000000004 : Int32)).bind fun q60 => some (q60.1, q60.2)) else ((fX4_tryOut S_26).bind fun q32 => nm (sUp q32 2 (sSs (q32 2) 1 x2_26)) fun S38 => (fX3_raceOwner (S38 2)).bind fun q42 => nm (sUp S38 2 q42.2) fun S42 => if q42.1 = q8 then (some (x2_26, S42)) else (nm (x2_26 + (1 : Int32)) fun v51 => rc26 v51 S42))
def fX4_fair (S : sWo) : Option (Int32 × sWo) :=
  (fX4_most S 1).bind fun q8 => if q8 = (-1 : Int32) then ((fX4_found S (-1000000004 : Int32)).bind fun q20 => some (q20.1, q20.2)) else (fx2 (bX4_fair_26 q8) FU (0 : Int32) S)
def rmX4_fair : Room := { frames := 6, cells := 0, slots := 0, locals := 132 }
theorem qqX4_fair : yX4_fair.cls = RX4 ∧ yX4_fair.cls ≠ "java/lang/invoke/MethodHandle" ∧ yX4_fair.cls ≠ "java/lang/invoke/VarHandle" ∧ (parseMethodDescriptor yX4_fair.desc).map (fun d => d.parameters.length) = some 0 := by decide +kernel
def bX4_odds_53 (k98 : Int32 → sWo → Option (Int32 × sWo)) (rc53 : Int32 → Int32 → sWo → Option (Int32 × sWo)) (x4_53 : Int32) (x8_53 : Int32) (S_53 : sWo) : Option (Int32 × sWo) :=
  if ((S_53 2).1 4) ≤ x8_53 then (k98 x4_53 S_53) else (nm ((x4_53 * (1103515245 : Int32)) + (12345 : Int32)) fun v72 => if x8_53 < 0 ∨ 9 ≤ x8_53.toNatClampNeg then none else nm (sUp S_53 2 (sSa (S_53 2) 1 x8_53.toNatClampNeg (((v72.toUInt32 >>> ((8 : Int32).toUInt32 &&& Int32.toUInt32 31)).toInt32 - (v72.toUInt32 >>> ((8 : Int32).toUInt32 &&& Int32.toUInt32 31)).toInt32 / (12 : Int32) * (12 : Int32)) + (1 : Int32)))) fun S91 => nm (x8_53 + (1 : Int32)) fun v92 => rc53 v72 v92 S91)
def bX4_odds_38 (a1 : Int32) (a2 : Int32) (rc38 : Int32 → Int32 → Int32 → sWo → Option (Int32 × sWo)) (x4_38 : Int32) (x5_38 : Int32) (x6_38 : Int32) (S_38 : sWo) : Option (Int32 × sWo) :=
  if a2 ≤ x6_38 then (some (x5_38, S_38)) else ((fX4_tryOut S_38).bind fun q45 => nm (fun (x4_98 : Int32) (S_98 : sWo) => (fX3_raceOwner (S_98 2)).bind fun q100 => nm (sUp S_98 2 q100.2) fun S100 => if q100.1 = a1 then (nm (x5_38 + (1 : Int32)) fun v107 => nm (x6_38 + (1 : Int32)) fun v110 => rc38 x4_98 v107 v110 S100) else (nm (x6_38 + (1 : Int32)) fun v110 => rc38 x4_98 x5_38 v110 S100)) fun k98 => fx3 (bX4_odds_53 k98) FU x4_38 (0 : Int32) q45)
def fX4_odds (S : sWo) (a1 : Int32) (a2 : Int32) (a3 : Int32) : Option (Int32 × sWo) :=
  (fX3_has (S 1) a1).bind fun q5 => if q5 = 0 then ((fX4_found S (-1000000001 : Int32)).bind fun q25 => some (q25.1, q25.2)) else (if a2 < (1 : Int32) then ((fX4_found S (-1000000001 : Int32)).bind fun q25 => some (q25.1, q25.2)) else (if a2 ≤ (20 : Int32) then (fx4 (bX4_odds_38 a1 a2) FU a3 (0 : Int32) (0 : Int32) S) else ((fX4_found S (-1000000001 : Int32)).bind fun q25 => some (q25.1, q25.2))))
def rmX4_odds : Room := { frames := 6, cells := 0, slots := 0, locals := 132 }
theorem qqX4_odds : yX4_odds.cls = RX4 ∧ yX4_odds.cls ≠ "java/lang/invoke/MethodHandle" ∧ yX4_odds.cls ≠ "java/lang/invoke/VarHandle" ∧ (parseMethodDescriptor yX4_odds.desc).map (fun d => d.parameters.length) = some 3 := by decide +kernel
def bX4_unwilling_13 (rc13 : Int32 → Int32 → sWo → Option (Int32 × sWo)) (x2_13 : Int32) (x3_13 : Int32) (S_13 : sWo) : Option (Int32 × sWo) :=
  if (2000 : Int32) ≤ x3_13 then (some (x2_13, S_13)) else ((fX3_allHome (S_13 2)).bind fun q21 => if q21 = 0 then ((fX3_firstAlone (S_13 2)).bind fun q28 => (fX3_has (S_13 2) q28).bind fun q36 => nm (fun (y0_66 : Int32) => (fX3_goSecond (S_13 2)).bind fun q69 => nm (sUp S_13 2 q69) fun S69 => if y0_66 = 0 then (nm (x3_13 + (1 : Int32)) fun v101 => rc13 x2_13 v101 S69) else (if q28 < 0 ∨ 9 ≤ q28.toNatClampNeg then none else if ((S69 2).2.1 1 q28.toNatClampNeg) ≤ ((S69 2).2.1 8 q28.toNatClampNeg) then (nm (x3_13 + (1 : Int32)) fun v101 => rc13 x2_13 v101 S69) else (nm (x2_13 ||| ((1 : Int32) <<< (q28 &&& 31))) fun v100 => nm (x3_13 + (1 : Int32)) fun v101 => rc13 v100 v101 S69))) fun k66 => nm (k66 (0 : Int32)) fun k65 => if q36 = 0 then k65 else (if q28 < 0 ∨ 9 ≤ q28.toNatClampNeg then none else if ((S_13 2).2.1 2 q28.toNatClampNeg) < (((S_13 2).2.1 1 q28.toNatClampNeg) - (4 : Int32)) then k65 else (k66 (1 : Int32)))) else (some (x2_13, S_13)))
def fX4_unwilling (S : sWo) : Option (Int32 × sWo) :=
  (fX4_tryOut S).bind fun q1 => (fX3_lineUp (q1 2)).bind fun q6 => nm (sUp q1 2 q6) fun S6 => fx3 bX4_unwilling_13 FU (0 : Int32) (0 : Int32) S6
def rmX4_unwilling : Room := { frames := 4, cells := 0, slots := 0, locals := 90 }
theorem qqX4_unwilling : yX4_unwilling.cls = RX4 ∧ yX4_unwilling.cls ≠ "java/lang/invoke/MethodHandle" ∧ yX4_unwilling.cls ≠ "java/lang/invoke/VarHandle" ∧ (parseMethodDescriptor yX4_unwilling.desc).map (fun d => d.parameters.length) = some 0 := by decide +kernel
def bX4_feed_42 (a1 : Int32) (rc42 : Int32 → sWo → Option (Int32 × sWo)) (x3_42 : Int32) (S_42 : sWo) : Option (Int32 × sWo) :=
  if x3_42 < 0 then (some (((S_42 4).1 0), S_42)) else ((fX2_add (S_42 4) ((a1.toUInt32 >>> (((8 : Int32) * x3_42).toUInt32 &&& Int32.toUInt32 31)).toInt32)).bind fun q56 => nm (sUp S_42 4 q56) fun S56 => nm (x3_42 + (-1 : Int32)) fun v59 => rc42 v59 S56)
def fX4_feed (S : sWo) (a1 : Int32) (a2 : Int32) : Option (Int32 × sWo) :=
  if a2 < (1 : Int32) then ((fX4_found S (-1000000001 : Int32)).bind fun q13 => some (q13.1, q13.2)) else (if a2 ≤ (4 : Int32) then (if (((S 4).1 0) + a2) ≤ (120 : Int32) then (nm (a2 - (1 : Int32)) fun v41 => fx2 (bX4_feed_42 a1) FU v41 S) else ((fX4_found S (-1000000002 : Int32)).bind fun q34 => some (q34.1, q34.2))) else ((fX4_found S (-1000000001 : Int32)).bind fun q13 => some (q13.1, q13.2)))
def rmX4_feed : Room := { frames := 1, cells := 0, slots := 0, locals := 22 }
theorem qqX4_feed : yX4_feed.cls = RX4 ∧ yX4_feed.cls ≠ "java/lang/invoke/MethodHandle" ∧ yX4_feed.cls ≠ "java/lang/invoke/VarHandle" ∧ (parseMethodDescriptor yX4_feed.desc).map (fun d => d.parameters.length) = some 2 := by decide +kernel
def fX4_wipe (S : sWo) : Option (Int32 × sWo) :=
  (fX2_empty (S 4)).bind fun q4 => nm (sUp S 4 q4.2) fun S4 => some (q4.1, S4)
def rmX4_wipe : Room := { frames := 1, cells := 0, slots := 0, locals := 21 }
theorem qqX4_wipe : yX4_wipe.cls = RX4 ∧ yX4_wipe.cls ≠ "java/lang/invoke/MethodHandle" ∧ yX4_wipe.cls ≠ "java/lang/invoke/VarHandle" ∧ (parseMethodDescriptor yX4_wipe.desc).map (fun d => d.parameters.length) = some 0 := by decide +kernel
def fX4_text (S : sWo) : Option (Int32 × sWo) :=
  (fX4_tryOut S).bind fun q1 => (fX2_readRace q1).bind fun q10 => (fX2_empty (q10.2 4)).bind fun q18 => nm (sUp q10.2 4 q18.2) fun S18 => if q10.1 < 0 then (some (q10.1, S18)) else ((fX3_takeOver (S18 1) (S18 2)).bind fun q31 => nm (sUp S18 1 q31) fun S31 => some (q10.1, S31))
def rmX4_text : Room := { frames := 8, cells := 0, slots := 0, locals := 177 }
theorem qqX4_text : yX4_text.cls = RX4 ∧ yX4_text.cls ≠ "java/lang/invoke/MethodHandle" ∧ yX4_text.cls ≠ "java/lang/invoke/VarHandle" ∧ (parseMethodDescriptor yX4_text.desc).map (fun d => d.parameters.length) = some 0 := by decide +kernel
def fX4_isSheet (a0 : Int32) : Option Int32 :=
  if a0 < 0 then (some (0 : Int32)) else (if (4 : Int32) ≤ a0 then (some (0 : Int32)) else (some (1 : Int32)))
def rmX4_isSheet : Room := { frames := 0, cells := 0, slots := 0, locals := 0 }
theorem qqX4_isSheet : yX4_isSheet.cls ≠ "java/lang/invoke/MethodHandle" ∧ yX4_isSheet.cls ≠ "java/lang/invoke/VarHandle" ∧ (parseMethodDescriptor yX4_isSheet.desc).map (fun d => d.parameters.length) = some 1 := by decide +kernel
def fX4_isWidth (a0 : Int32) : Option Int32 :=
  if a0 = 0 then (some (1 : Int32)) else (if a0 = (8 : Int32) then (some (1 : Int32)) else (if a0 = (16 : Int32) then (some (1 : Int32)) else (if a0 = (64 : Int32) then (some (1 : Int32)) else (some (0 : Int32)))))
def rmX4_isWidth : Room := { frames := 0, cells := 0, slots := 0, locals := 0 }
theorem qqX4_isWidth : yX4_isWidth.cls ≠ "java/lang/invoke/MethodHandle" ∧ yX4_isWidth.cls ≠ "java/lang/invoke/VarHandle" ∧ (parseMethodDescriptor yX4_isWidth.desc).map (fun d => d.parameters.length) = some 1 := by decide +kernel
def fX4_sheet (S : sWo) (a1 : Int32) (a2 : Int32) (a3 : Int32) : Option (Int32 × sWo) :=
  (fX4_isSheet a1).bind fun q1 => if q1 = 0 then ((fX4_found S (-1000000001 : Int32)).bind fun q17 => some (q17.1, q17.2)) else ((fX4_isWidth a2).bind fun q8 => if q8 = 0 then ((fX4_found S (-1000000001 : Int32)).bind fun q17 => some (q17.1, q17.2)) else (if 0 ≤ a3 then (if a3 ≤ (40 : Int32) then (if a1 < 0 ∨ 4 ≤ a1.toNatClampNeg then none else (fX1_lay (S (5 + a1.toNatClampNeg)) a2 a3).bind fun q53 => nm (sUp S (5 + a1.toNatClampNeg) q53.2) fun S53 => some (q53.1, S53)) else ((fX4_found S (-1000000001 : Int32)).bind fun q41 => some (q41.1, q41.2))) else ((fX4_found S (-1000000007 : Int32)).bind fun q28 => some (q28.1, q28.2))))
def rmX4_sheet : Room := { frames := 2, cells := 0, slots := 0, locals := 46 }
theorem qqX4_sheet : yX4_sheet.cls = RX4 ∧ yX4_sheet.cls ≠ "java/lang/invoke/MethodHandle" ∧ yX4_sheet.cls ≠ "java/lang/invoke/VarHandle" ∧ (parseMethodDescriptor yX4_sheet.desc).map (fun d => d.parameters.length) = some 3 := by decide +kernel
def fX4_sheetRefusal (S : sWo) (a1 : Int32) : Option Int32 :=
  (fX4_isSheet a1).bind fun q1 => if q1 = 0 then (some (-1000000001 : Int32)) else (if a1 < 0 ∨ 4 ≤ a1.toNatClampNeg then none else (fX1_isMissing (S (5 + a1.toNatClampNeg))).bind fun q16 => if q16 = 0 then (some (0 : Int32)) else (some (-1000000006 : Int32)))
def rmX4_sheetRefusal : Room := { frames := 1, cells := 0, slots := 0, locals := 20 }
theorem qqX4_sheetRefusal : yX4_sheetRefusal.cls = RX4 ∧ yX4_sheetRefusal.cls ≠ "java/lang/invoke/MethodHandle" ∧ yX4_sheetRefusal.cls ≠ "java/lang/invoke/VarHandle" ∧ (parseMethodDescriptor yX4_sheetRefusal.desc).map (fun d => d.parameters.length) = some 1 := by decide +kernel
def fX4_write (S : sWo) (a1 : Int32) (a2 : Int32) (a3 : Int64) : Option (Int64 × sWo) :=
  (fX4_sheetRefusal S a1).bind fun q2 => if q2 = 0 then (if a1 < 0 ∨ 4 ≤ a1.toNatClampNeg then none else (fX1_has (S (5 + a1.toNatClampNeg)) a2).bind fun q27 => if q27 = 0 then ((fX4_found S (-1000000001 : Int32)).bind fun q36 => some (q36.1.toInt64, q36.2)) else (if a2 < 0 ∨ 40 ≤ a2.toNatClampNeg then none else nm ((S (5 + a1.toNatClampNeg)).2.2 a2.toNatClampNeg) fun v52 => (fX1_put (S (5 + a1.toNatClampNeg)) a2 a3).bind fun q62 => nm (sUp S (5 + a1.toNatClampNeg) q62) fun S62 => some (v52, S62))) else ((fX4_found S q2).bind fun q15 => some (q15.1.toInt64, q15.2))
def rmX4_write : Room := { frames := 2, cells := 0, slots := 0, locals := 45 }
theorem qqX4_write : yX4_write.cls = RX4 ∧ yX4_write.cls ≠ "java/lang/invoke/MethodHandle" ∧ yX4_write.cls ≠ "java/lang/invoke/VarHandle" ∧ (parseMethodDescriptor yX4_write.desc).map (fun d => d.parameters.length) = some 3 := by decide +kernel
def fX4_copy (S : sWo) (a1 : Int32) (a2 : Int32) (a3 : Int32) (a4 : Int32) (a5 : Int32) : Option (Int32 × sWo) :=
  (fX4_isSheet a1).bind fun q1 => if q1 = 0 then ((fX4_found S (-1000000001 : Int32)).bind fun q17 => some (q17.1, q17.2)) else ((fX4_isSheet a3).bind fun q8 => if q8 = 0 then ((fX4_found S (-1000000001 : Int32)).bind fun q17 => some (q17.1, q17.2)) else (if a1 < 0 ∨ 4 ≤ a1.toNatClampNeg then none else (fX1_isMissing (S (5 + a1.toNatClampNeg))).bind fun q27 => if q27 = 0 then (if a3 < 0 ∨ 4 ≤ a3.toNatClampNeg then none else (fX1_isMissing (S (5 + a3.toNatClampNeg))).bind fun q39 => if q39 = 0 then (if ((S (5 + a1.toNatClampNeg)).1 0) = ((S (5 + a3.toNatClampNeg)).1 0) then ((fX1_hasRow (S (5 + a1.toNatClampNeg)) a2 a5).bind fun q89 => if q89 = 0 then ((fX4_found S (-1000000001 : Int32)).bind fun q114 => some (q114.1, q114.2)) else ((fX1_hasRow (S (5 + a3.toNatClampNeg)) a4 a5).bind fun q105 => if q105 = 0 then ((fX4_found S (-1000000001 : Int32)).bind fun q114 => some (q114.1, q114.2)) else (if a2 < 0 ∨ a4 < 0 ∨ a5 < 0 ∨ ¬ a2.toNatClampNeg + a5.toNatClampNeg ≤ 40 ∨ ¬ a4.toNatClampNeg + a5.toNatClampNeg ≤ 40 then none else nm (sUp S (5 + a3.toNatClampNeg) (sSL (S (5 + a3.toNatClampNeg)) (va_cpy (S (5 + a1.toNatClampNeg)).2.2 (S (5 + a3.toNatClampNeg)).2.2 a2.toNatClampNeg a4.toNatClampNeg a5.toNatClampNeg))) fun S141 => some (a5, S141)))) else ((fX4_found S (-1000000003 : Int32)).bind fun q76 => some (q76.1, q76.2))) else ((fX4_found S (-1000000006 : Int32)).bind fun q48 => some (q48.1, q48.2))) else ((fX4_found S (-1000000006 : Int32)).bind fun q48 => some (q48.1, q48.2))))
def rmX4_copy : Room := { frames := 1, cells := 0, slots := 0, locals := 72 }
theorem qqX4_copy : yX4_copy.cls = RX4 ∧ yX4_copy.cls ≠ "java/lang/invoke/MethodHandle" ∧ yX4_copy.cls ≠ "java/lang/invoke/VarHandle" ∧ (parseMethodDescriptor yX4_copy.desc).map (fun d => d.parameters.length) = some 5 := by decide +kernel
def bX4_lays_29 (a1 : Int32) (rc29 : Int32 → Int32 → sWo → Option (Int32 × sWo)) (x4_29 : Int32) (x5_29 : Int32) (S_29 : sWo) : Option (Int32 × sWo) :=
  if ((S_29 (5 + a1.toNatClampNeg)).1 1) ≤ x5_29 then (some (x4_29, S_29)) else (if ((S_29 1).1 4) ≤ x5_29 then (some (x4_29, S_29)) else (if x5_29 < 0 ∨ 40 ≤ x5_29.toNatClampNeg then none else nm ((S_29 (5 + a1.toNatClampNeg)).2.2 x5_29.toNatClampNeg) fun v57 => if (lg_cmp v57 (1 : Int64)) < 0 then (nm (x5_29 + (1 : Int32)) fun v91 => rc29 x4_29 v91 S_29) else (if 0 < (lg_cmp v57 (12 : Int64)) then (nm (x5_29 + (1 : Int32)) fun v91 => rc29 x4_29 v91 S_29) else (if x5_29 < 0 ∨ 9 ≤ x5_29.toNatClampNeg then none else nm (sUp S_29 1 (sSa (S_29 1) 1 x5_29.toNatClampNeg v57.toInt32)) fun S87 => nm (x4_29 + (1 : Int32)) fun v88 => nm (x5_29 + (1 : Int32)) fun v91 => rc29 v88 v91 S87))))
def fX4_lays (S : sWo) (a1 : Int32) : Option (Int32 × sWo) :=
  (fX4_sheetRefusal S a1).bind fun q2 => if q2 = 0 then (if a1 < 0 ∨ 4 ≤ a1.toNatClampNeg then none else fx3 (bX4_lays_29 a1) FU (0 : Int32) (0 : Int32) S) else ((fX4_found S q2).bind fun q12 => some (q12.1, q12.2))
def rmX4_lays : Room := { frames := 2, cells := 0, slots := 0, locals := 41 }
theorem qqX4_lays : yX4_lays.cls = RX4 ∧ yX4_lays.cls ≠ "java/lang/invoke/MethodHandle" ∧ yX4_lays.cls ≠ "java/lang/invoke/VarHandle" ∧ (parseMethodDescriptor yX4_lays.desc).map (fun d => d.parameters.length) = some 1 := by decide +kernel
def bX4_film_51 (a1 : Int32) (a2 : Int32) (rc51 : Int32 → sWo → Option (Int32 × sWo)) (x6_51 : Int32) (S_51 : sWo) : Option (Int32 × sWo) :=
  if ((S_51 (5 + a1.toNatClampNeg)).1 1) ≤ x6_51 then (some (((S_51 (5 + a1.toNatClampNeg)).1 1), S_51)) else (if a2 < 0 ∨ 9 ≤ a2.toNatClampNeg then none else (fX1_put (S_51 (5 + a1.toNatClampNeg)) x6_51 (((S_51 2).2.1 5 a2.toNatClampNeg).toInt64)).bind fun q73 => nm (sUp S_51 (5 + a1.toNatClampNeg) q73) fun S73 => (fX3_goOn (S73 2) (1 : Int32)).bind fun q79 => nm (sUp S73 2 q79) fun S79 => nm (x6_51 + (1 : Int32)) fun v82 => rc51 v82 S79)
def fX4_film (S : sWo) (a1 : Int32) (a2 : Int32) : Option (Int32 × sWo) :=
  (fX4_sheetRefusal S a1).bind fun q2 => if q2 = 0 then ((fX3_has (S 1) a2).bind fun q21 => if q21 = 0 then ((fX4_found S (-1000000001 : Int32)).bind fun q30 => some (q30.1, q30.2)) else (if a1 < 0 ∨ 4 ≤ a1.toNatClampNeg then none else (fX4_tryOut S).bind fun q43 => fx2 (bX4_film_51 a1 a2) FU (0 : Int32) q43)) else ((fX4_found S q2).bind fun q12 => some (q12.1, q12.2))
def rmX4_film : Room := { frames := 5, cells := 0, slots := 0, locals := 112 }
theorem qqX4_film : yX4_film.cls = RX4 ∧ yX4_film.cls ≠ "java/lang/invoke/MethodHandle" ∧ yX4_film.cls ≠ "java/lang/invoke/VarHandle" ∧ (parseMethodDescriptor yX4_film.desc).map (fun d => d.parameters.length) = some 2 := by decide +kernel
def bX4_allFitting_33 (j : Nat) (x4_17 : Int32) (S_17 : sWo) (k76 : Int32 → Option (Int32 × sWo)) (rc33 : Int32 → Int32 → Option (Int32 × sWo)) (x3_33 : Int32) (x5_33 : Int32) : Option (Int32 × sWo) :=
  if ((S_17 2).1 4) ≤ x5_33 then (k76 x3_33) else (if x5_33 < 0 ∨ 9 ≤ x5_33.toNatClampNeg then none else if x4_17 < 0 ∨ 40 ≤ x4_17.toNatClampNeg then none else if (lg_cmp (((S_17 2).2.1 5 x5_33.toNatClampNeg).toInt64) ((S_17 j).2.2 x4_17.toNatClampNeg)) = 0 then (nm (x5_33 + (1 : Int32)) fun v70 => rc33 x3_33 v70) else (nm (x3_33 &&& (((1 : Int32) <<< (x5_33 &&& 31)) ^^^ (-1 : Int32))) fun v69 => nm (x5_33 + (1 : Int32)) fun v70 => rc33 v69 v70))
def bX4_allFitting_17 (j : Nat) (rc17 : Int32 → Int32 → sWo → Option (Int32 × sWo)) (x3_17 : Int32) (x4_17 : Int32) (S_17 : sWo) : Option (Int32 × sWo) :=
  if ((S_17 j).1 1) ≤ x4_17 then (some (x3_17, S_17)) else (if x3_17 = 0 then (some (x3_17, S_17)) else (nm (fun (x3_76 : Int32) => (fX3_goOn (S_17 2) (1 : Int32)).bind fun q78 => nm (sUp S_17 2 q78) fun S78 => nm (x4_17 + (1 : Int32)) fun v81 => rc17 x3_76 v81 S78) fun k76 => fx2 (bX4_allFitting_33 j x4_17 S_17 k76) FU x3_17 (0 : Int32)))
def fX4_allFitting (S : sWo) (j : Nat) : Option (Int32 × sWo) :=
  (fX4_tryOut S).bind fun q1 => nm (((1 : Int32) <<< (((q1 2).1 4) &&& 31)) - (1 : Int32)) fun v13 => fx3 (bX4_allFitting_17 j) FU v13 (0 : Int32) q1
def rmX4_allFitting : Room := { frames := 5, cells := 0, slots := 0, locals := 112 }
theorem qqX4_allFitting : yX4_allFitting.cls = RX4 ∧ yX4_allFitting.cls ≠ "java/lang/invoke/MethodHandle" ∧ yX4_allFitting.cls ≠ "java/lang/invoke/VarHandle" ∧ (parseMethodDescriptor yX4_allFitting.desc).map (fun d => d.parameters.length) = some 1 := by decide +kernel
def bX4_read_30 (q23 : Int32 × sWo) (rc30 : Int32 → Option (Int32 × sWo)) (x4_30 : Int32) : Option (Int32 × sWo) :=
  if ((q23.2 1).1 4) ≤ x4_30 then ((fX4_found q23.2 (-1000000004 : Int32)).bind fun q63 => some (q63.1, q63.2)) else (if (q23.1 &&& ((1 : Int32) <<< (x4_30 &&& 31))) = 0 then (nm (x4_30 + (1 : Int32)) fun v54 => rc30 v54) else (some (x4_30, q23.2)))
def fX4_read (S : sWo) (a1 : Int32) : Option (Int32 × sWo) :=
  (fX4_sheetRefusal S a1).bind fun q2 => if q2 = 0 then (if a1 < 0 ∨ 4 ≤ a1.toNatClampNeg then none else (fX4_allFitting S (5 + a1.toNatClampNeg)).bind fun q23 => fx1 (bX4_read_30 q23) FU (0 : Int32)) else ((fX4_found S q2).bind fun q12 => some (q12.1, q12.2))
def rmX4_read : Room := { frames := 6, cells := 0, slots := 0, locals := 137 }
theorem qqX4_read : yX4_read.cls = RX4 ∧ yX4_read.cls ≠ "java/lang/invoke/MethodHandle" ∧ yX4_read.cls ≠ "java/lang/invoke/VarHandle" ∧ (parseMethodDescriptor yX4_read.desc).map (fun d => d.parameters.length) = some 1 := by decide +kernel
def fX4_image (S : sWo) : Option (Int32 × sWo) :=
  (fX3_takeOver (S 3) (S 1)).bind fun q8 => nm (sUp S 3 q8) fun S8 => nm (sUp S8 0 (sSs (S8 0) 0 (1 : Int32))) fun S13 => some ((1 : Int32), S13)
def rmX4_image : Room := { frames := 1, cells := 0, slots := 0, locals := 22 }
theorem qqX4_image : yX4_image.cls = RX4 ∧ yX4_image.cls ≠ "java/lang/invoke/MethodHandle" ∧ yX4_image.cls ≠ "java/lang/invoke/VarHandle" ∧ (parseMethodDescriptor yX4_image.desc).map (fun d => d.parameters.length) = some 0 := by decide +kernel
def fX4_undo (S : sWo) : Option (Int32 × sWo) :=
  if ((S 0).1 0) = 0 then ((fX4_found S (-1000000004 : Int32)).bind fun q10 => some (q10.1, q10.2)) else ((fX3_takeOver (S 1) (S 3)).bind fun q22 => nm (sUp S 1 q22) fun S22 => some (((S22 1).1 4), S22))
def rmX4_undo : Room := { frames := 1, cells := 0, slots := 0, locals := 22 }
theorem qqX4_undo : yX4_undo.cls = RX4 ∧ yX4_undo.cls ≠ "java/lang/invoke/MethodHandle" ∧ yX4_undo.cls ≠ "java/lang/invoke/VarHandle" ∧ (parseMethodDescriptor yX4_undo.desc).map (fun d => d.parameters.length) = some 0 := by decide +kernel
def fX4_tear (S : sWo) : Option (Int32 × sWo) :=
  if ((S 0).1 0) = 0 then (nm (sUp S 0 (sSs (S 0) 0 (0 : Int32))) fun S15 => some ((0 : Int32), S15)) else (nm (sUp S 0 (sSs (S 0) 0 (0 : Int32))) fun S15 => some ((1 : Int32), S15))
def rmX4_tear : Room := { frames := 0, cells := 0, slots := 0, locals := 0 }
theorem qqX4_tear : yX4_tear.cls = RX4 ∧ yX4_tear.cls ≠ "java/lang/invoke/MethodHandle" ∧ yX4_tear.cls ≠ "java/lang/invoke/VarHandle" ∧ (parseMethodDescriptor yX4_tear.desc).map (fun d => d.parameters.length) = some 0 := by decide +kernel
def bX4_sum_4 (S : sWo) (k : Nat) (rc4 : Int32 → Int32 → Option Int32) (x2_4 : Int32) (x3_4 : Int32) : Option Int32 :=
  if ((S 1).1 4) ≤ x3_4 then (some x2_4) else (if (9 : Int32) ≤ x3_4 then (some x2_4) else (if x3_4 < 0 ∨ 9 ≤ x3_4.toNatClampNeg then none else nm (x2_4 + ((S 1).2.1 k x3_4.toNatClampNeg)) fun v26 => nm (x3_4 + (1 : Int32)) fun v27 => rc4 v26 v27))
def fX4_sum (S : sWo) (k : Nat) : Option Int32 :=
  fx2 (bX4_sum_4 S k) FU (0 : Int32) (0 : Int32)
def rmX4_sum : Room := { frames := 0, cells := 0, slots := 0, locals := 0 }
theorem qqX4_sum : yX4_sum.cls = RX4 ∧ yX4_sum.cls ≠ "java/lang/invoke/MethodHandle" ∧ yX4_sum.cls ≠ "java/lang/invoke/VarHandle" ∧ (parseMethodDescriptor yX4_sum.desc).map (fun d => d.parameters.length) = some 1 := by decide +kernel
def fX4_count (S : sWo) (a1 : Int32) : Option (Int32 × sWo) :=
  if a1 = (0 : Int32) then (some (((S 1).1 4), S)) else if a1 = (1 : Int32) then (some (((S 4).1 0), S)) else if a1 = (2 : Int32) then ((fX4_sum S 5).bind fun q60 => some (q60, S)) else if a1 = (3 : Int32) then ((fX4_sum S 2).bind fun q72 => some (q72, S)) else if a1 = (4 : Int32) then ((fX4_sum S 6).bind fun q84 => some (q84, S)) else ((fX4_found S (-1000000001 : Int32)).bind fun q91 => some (q91.1, q91.2))
def rmX4_count : Room := { frames := 1, cells := 0, slots := 0, locals := 23 }
theorem qqX4_count : yX4_count.cls = RX4 ∧ yX4_count.cls ≠ "java/lang/invoke/MethodHandle" ∧ yX4_count.cls ≠ "java/lang/invoke/VarHandle" ∧ (parseMethodDescriptor yX4_count.desc).map (fun d => d.parameters.length) = some 1 := by decide +kernel
def bX4_status_33 (S : sWo) (rc33 : Int32 → Int32 → Option (Int32 × sWo)) (x2_33 : Int32) (x3_33 : Int32) : Option (Int32 × sWo) :=
  if (7 : Int32) ≤ x3_33 then (some (x2_33, S)) else (if x3_33 < 0 ∨ 7 ≤ x3_33.toNatClampNeg then none else nm (x2_33 + ((S 0).2.1 0 x3_33.toNatClampNeg)) fun v47 => nm (x3_33 + (1 : Int32)) fun v48 => rc33 v47 v48)
def fX4_status (S : sWo) (a1 : Int32) : Option (Int32 × sWo) :=
  if a1 < (-1 : Int32) then ((fX4_found S (-1000000001 : Int32)).bind fun q14 => some (q14.1, q14.2)) else (if a1 < (7 : Int32) then (if a1 < 0 then (fx2 (bX4_status_33 S) FU (0 : Int32) (0 : Int32)) else (if a1 < 0 ∨ 7 ≤ a1.toNatClampNeg then none else some (((S 0).2.1 0 a1.toNatClampNeg), S))) else ((fX4_found S (-1000000001 : Int32)).bind fun q14 => some (q14.1, q14.2)))
def rmX4_status : Room := { frames := 1, cells := 0, slots := 0, locals := 22 }
theorem qqX4_status : yX4_status.cls = RX4 ∧ yX4_status.cls ≠ "java/lang/invoke/MethodHandle" ∧ yX4_status.cls ≠ "java/lang/invoke/VarHandle" ∧ (parseMethodDescriptor yX4_status.desc).map (fun d => d.parameters.length) = some 1 := by decide +kernel
def fX5_isIn (a0 : Int64) (a2 : Int64) (a4 : Int64) : Option Int32 :=
  if (lg_cmp a0 a2) < 0 then (some (0 : Int32)) else (if 0 < (lg_cmp a0 a4) then (some (0 : Int32)) else (some (1 : Int32)))
def rmX5_isIn : Room := { frames := 0, cells := 0, slots := 0, locals := 0 }
theorem qqX5_isIn : yX5_isIn.cls ≠ "java/lang/invoke/MethodHandle" ∧ yX5_isIn.cls ≠ "java/lang/invoke/VarHandle" ∧ (parseMethodDescriptor yX5_isIn.desc).map (fun d => d.parameters.length) = some 3 := by decide +kernel
def fX5_finds (M : sOb) (a1 : Int32) : Option (Int32 × sOb) :=
  nm (sSa M 3 (0 : Int32).toNatClampNeg ((M.2.1 3 (0 : Int32).toNatClampNeg) + (1 : Int32))) fun M9 => if (((-1000000001 : Int32) - a1) + (1 : Int32)) < 0 ∨ 8 ≤ (((-1000000001 : Int32) - a1) + (1 : Int32)).toNatClampNeg then none else nm (sSa M9 3 (((-1000000001 : Int32) - a1) + (1 : Int32)).toNatClampNeg ((M9.2.1 3 (((-1000000001 : Int32) - a1) + (1 : Int32)).toNatClampNeg) + (1 : Int32))) fun M24 => some (a1, M24)
def rmX5_finds : Room := { frames := 0, cells := 0, slots := 0, locals := 0 }
theorem qqX5_finds : yX5_finds.cls = RX5 ∧ yX5_finds.cls ≠ "java/lang/invoke/MethodHandle" ∧ yX5_finds.cls ≠ "java/lang/invoke/VarHandle" ∧ (parseMethodDescriptor yX5_finds.desc).map (fun d => d.parameters.length) = some 1 := by decide +kernel
def fX5_orNone (M : sOb) (a1 : Int32) : Option (Int32 × sOb) :=
  if 0 ≤ a1 then (some (a1, M)) else ((fX5_finds M (-1000000004 : Int32)).bind fun q7 => some (q7.1, q7.2))
def rmX5_orNone : Room := { frames := 1, cells := 0, slots := 0, locals := 21 }
theorem qqX5_orNone : yX5_orNone.cls = RX5 ∧ yX5_orNone.cls ≠ "java/lang/invoke/MethodHandle" ∧ yX5_orNone.cls ≠ "java/lang/invoke/VarHandle" ∧ (parseMethodDescriptor yX5_orNone.desc).map (fun d => d.parameters.length) = some 1 := by decide +kernel
def fX5_becomes (M : sOb) (a1 : Int32) (a2 : Int32) : Option (Int32 × sOb) :=
  if a1 < 0 ∨ 77 ≤ a1.toNatClampNeg then none else nm (M.2.1 0 a1.toNatClampNeg) fun v6 => nm (sSa M 0 a1.toNatClampNeg a2) fun M13 => some (v6, M13)
def rmX5_becomes : Room := { frames := 0, cells := 0, slots := 0, locals := 0 }
theorem qqX5_becomes : yX5_becomes.cls = RX5 ∧ yX5_becomes.cls ≠ "java/lang/invoke/MethodHandle" ∧ yX5_becomes.cls ≠ "java/lang/invoke/VarHandle" ∧ (parseMethodDescriptor yX5_becomes.desc).map (fun d => d.parameters.length) = some 2 := by decide +kernel
def fX5_is (M : sOb) (a1 : Int32) (a2 : Int32) : Option Int32 :=
  if (((5 : Int32) + ((8 : Int32) * a1)) + a2) < 0 ∨ 77 ≤ (((5 : Int32) + ((8 : Int32) * a1)) + a2).toNatClampNeg then none else some (M.2.1 0 (((5 : Int32) + ((8 : Int32) * a1)) + a2).toNatClampNeg)
def rmX5_is : Room := { frames := 0, cells := 0, slots := 0, locals := 0 }
theorem qqX5_is : yX5_is.cls = RX5 ∧ yX5_is.cls ≠ "java/lang/invoke/MethodHandle" ∧ yX5_is.cls ≠ "java/lang/invoke/VarHandle" ∧ (parseMethodDescriptor yX5_is.desc).map (fun d => d.parameters.length) = some 2 := by decide +kernel
def fX5_puts (M : sOb) (a1 : Int32) (a2 : Int32) (a3 : Int32) : Option sOb :=
  if (((5 : Int32) + ((8 : Int32) * a1)) + a2) < 0 ∨ 77 ≤ (((5 : Int32) + ((8 : Int32) * a1)) + a2).toNatClampNeg then none else nm (sSa M 0 (((5 : Int32) + ((8 : Int32) * a1)) + a2).toNatClampNeg a3) fun M13 => some M13
def rmX5_puts : Room := { frames := 0, cells := 0, slots := 0, locals := 0 }
theorem qqX5_puts : yX5_puts.cls = RX5 ∧ yX5_puts.cls ≠ "java/lang/invoke/MethodHandle" ∧ yX5_puts.cls ≠ "java/lang/invoke/VarHandle" ∧ (parseMethodDescriptor yX5_puts.desc).map (fun d => d.parameters.length) = some 3 := by decide +kernel
def fX5_isRunner (M : sOb) (a1 : Int32) : Option Int32 :=
  if a1 < 0 then (some (0 : Int32)) else (if (M.2.1 0 (0 : Int32).toNatClampNeg) ≤ a1 then (some (0 : Int32)) else (some (1 : Int32)))
def rmX5_isRunner : Room := { frames := 0, cells := 0, slots := 0, locals := 0 }
theorem qqX5_isRunner : yX5_isRunner.cls = RX5 ∧ yX5_isRunner.cls ≠ "java/lang/invoke/MethodHandle" ∧ yX5_isRunner.cls ≠ "java/lang/invoke/VarHandle" ∧ (parseMethodDescriptor yX5_isRunner.desc).map (fun d => d.parameters.length) = some 1 := by decide +kernel
def fX5_isHome (M : sOb) (a1 : Int32) : Option Int32 :=
  (fX5_is M a1 (7 : Int32)).bind fun q4 => if q4 < 0 then (some (0 : Int32)) else (some (1 : Int32))
def rmX5_isHome : Room := { frames := 1, cells := 0, slots := 0, locals := 22 }
theorem qqX5_isHome : yX5_isHome.cls = RX5 ∧ yX5_isHome.cls ≠ "java/lang/invoke/MethodHandle" ∧ yX5_isHome.cls ≠ "java/lang/invoke/VarHandle" ∧ (parseMethodDescriptor yX5_isHome.desc).map (fun d => d.parameters.length) = some 1 := by decide +kernel
def bX5_laysBy_2 (rc2 : Int32 → sOb → Option sOb) (x1_2 : Int32) (T_2 : sOb) : Option sOb :=
  if (77 : Int32) ≤ x1_2 then (some T_2) else (if x1_2 < 0 ∨ 77 ≤ x1_2.toNatClampNeg then none else nm (sSa T_2 2 x1_2.toNatClampNeg (T_2.2.1 0 x1_2.toNatClampNeg)) fun M19 => nm (x1_2 + (1 : Int32)) fun v20 => rc2 v20 M19)
def fX5_laysBy (M : sOb) : Option sOb :=
  fx2 bX5_laysBy_2 FU (0 : Int32) M
def rmX5_laysBy : Room := { frames := 0, cells := 0, slots := 0, locals := 0 }
theorem qqX5_laysBy : yX5_laysBy.cls = RX5 ∧ yX5_laysBy.cls ≠ "java/lang/invoke/MethodHandle" ∧ yX5_laysBy.cls ≠ "java/lang/invoke/VarHandle" ∧ (parseMethodDescriptor yX5_laysBy.desc).map (fun d => d.parameters.length) = some 0 := by decide +kernel
def bX5_laysBack_2 (rc2 : Int32 → sOb → Option sOb) (x1_2 : Int32) (T_2 : sOb) : Option sOb :=
  if (77 : Int32) ≤ x1_2 then (some T_2) else (if x1_2 < 0 ∨ 77 ≤ x1_2.toNatClampNeg then none else nm (sSa T_2 0 x1_2.toNatClampNeg (T_2.2.1 2 x1_2.toNatClampNeg)) fun M19 => nm (x1_2 + (1 : Int32)) fun v20 => rc2 v20 M19)
def fX5_laysBack (M : sOb) : Option sOb :=
  fx2 bX5_laysBack_2 FU (0 : Int32) M
def rmX5_laysBack : Room := { frames := 0, cells := 0, slots := 0, locals := 0 }
theorem qqX5_laysBack : yX5_laysBack.cls = RX5 ∧ yX5_laysBack.cls ≠ "java/lang/invoke/MethodHandle" ∧ yX5_laysBack.cls ≠ "java/lang/invoke/VarHandle" ∧ (parseMethodDescriptor yX5_laysBack.desc).map (fun d => d.parameters.length) = some 0 := by decide +kernel
def fX5_leastOf (a0 : Int32) : Option Int32 :=
  if a0 = 0 then (some (10 : Int32)) else (some (0 : Int32))
def rmX5_leastOf : Room := { frames := 0, cells := 0, slots := 0, locals := 0 }
theorem qqX5_leastOf : yX5_leastOf.cls ≠ "java/lang/invoke/MethodHandle" ∧ yX5_leastOf.cls ≠ "java/lang/invoke/VarHandle" ∧ (parseMethodDescriptor yX5_leastOf.desc).map (fun d => d.parameters.length) = some 1 := by decide +kernel
def fX5_mostOf (a0 : Int32) : Option Int32 :=
  if a0 = 0 then (some (9999 : Int32)) else (if a0 = (1 : Int32) then (some (5 : Int32)) else (some (3 : Int32)))
def rmX5_mostOf : Room := { frames := 0, cells := 0, slots := 0, locals := 0 }
theorem qqX5_mostOf : yX5_mostOf.cls ≠ "java/lang/invoke/MethodHandle" ∧ yX5_mostOf.cls ≠ "java/lang/invoke/VarHandle" ∧ (parseMethodDescriptor yX5_mostOf.desc).map (fun d => d.parameters.length) = some 1 := by decide +kernel
def fX5_let (M : sOb) (a1 : Int32) (a2 : Int32) : Option (Int32 × sOb) :=
  (fX5_isIn a1.toInt64 (0 : Int64) (2 : Int64)).bind fun q6 => if q6 = 0 then ((fX5_finds M (-1000000001 : Int32)).bind fun q33 => some (q33.1, q33.2)) else ((fX5_leastOf a1).bind fun q15 => (fX5_mostOf a1).bind fun q20 => (fX5_isIn a2.toInt64 q15.toInt64 q20.toInt64).bind fun q24 => if q24 = 0 then ((fX5_finds M (-1000000001 : Int32)).bind fun q33 => some (q33.1, q33.2)) else (nm ((fX5_becomes M ((1 : Int32) + a1) a2).bind fun q62 => some (q62.1, q62.2)) fun k57 => if a1 = 0 then (if (M.2.1 0 (0 : Int32).toNatClampNeg) ≤ 0 then k57 else ((fX5_finds M (-1000000005 : Int32)).bind fun q53 => some (q53.1, q53.2))) else k57))
def rmX5_let : Room := { frames := 1, cells := 0, slots := 0, locals := 25 }
theorem qqX5_let : yX5_let.cls = RX5 ∧ yX5_let.cls ≠ "java/lang/invoke/MethodHandle" ∧ yX5_let.cls ≠ "java/lang/invoke/VarHandle" ∧ (parseMethodDescriptor yX5_let.desc).map (fun d => d.parameters.length) = some 2 := by decide +kernel
def fX5_comes (M : sOb) (a1 : Int32) (a2 : Int32) : Option (Int32 × sOb) :=
  nm (M.2.1 0 (0 : Int32).toNatClampNeg) fun v6 => nm (sSa M 0 (0 : Int32).toNatClampNeg ((M.2.1 0 (0 : Int32).toNatClampNeg) + (1 : Int32))) fun M16 => (fX5_puts M16 v6 (0 : Int32) a1).bind fun q21 => (fX5_puts q21 v6 (1 : Int32) a2).bind fun q28 => (fX5_puts q28 v6 (2 : Int32) (100 : Int32)).bind fun q36 => (fX5_puts q36 v6 (3 : Int32) (-1 : Int32)).bind fun q43 => (fX5_puts q43 v6 (4 : Int32) (0 : Int32)).bind fun q50 => (fX5_puts q50 v6 (5 : Int32) (0 : Int32)).bind fun q57 => (fX5_puts q57 v6 (6 : Int32) (0 : Int32)).bind fun q65 => (fX5_puts q65 v6 (7 : Int32) (-1 : Int32)).bind fun q73 => some (v6, q73)
def rmX5_comes : Room := { frames := 1, cells := 0, slots := 0, locals := 23 }
theorem qqX5_comes : yX5_comes.cls = RX5 ∧ yX5_comes.cls ≠ "java/lang/invoke/MethodHandle" ∧ yX5_comes.cls ≠ "java/lang/invoke/VarHandle" ∧ (parseMethodDescriptor yX5_comes.desc).map (fun d => d.parameters.length) = some 2 := by decide +kernel
def fX5_runner (M : sOb) (a1 : Int32) (a2 : Int32) (a3 : Int32) : Option (Int32 × sOb) :=
  (fX5_isIn a1.toInt64 (0 : Int64) (5 : Int64)).bind fun q6 => if q6 = 0 then ((fX5_finds M (-1000000001 : Int32)).bind fun q39 => some (q39.1, q39.2)) else ((fX5_isIn a2.toInt64 (1 : Int64) (12 : Int64)).bind fun q18 => if q18 = 0 then ((fX5_finds M (-1000000001 : Int32)).bind fun q39 => some (q39.1, q39.2)) else ((fX5_isIn a3.toInt64 (0 : Int64) (999 : Int64)).bind fun q30 => if q30 = 0 then ((fX5_finds M (-1000000001 : Int32)).bind fun q39 => some (q39.1, q39.2)) else (if (M.2.1 0 (0 : Int32).toNatClampNeg) = (9 : Int32) then ((fX5_finds M (-1000000002 : Int32)).bind fun q57 => some (q57.1, q57.2)) else ((fX5_comes M a1 a2).bind fun q64 => (fX5_puts q64.2 q64.1 (2 : Int32) a3).bind fun q74 => some (q64.1, q74)))))
def rmX5_runner : Room := { frames := 2, cells := 0, slots := 0, locals := 46 }
theorem qqX5_runner : yX5_runner.cls = RX5 ∧ yX5_runner.cls ≠ "java/lang/invoke/MethodHandle" ∧ yX5_runner.cls ≠ "java/lang/invoke/VarHandle" ∧ (parseMethodDescriptor yX5_runner.desc).map (fun d => d.parameters.length) = some 3 := by decide +kernel
def fX5_isAhead (M : sOb) (a1 : Int32) (a2 : Int32) : Option Int32 :=
  (fX5_isHome M a1).bind fun q2 => (fX5_isHome M a2).bind fun q7 => if q2 = q7 then ((fX5_is M a1 (7 : Int32)).bind fun q23 => (fX5_is M a2 (7 : Int32)).bind fun q30 => if q23 = q30 then ((fX5_is M a1 (5 : Int32)).bind fun q62 => (fX5_is M a2 (5 : Int32)).bind fun q68 => if q62 = q68 then (if a2 ≤ a1 then (some (0 : Int32)) else (some (1 : Int32))) else ((fX5_is M a1 (5 : Int32)).bind fun q77 => (fX5_is M a2 (5 : Int32)).bind fun q83 => if q77 ≤ q83 then (some (0 : Int32)) else (some (1 : Int32)))) else ((fX5_is M a1 (7 : Int32)).bind fun q40 => (fX5_is M a2 (7 : Int32)).bind fun q47 => if q47 ≤ q40 then (some (0 : Int32)) else (some (1 : Int32)))) else ((fX5_isHome M a1).bind fun q15 => if ¬ (q15 = 0 ∨ q15 = 1) then none else some q15)
def rmX5_isAhead : Room := { frames := 2, cells := 0, slots := 0, locals := 43 }
theorem qqX5_isAhead : yX5_isAhead.cls = RX5 ∧ yX5_isAhead.cls ≠ "java/lang/invoke/MethodHandle" ∧ yX5_isAhead.cls ≠ "java/lang/invoke/VarHandle" ∧ (parseMethodDescriptor yX5_isAhead.desc).map (fun d => d.parameters.length) = some 2 := by decide +kernel
def bX5_placeOf_4 (M : sOb) (a1 : Int32) (rc4 : Int32 → Int32 → Option Int32) (x2_4 : Int32) (x3_4 : Int32) : Option Int32 :=
  if (M.2.1 0 (0 : Int32).toNatClampNeg) ≤ x3_4 then (some x2_4) else (if x3_4 = a1 then (nm (x2_4 + (0 : Int32)) fun v35 => nm (x3_4 + (1 : Int32)) fun v36 => rc4 v35 v36) else ((fX5_isAhead M x3_4 a1).bind fun q23 => if q23 = 0 then (nm (x2_4 + (0 : Int32)) fun v35 => nm (x3_4 + (1 : Int32)) fun v36 => rc4 v35 v36) else (nm (x2_4 + (1 : Int32)) fun v35 => nm (x3_4 + (1 : Int32)) fun v36 => rc4 v35 v36)))
def fX5_placeOf (M : sOb) (a1 : Int32) : Option Int32 :=
  fx2 (bX5_placeOf_4 M a1) FU (0 : Int32) (0 : Int32)
def rmX5_placeOf : Room := { frames := 3, cells := 0, slots := 0, locals := 65 }
theorem qqX5_placeOf : yX5_placeOf.cls = RX5 ∧ yX5_placeOf.cls ≠ "java/lang/invoke/MethodHandle" ∧ yX5_placeOf.cls ≠ "java/lang/invoke/VarHandle" ∧ (parseMethodDescriptor yX5_placeOf.desc).map (fun d => d.parameters.length) = some 1 := by decide +kernel
def fX5_of (M : sOb) (a1 : Int32) (a2 : Int32) : Option (Int32 × sOb) :=
  (fX5_isRunner M a1).bind fun q2 => if q2 = 0 then ((fX5_finds M (-1000000001 : Int32)).bind fun q23 => some (q23.1, q23.2)) else ((fX5_isIn a2.toInt64 (0 : Int64) (8 : Int64)).bind fun q14 => if q14 = 0 then ((fX5_finds M (-1000000001 : Int32)).bind fun q23 => some (q23.1, q23.2)) else (if (8 : Int32) ≤ a2 then ((fX5_placeOf M a1).bind fun q44 => some (q44, M)) else ((fX5_is M a1 a2).bind fun q36 => some (q36, M))))
def rmX5_of : Room := { frames := 4, cells := 0, slots := 0, locals := 88 }
theorem qqX5_of : yX5_of.cls = RX5 ∧ yX5_of.cls ≠ "java/lang/invoke/MethodHandle" ∧ yX5_of.cls ≠ "java/lang/invoke/VarHandle" ∧ (parseMethodDescriptor yX5_of.desc).map (fun d => d.parameters.length) = some 2 := by decide +kernel
def fX5_mayBe (M : sOb) (a1 : Int32) (a2 : Int32) (a3 : Int32) : Option Int32 :=
  if a2 = (1 : Int32) then ((fX5_isIn a3.toInt64 (1 : Int64) (12 : Int64)).bind fun q38 => if ¬ (q38 = 0 ∨ q38 = 1) then none else some q38) else if a2 = (2 : Int32) then ((fX5_isIn a3.toInt64 (0 : Int64) (999 : Int64)).bind fun q48 => if ¬ (q48 = 0 ∨ q48 = 1) then none else some q48) else if a2 = (3 : Int32) then (if a3 = (-1 : Int32) then (some (1 : Int32)) else ((fX5_isRunner M a3).bind fun q59 => if q59 = 0 then (some (0 : Int32)) else (if a3 = a1 then (some (0 : Int32)) else (some (1 : Int32))))) else if a2 = (4 : Int32) then ((fX5_isIn a3.toInt64 (0 : Int64) (((M.2.1 0 (1 : Int32).toNatClampNeg) - (1 : Int32)).toInt64)).bind fun q88 => if ¬ (q88 = 0 ∨ q88 = 1) then none else some q88) else (some (0 : Int32))
def rmX5_mayBe : Room := { frames := 1, cells := 0, slots := 0, locals := 25 }
theorem qqX5_mayBe : yX5_mayBe.cls = RX5 ∧ yX5_mayBe.cls ≠ "java/lang/invoke/MethodHandle" ∧ yX5_mayBe.cls ≠ "java/lang/invoke/VarHandle" ∧ (parseMethodDescriptor yX5_mayBe.desc).map (fun d => d.parameters.length) = some 3 := by decide +kernel
def fX5_set (M : sOb) (a1 : Int32) (a2 : Int32) (a3 : Int32) : Option (Int32 × sOb) :=
  (fX5_isRunner M a1).bind fun q2 => if q2 = 0 then ((fX5_finds M (-1000000001 : Int32)).bind fun q37 => some (q37.1, q37.2)) else ((fX5_mayBe M a1 a2 a3).bind fun q12 => if q12 = 0 then ((fX5_finds M (-1000000001 : Int32)).bind fun q37 => some (q37.1, q37.2)) else ((fX5_becomes M (((5 : Int32) + ((8 : Int32) * a1)) + a2) a3).bind fun q28 => some (q28.1, q28.2)))
def rmX5_set : Room := { frames := 2, cells := 0, slots := 0, locals := 48 }
theorem qqX5_set : yX5_set.cls = RX5 ∧ yX5_set.cls ≠ "java/lang/invoke/MethodHandle" ∧ yX5_set.cls ≠ "java/lang/invoke/VarHandle" ∧ (parseMethodDescriptor yX5_set.desc).map (fun d => d.parameters.length) = some 3 := by decide +kernel
def fX5_turn (M : sOb) (a1 : Int32) (a2 : Int32) : Option (Int32 × sOb) :=
  (fX5_isRunner M a1).bind fun q2 => if q2 = 0 then ((fX5_finds M (-1000000001 : Int32)).bind fun q37 => some (q37.1, q37.2)) else ((fX5_isIn a2.toInt64 (0 : Int64) (5 : Int64)).bind fun q14 => if q14 = 0 then ((fX5_finds M (-1000000001 : Int32)).bind fun q37 => some (q37.1, q37.2)) else ((fX5_becomes M ((5 : Int32) + ((8 : Int32) * a1)) a2).bind fun q28 => some (q28.1, q28.2)))
def rmX5_turn : Room := { frames := 1, cells := 0, slots := 0, locals := 25 }
theorem qqX5_turn : yX5_turn.cls = RX5 ∧ yX5_turn.cls ≠ "java/lang/invoke/MethodHandle" ∧ yX5_turn.cls ≠ "java/lang/invoke/VarHandle" ∧ (parseMethodDescriptor yX5_turn.desc).map (fun d => d.parameters.length) = some 2 := by decide +kernel
def fX5_isUnder (a0 : Int32) (a1 : Int32) : Option Int32 :=
  if a0 = a1 then (some (1 : Int32)) else (if a1 = 0 then (some (1 : Int32)) else (nm (if a1 = (2 : Int32) then (if a0 = (3 : Int32) then (some (1 : Int32)) else (some (0 : Int32))) else (some (0 : Int32))) fun k19 => if a1 = (1 : Int32) then (if (3 : Int32) < a0 then (some (1 : Int32)) else k19) else k19))
def rmX5_isUnder : Room := { frames := 0, cells := 0, slots := 0, locals := 0 }
theorem qqX5_isUnder : yX5_isUnder.cls ≠ "java/lang/invoke/MethodHandle" ∧ yX5_isUnder.cls ≠ "java/lang/invoke/VarHandle" ∧ (parseMethodDescriptor yX5_isUnder.desc).map (fun d => d.parameters.length) = some 2 := by decide +kernel
def fX5_as (M : sOb) (a1 : Int32) (a2 : Int32) : Option (Int32 × sOb) :=
  (fX5_isRunner M a1).bind fun q2 => if q2 = 0 then ((fX5_finds M (-1000000001 : Int32)).bind fun q23 => some (q23.1, q23.2)) else ((fX5_isIn a2.toInt64 (0 : Int64) (5 : Int64)).bind fun q14 => if q14 = 0 then ((fX5_finds M (-1000000001 : Int32)).bind fun q23 => some (q23.1, q23.2)) else ((fX5_is M a1 (0 : Int32)).bind fun q30 => (fX5_isUnder q30 a2).bind fun q34 => if q34 = 0 then ((fX5_finds M (-1000000003 : Int32)).bind fun q52 => some (q52.1, q52.2)) else ((fX5_is M a1 (1 : Int32)).bind fun q43 => some (q43, M))))
def rmX5_as : Room := { frames := 1, cells := 0, slots := 0, locals := 25 }
theorem qqX5_as : yX5_as.cls = RX5 ∧ yX5_as.cls ≠ "java/lang/invoke/MethodHandle" ∧ yX5_as.cls ≠ "java/lang/invoke/VarHandle" ∧ (parseMethodDescriptor yX5_as.desc).map (fun d => d.parameters.length) = some 2 := by decide +kernel
def bX5_firstAlone_6 (M : sOb) (k76 : Int32 → Int32 → Option Int32) (rc6 : Int32 → Int32 → Int32 → Option Int32) (x1_6 : Int32) (x2_6 : Int32) (x3_6 : Int32) : Option Int32 :=
  if (M.2.1 0 (0 : Int32).toNatClampNeg) ≤ x3_6 then (k76 x1_6 x2_6) else ((fX5_isHome M x3_6).bind fun q18 => if q18 = 0 then (if x1_6 < 0 then (nm (x3_6 + (1 : Int32)) fun v70 => rc6 x3_6 (1 : Int32) v70) else ((fX5_is M x3_6 (5 : Int32)).bind fun q34 => (fX5_is M x1_6 (5 : Int32)).bind fun q40 => if q34 ≤ q40 then ((fX5_is M x3_6 (5 : Int32)).bind fun q56 => (fX5_is M x1_6 (5 : Int32)).bind fun q62 => if q56 = q62 then (nm (x3_6 + (1 : Int32)) fun v70 => rc6 x1_6 (0 : Int32) v70) else (nm (x3_6 + (1 : Int32)) fun v70 => rc6 x1_6 x2_6 v70)) else (nm (x3_6 + (1 : Int32)) fun v70 => rc6 x3_6 (1 : Int32) v70))) else (nm (x3_6 + (1 : Int32)) fun v70 => rc6 x1_6 x2_6 v70))
def fX5_firstAlone (M : sOb) : Option Int32 :=
  nm (fun (x1_76 : Int32) (x2_76 : Int32) => if x2_76 = 0 then (some (-1 : Int32)) else (some x1_76)) fun k76 => fx3 (bX5_firstAlone_6 M k76) FU (-1 : Int32) (0 : Int32) (0 : Int32)
def rmX5_firstAlone : Room := { frames := 2, cells := 0, slots := 0, locals := 43 }
theorem qqX5_firstAlone : yX5_firstAlone.cls = RX5 ∧ yX5_firstAlone.cls ≠ "java/lang/invoke/MethodHandle" ∧ yX5_firstAlone.cls ≠ "java/lang/invoke/VarHandle" ∧ (parseMethodDescriptor yX5_firstAlone.desc).map (fun d => d.parameters.length) = some 0 := by decide +kernel
def bX5_homeMany_4 (M : sOb) (rc4 : Int32 → Int32 → Option Int32) (x1_4 : Int32) (x2_4 : Int32) : Option Int32 :=
  if (M.2.1 0 (0 : Int32).toNatClampNeg) ≤ x2_4 then (some x1_4) else ((fX5_isHome M x2_4).bind fun q17 => if q17 = 0 then (nm (x1_4 + (0 : Int32)) fun v29 => nm (x2_4 + (1 : Int32)) fun v30 => rc4 v29 v30) else (nm (x1_4 + (1 : Int32)) fun v29 => nm (x2_4 + (1 : Int32)) fun v30 => rc4 v29 v30))
def fX5_homeMany (M : sOb) : Option Int32 :=
  fx2 (bX5_homeMany_4 M) FU (0 : Int32) (0 : Int32)
def rmX5_homeMany : Room := { frames := 2, cells := 0, slots := 0, locals := 43 }
theorem qqX5_homeMany : yX5_homeMany.cls = RX5 ∧ yX5_homeMany.cls ≠ "java/lang/invoke/MethodHandle" ∧ yX5_homeMany.cls ≠ "java/lang/invoke/VarHandle" ∧ (parseMethodDescriptor yX5_homeMany.desc).map (fun d => d.parameters.length) = some 0 := by decide +kernel
def fX5_asHolder (M : sOb) (a1 : Int32) (a2 : Int32) : Option Int32 :=
  nm ((fX5_is M a1 (1 : Int32)).bind fun q36 => some q36) fun k33 => if a1 = a2 then ((fX5_is M a1 (5 : Int32)).bind fun q9 => if ((4 : Int32) * q9) < ((3 : Int32) * (M.2.1 0 (1 : Int32).toNatClampNeg)) then k33 else (some (M.2.1 0 (2 : Int32).toNatClampNeg))) else k33
def rmX5_asHolder : Room := { frames := 1, cells := 0, slots := 0, locals := 22 }
theorem qqX5_asHolder : yX5_asHolder.cls = RX5 ∧ yX5_asHolder.cls ≠ "java/lang/invoke/MethodHandle" ∧ yX5_asHolder.cls ≠ "java/lang/invoke/VarHandle" ∧ (parseMethodDescriptor yX5_asHolder.desc).map (fun d => d.parameters.length) = some 2 := by decide +kernel
def fX5_asKeeper (M : sOb) (a1 : Int32) : Option Int32 :=
  (fX5_is M a1 (3 : Int32)).bind fun q3 => nm ((fX5_is M a1 (1 : Int32)).bind fun q22 => some q22) fun k19 => if q3 < 0 then k19 else ((fX5_isHome M q3).bind fun q13 => if q13 = 0 then ((fX5_is M q3 (5 : Int32)).bind fun q29 => (fX5_is M a1 (5 : Int32)).bind fun q35 => nm (q29 - q35) fun v39 => (fX5_is M a1 (1 : Int32)).bind fun q44 => nm (fun (y0_60 : Int32) => if (1 : Int32) ≤ y0_60 then (some y0_60) else (some (1 : Int32))) fun k60 => if q44 ≤ v39 then ((fX5_is M a1 (1 : Int32)).bind fun q57 => k60 q57) else (k60 v39)) else k19)
def rmX5_asKeeper : Room := { frames := 2, cells := 0, slots := 0, locals := 43 }
theorem qqX5_asKeeper : yX5_asKeeper.cls = RX5 ∧ yX5_asKeeper.cls ≠ "java/lang/invoke/MethodHandle" ∧ yX5_asKeeper.cls ≠ "java/lang/invoke/VarHandle" ∧ (parseMethodDescriptor yX5_asKeeper.desc).map (fun d => d.parameters.length) = some 1 := by decide +kernel
def fX5_wishOf (M : sOb) (a1 : Int32) (a2 : Int32) (a3 : Int32) : Option Int32 :=
  (fX5_is M a1 (0 : Int32)).bind fun q3 => if q3 = (1 : Int32) then ((fX5_asHolder M a1 a2).bind fun q43 => some q43) else if q3 = (2 : Int32) then ((fX5_asKeeper M a1).bind fun q49 => some q49) else if q3 = (3 : Int32) then ((fX5_is M a1 (3 : Int32)).bind fun q56 => if q56 < 0 then ((fX5_asKeeper M a1).bind fun q86 => some q86) else ((fX5_is M a1 (3 : Int32)).bind fun q66 => (fX5_isHome M q66).bind fun q69 => if q69 = 0 then ((fX5_asKeeper M a1).bind fun q86 => some q86) else (some (M.2.1 0 (2 : Int32).toNatClampNeg)))) else if q3 = (4 : Int32) then ((fX5_is M a1 (5 : Int32)).bind fun q93 => nm ((fX5_asHolder M a1 a2).bind fun q131 => some q131) fun k128 => if q93 < ((M.2.1 0 (1 : Int32).toNatClampNeg) - (40 : Int32)) then k128 else (nm ((fX5_asHolder M a1 a2).bind fun q121 => some ((2 : Int32) * q121)) fun k117 => if 0 < a3 then k117 else (if a1 = a2 then k128 else k117))) else if q3 = (5 : Int32) then ((fX5_asHolder M a1 a2).bind fun q138 => if ((M.2.1 0 (2 : Int32).toNatClampNeg) + (2 : Int32)) ≤ q138 then (some ((M.2.1 0 (2 : Int32).toNatClampNeg) + (2 : Int32))) else ((fX5_asHolder M a1 a2).bind fun q155 => some q155)) else ((fX5_is M a1 (1 : Int32)).bind fun q173 => some q173)
def rmX5_wishOf : Room := { frames := 3, cells := 0, slots := 0, locals := 67 }
theorem qqX5_wishOf : yX5_wishOf.cls = RX5 ∧ yX5_wishOf.cls ≠ "java/lang/invoke/MethodHandle" ∧ yX5_wishOf.cls ≠ "java/lang/invoke/VarHandle" ∧ (parseMethodDescriptor yX5_wishOf.desc).map (fun d => d.parameters.length) = some 3 := by decide +kernel
def fX5_wish (M : sOb) (a1 : Int32) : Option (Int32 × sOb) :=
  (fX5_isRunner M a1).bind fun q2 => if q2 = 0 then ((fX5_finds M (-1000000001 : Int32)).bind fun q11 => some (q11.1, q11.2)) else ((fX5_isHome M a1).bind fun q17 => if q17 = 0 then ((fX5_firstAlone M).bind fun q35 => (fX5_homeMany M).bind fun q39 => (fX5_wishOf M a1 q35 q39).bind fun q42 => some (q42, M)) else ((fX5_finds M (-1000000005 : Int32)).bind fun q26 => some (q26.1, q26.2)))
def rmX5_wish : Room := { frames := 4, cells := 0, slots := 0, locals := 90 }
theorem qqX5_wish : yX5_wish.cls = RX5 ∧ yX5_wish.cls ≠ "java/lang/invoke/MethodHandle" ∧ yX5_wish.cls ≠ "java/lang/invoke/VarHandle" ∧ (parseMethodDescriptor yX5_wish.desc).map (fun d => d.parameters.length) = some 1 := by decide +kernel
def bX5_lines_2 (rc2 : Int32 → sOb → Option sOb) (x1_2 : Int32) (T_2 : sOb) : Option sOb :=
  if (T_2.2.1 0 (0 : Int32).toNatClampNeg) ≤ x1_2 then (nm (sSa T_2 0 (4 : Int32).toNatClampNeg (0 : Int32)) fun M44 => some M44) else ((fX5_is T_2 x1_2 (4 : Int32)).bind fun q18 => (fX5_puts T_2 x1_2 (5 : Int32) q18).bind fun q21 => (fX5_puts q21 x1_2 (7 : Int32) (-1 : Int32)).bind fun q29 => nm (x1_2 + (1 : Int32)) fun v32 => rc2 v32 q29)
def fX5_lines (M : sOb) : Option sOb :=
  fx2 bX5_lines_2 FU (0 : Int32) M
def rmX5_lines : Room := { frames := 1, cells := 0, slots := 0, locals := 23 }
theorem qqX5_lines : yX5_lines.cls = RX5 ∧ yX5_lines.cls ≠ "java/lang/invoke/MethodHandle" ∧ yX5_lines.cls ≠ "java/lang/invoke/VarHandle" ∧ (parseMethodDescriptor yX5_lines.desc).map (fun d => d.parameters.length) = some 0 := by decide +kernel
def fX5_line (M : sOb) : Option (Int32 × sOb) :=
  (fX5_homeMany M).bind fun q1 => (fX5_lines M).bind fun q6 => some (q1, q6)
def rmX5_line : Room := { frames := 3, cells := 0, slots := 0, locals := 65 }
theorem qqX5_line : yX5_line.cls = RX5 ∧ yX5_line.cls ≠ "java/lang/invoke/MethodHandle" ∧ yX5_line.cls ≠ "java/lang/invoke/VarHandle" ∧ (parseMethodDescriptor yX5_line.desc).map (fun d => d.parameters.length) = some 0 := by decide +kernel
def bX5_goesOn_116 (rc116 : Int32 → Int32 → sOb → Option (Int32 × sOb)) (x3_116 : Int32) (x4_116 : Int32) (T_116 : sOb) : Option (Int32 × sOb) :=
  if (T_116.2.1 0 (0 : Int32).toNatClampNeg) ≤ x4_116 then (some (x3_116, T_116)) else ((fX5_isHome T_116 x4_116).bind fun q130 => if q130 = 0 then (if x4_116 < 0 ∨ 9 ≤ x4_116.toNatClampNeg then none else nm (fun (y0_163 : Int32) => (fX5_is T_116 x4_116 (2 : Int32)).bind fun q169 => nm (fun (T_259 : sOb) => (fX5_is T_259 x4_116 (5 : Int32)).bind fun q267 => (fX5_puts T_259 x4_116 (5 : Int32) (q267 + (T_259.2.1 7 x4_116.toNatClampNeg))).bind fun q278 => (fX5_is q278 x4_116 (5 : Int32)).bind fun q285 => if q285 < (q278.2.1 0 (1 : Int32).toNatClampNeg) then (nm (x4_116 + (1 : Int32)) fun v314 => rc116 x3_116 v314 q278) else ((fX5_puts q278 x4_116 (7 : Int32) (q278.2.1 0 (4 : Int32).toNatClampNeg)).bind fun q308 => nm (x3_116 + (1 : Int32)) fun v311 => nm (x4_116 + (1 : Int32)) fun v314 => rc116 v311 v314 q308)) fun k259 => if y0_163 ≤ q169 then ((fX5_is T_116 x4_116 (2 : Int32)).bind fun q211 => nm (fun (y0_233 : Int32) => nm ((q211 - y0_163) + y0_233) fun v234 => nm (fun (y0_256 : Int32) => (fX5_puts T_116 x4_116 (2 : Int32) y0_256).bind fun q256 => k259 q256) fun k256 => if v234 ≤ (999 : Int32) then (k256 v234) else (k256 (999 : Int32))) fun k233 => if (4 : Int32) ≤ (T_116.2.1 7 x4_116.toNatClampNeg) then (k233 (0 : Int32)) else (k233 (1 : Int32))) else (nm (fun (y0_203 : Int32) => nm (sSa T_116 7 x4_116.toNatClampNeg y0_203) fun M203 => k259 M203) fun k203 => if (T_116.2.1 0 (2 : Int32).toNatClampNeg) ≤ (4 : Int32) then (k203 (4 : Int32)) else (k203 (T_116.2.1 0 (2 : Int32).toNatClampNeg)))) fun k163 => if (T_116.2.1 7 x4_116.toNatClampNeg) ≤ (4 : Int32) then (k163 (0 : Int32)) else (k163 ((T_116.2.1 7 x4_116.toNatClampNeg) - (4 : Int32)))) else (nm (x4_116 + (1 : Int32)) fun v314 => rc116 x3_116 v314 T_116))
def bX5_goesOn_24 (q1 : Int32) (q18 : Int32) (k101 : sOb → Option (Int32 × sOb)) (rc24 : Int32 → sOb → Option (Int32 × sOb)) (x3_24 : Int32) (T_24 : sOb) : Option (Int32 × sOb) :=
  if (T_24.2.1 0 (0 : Int32).toNatClampNeg) ≤ x3_24 then (k101 T_24) else ((fX5_isHome T_24 x3_24).bind fun q36 => nm (fun (y0_53 : Int32) => (fX5_isHome T_24 x3_24).bind fun q62 => if q62 = 0 then (if (T_24.2.1 0 (2 : Int32).toNatClampNeg) ≤ y0_53 then (if x3_24 < 0 ∨ 9 ≤ x3_24.toNatClampNeg then none else nm (sSa T_24 7 x3_24.toNatClampNeg y0_53) fun M94 => nm (x3_24 + (1 : Int32)) fun v95 => rc24 v95 M94) else (if x3_24 < 0 ∨ 9 ≤ x3_24.toNatClampNeg then none else nm (sSa T_24 7 x3_24.toNatClampNeg (T_24.2.1 0 (2 : Int32).toNatClampNeg)) fun M94 => nm (x3_24 + (1 : Int32)) fun v95 => rc24 v95 M94)) else (if x3_24 < 0 ∨ 9 ≤ x3_24.toNatClampNeg then none else nm (sSa T_24 7 x3_24.toNatClampNeg (0 : Int32)) fun M94 => nm (x3_24 + (1 : Int32)) fun v95 => rc24 v95 M94)) fun k53 => if q36 = 0 then ((fX5_wishOf T_24 x3_24 q18 q1).bind fun q50 => k53 q50) else (k53 (0 : Int32)))
def fX5_goesOn (M : sOb) : Option (Int32 × sOb) :=
  (fX5_homeMany M).bind fun q1 => if q1 = (M.2.1 0 (0 : Int32).toNatClampNeg) then (some ((0 : Int32), M)) else ((fX5_firstAlone M).bind fun q18 => nm (fun (T_101 : sOb) => nm (sSa T_101 0 (4 : Int32).toNatClampNeg ((T_101.2.1 0 (4 : Int32).toNatClampNeg) + (1 : Int32))) fun M110 => fx3 bX5_goesOn_116 FU (0 : Int32) (0 : Int32) M110) fun k101 => fx2 (bX5_goesOn_24 q1 q18 k101) FU (0 : Int32) M)
def rmX5_goesOn : Room := { frames := 4, cells := 0, slots := 0, locals := 90 }
theorem qqX5_goesOn : yX5_goesOn.cls = RX5 ∧ yX5_goesOn.cls ≠ "java/lang/invoke/MethodHandle" ∧ yX5_goesOn.cls ≠ "java/lang/invoke/VarHandle" ∧ (parseMethodDescriptor yX5_goesOn.desc).map (fun d => d.parameters.length) = some 0 := by decide +kernel
def bX5_seconds_23 (a1 : Int32) (rc23 : Int32 → Int32 → sOb → Option (Int32 × sOb)) (x2_23 : Int32) (x3_23 : Int32) (T_23 : sOb) : Option (Int32 × sOb) :=
  if a1 ≤ x3_23 then (some (x2_23, T_23)) else ((fX5_goesOn T_23).bind fun q30 => nm (x2_23 + q30.1) fun v34 => nm (x3_23 + (1 : Int32)) fun v35 => rc23 v34 v35 q30.2)
def fX5_seconds (M : sOb) (a1 : Int32) : Option (Int32 × sOb) :=
  (fX5_isIn a1.toInt64 (1 : Int64) (600 : Int64)).bind fun q6 => if q6 = 0 then ((fX5_finds M (-1000000001 : Int32)).bind fun q15 => some (q15.1, q15.2)) else (fx3 (bX5_seconds_23 a1) FU (0 : Int32) (0 : Int32) M)
def rmX5_seconds : Room := { frames := 5, cells := 0, slots := 0, locals := 116 }
theorem qqX5_seconds : yX5_seconds.cls = RX5 ∧ yX5_seconds.cls ≠ "java/lang/invoke/MethodHandle" ∧ yX5_seconds.cls ≠ "java/lang/invoke/VarHandle" ∧ (parseMethodDescriptor yX5_seconds.desc).map (fun d => d.parameters.length) = some 1 := by decide +kernel
def fX5_now (M : sOb) (a1 : Int32) : Option (Int32 × sOb) :=
  if a1 = (0 : Int32) then (some ((M.2.1 0 (4 : Int32).toNatClampNeg), M)) else if a1 = (1 : Int32) then (some ((M.2.1 0 (1 : Int32).toNatClampNeg), M)) else if a1 = (2 : Int32) then (some ((M.2.1 0 (2 : Int32).toNatClampNeg), M)) else if a1 = (3 : Int32) then (some ((M.2.1 0 (3 : Int32).toNatClampNeg), M)) else if a1 = (4 : Int32) then ((fX5_homeMany M).bind fun q65 => some (q65, M)) else ((fX5_finds M (-1000000001 : Int32)).bind fun q72 => some (q72.1, q72.2))
def rmX5_now : Room := { frames := 3, cells := 0, slots := 0, locals := 65 }
theorem qqX5_now : yX5_now.cls = RX5 ∧ yX5_now.cls ≠ "java/lang/invoke/MethodHandle" ∧ yX5_now.cls ≠ "java/lang/invoke/VarHandle" ∧ (parseMethodDescriptor yX5_now.desc).map (fun d => d.parameters.length) = some 1 := by decide +kernel
def bX5_whoIs_2 (M : sOb) (a1 : Int32) (rc2 : Int32 → Option Int32) (x2_2 : Int32) : Option Int32 :=
  if (M.2.1 0 (0 : Int32).toNatClampNeg) ≤ x2_2 then (some (-1 : Int32)) else ((fX5_placeOf M x2_2).bind fun q14 => if q14 = a1 then (some x2_2) else (nm (x2_2 + (1 : Int32)) fun v23 => rc2 v23))
def fX5_whoIs (M : sOb) (a1 : Int32) : Option Int32 :=
  fx1 (bX5_whoIs_2 M a1) FU (0 : Int32)
def rmX5_whoIs : Room := { frames := 4, cells := 0, slots := 0, locals := 88 }
theorem qqX5_whoIs : yX5_whoIs.cls = RX5 ∧ yX5_whoIs.cls ≠ "java/lang/invoke/MethodHandle" ∧ yX5_whoIs.cls ≠ "java/lang/invoke/VarHandle" ∧ (parseMethodDescriptor yX5_whoIs.desc).map (fun d => d.parameters.length) = some 1 := by decide +kernel
def fX5_place (M : sOb) (a1 : Int32) : Option (Int32 × sOb) :=
  (fX5_isRunner M a1).bind fun q2 => if q2 = 0 then ((fX5_finds M (-1000000001 : Int32)).bind fun q19 => some (q19.1, q19.2)) else ((fX5_whoIs M a1).bind fun q10 => some (q10, M))
def rmX5_place : Room := { frames := 5, cells := 0, slots := 0, locals := 110 }
theorem qqX5_place : yX5_place.cls = RX5 ∧ yX5_place.cls ≠ "java/lang/invoke/MethodHandle" ∧ yX5_place.cls ≠ "java/lang/invoke/VarHandle" ∧ (parseMethodDescriptor yX5_place.desc).map (fun d => d.parameters.length) = some 1 := by decide +kernel
def fX5_prizeOf (M : sOb) (a1 : Int32) : Option Int32 :=
  if a1 = 0 then ((fX5_whoIs M (0 : Int32)).bind fun q44 => some q44) else (if a1 = (1 : Int32) then ((fX5_whoIs M (1 : Int32)).bind fun q44 => some q44) else (if a1 = (2 : Int32) then ((fX5_whoIs M ((M.2.1 0 (0 : Int32).toNatClampNeg) - (2 : Int32))).bind fun q44 => some q44) else ((fX5_whoIs M (((M.2.1 0 (0 : Int32).toNatClampNeg) - (1 : Int32)) / (2 : Int32))).bind fun q44 => some q44)))
def rmX5_prizeOf : Room := { frames := 5, cells := 0, slots := 0, locals := 110 }
theorem qqX5_prizeOf : yX5_prizeOf.cls = RX5 ∧ yX5_prizeOf.cls ≠ "java/lang/invoke/MethodHandle" ∧ yX5_prizeOf.cls ≠ "java/lang/invoke/VarHandle" ∧ (parseMethodDescriptor yX5_prizeOf.desc).map (fun d => d.parameters.length) = some 1 := by decide +kernel
def fX5_prize (M : sOb) : Option (Int32 × sOb) :=
  (fX5_prizeOf M (M.2.1 0 (3 : Int32).toNatClampNeg)).bind fun q8 => (fX5_orNone M q8).bind fun q11 => some (q11.1, q11.2)
def rmX5_prize : Room := { frames := 6, cells := 0, slots := 0, locals := 131 }
theorem qqX5_prize : yX5_prize.cls = RX5 ∧ yX5_prize.cls ≠ "java/lang/invoke/MethodHandle" ∧ yX5_prize.cls ≠ "java/lang/invoke/VarHandle" ∧ (parseMethodDescriptor yX5_prize.desc).map (fun d => d.parameters.length) = some 0 := by decide +kernel
def bX5_score_44 (q38 : Int32) (rc44 : Int32 → Int32 → sOb → Option (Int32 × sOb)) (x1_44 : Int32) (x3_44 : Int32) (T_44 : sOb) : Option (Int32 × sOb) :=
  if (T_44.2.1 0 (0 : Int32).toNatClampNeg) ≤ x3_44 then (some (x1_44, T_44)) else ((fX5_placeOf T_44 x3_44).bind fun q64 => nm (fun (y0_79 : Int32) => nm ((((T_44.2.1 0 (0 : Int32).toNatClampNeg) - (1 : Int32)) - q64) + y0_79) fun v80 => (fX5_is T_44 x3_44 (6 : Int32)).bind fun q90 => (fX5_puts T_44 x3_44 (6 : Int32) (q90 + v80)).bind fun q96 => nm (x1_44 + v80) fun v103 => nm (x3_44 + (1 : Int32)) fun v104 => rc44 v103 v104 q96) fun k79 => if x3_44 = q38 then (k79 (10 : Int32)) else (k79 (0 : Int32)))
def fX5_score (M : sOb) : Option (Int32 × sOb) :=
  if (M.2.1 0 (0 : Int32).toNatClampNeg) = 0 then ((fX5_finds M (-1000000005 : Int32)).bind fun q25 => some (q25.1, q25.2)) else ((fX5_homeMany M).bind fun q10 => if (M.2.1 0 (0 : Int32).toNatClampNeg) ≤ q10 then ((fX5_prizeOf M (M.2.1 0 (3 : Int32).toNatClampNeg)).bind fun q38 => fx3 (bX5_score_44 q38) FU (0 : Int32) (0 : Int32) M) else ((fX5_finds M (-1000000005 : Int32)).bind fun q25 => some (q25.1, q25.2)))
def rmX5_score : Room := { frames := 6, cells := 0, slots := 0, locals := 131 }
theorem qqX5_score : yX5_score.cls = RX5 ∧ yX5_score.cls ≠ "java/lang/invoke/MethodHandle" ∧ yX5_score.cls ≠ "java/lang/invoke/VarHandle" ∧ (parseMethodDescriptor yX5_score.desc).map (fun d => d.parameters.length) = some 0 := by decide +kernel
def bX5_leads_4 (M : sOb) (rc4 : Int32 → Int32 → Option (Int32 × sOb)) (x1_4 : Int32) (x2_4 : Int32) : Option (Int32 × sOb) :=
  if (M.2.1 0 (0 : Int32).toNatClampNeg) ≤ x2_4 then ((fX5_orNone M x1_4).bind fun q49 => some (q49.1, q49.2)) else (if x1_4 < 0 then (nm (x2_4 + (1 : Int32)) fun v41 => rc4 x2_4 v41) else ((fX5_is M x2_4 (6 : Int32)).bind fun q22 => (fX5_is M x1_4 (6 : Int32)).bind fun q29 => if q22 ≤ q29 then (nm (x2_4 + (1 : Int32)) fun v41 => rc4 x1_4 v41) else (nm (x2_4 + (1 : Int32)) fun v41 => rc4 x2_4 v41)))
def fX5_leads (M : sOb) : Option (Int32 × sOb) :=
  fx2 (bX5_leads_4 M) FU (-1 : Int32) (0 : Int32)
def rmX5_leads : Room := { frames := 2, cells := 0, slots := 0, locals := 42 }
theorem qqX5_leads : yX5_leads.cls = RX5 ∧ yX5_leads.cls ≠ "java/lang/invoke/MethodHandle" ∧ yX5_leads.cls ≠ "java/lang/invoke/VarHandle" ∧ (parseMethodDescriptor yX5_leads.desc).map (fun d => d.parameters.length) = some 0 := by decide +kernel
def bX5_goesOnMany_2 (a1 : Int32) (rc2 : Int32 → sOb → Option sOb) (x2_2 : Int32) (T_2 : sOb) : Option sOb :=
  if a1 ≤ x2_2 then (some T_2) else ((fX5_goesOn T_2).bind fun q8 => nm (x2_2 + (1 : Int32)) fun v12 => rc2 v12 q8.2)
def fX5_goesOnMany (M : sOb) (a1 : Int32) : Option sOb :=
  fx2 (bX5_goesOnMany_2 a1) FU (0 : Int32) M
def rmX5_goesOnMany : Room := { frames := 5, cells := 0, slots := 0, locals := 116 }
theorem qqX5_goesOnMany : yX5_goesOnMany.cls = RX5 ∧ yX5_goesOnMany.cls ≠ "java/lang/invoke/MethodHandle" ∧ yX5_goesOnMany.cls ≠ "java/lang/invoke/VarHandle" ∧ (parseMethodDescriptor yX5_goesOnMany.desc).map (fun d => d.parameters.length) = some 1 := by decide +kernel
def fX5_on (M : sOb) (a1 : Int32) (a2 : Int32) : Option (Int32 × sOb) :=
  (fX5_isRunner M a1).bind fun q2 => if q2 = 0 then ((fX5_finds M (-1000000001 : Int32)).bind fun q23 => some (q23.1, q23.2)) else ((fX5_isIn a2.toInt64 (0 : Int64) (2000 : Int64)).bind fun q14 => if q14 = 0 then ((fX5_finds M (-1000000001 : Int32)).bind fun q23 => some (q23.1, q23.2)) else ((fX5_laysBy M).bind fun q28 => (fX5_goesOnMany q28 a2).bind fun q33 => (fX5_is q33 a1 (5 : Int32)).bind fun q39 => (fX5_laysBack q33).bind fun q44 => some (q39, q44)))
def rmX5_on : Room := { frames := 6, cells := 0, slots := 0, locals := 139 }
theorem qqX5_on : yX5_on.cls = RX5 ∧ yX5_on.cls ≠ "java/lang/invoke/MethodHandle" ∧ yX5_on.cls ≠ "java/lang/invoke/VarHandle" ∧ (parseMethodDescriptor yX5_on.desc).map (fun d => d.parameters.length) = some 2 := by decide +kernel
def bX5_goesToEnd_2 (k33 : sOb → Option (Int32 × sOb)) (rc2 : Int32 → sOb → Option (Int32 × sOb)) (x1_2 : Int32) (T_2 : sOb) : Option (Int32 × sOb) :=
  if (2000 : Int32) ≤ x1_2 then (k33 T_2) else ((fX5_homeMany T_2).bind fun q10 => if (T_2.2.1 0 (0 : Int32).toNatClampNeg) ≤ q10 then (k33 T_2) else ((fX5_goesOn T_2).bind fun q23 => nm (x1_2 + (1 : Int32)) fun v27 => rc2 v27 q23.2))
def fX5_goesToEnd (M : sOb) : Option (Int32 × sOb) :=
  nm (fun (T_33 : sOb) => (fX5_homeMany T_33).bind fun q34 => if q34 = (T_33.2.1 0 (0 : Int32).toNatClampNeg) then (some ((1 : Int32), T_33)) else (some ((0 : Int32), T_33))) fun k33 => fx2 (bX5_goesToEnd_2 k33) FU (0 : Int32) M
def rmX5_goesToEnd : Room := { frames := 5, cells := 0, slots := 0, locals := 116 }
theorem qqX5_goesToEnd : yX5_goesToEnd.cls = RX5 ∧ yX5_goesToEnd.cls ≠ "java/lang/invoke/MethodHandle" ∧ yX5_goesToEnd.cls ≠ "java/lang/invoke/VarHandle" ∧ (parseMethodDescriptor yX5_goesToEnd.desc).map (fun d => d.parameters.length) = some 0 := by decide +kernel
def fX5_home (M : sOb) (a1 : Int32) : Option (Int32 × sOb) :=
  (fX5_isRunner M a1).bind fun q2 => if q2 = 0 then ((fX5_finds M (-1000000001 : Int32)).bind fun q11 => some (q11.1, q11.2)) else ((fX5_laysBy M).bind fun q16 => (fX5_goesToEnd q16).bind fun q20 => (fX5_is q20.2 a1 (7 : Int32)).bind fun q28 => (fX5_laysBack q20.2).bind fun q33 => (fX5_orNone q33 q28).bind fun q38 => some (q38.1, q38.2))
def rmX5_home : Room := { frames := 6, cells := 0, slots := 0, locals := 138 }
theorem qqX5_home : yX5_home.cls = RX5 ∧ yX5_home.cls ≠ "java/lang/invoke/MethodHandle" ∧ yX5_home.cls ≠ "java/lang/invoke/VarHandle" ∧ (parseMethodDescriptor yX5_home.desc).map (fun d => d.parameters.length) = some 1 := by decide +kernel
def fX5_prizeBy (M : sOb) (a1 : Int32) : Option (Int32 × sOb) :=
  (fX5_isIn a1.toInt64 (0 : Int64) (3 : Int64)).bind fun q6 => if q6 = 0 then ((fX5_finds M (-1000000001 : Int32)).bind fun q15 => some (q15.1, q15.2)) else ((fX5_laysBy M).bind fun q20 => (fX5_goesToEnd q20).bind fun q24 => nm (fun (y0_39 : Int32) => (fX5_laysBack q24.2).bind fun q41 => (fX5_orNone q41 y0_39).bind fun q46 => some (q46.1, q46.2)) fun k39 => if q24.1 = 0 then (k39 (-1 : Int32)) else ((fX5_prizeOf q24.2 a1).bind fun q32 => k39 q32))
def rmX5_prizeBy : Room := { frames := 6, cells := 0, slots := 0, locals := 138 }
theorem qqX5_prizeBy : yX5_prizeBy.cls = RX5 ∧ yX5_prizeBy.cls ≠ "java/lang/invoke/MethodHandle" ∧ yX5_prizeBy.cls ≠ "java/lang/invoke/VarHandle" ∧ (parseMethodDescriptor yX5_prizeBy.desc).map (fun d => d.parameters.length) = some 1 := by decide +kernel
def bX5_leaders_10 (rc10 : Int32 → Int32 → Int32 → sOb → Option (Int32 × sOb)) (x1_10 : Int32) (x2_10 : Int32) (x3_10 : Int32) (T_10 : sOb) : Option (Int32 × sOb) :=
  if (2000 : Int32) < x3_10 then ((fX5_laysBack T_10).bind fun q67 => some (x2_10, q67)) else ((fX5_firstAlone T_10).bind fun q18 => nm (fun (y0_40 : Int32) => nm (x2_10 + y0_40) fun v41 => nm (fun (y0_53 : Int32) => (fX5_goesOn T_10).bind fun q55 => nm (x3_10 + (1 : Int32)) fun v60 => rc10 y0_53 v41 v60 q55.2) fun k53 => if q18 < 0 then (k53 x1_10) else (k53 q18)) fun k40 => nm (k40 (0 : Int32)) fun k39 => if q18 < 0 then k39 else (if q18 = x1_10 then k39 else (k40 (1 : Int32))))
def fX5_leaders (M : sOb) : Option (Int32 × sOb) :=
  (fX5_laysBy M).bind fun q1 => fx4 bX5_leaders_10 FU (-1 : Int32) (0 : Int32) (0 : Int32) q1
def rmX5_leaders : Room := { frames := 5, cells := 0, slots := 0, locals := 116 }
theorem qqX5_leaders : yX5_leaders.cls = RX5 ∧ yX5_leaders.cls ≠ "java/lang/invoke/MethodHandle" ∧ yX5_leaders.cls ≠ "java/lang/invoke/VarHandle" ∧ (parseMethodDescriptor yX5_leaders.desc).map (fun d => d.parameters.length) = some 0 := by decide +kernel
def bX5_passes_37 (a1 : Int32) (a2 : Int32) (k83 : Int32 → sOb → Option (Int32 × sOb)) (rc37 : Int32 → Int32 → sOb → Option (Int32 × sOb)) (x3_37 : Int32) (x4_37 : Int32) (T_37 : sOb) : Option (Int32 × sOb) :=
  if (2000 : Int32) < x4_37 then (k83 x3_37 T_37) else (if 0 ≤ x3_37 then (k83 x3_37 T_37) else ((fX5_is T_37 a1 (5 : Int32)).bind fun q52 => (fX5_is T_37 a2 (5 : Int32)).bind fun q58 => nm (fun (y0_70 : Int32) => (fX5_goesOn T_37).bind fun q72 => nm (x4_37 + (1 : Int32)) fun v77 => rc37 y0_70 v77 q72.2) fun k70 => if q52 ≤ q58 then (k70 (-1 : Int32)) else (k70 x4_37)))
def fX5_passes (M : sOb) (a1 : Int32) (a2 : Int32) : Option (Int32 × sOb) :=
  (fX5_isRunner M a1).bind fun q2 => if q2 = 0 then ((fX5_finds M (-1000000001 : Int32)).bind fun q24 => some (q24.1, q24.2)) else ((fX5_isRunner M a2).bind fun q10 => if q10 = 0 then ((fX5_finds M (-1000000001 : Int32)).bind fun q24 => some (q24.1, q24.2)) else (if a1 = a2 then ((fX5_finds M (-1000000001 : Int32)).bind fun q24 => some (q24.1, q24.2)) else ((fX5_laysBy M).bind fun q29 => nm (fun (x3_83 : Int32) (T_83 : sOb) => (fX5_laysBack T_83).bind fun q84 => (fX5_orNone q84 x3_83).bind fun q89 => some (q89.1, q89.2)) fun k83 => fx3 (bX5_passes_37 a1 a2 k83) FU (-1 : Int32) (0 : Int32) q29)))
def rmX5_passes : Room := { frames := 5, cells := 0, slots := 0, locals := 116 }
theorem qqX5_passes : yX5_passes.cls = RX5 ∧ yX5_passes.cls ≠ "java/lang/invoke/MethodHandle" ∧ yX5_passes.cls ≠ "java/lang/invoke/VarHandle" ∧ (parseMethodDescriptor yX5_passes.desc).map (fun d => d.parameters.length) = some 2 := by decide +kernel
def fX5_races (M : sOb) : Option (Int32 × sOb) :=
  (fX5_lines M).bind fun q1 => (fX5_goesToEnd q1).bind fun q5 => if q5.1 = 0 then (some ((-1 : Int32), q5.2)) else ((fX5_prizeOf q5.2 (q5.2.2.1 0 (3 : Int32).toNatClampNeg)).bind fun q18 => some (q18, q5.2))
def rmX5_races : Room := { frames := 6, cells := 0, slots := 0, locals := 138 }
theorem qqX5_races : yX5_races.cls = RX5 ∧ yX5_races.cls ≠ "java/lang/invoke/MethodHandle" ∧ yX5_races.cls ≠ "java/lang/invoke/VarHandle" ∧ (parseMethodDescriptor yX5_races.desc).map (fun d => d.parameters.length) = some 0 := by decide +kernel
def fX5_race (M : sOb) : Option (Int32 × sOb) :=
  (fX5_laysBy M).bind fun q1 => (fX5_races q1).bind fun q5 => (fX5_laysBack q5.2).bind fun q10 => (fX5_orNone q10 q5.1).bind fun q15 => some (q15.1, q15.2)
def rmX5_race : Room := { frames := 7, cells := 0, slots := 0, locals := 158 }
theorem qqX5_race : yX5_race.cls = RX5 ∧ yX5_race.cls ≠ "java/lang/invoke/MethodHandle" ∧ yX5_race.cls ≠ "java/lang/invoke/VarHandle" ∧ (parseMethodDescriptor yX5_race.desc).map (fun d => d.parameters.length) = some 0 := by decide +kernel
def fX5_hasIf (M : sOb) (a1 : Int32) (a2 : Int32) (a3 : Int32) : Option (Int32 × sOb) :=
  (fX5_laysBy M).bind fun q1 => (fX5_puts q1 a1 a2 a3).bind fun q8 => (fX5_races q8).bind fun q12 => nm (fun (y0_24 : Int32) => (fX5_laysBack q12.2).bind fun q27 => if ¬ (y0_24 = 0 ∨ y0_24 = 1) then none else some (y0_24, q27)) fun k24 => if q12.1 = a1 then (k24 (1 : Int32)) else (k24 (0 : Int32))
def rmX5_hasIf : Room := { frames := 7, cells := 0, slots := 0, locals := 158 }
theorem qqX5_hasIf : yX5_hasIf.cls = RX5 ∧ yX5_hasIf.cls ≠ "java/lang/invoke/MethodHandle" ∧ yX5_hasIf.cls ≠ "java/lang/invoke/VarHandle" ∧ (parseMethodDescriptor yX5_hasIf.desc).map (fun d => d.parameters.length) = some 3 := by decide +kernel
def bX5_pace_17 (a1 : Int32) (rc17 : Int32 → sOb → Option (Int32 × sOb)) (x2_17 : Int32) (T_17 : sOb) : Option (Int32 × sOb) :=
  if (12 : Int32) < x2_17 then ((fX5_finds T_17 (-1000000004 : Int32)).bind fun q44 => some (q44.1, q44.2)) else ((fX5_hasIf T_17 a1 (1 : Int32) x2_17).bind fun q27 => if q27.1 = 0 then (nm (x2_17 + (1 : Int32)) fun v35 => rc17 v35 q27.2) else (some (x2_17, q27.2)))
def fX5_pace (M : sOb) (a1 : Int32) : Option (Int32 × sOb) :=
  (fX5_isRunner M a1).bind fun q2 => if q2 = 0 then ((fX5_finds M (-1000000001 : Int32)).bind fun q11 => some (q11.1, q11.2)) else (fx2 (bX5_pace_17 a1) FU (1 : Int32) M)
def rmX5_pace : Room := { frames := 8, cells := 0, slots := 0, locals := 182 }
theorem qqX5_pace : yX5_pace.cls = RX5 ∧ yX5_pace.cls ≠ "java/lang/invoke/MethodHandle" ∧ yX5_pace.cls ≠ "java/lang/invoke/VarHandle" ∧ (parseMethodDescriptor yX5_pace.desc).map (fun d => d.parameters.length) = some 1 := by decide +kernel
def bX5_kind_17 (a1 : Int32) (rc17 : Int32 → sOb → Option (Int32 × sOb)) (x2_17 : Int32) (T_17 : sOb) : Option (Int32 × sOb) :=
  if (5 : Int32) < x2_17 then ((fX5_finds T_17 (-1000000004 : Int32)).bind fun q43 => some (q43.1, q43.2)) else ((fX5_hasIf T_17 a1 (0 : Int32) x2_17).bind fun q26 => if q26.1 = 0 then (nm (x2_17 + (1 : Int32)) fun v34 => rc17 v34 q26.2) else (some (x2_17, q26.2)))
def fX5_kind (M : sOb) (a1 : Int32) : Option (Int32 × sOb) :=
  (fX5_isRunner M a1).bind fun q2 => if q2 = 0 then ((fX5_finds M (-1000000001 : Int32)).bind fun q11 => some (q11.1, q11.2)) else (fx2 (bX5_kind_17 a1) FU (0 : Int32) M)
def rmX5_kind : Room := { frames := 8, cells := 0, slots := 0, locals := 182 }
theorem qqX5_kind : yX5_kind.cls = RX5 ∧ yX5_kind.cls ≠ "java/lang/invoke/MethodHandle" ∧ yX5_kind.cls ≠ "java/lang/invoke/VarHandle" ∧ (parseMethodDescriptor yX5_kind.desc).map (fun d => d.parameters.length) = some 1 := by decide +kernel
def bX5_start_17 (a1 : Int32) (rc17 : Int32 → sOb → Option (Int32 × sOb)) (x2_17 : Int32) (T_17 : sOb) : Option (Int32 × sOb) :=
  if (200 : Int32) < x2_17 then ((fX5_finds T_17 (-1000000004 : Int32)).bind fun q55 => some (q55.1, q55.2)) else (if (T_17.2.1 0 (1 : Int32).toNatClampNeg) ≤ x2_17 then ((fX5_finds T_17 (-1000000004 : Int32)).bind fun q55 => some (q55.1, q55.2)) else ((fX5_hasIf T_17 a1 (4 : Int32) x2_17).bind fun q38 => if q38.1 = 0 then (nm (x2_17 + (5 : Int32)) fun v46 => rc17 v46 q38.2) else (some (x2_17, q38.2))))
def fX5_start (M : sOb) (a1 : Int32) : Option (Int32 × sOb) :=
  (fX5_isRunner M a1).bind fun q2 => if q2 = 0 then ((fX5_finds M (-1000000001 : Int32)).bind fun q11 => some (q11.1, q11.2)) else (fx2 (bX5_start_17 a1) FU (0 : Int32) M)
def rmX5_start : Room := { frames := 8, cells := 0, slots := 0, locals := 182 }
theorem qqX5_start : yX5_start.cls = RX5 ∧ yX5_start.cls ≠ "java/lang/invoke/MethodHandle" ∧ yX5_start.cls ≠ "java/lang/invoke/VarHandle" ∧ (parseMethodDescriptor yX5_start.desc).map (fun d => d.parameters.length) = some 1 := by decide +kernel
def bX5_favours_38 (a1 : Int32) (q24 : Int32 × sOb) (k72 : Int32 → Option (Int32 × sOb)) (rc38 : Int32 → Int32 → Option (Int32 × sOb)) (x2_38 : Int32) (x3_38 : Int32) : Option (Int32 × sOb) :=
  if (4 : Int32) ≤ x3_38 then (k72 x2_38) else (if x2_38 < 0 then (k72 x2_38) else ((fX5_prizeOf q24.2 x3_38).bind fun q50 => if q50 = a1 then (nm (x2_38 ||| ((1 : Int32) <<< (x3_38 &&& 31))) fun v65 => nm (x3_38 + (1 : Int32)) fun v66 => rc38 v65 v66) else (nm (x2_38 ||| (0 : Int32)) fun v65 => nm (x3_38 + (1 : Int32)) fun v66 => rc38 v65 v66)))
def fX5_favours (M : sOb) (a1 : Int32) : Option (Int32 × sOb) :=
  (fX5_isRunner M a1).bind fun q2 => if q2 = 0 then ((fX5_finds M (-1000000001 : Int32)).bind fun q11 => some (q11.1, q11.2)) else ((fX5_laysBy M).bind fun q16 => (fX5_lines q16).bind fun q20 => (fX5_goesToEnd q20).bind fun q24 => nm (fun (y0_35 : Int32) => nm (fun (x2_72 : Int32) => (fX5_laysBack q24.2).bind fun q73 => (fX5_orNone q73 x2_72).bind fun q78 => some (q78.1, q78.2)) fun k72 => fx2 (bX5_favours_38 a1 q24 k72) FU y0_35 (0 : Int32)) fun k35 => if q24.1 = 0 then (k35 (-1 : Int32)) else (k35 (0 : Int32)))
def rmX5_favours : Room := { frames := 6, cells := 0, slots := 0, locals := 138 }
theorem qqX5_favours : yX5_favours.cls = RX5 ∧ yX5_favours.cls ≠ "java/lang/invoke/MethodHandle" ∧ yX5_favours.cls ≠ "java/lang/invoke/VarHandle" ∧ (parseMethodDescriptor yX5_favours.desc).map (fun d => d.parameters.length) = some 1 := by decide +kernel
def bX5_friend_17 (a1 : Int32) (rc17 : Int32 → sOb → Option (Int32 × sOb)) (x2_17 : Int32) (T_17 : sOb) : Option (Int32 × sOb) :=
  if (T_17.2.1 0 (0 : Int32).toNatClampNeg) ≤ x2_17 then ((fX5_finds T_17 (-1000000004 : Int32)).bind fun q53 => some (q53.1, q53.2)) else (if x2_17 = a1 then (nm (x2_17 + (1 : Int32)) fun v44 => rc17 v44 T_17) else ((fX5_hasIf T_17 a1 (3 : Int32) x2_17).bind fun q36 => if q36.1 = 0 then (nm (x2_17 + (1 : Int32)) fun v44 => rc17 v44 q36.2) else (some (x2_17, q36.2))))
def fX5_friend (M : sOb) (a1 : Int32) : Option (Int32 × sOb) :=
  (fX5_isRunner M a1).bind fun q2 => if q2 = 0 then ((fX5_finds M (-1000000001 : Int32)).bind fun q11 => some (q11.1, q11.2)) else (fx2 (bX5_friend_17 a1) FU (-1 : Int32) M)
def rmX5_friend : Room := { frames := 8, cells := 0, slots := 0, locals := 182 }
theorem qqX5_friend : yX5_friend.cls = RX5 ∧ yX5_friend.cls ≠ "java/lang/invoke/MethodHandle" ∧ yX5_friend.cls ≠ "java/lang/invoke/VarHandle" ∧ (parseMethodDescriptor yX5_friend.desc).map (fun d => d.parameters.length) = some 1 := by decide +kernel
def fX5_prizeIf (M : sOb) (a1 : Int32) (a2 : Int32) : Option (Int32 × sOb) :=
  (fX5_laysBy M).bind fun q1 => if (((5 : Int32) + ((8 : Int32) * a2)) + (1 : Int32)) < 0 ∨ 77 ≤ (((5 : Int32) + ((8 : Int32) * a2)) + (1 : Int32)).toNatClampNeg then none else (fX5_puts q1 a1 (1 : Int32) (q1.2.1 2 (((5 : Int32) + ((8 : Int32) * a2)) + (1 : Int32)).toNatClampNeg)).bind fun q20 => if (((5 : Int32) + ((8 : Int32) * a1)) + (1 : Int32)) < 0 ∨ 77 ≤ (((5 : Int32) + ((8 : Int32) * a1)) + (1 : Int32)).toNatClampNeg then none else (fX5_puts q20 a2 (1 : Int32) (q20.2.1 2 (((5 : Int32) + ((8 : Int32) * a1)) + (1 : Int32)).toNatClampNeg)).bind fun q39 => (fX5_races q39).bind fun q43 => (fX5_laysBack q43.2).bind fun q48 => some (q43.1, q48)
def rmX5_prizeIf : Room := { frames := 7, cells := 0, slots := 0, locals := 158 }
theorem qqX5_prizeIf : yX5_prizeIf.cls = RX5 ∧ yX5_prizeIf.cls ≠ "java/lang/invoke/MethodHandle" ∧ yX5_prizeIf.cls ≠ "java/lang/invoke/VarHandle" ∧ (parseMethodDescriptor yX5_prizeIf.desc).map (fun d => d.parameters.length) = some 2 := by decide +kernel
def bX5_deal_33 (q5 : Int32 × sOb) (rc15 : Int32 → sOb → Option (Int32 × sOb)) (x2_15 : Int32) (rc33 : Int32 → sOb → Option (Int32 × sOb)) (x3_33 : Int32) (T_33 : sOb) : Option (Int32 × sOb) :=
  if (T_33.2.1 0 (0 : Int32).toNatClampNeg) ≤ x3_33 then (nm (x2_15 + (1 : Int32)) fun v75 => rc15 v75 T_33) else ((fX5_prizeIf T_33 x2_15 x3_33).bind fun q46 => if q46.1 < 0 then (nm (x3_33 + (1 : Int32)) fun v69 => rc33 v69 q46.2) else (if q46.1 = q5.1 then (nm (x3_33 + (1 : Int32)) fun v69 => rc33 v69 q46.2) else (some ((((10 : Int32) * x2_15) + x3_33), q46.2))))
def bX5_deal_15 (q5 : Int32 × sOb) (rc15 : Int32 → sOb → Option (Int32 × sOb)) (x2_15 : Int32) (T_15 : sOb) : Option (Int32 × sOb) :=
  if (T_15.2.1 0 (0 : Int32).toNatClampNeg) ≤ x2_15 then ((fX5_finds T_15 (-1000000004 : Int32)).bind fun q84 => some (q84.1, q84.2)) else (if q5.1 < 0 then ((fX5_finds T_15 (-1000000004 : Int32)).bind fun q84 => some (q84.1, q84.2)) else (nm (x2_15 + (1 : Int32)) fun v32 => fx2 (bX5_deal_33 q5 rc15 x2_15) FU v32 T_15))
def fX5_deal (M : sOb) : Option (Int32 × sOb) :=
  (fX5_laysBy M).bind fun q1 => (fX5_races q1).bind fun q5 => (fX5_laysBack q5.2).bind fun q10 => fx2 (bX5_deal_15 q5) FU (0 : Int32) q10
def rmX5_deal : Room := { frames := 8, cells := 0, slots := 0, locals := 181 }
theorem qqX5_deal : yX5_deal.cls = RX5 ∧ yX5_deal.cls ≠ "java/lang/invoke/MethodHandle" ∧ yX5_deal.cls ≠ "java/lang/invoke/VarHandle" ∧ (parseMethodDescriptor yX5_deal.desc).map (fun d => d.parameters.length) = some 0 := by decide +kernel
def bX5_fair_47 (x1_45 : Int32) (rc47 : Int32 → sOb → Option (Int32 × sOb)) (x2_47 : Int32) (T_47 : sOb) : Option (Int32 × sOb) :=
  if (5 : Int32) < x2_47 then ((fX5_finds T_47 (-1000000004 : Int32)).bind fun q100 => some (q100.1, q100.2)) else (if x1_45 < 0 then ((fX5_finds T_47 (-1000000004 : Int32)).bind fun q100 => some (q100.1, q100.2)) else ((fX5_laysBy T_47).bind fun q57 => nm (sSa q57 0 (2 : Int32).toNatClampNeg x2_47) fun M66 => (fX5_races M66).bind fun q68 => nm (fun (y0_80 : Int32) => (fX5_laysBack q68.2).bind fun q82 => if y0_80 = 0 then (nm (x2_47 + (1 : Int32)) fun v91 => rc47 v91 q82) else (some (x2_47, q82))) fun k80 => if q68.1 = x1_45 then (k80 (1 : Int32)) else (k80 (0 : Int32))))
def bX5_fair_4 (M : sOb) (k45 : Int32 → Option (Int32 × sOb)) (rc4 : Int32 → Int32 → Option (Int32 × sOb)) (x1_4 : Int32) (x2_4 : Int32) : Option (Int32 × sOb) :=
  if (M.2.1 0 (0 : Int32).toNatClampNeg) ≤ x2_4 then (k45 x1_4) else (if x1_4 < 0 then (nm (x2_4 + (1 : Int32)) fun v39 => rc4 x2_4 v39) else ((fX5_is M x2_4 (1 : Int32)).bind fun q21 => (fX5_is M x1_4 (1 : Int32)).bind fun q27 => if q21 ≤ q27 then (nm (x2_4 + (1 : Int32)) fun v39 => rc4 x1_4 v39) else (nm (x2_4 + (1 : Int32)) fun v39 => rc4 x2_4 v39)))
def fX5_fair (M : sOb) : Option (Int32 × sOb) :=
  nm (fun (x1_45 : Int32) => fx2 (bX5_fair_47 x1_45) FU (0 : Int32) M) fun k45 => fx2 (bX5_fair_4 M k45) FU (-1 : Int32) (0 : Int32)
def rmX5_fair : Room := { frames := 7, cells := 0, slots := 0, locals := 158 }
theorem qqX5_fair : yX5_fair.cls = RX5 ∧ yX5_fair.cls ≠ "java/lang/invoke/MethodHandle" ∧ yX5_fair.cls ≠ "java/lang/invoke/VarHandle" ∧ (parseMethodDescriptor yX5_fair.desc).map (fun d => d.parameters.length) = some 0 := by decide +kernel
def bX5_odds_49 (k94 : Int32 → sOb → Option (Int32 × sOb)) (rc49 : Int32 → Int32 → sOb → Option (Int32 × sOb)) (x4_49 : Int32) (x7_49 : Int32) (T_49 : sOb) : Option (Int32 × sOb) :=
  if (T_49.2.1 0 (0 : Int32).toNatClampNeg) ≤ x7_49 then (k94 x4_49 T_49) else (nm ((x4_49 * (1103515245 : Int32)) + (12345 : Int32)) fun v69 => (fX5_puts T_49 x7_49 (1 : Int32) ((1 : Int32) + ((v69.toUInt32 >>> ((8 : Int32).toUInt32 &&& Int32.toUInt32 31)).toInt32 - (v69.toUInt32 >>> ((8 : Int32).toUInt32 &&& Int32.toUInt32 31)).toInt32 / (12 : Int32) * (12 : Int32)))).bind fun q85 => nm (x7_49 + (1 : Int32)) fun v88 => rc49 v69 v88 q85)
def bX5_odds_40 (a1 : Int32) (a2 : Int32) (rc40 : Int32 → Int32 → Int32 → sOb → Option (Int32 × sOb)) (x4_40 : Int32) (x5_40 : Int32) (x6_40 : Int32) (T_40 : sOb) : Option (Int32 × sOb) :=
  if a2 ≤ x6_40 then (some (x5_40, T_40)) else (nm (fun (x4_94 : Int32) (T_94 : sOb) => (fX5_races T_94).bind fun q97 => nm (fun (y0_109 : Int32) => nm (x5_40 + y0_109) fun v110 => (fX5_laysBack q97.2).bind fun q113 => nm (x6_40 + (1 : Int32)) fun v116 => rc40 x4_94 v110 v116 q113) fun k109 => if q97.1 = a1 then (k109 (1 : Int32)) else (k109 (0 : Int32))) fun k94 => fx3 (bX5_odds_49 k94) FU x4_40 (0 : Int32) T_40)
def fX5_odds (M : sOb) (a1 : Int32) (a2 : Int32) (a3 : Int32) : Option (Int32 × sOb) :=
  (fX5_isRunner M a1).bind fun q2 => if q2 = 0 then ((fX5_finds M (-1000000001 : Int32)).bind fun q23 => some (q23.1, q23.2)) else ((fX5_isIn a2.toInt64 (1 : Int64) (20 : Int64)).bind fun q14 => if q14 = 0 then ((fX5_finds M (-1000000001 : Int32)).bind fun q23 => some (q23.1, q23.2)) else ((fX5_laysBy M).bind fun q34 => fx4 (bX5_odds_40 a1 a2) FU a3 (0 : Int32) (0 : Int32) q34))
def rmX5_odds : Room := { frames := 7, cells := 0, slots := 0, locals := 158 }
theorem qqX5_odds : yX5_odds.cls = RX5 ∧ yX5_odds.cls ≠ "java/lang/invoke/MethodHandle" ∧ yX5_odds.cls ≠ "java/lang/invoke/VarHandle" ∧ (parseMethodDescriptor yX5_odds.desc).map (fun d => d.parameters.length) = some 3 := by decide +kernel
def bX5_unwilling_12 (rc12 : Int32 → Int32 → sOb → Option (Int32 × sOb)) (x1_12 : Int32) (x2_12 : Int32) (T_12 : sOb) : Option (Int32 × sOb) :=
  if (2000 : Int32) ≤ x2_12 then ((fX5_laysBack T_12).bind fun q108 => some (x1_12, q108)) else ((fX5_homeMany T_12).bind fun q20 => if (T_12.2.1 0 (0 : Int32).toNatClampNeg) ≤ q20 then ((fX5_laysBack T_12).bind fun q108 => some (x1_12, q108)) else ((fX5_firstAlone T_12).bind fun q33 => nm (fun (y0_63 : Int32) => (fX5_goesOn T_12).bind fun q66 => if y0_63 = 0 then (nm (x1_12 ||| (0 : Int32)) fun v100 => nm (x2_12 + (1 : Int32)) fun v101 => rc12 v100 v101 q66.2) else (if q33 < 0 ∨ 9 ≤ q33.toNatClampNeg then none else (fX5_is q66.2 q33 (1 : Int32)).bind fun q86 => if q86 ≤ (q66.2.2.1 7 q33.toNatClampNeg) then (nm (x1_12 ||| (0 : Int32)) fun v100 => nm (x2_12 + (1 : Int32)) fun v101 => rc12 v100 v101 q66.2) else (nm (x1_12 ||| ((1 : Int32) <<< (q33 &&& 31))) fun v100 => nm (x2_12 + (1 : Int32)) fun v101 => rc12 v100 v101 q66.2))) fun k63 => nm (k63 (0 : Int32)) fun k62 => if q33 < 0 then k62 else ((fX5_is T_12 q33 (2 : Int32)).bind fun q44 => (fX5_is T_12 q33 (1 : Int32)).bind fun q50 => if q44 < (q50 - (4 : Int32)) then k62 else (k63 (1 : Int32)))))
def fX5_unwilling (M : sOb) : Option (Int32 × sOb) :=
  (fX5_laysBy M).bind fun q1 => (fX5_lines q1).bind fun q5 => fx3 bX5_unwilling_12 FU (0 : Int32) (0 : Int32) q5
def rmX5_unwilling : Room := { frames := 5, cells := 0, slots := 0, locals := 116 }
theorem qqX5_unwilling : yX5_unwilling.cls = RX5 ∧ yX5_unwilling.cls ≠ "java/lang/invoke/MethodHandle" ∧ yX5_unwilling.cls ≠ "java/lang/invoke/VarHandle" ∧ (parseMethodDescriptor yX5_unwilling.desc).map (fun d => d.parameters.length) = some 0 := by decide +kernel
def bX5_feed_41 (a1 : Int32) (rc41 : Int32 → sOb → Option (Int32 × sOb)) (x3_41 : Int32) (T_41 : sOb) : Option (Int32 × sOb) :=
  if x3_41 < 0 then (some ((T_41.1 1), T_41)) else (if (T_41.1 1) < 0 ∨ 120 ≤ (T_41.1 1).toNatClampNeg then none else nm (sSa T_41 4 (T_41.1 1).toNatClampNeg ((a1 >>> (((8 : Int32) * x3_41) &&& 31)) &&& (255 : Int32))) fun M63 => nm (sSs M63 1 ((M63.1 1) + (1 : Int32))) fun M71 => nm (x3_41 + (-1 : Int32)) fun v74 => rc41 v74 M71)
def fX5_feed (M : sOb) (a1 : Int32) (a2 : Int32) : Option (Int32 × sOb) :=
  (fX5_isIn a2.toInt64 (1 : Int64) (4 : Int64)).bind fun q6 => if q6 = 0 then ((fX5_finds M (-1000000001 : Int32)).bind fun q15 => some (q15.1, q15.2)) else (if ((M.1 1) + a2) ≤ (120 : Int32) then (nm (a2 - (1 : Int32)) fun v40 => fx2 (bX5_feed_41 a1) FU v40 M) else ((fX5_finds M (-1000000002 : Int32)).bind fun q33 => some (q33.1, q33.2)))
def rmX5_feed : Room := { frames := 1, cells := 0, slots := 0, locals := 25 }
theorem qqX5_feed : yX5_feed.cls = RX5 ∧ yX5_feed.cls ≠ "java/lang/invoke/MethodHandle" ∧ yX5_feed.cls ≠ "java/lang/invoke/VarHandle" ∧ (parseMethodDescriptor yX5_feed.desc).map (fun d => d.parameters.length) = some 2 := by decide +kernel
def fX5_wipe (M : sOb) : Option (Int32 × sOb) :=
  nm (M.1 1) fun v4 => nm (sSs M 1 (0 : Int32)) fun M7 => some (v4, M7)
def rmX5_wipe : Room := { frames := 0, cells := 0, slots := 0, locals := 0 }
theorem qqX5_wipe : yX5_wipe.cls = RX5 ∧ yX5_wipe.cls ≠ "java/lang/invoke/MethodHandle" ∧ yX5_wipe.cls ≠ "java/lang/invoke/VarHandle" ∧ (parseMethodDescriptor yX5_wipe.desc).map (fun d => d.parameters.length) = some 0 := by decide +kernel
def fX5_isLetter (a0 : Int32) : Option Int32 :=
  if a0 < (97 : Int32) then (some (0 : Int32)) else (if (122 : Int32) < a0 then (some (0 : Int32)) else (some (1 : Int32)))
def rmX5_isLetter : Room := { frames := 0, cells := 0, slots := 0, locals := 0 }
theorem qqX5_isLetter : yX5_isLetter.cls ≠ "java/lang/invoke/MethodHandle" ∧ yX5_isLetter.cls ≠ "java/lang/invoke/VarHandle" ∧ (parseMethodDescriptor yX5_isLetter.desc).map (fun d => d.parameters.length) = some 1 := by decide +kernel
def fX5_isDigit (a0 : Int32) : Option Int32 :=
  if a0 < (48 : Int32) then (some (0 : Int32)) else (if (57 : Int32) < a0 then (some (0 : Int32)) else (some (1 : Int32)))
def rmX5_isDigit : Room := { frames := 0, cells := 0, slots := 0, locals := 0 }
theorem qqX5_isDigit : yX5_isDigit.cls ≠ "java/lang/invoke/MethodHandle" ∧ yX5_isDigit.cls ≠ "java/lang/invoke/VarHandle" ∧ (parseMethodDescriptor yX5_isDigit.desc).map (fun d => d.parameters.length) = some 1 := by decide +kernel
def fX5_byteAt (M : sOb) (a1 : Int32) : Option Int32 :=
  if (M.1 1) ≤ a1 then (some (-1 : Int32)) else (if a1 < 0 ∨ 120 ≤ a1.toNatClampNeg then none else some (M.2.1 4 a1.toNatClampNeg))
def rmX5_byteAt : Room := { frames := 0, cells := 0, slots := 0, locals := 0 }
theorem qqX5_byteAt : yX5_byteAt.cls = RX5 ∧ yX5_byteAt.cls ≠ "java/lang/invoke/MethodHandle" ∧ yX5_byteAt.cls ≠ "java/lang/invoke/VarHandle" ∧ (parseMethodDescriptor yX5_byteAt.desc).map (fun d => d.parameters.length) = some 1 := by decide +kernel
def bX5_nextToken_136 (T_136 : sOb) (k211 : sOb → Option sOb) (rc136 : sOb → Option sOb) (T_136 : sOb) : Option sOb :=
  if (T_136.1 2) = (2 : Int32) then ((fX5_byteAt T_136 (T_136.1 4)).bind fun q149 => (fX5_isDigit q149).bind fun q152 => if q152 = 0 then (k211 T_136) else (if (T_136.1 5) ≤ (9999 : Int32) then ((fX5_byteAt T_136 (T_136.1 4)).bind fun q188 => nm (sSs T_136 5 ((((10 : Int32) * (T_136.1 5)) + q188) - (48 : Int32))) fun M195 => nm (sSs M195 4 ((M195.1 4) + (1 : Int32))) fun M205 => rc136 M205) else (nm (sSs T_136 5 (T_136.1 5)) fun M195 => nm (sSs M195 4 ((M195.1 4) + (1 : Int32))) fun M205 => rc136 M205))) else (k211 T_136)
def bX5_nextToken_101 (k136 : sOb → Option sOb) (rc101 : sOb → Option sOb) (T_101 : sOb) : Option sOb :=
  if (T_101.1 2) = (1 : Int32) then ((fX5_byteAt T_101 (T_101.1 4)).bind fun q114 => (fX5_isLetter q114).bind fun q117 => if q117 = 0 then (k136 T_101) else (nm (sSs T_101 4 ((T_101.1 4) + (1 : Int32))) fun M130 => rc101 M130)) else (k136 T_101)
def bX5_nextToken_8 (k34 : sOb → Option sOb) (rc8 : sOb → Option sOb) (T_8 : sOb) : Option sOb :=
  (fX5_byteAt T_8 (T_8.1 3)).bind fun q13 => if q13 = (32 : Int32) then (nm (sSs T_8 3 ((T_8.1 3) + (1 : Int32))) fun M28 => rc8 M28) else (k34 T_8)
def fX5_nextToken (M : sOb) : Option sOb :=
  nm (sSs M 3 (M.1 4)) fun M5 => nm (fun (T_34 : sOb) => nm (sSs T_34 4 (T_34.1 3)) fun M39 => (fX5_byteAt M39 (M39.1 3)).bind fun q47 => nm (fun (y0_93 : Int32) => nm (sSs M39 2 y0_93) fun M93 => nm (sSs M93 5 (0 : Int32)) fun M98 => nm (fun (T_136 : sOb) => nm (fun (T_211 : sOb) => if (T_211.1 2) ≤ (2 : Int32) then (nm (sSs T_211 4 ((T_211.1 4) + (0 : Int32))) fun M230 => some M230) else (nm (sSs T_211 4 ((T_211.1 4) + (1 : Int32))) fun M230 => some M230)) fun k211 => fx1 (bX5_nextToken_136 T_136 k211) FU T_136) fun k136 => fx1 (bX5_nextToken_101 k136) FU M98) fun k93 => if 0 ≤ q47 then ((fX5_isLetter q47).bind fun q61 => if q61 = 0 then ((fX5_isDigit q47).bind fun q72 => if q72 = 0 then (if q47 = (59 : Int32) then (k93 (3 : Int32)) else (k93 (4 : Int32))) else (k93 (2 : Int32))) else (k93 (1 : Int32))) else (k93 (0 : Int32))) fun k34 => fx1 (bX5_nextToken_8 k34) FU M5
def rmX5_nextToken : Room := { frames := 1, cells := 0, slots := 0, locals := 21 }
theorem qqX5_nextToken : yX5_nextToken.cls = RX5 ∧ yX5_nextToken.cls ≠ "java/lang/invoke/MethodHandle" ∧ yX5_nextToken.cls ≠ "java/lang/invoke/VarHandle" ∧ (parseMethodDescriptor yX5_nextToken.desc).map (fun d => d.parameters.length) = some 0 := by decide +kernel
def fX5_has3 (M : sOb) (a1 : Int32) (a2 : Int32) (a3 : Int32) (a4 : Int32) : Option Int32 :=
  (fX5_byteAt M ((M.1 3) + a1)).bind fun q7 => if q7 = a2 then ((fX5_byteAt M (((M.1 3) + a1) + (1 : Int32))).bind fun q23 => if q23 = a3 then ((fX5_byteAt M (((M.1 3) + a1) + (2 : Int32))).bind fun q39 => if q39 = a4 then (some (1 : Int32)) else (some (0 : Int32))) else (some (0 : Int32))) else (some (0 : Int32))
def rmX5_has3 : Room := { frames := 1, cells := 0, slots := 0, locals := 21 }
theorem qqX5_has3 : yX5_has3.cls = RX5 ∧ yX5_has3.cls ≠ "java/lang/invoke/MethodHandle" ∧ yX5_has3.cls ≠ "java/lang/invoke/VarHandle" ∧ (parseMethodDescriptor yX5_has3.desc).map (fun d => d.parameters.length) = some 4 := by decide +kernel
def fX5_isWord (M : sOb) (a1 : Int32) : Option Int32 :=
  if (M.1 2) = (1 : Int32) then (if ((M.1 4) - (M.1 3)) = a1 then (some (1 : Int32)) else (some (0 : Int32))) else (some (0 : Int32))
def rmX5_isWord : Room := { frames := 0, cells := 0, slots := 0, locals := 0 }
theorem qqX5_isWord : yX5_isWord.cls = RX5 ∧ yX5_isWord.cls ≠ "java/lang/invoke/MethodHandle" ∧ yX5_isWord.cls ≠ "java/lang/invoke/VarHandle" ∧ (parseMethodDescriptor yX5_isWord.desc).map (fun d => d.parameters.length) = some 1 := by decide +kernel
def fX5_kindNamed (M : sOb) : Option Int32 :=
  (fX5_isWord M (6 : Int32)).bind fun q3 => nm ((fX5_isWord M (6 : Int32)).bind fun q42 => nm ((fX5_isWord M (6 : Int32)).bind fun q81 => nm ((fX5_isWord M (6 : Int32)).bind fun q120 => nm ((fX5_isWord M (8 : Int32)).bind fun q159 => nm ((fX5_isWord M (5 : Int32)).bind fun q211 => if q211 = 0 then (some (-1 : Int32)) else ((fX5_has3 M (0 : Int32) (105 : Int32) (100 : Int32) (108 : Int32)).bind fun q225 => if q225 = 0 then (some (-1 : Int32)) else ((fX5_has3 M (2 : Int32) (108 : Int32) (101 : Int32) (114 : Int32)).bind fun q239 => if q239 = 0 then (some (-1 : Int32)) else (some (5 : Int32))))) fun k209 => if q159 = 0 then k209 else ((fX5_has3 M (0 : Int32) (115 : Int32) (112 : Int32) (114 : Int32)).bind fun q173 => if q173 = 0 then k209 else ((fX5_has3 M (3 : Int32) (105 : Int32) (110 : Int32) (116 : Int32)).bind fun q187 => if q187 = 0 then k209 else ((fX5_has3 M (5 : Int32) (116 : Int32) (101 : Int32) (114 : Int32)).bind fun q201 => if q201 = 0 then k209 else (some (4 : Int32)))))) fun k156 => if q120 = 0 then k156 else ((fX5_has3 M (0 : Int32) (104 : Int32) (101 : Int32) (108 : Int32)).bind fun q134 => if q134 = 0 then k156 else ((fX5_has3 M (3 : Int32) (112 : Int32) (101 : Int32) (114 : Int32)).bind fun q148 => if q148 = 0 then k156 else (some (3 : Int32))))) fun k117 => if q81 = 0 then k117 else ((fX5_has3 M (0 : Int32) (107 : Int32) (101 : Int32) (101 : Int32)).bind fun q95 => if q95 = 0 then k117 else ((fX5_has3 M (3 : Int32) (112 : Int32) (101 : Int32) (114 : Int32)).bind fun q109 => if q109 = 0 then k117 else (some (2 : Int32))))) fun k78 => if q42 = 0 then k78 else ((fX5_has3 M (0 : Int32) (104 : Int32) (111 : Int32) (108 : Int32)).bind fun q56 => if q56 = 0 then k78 else ((fX5_has3 M (3 : Int32) (100 : Int32) (101 : Int32) (114 : Int32)).bind fun q70 => if q70 = 0 then k78 else (some (1 : Int32))))) fun k39 => if q3 = 0 then k39 else ((fX5_has3 M (0 : Int32) (114 : Int32) (117 : Int32) (110 : Int32)).bind fun q17 => if q17 = 0 then k39 else ((fX5_has3 M (3 : Int32) (110 : Int32) (101 : Int32) (114 : Int32)).bind fun q31 => if q31 = 0 then k39 else (some (0 : Int32))))
def rmX5_kindNamed : Room := { frames := 2, cells := 0, slots := 0, locals := 45 }
theorem qqX5_kindNamed : yX5_kindNamed.cls = RX5 ∧ yX5_kindNamed.cls ≠ "java/lang/invoke/MethodHandle" ∧ yX5_kindNamed.cls ≠ "java/lang/invoke/VarHandle" ∧ (parseMethodDescriptor yX5_kindNamed.desc).map (fun d => d.parameters.length) = some 0 := by decide +kernel
def fX5_letNamed (M : sOb) : Option Int32 :=
  (fX5_isWord M (6 : Int32)).bind fun q3 => nm ((fX5_isWord M (5 : Int32)).bind fun q41 => nm ((fX5_isWord M (3 : Int32)).bind fun q79 => if q79 = 0 then (some (-1 : Int32)) else ((fX5_has3 M (0 : Int32) (108 : Int32) (97 : Int32) (119 : Int32)).bind fun q93 => if q93 = 0 then (some (-1 : Int32)) else (some (2 : Int32)))) fun k77 => if q41 = 0 then k77 else ((fX5_has3 M (0 : Int32) (108 : Int32) (101 : Int32) (97 : Int32)).bind fun q55 => if q55 = 0 then k77 else ((fX5_has3 M (2 : Int32) (97 : Int32) (115 : Int32) (116 : Int32)).bind fun q69 => if q69 = 0 then k77 else (some (1 : Int32))))) fun k39 => if q3 = 0 then k39 else ((fX5_has3 M (0 : Int32) (108 : Int32) (101 : Int32) (110 : Int32)).bind fun q17 => if q17 = 0 then k39 else ((fX5_has3 M (3 : Int32) (103 : Int32) (116 : Int32) (104 : Int32)).bind fun q31 => if q31 = 0 then k39 else (some (0 : Int32))))
def rmX5_letNamed : Room := { frames := 2, cells := 0, slots := 0, locals := 45 }
theorem qqX5_letNamed : yX5_letNamed.cls = RX5 ∧ yX5_letNamed.cls ≠ "java/lang/invoke/MethodHandle" ∧ yX5_letNamed.cls ≠ "java/lang/invoke/VarHandle" ∧ (parseMethodDescriptor yX5_letNamed.desc).map (fun d => d.parameters.length) = some 0 := by decide +kernel
def fX5_isNumber (M : sOb) (a1 : Int32) (a2 : Int32) : Option Int32 :=
  if (M.1 2) = (2 : Int32) then ((fX5_isIn ((M.1 5).toInt64) a1.toInt64 a2.toInt64).bind fun q17 => if q17 = 0 then (some (0 : Int32)) else (some (1 : Int32))) else (some (0 : Int32))
def rmX5_isNumber : Room := { frames := 1, cells := 0, slots := 0, locals := 25 }
theorem qqX5_isNumber : yX5_isNumber.cls = RX5 ∧ yX5_isNumber.cls ≠ "java/lang/invoke/MethodHandle" ∧ yX5_isNumber.cls ≠ "java/lang/invoke/VarHandle" ∧ (parseMethodDescriptor yX5_isNumber.desc).map (fun d => d.parameters.length) = some 2 := by decide +kernel
def fX5_mayCome (M : sOb) (a1 : Int32) (a2 : Int32) (a3 : Int32) : Option (Int32 × sOb) :=
  if a1 = 0 then (some ((0 : Int32), M)) else ((fX5_nextToken M).bind fun q7 => (fX5_isNumber q7 a2 a3).bind fun q13 => if q13 = 0 then (some ((-1 : Int32), q7)) else (some ((1 : Int32), q7)))
def rmX5_mayCome : Room := { frames := 2, cells := 0, slots := 0, locals := 47 }
theorem qqX5_mayCome : yX5_mayCome.cls = RX5 ∧ yX5_mayCome.cls ≠ "java/lang/invoke/MethodHandle" ∧ yX5_mayCome.cls ≠ "java/lang/invoke/VarHandle" ∧ (parseMethodDescriptor yX5_mayCome.desc).map (fun d => d.parameters.length) = some 3 := by decide +kernel
def fX5_goesRunner (M : sOb) (a1 : Int32) : Option (Int32 × sOb) :=
  if (M.2.1 0 (0 : Int32).toNatClampNeg) = (9 : Int32) then (some ((0 : Int32), M)) else ((fX5_nextToken M).bind fun q14 => (fX5_isWord q14 (4 : Int32)).bind fun q19 => if q19 = 0 then (some ((0 : Int32), q14)) else ((fX5_has3 q14 (0 : Int32) (112 : Int32) (97 : Int32) (99 : Int32)).bind fun q33 => if q33 = 0 then (some ((0 : Int32), q14)) else ((fX5_has3 q14 (1 : Int32) (97 : Int32) (99 : Int32) (101 : Int32)).bind fun q47 => if q47 = 0 then (some ((0 : Int32), q14)) else ((fX5_nextToken q14).bind fun q56 => (fX5_isNumber q56 (1 : Int32) (12 : Int32)).bind fun q63 => if q63 = 0 then (some ((0 : Int32), q56)) else ((fX5_comes q56 a1 (q56.1 5)).bind fun q77 => (fX5_nextToken q77.2).bind fun q82 => (fX5_isWord q82 (6 : Int32)).bind fun q89 => nm (fun (y0_128 : Int32) => (fX5_mayCome q82 y0_128 (0 : Int32) (999 : Int32)).bind fun q132 => nm (fun (T_154 : sOb) => nm (fun (y0_212 : Int32) (T_212 : sOb) => nm (fun (T_231 : sOb) => nm (fun (y0_293 : Int32) (T_293 : sOb) => nm (fun (T_322 : sOb) => if y0_293 < 0 then (some ((0 : Int32), T_322)) else (some ((1 : Int32), T_322))) fun k322 => if y0_293 ≤ 0 then (k322 T_293) else ((fX5_puts T_293 q77.1 (4 : Int32) (T_293.1 5)).bind fun q305 => (fX5_puts q305 q77.1 (5 : Int32) (q305.1 5)).bind fun q315 => (fX5_nextToken q315).bind fun q319 => k322 q319)) fun k293 => if 0 ≤ y0_212 then ((fX5_isWord T_231 (5 : Int32)).bind fun q242 => nm (fun (y0_281 : Int32) => (fX5_mayCome T_231 y0_281 (0 : Int32) ((T_231.2.1 0 (1 : Int32).toNatClampNeg) - (1 : Int32))).bind fun q290 => k293 q290.1 q290.2) fun k281 => nm (k281 (0 : Int32)) fun k280 => if q242 = 0 then k280 else ((fX5_has3 T_231 (0 : Int32) (115 : Int32) (116 : Int32) (97 : Int32)).bind fun q256 => if q256 = 0 then k280 else ((fX5_has3 T_231 (2 : Int32) (97 : Int32) (114 : Int32) (116 : Int32)).bind fun q270 => if q270 = 0 then k280 else (k281 (1 : Int32))))) else (k293 (-1 : Int32) T_231)) fun k231 => if y0_212 ≤ 0 then (k231 T_212) else ((fX5_puts T_212 q77.1 (3 : Int32) (T_212.1 5)).bind fun q224 => (fX5_nextToken q224).bind fun q228 => k231 q228)) fun k212 => if 0 ≤ q132.1 then ((fX5_isWord T_154 (6 : Int32)).bind fun q166 => nm (fun (y0_205 : Int32) => (fX5_mayCome T_154 y0_205 (0 : Int32) (q77.1 - (1 : Int32))).bind fun q209 => k212 q209.1 q209.2) fun k205 => nm (k205 (0 : Int32)) fun k204 => if q166 = 0 then k204 else ((fX5_has3 T_154 (0 : Int32) (102 : Int32) (114 : Int32) (105 : Int32)).bind fun q180 => if q180 = 0 then k204 else ((fX5_has3 T_154 (3 : Int32) (101 : Int32) (110 : Int32) (100 : Int32)).bind fun q194 => if q194 = 0 then k204 else (k205 (1 : Int32))))) else (k212 (-1 : Int32) T_154)) fun k154 => if q132.1 ≤ 0 then (k154 q132.2) else ((fX5_puts q132.2 q77.1 (2 : Int32) (q132.2.1 5)).bind fun q147 => (fX5_nextToken q147).bind fun q151 => k154 q151)) fun k128 => nm (k128 (0 : Int32)) fun k127 => if q89 = 0 then k127 else ((fX5_has3 q82 (0 : Int32) (98 : Int32) (114 : Int32) (101 : Int32)).bind fun q103 => if q103 = 0 then k127 else ((fX5_has3 q82 (3 : Int32) (97 : Int32) (116 : Int32) (104 : Int32)).bind fun q117 => if q117 = 0 then k127 else (k128 (1 : Int32)))))))))
def rmX5_goesRunner : Room := { frames := 3, cells := 0, slots := 0, locals := 70 }
theorem qqX5_goesRunner : yX5_goesRunner.cls = RX5 ∧ yX5_goesRunner.cls ≠ "java/lang/invoke/MethodHandle" ∧ yX5_goesRunner.cls ≠ "java/lang/invoke/VarHandle" ∧ (parseMethodDescriptor yX5_goesRunner.desc).map (fun d => d.parameters.length) = some 1 := by decide +kernel
def fX5_goesLet (M : sOb) (a1 : Int32) : Option (Int32 × sOb) :=
  nm ((fX5_nextToken M).bind fun q16 => (fX5_leastOf a1).bind fun q21 => (fX5_mostOf a1).bind fun q25 => (fX5_isNumber q16 q21 q25).bind fun q28 => if q28 = 0 then (some ((0 : Int32), q16)) else (if ((1 : Int32) + a1) < 0 ∨ 77 ≤ ((1 : Int32) + a1).toNatClampNeg then none else nm (sSa q16 0 ((1 : Int32) + a1).toNatClampNeg (q16.1 5)) fun M47 => (fX5_nextToken M47).bind fun q49 => some ((1 : Int32), q49))) fun k15 => if a1 = 0 then (if (M.2.1 0 (0 : Int32).toNatClampNeg) ≤ 0 then k15 else (some ((0 : Int32), M))) else k15
def rmX5_goesLet : Room := { frames := 2, cells := 0, slots := 0, locals := 47 }
theorem qqX5_goesLet : yX5_goesLet.cls = RX5 ∧ yX5_goesLet.cls ≠ "java/lang/invoke/MethodHandle" ∧ yX5_goesLet.cls ≠ "java/lang/invoke/VarHandle" ∧ (parseMethodDescriptor yX5_goesLet.desc).map (fun d => d.parameters.length) = some 1 := by decide +kernel
def fX5_goesItem (M : sOb) : Option (Int32 × sOb) :=
  (fX5_kindNamed M).bind fun q1 => if q1 < 0 then ((fX5_letNamed M).bind fun q16 => if q16 < 0 then (some ((0 : Int32), M)) else ((fX5_goesLet M q16).bind fun q26 => if q26.1 = 0 then (some ((0 : Int32), q26.2)) else (some ((1 : Int32), q26.2)))) else ((fX5_goesRunner M q1).bind fun q11 => if ¬ (q11.1 = 0 ∨ q11.1 = 1) then none else some (q11.1, q11.2))
def rmX5_goesItem : Room := { frames := 4, cells := 0, slots := 0, locals := 93 }
theorem qqX5_goesItem : yX5_goesItem.cls = RX5 ∧ yX5_goesItem.cls ≠ "java/lang/invoke/MethodHandle" ∧ yX5_goesItem.cls ≠ "java/lang/invoke/VarHandle" ∧ (parseMethodDescriptor yX5_goesItem.desc).map (fun d => d.parameters.length) = some 0 := by decide +kernel
def bX5_text_13 (k82 : Int32 → sOb → Option (Int32 × sOb)) (rc13 : Int32 → Int32 → sOb → Option (Int32 × sOb)) (x1_13 : Int32) (x2_13 : Int32) (T_13 : sOb) : Option (Int32 × sOb) :=
  if x2_13 = 0 then (k82 x1_13 T_13) else ((fX5_nextToken T_13).bind fun q18 => (fX5_goesItem q18).bind fun q22 => if q22.1 = 0 then (nm ((-1 : Int32) - (q22.2.1 3)) fun v34 => rc13 v34 (0 : Int32) q22.2) else (nm (x1_13 + (1 : Int32)) fun v40 => nm (fun (y0_56 : Int32) => if y0_56 = 0 then (if (q22.2.1 2) = 0 then (rc13 v40 y0_56 q22.2) else (nm ((-1 : Int32) - (q22.2.1 3)) fun v78 => rc13 v78 y0_56 q22.2)) else (rc13 v40 y0_56 q22.2)) fun k56 => if (q22.2.1 2) = (3 : Int32) then (k56 (1 : Int32)) else (k56 (0 : Int32))))
def fX5_text (M : sOb) : Option (Int32 × sOb) :=
  (fX5_laysBy M).bind fun q1 => nm (sSs q1 4 (0 : Int32)) fun M6 => nm (fun (x1_82 : Int32) (T_82 : sOb) => if 0 ≤ x1_82 then (nm (sSs T_82 1 (0 : Int32)) fun M92 => some (x1_82, M92)) else ((fX5_laysBack T_82).bind fun q87 => nm (sSs q87 1 (0 : Int32)) fun M92 => some (x1_82, M92))) fun k82 => fx3 (bX5_text_13 k82) FU (0 : Int32) (1 : Int32) M6
def rmX5_text : Room := { frames := 5, cells := 0, slots := 0, locals := 115 }
theorem qqX5_text : yX5_text.cls = RX5 ∧ yX5_text.cls ≠ "java/lang/invoke/MethodHandle" ∧ yX5_text.cls ≠ "java/lang/invoke/VarHandle" ∧ (parseMethodDescriptor yX5_text.desc).map (fun d => d.parameters.length) = some 0 := by decide +kernel
def fX5_isSheet (a0 : Int32) : Option Int32 :=
  if a0 < 0 then (some (0 : Int32)) else (if (4 : Int32) ≤ a0 then (some (0 : Int32)) else (some (1 : Int32)))
def rmX5_isSheet : Room := { frames := 0, cells := 0, slots := 0, locals := 0 }
theorem qqX5_isSheet : yX5_isSheet.cls ≠ "java/lang/invoke/MethodHandle" ∧ yX5_isSheet.cls ≠ "java/lang/invoke/VarHandle" ∧ (parseMethodDescriptor yX5_isSheet.desc).map (fun d => d.parameters.length) = some 1 := by decide +kernel
def fX5_narrow (a0 : Int32) (a1 : Int64) : Option Int64 :=
  if a0 = (8 : Int32) then (some a1.toInt32.toInt8.toInt32.toInt64) else (if a0 = (16 : Int32) then (some a1.toInt32.toInt16.toInt32.toInt64) else (some a1))
def rmX5_narrow : Room := { frames := 0, cells := 0, slots := 0, locals := 0 }
theorem qqX5_narrow : yX5_narrow.cls ≠ "java/lang/invoke/MethodHandle" ∧ yX5_narrow.cls ≠ "java/lang/invoke/VarHandle" ∧ (parseMethodDescriptor yX5_narrow.desc).map (fun d => d.parameters.length) = some 2 := by decide +kernel
def bX5_sheet_93 (a1 : Int32) (rc93 : Int32 → sOb → Option (Int32 × sOb)) (x4_93 : Int32) (T_93 : sOb) : Option (Int32 × sOb) :=
  if (40 : Int32) ≤ x4_93 then (some ((T_93.2.1 6 a1.toNatClampNeg), T_93)) else (if (((40 : Int32) * a1) + x4_93) < 0 ∨ 160 ≤ (((40 : Int32) * a1) + x4_93).toNatClampNeg then none else nm (sSl T_93 (((40 : Int32) * a1) + x4_93).toNatClampNeg (0 : Int64)) fun M112 => nm (x4_93 + (1 : Int32)) fun v113 => rc93 v113 M112)
def fX5_sheet (M : sOb) (a1 : Int32) (a2 : Int32) (a3 : Int32) : Option (Int32 × sOb) :=
  (fX5_isSheet a1).bind fun q1 => if q1 = 0 then ((fX5_finds M (-1000000001 : Int32)).bind fun q32 => some (q32.1, q32.2)) else (nm (if 0 ≤ a3 then (if a3 ≤ (40 : Int32) then (nm (fun (y0_74 : Int32) => if a1 < 0 ∨ 4 ≤ a1.toNatClampNeg then none else nm (sSa M 5 a1.toNatClampNeg y0_74) fun M74 => nm (fun (y0_89 : Int32) => nm (sSa M74 6 a1.toNatClampNeg y0_89) fun M89 => fx2 (bX5_sheet_93 a1) FU (0 : Int32) M89) fun k89 => if a2 = 0 then (k89 (0 : Int32)) else (k89 a3)) fun k74 => if a2 = 0 then (k74 (-1 : Int32)) else (k74 a2)) else ((fX5_finds M (-1000000001 : Int32)).bind fun q56 => some (q56.1, q56.2))) else ((fX5_finds M (-1000000007 : Int32)).bind fun q43 => some (q43.1, q43.2))) fun k36 => if a2 = 0 then k36 else (if a2 = (8 : Int32) then k36 else (if a2 = (16 : Int32) then k36 else (if a2 = (64 : Int32) then k36 else ((fX5_finds M (-1000000001 : Int32)).bind fun q32 => some (q32.1, q32.2))))))
def rmX5_sheet : Room := { frames := 1, cells := 0, slots := 0, locals := 21 }
theorem qqX5_sheet : yX5_sheet.cls = RX5 ∧ yX5_sheet.cls ≠ "java/lang/invoke/MethodHandle" ∧ yX5_sheet.cls ≠ "java/lang/invoke/VarHandle" ∧ (parseMethodDescriptor yX5_sheet.desc).map (fun d => d.parameters.length) = some 3 := by decide +kernel
def fX5_write (M : sOb) (a1 : Int32) (a2 : Int32) (a3 : Int64) : Option (Int64 × sOb) :=
  (fX5_isSheet a1).bind fun q1 => if q1 = 0 then ((fX5_finds M (-1000000001 : Int32)).bind fun q10 => some (q10.1.toInt64, q10.2)) else (if a1 < 0 ∨ 4 ≤ a1.toNatClampNeg then none else if 0 ≤ (M.2.1 5 a1.toNatClampNeg) then ((fX5_isIn a2.toInt64 (0 : Int64) (((M.2.1 6 a1.toNatClampNeg) - (1 : Int32)).toInt64)).bind fun q44 => if q44 = 0 then ((fX5_finds M (-1000000001 : Int32)).bind fun q53 => some (q53.1.toInt64, q53.2)) else (if (((40 : Int32) * a1) + a2) < 0 ∨ 160 ≤ (((40 : Int32) * a1) + a2).toNatClampNeg then none else nm (M.2.2 (((40 : Int32) * a1) + a2).toNatClampNeg) fun v69 => (fX5_narrow (M.2.1 5 a1.toNatClampNeg) a3).bind fun q88 => nm (sSl M (((40 : Int32) * a1) + a2).toNatClampNeg q88) fun M91 => some (v69, M91))) else ((fX5_finds M (-1000000006 : Int32)).bind fun q27 => some (q27.1.toInt64, q27.2)))
def rmX5_write : Room := { frames := 1, cells := 0, slots := 0, locals := 25 }
theorem qqX5_write : yX5_write.cls = RX5 ∧ yX5_write.cls ≠ "java/lang/invoke/MethodHandle" ∧ yX5_write.cls ≠ "java/lang/invoke/VarHandle" ∧ (parseMethodDescriptor yX5_write.desc).map (fun d => d.parameters.length) = some 3 := by decide +kernel
def bX5_copy_136 (a5 : Int32) (v122 : Int32) (v131 : Int32) (rc136 : Int32 → sOb → Option (Int32 × sOb)) (x8_136 : Int32) (T_136 : sOb) : Option (Int32 × sOb) :=
  if a5 ≤ x8_136 then (some (a5, T_136)) else (nm (fun (y0_162 : Int32) => if (v122 + y0_162) < 0 ∨ 160 ≤ (v122 + y0_162).toNatClampNeg then none else if (v131 + y0_162) < 0 ∨ 160 ≤ (v131 + y0_162).toNatClampNeg then none else nm (sSl T_136 (v131 + y0_162).toNatClampNeg (T_136.2.2 (v122 + y0_162).toNatClampNeg)) fun M183 => nm (x8_136 + (1 : Int32)) fun v184 => rc136 v184 M183) fun k162 => if v131 ≤ v122 then (k162 x8_136) else (k162 ((a5 - (1 : Int32)) - x8_136)))
def fX5_copy (M : sOb) (a1 : Int32) (a2 : Int32) (a3 : Int32) (a4 : Int32) (a5 : Int32) : Option (Int32 × sOb) :=
  (fX5_isSheet a1).bind fun q1 => if q1 = 0 then ((fX5_finds M (-1000000001 : Int32)).bind fun q17 => some (q17.1, q17.2)) else ((fX5_isSheet a3).bind fun q8 => if q8 = 0 then ((fX5_finds M (-1000000001 : Int32)).bind fun q17 => some (q17.1, q17.2)) else (if a1 < 0 ∨ 4 ≤ a1.toNatClampNeg then none else if (M.2.1 5 a1.toNatClampNeg) < 0 then ((fX5_finds M (-1000000006 : Int32)).bind fun q42 => some (q42.1, q42.2)) else (if a3 < 0 ∨ 4 ≤ a3.toNatClampNeg then none else if 0 ≤ (M.2.1 5 a3.toNatClampNeg) then (if (M.2.1 5 a1.toNatClampNeg) = (M.2.1 5 a3.toNatClampNeg) then (if a2 < 0 then ((fX5_finds M (-1000000001 : Int32)).bind fun q112 => some (q112.1, q112.2)) else (if a4 < 0 then ((fX5_finds M (-1000000001 : Int32)).bind fun q112 => some (q112.1, q112.2)) else (if a5 < 0 then ((fX5_finds M (-1000000001 : Int32)).bind fun q112 => some (q112.1, q112.2)) else (if ((M.2.1 6 a1.toNatClampNeg) - a2) < a5 then ((fX5_finds M (-1000000001 : Int32)).bind fun q112 => some (q112.1, q112.2)) else (if a5 ≤ ((M.2.1 6 a3.toNatClampNeg) - a4) then (nm (((40 : Int32) * a1) + a2) fun v122 => nm (((40 : Int32) * a3) + a4) fun v131 => fx2 (bX5_copy_136 a5 v122 v131) FU (0 : Int32) M) else ((fX5_finds M (-1000000001 : Int32)).bind fun q112 => some (q112.1, q112.2))))))) else ((fX5_finds M (-1000000003 : Int32)).bind fun q64 => some (q64.1, q64.2))) else ((fX5_finds M (-1000000006 : Int32)).bind fun q42 => some (q42.1, q42.2)))))
def rmX5_copy : Room := { frames := 1, cells := 0, slots := 0, locals := 21 }
theorem qqX5_copy : yX5_copy.cls = RX5 ∧ yX5_copy.cls ≠ "java/lang/invoke/MethodHandle" ∧ yX5_copy.cls ≠ "java/lang/invoke/VarHandle" ∧ (parseMethodDescriptor yX5_copy.desc).map (fun d => d.parameters.length) = some 5 := by decide +kernel
def fX5_lacks (M : sOb) (a1 : Int32) : Option Int32 :=
  (fX5_isSheet a1).bind fun q1 => if q1 = 0 then (some (-1000000001 : Int32)) else (if a1 < 0 ∨ 4 ≤ a1.toNatClampNeg then none else if 0 ≤ (M.2.1 5 a1.toNatClampNeg) then (some (0 : Int32)) else (some (-1000000006 : Int32)))
def rmX5_lacks : Room := { frames := 1, cells := 0, slots := 0, locals := 20 }
theorem qqX5_lacks : yX5_lacks.cls = RX5 ∧ yX5_lacks.cls ≠ "java/lang/invoke/MethodHandle" ∧ yX5_lacks.cls ≠ "java/lang/invoke/VarHandle" ∧ (parseMethodDescriptor yX5_lacks.desc).map (fun d => d.parameters.length) = some 1 := by decide +kernel
def bX5_lays_22 (a1 : Int32) (rc22 : Int32 → Int32 → sOb → Option (Int32 × sOb)) (x2_22 : Int32) (x3_22 : Int32) (T_22 : sOb) : Option (Int32 × sOb) :=
  if a1 < 0 ∨ 4 ≤ a1.toNatClampNeg then none else if (T_22.2.1 6 a1.toNatClampNeg) ≤ x3_22 then (some (x2_22, T_22)) else (if (T_22.2.1 0 (0 : Int32).toNatClampNeg) ≤ x3_22 then (some (x2_22, T_22)) else (if (((40 : Int32) * a1) + x3_22) < 0 ∨ 160 ≤ (((40 : Int32) * a1) + x3_22).toNatClampNeg then none else nm (T_22.2.2 (((40 : Int32) * a1) + x3_22).toNatClampNeg) fun v53 => (fX5_isIn v53 (1 : Int64) (12 : Int64)).bind fun q61 => if q61 = 0 then (nm (x3_22 + (1 : Int32)) fun v79 => rc22 x2_22 v79 T_22) else ((fX5_puts T_22 x3_22 (1 : Int32) v53.toInt32).bind fun q73 => nm (x2_22 + (1 : Int32)) fun v76 => nm (x3_22 + (1 : Int32)) fun v79 => rc22 v76 v79 q73)))
def fX5_lays (M : sOb) (a1 : Int32) : Option (Int32 × sOb) :=
  (fX5_lacks M a1).bind fun q2 => if q2 = 0 then (fx3 (bX5_lays_22 a1) FU (0 : Int32) (0 : Int32) M) else ((fX5_lacks M a1).bind fun q11 => (fX5_finds M q11).bind fun q14 => some (q14.1, q14.2))
def rmX5_lays : Room := { frames := 2, cells := 0, slots := 0, locals := 41 }
theorem qqX5_lays : yX5_lays.cls = RX5 ∧ yX5_lays.cls ≠ "java/lang/invoke/MethodHandle" ∧ yX5_lays.cls ≠ "java/lang/invoke/VarHandle" ∧ (parseMethodDescriptor yX5_lays.desc).map (fun d => d.parameters.length) = some 1 := by decide +kernel
def bX5_film_39 (a1 : Int32) (a2 : Int32) (k88 : sOb → Option (Int32 × sOb)) (rc39 : Int32 → sOb → Option (Int32 × sOb)) (x3_39 : Int32) (T_39 : sOb) : Option (Int32 × sOb) :=
  if a1 < 0 ∨ 4 ≤ a1.toNatClampNeg then none else if (T_39.2.1 6 a1.toNatClampNeg) ≤ x3_39 then (k88 T_39) else ((fX5_is T_39 a2 (5 : Int32)).bind fun q68 => (fX5_narrow (T_39.2.1 5 a1.toNatClampNeg) q68.toInt64).bind fun q72 => if (((40 : Int32) * a1) + x3_39) < 0 ∨ 160 ≤ (((40 : Int32) * a1) + x3_39).toNatClampNeg then none else nm (sSl T_39 (((40 : Int32) * a1) + x3_39).toNatClampNeg q72) fun M75 => (fX5_goesOn M75).bind fun q77 => nm (x3_39 + (1 : Int32)) fun v82 => rc39 v82 q77.2)
def fX5_film (M : sOb) (a1 : Int32) (a2 : Int32) : Option (Int32 × sOb) :=
  (fX5_lacks M a1).bind fun q2 => if q2 = 0 then ((fX5_isRunner M a2).bind fun q20 => if q20 = 0 then ((fX5_finds M (-1000000001 : Int32)).bind fun q29 => some (q29.1, q29.2)) else ((fX5_laysBy M).bind fun q34 => nm (fun (T_88 : sOb) => (fX5_laysBack T_88).bind fun q89 => if a1 < 0 ∨ 4 ≤ a1.toNatClampNeg then none else some ((q89.2.1 6 a1.toNatClampNeg), q89)) fun k88 => fx2 (bX5_film_39 a1 a2 k88) FU (0 : Int32) q34)) else ((fX5_lacks M a1).bind fun q11 => (fX5_finds M q11).bind fun q14 => some (q14.1, q14.2))
def rmX5_film : Room := { frames := 5, cells := 0, slots := 0, locals := 116 }
theorem qqX5_film : yX5_film.cls = RX5 ∧ yX5_film.cls ≠ "java/lang/invoke/MethodHandle" ∧ yX5_film.cls ≠ "java/lang/invoke/VarHandle" ∧ (parseMethodDescriptor yX5_film.desc).map (fun d => d.parameters.length) = some 2 := by decide +kernel
def bX5_read_119 (x2_113 : Int32) (q114 : sOb) (rc119 : Int32 → Option (Int32 × sOb)) (x3_119 : Int32) : Option (Int32 × sOb) :=
  if (q114.2.1 0 (0 : Int32).toNatClampNeg) ≤ x3_119 then ((fX5_finds q114 (-1000000004 : Int32)).bind fun q149 => some (q149.1, q149.2)) else (if ((x2_113 >>> (x3_119 &&& 31)) &&& (1 : Int32)) = (1 : Int32) then (some (x3_119, q114)) else (nm (x3_119 + (1 : Int32)) fun v140 => rc119 v140))
def bX5_read_48 (a1 : Int32) (x3_35 : Int32) (T_35 : sOb) (k101 : Int32 → Option (Int32 × sOb)) (rc48 : Int32 → Int32 → Option (Int32 × sOb)) (x2_48 : Int32) (x4_48 : Int32) : Option (Int32 × sOb) :=
  if (T_35.2.1 0 (0 : Int32).toNatClampNeg) ≤ x4_48 then (k101 x2_48) else (if (((40 : Int32) * a1) + x3_35) < 0 ∨ 160 ≤ (((40 : Int32) * a1) + x3_35).toNatClampNeg then none else (fX5_is T_35 x4_48 (5 : Int32)).bind fun q75 => if (lg_cmp (T_35.2.2 (((40 : Int32) * a1) + x3_35).toNatClampNeg) q75.toInt64) = 0 then (nm (x2_48 &&& (-1 : Int32)) fun v94 => nm (x4_48 + (1 : Int32)) fun v95 => rc48 v94 v95) else (nm (x2_48 &&& (((1 : Int32) <<< (x4_48 &&& 31)) ^^^ (-1 : Int32))) fun v94 => nm (x4_48 + (1 : Int32)) fun v95 => rc48 v94 v95))
def bX5_read_35 (a1 : Int32) (k113 : Int32 → sOb → Option (Int32 × sOb)) (rc35 : Int32 → Int32 → sOb → Option (Int32 × sOb)) (x2_35 : Int32) (x3_35 : Int32) (T_35 : sOb) : Option (Int32 × sOb) :=
  if a1 < 0 ∨ 4 ≤ a1.toNatClampNeg then none else if (T_35.2.1 6 a1.toNatClampNeg) ≤ x3_35 then (k113 x2_35 T_35) else (nm (fun (x2_101 : Int32) => (fX5_goesOn T_35).bind fun q102 => nm (x3_35 + (1 : Int32)) fun v107 => rc35 x2_101 v107 q102.2) fun k101 => fx2 (bX5_read_48 a1 x3_35 T_35 k101) FU x2_35 (0 : Int32))
def fX5_read (M : sOb) (a1 : Int32) : Option (Int32 × sOb) :=
  (fX5_lacks M a1).bind fun q2 => if q2 = 0 then ((fX5_laysBy M).bind fun q19 => nm (((1 : Int32) <<< ((q19.2.1 0 (0 : Int32).toNatClampNeg) &&& 31)) - (1 : Int32)) fun v32 => nm (fun (x2_113 : Int32) (T_113 : sOb) => (fX5_laysBack T_113).bind fun q114 => fx1 (bX5_read_119 x2_113 q114) FU (0 : Int32)) fun k113 => fx3 (bX5_read_35 a1 k113) FU v32 (0 : Int32) q19) else ((fX5_lacks M a1).bind fun q11 => (fX5_finds M q11).bind fun q14 => some (q14.1, q14.2))
def rmX5_read : Room := { frames := 5, cells := 0, slots := 0, locals := 116 }
theorem qqX5_read : yX5_read.cls = RX5 ∧ yX5_read.cls ≠ "java/lang/invoke/MethodHandle" ∧ yX5_read.cls ≠ "java/lang/invoke/VarHandle" ∧ (parseMethodDescriptor yX5_read.desc).map (fun d => d.parameters.length) = some 1 := by decide +kernel
def bX5_image_2 (rc2 : Int32 → sOb → Option (Int32 × sOb)) (x1_2 : Int32) (T_2 : sOb) : Option (Int32 × sOb) :=
  if (77 : Int32) ≤ x1_2 then (nm (sSs T_2 0 (1 : Int32)) fun M28 => some ((1 : Int32), M28)) else (if x1_2 < 0 ∨ 77 ≤ x1_2.toNatClampNeg then none else nm (sSa T_2 1 x1_2.toNatClampNeg (T_2.2.1 0 x1_2.toNatClampNeg)) fun M19 => nm (x1_2 + (1 : Int32)) fun v20 => rc2 v20 M19)
def fX5_image (M : sOb) : Option (Int32 × sOb) :=
  fx2 bX5_image_2 FU (0 : Int32) M
def rmX5_image : Room := { frames := 0, cells := 0, slots := 0, locals := 0 }
theorem qqX5_image : yX5_image.cls = RX5 ∧ yX5_image.cls ≠ "java/lang/invoke/MethodHandle" ∧ yX5_image.cls ≠ "java/lang/invoke/VarHandle" ∧ (parseMethodDescriptor yX5_image.desc).map (fun d => d.parameters.length) = some 0 := by decide +kernel
def bX5_undo_16 (rc16 : Int32 → sOb → Option (Int32 × sOb)) (x1_16 : Int32) (T_16 : sOb) : Option (Int32 × sOb) :=
  if (77 : Int32) ≤ x1_16 then (some ((T_16.2.1 0 (0 : Int32).toNatClampNeg), T_16)) else (if x1_16 < 0 ∨ 77 ≤ x1_16.toNatClampNeg then none else nm (sSa T_16 0 x1_16.toNatClampNeg (T_16.2.1 1 x1_16.toNatClampNeg)) fun M33 => nm (x1_16 + (1 : Int32)) fun v34 => rc16 v34 M33)
def fX5_undo (M : sOb) : Option (Int32 × sOb) :=
  if (M.1 0) = 0 then ((fX5_finds M (-1000000004 : Int32)).bind fun q10 => some (q10.1, q10.2)) else (fx2 bX5_undo_16 FU (0 : Int32) M)
def rmX5_undo : Room := { frames := 1, cells := 0, slots := 0, locals := 21 }
theorem qqX5_undo : yX5_undo.cls = RX5 ∧ yX5_undo.cls ≠ "java/lang/invoke/MethodHandle" ∧ yX5_undo.cls ≠ "java/lang/invoke/VarHandle" ∧ (parseMethodDescriptor yX5_undo.desc).map (fun d => d.parameters.length) = some 0 := by decide +kernel
def fX5_tear (M : sOb) : Option (Int32 × sOb) :=
  nm (M.1 0) fun v4 => nm (sSs M 0 (0 : Int32)) fun M7 => if v4 = 0 then (some ((0 : Int32), M7)) else (some ((1 : Int32), M7))
def rmX5_tear : Room := { frames := 0, cells := 0, slots := 0, locals := 0 }
theorem qqX5_tear : yX5_tear.cls = RX5 ∧ yX5_tear.cls ≠ "java/lang/invoke/MethodHandle" ∧ yX5_tear.cls ≠ "java/lang/invoke/VarHandle" ∧ (parseMethodDescriptor yX5_tear.desc).map (fun d => d.parameters.length) = some 0 := by decide +kernel
def bX5_ofAll_4 (M : sOb) (a1 : Int32) (rc4 : Int32 → Int32 → Option Int32) (x2_4 : Int32) (x3_4 : Int32) : Option Int32 :=
  if (M.2.1 0 (0 : Int32).toNatClampNeg) ≤ x3_4 then (some x2_4) else ((fX5_is M x3_4 a1).bind fun q18 => nm (x2_4 + q18) fun v22 => nm (x3_4 + (1 : Int32)) fun v23 => rc4 v22 v23)
def fX5_ofAll (M : sOb) (a1 : Int32) : Option Int32 :=
  fx2 (bX5_ofAll_4 M a1) FU (0 : Int32) (0 : Int32)
def rmX5_ofAll : Room := { frames := 1, cells := 0, slots := 0, locals := 22 }
theorem qqX5_ofAll : yX5_ofAll.cls = RX5 ∧ yX5_ofAll.cls ≠ "java/lang/invoke/MethodHandle" ∧ yX5_ofAll.cls ≠ "java/lang/invoke/VarHandle" ∧ (parseMethodDescriptor yX5_ofAll.desc).map (fun d => d.parameters.length) = some 1 := by decide +kernel
def fX5_count (M : sOb) (a1 : Int32) : Option (Int32 × sOb) :=
  if a1 = (0 : Int32) then (some ((M.2.1 0 (0 : Int32).toNatClampNeg), M)) else if a1 = (1 : Int32) then (some ((M.1 1), M)) else if a1 = (2 : Int32) then ((fX5_ofAll M (5 : Int32)).bind fun q50 => some (q50, M)) else if a1 = (3 : Int32) then ((fX5_ofAll M (2 : Int32)).bind fun q56 => some (q56, M)) else if a1 = (4 : Int32) then ((fX5_ofAll M (6 : Int32)).bind fun q63 => some (q63, M)) else ((fX5_finds M (-1000000001 : Int32)).bind fun q70 => some (q70.1, q70.2))
def rmX5_count : Room := { frames := 2, cells := 0, slots := 0, locals := 45 }
theorem qqX5_count : yX5_count.cls = RX5 ∧ yX5_count.cls ≠ "java/lang/invoke/MethodHandle" ∧ yX5_count.cls ≠ "java/lang/invoke/VarHandle" ∧ (parseMethodDescriptor yX5_count.desc).map (fun d => d.parameters.length) = some 1 := by decide +kernel
def fX5_status (M : sOb) (a1 : Int32) : Option (Int32 × sOb) :=
  (fX5_isIn a1.toInt64 (-1 : Int64) (6 : Int64)).bind fun q8 => if q8 = 0 then ((fX5_finds M (-1000000001 : Int32)).bind fun q28 => some (q28.1, q28.2)) else (if (a1 + (1 : Int32)) < 0 ∨ 8 ≤ (a1 + (1 : Int32)).toNatClampNeg then none else some ((M.2.1 3 (a1 + (1 : Int32)).toNatClampNeg), M))
def rmX5_status : Room := { frames := 1, cells := 0, slots := 0, locals := 25 }
theorem qqX5_status : yX5_status.cls = RX5 ∧ yX5_status.cls ≠ "java/lang/invoke/MethodHandle" ∧ yX5_status.cls ≠ "java/lang/invoke/VarHandle" ∧ (parseMethodDescriptor yX5_status.desc).map (fun d => d.parameters.length) = some 1 := by decide +kernel
