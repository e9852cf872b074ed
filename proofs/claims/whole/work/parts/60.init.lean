/-! THE CONSTRUCTORS (printed by wip/whole/inits.py) -/
def shW (c : ClassId) (a : Nat → Nat) (T : sOb) : va_W := [(a 0, .inr (0, fSh a T)), (a 1, .inl (c, 40, .inr (.inl T.2.2)))]
def tpW (c : ClassId) (a : Nat → Nat) (T : sOb) : va_W := [(a 0, .inr (1, fTp a T)), (a 1, .inl (c, 120, .inl (T.2.1 0)))]
def tkW (c : ClassId) (a : Nat → Nat) (T : sOb) : va_W := [(a 0, .inr (2, fTk a T)), (a 1, .inl (c, 9, .inl (T.2.1 0))), (a 2, .inl (c, 9, .inl (T.2.1 1))), (a 3, .inl (c, 9, .inl (T.2.1 2))), (a 4, .inl (c, 9, .inl (T.2.1 3))), (a 5, .inl (c, 9, .inl (T.2.1 4))), (a 6, .inl (c, 9, .inl (T.2.1 5))), (a 7, .inl (c, 9, .inl (T.2.1 6))), (a 8, .inl (c, 9, .inl (T.2.1 7))), (a 9, .inl (c, 9, .inl (T.2.1 8)))]
def mdW (c d : ClassId) (a : Nat → Nat) (T : sOb) : va_W := [(a 0, .inr (4, fMd a T)), (a 1, .inl (c, 77, .inl (T.2.1 0))), (a 2, .inl (c, 77, .inl (T.2.1 1))), (a 3, .inl (c, 77, .inl (T.2.1 2))), (a 4, .inl (c, 8, .inl (T.2.1 3))), (a 5, .inl (c, 120, .inl (T.2.1 4))), (a 6, .inl (c, 4, .inl (T.2.1 5))), (a 7, .inl (c, 4, .inl (T.2.1 6))), (a 8, .inl (c, 9, .inl (T.2.1 7))), (a 9, .inl (d, 160, .inr (.inl T.2.2)))]
def sZ : sOb := (fun _ => 0, fun _ _ => 0, fun _ => 0)
def sT0 : sOb := (fun k => if k = 0 then 200 else if k = 1 then 1 else if k = 2 then 1 else 0, fun _ _ => 0, fun _ => 0)
def sM0 : sOb := (fun _ => 0, fun k => if k = 0 then upd (upd (upd (fun _ => 0) 1 200) 2 1) 3 1 else if k = 5 then upd (upd (upd (upd (fun _ => 0) 0 (-1)) 1 (-1)) 2 (-1)) 3 (-1) else fun _ => 0, fun _ => 0)
set_option maxHeartbeats 4000000 in
set_option maxRecDepth 100000 in
/-- Sheet(): forty numbers -/
theorem iX1 (l : Launch) (D : va_G) (h0 sz : Nat) : Met l yX1_init wsX1_init ({ frames := 1, cells := 1, slots := 40, locals := 12 }) (va_Pc [.ref h0] (fun U => U.heap.size = sz ∧ va_P D vwCl [(h0, .inr (0, [.int 0, .int 0, .null]))] U.heap ∧ va_K D vwCl [] U ∧ va_D (fun _ => True) [(h0, .inr (0, [.int 0, .int 0, .null]))])) (va_Qv (fun _ : Unit => True) (fun _ t => ∃ (c1 : ClassId) (a : Nat → Nat), a 0 = h0 ∧ va_P D vwCl (shW c1 a sZ) t.heap ∧ va_K D vwCl [(c1, .long)] t ∧ va_D (va_A [(h0, .inr (0, [.int 0, .int 0, .null]))] sz) (shW c1 a sZ)) (va_A [(h0, .inr (0, [.int 0, .int 0, .null]))] sz)) 1 40 (va_A [(h0, .inr (0, [.int 0, .int 0, .null]))] sz) := by
  refine Met.ofW (cc := cX1_init) (maxL := 1) (ret := none) (by decide) rfl ?_
  intro p e s m args below meth c s₁ B hml hv
  obtain ⟨rfl, hsz, hP, hK, hD0⟩ := hv
  have hx := B.exec
  have hb := B.bytes
  have hr := B.returns
  have hts := atoms_spec (ws := wsX1_init) B.pre
  have hown : s.vm.findClass RX1 = some m.cls := findClass_of_methodNamed B.named
  have hin : meth.name = "<init>" := (name_of_methodNamed B.named B.method).1
  subst hsz
  have hD := hD0.self (sz := s.heap.size)
  generalize hAe : va_A [(h0, .inr (0, [.int 0, .int 0, .null]))] s.heap.size = A at hD ⊢
  have hA : ∀ q : Nat, s.heap.size ≤ q → A q := fun q h => by rw [← hAe]; exact Or.inr h
  have hS : va_S A s.heap s.heap [] := va_S.rf
  have hl := lv_entry ([.ref h0]) (n := 1) (Nat.le_of_ble_eq_true rfl)
  rw [lg_entry_eq]
  generalize (lg_sl ([.ref h0]) ++ List.replicate (1 - (lg_sl ([.ref h0])).length) Slot.unset).toArray = ls at hl ⊢
  have hl : lv_has ls 1 [(0, .ref h0)] := hl
  refine lv_aload_n hx hb dX1_init_0 rfl (lv_at hl 0 rfl) ?_
  refine W.objInit hx hb hown (hts (.methodLink RX1 3 objectInit) (by decide +kernel)) (hts (.instanceMethod objectInit) (by decide +kernel)) (hts _ (List.mem_cons_of_mem _ (List.mem_append_left _ (List.mem_of_getElem? (i := 2) rfl)))) rfl (by rw [hml]; exact hl.1) rfl dX1_init_1 (Nat.le_of_ble_eq_true rfl) (Nat.le_of_ble_eq_true rfl) ?_
  refine W.eq (g2 := F0 m 4 ls []) rfl ?_
  refine lv_aload_n hx hb dX1_init_4 rfl (lv_at hl 0 rfl) ?_
  refine lv_bipush (v := 40) hx hb dX1_init_5 (by decide) ?_
  refine va_newa (atype := .long) (N' := 40) (a0 := (40, .inr (.inl (fun _ => 0)))) hx hb (hts (.arrayClass .long) (by decide +kernel)) rfl hK hP hD hS hA (fun _ => rfl) (by decide) (by decide) (by decide) (Nat.le_of_ble_eq_true rfl) (Nat.le_of_ble_eq_true rfl) dX1_init_7 (fun q1 cA H hK hP hD hS => ?_)
  obtain ⟨c1, rfl⟩ : ∃ z, z = cA := ⟨_, rfl⟩
  have hK : va_K D vwCl [(c1, .long)] s := hK
  have hP : va_P D vwCl [(h0, .inr (0, [.int 0, .int 0, .null])), (q1, .inl (c1, 40, .inr (.inl (fun _ => 0))))] H := hP
  have hD : va_D A [(h0, .inr (0, [.int 0, .int 0, .null])), (q1, .inl (c1, 40, .inr (.inl (fun _ => 0))))] := hD
  refine va_putF (D := D) (ci := 0) (v := .ref q1) (C := RX1) (T := TX1) (N := 3) hx hb hts (by decide +kernel) tyX1 tyX1_ok nmX1 hown hK hP hD hS 0 rfl rfl 2 (by decide) (hts (.fieldLink RX1 9 "SecondHome$Sheet" "numbers" "[J") (by decide +kernel)) (fun _ h9 => h9) rfl hin rfl (tyX1_ok 2 (by decide)) rfl rfl (Nat.le_of_ble_eq_true rfl) dX1_init_9 (fun H locs hP hD hS => ?_)
  have hP : va_P D vwCl [(h0, .inr (0, [.int 0, .int 0, .ref q1])), (q1, .inl (c1, 40, .inr (.inl (fun _ => 0))))] H := hP
  have hD : va_D A [(h0, .inr (0, [.int 0, .int 0, .ref q1])), (q1, .inl (c1, 40, .inr (.inl (fun _ => 0))))] := hD
  exact W.vret hx hb hr (fun t ht hW => ⟨⟨(), rfl, trivial, c1, (fun j => if j = 0 then h0 else q1), rfl, by rw [ht]; exact hP, va_K.moved hW.alike hK, hD⟩, hS.F ht⟩) hS.2.2 dX1_init_12
set_option maxHeartbeats 4000000 in
set_option maxRecDepth 100000 in
/-- Tape(): a hundred and twenty bytes -/
theorem iX2 (l : Launch) (D : va_G) (h0 sz : Nat) : Met l yX2_init wsX2_init ({ frames := 1, cells := 1, slots := 120, locals := 12 }) (va_Pc [.ref h0] (fun U => U.heap.size = sz ∧ va_P D vwCl [(h0, .inr (1, [.int 0, .null, .int 0, .int 0, .int 0, .int 0]))] U.heap ∧ va_K D vwCl [] U ∧ va_D (fun _ => True) [(h0, .inr (1, [.int 0, .null, .int 0, .int 0, .int 0, .int 0]))])) (va_Qv (fun _ : Unit => True) (fun _ t => ∃ (c1 : ClassId) (a : Nat → Nat), a 0 = h0 ∧ va_P D vwCl (tpW c1 a sZ) t.heap ∧ va_K D vwCl [(c1, .byte)] t ∧ va_D (va_A [(h0, .inr (1, [.int 0, .null, .int 0, .int 0, .int 0, .int 0]))] sz) (tpW c1 a sZ)) (va_A [(h0, .inr (1, [.int 0, .null, .int 0, .int 0, .int 0, .int 0]))] sz)) 1 120 (va_A [(h0, .inr (1, [.int 0, .null, .int 0, .int 0, .int 0, .int 0]))] sz) := by
  refine Met.ofW (cc := cX2_init) (maxL := 1) (ret := none) (by decide) rfl ?_
  intro p e s m args below meth c s₁ B hml hv
  obtain ⟨rfl, hsz, hP, hK, hD0⟩ := hv
  have hx := B.exec
  have hb := B.bytes
  have hr := B.returns
  have hts := atoms_spec (ws := wsX2_init) B.pre
  have hown : s.vm.findClass RX2 = some m.cls := findClass_of_methodNamed B.named
  have hin : meth.name = "<init>" := (name_of_methodNamed B.named B.method).1
  subst hsz
  have hD := hD0.self (sz := s.heap.size)
  generalize hAe : va_A [(h0, .inr (1, [.int 0, .null, .int 0, .int 0, .int 0, .int 0]))] s.heap.size = A at hD ⊢
  have hA : ∀ q : Nat, s.heap.size ≤ q → A q := fun q h => by rw [← hAe]; exact Or.inr h
  have hS : va_S A s.heap s.heap [] := va_S.rf
  have hl := lv_entry ([.ref h0]) (n := 1) (Nat.le_of_ble_eq_true rfl)
  rw [lg_entry_eq]
  generalize (lg_sl ([.ref h0]) ++ List.replicate (1 - (lg_sl ([.ref h0])).length) Slot.unset).toArray = ls at hl ⊢
  have hl : lv_has ls 1 [(0, .ref h0)] := hl
  refine lv_aload_n hx hb dX2_init_0 rfl (lv_at hl 0 rfl) ?_
  refine W.objInit hx hb hown (hts (.methodLink RX2 3 objectInit) (by decide +kernel)) (hts (.instanceMethod objectInit) (by decide +kernel)) (hts _ (List.mem_cons_of_mem _ (List.mem_append_left _ (List.mem_of_getElem? (i := 2) rfl)))) rfl (by rw [hml]; exact hl.1) rfl dX2_init_1 (Nat.le_of_ble_eq_true rfl) (Nat.le_of_ble_eq_true rfl) ?_
  refine W.eq (g2 := F0 m 4 ls []) rfl ?_
  refine lv_aload_n hx hb dX2_init_4 rfl (lv_at hl 0 rfl) ?_
  refine lv_bipush (v := 120) hx hb dX2_init_5 (by decide) ?_
  refine va_newa (atype := .byte) (N' := 120) (a0 := (120, .inl (fun _ => 0))) hx hb (hts (.arrayClass .byte) (by decide +kernel)) rfl hK hP hD hS hA (fun _ => rfl) (by decide) (by decide) (by decide) (Nat.le_of_ble_eq_true rfl) (Nat.le_of_ble_eq_true rfl) dX2_init_7 (fun q1 cA H hK hP hD hS => ?_)
  obtain ⟨c1, rfl⟩ : ∃ z, z = cA := ⟨_, rfl⟩
  have hK : va_K D vwCl [(c1, .byte)] s := hK
  have hP : va_P D vwCl [(h0, .inr (1, [.int 0, .null, .int 0, .int 0, .int 0, .int 0])), (q1, .inl (c1, 120, .inl (fun _ => 0)))] H := hP
  have hD : va_D A [(h0, .inr (1, [.int 0, .null, .int 0, .int 0, .int 0, .int 0])), (q1, .inl (c1, 120, .inl (fun _ => 0)))] := hD
  refine va_putF (D := D) (ci := 1) (v := .ref q1) (C := RX2) (T := TX2) (N := 6) hx hb hts (by decide +kernel) tyX2 tyX2_ok nmX2 hown hK hP hD hS 0 rfl rfl 1 (by decide) (hts (.fieldLink RX2 9 "SecondHome$Tape" "bytes" "[B") (by decide +kernel)) (fun _ h9 => h9) rfl hin rfl (tyX2_ok 1 (by decide)) rfl rfl (Nat.le_of_ble_eq_true rfl) dX2_init_9 (fun H locs hP hD hS => ?_)
  have hP : va_P D vwCl [(h0, .inr (1, [.int 0, .ref q1, .int 0, .int 0, .int 0, .int 0])), (q1, .inl (c1, 120, .inl (fun _ => 0)))] H := hP
  have hD : va_D A [(h0, .inr (1, [.int 0, .ref q1, .int 0, .int 0, .int 0, .int 0])), (q1, .inl (c1, 120, .inl (fun _ => 0)))] := hD
  exact W.vret hx hb hr (fun t ht hW => ⟨⟨(), rfl, trivial, c1, (fun j => if j = 0 then h0 else q1), rfl, by rw [ht]; exact hP, va_K.moved hW.alike hK, hD⟩, hS.F ht⟩) hS.2.2 dX2_init_12
set_option maxHeartbeats 4000000 in
set_option maxRecDepth 100000 in
/-- Track() -/
theorem iX3 (l : Launch) (D : va_G) (h0 sz : Nat) : Met l yX3_init wsX3_init ({ frames := 1, cells := 9, slots := 81, locals := 12 }) (va_Pc [.ref h0] (fun U => U.heap.size = sz ∧ va_P D vwCl [(h0, .inr (2, [.int 0, .int 0, .int 0, .int 0, .int 0, .int 0, .null, .null, .null, .null, .null, .null, .null, .null, .null]))] U.heap ∧ va_K D vwCl [] U ∧ va_D (fun _ => True) [(h0, .inr (2, [.int 0, .int 0, .int 0, .int 0, .int 0, .int 0, .null, .null, .null, .null, .null, .null, .null, .null, .null]))])) (va_Qv (fun _ : Unit => True) (fun _ t => ∃ (c1 : ClassId) (a : Nat → Nat), a 0 = h0 ∧ va_P D vwCl (tkW c1 a sT0) t.heap ∧ va_K D vwCl [(c1, .int)] t ∧ va_D (va_A [(h0, .inr (2, [.int 0, .int 0, .int 0, .int 0, .int 0, .int 0, .null, .null, .null, .null, .null, .null, .null, .null, .null]))] sz) (tkW c1 a sT0)) (va_A [(h0, .inr (2, [.int 0, .int 0, .int 0, .int 0, .int 0, .int 0, .null, .null, .null, .null, .null, .null, .null, .null, .null]))] sz)) 9 81 (va_A [(h0, .inr (2, [.int 0, .int 0, .int 0, .int 0, .int 0, .int 0, .null, .null, .null, .null, .null, .null, .null, .null, .null]))] sz) := by
  refine Met.ofW (cc := cX3_init) (maxL := 1) (ret := none) (by decide) rfl ?_
  intro p e s m args below meth c s₁ B hml hv
  obtain ⟨rfl, hsz, hP, hK, hD0⟩ := hv
  have hx := B.exec
  have hb := B.bytes
  have hr := B.returns
  have hts := atoms_spec (ws := wsX3_init) B.pre
  have hown : s.vm.findClass RX3 = some m.cls := findClass_of_methodNamed B.named
  have hin : meth.name = "<init>" := (name_of_methodNamed B.named B.method).1
  subst hsz
  have hD := hD0.self (sz := s.heap.size)
  generalize hAe : va_A [(h0, .inr (2, [.int 0, .int 0, .int 0, .int 0, .int 0, .int 0, .null, .null, .null, .null, .null, .null, .null, .null, .null]))] s.heap.size = A at hD ⊢
  have hA : ∀ q : Nat, s.heap.size ≤ q → A q := fun q h => by rw [← hAe]; exact Or.inr h
  have hS : va_S A s.heap s.heap [] := va_S.rf
  have hl := lv_entry ([.ref h0]) (n := 1) (Nat.le_of_ble_eq_true rfl)
  rw [lg_entry_eq]
  generalize (lg_sl ([.ref h0]) ++ List.replicate (1 - (lg_sl ([.ref h0])).length) Slot.unset).toArray = ls at hl ⊢
  have hl : lv_has ls 1 [(0, .ref h0)] := hl
  refine lv_aload_n hx hb dX3_init_0 rfl (lv_at hl 0 rfl) ?_
  refine W.objInit hx hb hown (hts (.methodLink RX3 3 objectInit) (by decide +kernel)) (hts (.instanceMethod objectInit) (by decide +kernel)) (hts _ (List.mem_cons_of_mem _ (List.mem_append_left _ (List.mem_of_getElem? (i := 2) rfl)))) rfl (by rw [hml]; exact hl.1) rfl dX3_init_1 (Nat.le_of_ble_eq_true rfl) (Nat.le_of_ble_eq_true rfl) ?_
  refine W.eq (g2 := F0 m 4 ls []) rfl ?_
  refine lv_aload_n hx hb dX3_init_4 rfl (lv_at hl 0 rfl) ?_
  refine lv_sipush (v := 200) hx hb dX3_init_5 (by decide) ?_
  refine va_put (D := D) (ci := 2) (v := .int 200) (C := RX3) (T := TX3) (N := 15) hx hb hts (by decide +kernel) tyX3 tyX3_ok nmX3 hown hK hP hD hS 0 rfl rfl 0 (by decide) (hts (.fieldLink RX3 9 "SecondHome$Track" "length" "I") (by decide +kernel)) (fun _ h9 => h9) rfl (tyX3_ok 0 (by decide)) rfl rfl (Nat.le_of_ble_eq_true rfl) dX3_init_8 (fun H locs hP hD hS => ?_)
  have hP : va_P D vwCl [(h0, .inr (2, [.int 200, .int 0, .int 0, .int 0, .int 0, .int 0, .null, .null, .null, .null, .null, .null, .null, .null, .null]))] H := hP
  have hD : va_D A [(h0, .inr (2, [.int 200, .int 0, .int 0, .int 0, .int 0, .int 0, .null, .null, .null, .null, .null, .null, .null, .null, .null]))] := hD
  refine lv_aload_n hx hb dX3_init_11 rfl (lv_at hl 0 rfl) ?_
  refine lv_iconst (v := 1) hx hb dX3_init_12 (by decide) ?_
  refine va_put (D := D) (ci := 2) (v := .int 1) (C := RX3) (T := TX3) (N := 15) hx hb hts (by decide +kernel) tyX3 tyX3_ok nmX3 hown hK hP hD hS 0 rfl rfl 1 (by decide) (hts (.fieldLink RX3 15 "SecondHome$Track" "least" "I") (by decide +kernel)) (fun _ h9 => h9) rfl (tyX3_ok 1 (by decide)) rfl rfl (Nat.le_of_ble_eq_true rfl) dX3_init_13 (fun H locs hP hD hS => ?_)
  have hP : va_P D vwCl [(h0, .inr (2, [.int 200, .int 1, .int 0, .int 0, .int 0, .int 0, .null, .null, .null, .null, .null, .null, .null, .null, .null]))] H := hP
  have hD : va_D A [(h0, .inr (2, [.int 200, .int 1, .int 0, .int 0, .int 0, .int 0, .null, .null, .null, .null, .null, .null, .null, .null, .null]))] := hD
  refine lv_aload_n hx hb dX3_init_16 rfl (lv_at hl 0 rfl) ?_
  refine lv_iconst (v := 1) hx hb dX3_init_17 (by decide) ?_
  refine va_put (D := D) (ci := 2) (v := .int 1) (C := RX3) (T := TX3) (N := 15) hx hb hts (by decide +kernel) tyX3 tyX3_ok nmX3 hown hK hP hD hS 0 rfl rfl 2 (by decide) (hts (.fieldLink RX3 18 "SecondHome$Track" "law" "I") (by decide +kernel)) (fun _ h9 => h9) rfl (tyX3_ok 2 (by decide)) rfl rfl (Nat.le_of_ble_eq_true rfl) dX3_init_18 (fun H locs hP hD hS => ?_)
  have hP : va_P D vwCl [(h0, .inr (2, [.int 200, .int 1, .int 1, .int 0, .int 0, .int 0, .null, .null, .null, .null, .null, .null, .null, .null, .null]))] H := hP
  have hD : va_D A [(h0, .inr (2, [.int 200, .int 1, .int 1, .int 0, .int 0, .int 0, .null, .null, .null, .null, .null, .null, .null, .null, .null]))] := hD
  refine lv_aload_n hx hb dX3_init_21 rfl (lv_at hl 0 rfl) ?_
  refine lv_bipush (v := 9) hx hb dX3_init_22 (by decide) ?_
  refine va_newa (atype := .int) (N' := 9) (a0 := (9, .inl (fun _ => 0))) hx hb (hts (.arrayClass .int) (by decide +kernel)) rfl hK hP hD hS hA (fun _ => rfl) (by decide) (by decide) (by decide) (Nat.le_of_ble_eq_true rfl) (Nat.le_of_ble_eq_true rfl) dX3_init_24 (fun q1 cA H hK hP hD hS => ?_)
  obtain ⟨c1, rfl⟩ : ∃ z, z = cA := ⟨_, rfl⟩
  have hK : va_K D vwCl [(c1, .int)] s := hK
  have hP : va_P D vwCl [(h0, .inr (2, [.int 200, .int 1, .int 1, .int 0, .int 0, .int 0, .null, .null, .null, .null, .null, .null, .null, .null, .null])), (q1, .inl (c1, 9, .inl (fun _ => 0)))] H := hP
  have hD : va_D A [(h0, .inr (2, [.int 200, .int 1, .int 1, .int 0, .int 0, .int 0, .null, .null, .null, .null, .null, .null, .null, .null, .null])), (q1, .inl (c1, 9, .inl (fun _ => 0)))] := hD
  refine va_putF (D := D) (ci := 2) (v := .ref q1) (C := RX3) (T := TX3) (N := 15) hx hb hts (by decide +kernel) tyX3 tyX3_ok nmX3 hown hK hP hD hS 0 rfl rfl 6 (by decide) (hts (.fieldLink RX3 21 "SecondHome$Track" "kinds" "[I") (by decide +kernel)) (fun _ h9 => h9) rfl hin rfl (tyX3_ok 6 (by decide)) rfl rfl (Nat.le_of_ble_eq_true rfl) dX3_init_26 (fun H locs hP hD hS => ?_)
  have hP : va_P D vwCl [(h0, .inr (2, [.int 200, .int 1, .int 1, .int 0, .int 0, .int 0, .ref q1, .null, .null, .null, .null, .null, .null, .null, .null])), (q1, .inl (c1, 9, .inl (fun _ => 0)))] H := hP
  have hD : va_D A [(h0, .inr (2, [.int 200, .int 1, .int 1, .int 0, .int 0, .int 0, .ref q1, .null, .null, .null, .null, .null, .null, .null, .null])), (q1, .inl (c1, 9, .inl (fun _ => 0)))] := hD
  refine lv_aload_n hx hb dX3_init_29 rfl (lv_at hl 0 rfl) ?_
  refine lv_bipush (v := 9) hx hb dX3_init_30 (by decide) ?_
  refine va_newa (atype := .int) (N' := 9) (a0 := (9, .inl (fun _ => 0))) hx hb (hts (.arrayClass .int) (by decide +kernel)) rfl hK hP hD hS hA (fun _ => rfl) (by decide) (by decide) (by decide) (Nat.le_of_ble_eq_true rfl) (Nat.le_of_ble_eq_true rfl) dX3_init_32 (fun q2 cA H hK hP hD hS => ?_)
  obtain rfl : c1 = cA := Option.some.inj ((show s.vm.findClass ("[" ++ FieldType.int.toString) = some c1 from (hK.2 0 _ rfl).2).symm.trans (hK.2 1 _ rfl).2)
  have hK := hK.sub (tys' := [(c1, .int)]) [0] rfl
  have hP : va_P D vwCl [(h0, .inr (2, [.int 200, .int 1, .int 1, .int 0, .int 0, .int 0, .ref q1, .null, .null, .null, .null, .null, .null, .null, .null])), (q1, .inl (c1, 9, .inl (fun _ => 0))), (q2, .inl (c1, 9, .inl (fun _ => 0)))] H := hP
  have hD : va_D A [(h0, .inr (2, [.int 200, .int 1, .int 1, .int 0, .int 0, .int 0, .ref q1, .null, .null, .null, .null, .null, .null, .null, .null])), (q1, .inl (c1, 9, .inl (fun _ => 0))), (q2, .inl (c1, 9, .inl (fun _ => 0)))] := hD
  refine va_putF (D := D) (ci := 2) (v := .ref q2) (C := RX3) (T := TX3) (N := 15) hx hb hts (by decide +kernel) tyX3 tyX3_ok nmX3 hown hK hP hD hS 0 rfl rfl 7 (by decide) (hts (.fieldLink RX3 25 "SecondHome$Track" "paces" "[I") (by decide +kernel)) (fun _ h9 => h9) rfl hin rfl (tyX3_ok 7 (by decide)) rfl rfl (Nat.le_of_ble_eq_true rfl) dX3_init_34 (fun H locs hP hD hS => ?_)
  have hP : va_P D vwCl [(h0, .inr (2, [.int 200, .int 1, .int 1, .int 0, .int 0, .int 0, .ref q1, .ref q2, .null, .null, .null, .null, .null, .null, .null])), (q1, .inl (c1, 9, .inl (fun _ => 0))), (q2, .inl (c1, 9, .inl (fun _ => 0)))] H := hP
  have hD : va_D A [(h0, .inr (2, [.int 200, .int 1, .int 1, .int 0, .int 0, .int 0, .ref q1, .ref q2, .null, .null, .null, .null, .null, .null, .null])), (q1, .inl (c1, 9, .inl (fun _ => 0))), (q2, .inl (c1, 9, .inl (fun _ => 0)))] := hD
  refine lv_aload_n hx hb dX3_init_37 rfl (lv_at hl 0 rfl) ?_
  refine lv_bipush (v := 9) hx hb dX3_init_38 (by decide) ?_
  refine va_newa (atype := .int) (N' := 9) (a0 := (9, .inl (fun _ => 0))) hx hb (hts (.arrayClass .int) (by decide +kernel)) rfl hK hP hD hS hA (fun _ => rfl) (by decide) (by decide) (by decide) (Nat.le_of_ble_eq_true rfl) (Nat.le_of_ble_eq_true rfl) dX3_init_40 (fun q3 cA H hK hP hD hS => ?_)
  obtain rfl : c1 = cA := Option.some.inj ((show s.vm.findClass ("[" ++ FieldType.int.toString) = some c1 from (hK.2 0 _ rfl).2).symm.trans (hK.2 1 _ rfl).2)
  have hK := hK.sub (tys' := [(c1, .int)]) [0] rfl
  have hP : va_P D vwCl [(h0, .inr (2, [.int 200, .int 1, .int 1, .int 0, .int 0, .int 0, .ref q1, .ref q2, .null, .null, .null, .null, .null, .null, .null])), (q1, .inl (c1, 9, .inl (fun _ => 0))), (q2, .inl (c1, 9, .inl (fun _ => 0))), (q3, .inl (c1, 9, .inl (fun _ => 0)))] H := hP
  have hD : va_D A [(h0, .inr (2, [.int 200, .int 1, .int 1, .int 0, .int 0, .int 0, .ref q1, .ref q2, .null, .null, .null, .null, .null, .null, .null])), (q1, .inl (c1, 9, .inl (fun _ => 0))), (q2, .inl (c1, 9, .inl (fun _ => 0))), (q3, .inl (c1, 9, .inl (fun _ => 0)))] := hD
  refine va_putF (D := D) (ci := 2) (v := .ref q3) (C := RX3) (T := TX3) (N := 15) hx hb hts (by decide +kernel) tyX3 tyX3_ok nmX3 hown hK hP hD hS 0 rfl rfl 8 (by decide) (hts (.fieldLink RX3 28 "SecondHome$Track" "breaths" "[I") (by decide +kernel)) (fun _ h9 => h9) rfl hin rfl (tyX3_ok 8 (by decide)) rfl rfl (Nat.le_of_ble_eq_true rfl) dX3_init_42 (fun H locs hP hD hS => ?_)
  have hP : va_P D vwCl [(h0, .inr (2, [.int 200, .int 1, .int 1, .int 0, .int 0, .int 0, .ref q1, .ref q2, .ref q3, .null, .null, .null, .null, .null, .null])), (q1, .inl (c1, 9, .inl (fun _ => 0))), (q2, .inl (c1, 9, .inl (fun _ => 0))), (q3, .inl (c1, 9, .inl (fun _ => 0)))] H := hP
  have hD : va_D A [(h0, .inr (2, [.int 200, .int 1, .int 1, .int 0, .int 0, .int 0, .ref q1, .ref q2, .ref q3, .null, .null, .null, .null, .null, .null])), (q1, .inl (c1, 9, .inl (fun _ => 0))), (q2, .inl (c1, 9, .inl (fun _ => 0))), (q3, .inl (c1, 9, .inl (fun _ => 0)))] := hD
  refine lv_aload_n hx hb dX3_init_45 rfl (lv_at hl 0 rfl) ?_
  refine lv_bipush (v := 9) hx hb dX3_init_46 (by decide) ?_
  refine va_newa (atype := .int) (N' := 9) (a0 := (9, .inl (fun _ => 0))) hx hb (hts (.arrayClass .int) (by decide +kernel)) rfl hK hP hD hS hA (fun _ => rfl) (by decide) (by decide) (by decide) (Nat.le_of_ble_eq_true rfl) (Nat.le_of_ble_eq_true rfl) dX3_init_48 (fun q4 cA H hK hP hD hS => ?_)
  obtain rfl : c1 = cA := Option.some.inj ((show s.vm.findClass ("[" ++ FieldType.int.toString) = some c1 from (hK.2 0 _ rfl).2).symm.trans (hK.2 1 _ rfl).2)
  have hK := hK.sub (tys' := [(c1, .int)]) [0] rfl
  have hP : va_P D vwCl [(h0, .inr (2, [.int 200, .int 1, .int 1, .int 0, .int 0, .int 0, .ref q1, .ref q2, .ref q3, .null, .null, .null, .null, .null, .null])), (q1, .inl (c1, 9, .inl (fun _ => 0))), (q2, .inl (c1, 9, .inl (fun _ => 0))), (q3, .inl (c1, 9, .inl (fun _ => 0))), (q4, .inl (c1, 9, .inl (fun _ => 0)))] H := hP
  have hD : va_D A [(h0, .inr (2, [.int 200, .int 1, .int 1, .int 0, .int 0, .int 0, .ref q1, .ref q2, .ref q3, .null, .null, .null, .null, .null, .null])), (q1, .inl (c1, 9, .inl (fun _ => 0))), (q2, .inl (c1, 9, .inl (fun _ => 0))), (q3, .inl (c1, 9, .inl (fun _ => 0))), (q4, .inl (c1, 9, .inl (fun _ => 0)))] := hD
  refine va_putF (D := D) (ci := 2) (v := .ref q4) (C := RX3) (T := TX3) (N := 15) hx hb hts (by decide +kernel) tyX3 tyX3_ok nmX3 hown hK hP hD hS 0 rfl rfl 9 (by decide) (hts (.fieldLink RX3 31 "SecondHome$Track" "friends" "[I") (by decide +kernel)) (fun _ h9 => h9) rfl hin rfl (tyX3_ok 9 (by decide)) rfl rfl (Nat.le_of_ble_eq_true rfl) dX3_init_50 (fun H locs hP hD hS => ?_)
  have hP : va_P D vwCl [(h0, .inr (2, [.int 200, .int 1, .int 1, .int 0, .int 0, .int 0, .ref q1, .ref q2, .ref q3, .ref q4, .null, .null, .null, .null, .null])), (q1, .inl (c1, 9, .inl (fun _ => 0))), (q2, .inl (c1, 9, .inl (fun _ => 0))), (q3, .inl (c1, 9, .inl (fun _ => 0))), (q4, .inl (c1, 9, .inl (fun _ => 0)))] H := hP
  have hD : va_D A [(h0, .inr (2, [.int 200, .int 1, .int 1, .int 0, .int 0, .int 0, .ref q1, .ref q2, .ref q3, .ref q4, .null, .null, .null, .null, .null])), (q1, .inl (c1, 9, .inl (fun _ => 0))), (q2, .inl (c1, 9, .inl (fun _ => 0))), (q3, .inl (c1, 9, .inl (fun _ => 0))), (q4, .inl (c1, 9, .inl (fun _ => 0)))] := hD
  refine lv_aload_n hx hb dX3_init_53 rfl (lv_at hl 0 rfl) ?_
  refine lv_bipush (v := 9) hx hb dX3_init_54 (by decide) ?_
  refine va_newa (atype := .int) (N' := 9) (a0 := (9, .inl (fun _ => 0))) hx hb (hts (.arrayClass .int) (by decide +kernel)) rfl hK hP hD hS hA (fun _ => rfl) (by decide) (by decide) (by decide) (Nat.le_of_ble_eq_true rfl) (Nat.le_of_ble_eq_true rfl) dX3_init_56 (fun q5 cA H hK hP hD hS => ?_)
  obtain rfl : c1 = cA := Option.some.inj ((show s.vm.findClass ("[" ++ FieldType.int.toString) = some c1 from (hK.2 0 _ rfl).2).symm.trans (hK.2 1 _ rfl).2)
  have hK := hK.sub (tys' := [(c1, .int)]) [0] rfl
  have hP : va_P D vwCl [(h0, .inr (2, [.int 200, .int 1, .int 1, .int 0, .int 0, .int 0, .ref q1, .ref q2, .ref q3, .ref q4, .null, .null, .null, .null, .null])), (q1, .inl (c1, 9, .inl (fun _ => 0))), (q2, .inl (c1, 9, .inl (fun _ => 0))), (q3, .inl (c1, 9, .inl (fun _ => 0))), (q4, .inl (c1, 9, .inl (fun _ => 0))), (q5, .inl (c1, 9, .inl (fun _ => 0)))] H := hP
  have hD : va_D A [(h0, .inr (2, [.int 200, .int 1, .int 1, .int 0, .int 0, .int 0, .ref q1, .ref q2, .ref q3, .ref q4, .null, .null, .null, .null, .null])), (q1, .inl (c1, 9, .inl (fun _ => 0))), (q2, .inl (c1, 9, .inl (fun _ => 0))), (q3, .inl (c1, 9, .inl (fun _ => 0))), (q4, .inl (c1, 9, .inl (fun _ => 0))), (q5, .inl (c1, 9, .inl (fun _ => 0)))] := hD
  refine va_putF (D := D) (ci := 2) (v := .ref q5) (C := RX3) (T := TX3) (N := 15) hx hb hts (by decide +kernel) tyX3 tyX3_ok nmX3 hown hK hP hD hS 0 rfl rfl 10 (by decide) (hts (.fieldLink RX3 34 "SecondHome$Track" "starts" "[I") (by decide +kernel)) (fun _ h9 => h9) rfl hin rfl (tyX3_ok 10 (by decide)) rfl rfl (Nat.le_of_ble_eq_true rfl) dX3_init_58 (fun H locs hP hD hS => ?_)
  have hP : va_P D vwCl [(h0, .inr (2, [.int 200, .int 1, .int 1, .int 0, .int 0, .int 0, .ref q1, .ref q2, .ref q3, .ref q4, .ref q5, .null, .null, .null, .null])), (q1, .inl (c1, 9, .inl (fun _ => 0))), (q2, .inl (c1, 9, .inl (fun _ => 0))), (q3, .inl (c1, 9, .inl (fun _ => 0))), (q4, .inl (c1, 9, .inl (fun _ => 0))), (q5, .inl (c1, 9, .inl (fun _ => 0)))] H := hP
  have hD : va_D A [(h0, .inr (2, [.int 200, .int 1, .int 1, .int 0, .int 0, .int 0, .ref q1, .ref q2, .ref q3, .ref q4, .ref q5, .null, .null, .null, .null])), (q1, .inl (c1, 9, .inl (fun _ => 0))), (q2, .inl (c1, 9, .inl (fun _ => 0))), (q3, .inl (c1, 9, .inl (fun _ => 0))), (q4, .inl (c1, 9, .inl (fun _ => 0))), (q5, .inl (c1, 9, .inl (fun _ => 0)))] := hD
  refine lv_aload_n hx hb dX3_init_61 rfl (lv_at hl 0 rfl) ?_
  refine lv_bipush (v := 9) hx hb dX3_init_62 (by decide) ?_
  refine va_newa (atype := .int) (N' := 9) (a0 := (9, .inl (fun _ => 0))) hx hb (hts (.arrayClass .int) (by decide +kernel)) rfl hK hP hD hS hA (fun _ => rfl) (by decide) (by decide) (by decide) (Nat.le_of_ble_eq_true rfl) (Nat.le_of_ble_eq_true rfl) dX3_init_64 (fun q6 cA H hK hP hD hS => ?_)
  obtain rfl : c1 = cA := Option.some.inj ((show s.vm.findClass ("[" ++ FieldType.int.toString) = some c1 from (hK.2 0 _ rfl).2).symm.trans (hK.2 1 _ rfl).2)
  have hK := hK.sub (tys' := [(c1, .int)]) [0] rfl
  have hP : va_P D vwCl [(h0, .inr (2, [.int 200, .int 1, .int 1, .int 0, .int 0, .int 0, .ref q1, .ref q2, .ref q3, .ref q4, .ref q5, .null, .null, .null, .null])), (q1, .inl (c1, 9, .inl (fun _ => 0))), (q2, .inl (c1, 9, .inl (fun _ => 0))), (q3, .inl (c1, 9, .inl (fun _ => 0))), (q4, .inl (c1, 9, .inl (fun _ => 0))), (q5, .inl (c1, 9, .inl (fun _ => 0))), (q6, .inl (c1, 9, .inl (fun _ => 0)))] H := hP
  have hD : va_D A [(h0, .inr (2, [.int 200, .int 1, .int 1, .int 0, .int 0, .int 0, .ref q1, .ref q2, .ref q3, .ref q4, .ref q5, .null, .null, .null, .null])), (q1, .inl (c1, 9, .inl (fun _ => 0))), (q2, .inl (c1, 9, .inl (fun _ => 0))), (q3, .inl (c1, 9, .inl (fun _ => 0))), (q4, .inl (c1, 9, .inl (fun _ => 0))), (q5, .inl (c1, 9, .inl (fun _ => 0))), (q6, .inl (c1, 9, .inl (fun _ => 0)))] := hD
  refine va_putF (D := D) (ci := 2) (v := .ref q6) (C := RX3) (T := TX3) (N := 15) hx hb hts (by decide +kernel) tyX3 tyX3_ok nmX3 hown hK hP hD hS 0 rfl rfl 11 (by decide) (hts (.fieldLink RX3 37 "SecondHome$Track" "yards" "[I") (by decide +kernel)) (fun _ h9 => h9) rfl hin rfl (tyX3_ok 11 (by decide)) rfl rfl (Nat.le_of_ble_eq_true rfl) dX3_init_66 (fun H locs hP hD hS => ?_)
  have hP : va_P D vwCl [(h0, .inr (2, [.int 200, .int 1, .int 1, .int 0, .int 0, .int 0, .ref q1, .ref q2, .ref q3, .ref q4, .ref q5, .ref q6, .null, .null, .null])), (q1, .inl (c1, 9, .inl (fun _ => 0))), (q2, .inl (c1, 9, .inl (fun _ => 0))), (q3, .inl (c1, 9, .inl (fun _ => 0))), (q4, .inl (c1, 9, .inl (fun _ => 0))), (q5, .inl (c1, 9, .inl (fun _ => 0))), (q6, .inl (c1, 9, .inl (fun _ => 0)))] H := hP
  have hD : va_D A [(h0, .inr (2, [.int 200, .int 1, .int 1, .int 0, .int 0, .int 0, .ref q1, .ref q2, .ref q3, .ref q4, .ref q5, .ref q6, .null, .null, .null])), (q1, .inl (c1, 9, .inl (fun _ => 0))), (q2, .inl (c1, 9, .inl (fun _ => 0))), (q3, .inl (c1, 9, .inl (fun _ => 0))), (q4, .inl (c1, 9, .inl (fun _ => 0))), (q5, .inl (c1, 9, .inl (fun _ => 0))), (q6, .inl (c1, 9, .inl (fun _ => 0)))] := hD
  refine lv_aload_n hx hb dX3_init_69 rfl (lv_at hl 0 rfl) ?_
  refine lv_bipush (v := 9) hx hb dX3_init_70 (by decide) ?_
  refine va_newa (atype := .int) (N' := 9) (a0 := (9, .inl (fun _ => 0))) hx hb (hts (.arrayClass .int) (by decide +kernel)) rfl hK hP hD hS hA (fun _ => rfl) (by decide) (by decide) (by decide) (Nat.le_of_ble_eq_true rfl) (Nat.le_of_ble_eq_true rfl) dX3_init_72 (fun q7 cA H hK hP hD hS => ?_)
  obtain rfl : c1 = cA := Option.some.inj ((show s.vm.findClass ("[" ++ FieldType.int.toString) = some c1 from (hK.2 0 _ rfl).2).symm.trans (hK.2 1 _ rfl).2)
  have hK := hK.sub (tys' := [(c1, .int)]) [0] rfl
  have hP : va_P D vwCl [(h0, .inr (2, [.int 200, .int 1, .int 1, .int 0, .int 0, .int 0, .ref q1, .ref q2, .ref q3, .ref q4, .ref q5, .ref q6, .null, .null, .null])), (q1, .inl (c1, 9, .inl (fun _ => 0))), (q2, .inl (c1, 9, .inl (fun _ => 0))), (q3, .inl (c1, 9, .inl (fun _ => 0))), (q4, .inl (c1, 9, .inl (fun _ => 0))), (q5, .inl (c1, 9, .inl (fun _ => 0))), (q6, .inl (c1, 9, .inl (fun _ => 0))), (q7, .inl (c1, 9, .inl (fun _ => 0)))] H := hP
  have hD : va_D A [(h0, .inr (2, [.int 200, .int 1, .int 1, .int 0, .int 0, .int 0, .ref q1, .ref q2, .ref q3, .ref q4, .ref q5, .ref q6, .null, .null, .null])), (q1, .inl (c1, 9, .inl (fun _ => 0))), (q2, .inl (c1, 9, .inl (fun _ => 0))), (q3, .inl (c1, 9, .inl (fun _ => 0))), (q4, .inl (c1, 9, .inl (fun _ => 0))), (q5, .inl (c1, 9, .inl (fun _ => 0))), (q6, .inl (c1, 9, .inl (fun _ => 0))), (q7, .inl (c1, 9, .inl (fun _ => 0)))] := hD
  refine va_putF (D := D) (ci := 2) (v := .ref q7) (C := RX3) (T := TX3) (N := 15) hx hb hts (by decide +kernel) tyX3 tyX3_ok nmX3 hown hK hP hD hS 0 rfl rfl 12 (by decide) (hts (.fieldLink RX3 40 "SecondHome$Track" "points" "[I") (by decide +kernel)) (fun _ h9 => h9) rfl hin rfl (tyX3_ok 12 (by decide)) rfl rfl (Nat.le_of_ble_eq_true rfl) dX3_init_74 (fun H locs hP hD hS => ?_)
  have hP : va_P D vwCl [(h0, .inr (2, [.int 200, .int 1, .int 1, .int 0, .int 0, .int 0, .ref q1, .ref q2, .ref q3, .ref q4, .ref q5, .ref q6, .ref q7, .null, .null])), (q1, .inl (c1, 9, .inl (fun _ => 0))), (q2, .inl (c1, 9, .inl (fun _ => 0))), (q3, .inl (c1, 9, .inl (fun _ => 0))), (q4, .inl (c1, 9, .inl (fun _ => 0))), (q5, .inl (c1, 9, .inl (fun _ => 0))), (q6, .inl (c1, 9, .inl (fun _ => 0))), (q7, .inl (c1, 9, .inl (fun _ => 0)))] H := hP
  have hD : va_D A [(h0, .inr (2, [.int 200, .int 1, .int 1, .int 0, .int 0, .int 0, .ref q1, .ref q2, .ref q3, .ref q4, .ref q5, .ref q6, .ref q7, .null, .null])), (q1, .inl (c1, 9, .inl (fun _ => 0))), (q2, .inl (c1, 9, .inl (fun _ => 0))), (q3, .inl (c1, 9, .inl (fun _ => 0))), (q4, .inl (c1, 9, .inl (fun _ => 0))), (q5, .inl (c1, 9, .inl (fun _ => 0))), (q6, .inl (c1, 9, .inl (fun _ => 0))), (q7, .inl (c1, 9, .inl (fun _ => 0)))] := hD
  refine lv_aload_n hx hb dX3_init_77 rfl (lv_at hl 0 rfl) ?_
  refine lv_bipush (v := 9) hx hb dX3_init_78 (by decide) ?_
  refine va_newa (atype := .int) (N' := 9) (a0 := (9, .inl (fun _ => 0))) hx hb (hts (.arrayClass .int) (by decide +kernel)) rfl hK hP hD hS hA (fun _ => rfl) (by decide) (by decide) (by decide) (Nat.le_of_ble_eq_true rfl) (Nat.le_of_ble_eq_true rfl) dX3_init_80 (fun q8 cA H hK hP hD hS => ?_)
  obtain rfl : c1 = cA := Option.some.inj ((show s.vm.findClass ("[" ++ FieldType.int.toString) = some c1 from (hK.2 0 _ rfl).2).symm.trans (hK.2 1 _ rfl).2)
  have hK := hK.sub (tys' := [(c1, .int)]) [0] rfl
  have hP : va_P D vwCl [(h0, .inr (2, [.int 200, .int 1, .int 1, .int 0, .int 0, .int 0, .ref q1, .ref q2, .ref q3, .ref q4, .ref q5, .ref q6, .ref q7, .null, .null])), (q1, .inl (c1, 9, .inl (fun _ => 0))), (q2, .inl (c1, 9, .inl (fun _ => 0))), (q3, .inl (c1, 9, .inl (fun _ => 0))), (q4, .inl (c1, 9, .inl (fun _ => 0))), (q5, .inl (c1, 9, .inl (fun _ => 0))), (q6, .inl (c1, 9, .inl (fun _ => 0))), (q7, .inl (c1, 9, .inl (fun _ => 0))), (q8, .inl (c1, 9, .inl (fun _ => 0)))] H := hP
  have hD : va_D A [(h0, .inr (2, [.int 200, .int 1, .int 1, .int 0, .int 0, .int 0, .ref q1, .ref q2, .ref q3, .ref q4, .ref q5, .ref q6, .ref q7, .null, .null])), (q1, .inl (c1, 9, .inl (fun _ => 0))), (q2, .inl (c1, 9, .inl (fun _ => 0))), (q3, .inl (c1, 9, .inl (fun _ => 0))), (q4, .inl (c1, 9, .inl (fun _ => 0))), (q5, .inl (c1, 9, .inl (fun _ => 0))), (q6, .inl (c1, 9, .inl (fun _ => 0))), (q7, .inl (c1, 9, .inl (fun _ => 0))), (q8, .inl (c1, 9, .inl (fun _ => 0)))] := hD
  refine va_putF (D := D) (ci := 2) (v := .ref q8) (C := RX3) (T := TX3) (N := 15) hx hb hts (by decide +kernel) tyX3 tyX3_ok nmX3 hown hK hP hD hS 0 rfl rfl 13 (by decide) (hts (.fieldLink RX3 43 "SecondHome$Track" "homes" "[I") (by decide +kernel)) (fun _ h9 => h9) rfl hin rfl (tyX3_ok 13 (by decide)) rfl rfl (Nat.le_of_ble_eq_true rfl) dX3_init_82 (fun H locs hP hD hS => ?_)
  have hP : va_P D vwCl [(h0, .inr (2, [.int 200, .int 1, .int 1, .int 0, .int 0, .int 0, .ref q1, .ref q2, .ref q3, .ref q4, .ref q5, .ref q6, .ref q7, .ref q8, .null])), (q1, .inl (c1, 9, .inl (fun _ => 0))), (q2, .inl (c1, 9, .inl (fun _ => 0))), (q3, .inl (c1, 9, .inl (fun _ => 0))), (q4, .inl (c1, 9, .inl (fun _ => 0))), (q5, .inl (c1, 9, .inl (fun _ => 0))), (q6, .inl (c1, 9, .inl (fun _ => 0))), (q7, .inl (c1, 9, .inl (fun _ => 0))), (q8, .inl (c1, 9, .inl (fun _ => 0)))] H := hP
  have hD : va_D A [(h0, .inr (2, [.int 200, .int 1, .int 1, .int 0, .int 0, .int 0, .ref q1, .ref q2, .ref q3, .ref q4, .ref q5, .ref q6, .ref q7, .ref q8, .null])), (q1, .inl (c1, 9, .inl (fun _ => 0))), (q2, .inl (c1, 9, .inl (fun _ => 0))), (q3, .inl (c1, 9, .inl (fun _ => 0))), (q4, .inl (c1, 9, .inl (fun _ => 0))), (q5, .inl (c1, 9, .inl (fun _ => 0))), (q6, .inl (c1, 9, .inl (fun _ => 0))), (q7, .inl (c1, 9, .inl (fun _ => 0))), (q8, .inl (c1, 9, .inl (fun _ => 0)))] := hD
  refine lv_aload_n hx hb dX3_init_85 rfl (lv_at hl 0 rfl) ?_
  refine lv_bipush (v := 9) hx hb dX3_init_86 (by decide) ?_
  refine va_newa (atype := .int) (N' := 9) (a0 := (9, .inl (fun _ => 0))) hx hb (hts (.arrayClass .int) (by decide +kernel)) rfl hK hP hD hS hA (fun _ => rfl) (by decide) (by decide) (by decide) (Nat.le_of_ble_eq_true rfl) (Nat.le_of_ble_eq_true rfl) dX3_init_88 (fun q9 cA H hK hP hD hS => ?_)
  obtain rfl : c1 = cA := Option.some.inj ((show s.vm.findClass ("[" ++ FieldType.int.toString) = some c1 from (hK.2 0 _ rfl).2).symm.trans (hK.2 1 _ rfl).2)
  have hK := hK.sub (tys' := [(c1, .int)]) [0] rfl
  have hP : va_P D vwCl [(h0, .inr (2, [.int 200, .int 1, .int 1, .int 0, .int 0, .int 0, .ref q1, .ref q2, .ref q3, .ref q4, .ref q5, .ref q6, .ref q7, .ref q8, .null])), (q1, .inl (c1, 9, .inl (fun _ => 0))), (q2, .inl (c1, 9, .inl (fun _ => 0))), (q3, .inl (c1, 9, .inl (fun _ => 0))), (q4, .inl (c1, 9, .inl (fun _ => 0))), (q5, .inl (c1, 9, .inl (fun _ => 0))), (q6, .inl (c1, 9, .inl (fun _ => 0))), (q7, .inl (c1, 9, .inl (fun _ => 0))), (q8, .inl (c1, 9, .inl (fun _ => 0))), (q9, .inl (c1, 9, .inl (fun _ => 0)))] H := hP
  have hD : va_D A [(h0, .inr (2, [.int 200, .int 1, .int 1, .int 0, .int 0, .int 0, .ref q1, .ref q2, .ref q3, .ref q4, .ref q5, .ref q6, .ref q7, .ref q8, .null])), (q1, .inl (c1, 9, .inl (fun _ => 0))), (q2, .inl (c1, 9, .inl (fun _ => 0))), (q3, .inl (c1, 9, .inl (fun _ => 0))), (q4, .inl (c1, 9, .inl (fun _ => 0))), (q5, .inl (c1, 9, .inl (fun _ => 0))), (q6, .inl (c1, 9, .inl (fun _ => 0))), (q7, .inl (c1, 9, .inl (fun _ => 0))), (q8, .inl (c1, 9, .inl (fun _ => 0))), (q9, .inl (c1, 9, .inl (fun _ => 0)))] := hD
  refine va_putF (D := D) (ci := 2) (v := .ref q9) (C := RX3) (T := TX3) (N := 15) hx hb hts (by decide +kernel) tyX3 tyX3_ok nmX3 hown hK hP hD hS 0 rfl rfl 14 (by decide) (hts (.fieldLink RX3 46 "SecondHome$Track" "strides" "[I") (by decide +kernel)) (fun _ h9 => h9) rfl hin rfl (tyX3_ok 14 (by decide)) rfl rfl (Nat.le_of_ble_eq_true rfl) dX3_init_90 (fun H locs hP hD hS => ?_)
  have hP : va_P D vwCl [(h0, .inr (2, [.int 200, .int 1, .int 1, .int 0, .int 0, .int 0, .ref q1, .ref q2, .ref q3, .ref q4, .ref q5, .ref q6, .ref q7, .ref q8, .ref q9])), (q1, .inl (c1, 9, .inl (fun _ => 0))), (q2, .inl (c1, 9, .inl (fun _ => 0))), (q3, .inl (c1, 9, .inl (fun _ => 0))), (q4, .inl (c1, 9, .inl (fun _ => 0))), (q5, .inl (c1, 9, .inl (fun _ => 0))), (q6, .inl (c1, 9, .inl (fun _ => 0))), (q7, .inl (c1, 9, .inl (fun _ => 0))), (q8, .inl (c1, 9, .inl (fun _ => 0))), (q9, .inl (c1, 9, .inl (fun _ => 0)))] H := hP
  have hD : va_D A [(h0, .inr (2, [.int 200, .int 1, .int 1, .int 0, .int 0, .int 0, .ref q1, .ref q2, .ref q3, .ref q4, .ref q5, .ref q6, .ref q7, .ref q8, .ref q9])), (q1, .inl (c1, 9, .inl (fun _ => 0))), (q2, .inl (c1, 9, .inl (fun _ => 0))), (q3, .inl (c1, 9, .inl (fun _ => 0))), (q4, .inl (c1, 9, .inl (fun _ => 0))), (q5, .inl (c1, 9, .inl (fun _ => 0))), (q6, .inl (c1, 9, .inl (fun _ => 0))), (q7, .inl (c1, 9, .inl (fun _ => 0))), (q8, .inl (c1, 9, .inl (fun _ => 0))), (q9, .inl (c1, 9, .inl (fun _ => 0)))] := hD
  exact W.vret hx hb hr (fun t ht hW => ⟨⟨(), rfl, trivial, c1, (fun j => if j = 0 then h0 else if j = 1 then q1 else if j = 2 then q2 else if j = 3 then q3 else if j = 4 then q4 else if j = 5 then q5 else if j = 6 then q6 else if j = 7 then q7 else if j = 8 then q8 else q9), rfl, by rw [ht]; exact hP, va_K.moved hW.alike hK, hD⟩, hS.F ht⟩) hS.2.2 dX3_init_93
set_option maxHeartbeats 4000000 in
set_option maxRecDepth 100000 in
/-- the reference -/
theorem iX5 (l : Launch) (D : va_G) (h0 sz : Nat) : Met l yX5_init wsX5_init ({ frames := 1, cells := 9, slots := 536, locals := 12 }) (va_Pc [.ref h0] (fun U => U.heap.size = sz ∧ va_P D vwCl [(h0, .inr (4, [.null, .null, .null, .int 0, .null, .null, .int 0, .null, .null, .null, .null, .int 0, .int 0, .int 0, .int 0]))] U.heap ∧ va_K D vwCl [] U ∧ va_D (fun _ => True) [(h0, .inr (4, [.null, .null, .null, .int 0, .null, .null, .int 0, .null, .null, .null, .null, .int 0, .int 0, .int 0, .int 0]))])) (va_Qv (fun _ : Unit => True) (fun _ t => ∃ (c1 c2 : ClassId) (a : Nat → Nat), a 0 = h0 ∧ va_P D vwCl (mdW c1 c2 a sM0) t.heap ∧ va_K D vwCl [(c1, .int), (c2, .long)] t ∧ va_D (va_A [(h0, .inr (4, [.null, .null, .null, .int 0, .null, .null, .int 0, .null, .null, .null, .null, .int 0, .int 0, .int 0, .int 0]))] sz) (mdW c1 c2 a sM0)) (va_A [(h0, .inr (4, [.null, .null, .null, .int 0, .null, .null, .int 0, .null, .null, .null, .null, .int 0, .int 0, .int 0, .int 0]))] sz)) 9 536 (va_A [(h0, .inr (4, [.null, .null, .null, .int 0, .null, .null, .int 0, .null, .null, .null, .null, .int 0, .int 0, .int 0, .int 0]))] sz) := by
  refine Met.ofW (cc := cX5_init) (maxL := 1) (ret := none) (by decide) rfl ?_
  intro p e s m args below meth c s₁ B hml hv
  obtain ⟨rfl, hsz, hP, hK, hD0⟩ := hv
  have hx := B.exec
  have hb := B.bytes
  have hr := B.returns
  have hts := atoms_spec (ws := wsX5_init) B.pre
  have hown : s.vm.findClass RX5 = some m.cls := findClass_of_methodNamed B.named
  have hin : meth.name = "<init>" := (name_of_methodNamed B.named B.method).1
  subst hsz
  have hD := hD0.self (sz := s.heap.size)
  generalize hAe : va_A [(h0, .inr (4, [.null, .null, .null, .int 0, .null, .null, .int 0, .null, .null, .null, .null, .int 0, .int 0, .int 0, .int 0]))] s.heap.size = A at hD ⊢
  have hA : ∀ q : Nat, s.heap.size ≤ q → A q := fun q h => by rw [← hAe]; exact Or.inr h
  have hS : va_S A s.heap s.heap [] := va_S.rf
  have hl := lv_entry ([.ref h0]) (n := 1) (Nat.le_of_ble_eq_true rfl)
  rw [lg_entry_eq]
  generalize (lg_sl ([.ref h0]) ++ List.replicate (1 - (lg_sl ([.ref h0])).length) Slot.unset).toArray = ls at hl ⊢
  have hl : lv_has ls 1 [(0, .ref h0)] := hl
  refine lv_aload_n hx hb dX5_init_0 rfl (lv_at hl 0 rfl) ?_
  refine W.objInit hx hb hown (hts (.methodLink RX5 1 objectInit) (by decide +kernel)) (hts (.instanceMethod objectInit) (by decide +kernel)) (hts _ (List.mem_cons_of_mem _ (List.mem_append_left _ (List.mem_of_getElem? (i := 2) rfl)))) rfl (by rw [hml]; exact hl.1) rfl dX5_init_1 (Nat.le_of_ble_eq_true rfl) (Nat.le_of_ble_eq_true rfl) ?_
  refine W.eq (g2 := F0 m 4 ls []) rfl ?_
  refine lv_aload_n hx hb dX5_init_4 rfl (lv_at hl 0 rfl) ?_
  refine lv_bipush (v := 77) hx hb dX5_init_5 (by decide) ?_
  refine va_newa (atype := .int) (N' := 77) (a0 := (77, .inl (fun _ => 0))) hx hb (hts (.arrayClass .int) (by decide +kernel)) rfl hK hP hD hS hA (fun _ => rfl) (by decide) (by decide) (by decide) (Nat.le_of_ble_eq_true rfl) (Nat.le_of_ble_eq_true rfl) dX5_init_7 (fun q1 cA H hK hP hD hS => ?_)
  obtain ⟨c1, rfl⟩ : ∃ z, z = cA := ⟨_, rfl⟩
  have hK : va_K D vwCl [(c1, .int)] s := hK
  have hP : va_P D vwCl [(h0, .inr (4, [.null, .null, .null, .int 0, .null, .null, .int 0, .null, .null, .null, .null, .int 0, .int 0, .int 0, .int 0])), (q1, .inl (c1, 77, .inl (fun _ => 0)))] H := hP
  have hD : va_D A [(h0, .inr (4, [.null, .null, .null, .int 0, .null, .null, .int 0, .null, .null, .null, .null, .int 0, .int 0, .int 0, .int 0])), (q1, .inl (c1, 77, .inl (fun _ => 0)))] := hD
  refine va_putF (D := D) (ci := 4) (v := .ref q1) (C := RX5) (T := TX5) (N := 15) hx hb hts (by decide +kernel) tyX5 tyX5_ok nmX5 hown hK hP hD hS 0 rfl rfl 0 (by decide) (hts (.fieldLink RX5 7 "SecondHomeModel" "s" "[I") (by decide +kernel)) (fun _ h9 => h9) rfl hin rfl (tyX5_ok 0 (by decide)) rfl rfl (Nat.le_of_ble_eq_true rfl) dX5_init_9 (fun H locs hP hD hS => ?_)
  have hP : va_P D vwCl [(h0, .inr (4, [.ref q1, .null, .null, .int 0, .null, .null, .int 0, .null, .null, .null, .null, .int 0, .int 0, .int 0, .int 0])), (q1, .inl (c1, 77, .inl (fun _ => 0)))] H := hP
  have hD : va_D A [(h0, .inr (4, [.ref q1, .null, .null, .int 0, .null, .null, .int 0, .null, .null, .null, .null, .int 0, .int 0, .int 0, .int 0])), (q1, .inl (c1, 77, .inl (fun _ => 0)))] := hD
  refine lv_aload_n hx hb dX5_init_12 rfl (lv_at hl 0 rfl) ?_
  refine lv_bipush (v := 77) hx hb dX5_init_13 (by decide) ?_
  refine va_newa (atype := .int) (N' := 77) (a0 := (77, .inl (fun _ => 0))) hx hb (hts (.arrayClass .int) (by decide +kernel)) rfl hK hP hD hS hA (fun _ => rfl) (by decide) (by decide) (by decide) (Nat.le_of_ble_eq_true rfl) (Nat.le_of_ble_eq_true rfl) dX5_init_15 (fun q2 cA H hK hP hD hS => ?_)
  obtain rfl : c1 = cA := Option.some.inj ((show s.vm.findClass ("[" ++ FieldType.int.toString) = some c1 from (hK.2 0 _ rfl).2).symm.trans (hK.2 1 _ rfl).2)
  have hK := hK.sub (tys' := [(c1, .int)]) [0] rfl
  have hP : va_P D vwCl [(h0, .inr (4, [.ref q1, .null, .null, .int 0, .null, .null, .int 0, .null, .null, .null, .null, .int 0, .int 0, .int 0, .int 0])), (q1, .inl (c1, 77, .inl (fun _ => 0))), (q2, .inl (c1, 77, .inl (fun _ => 0)))] H := hP
  have hD : va_D A [(h0, .inr (4, [.ref q1, .null, .null, .int 0, .null, .null, .int 0, .null, .null, .null, .null, .int 0, .int 0, .int 0, .int 0])), (q1, .inl (c1, 77, .inl (fun _ => 0))), (q2, .inl (c1, 77, .inl (fun _ => 0)))] := hD
  refine va_putF (D := D) (ci := 4) (v := .ref q2) (C := RX5) (T := TX5) (N := 15) hx hb hts (by decide +kernel) tyX5 tyX5_ok nmX5 hown hK hP hD hS 0 rfl rfl 1 (by decide) (hts (.fieldLink RX5 13 "SecondHomeModel" "kept" "[I") (by decide +kernel)) (fun _ h9 => h9) rfl hin rfl (tyX5_ok 1 (by decide)) rfl rfl (Nat.le_of_ble_eq_true rfl) dX5_init_17 (fun H locs hP hD hS => ?_)
  have hP : va_P D vwCl [(h0, .inr (4, [.ref q1, .ref q2, .null, .int 0, .null, .null, .int 0, .null, .null, .null, .null, .int 0, .int 0, .int 0, .int 0])), (q1, .inl (c1, 77, .inl (fun _ => 0))), (q2, .inl (c1, 77, .inl (fun _ => 0)))] H := hP
  have hD : va_D A [(h0, .inr (4, [.ref q1, .ref q2, .null, .int 0, .null, .null, .int 0, .null, .null, .null, .null, .int 0, .int 0, .int 0, .int 0])), (q1, .inl (c1, 77, .inl (fun _ => 0))), (q2, .inl (c1, 77, .inl (fun _ => 0)))] := hD
  refine lv_aload_n hx hb dX5_init_20 rfl (lv_at hl 0 rfl) ?_
  refine lv_bipush (v := 77) hx hb dX5_init_21 (by decide) ?_
  refine va_newa (atype := .int) (N' := 77) (a0 := (77, .inl (fun _ => 0))) hx hb (hts (.arrayClass .int) (by decide +kernel)) rfl hK hP hD hS hA (fun _ => rfl) (by decide) (by decide) (by decide) (Nat.le_of_ble_eq_true rfl) (Nat.le_of_ble_eq_true rfl) dX5_init_23 (fun q3 cA H hK hP hD hS => ?_)
  obtain rfl : c1 = cA := Option.some.inj ((show s.vm.findClass ("[" ++ FieldType.int.toString) = some c1 from (hK.2 0 _ rfl).2).symm.trans (hK.2 1 _ rfl).2)
  have hK := hK.sub (tys' := [(c1, .int)]) [0] rfl
  have hP : va_P D vwCl [(h0, .inr (4, [.ref q1, .ref q2, .null, .int 0, .null, .null, .int 0, .null, .null, .null, .null, .int 0, .int 0, .int 0, .int 0])), (q1, .inl (c1, 77, .inl (fun _ => 0))), (q2, .inl (c1, 77, .inl (fun _ => 0))), (q3, .inl (c1, 77, .inl (fun _ => 0)))] H := hP
  have hD : va_D A [(h0, .inr (4, [.ref q1, .ref q2, .null, .int 0, .null, .null, .int 0, .null, .null, .null, .null, .int 0, .int 0, .int 0, .int 0])), (q1, .inl (c1, 77, .inl (fun _ => 0))), (q2, .inl (c1, 77, .inl (fun _ => 0))), (q3, .inl (c1, 77, .inl (fun _ => 0)))] := hD
  refine va_putF (D := D) (ci := 4) (v := .ref q3) (C := RX5) (T := TX5) (N := 15) hx hb hts (by decide +kernel) tyX5 tyX5_ok nmX5 hown hK hP hD hS 0 rfl rfl 2 (by decide) (hts (.fieldLink RX5 16 "SecondHomeModel" "close" "[I") (by decide +kernel)) (fun _ h9 => h9) rfl hin rfl (tyX5_ok 2 (by decide)) rfl rfl (Nat.le_of_ble_eq_true rfl) dX5_init_25 (fun H locs hP hD hS => ?_)
  have hP : va_P D vwCl [(h0, .inr (4, [.ref q1, .ref q2, .ref q3, .int 0, .null, .null, .int 0, .null, .null, .null, .null, .int 0, .int 0, .int 0, .int 0])), (q1, .inl (c1, 77, .inl (fun _ => 0))), (q2, .inl (c1, 77, .inl (fun _ => 0))), (q3, .inl (c1, 77, .inl (fun _ => 0)))] H := hP
  have hD : va_D A [(h0, .inr (4, [.ref q1, .ref q2, .ref q3, .int 0, .null, .null, .int 0, .null, .null, .null, .null, .int 0, .int 0, .int 0, .int 0])), (q1, .inl (c1, 77, .inl (fun _ => 0))), (q2, .inl (c1, 77, .inl (fun _ => 0))), (q3, .inl (c1, 77, .inl (fun _ => 0)))] := hD
  refine lv_aload_n hx hb dX5_init_28 rfl (lv_at hl 0 rfl) ?_
  refine lv_bipush (v := 8) hx hb dX5_init_29 (by decide) ?_
  refine va_newa (atype := .int) (N' := 8) (a0 := (8, .inl (fun _ => 0))) hx hb (hts (.arrayClass .int) (by decide +kernel)) rfl hK hP hD hS hA (fun _ => rfl) (by decide) (by decide) (by decide) (Nat.le_of_ble_eq_true rfl) (Nat.le_of_ble_eq_true rfl) dX5_init_31 (fun q4 cA H hK hP hD hS => ?_)
  obtain rfl : c1 = cA := Option.some.inj ((show s.vm.findClass ("[" ++ FieldType.int.toString) = some c1 from (hK.2 0 _ rfl).2).symm.trans (hK.2 1 _ rfl).2)
  have hK := hK.sub (tys' := [(c1, .int)]) [0] rfl
  have hP : va_P D vwCl [(h0, .inr (4, [.ref q1, .ref q2, .ref q3, .int 0, .null, .null, .int 0, .null, .null, .null, .null, .int 0, .int 0, .int 0, .int 0])), (q1, .inl (c1, 77, .inl (fun _ => 0))), (q2, .inl (c1, 77, .inl (fun _ => 0))), (q3, .inl (c1, 77, .inl (fun _ => 0))), (q4, .inl (c1, 8, .inl (fun _ => 0)))] H := hP
  have hD : va_D A [(h0, .inr (4, [.ref q1, .ref q2, .ref q3, .int 0, .null, .null, .int 0, .null, .null, .null, .null, .int 0, .int 0, .int 0, .int 0])), (q1, .inl (c1, 77, .inl (fun _ => 0))), (q2, .inl (c1, 77, .inl (fun _ => 0))), (q3, .inl (c1, 77, .inl (fun _ => 0))), (q4, .inl (c1, 8, .inl (fun _ => 0)))] := hD
  refine va_putF (D := D) (ci := 4) (v := .ref q4) (C := RX5) (T := TX5) (N := 15) hx hb hts (by decide +kernel) tyX5 tyX5_ok nmX5 hown hK hP hD hS 0 rfl rfl 4 (by decide) (hts (.fieldLink RX5 19 "SecondHomeModel" "findings" "[I") (by decide +kernel)) (fun _ h9 => h9) rfl hin rfl (tyX5_ok 4 (by decide)) rfl rfl (Nat.le_of_ble_eq_true rfl) dX5_init_33 (fun H locs hP hD hS => ?_)
  have hP : va_P D vwCl [(h0, .inr (4, [.ref q1, .ref q2, .ref q3, .int 0, .ref q4, .null, .int 0, .null, .null, .null, .null, .int 0, .int 0, .int 0, .int 0])), (q1, .inl (c1, 77, .inl (fun _ => 0))), (q2, .inl (c1, 77, .inl (fun _ => 0))), (q3, .inl (c1, 77, .inl (fun _ => 0))), (q4, .inl (c1, 8, .inl (fun _ => 0)))] H := hP
  have hD : va_D A [(h0, .inr (4, [.ref q1, .ref q2, .ref q3, .int 0, .ref q4, .null, .int 0, .null, .null, .null, .null, .int 0, .int 0, .int 0, .int 0])), (q1, .inl (c1, 77, .inl (fun _ => 0))), (q2, .inl (c1, 77, .inl (fun _ => 0))), (q3, .inl (c1, 77, .inl (fun _ => 0))), (q4, .inl (c1, 8, .inl (fun _ => 0)))] := hD
  refine lv_aload_n hx hb dX5_init_36 rfl (lv_at hl 0 rfl) ?_
  refine lv_bipush (v := 120) hx hb dX5_init_37 (by decide) ?_
  refine va_newa (atype := .int) (N' := 120) (a0 := (120, .inl (fun _ => 0))) hx hb (hts (.arrayClass .int) (by decide +kernel)) rfl hK hP hD hS hA (fun _ => rfl) (by decide) (by decide) (by decide) (Nat.le_of_ble_eq_true rfl) (Nat.le_of_ble_eq_true rfl) dX5_init_39 (fun q5 cA H hK hP hD hS => ?_)
  obtain rfl : c1 = cA := Option.some.inj ((show s.vm.findClass ("[" ++ FieldType.int.toString) = some c1 from (hK.2 0 _ rfl).2).symm.trans (hK.2 1 _ rfl).2)
  have hK := hK.sub (tys' := [(c1, .int)]) [0] rfl
  have hP : va_P D vwCl [(h0, .inr (4, [.ref q1, .ref q2, .ref q3, .int 0, .ref q4, .null, .int 0, .null, .null, .null, .null, .int 0, .int 0, .int 0, .int 0])), (q1, .inl (c1, 77, .inl (fun _ => 0))), (q2, .inl (c1, 77, .inl (fun _ => 0))), (q3, .inl (c1, 77, .inl (fun _ => 0))), (q4, .inl (c1, 8, .inl (fun _ => 0))), (q5, .inl (c1, 120, .inl (fun _ => 0)))] H := hP
  have hD : va_D A [(h0, .inr (4, [.ref q1, .ref q2, .ref q3, .int 0, .ref q4, .null, .int 0, .null, .null, .null, .null, .int 0, .int 0, .int 0, .int 0])), (q1, .inl (c1, 77, .inl (fun _ => 0))), (q2, .inl (c1, 77, .inl (fun _ => 0))), (q3, .inl (c1, 77, .inl (fun _ => 0))), (q4, .inl (c1, 8, .inl (fun _ => 0))), (q5, .inl (c1, 120, .inl (fun _ => 0)))] := hD
  refine va_putF (D := D) (ci := 4) (v := .ref q5) (C := RX5) (T := TX5) (N := 15) hx hb hts (by decide +kernel) tyX5 tyX5_ok nmX5 hown hK hP hD hS 0 rfl rfl 5 (by decide) (hts (.fieldLink RX5 22 "SecondHomeModel" "tape" "[I") (by decide +kernel)) (fun _ h9 => h9) rfl hin rfl (tyX5_ok 5 (by decide)) rfl rfl (Nat.le_of_ble_eq_true rfl) dX5_init_41 (fun H locs hP hD hS => ?_)
  have hP : va_P D vwCl [(h0, .inr (4, [.ref q1, .ref q2, .ref q3, .int 0, .ref q4, .ref q5, .int 0, .null, .null, .null, .null, .int 0, .int 0, .int 0, .int 0])), (q1, .inl (c1, 77, .inl (fun _ => 0))), (q2, .inl (c1, 77, .inl (fun _ => 0))), (q3, .inl (c1, 77, .inl (fun _ => 0))), (q4, .inl (c1, 8, .inl (fun _ => 0))), (q5, .inl (c1, 120, .inl (fun _ => 0)))] H := hP
  have hD : va_D A [(h0, .inr (4, [.ref q1, .ref q2, .ref q3, .int 0, .ref q4, .ref q5, .int 0, .null, .null, .null, .null, .int 0, .int 0, .int 0, .int 0])), (q1, .inl (c1, 77, .inl (fun _ => 0))), (q2, .inl (c1, 77, .inl (fun _ => 0))), (q3, .inl (c1, 77, .inl (fun _ => 0))), (q4, .inl (c1, 8, .inl (fun _ => 0))), (q5, .inl (c1, 120, .inl (fun _ => 0)))] := hD
  refine lv_aload_n hx hb dX5_init_44 rfl (lv_at hl 0 rfl) ?_
  refine lv_iconst (v := 4) hx hb dX5_init_45 (by decide) ?_
  refine va_newa (atype := .int) (N' := 4) (a0 := (4, .inl (fun _ => 0))) hx hb (hts (.arrayClass .int) (by decide +kernel)) rfl hK hP hD hS hA (fun _ => rfl) (by decide) (by decide) (by decide) (Nat.le_of_ble_eq_true rfl) (Nat.le_of_ble_eq_true rfl) dX5_init_46 (fun q6 cA H hK hP hD hS => ?_)
  obtain rfl : c1 = cA := Option.some.inj ((show s.vm.findClass ("[" ++ FieldType.int.toString) = some c1 from (hK.2 0 _ rfl).2).symm.trans (hK.2 1 _ rfl).2)
  have hK := hK.sub (tys' := [(c1, .int)]) [0] rfl
  have hP : va_P D vwCl [(h0, .inr (4, [.ref q1, .ref q2, .ref q3, .int 0, .ref q4, .ref q5, .int 0, .null, .null, .null, .null, .int 0, .int 0, .int 0, .int 0])), (q1, .inl (c1, 77, .inl (fun _ => 0))), (q2, .inl (c1, 77, .inl (fun _ => 0))), (q3, .inl (c1, 77, .inl (fun _ => 0))), (q4, .inl (c1, 8, .inl (fun _ => 0))), (q5, .inl (c1, 120, .inl (fun _ => 0))), (q6, .inl (c1, 4, .inl (fun _ => 0)))] H := hP
  have hD : va_D A [(h0, .inr (4, [.ref q1, .ref q2, .ref q3, .int 0, .ref q4, .ref q5, .int 0, .null, .null, .null, .null, .int 0, .int 0, .int 0, .int 0])), (q1, .inl (c1, 77, .inl (fun _ => 0))), (q2, .inl (c1, 77, .inl (fun _ => 0))), (q3, .inl (c1, 77, .inl (fun _ => 0))), (q4, .inl (c1, 8, .inl (fun _ => 0))), (q5, .inl (c1, 120, .inl (fun _ => 0))), (q6, .inl (c1, 4, .inl (fun _ => 0)))] := hD
  refine lv_dup hx hb dX5_init_48 rfl ?_
  refine lv_iconst (v := 0) hx hb dX5_init_49 (by decide) ?_
  refine lv_iconst (v := (-1)) hx hb dX5_init_50 (by decide) ?_
  refine va_iast hx hb hK hP hD hS 6 0 rfl rfl (show ¬ ((0 : Int32) < 0 ∨ 4 ≤ (0 : Int32).toNatClampNeg) by decide) dX5_init_51 (fun H locs hP hD hS => ?_)
  have hP : va_P D vwCl [(h0, .inr (4, [.ref q1, .ref q2, .ref q3, .int 0, .ref q4, .ref q5, .int 0, .null, .null, .null, .null, .int 0, .int 0, .int 0, .int 0])), (q1, .inl (c1, 77, .inl (fun _ => 0))), (q2, .inl (c1, 77, .inl (fun _ => 0))), (q3, .inl (c1, 77, .inl (fun _ => 0))), (q4, .inl (c1, 8, .inl (fun _ => 0))), (q5, .inl (c1, 120, .inl (fun _ => 0))), (q6, .inl (c1, 4, .inl (upd (fun _ => 0) 0 (-1))))] H := hP
  have hD : va_D A [(h0, .inr (4, [.ref q1, .ref q2, .ref q3, .int 0, .ref q4, .ref q5, .int 0, .null, .null, .null, .null, .int 0, .int 0, .int 0, .int 0])), (q1, .inl (c1, 77, .inl (fun _ => 0))), (q2, .inl (c1, 77, .inl (fun _ => 0))), (q3, .inl (c1, 77, .inl (fun _ => 0))), (q4, .inl (c1, 8, .inl (fun _ => 0))), (q5, .inl (c1, 120, .inl (fun _ => 0))), (q6, .inl (c1, 4, .inl (upd (fun _ => 0) 0 (-1))))] := hD
  refine lv_dup hx hb dX5_init_52 rfl ?_
  refine lv_iconst (v := 1) hx hb dX5_init_53 (by decide) ?_
  refine lv_iconst (v := (-1)) hx hb dX5_init_54 (by decide) ?_
  refine va_iast hx hb hK hP hD hS 6 0 rfl rfl (show ¬ ((1 : Int32) < 0 ∨ 4 ≤ (1 : Int32).toNatClampNeg) by decide) dX5_init_55 (fun H locs hP hD hS => ?_)
  have hP : va_P D vwCl [(h0, .inr (4, [.ref q1, .ref q2, .ref q3, .int 0, .ref q4, .ref q5, .int 0, .null, .null, .null, .null, .int 0, .int 0, .int 0, .int 0])), (q1, .inl (c1, 77, .inl (fun _ => 0))), (q2, .inl (c1, 77, .inl (fun _ => 0))), (q3, .inl (c1, 77, .inl (fun _ => 0))), (q4, .inl (c1, 8, .inl (fun _ => 0))), (q5, .inl (c1, 120, .inl (fun _ => 0))), (q6, .inl (c1, 4, .inl (upd (upd (fun _ => 0) 0 (-1)) 1 (-1))))] H := hP
  have hD : va_D A [(h0, .inr (4, [.ref q1, .ref q2, .ref q3, .int 0, .ref q4, .ref q5, .int 0, .null, .null, .null, .null, .int 0, .int 0, .int 0, .int 0])), (q1, .inl (c1, 77, .inl (fun _ => 0))), (q2, .inl (c1, 77, .inl (fun _ => 0))), (q3, .inl (c1, 77, .inl (fun _ => 0))), (q4, .inl (c1, 8, .inl (fun _ => 0))), (q5, .inl (c1, 120, .inl (fun _ => 0))), (q6, .inl (c1, 4, .inl (upd (upd (fun _ => 0) 0 (-1)) 1 (-1))))] := hD
  refine lv_dup hx hb dX5_init_56 rfl ?_
  refine lv_iconst (v := 2) hx hb dX5_init_57 (by decide) ?_
  refine lv_iconst (v := (-1)) hx hb dX5_init_58 (by decide) ?_
  refine va_iast hx hb hK hP hD hS 6 0 rfl rfl (show ¬ ((2 : Int32) < 0 ∨ 4 ≤ (2 : Int32).toNatClampNeg) by decide) dX5_init_59 (fun H locs hP hD hS => ?_)
  have hP : va_P D vwCl [(h0, .inr (4, [.ref q1, .ref q2, .ref q3, .int 0, .ref q4, .ref q5, .int 0, .null, .null, .null, .null, .int 0, .int 0, .int 0, .int 0])), (q1, .inl (c1, 77, .inl (fun _ => 0))), (q2, .inl (c1, 77, .inl (fun _ => 0))), (q3, .inl (c1, 77, .inl (fun _ => 0))), (q4, .inl (c1, 8, .inl (fun _ => 0))), (q5, .inl (c1, 120, .inl (fun _ => 0))), (q6, .inl (c1, 4, .inl (upd (upd (upd (fun _ => 0) 0 (-1)) 1 (-1)) 2 (-1))))] H := hP
  have hD : va_D A [(h0, .inr (4, [.ref q1, .ref q2, .ref q3, .int 0, .ref q4, .ref q5, .int 0, .null, .null, .null, .null, .int 0, .int 0, .int 0, .int 0])), (q1, .inl (c1, 77, .inl (fun _ => 0))), (q2, .inl (c1, 77, .inl (fun _ => 0))), (q3, .inl (c1, 77, .inl (fun _ => 0))), (q4, .inl (c1, 8, .inl (fun _ => 0))), (q5, .inl (c1, 120, .inl (fun _ => 0))), (q6, .inl (c1, 4, .inl (upd (upd (upd (fun _ => 0) 0 (-1)) 1 (-1)) 2 (-1))))] := hD
  refine lv_dup hx hb dX5_init_60 rfl ?_
  refine lv_iconst (v := 3) hx hb dX5_init_61 (by decide) ?_
  refine lv_iconst (v := (-1)) hx hb dX5_init_62 (by decide) ?_
  refine va_iast hx hb hK hP hD hS 6 0 rfl rfl (show ¬ ((3 : Int32) < 0 ∨ 4 ≤ (3 : Int32).toNatClampNeg) by decide) dX5_init_63 (fun H locs hP hD hS => ?_)
  have hP : va_P D vwCl [(h0, .inr (4, [.ref q1, .ref q2, .ref q3, .int 0, .ref q4, .ref q5, .int 0, .null, .null, .null, .null, .int 0, .int 0, .int 0, .int 0])), (q1, .inl (c1, 77, .inl (fun _ => 0))), (q2, .inl (c1, 77, .inl (fun _ => 0))), (q3, .inl (c1, 77, .inl (fun _ => 0))), (q4, .inl (c1, 8, .inl (fun _ => 0))), (q5, .inl (c1, 120, .inl (fun _ => 0))), (q6, .inl (c1, 4, .inl (upd (upd (upd (upd (fun _ => 0) 0 (-1)) 1 (-1)) 2 (-1)) 3 (-1))))] H := hP
  have hD : va_D A [(h0, .inr (4, [.ref q1, .ref q2, .ref q3, .int 0, .ref q4, .ref q5, .int 0, .null, .null, .null, .null, .int 0, .int 0, .int 0, .int 0])), (q1, .inl (c1, 77, .inl (fun _ => 0))), (q2, .inl (c1, 77, .inl (fun _ => 0))), (q3, .inl (c1, 77, .inl (fun _ => 0))), (q4, .inl (c1, 8, .inl (fun _ => 0))), (q5, .inl (c1, 120, .inl (fun _ => 0))), (q6, .inl (c1, 4, .inl (upd (upd (upd (upd (fun _ => 0) 0 (-1)) 1 (-1)) 2 (-1)) 3 (-1))))] := hD
  refine va_putF (D := D) (ci := 4) (v := .ref q6) (C := RX5) (T := TX5) (N := 15) hx hb hts (by decide +kernel) tyX5 tyX5_ok nmX5 hown hK hP hD hS 0 rfl rfl 7 (by decide) (hts (.fieldLink RX5 25 "SecondHomeModel" "bitsOf" "[I") (by decide +kernel)) (fun _ h9 => h9) rfl hin rfl (tyX5_ok 7 (by decide)) rfl rfl (Nat.le_of_ble_eq_true rfl) dX5_init_64 (fun H locs hP hD hS => ?_)
  have hP : va_P D vwCl [(h0, .inr (4, [.ref q1, .ref q2, .ref q3, .int 0, .ref q4, .ref q5, .int 0, .ref q6, .null, .null, .null, .int 0, .int 0, .int 0, .int 0])), (q1, .inl (c1, 77, .inl (fun _ => 0))), (q2, .inl (c1, 77, .inl (fun _ => 0))), (q3, .inl (c1, 77, .inl (fun _ => 0))), (q4, .inl (c1, 8, .inl (fun _ => 0))), (q5, .inl (c1, 120, .inl (fun _ => 0))), (q6, .inl (c1, 4, .inl (upd (upd (upd (upd (fun _ => 0) 0 (-1)) 1 (-1)) 2 (-1)) 3 (-1))))] H := hP
  have hD : va_D A [(h0, .inr (4, [.ref q1, .ref q2, .ref q3, .int 0, .ref q4, .ref q5, .int 0, .ref q6, .null, .null, .null, .int 0, .int 0, .int 0, .int 0])), (q1, .inl (c1, 77, .inl (fun _ => 0))), (q2, .inl (c1, 77, .inl (fun _ => 0))), (q3, .inl (c1, 77, .inl (fun _ => 0))), (q4, .inl (c1, 8, .inl (fun _ => 0))), (q5, .inl (c1, 120, .inl (fun _ => 0))), (q6, .inl (c1, 4, .inl (upd (upd (upd (upd (fun _ => 0) 0 (-1)) 1 (-1)) 2 (-1)) 3 (-1))))] := hD
  refine lv_aload_n hx hb dX5_init_67 rfl (lv_at hl 0 rfl) ?_
  refine lv_iconst (v := 4) hx hb dX5_init_68 (by decide) ?_
  refine va_newa (atype := .int) (N' := 4) (a0 := (4, .inl (fun _ => 0))) hx hb (hts (.arrayClass .int) (by decide +kernel)) rfl hK hP hD hS hA (fun _ => rfl) (by decide) (by decide) (by decide) (Nat.le_of_ble_eq_true rfl) (Nat.le_of_ble_eq_true rfl) dX5_init_69 (fun q7 cA H hK hP hD hS => ?_)
  obtain rfl : c1 = cA := Option.some.inj ((show s.vm.findClass ("[" ++ FieldType.int.toString) = some c1 from (hK.2 0 _ rfl).2).symm.trans (hK.2 1 _ rfl).2)
  have hK := hK.sub (tys' := [(c1, .int)]) [0] rfl
  have hP : va_P D vwCl [(h0, .inr (4, [.ref q1, .ref q2, .ref q3, .int 0, .ref q4, .ref q5, .int 0, .ref q6, .null, .null, .null, .int 0, .int 0, .int 0, .int 0])), (q1, .inl (c1, 77, .inl (fun _ => 0))), (q2, .inl (c1, 77, .inl (fun _ => 0))), (q3, .inl (c1, 77, .inl (fun _ => 0))), (q4, .inl (c1, 8, .inl (fun _ => 0))), (q5, .inl (c1, 120, .inl (fun _ => 0))), (q6, .inl (c1, 4, .inl (upd (upd (upd (upd (fun _ => 0) 0 (-1)) 1 (-1)) 2 (-1)) 3 (-1)))), (q7, .inl (c1, 4, .inl (fun _ => 0)))] H := hP
  have hD : va_D A [(h0, .inr (4, [.ref q1, .ref q2, .ref q3, .int 0, .ref q4, .ref q5, .int 0, .ref q6, .null, .null, .null, .int 0, .int 0, .int 0, .int 0])), (q1, .inl (c1, 77, .inl (fun _ => 0))), (q2, .inl (c1, 77, .inl (fun _ => 0))), (q3, .inl (c1, 77, .inl (fun _ => 0))), (q4, .inl (c1, 8, .inl (fun _ => 0))), (q5, .inl (c1, 120, .inl (fun _ => 0))), (q6, .inl (c1, 4, .inl (upd (upd (upd (upd (fun _ => 0) 0 (-1)) 1 (-1)) 2 (-1)) 3 (-1)))), (q7, .inl (c1, 4, .inl (fun _ => 0)))] := hD
  refine va_putF (D := D) (ci := 4) (v := .ref q7) (C := RX5) (T := TX5) (N := 15) hx hb hts (by decide +kernel) tyX5 tyX5_ok nmX5 hown hK hP hD hS 0 rfl rfl 8 (by decide) (hts (.fieldLink RX5 28 "SecondHomeModel" "sizes" "[I") (by decide +kernel)) (fun _ h9 => h9) rfl hin rfl (tyX5_ok 8 (by decide)) rfl rfl (Nat.le_of_ble_eq_true rfl) dX5_init_71 (fun H locs hP hD hS => ?_)
  have hP : va_P D vwCl [(h0, .inr (4, [.ref q1, .ref q2, .ref q3, .int 0, .ref q4, .ref q5, .int 0, .ref q6, .ref q7, .null, .null, .int 0, .int 0, .int 0, .int 0])), (q1, .inl (c1, 77, .inl (fun _ => 0))), (q2, .inl (c1, 77, .inl (fun _ => 0))), (q3, .inl (c1, 77, .inl (fun _ => 0))), (q4, .inl (c1, 8, .inl (fun _ => 0))), (q5, .inl (c1, 120, .inl (fun _ => 0))), (q6, .inl (c1, 4, .inl (upd (upd (upd (upd (fun _ => 0) 0 (-1)) 1 (-1)) 2 (-1)) 3 (-1)))), (q7, .inl (c1, 4, .inl (fun _ => 0)))] H := hP
  have hD : va_D A [(h0, .inr (4, [.ref q1, .ref q2, .ref q3, .int 0, .ref q4, .ref q5, .int 0, .ref q6, .ref q7, .null, .null, .int 0, .int 0, .int 0, .int 0])), (q1, .inl (c1, 77, .inl (fun _ => 0))), (q2, .inl (c1, 77, .inl (fun _ => 0))), (q3, .inl (c1, 77, .inl (fun _ => 0))), (q4, .inl (c1, 8, .inl (fun _ => 0))), (q5, .inl (c1, 120, .inl (fun _ => 0))), (q6, .inl (c1, 4, .inl (upd (upd (upd (upd (fun _ => 0) 0 (-1)) 1 (-1)) 2 (-1)) 3 (-1)))), (q7, .inl (c1, 4, .inl (fun _ => 0)))] := hD
  refine lv_aload_n hx hb dX5_init_74 rfl (lv_at hl 0 rfl) ?_
  refine lv_sipush (v := 160) hx hb dX5_init_75 (by decide) ?_
  refine va_newa (atype := .long) (N' := 160) (a0 := (160, .inr (.inl (fun _ => 0)))) hx hb (hts (.arrayClass .long) (by decide +kernel)) rfl hK hP hD hS hA (fun _ => rfl) (by decide) (by decide) (by decide) (Nat.le_of_ble_eq_true rfl) (Nat.le_of_ble_eq_true rfl) dX5_init_78 (fun q8 cA H hK hP hD hS => ?_)
  obtain ⟨c2, rfl⟩ : ∃ z, z = cA := ⟨_, rfl⟩
  have hK : va_K D vwCl [(c1, .int), (c2, .long)] s := hK
  have hP : va_P D vwCl [(h0, .inr (4, [.ref q1, .ref q2, .ref q3, .int 0, .ref q4, .ref q5, .int 0, .ref q6, .ref q7, .null, .null, .int 0, .int 0, .int 0, .int 0])), (q1, .inl (c1, 77, .inl (fun _ => 0))), (q2, .inl (c1, 77, .inl (fun _ => 0))), (q3, .inl (c1, 77, .inl (fun _ => 0))), (q4, .inl (c1, 8, .inl (fun _ => 0))), (q5, .inl (c1, 120, .inl (fun _ => 0))), (q6, .inl (c1, 4, .inl (upd (upd (upd (upd (fun _ => 0) 0 (-1)) 1 (-1)) 2 (-1)) 3 (-1)))), (q7, .inl (c1, 4, .inl (fun _ => 0))), (q8, .inl (c2, 160, .inr (.inl (fun _ => 0))))] H := hP
  have hD : va_D A [(h0, .inr (4, [.ref q1, .ref q2, .ref q3, .int 0, .ref q4, .ref q5, .int 0, .ref q6, .ref q7, .null, .null, .int 0, .int 0, .int 0, .int 0])), (q1, .inl (c1, 77, .inl (fun _ => 0))), (q2, .inl (c1, 77, .inl (fun _ => 0))), (q3, .inl (c1, 77, .inl (fun _ => 0))), (q4, .inl (c1, 8, .inl (fun _ => 0))), (q5, .inl (c1, 120, .inl (fun _ => 0))), (q6, .inl (c1, 4, .inl (upd (upd (upd (upd (fun _ => 0) 0 (-1)) 1 (-1)) 2 (-1)) 3 (-1)))), (q7, .inl (c1, 4, .inl (fun _ => 0))), (q8, .inl (c2, 160, .inr (.inl (fun _ => 0))))] := hD
  refine va_putF (D := D) (ci := 4) (v := .ref q8) (C := RX5) (T := TX5) (N := 15) hx hb hts (by decide +kernel) tyX5 tyX5_ok nmX5 hown hK hP hD hS 0 rfl rfl 9 (by decide) (hts (.fieldLink RX5 31 "SecondHomeModel" "numbers" "[J") (by decide +kernel)) (fun _ h9 => h9) rfl hin rfl (tyX5_ok 9 (by decide)) rfl rfl (Nat.le_of_ble_eq_true rfl) dX5_init_80 (fun H locs hP hD hS => ?_)
  have hP : va_P D vwCl [(h0, .inr (4, [.ref q1, .ref q2, .ref q3, .int 0, .ref q4, .ref q5, .int 0, .ref q6, .ref q7, .ref q8, .null, .int 0, .int 0, .int 0, .int 0])), (q1, .inl (c1, 77, .inl (fun _ => 0))), (q2, .inl (c1, 77, .inl (fun _ => 0))), (q3, .inl (c1, 77, .inl (fun _ => 0))), (q4, .inl (c1, 8, .inl (fun _ => 0))), (q5, .inl (c1, 120, .inl (fun _ => 0))), (q6, .inl (c1, 4, .inl (upd (upd (upd (upd (fun _ => 0) 0 (-1)) 1 (-1)) 2 (-1)) 3 (-1)))), (q7, .inl (c1, 4, .inl (fun _ => 0))), (q8, .inl (c2, 160, .inr (.inl (fun _ => 0))))] H := hP
  have hD : va_D A [(h0, .inr (4, [.ref q1, .ref q2, .ref q3, .int 0, .ref q4, .ref q5, .int 0, .ref q6, .ref q7, .ref q8, .null, .int 0, .int 0, .int 0, .int 0])), (q1, .inl (c1, 77, .inl (fun _ => 0))), (q2, .inl (c1, 77, .inl (fun _ => 0))), (q3, .inl (c1, 77, .inl (fun _ => 0))), (q4, .inl (c1, 8, .inl (fun _ => 0))), (q5, .inl (c1, 120, .inl (fun _ => 0))), (q6, .inl (c1, 4, .inl (upd (upd (upd (upd (fun _ => 0) 0 (-1)) 1 (-1)) 2 (-1)) 3 (-1)))), (q7, .inl (c1, 4, .inl (fun _ => 0))), (q8, .inl (c2, 160, .inr (.inl (fun _ => 0))))] := hD
  refine lv_aload_n hx hb dX5_init_83 rfl (lv_at hl 0 rfl) ?_
  refine lv_bipush (v := 9) hx hb dX5_init_84 (by decide) ?_
  refine va_newa (atype := .int) (N' := 9) (a0 := (9, .inl (fun _ => 0))) hx hb (hts (.arrayClass .int) (by decide +kernel)) rfl hK hP hD hS hA (fun _ => rfl) (by decide) (by decide) (by decide) (Nat.le_of_ble_eq_true rfl) (Nat.le_of_ble_eq_true rfl) dX5_init_86 (fun q9 cA H hK hP hD hS => ?_)
  obtain rfl : c1 = cA := Option.some.inj ((show s.vm.findClass ("[" ++ FieldType.int.toString) = some c1 from (hK.2 0 _ rfl).2).symm.trans (hK.2 2 _ rfl).2)
  have hK := hK.sub (tys' := [(c1, .int), (c2, .long)]) [0, 1] rfl
  have hP : va_P D vwCl [(h0, .inr (4, [.ref q1, .ref q2, .ref q3, .int 0, .ref q4, .ref q5, .int 0, .ref q6, .ref q7, .ref q8, .null, .int 0, .int 0, .int 0, .int 0])), (q1, .inl (c1, 77, .inl (fun _ => 0))), (q2, .inl (c1, 77, .inl (fun _ => 0))), (q3, .inl (c1, 77, .inl (fun _ => 0))), (q4, .inl (c1, 8, .inl (fun _ => 0))), (q5, .inl (c1, 120, .inl (fun _ => 0))), (q6, .inl (c1, 4, .inl (upd (upd (upd (upd (fun _ => 0) 0 (-1)) 1 (-1)) 2 (-1)) 3 (-1)))), (q7, .inl (c1, 4, .inl (fun _ => 0))), (q8, .inl (c2, 160, .inr (.inl (fun _ => 0)))), (q9, .inl (c1, 9, .inl (fun _ => 0)))] H := hP
  have hD : va_D A [(h0, .inr (4, [.ref q1, .ref q2, .ref q3, .int 0, .ref q4, .ref q5, .int 0, .ref q6, .ref q7, .ref q8, .null, .int 0, .int 0, .int 0, .int 0])), (q1, .inl (c1, 77, .inl (fun _ => 0))), (q2, .inl (c1, 77, .inl (fun _ => 0))), (q3, .inl (c1, 77, .inl (fun _ => 0))), (q4, .inl (c1, 8, .inl (fun _ => 0))), (q5, .inl (c1, 120, .inl (fun _ => 0))), (q6, .inl (c1, 4, .inl (upd (upd (upd (upd (fun _ => 0) 0 (-1)) 1 (-1)) 2 (-1)) 3 (-1)))), (q7, .inl (c1, 4, .inl (fun _ => 0))), (q8, .inl (c2, 160, .inr (.inl (fun _ => 0)))), (q9, .inl (c1, 9, .inl (fun _ => 0)))] := hD
  refine va_putF (D := D) (ci := 4) (v := .ref q9) (C := RX5) (T := TX5) (N := 15) hx hb hts (by decide +kernel) tyX5 tyX5_ok nmX5 hown hK hP hD hS 0 rfl rfl 10 (by decide) (hts (.fieldLink RX5 35 "SecondHomeModel" "runs" "[I") (by decide +kernel)) (fun _ h9 => h9) rfl hin rfl (tyX5_ok 10 (by decide)) rfl rfl (Nat.le_of_ble_eq_true rfl) dX5_init_88 (fun H locs hP hD hS => ?_)
  have hP : va_P D vwCl [(h0, .inr (4, [.ref q1, .ref q2, .ref q3, .int 0, .ref q4, .ref q5, .int 0, .ref q6, .ref q7, .ref q8, .ref q9, .int 0, .int 0, .int 0, .int 0])), (q1, .inl (c1, 77, .inl (fun _ => 0))), (q2, .inl (c1, 77, .inl (fun _ => 0))), (q3, .inl (c1, 77, .inl (fun _ => 0))), (q4, .inl (c1, 8, .inl (fun _ => 0))), (q5, .inl (c1, 120, .inl (fun _ => 0))), (q6, .inl (c1, 4, .inl (upd (upd (upd (upd (fun _ => 0) 0 (-1)) 1 (-1)) 2 (-1)) 3 (-1)))), (q7, .inl (c1, 4, .inl (fun _ => 0))), (q8, .inl (c2, 160, .inr (.inl (fun _ => 0)))), (q9, .inl (c1, 9, .inl (fun _ => 0)))] H := hP
  have hD : va_D A [(h0, .inr (4, [.ref q1, .ref q2, .ref q3, .int 0, .ref q4, .ref q5, .int 0, .ref q6, .ref q7, .ref q8, .ref q9, .int 0, .int 0, .int 0, .int 0])), (q1, .inl (c1, 77, .inl (fun _ => 0))), (q2, .inl (c1, 77, .inl (fun _ => 0))), (q3, .inl (c1, 77, .inl (fun _ => 0))), (q4, .inl (c1, 8, .inl (fun _ => 0))), (q5, .inl (c1, 120, .inl (fun _ => 0))), (q6, .inl (c1, 4, .inl (upd (upd (upd (upd (fun _ => 0) 0 (-1)) 1 (-1)) 2 (-1)) 3 (-1)))), (q7, .inl (c1, 4, .inl (fun _ => 0))), (q8, .inl (c2, 160, .inr (.inl (fun _ => 0)))), (q9, .inl (c1, 9, .inl (fun _ => 0)))] := hD
  refine lv_aload_n hx hb dX5_init_91 rfl (lv_at hl 0 rfl) ?_
  refine va_get (D := D) (ci := 4) (C := RX5) (T := TX5) (N := 15) hx hb hts (by decide +kernel) hown hK hP 0 rfl rfl 0 (by decide) (hts (.fieldLink RX5 7 "SecondHomeModel" "s" "[I") (by decide +kernel)) (fun _ h9 => h9) rfl dX5_init_92 ?_
  refine lv_iconst (v := 1) hx hb dX5_init_95 (by decide) ?_
  refine lv_sipush (v := 200) hx hb dX5_init_96 (by decide) ?_
  refine va_iast hx hb hK hP hD hS 1 0 rfl rfl (show ¬ ((1 : Int32) < 0 ∨ 77 ≤ (1 : Int32).toNatClampNeg) by decide) dX5_init_99 (fun H locs hP hD hS => ?_)
  have hP : va_P D vwCl [(h0, .inr (4, [.ref q1, .ref q2, .ref q3, .int 0, .ref q4, .ref q5, .int 0, .ref q6, .ref q7, .ref q8, .ref q9, .int 0, .int 0, .int 0, .int 0])), (q1, .inl (c1, 77, .inl (upd (fun _ => 0) 1 200))), (q2, .inl (c1, 77, .inl (fun _ => 0))), (q3, .inl (c1, 77, .inl (fun _ => 0))), (q4, .inl (c1, 8, .inl (fun _ => 0))), (q5, .inl (c1, 120, .inl (fun _ => 0))), (q6, .inl (c1, 4, .inl (upd (upd (upd (upd (fun _ => 0) 0 (-1)) 1 (-1)) 2 (-1)) 3 (-1)))), (q7, .inl (c1, 4, .inl (fun _ => 0))), (q8, .inl (c2, 160, .inr (.inl (fun _ => 0)))), (q9, .inl (c1, 9, .inl (fun _ => 0)))] H := hP
  have hD : va_D A [(h0, .inr (4, [.ref q1, .ref q2, .ref q3, .int 0, .ref q4, .ref q5, .int 0, .ref q6, .ref q7, .ref q8, .ref q9, .int 0, .int 0, .int 0, .int 0])), (q1, .inl (c1, 77, .inl (upd (fun _ => 0) 1 200))), (q2, .inl (c1, 77, .inl (fun _ => 0))), (q3, .inl (c1, 77, .inl (fun _ => 0))), (q4, .inl (c1, 8, .inl (fun _ => 0))), (q5, .inl (c1, 120, .inl (fun _ => 0))), (q6, .inl (c1, 4, .inl (upd (upd (upd (upd (fun _ => 0) 0 (-1)) 1 (-1)) 2 (-1)) 3 (-1)))), (q7, .inl (c1, 4, .inl (fun _ => 0))), (q8, .inl (c2, 160, .inr (.inl (fun _ => 0)))), (q9, .inl (c1, 9, .inl (fun _ => 0)))] := hD
  refine lv_aload_n hx hb dX5_init_100 rfl (lv_at hl 0 rfl) ?_
  refine va_get (D := D) (ci := 4) (C := RX5) (T := TX5) (N := 15) hx hb hts (by decide +kernel) hown hK hP 0 rfl rfl 0 (by decide) (hts (.fieldLink RX5 7 "SecondHomeModel" "s" "[I") (by decide +kernel)) (fun _ h9 => h9) rfl dX5_init_101 ?_
  refine lv_iconst (v := 2) hx hb dX5_init_104 (by decide) ?_
  refine lv_iconst (v := 1) hx hb dX5_init_105 (by decide) ?_
  refine va_iast hx hb hK hP hD hS 1 0 rfl rfl (show ¬ ((2 : Int32) < 0 ∨ 77 ≤ (2 : Int32).toNatClampNeg) by decide) dX5_init_106 (fun H locs hP hD hS => ?_)
  have hP : va_P D vwCl [(h0, .inr (4, [.ref q1, .ref q2, .ref q3, .int 0, .ref q4, .ref q5, .int 0, .ref q6, .ref q7, .ref q8, .ref q9, .int 0, .int 0, .int 0, .int 0])), (q1, .inl (c1, 77, .inl (upd (upd (fun _ => 0) 1 200) 2 1))), (q2, .inl (c1, 77, .inl (fun _ => 0))), (q3, .inl (c1, 77, .inl (fun _ => 0))), (q4, .inl (c1, 8, .inl (fun _ => 0))), (q5, .inl (c1, 120, .inl (fun _ => 0))), (q6, .inl (c1, 4, .inl (upd (upd (upd (upd (fun _ => 0) 0 (-1)) 1 (-1)) 2 (-1)) 3 (-1)))), (q7, .inl (c1, 4, .inl (fun _ => 0))), (q8, .inl (c2, 160, .inr (.inl (fun _ => 0)))), (q9, .inl (c1, 9, .inl (fun _ => 0)))] H := hP
  have hD : va_D A [(h0, .inr (4, [.ref q1, .ref q2, .ref q3, .int 0, .ref q4, .ref q5, .int 0, .ref q6, .ref q7, .ref q8, .ref q9, .int 0, .int 0, .int 0, .int 0])), (q1, .inl (c1, 77, .inl (upd (upd (fun _ => 0) 1 200) 2 1))), (q2, .inl (c1, 77, .inl (fun _ => 0))), (q3, .inl (c1, 77, .inl (fun _ => 0))), (q4, .inl (c1, 8, .inl (fun _ => 0))), (q5, .inl (c1, 120, .inl (fun _ => 0))), (q6, .inl (c1, 4, .inl (upd (upd (upd (upd (fun _ => 0) 0 (-1)) 1 (-1)) 2 (-1)) 3 (-1)))), (q7, .inl (c1, 4, .inl (fun _ => 0))), (q8, .inl (c2, 160, .inr (.inl (fun _ => 0)))), (q9, .inl (c1, 9, .inl (fun _ => 0)))] := hD
  refine lv_aload_n hx hb dX5_init_107 rfl (lv_at hl 0 rfl) ?_
  refine va_get (D := D) (ci := 4) (C := RX5) (T := TX5) (N := 15) hx hb hts (by decide +kernel) hown hK hP 0 rfl rfl 0 (by decide) (hts (.fieldLink RX5 7 "SecondHomeModel" "s" "[I") (by decide +kernel)) (fun _ h9 => h9) rfl dX5_init_108 ?_
  refine lv_iconst (v := 3) hx hb dX5_init_111 (by decide) ?_
  refine lv_iconst (v := 1) hx hb dX5_init_112 (by decide) ?_
  refine va_iast hx hb hK hP hD hS 1 0 rfl rfl (show ¬ ((3 : Int32) < 0 ∨ 77 ≤ (3 : Int32).toNatClampNeg) by decide) dX5_init_113 (fun H locs hP hD hS => ?_)
  have hP : va_P D vwCl [(h0, .inr (4, [.ref q1, .ref q2, .ref q3, .int 0, .ref q4, .ref q5, .int 0, .ref q6, .ref q7, .ref q8, .ref q9, .int 0, .int 0, .int 0, .int 0])), (q1, .inl (c1, 77, .inl (upd (upd (upd (fun _ => 0) 1 200) 2 1) 3 1))), (q2, .inl (c1, 77, .inl (fun _ => 0))), (q3, .inl (c1, 77, .inl (fun _ => 0))), (q4, .inl (c1, 8, .inl (fun _ => 0))), (q5, .inl (c1, 120, .inl (fun _ => 0))), (q6, .inl (c1, 4, .inl (upd (upd (upd (upd (fun _ => 0) 0 (-1)) 1 (-1)) 2 (-1)) 3 (-1)))), (q7, .inl (c1, 4, .inl (fun _ => 0))), (q8, .inl (c2, 160, .inr (.inl (fun _ => 0)))), (q9, .inl (c1, 9, .inl (fun _ => 0)))] H := hP
  have hD : va_D A [(h0, .inr (4, [.ref q1, .ref q2, .ref q3, .int 0, .ref q4, .ref q5, .int 0, .ref q6, .ref q7, .ref q8, .ref q9, .int 0, .int 0, .int 0, .int 0])), (q1, .inl (c1, 77, .inl (upd (upd (upd (fun _ => 0) 1 200) 2 1) 3 1))), (q2, .inl (c1, 77, .inl (fun _ => 0))), (q3, .inl (c1, 77, .inl (fun _ => 0))), (q4, .inl (c1, 8, .inl (fun _ => 0))), (q5, .inl (c1, 120, .inl (fun _ => 0))), (q6, .inl (c1, 4, .inl (upd (upd (upd (upd (fun _ => 0) 0 (-1)) 1 (-1)) 2 (-1)) 3 (-1)))), (q7, .inl (c1, 4, .inl (fun _ => 0))), (q8, .inl (c2, 160, .inr (.inl (fun _ => 0)))), (q9, .inl (c1, 9, .inl (fun _ => 0)))] := hD
  have hP := hP.sub (ws' := [(h0, .inr (4, [.ref q1, .ref q2, .ref q3, .int 0, .ref q4, .ref q5, .int 0, .ref q6, .ref q7, .ref q8, .ref q9, .int 0, .int 0, .int 0, .int 0])), (q1, .inl (c1, 77, .inl (upd (upd (upd (fun _ => 0) 1 200) 2 1) 3 1))), (q2, .inl (c1, 77, .inl (fun _ => 0))), (q3, .inl (c1, 77, .inl (fun _ => 0))), (q4, .inl (c1, 8, .inl (fun _ => 0))), (q5, .inl (c1, 120, .inl (fun _ => 0))), (q6, .inl (c1, 4, .inl (upd (upd (upd (upd (fun _ => 0) 0 (-1)) 1 (-1)) 2 (-1)) 3 (-1)))), (q7, .inl (c1, 4, .inl (fun _ => 0))), (q9, .inl (c1, 9, .inl (fun _ => 0))), (q8, .inl (c2, 160, .inr (.inl (fun _ => 0))))]) [0, 1, 2, 3, 4, 5, 6, 7, 9, 8] rfl
  have hD := hD.sub (ws' := [(h0, .inr (4, [.ref q1, .ref q2, .ref q3, .int 0, .ref q4, .ref q5, .int 0, .ref q6, .ref q7, .ref q8, .ref q9, .int 0, .int 0, .int 0, .int 0])), (q1, .inl (c1, 77, .inl (upd (upd (upd (fun _ => 0) 1 200) 2 1) 3 1))), (q2, .inl (c1, 77, .inl (fun _ => 0))), (q3, .inl (c1, 77, .inl (fun _ => 0))), (q4, .inl (c1, 8, .inl (fun _ => 0))), (q5, .inl (c1, 120, .inl (fun _ => 0))), (q6, .inl (c1, 4, .inl (upd (upd (upd (upd (fun _ => 0) 0 (-1)) 1 (-1)) 2 (-1)) 3 (-1)))), (q7, .inl (c1, 4, .inl (fun _ => 0))), (q9, .inl (c1, 9, .inl (fun _ => 0))), (q8, .inl (c2, 160, .inr (.inl (fun _ => 0))))]) [0, 1, 2, 3, 4, 5, 6, 7, 9, 8] (by decide) rfl
  exact W.vret hx hb hr (fun t ht hW => ⟨⟨(), rfl, trivial, c1, c2, (fun j => if j = 0 then h0 else if j = 1 then q1 else if j = 2 then q2 else if j = 3 then q3 else if j = 4 then q4 else if j = 5 then q5 else if j = 6 then q6 else if j = 7 then q7 else if j = 8 then q9 else q8), rfl, by rw [ht]; exact hP, va_K.moved hW.alike hK, hD⟩, hS.F ht⟩) hS.2.2 dX5_init_114
