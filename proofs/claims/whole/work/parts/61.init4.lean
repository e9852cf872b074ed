/-! THE CLASS'S CONSTRUCTOR (printed by wip/whole/init4.py) -/
def owF (a : Nat → Nat → Nat) : Nat → Option Nat := va_up (va_up (va_up (va_up (fun _ => none) 0 (some (a 5 0))) 1 (some (a 6 0))) 2 (some (a 7 0))) 3 (some (a 8 0))
def owW (c cB cS cL : ClassId) (a : Nat → Nat → Nat) : va_W := [(a 0 0, .inr (3, [.ref (a 1 0), .ref (a 2 0), .ref (a 3 0), .int 0, .ref (a 4 0), .ref (a 0 2), .ref (a 0 1)]))] ++ tkW c (a 1) sT0 ++ tkW c (a 2) sT0 ++ tkW c (a 3) sT0 ++ tpW cB (a 4) sZ ++ [(a 0 2, .inl (cS, 4, .inr (.inr (.inr (.inr (owF a))))))] ++ [(a 0 1, .inl (c, 7, .inl (fun _ => 0)))] ++ shW cL (a 5) sZ ++ shW cL (a 6) sZ ++ shW cL (a 7) sZ ++ shW cL (a 8) sZ
def nsX4 (U : State) : Prop := va_Nw (.methodLinkNest RX4 9 yX3_init "SecondHome") U ∧ va_Nw (.methodLinkNest RX4 24 yX2_init "SecondHome") U ∧ va_Nw (.methodLinkNest RX4 39 yX1_init "SecondHome") U ∧ va_AO "SecondHome$Sheet" U
set_option maxHeartbeats 8000000 in
set_option maxRecDepth 100000 in
/-- SecondHome() -/
theorem iX4 (l : Launch) (D : va_G) (h0 sz : Nat) : Met l yX4_init wsX4_init ({ frames := 2, cells := 42, slots := 597, locals := 32 }) (va_Pc [.ref h0] (fun U => U.heap.size = sz ∧ va_P D vwCl [(h0, .inr (3, [.null, .null, .null, .int 0, .null, .null, .null]))] U.heap ∧ va_K D vwCl [] U ∧ va_D (fun _ => True) [(h0, .inr (3, [.null, .null, .null, .int 0, .null, .null, .null]))] ∧ nsX4 U)) (va_Qv (fun _ : Unit => True) (fun _ t => ∃ (c cB cS cL : ClassId) (a : Nat → Nat → Nat), a 0 0 = h0 ∧ va_P D vwCl (owW c cB cS cL a) t.heap ∧ va_K D vwCl [(c, .int), (cB, .byte), (cS, .object "SecondHome$Sheet"), (cL, .long)] t ∧ va_D (va_A [(h0, .inr (3, [.null, .null, .null, .int 0, .null, .null, .null]))] sz) (owW c cB cS cL a)) (va_A [(h0, .inr (3, [.null, .null, .null, .int 0, .null, .null, .null]))] sz)) 42 597 (va_A [(h0, .inr (3, [.null, .null, .null, .int 0, .null, .null, .null]))] sz) := by
  refine Met.ofW (cc := cX4_init) (maxL := 2) (ret := none) (by decide) rfl ?_
  intro p e s m args below meth c s₁ B hml hv
  obtain ⟨rfl, hsz, hP, hK, hD0, hN3, hN2, hN1, hAO⟩ := hv
  have hx := B.exec
  have hb := B.bytes
  have hr := B.returns
  have hts := atoms_spec (ws := wsX4_init) B.pre
  have hown : s.vm.findClass RX4 = some m.cls := findClass_of_methodNamed B.named
  have hin : meth.name = "<init>" := (name_of_methodNamed B.named B.method).1
  subst hsz
  have hD := hD0.self (sz := s.heap.size)
  generalize hAe : va_A [(h0, .inr (3, [.null, .null, .null, .int 0, .null, .null, .null]))] s.heap.size = A at hD ⊢
  have hA : ∀ q : Nat, s.heap.size ≤ q → A q := fun q h => by rw [← hAe]; exact Or.inr h
  have hS : va_S A s.heap s.heap [] := va_S.rf
  have hl := lv_entry ([.ref h0]) (n := 2) (Nat.le_of_ble_eq_true rfl)
  rw [lg_entry_eq]
  generalize (lg_sl ([.ref h0]) ++ List.replicate (2 - (lg_sl ([.ref h0])).length) Slot.unset).toArray = ls at hl ⊢
  have hl : lv_has ls 2 [(0, .ref h0)] := hl
  refine lv_aload_n hx hb dX4_init_0 rfl (lv_at hl 0 rfl) ?_
  refine W.objInit hx hb hown (hts (.methodLink RX4 1 objectInit) (by decide +kernel)) (hts (.instanceMethod objectInit) (by decide +kernel)) (hts (.code objectInit ⟨#[0xb1]⟩ 1 none) (by decide +kernel)) rfl (by rw [hml]; exact hl.1) rfl dX4_init_1 (Nat.le_of_ble_eq_true rfl) (Nat.le_of_ble_eq_true rfl) ?_
  refine W.eq (g2 := F0 m 4 ls []) rfl ?_
  refine lv_aload_n hx hb dX4_init_4 rfl (lv_at hl 0 rfl) ?_
  refine va_new (ci := 2) (fs := [.int 0, .int 0, .int 0, .int 0, .int 0, .int 0, .null, .null, .null, .null, .null, .null, .null, .null, .null]) (C := RX3) (T := TX3) (N := 15) hx hb hts (by decide +kernel) tyX3 tyX3_ok hown (hts (.classLink RX4 7 RX3) (by decide +kernel)) (hts (.instantiable RX3 15) (by decide +kernel)) (hts (.initialized RX3) (by decide +kernel)) hK hP hD hS hA rfl (by decide) (Nat.le_of_ble_eq_true rfl) (Nat.le_of_ble_eq_true rfl) dX4_init_5 (fun t1 H hP hD hS => ?_)
  have hP : va_P D vwCl ([(h0, .inr (3, [.null, .null, .null, .int 0, .null, .null, .null]))] ++ [(t1, .inr (2, [.int 0, .int 0, .int 0, .int 0, .int 0, .int 0, .null, .null, .null, .null, .null, .null, .null, .null, .null]))]) H := hP
  have hD : va_D A ([(h0, .inr (3, [.null, .null, .null, .int 0, .null, .null, .null]))] ++ [(t1, .inr (2, [.int 0, .int 0, .int 0, .int 0, .int 0, .int 0, .null, .null, .null, .null, .null, .null, .null, .null, .null]))]) := hD
  refine lv_dup hx hb dX4_init_8 rfl ?_
  have hPc := hP.sub (ws' := [(t1, .inr (2, [.int 0, .int 0, .int 0, .int 0, .int 0, .int 0, .null, .null, .null, .null, .null, .null, .null, .null, .null]))]) [1] rfl
  have hDc := hD.sub (ws' := [(t1, .inr (2, [.int 0, .int 0, .int 0, .int 0, .int 0, .int 0, .null, .null, .null, .null, .null, .null, .null, .null, .null]))]) [1] (by decide) rfl
  have hKc := hK.sub (tys' := []) [] rfl
  have hFc := va_free (wc := [(t1, .inr (2, [.int 0, .int 0, .int 0, .int 0, .int 0, .int 0, .null, .null, .null, .null, .null, .null, .null, .null, .null]))]) hD hS hA [1] rfl
  refine va_callv (va_runIN (As := []) (rest := [.ref t1, .ref h0]) ⟨hx, hb, hml, hown, hts⟩ (iX3 l D t1 H.size) ⟨va_cnB 0 hts gX4_init_X3_init_n9 rfl rfl rfl hN3 (hts (.initialized RX3) (by decide +kernel)) (by decide +kernel) ⟨Nat.le_of_ble_eq_true rfl, Nat.le_of_ble_eq_true rfl⟩, rfl, hts (.instanceMethod yX3_init) (by decide +kernel)⟩ ⟨fun a U g mk q => by obtain ⟨q0, q1, qP, qK, qD⟩ := q; exact ⟨q0, q1, qP, va_K.moved (u := U) (U := U.calling g mk a) (Vm.Alike.refl U.vm) qK, qD⟩, fun U hU hW => ⟨rfl, by rw [hU], by rw [hU]; exact hPc, va_K.moved hW.alike hKc, hDc.weaken (fun _ _ _ _ => trivial)⟩⟩ rfl rfl hl.1 rfl (lv_room (Nat.le_of_ble_eq_true rfl)) dX4_init_9 ⟨Nat.le_of_ble_eq_true rfl, Nat.le_of_ble_eq_true rfl⟩) hS (fun q _ h => hFc q h) hFc (fun u t H1 locs ht hvm hw hB hz1 hk1 hS => ?_)
  obtain ⟨cX, a1, e0, hP1, hK1, hD1⟩ := hB
  subst e0
  rw [ht] at hP1
  have hK1 := va_K.moved hvm.symm hK1
  obtain ⟨hP, hD⟩ := va_join (wr := [(h0, .inr (3, [.null, .null, .null, .int 0, .null, .null, .null]))]) (w1 := tkW cX a1 sT0) hP hD [1] [0] rfl rfl (by decide) (by decide) hk1 hFc hP1 hD1
  have hK := hK.app hK1
  generalize H1 = H at hP hS ⊢
  obtain ⟨c1, rfl⟩ : ∃ z, z = cX := ⟨_, rfl⟩
  have hK : va_K D vwCl [(c1, .int)] s := hK
  have hP : va_P D vwCl ([(h0, .inr (3, [.null, .null, .null, .int 0, .null, .null, .null]))] ++ tkW c1 a1 sT0) H := hP
  have hD : va_D A ([(h0, .inr (3, [.null, .null, .null, .int 0, .null, .null, .null]))] ++ tkW c1 a1 sT0) := hD
  refine va_putF (D := D) (ci := 3) (v := .ref (a1 0)) (C := RX4) (T := TX4) (N := 7) hx hb hts (by decide +kernel) tyX4 tyX4_ok nmX4 hown hK hP hD hS 0 rfl rfl 0 (by decide) (hts (.fieldLink RX4 10 "SecondHome" "track" "LSecondHome$Track;") (by decide +kernel)) (fun _ h9 => h9) rfl hin rfl (tyX4_ok 0 (by decide)) rfl rfl (Nat.le_of_ble_eq_true rfl) dX4_init_12 (fun H locs hP hD hS => ?_)
  have hP : va_P D vwCl ([(h0, .inr (3, [.ref (a1 0), .null, .null, .int 0, .null, .null, .null]))] ++ tkW c1 a1 sT0) H := hP
  have hD : va_D A ([(h0, .inr (3, [.ref (a1 0), .null, .null, .int 0, .null, .null, .null]))] ++ tkW c1 a1 sT0) := hD
  refine lv_aload_n hx hb dX4_init_15 rfl (lv_at hl 0 rfl) ?_
  refine va_new (ci := 2) (fs := [.int 0, .int 0, .int 0, .int 0, .int 0, .int 0, .null, .null, .null, .null, .null, .null, .null, .null, .null]) (C := RX3) (T := TX3) (N := 15) hx hb hts (by decide +kernel) tyX3 tyX3_ok hown (hts (.classLink RX4 7 RX3) (by decide +kernel)) (hts (.instantiable RX3 15) (by decide +kernel)) (hts (.initialized RX3) (by decide +kernel)) hK hP hD hS hA rfl (by decide) (Nat.le_of_ble_eq_true rfl) (Nat.le_of_ble_eq_true rfl) dX4_init_16 (fun t2 H hP hD hS => ?_)
  have hP : va_P D vwCl ([(h0, .inr (3, [.ref (a1 0), .null, .null, .int 0, .null, .null, .null]))] ++ tkW c1 a1 sT0 ++ [(t2, .inr (2, [.int 0, .int 0, .int 0, .int 0, .int 0, .int 0, .null, .null, .null, .null, .null, .null, .null, .null, .null]))]) H := hP
  have hD : va_D A ([(h0, .inr (3, [.ref (a1 0), .null, .null, .int 0, .null, .null, .null]))] ++ tkW c1 a1 sT0 ++ [(t2, .inr (2, [.int 0, .int 0, .int 0, .int 0, .int 0, .int 0, .null, .null, .null, .null, .null, .null, .null, .null, .null]))]) := hD
  refine lv_dup hx hb dX4_init_19 rfl ?_
  have hPc := hP.sub (ws' := [(t2, .inr (2, [.int 0, .int 0, .int 0, .int 0, .int 0, .int 0, .null, .null, .null, .null, .null, .null, .null, .null, .null]))]) [11] rfl
  have hDc := hD.sub (ws' := [(t2, .inr (2, [.int 0, .int 0, .int 0, .int 0, .int 0, .int 0, .null, .null, .null, .null, .null, .null, .null, .null, .null]))]) [11] (by decide) rfl
  have hKc := hK.sub (tys' := []) [] rfl
  have hFc := va_free (wc := [(t2, .inr (2, [.int 0, .int 0, .int 0, .int 0, .int 0, .int 0, .null, .null, .null, .null, .null, .null, .null, .null, .null]))]) hD hS hA [11] rfl
  refine va_callv (va_runIN (As := []) (rest := [.ref t2, .ref h0]) ⟨hx, hb, hml, hown, hts⟩ (iX3 l D t2 H.size) ⟨va_cnB 0 hts gX4_init_X3_init_n9 rfl rfl rfl hN3 (hts (.initialized RX3) (by decide +kernel)) (by decide +kernel) ⟨Nat.le_of_ble_eq_true rfl, Nat.le_of_ble_eq_true rfl⟩, rfl, hts (.instanceMethod yX3_init) (by decide +kernel)⟩ ⟨fun a U g mk q => by obtain ⟨q0, q1, qP, qK, qD⟩ := q; exact ⟨q0, q1, qP, va_K.moved (u := U) (U := U.calling g mk a) (Vm.Alike.refl U.vm) qK, qD⟩, fun U hU hW => ⟨rfl, by rw [hU], by rw [hU]; exact hPc, va_K.moved hW.alike hKc, hDc.weaken (fun _ _ _ _ => trivial)⟩⟩ rfl rfl hl.1 rfl (lv_room (Nat.le_of_ble_eq_true rfl)) dX4_init_20 ⟨Nat.le_of_ble_eq_true rfl, Nat.le_of_ble_eq_true rfl⟩) hS (fun q _ h => hFc q h) hFc (fun u t H1 locs ht hvm hw hB hz1 hk1 hS => ?_)
  obtain ⟨cX, a2, e0, hP1, hK1, hD1⟩ := hB
  subst e0
  rw [ht] at hP1
  have hK1 := va_K.moved hvm.symm hK1
  obtain ⟨hP, hD⟩ := va_join (wr := [(h0, .inr (3, [.ref (a1 0), .null, .null, .int 0, .null, .null, .null]))] ++ tkW c1 a1 sT0) (w1 := tkW cX a2 sT0) hP hD [11] [0, 1, 2, 3, 4, 5, 6, 7, 8, 9, 10] rfl rfl (by decide) (by decide) hk1 hFc hP1 hD1
  have hK := hK.app hK1
  generalize H1 = H at hP hS ⊢
  obtain rfl : c1 = cX := Option.some.inj ((show s.vm.findClass ("[" ++ FieldType.int.toString) = some c1 from (hK.2 0 _ rfl).2).symm.trans (hK.2 1 _ rfl).2)
  have hK := hK.sub (tys' := [(c1, .int)]) [0] rfl
  have hP : va_P D vwCl ([(h0, .inr (3, [.ref (a1 0), .null, .null, .int 0, .null, .null, .null]))] ++ tkW c1 a1 sT0 ++ tkW c1 a2 sT0) H := hP
  have hD : va_D A ([(h0, .inr (3, [.ref (a1 0), .null, .null, .int 0, .null, .null, .null]))] ++ tkW c1 a1 sT0 ++ tkW c1 a2 sT0) := hD
  refine va_putF (D := D) (ci := 3) (v := .ref (a2 0)) (C := RX4) (T := TX4) (N := 7) hx hb hts (by decide +kernel) tyX4 tyX4_ok nmX4 hown hK hP hD hS 0 rfl rfl 1 (by decide) (hts (.fieldLink RX4 16 "SecondHome" "trial" "LSecondHome$Track;") (by decide +kernel)) (fun _ h9 => h9) rfl hin rfl (tyX4_ok 1 (by decide)) rfl rfl (Nat.le_of_ble_eq_true rfl) dX4_init_23 (fun H locs hP hD hS => ?_)
  have hP : va_P D vwCl ([(h0, .inr (3, [.ref (a1 0), .ref (a2 0), .null, .int 0, .null, .null, .null]))] ++ tkW c1 a1 sT0 ++ tkW c1 a2 sT0) H := hP
  have hD : va_D A ([(h0, .inr (3, [.ref (a1 0), .ref (a2 0), .null, .int 0, .null, .null, .null]))] ++ tkW c1 a1 sT0 ++ tkW c1 a2 sT0) := hD
  refine lv_aload_n hx hb dX4_init_26 rfl (lv_at hl 0 rfl) ?_
  refine va_new (ci := 2) (fs := [.int 0, .int 0, .int 0, .int 0, .int 0, .int 0, .null, .null, .null, .null, .null, .null, .null, .null, .null]) (C := RX3) (T := TX3) (N := 15) hx hb hts (by decide +kernel) tyX3 tyX3_ok hown (hts (.classLink RX4 7 RX3) (by decide +kernel)) (hts (.instantiable RX3 15) (by decide +kernel)) (hts (.initialized RX3) (by decide +kernel)) hK hP hD hS hA rfl (by decide) (Nat.le_of_ble_eq_true rfl) (Nat.le_of_ble_eq_true rfl) dX4_init_27 (fun t3 H hP hD hS => ?_)
  have hP : va_P D vwCl ([(h0, .inr (3, [.ref (a1 0), .ref (a2 0), .null, .int 0, .null, .null, .null]))] ++ tkW c1 a1 sT0 ++ tkW c1 a2 sT0 ++ [(t3, .inr (2, [.int 0, .int 0, .int 0, .int 0, .int 0, .int 0, .null, .null, .null, .null, .null, .null, .null, .null, .null]))]) H := hP
  have hD : va_D A ([(h0, .inr (3, [.ref (a1 0), .ref (a2 0), .null, .int 0, .null, .null, .null]))] ++ tkW c1 a1 sT0 ++ tkW c1 a2 sT0 ++ [(t3, .inr (2, [.int 0, .int 0, .int 0, .int 0, .int 0, .int 0, .null, .null, .null, .null, .null, .null, .null, .null, .null]))]) := hD
  refine lv_dup hx hb dX4_init_30 rfl ?_
  have hPc := hP.sub (ws' := [(t3, .inr (2, [.int 0, .int 0, .int 0, .int 0, .int 0, .int 0, .null, .null, .null, .null, .null, .null, .null, .null, .null]))]) [21] rfl
  have hDc := hD.sub (ws' := [(t3, .inr (2, [.int 0, .int 0, .int 0, .int 0, .int 0, .int 0, .null, .null, .null, .null, .null, .null, .null, .null, .null]))]) [21] (by decide) rfl
  have hKc := hK.sub (tys' := []) [] rfl
  have hFc := va_free (wc := [(t3, .inr (2, [.int 0, .int 0, .int 0, .int 0, .int 0, .int 0, .null, .null, .null, .null, .null, .null, .null, .null, .null]))]) hD hS hA [21] rfl
  refine va_callv (va_runIN (As := []) (rest := [.ref t3, .ref h0]) ⟨hx, hb, hml, hown, hts⟩ (iX3 l D t3 H.size) ⟨va_cnB 0 hts gX4_init_X3_init_n9 rfl rfl rfl hN3 (hts (.initialized RX3) (by decide +kernel)) (by decide +kernel) ⟨Nat.le_of_ble_eq_true rfl, Nat.le_of_ble_eq_true rfl⟩, rfl, hts (.instanceMethod yX3_init) (by decide +kernel)⟩ ⟨fun a U g mk q => by obtain ⟨q0, q1, qP, qK, qD⟩ := q; exact ⟨q0, q1, qP, va_K.moved (u := U) (U := U.calling g mk a) (Vm.Alike.refl U.vm) qK, qD⟩, fun U hU hW => ⟨rfl, by rw [hU], by rw [hU]; exact hPc, va_K.moved hW.alike hKc, hDc.weaken (fun _ _ _ _ => trivial)⟩⟩ rfl rfl hl.1 rfl (lv_room (Nat.le_of_ble_eq_true rfl)) dX4_init_31 ⟨Nat.le_of_ble_eq_true rfl, Nat.le_of_ble_eq_true rfl⟩) hS (fun q _ h => hFc q h) hFc (fun u t H1 locs ht hvm hw hB hz1 hk1 hS => ?_)
  obtain ⟨cX, a3, e0, hP1, hK1, hD1⟩ := hB
  subst e0
  rw [ht] at hP1
  have hK1 := va_K.moved hvm.symm hK1
  obtain ⟨hP, hD⟩ := va_join (wr := [(h0, .inr (3, [.ref (a1 0), .ref (a2 0), .null, .int 0, .null, .null, .null]))] ++ tkW c1 a1 sT0 ++ tkW c1 a2 sT0) (w1 := tkW cX a3 sT0) hP hD [21] [0, 1, 2, 3, 4, 5, 6, 7, 8, 9, 10, 11, 12, 13, 14, 15, 16, 17, 18, 19, 20] rfl rfl (by decide) (by decide) hk1 hFc hP1 hD1
  have hK := hK.app hK1
  generalize H1 = H at hP hS ⊢
  obtain rfl : c1 = cX := Option.some.inj ((show s.vm.findClass ("[" ++ FieldType.int.toString) = some c1 from (hK.2 0 _ rfl).2).symm.trans (hK.2 1 _ rfl).2)
  have hK := hK.sub (tys' := [(c1, .int)]) [0] rfl
  have hP : va_P D vwCl ([(h0, .inr (3, [.ref (a1 0), .ref (a2 0), .null, .int 0, .null, .null, .null]))] ++ tkW c1 a1 sT0 ++ tkW c1 a2 sT0 ++ tkW c1 a3 sT0) H := hP
  have hD : va_D A ([(h0, .inr (3, [.ref (a1 0), .ref (a2 0), .null, .int 0, .null, .null, .null]))] ++ tkW c1 a1 sT0 ++ tkW c1 a2 sT0 ++ tkW c1 a3 sT0) := hD
  refine va_putF (D := D) (ci := 3) (v := .ref (a3 0)) (C := RX4) (T := TX4) (N := 7) hx hb hts (by decide +kernel) tyX4 tyX4_ok nmX4 hown hK hP hD hS 0 rfl rfl 2 (by decide) (hts (.fieldLink RX4 19 "SecondHome" "kept" "LSecondHome$Track;") (by decide +kernel)) (fun _ h9 => h9) rfl hin rfl (tyX4_ok 2 (by decide)) rfl rfl (Nat.le_of_ble_eq_true rfl) dX4_init_34 (fun H locs hP hD hS => ?_)
  have hP : va_P D vwCl ([(h0, .inr (3, [.ref (a1 0), .ref (a2 0), .ref (a3 0), .int 0, .null, .null, .null]))] ++ tkW c1 a1 sT0 ++ tkW c1 a2 sT0 ++ tkW c1 a3 sT0) H := hP
  have hD : va_D A ([(h0, .inr (3, [.ref (a1 0), .ref (a2 0), .ref (a3 0), .int 0, .null, .null, .null]))] ++ tkW c1 a1 sT0 ++ tkW c1 a2 sT0 ++ tkW c1 a3 sT0) := hD
  refine lv_aload_n hx hb dX4_init_37 rfl (lv_at hl 0 rfl) ?_
  refine va_new (ci := 1) (fs := [.int 0, .null, .int 0, .int 0, .int 0, .int 0]) (C := RX2) (T := TX2) (N := 6) hx hb hts (by decide +kernel) tyX2 tyX2_ok hown (hts (.classLink RX4 22 RX2) (by decide +kernel)) (hts (.instantiable RX2 6) (by decide +kernel)) (hts (.initialized RX2) (by decide +kernel)) hK hP hD hS hA rfl (by decide) (Nat.le_of_ble_eq_true rfl) (Nat.le_of_ble_eq_true rfl) dX4_init_38 (fun t4 H hP hD hS => ?_)
  have hP : va_P D vwCl ([(h0, .inr (3, [.ref (a1 0), .ref (a2 0), .ref (a3 0), .int 0, .null, .null, .null]))] ++ tkW c1 a1 sT0 ++ tkW c1 a2 sT0 ++ tkW c1 a3 sT0 ++ [(t4, .inr (1, [.int 0, .null, .int 0, .int 0, .int 0, .int 0]))]) H := hP
  have hD : va_D A ([(h0, .inr (3, [.ref (a1 0), .ref (a2 0), .ref (a3 0), .int 0, .null, .null, .null]))] ++ tkW c1 a1 sT0 ++ tkW c1 a2 sT0 ++ tkW c1 a3 sT0 ++ [(t4, .inr (1, [.int 0, .null, .int 0, .int 0, .int 0, .int 0]))]) := hD
  refine lv_dup hx hb dX4_init_41 rfl ?_
  have hPc := hP.sub (ws' := [(t4, .inr (1, [.int 0, .null, .int 0, .int 0, .int 0, .int 0]))]) [31] rfl
  have hDc := hD.sub (ws' := [(t4, .inr (1, [.int 0, .null, .int 0, .int 0, .int 0, .int 0]))]) [31] (by decide) rfl
  have hKc := hK.sub (tys' := []) [] rfl
  have hFc := va_free (wc := [(t4, .inr (1, [.int 0, .null, .int 0, .int 0, .int 0, .int 0]))]) hD hS hA [31] rfl
  refine va_callv (va_runIN (As := []) (rest := [.ref t4, .ref h0]) ⟨hx, hb, hml, hown, hts⟩ (iX2 l D t4 H.size) ⟨va_cnB 0 hts gX4_init_X2_init_n24 rfl rfl rfl hN2 (hts (.initialized RX2) (by decide +kernel)) (by decide +kernel) ⟨Nat.le_of_ble_eq_true rfl, Nat.le_of_ble_eq_true rfl⟩, rfl, hts (.instanceMethod yX2_init) (by decide +kernel)⟩ ⟨fun a U g mk q => by obtain ⟨q0, q1, qP, qK, qD⟩ := q; exact ⟨q0, q1, qP, va_K.moved (u := U) (U := U.calling g mk a) (Vm.Alike.refl U.vm) qK, qD⟩, fun U hU hW => ⟨rfl, by rw [hU], by rw [hU]; exact hPc, va_K.moved hW.alike hKc, hDc.weaken (fun _ _ _ _ => trivial)⟩⟩ rfl rfl hl.1 rfl (lv_room (Nat.le_of_ble_eq_true rfl)) dX4_init_42 ⟨Nat.le_of_ble_eq_true rfl, Nat.le_of_ble_eq_true rfl⟩) hS (fun q _ h => hFc q h) hFc (fun u t H1 locs ht hvm hw hB hz1 hk1 hS => ?_)
  obtain ⟨cX, a4, e0, hP1, hK1, hD1⟩ := hB
  subst e0
  rw [ht] at hP1
  have hK1 := va_K.moved hvm.symm hK1
  obtain ⟨hP, hD⟩ := va_join (wr := [(h0, .inr (3, [.ref (a1 0), .ref (a2 0), .ref (a3 0), .int 0, .null, .null, .null]))] ++ tkW c1 a1 sT0 ++ tkW c1 a2 sT0 ++ tkW c1 a3 sT0) (w1 := tpW cX a4 sZ) hP hD [31] [0, 1, 2, 3, 4, 5, 6, 7, 8, 9, 10, 11, 12, 13, 14, 15, 16, 17, 18, 19, 20, 21, 22, 23, 24, 25, 26, 27, 28, 29, 30] rfl rfl (by decide) (by decide) hk1 hFc hP1 hD1
  have hK := hK.app hK1
  generalize H1 = H at hP hS ⊢
  obtain ⟨cB, rfl⟩ : ∃ z, z = cX := ⟨_, rfl⟩
  have hK : va_K D vwCl [(c1, .int), (cB, .byte)] s := hK
  have hP : va_P D vwCl ([(h0, .inr (3, [.ref (a1 0), .ref (a2 0), .ref (a3 0), .int 0, .null, .null, .null]))] ++ tkW c1 a1 sT0 ++ tkW c1 a2 sT0 ++ tkW c1 a3 sT0 ++ tpW cB a4 sZ) H := hP
  have hD : va_D A ([(h0, .inr (3, [.ref (a1 0), .ref (a2 0), .ref (a3 0), .int 0, .null, .null, .null]))] ++ tkW c1 a1 sT0 ++ tkW c1 a2 sT0 ++ tkW c1 a3 sT0 ++ tpW cB a4 sZ) := hD
  refine va_putF (D := D) (ci := 3) (v := .ref (a4 0)) (C := RX4) (T := TX4) (N := 7) hx hb hts (by decide +kernel) tyX4 tyX4_ok nmX4 hown hK hP hD hS 0 rfl rfl 4 (by decide) (hts (.fieldLink RX4 25 "SecondHome" "tape" "LSecondHome$Tape;") (by decide +kernel)) (fun _ h9 => h9) rfl hin rfl (tyX4_ok 4 (by decide)) rfl rfl (Nat.le_of_ble_eq_true rfl) dX4_init_45 (fun H locs hP hD hS => ?_)
  have hP : va_P D vwCl ([(h0, .inr (3, [.ref (a1 0), .ref (a2 0), .ref (a3 0), .int 0, .ref (a4 0), .null, .null]))] ++ tkW c1 a1 sT0 ++ tkW c1 a2 sT0 ++ tkW c1 a3 sT0 ++ tpW cB a4 sZ) H := hP
  have hD : va_D A ([(h0, .inr (3, [.ref (a1 0), .ref (a2 0), .ref (a3 0), .int 0, .ref (a4 0), .null, .null]))] ++ tkW c1 a1 sT0 ++ tkW c1 a2 sT0 ++ tkW c1 a3 sT0 ++ tpW cB a4 sZ) := hD
  refine lv_aload_n hx hb dX4_init_48 rfl (lv_at hl 0 rfl) ?_
  refine lv_iconst (v := 4) hx hb dX4_init_49 (by decide) ?_
  refine va_newq (C := RX1) (N' := 4) hx hb hown (hts (.classLink RX4 29 RX1) (by decide +kernel)) hAO hK hP hD hS hA (by decide) (by decide) (by decide) (Nat.le_of_ble_eq_true rfl) (Nat.le_of_ble_eq_true rfl) dX4_init_50 (fun sh cS H hK hP hD hS => ?_)
  have hK : va_K D vwCl [(c1, .int), (cB, .byte), (cS, .object RX1)] s := hK
  have hP : va_P D vwCl ([(h0, .inr (3, [.ref (a1 0), .ref (a2 0), .ref (a3 0), .int 0, .ref (a4 0), .null, .null]))] ++ tkW c1 a1 sT0 ++ tkW c1 a2 sT0 ++ tkW c1 a3 sT0 ++ tpW cB a4 sZ ++ [(sh, .inl (cS, 4, .inr (.inr (.inr (.inr (fun _ => none))))))]) H := hP
  have hD : va_D A ([(h0, .inr (3, [.ref (a1 0), .ref (a2 0), .ref (a3 0), .int 0, .ref (a4 0), .null, .null]))] ++ tkW c1 a1 sT0 ++ tkW c1 a2 sT0 ++ tkW c1 a3 sT0 ++ tpW cB a4 sZ ++ [(sh, .inl (cS, 4, .inr (.inr (.inr (.inr (fun _ => none))))))]) := hD
  refine va_putF (D := D) (ci := 3) (v := .ref sh) (C := RX4) (T := TX4) (N := 7) hx hb hts (by decide +kernel) tyX4 tyX4_ok nmX4 hown hK hP hD hS 0 rfl rfl 5 (by decide) (hts (.fieldLink RX4 31 "SecondHome" "sheets" "[LSecondHome$Sheet;") (by decide +kernel)) (fun _ h9 => h9) rfl hin rfl (tyX4_ok 5 (by decide)) rfl rfl (Nat.le_of_ble_eq_true rfl) dX4_init_53 (fun H locs hP hD hS => ?_)
  have hP : va_P D vwCl ([(h0, .inr (3, [.ref (a1 0), .ref (a2 0), .ref (a3 0), .int 0, .ref (a4 0), .ref sh, .null]))] ++ tkW c1 a1 sT0 ++ tkW c1 a2 sT0 ++ tkW c1 a3 sT0 ++ tpW cB a4 sZ ++ [(sh, .inl (cS, 4, .inr (.inr (.inr (.inr (fun _ => none))))))]) H := hP
  have hD : va_D A ([(h0, .inr (3, [.ref (a1 0), .ref (a2 0), .ref (a3 0), .int 0, .ref (a4 0), .ref sh, .null]))] ++ tkW c1 a1 sT0 ++ tkW c1 a2 sT0 ++ tkW c1 a3 sT0 ++ tpW cB a4 sZ ++ [(sh, .inl (cS, 4, .inr (.inr (.inr (.inr (fun _ => none))))))]) := hD
  refine lv_aload_n hx hb dX4_init_56 rfl (lv_at hl 0 rfl) ?_
  refine lv_bipush (v := 7) hx hb dX4_init_57 (by decide) ?_
  refine va_newa (atype := .int) (N' := 7) (a0 := (7, .inl (fun _ => 0))) hx hb (hts (.arrayClass .int) (by decide +kernel)) rfl hK hP hD hS hA (fun _ => rfl) (by decide) (by decide) (by decide) (Nat.le_of_ble_eq_true rfl) (Nat.le_of_ble_eq_true rfl) dX4_init_59 (fun fi cA H hK hP hD hS => ?_)
  obtain rfl : c1 = cA := Option.some.inj ((show s.vm.findClass ("[" ++ FieldType.int.toString) = some c1 from (hK.2 0 _ rfl).2).symm.trans (hK.2 3 _ rfl).2)
  have hK := hK.sub (tys' := [(c1, .int), (cB, .byte), (cS, .object RX1)]) [0, 1, 2] rfl
  have hP : va_P D vwCl ([(h0, .inr (3, [.ref (a1 0), .ref (a2 0), .ref (a3 0), .int 0, .ref (a4 0), .ref sh, .null]))] ++ tkW c1 a1 sT0 ++ tkW c1 a2 sT0 ++ tkW c1 a3 sT0 ++ tpW cB a4 sZ ++ [(sh, .inl (cS, 4, .inr (.inr (.inr (.inr (fun _ => none))))))] ++ [(fi, .inl (c1, 7, .inl (fun _ => 0)))]) H := hP
  have hD : va_D A ([(h0, .inr (3, [.ref (a1 0), .ref (a2 0), .ref (a3 0), .int 0, .ref (a4 0), .ref sh, .null]))] ++ tkW c1 a1 sT0 ++ tkW c1 a2 sT0 ++ tkW c1 a3 sT0 ++ tpW cB a4 sZ ++ [(sh, .inl (cS, 4, .inr (.inr (.inr (.inr (fun _ => none))))))] ++ [(fi, .inl (c1, 7, .inl (fun _ => 0)))]) := hD
  refine va_putF (D := D) (ci := 3) (v := .ref fi) (C := RX4) (T := TX4) (N := 7) hx hb hts (by decide +kernel) tyX4 tyX4_ok nmX4 hown hK hP hD hS 0 rfl rfl 6 (by decide) (hts (.fieldLink RX4 35 "SecondHome" "findings" "[I") (by decide +kernel)) (fun _ h9 => h9) rfl hin rfl (tyX4_ok 6 (by decide)) rfl rfl (Nat.le_of_ble_eq_true rfl) dX4_init_61 (fun H locs hP hD hS => ?_)
  have hP : va_P D vwCl ([(h0, .inr (3, [.ref (a1 0), .ref (a2 0), .ref (a3 0), .int 0, .ref (a4 0), .ref sh, .ref fi]))] ++ tkW c1 a1 sT0 ++ tkW c1 a2 sT0 ++ tkW c1 a3 sT0 ++ tpW cB a4 sZ ++ [(sh, .inl (cS, 4, .inr (.inr (.inr (.inr (fun _ => none))))))] ++ [(fi, .inl (c1, 7, .inl (fun _ => 0)))]) H := hP
  have hD : va_D A ([(h0, .inr (3, [.ref (a1 0), .ref (a2 0), .ref (a3 0), .int 0, .ref (a4 0), .ref sh, .ref fi]))] ++ tkW c1 a1 sT0 ++ tkW c1 a2 sT0 ++ tkW c1 a3 sT0 ++ tpW cB a4 sZ ++ [(sh, .inl (cS, 4, .inr (.inr (.inr (.inr (fun _ => none))))))] ++ [(fi, .inl (c1, 7, .inl (fun _ => 0)))]) := hD
  refine lv_iconst (v := 0) hx hb dX4_init_64 (by decide) ?_
  refine lv_istore_n (lv' := [(1, .int 0), (0, .ref h0)]) hx hb dX4_init_65 rfl hl (by decide) rfl (fun ls hl => ?_)
  refine lv_iload_n hx hb dX4_init_66 rfl (lv_at hl 0 rfl) ?_
  refine lv_iconst (v := 4) hx hb dX4_init_67 (by decide) ?_
  refine lv_icmp_ge (tgt := 90) hx hb dX4_init_68 (by decide) (fun z => absurd z (by decide)) (fun _ => ?_)
  refine lv_aload_n hx hb dX4_init_71 rfl (lv_at hl 1 rfl) ?_
  refine va_get (D := D) (ci := 3) (C := RX4) (T := TX4) (N := 7) hx hb hts (by decide +kernel) hown hK hP 0 rfl rfl 5 (by decide) (hts (.fieldLink RX4 31 "SecondHome" "sheets" "[LSecondHome$Sheet;") (by decide +kernel)) (fun _ h9 => h9) rfl dX4_init_72 ?_
  refine lv_iload_n hx hb dX4_init_75 rfl (lv_at hl 0 rfl) ?_
  refine va_new (ci := 0) (fs := [.int 0, .int 0, .null]) (C := RX1) (T := TX1) (N := 3) hx hb hts (by decide +kernel) tyX1 tyX1_ok hown (hts (.classLink RX4 29 RX1) (by decide +kernel)) (hts (.instantiable RX1 3) (by decide +kernel)) (hts (.initialized RX1) (by decide +kernel)) hK hP hD hS hA rfl (by decide) (Nat.le_of_ble_eq_true rfl) (Nat.le_of_ble_eq_true rfl) dX4_init_76 (fun s5 H hP hD hS => ?_)
  have hP : va_P D vwCl ([(h0, .inr (3, [.ref (a1 0), .ref (a2 0), .ref (a3 0), .int 0, .ref (a4 0), .ref sh, .ref fi]))] ++ tkW c1 a1 sT0 ++ tkW c1 a2 sT0 ++ tkW c1 a3 sT0 ++ tpW cB a4 sZ ++ [(sh, .inl (cS, 4, .inr (.inr (.inr (.inr (fun _ => none))))))] ++ [(fi, .inl (c1, 7, .inl (fun _ => 0)))] ++ [(s5, .inr (0, [.int 0, .int 0, .null]))]) H := hP
  have hD : va_D A ([(h0, .inr (3, [.ref (a1 0), .ref (a2 0), .ref (a3 0), .int 0, .ref (a4 0), .ref sh, .ref fi]))] ++ tkW c1 a1 sT0 ++ tkW c1 a2 sT0 ++ tkW c1 a3 sT0 ++ tpW cB a4 sZ ++ [(sh, .inl (cS, 4, .inr (.inr (.inr (.inr (fun _ => none))))))] ++ [(fi, .inl (c1, 7, .inl (fun _ => 0)))] ++ [(s5, .inr (0, [.int 0, .int 0, .null]))]) := hD
  refine lv_dup hx hb dX4_init_79 rfl ?_
  have hPc := hP.sub (ws' := [(s5, .inr (0, [.int 0, .int 0, .null]))]) [35] rfl
  have hDc := hD.sub (ws' := [(s5, .inr (0, [.int 0, .int 0, .null]))]) [35] (by decide) rfl
  have hKc := hK.sub (tys' := []) [] rfl
  have hFc := va_free (wc := [(s5, .inr (0, [.int 0, .int 0, .null]))]) hD hS hA [35] rfl
  refine va_callv (va_runIN (As := []) (rest := [.ref s5, .int 0, .ref sh]) ⟨hx, hb, hml, hown, hts⟩ (iX1 l D s5 H.size) ⟨va_cnB 0 hts gX4_init_X1_init_n39 rfl rfl rfl hN1 (hts (.initialized RX1) (by decide +kernel)) (by decide +kernel) ⟨Nat.le_of_ble_eq_true rfl, Nat.le_of_ble_eq_true rfl⟩, rfl, hts (.instanceMethod yX1_init) (by decide +kernel)⟩ ⟨fun a U g mk q => by obtain ⟨q0, q1, qP, qK, qD⟩ := q; exact ⟨q0, q1, qP, va_K.moved (u := U) (U := U.calling g mk a) (Vm.Alike.refl U.vm) qK, qD⟩, fun U hU hW => ⟨rfl, by rw [hU], by rw [hU]; exact hPc, va_K.moved hW.alike hKc, hDc.weaken (fun _ _ _ _ => trivial)⟩⟩ rfl rfl hl.1 rfl (lv_room (Nat.le_of_ble_eq_true rfl)) dX4_init_80 ⟨Nat.le_of_ble_eq_true rfl, Nat.le_of_ble_eq_true rfl⟩) hS (fun q _ h => hFc q h) hFc (fun u t H1 locs ht hvm hw hB hz1 hk1 hS => ?_)
  obtain ⟨cX, a5, e0, hP1, hK1, hD1⟩ := hB
  subst e0
  rw [ht] at hP1
  have hK1 := va_K.moved hvm.symm hK1
  obtain ⟨hP, hD⟩ := va_join (wr := [(h0, .inr (3, [.ref (a1 0), .ref (a2 0), .ref (a3 0), .int 0, .ref (a4 0), .ref sh, .ref fi]))] ++ tkW c1 a1 sT0 ++ tkW c1 a2 sT0 ++ tkW c1 a3 sT0 ++ tpW cB a4 sZ ++ [(sh, .inl (cS, 4, .inr (.inr (.inr (.inr (fun _ => none))))))] ++ [(fi, .inl (c1, 7, .inl (fun _ => 0)))]) (w1 := shW cX a5 sZ) hP hD [35] [0, 1, 2, 3, 4, 5, 6, 7, 8, 9, 10, 11, 12, 13, 14, 15, 16, 17, 18, 19, 20, 21, 22, 23, 24, 25, 26, 27, 28, 29, 30, 31, 32, 33, 34] rfl rfl (by decide) (by decide) hk1 hFc hP1 hD1
  have hK := hK.app hK1
  generalize H1 = H at hP hS ⊢
  obtain ⟨cL, rfl⟩ : ∃ z, z = cX := ⟨_, rfl⟩
  have hK : va_K D vwCl [(c1, .int), (cB, .byte), (cS, .object RX1), (cL, .long)] s := hK
  have hP : va_P D vwCl ([(h0, .inr (3, [.ref (a1 0), .ref (a2 0), .ref (a3 0), .int 0, .ref (a4 0), .ref sh, .ref fi]))] ++ tkW c1 a1 sT0 ++ tkW c1 a2 sT0 ++ tkW c1 a3 sT0 ++ tpW cB a4 sZ ++ [(sh, .inl (cS, 4, .inr (.inr (.inr (.inr (fun _ => none))))))] ++ [(fi, .inl (c1, 7, .inl (fun _ => 0)))] ++ shW cL a5 sZ) H := hP
  have hD : va_D A ([(h0, .inr (3, [.ref (a1 0), .ref (a2 0), .ref (a3 0), .int 0, .ref (a4 0), .ref sh, .ref fi]))] ++ tkW c1 a1 sT0 ++ tkW c1 a2 sT0 ++ tkW c1 a3 sT0 ++ tpW cB a4 sZ ++ [(sh, .inl (cS, 4, .inr (.inr (.inr (.inr (fun _ => none))))))] ++ [(fi, .inl (c1, 7, .inl (fun _ => 0)))] ++ shW cL a5 sZ) := hD
  refine va_astq hx hb hK hP hD hS 33 2 35 0 (r := (RX1, TX1, 3)) rfl rfl rfl rfl (show ¬ ((0 : Int32) < 0 ∨ 4 ≤ (0 : Int32).toNatClampNeg) by decide) dX4_init_83 (fun H locs hP hD hS => ?_)
  have hP : va_P D vwCl ([(h0, .inr (3, [.ref (a1 0), .ref (a2 0), .ref (a3 0), .int 0, .ref (a4 0), .ref sh, .ref fi]))] ++ tkW c1 a1 sT0 ++ tkW c1 a2 sT0 ++ tkW c1 a3 sT0 ++ tpW cB a4 sZ ++ [(sh, .inl (cS, 4, .inr (.inr (.inr (.inr (va_up (fun _ => none) 0 (some (a5 0))))))))] ++ [(fi, .inl (c1, 7, .inl (fun _ => 0)))] ++ shW cL a5 sZ) H := hP
  have hD : va_D A ([(h0, .inr (3, [.ref (a1 0), .ref (a2 0), .ref (a3 0), .int 0, .ref (a4 0), .ref sh, .ref fi]))] ++ tkW c1 a1 sT0 ++ tkW c1 a2 sT0 ++ tkW c1 a3 sT0 ++ tpW cB a4 sZ ++ [(sh, .inl (cS, 4, .inr (.inr (.inr (.inr (va_up (fun _ => none) 0 (some (a5 0))))))))] ++ [(fi, .inl (c1, 7, .inl (fun _ => 0)))] ++ shW cL a5 sZ) := hD
  refine lv_iinc (v := 1) (lv' := [(1, .int 1), (0, .ref h0)]) hx hb dX4_init_84 hl (k := 0) rfl (by decide) (by decide) rfl (fun ls hl => ?_)
  refine lv_goto (tgt := 66) hx hb dX4_init_87 (by decide) ?_
  refine lv_iload_n hx hb dX4_init_66 rfl (lv_at hl 0 rfl) ?_
  refine lv_iconst (v := 4) hx hb dX4_init_67 (by decide) ?_
  refine lv_icmp_ge (tgt := 90) hx hb dX4_init_68 (by decide) (fun z => absurd z (by decide)) (fun _ => ?_)
  refine lv_aload_n hx hb dX4_init_71 rfl (lv_at hl 1 rfl) ?_
  refine va_get (D := D) (ci := 3) (C := RX4) (T := TX4) (N := 7) hx hb hts (by decide +kernel) hown hK hP 0 rfl rfl 5 (by decide) (hts (.fieldLink RX4 31 "SecondHome" "sheets" "[LSecondHome$Sheet;") (by decide +kernel)) (fun _ h9 => h9) rfl dX4_init_72 ?_
  refine lv_iload_n hx hb dX4_init_75 rfl (lv_at hl 0 rfl) ?_
  refine va_new (ci := 0) (fs := [.int 0, .int 0, .null]) (C := RX1) (T := TX1) (N := 3) hx hb hts (by decide +kernel) tyX1 tyX1_ok hown (hts (.classLink RX4 29 RX1) (by decide +kernel)) (hts (.instantiable RX1 3) (by decide +kernel)) (hts (.initialized RX1) (by decide +kernel)) hK hP hD hS hA rfl (by decide) (Nat.le_of_ble_eq_true rfl) (Nat.le_of_ble_eq_true rfl) dX4_init_76 (fun s6 H hP hD hS => ?_)
  have hP : va_P D vwCl ([(h0, .inr (3, [.ref (a1 0), .ref (a2 0), .ref (a3 0), .int 0, .ref (a4 0), .ref sh, .ref fi]))] ++ tkW c1 a1 sT0 ++ tkW c1 a2 sT0 ++ tkW c1 a3 sT0 ++ tpW cB a4 sZ ++ [(sh, .inl (cS, 4, .inr (.inr (.inr (.inr (va_up (fun _ => none) 0 (some (a5 0))))))))] ++ [(fi, .inl (c1, 7, .inl (fun _ => 0)))] ++ shW cL a5 sZ ++ [(s6, .inr (0, [.int 0, .int 0, .null]))]) H := hP
  have hD : va_D A ([(h0, .inr (3, [.ref (a1 0), .ref (a2 0), .ref (a3 0), .int 0, .ref (a4 0), .ref sh, .ref fi]))] ++ tkW c1 a1 sT0 ++ tkW c1 a2 sT0 ++ tkW c1 a3 sT0 ++ tpW cB a4 sZ ++ [(sh, .inl (cS, 4, .inr (.inr (.inr (.inr (va_up (fun _ => none) 0 (some (a5 0))))))))] ++ [(fi, .inl (c1, 7, .inl (fun _ => 0)))] ++ shW cL a5 sZ ++ [(s6, .inr (0, [.int 0, .int 0, .null]))]) := hD
  refine lv_dup hx hb dX4_init_79 rfl ?_
  have hPc := hP.sub (ws' := [(s6, .inr (0, [.int 0, .int 0, .null]))]) [37] rfl
  have hDc := hD.sub (ws' := [(s6, .inr (0, [.int 0, .int 0, .null]))]) [37] (by decide) rfl
  have hKc := hK.sub (tys' := []) [] rfl
  have hFc := va_free (wc := [(s6, .inr (0, [.int 0, .int 0, .null]))]) hD hS hA [37] rfl
  refine va_callv (va_runIN (As := []) (rest := [.ref s6, .int 1, .ref sh]) ⟨hx, hb, hml, hown, hts⟩ (iX1 l D s6 H.size) ⟨va_cnB 0 hts gX4_init_X1_init_n39 rfl rfl rfl hN1 (hts (.initialized RX1) (by decide +kernel)) (by decide +kernel) ⟨Nat.le_of_ble_eq_true rfl, Nat.le_of_ble_eq_true rfl⟩, rfl, hts (.instanceMethod yX1_init) (by decide +kernel)⟩ ⟨fun a U g mk q => by obtain ⟨q0, q1, qP, qK, qD⟩ := q; exact ⟨q0, q1, qP, va_K.moved (u := U) (U := U.calling g mk a) (Vm.Alike.refl U.vm) qK, qD⟩, fun U hU hW => ⟨rfl, by rw [hU], by rw [hU]; exact hPc, va_K.moved hW.alike hKc, hDc.weaken (fun _ _ _ _ => trivial)⟩⟩ rfl rfl hl.1 rfl (lv_room (Nat.le_of_ble_eq_true rfl)) dX4_init_80 ⟨Nat.le_of_ble_eq_true rfl, Nat.le_of_ble_eq_true rfl⟩) hS (fun q _ h => hFc q h) hFc (fun u t H1 locs ht hvm hw hB hz1 hk1 hS => ?_)
  obtain ⟨cX, a6, e0, hP1, hK1, hD1⟩ := hB
  subst e0
  rw [ht] at hP1
  have hK1 := va_K.moved hvm.symm hK1
  obtain ⟨hP, hD⟩ := va_join (wr := [(h0, .inr (3, [.ref (a1 0), .ref (a2 0), .ref (a3 0), .int 0, .ref (a4 0), .ref sh, .ref fi]))] ++ tkW c1 a1 sT0 ++ tkW c1 a2 sT0 ++ tkW c1 a3 sT0 ++ tpW cB a4 sZ ++ [(sh, .inl (cS, 4, .inr (.inr (.inr (.inr (va_up (fun _ => none) 0 (some (a5 0))))))))] ++ [(fi, .inl (c1, 7, .inl (fun _ => 0)))] ++ shW cL a5 sZ) (w1 := shW cX a6 sZ) hP hD [37] [0, 1, 2, 3, 4, 5, 6, 7, 8, 9, 10, 11, 12, 13, 14, 15, 16, 17, 18, 19, 20, 21, 22, 23, 24, 25, 26, 27, 28, 29, 30, 31, 32, 33, 34, 35, 36] rfl rfl (by decide) (by decide) hk1 hFc hP1 hD1
  have hK := hK.app hK1
  generalize H1 = H at hP hS ⊢
  obtain rfl : cL = cX := Option.some.inj ((show s.vm.findClass ("[" ++ FieldType.long.toString) = some cL from (hK.2 3 _ rfl).2).symm.trans (hK.2 4 _ rfl).2)
  have hK := hK.sub (tys' := [(c1, .int), (cB, .byte), (cS, .object RX1), (cL, .long)]) [0, 1, 2, 3] rfl
  have hP : va_P D vwCl ([(h0, .inr (3, [.ref (a1 0), .ref (a2 0), .ref (a3 0), .int 0, .ref (a4 0), .ref sh, .ref fi]))] ++ tkW c1 a1 sT0 ++ tkW c1 a2 sT0 ++ tkW c1 a3 sT0 ++ tpW cB a4 sZ ++ [(sh, .inl (cS, 4, .inr (.inr (.inr (.inr (va_up (fun _ => none) 0 (some (a5 0))))))))] ++ [(fi, .inl (c1, 7, .inl (fun _ => 0)))] ++ shW cL a5 sZ ++ shW cL a6 sZ) H := hP
  have hD : va_D A ([(h0, .inr (3, [.ref (a1 0), .ref (a2 0), .ref (a3 0), .int 0, .ref (a4 0), .ref sh, .ref fi]))] ++ tkW c1 a1 sT0 ++ tkW c1 a2 sT0 ++ tkW c1 a3 sT0 ++ tpW cB a4 sZ ++ [(sh, .inl (cS, 4, .inr (.inr (.inr (.inr (va_up (fun _ => none) 0 (some (a5 0))))))))] ++ [(fi, .inl (c1, 7, .inl (fun _ => 0)))] ++ shW cL a5 sZ ++ shW cL a6 sZ) := hD
  refine va_astq hx hb hK hP hD hS 33 2 37 0 (r := (RX1, TX1, 3)) rfl rfl rfl rfl (show ¬ ((1 : Int32) < 0 ∨ 4 ≤ (1 : Int32).toNatClampNeg) by decide) dX4_init_83 (fun H locs hP hD hS => ?_)
  have hP : va_P D vwCl ([(h0, .inr (3, [.ref (a1 0), .ref (a2 0), .ref (a3 0), .int 0, .ref (a4 0), .ref sh, .ref fi]))] ++ tkW c1 a1 sT0 ++ tkW c1 a2 sT0 ++ tkW c1 a3 sT0 ++ tpW cB a4 sZ ++ [(sh, .inl (cS, 4, .inr (.inr (.inr (.inr (va_up (va_up (fun _ => none) 0 (some (a5 0))) 1 (some (a6 0))))))))] ++ [(fi, .inl (c1, 7, .inl (fun _ => 0)))] ++ shW cL a5 sZ ++ shW cL a6 sZ) H := hP
  have hD : va_D A ([(h0, .inr (3, [.ref (a1 0), .ref (a2 0), .ref (a3 0), .int 0, .ref (a4 0), .ref sh, .ref fi]))] ++ tkW c1 a1 sT0 ++ tkW c1 a2 sT0 ++ tkW c1 a3 sT0 ++ tpW cB a4 sZ ++ [(sh, .inl (cS, 4, .inr (.inr (.inr (.inr (va_up (va_up (fun _ => none) 0 (some (a5 0))) 1 (some (a6 0))))))))] ++ [(fi, .inl (c1, 7, .inl (fun _ => 0)))] ++ shW cL a5 sZ ++ shW cL a6 sZ) := hD
  refine lv_iinc (v := 2) (lv' := [(1, .int 2), (0, .ref h0)]) hx hb dX4_init_84 hl (k := 0) rfl (by decide) (by decide) rfl (fun ls hl => ?_)
  refine lv_goto (tgt := 66) hx hb dX4_init_87 (by decide) ?_
  refine lv_iload_n hx hb dX4_init_66 rfl (lv_at hl 0 rfl) ?_
  refine lv_iconst (v := 4) hx hb dX4_init_67 (by decide) ?_
  refine lv_icmp_ge (tgt := 90) hx hb dX4_init_68 (by decide) (fun z => absurd z (by decide)) (fun _ => ?_)
  refine lv_aload_n hx hb dX4_init_71 rfl (lv_at hl 1 rfl) ?_
  refine va_get (D := D) (ci := 3) (C := RX4) (T := TX4) (N := 7) hx hb hts (by decide +kernel) hown hK hP 0 rfl rfl 5 (by decide) (hts (.fieldLink RX4 31 "SecondHome" "sheets" "[LSecondHome$Sheet;") (by decide +kernel)) (fun _ h9 => h9) rfl dX4_init_72 ?_
  refine lv_iload_n hx hb dX4_init_75 rfl (lv_at hl 0 rfl) ?_
  refine va_new (ci := 0) (fs := [.int 0, .int 0, .null]) (C := RX1) (T := TX1) (N := 3) hx hb hts (by decide +kernel) tyX1 tyX1_ok hown (hts (.classLink RX4 29 RX1) (by decide +kernel)) (hts (.instantiable RX1 3) (by decide +kernel)) (hts (.initialized RX1) (by decide +kernel)) hK hP hD hS hA rfl (by decide) (Nat.le_of_ble_eq_true rfl) (Nat.le_of_ble_eq_true rfl) dX4_init_76 (fun s7 H hP hD hS => ?_)
  have hP : va_P D vwCl ([(h0, .inr (3, [.ref (a1 0), .ref (a2 0), .ref (a3 0), .int 0, .ref (a4 0), .ref sh, .ref fi]))] ++ tkW c1 a1 sT0 ++ tkW c1 a2 sT0 ++ tkW c1 a3 sT0 ++ tpW cB a4 sZ ++ [(sh, .inl (cS, 4, .inr (.inr (.inr (.inr (va_up (va_up (fun _ => none) 0 (some (a5 0))) 1 (some (a6 0))))))))] ++ [(fi, .inl (c1, 7, .inl (fun _ => 0)))] ++ shW cL a5 sZ ++ shW cL a6 sZ ++ [(s7, .inr (0, [.int 0, .int 0, .null]))]) H := hP
  have hD : va_D A ([(h0, .inr (3, [.ref (a1 0), .ref (a2 0), .ref (a3 0), .int 0, .ref (a4 0), .ref sh, .ref fi]))] ++ tkW c1 a1 sT0 ++ tkW c1 a2 sT0 ++ tkW c1 a3 sT0 ++ tpW cB a4 sZ ++ [(sh, .inl (cS, 4, .inr (.inr (.inr (.inr (va_up (va_up (fun _ => none) 0 (some (a5 0))) 1 (some (a6 0))))))))] ++ [(fi, .inl (c1, 7, .inl (fun _ => 0)))] ++ shW cL a5 sZ ++ shW cL a6 sZ ++ [(s7, .inr (0, [.int 0, .int 0, .null]))]) := hD
  refine lv_dup hx hb dX4_init_79 rfl ?_
  have hPc := hP.sub (ws' := [(s7, .inr (0, [.int 0, .int 0, .null]))]) [39] rfl
  have hDc := hD.sub (ws' := [(s7, .inr (0, [.int 0, .int 0, .null]))]) [39] (by decide) rfl
  have hKc := hK.sub (tys' := []) [] rfl
  have hFc := va_free (wc := [(s7, .inr (0, [.int 0, .int 0, .null]))]) hD hS hA [39] rfl
  refine va_callv (va_runIN (As := []) (rest := [.ref s7, .int 2, .ref sh]) ⟨hx, hb, hml, hown, hts⟩ (iX1 l D s7 H.size) ⟨va_cnB 0 hts gX4_init_X1_init_n39 rfl rfl rfl hN1 (hts (.initialized RX1) (by decide +kernel)) (by decide +kernel) ⟨Nat.le_of_ble_eq_true rfl, Nat.le_of_ble_eq_true rfl⟩, rfl, hts (.instanceMethod yX1_init) (by decide +kernel)⟩ ⟨fun a U g mk q => by obtain ⟨q0, q1, qP, qK, qD⟩ := q; exact ⟨q0, q1, qP, va_K.moved (u := U) (U := U.calling g mk a) (Vm.Alike.refl U.vm) qK, qD⟩, fun U hU hW => ⟨rfl, by rw [hU], by rw [hU]; exact hPc, va_K.moved hW.alike hKc, hDc.weaken (fun _ _ _ _ => trivial)⟩⟩ rfl rfl hl.1 rfl (lv_room (Nat.le_of_ble_eq_true rfl)) dX4_init_80 ⟨Nat.le_of_ble_eq_true rfl, Nat.le_of_ble_eq_true rfl⟩) hS (fun q _ h => hFc q h) hFc (fun u t H1 locs ht hvm hw hB hz1 hk1 hS => ?_)
  obtain ⟨cX, a7, e0, hP1, hK1, hD1⟩ := hB
  subst e0
  rw [ht] at hP1
  have hK1 := va_K.moved hvm.symm hK1
  obtain ⟨hP, hD⟩ := va_join (wr := [(h0, .inr (3, [.ref (a1 0), .ref (a2 0), .ref (a3 0), .int 0, .ref (a4 0), .ref sh, .ref fi]))] ++ tkW c1 a1 sT0 ++ tkW c1 a2 sT0 ++ tkW c1 a3 sT0 ++ tpW cB a4 sZ ++ [(sh, .inl (cS, 4, .inr (.inr (.inr (.inr (va_up (va_up (fun _ => none) 0 (some (a5 0))) 1 (some (a6 0))))))))] ++ [(fi, .inl (c1, 7, .inl (fun _ => 0)))] ++ shW cL a5 sZ ++ shW cL a6 sZ) (w1 := shW cX a7 sZ) hP hD [39] [0, 1, 2, 3, 4, 5, 6, 7, 8, 9, 10, 11, 12, 13, 14, 15, 16, 17, 18, 19, 20, 21, 22, 23, 24, 25, 26, 27, 28, 29, 30, 31, 32, 33, 34, 35, 36, 37, 38] rfl rfl (by decide) (by decide) hk1 hFc hP1 hD1
  have hK := hK.app hK1
  generalize H1 = H at hP hS ⊢
  obtain rfl : cL = cX := Option.some.inj ((show s.vm.findClass ("[" ++ FieldType.long.toString) = some cL from (hK.2 3 _ rfl).2).symm.trans (hK.2 4 _ rfl).2)
  have hK := hK.sub (tys' := [(c1, .int), (cB, .byte), (cS, .object RX1), (cL, .long)]) [0, 1, 2, 3] rfl
  have hP : va_P D vwCl ([(h0, .inr (3, [.ref (a1 0), .ref (a2 0), .ref (a3 0), .int 0, .ref (a4 0), .ref sh, .ref fi]))] ++ tkW c1 a1 sT0 ++ tkW c1 a2 sT0 ++ tkW c1 a3 sT0 ++ tpW cB a4 sZ ++ [(sh, .inl (cS, 4, .inr (.inr (.inr (.inr (va_up (va_up (fun _ => none) 0 (some (a5 0))) 1 (some (a6 0))))))))] ++ [(fi, .inl (c1, 7, .inl (fun _ => 0)))] ++ shW cL a5 sZ ++ shW cL a6 sZ ++ shW cL a7 sZ) H := hP
  have hD : va_D A ([(h0, .inr (3, [.ref (a1 0), .ref (a2 0), .ref (a3 0), .int 0, .ref (a4 0), .ref sh, .ref fi]))] ++ tkW c1 a1 sT0 ++ tkW c1 a2 sT0 ++ tkW c1 a3 sT0 ++ tpW cB a4 sZ ++ [(sh, .inl (cS, 4, .inr (.inr (.inr (.inr (va_up (va_up (fun _ => none) 0 (some (a5 0))) 1 (some (a6 0))))))))] ++ [(fi, .inl (c1, 7, .inl (fun _ => 0)))] ++ shW cL a5 sZ ++ shW cL a6 sZ ++ shW cL a7 sZ) := hD
  refine va_astq hx hb hK hP hD hS 33 2 39 0 (r := (RX1, TX1, 3)) rfl rfl rfl rfl (show ¬ ((2 : Int32) < 0 ∨ 4 ≤ (2 : Int32).toNatClampNeg) by decide) dX4_init_83 (fun H locs hP hD hS => ?_)
  have hP : va_P D vwCl ([(h0, .inr (3, [.ref (a1 0), .ref (a2 0), .ref (a3 0), .int 0, .ref (a4 0), .ref sh, .ref fi]))] ++ tkW c1 a1 sT0 ++ tkW c1 a2 sT0 ++ tkW c1 a3 sT0 ++ tpW cB a4 sZ ++ [(sh, .inl (cS, 4, .inr (.inr (.inr (.inr (va_up (va_up (va_up (fun _ => none) 0 (some (a5 0))) 1 (some (a6 0))) 2 (some (a7 0))))))))] ++ [(fi, .inl (c1, 7, .inl (fun _ => 0)))] ++ shW cL a5 sZ ++ shW cL a6 sZ ++ shW cL a7 sZ) H := hP
  have hD : va_D A ([(h0, .inr (3, [.ref (a1 0), .ref (a2 0), .ref (a3 0), .int 0, .ref (a4 0), .ref sh, .ref fi]))] ++ tkW c1 a1 sT0 ++ tkW c1 a2 sT0 ++ tkW c1 a3 sT0 ++ tpW cB a4 sZ ++ [(sh, .inl (cS, 4, .inr (.inr (.inr (.inr (va_up (va_up (va_up (fun _ => none) 0 (some (a5 0))) 1 (some (a6 0))) 2 (some (a7 0))))))))] ++ [(fi, .inl (c1, 7, .inl (fun _ => 0)))] ++ shW cL a5 sZ ++ shW cL a6 sZ ++ shW cL a7 sZ) := hD
  refine lv_iinc (v := 3) (lv' := [(1, .int 3), (0, .ref h0)]) hx hb dX4_init_84 hl (k := 0) rfl (by decide) (by decide) rfl (fun ls hl => ?_)
  refine lv_goto (tgt := 66) hx hb dX4_init_87 (by decide) ?_
  refine lv_iload_n hx hb dX4_init_66 rfl (lv_at hl 0 rfl) ?_
  refine lv_iconst (v := 4) hx hb dX4_init_67 (by decide) ?_
  refine lv_icmp_ge (tgt := 90) hx hb dX4_init_68 (by decide) (fun z => absurd z (by decide)) (fun _ => ?_)
  refine lv_aload_n hx hb dX4_init_71 rfl (lv_at hl 1 rfl) ?_
  refine va_get (D := D) (ci := 3) (C := RX4) (T := TX4) (N := 7) hx hb hts (by decide +kernel) hown hK hP 0 rfl rfl 5 (by decide) (hts (.fieldLink RX4 31 "SecondHome" "sheets" "[LSecondHome$Sheet;") (by decide +kernel)) (fun _ h9 => h9) rfl dX4_init_72 ?_
  refine lv_iload_n hx hb dX4_init_75 rfl (lv_at hl 0 rfl) ?_
  refine va_new (ci := 0) (fs := [.int 0, .int 0, .null]) (C := RX1) (T := TX1) (N := 3) hx hb hts (by decide +kernel) tyX1 tyX1_ok hown (hts (.classLink RX4 29 RX1) (by decide +kernel)) (hts (.instantiable RX1 3) (by decide +kernel)) (hts (.initialized RX1) (by decide +kernel)) hK hP hD hS hA rfl (by decide) (Nat.le_of_ble_eq_true rfl) (Nat.le_of_ble_eq_true rfl) dX4_init_76 (fun s8 H hP hD hS => ?_)
  have hP : va_P D vwCl ([(h0, .inr (3, [.ref (a1 0), .ref (a2 0), .ref (a3 0), .int 0, .ref (a4 0), .ref sh, .ref fi]))] ++ tkW c1 a1 sT0 ++ tkW c1 a2 sT0 ++ tkW c1 a3 sT0 ++ tpW cB a4 sZ ++ [(sh, .inl (cS, 4, .inr (.inr (.inr (.inr (va_up (va_up (va_up (fun _ => none) 0 (some (a5 0))) 1 (some (a6 0))) 2 (some (a7 0))))))))] ++ [(fi, .inl (c1, 7, .inl (fun _ => 0)))] ++ shW cL a5 sZ ++ shW cL a6 sZ ++ shW cL a7 sZ ++ [(s8, .inr (0, [.int 0, .int 0, .null]))]) H := hP
  have hD : va_D A ([(h0, .inr (3, [.ref (a1 0), .ref (a2 0), .ref (a3 0), .int 0, .ref (a4 0), .ref sh, .ref fi]))] ++ tkW c1 a1 sT0 ++ tkW c1 a2 sT0 ++ tkW c1 a3 sT0 ++ tpW cB a4 sZ ++ [(sh, .inl (cS, 4, .inr (.inr (.inr (.inr (va_up (va_up (va_up (fun _ => none) 0 (some (a5 0))) 1 (some (a6 0))) 2 (some (a7 0))))))))] ++ [(fi, .inl (c1, 7, .inl (fun _ => 0)))] ++ shW cL a5 sZ ++ shW cL a6 sZ ++ shW cL a7 sZ ++ [(s8, .inr (0, [.int 0, .int 0, .null]))]) := hD
  refine lv_dup hx hb dX4_init_79 rfl ?_
  have hPc := hP.sub (ws' := [(s8, .inr (0, [.int 0, .int 0, .null]))]) [41] rfl
  have hDc := hD.sub (ws' := [(s8, .inr (0, [.int 0, .int 0, .null]))]) [41] (by decide) rfl
  have hKc := hK.sub (tys' := []) [] rfl
  have hFc := va_free (wc := [(s8, .inr (0, [.int 0, .int 0, .null]))]) hD hS hA [41] rfl
  refine va_callv (va_runIN (As := []) (rest := [.ref s8, .int 3, .ref sh]) ⟨hx, hb, hml, hown, hts⟩ (iX1 l D s8 H.size) ⟨va_cnB 0 hts gX4_init_X1_init_n39 rfl rfl rfl hN1 (hts (.initialized RX1) (by decide +kernel)) (by decide +kernel) ⟨Nat.le_of_ble_eq_true rfl, Nat.le_of_ble_eq_true rfl⟩, rfl, hts (.instanceMethod yX1_init) (by decide +kernel)⟩ ⟨fun a U g mk q => by obtain ⟨q0, q1, qP, qK, qD⟩ := q; exact ⟨q0, q1, qP, va_K.moved (u := U) (U := U.calling g mk a) (Vm.Alike.refl U.vm) qK, qD⟩, fun U hU hW => ⟨rfl, by rw [hU], by rw [hU]; exact hPc, va_K.moved hW.alike hKc, hDc.weaken (fun _ _ _ _ => trivial)⟩⟩ rfl rfl hl.1 rfl (lv_room (Nat.le_of_ble_eq_true rfl)) dX4_init_80 ⟨Nat.le_of_ble_eq_true rfl, Nat.le_of_ble_eq_true rfl⟩) hS (fun q _ h => hFc q h) hFc (fun u t H1 locs ht hvm hw hB hz1 hk1 hS => ?_)
  obtain ⟨cX, a8, e0, hP1, hK1, hD1⟩ := hB
  subst e0
  rw [ht] at hP1
  have hK1 := va_K.moved hvm.symm hK1
  obtain ⟨hP, hD⟩ := va_join (wr := [(h0, .inr (3, [.ref (a1 0), .ref (a2 0), .ref (a3 0), .int 0, .ref (a4 0), .ref sh, .ref fi]))] ++ tkW c1 a1 sT0 ++ tkW c1 a2 sT0 ++ tkW c1 a3 sT0 ++ tpW cB a4 sZ ++ [(sh, .inl (cS, 4, .inr (.inr (.inr (.inr (va_up (va_up (va_up (fun _ => none) 0 (some (a5 0))) 1 (some (a6 0))) 2 (some (a7 0))))))))] ++ [(fi, .inl (c1, 7, .inl (fun _ => 0)))] ++ shW cL a5 sZ ++ shW cL a6 sZ ++ shW cL a7 sZ) (w1 := shW cX a8 sZ) hP hD [41] [0, 1, 2, 3, 4, 5, 6, 7, 8, 9, 10, 11, 12, 13, 14, 15, 16, 17, 18, 19, 20, 21, 22, 23, 24, 25, 26, 27, 28, 29, 30, 31, 32, 33, 34, 35, 36, 37, 38, 39, 40] rfl rfl (by decide) (by decide) hk1 hFc hP1 hD1
  have hK := hK.app hK1
  generalize H1 = H at hP hS ⊢
  obtain rfl : cL = cX := Option.some.inj ((show s.vm.findClass ("[" ++ FieldType.long.toString) = some cL from (hK.2 3 _ rfl).2).symm.trans (hK.2 4 _ rfl).2)
  have hK := hK.sub (tys' := [(c1, .int), (cB, .byte), (cS, .object RX1), (cL, .long)]) [0, 1, 2, 3] rfl
  have hP : va_P D vwCl ([(h0, .inr (3, [.ref (a1 0), .ref (a2 0), .ref (a3 0), .int 0, .ref (a4 0), .ref sh, .ref fi]))] ++ tkW c1 a1 sT0 ++ tkW c1 a2 sT0 ++ tkW c1 a3 sT0 ++ tpW cB a4 sZ ++ [(sh, .inl (cS, 4, .inr (.inr (.inr (.inr (va_up (va_up (va_up (fun _ => none) 0 (some (a5 0))) 1 (some (a6 0))) 2 (some (a7 0))))))))] ++ [(fi, .inl (c1, 7, .inl (fun _ => 0)))] ++ shW cL a5 sZ ++ shW cL a6 sZ ++ shW cL a7 sZ ++ shW cL a8 sZ) H := hP
  have hD : va_D A ([(h0, .inr (3, [.ref (a1 0), .ref (a2 0), .ref (a3 0), .int 0, .ref (a4 0), .ref sh, .ref fi]))] ++ tkW c1 a1 sT0 ++ tkW c1 a2 sT0 ++ tkW c1 a3 sT0 ++ tpW cB a4 sZ ++ [(sh, .inl (cS, 4, .inr (.inr (.inr (.inr (va_up (va_up (va_up (fun _ => none) 0 (some (a5 0))) 1 (some (a6 0))) 2 (some (a7 0))))))))] ++ [(fi, .inl (c1, 7, .inl (fun _ => 0)))] ++ shW cL a5 sZ ++ shW cL a6 sZ ++ shW cL a7 sZ ++ shW cL a8 sZ) := hD
  refine va_astq hx hb hK hP hD hS 33 2 41 0 (r := (RX1, TX1, 3)) rfl rfl rfl rfl (show ¬ ((3 : Int32) < 0 ∨ 4 ≤ (3 : Int32).toNatClampNeg) by decide) dX4_init_83 (fun H locs hP hD hS => ?_)
  have hP : va_P D vwCl ([(h0, .inr (3, [.ref (a1 0), .ref (a2 0), .ref (a3 0), .int 0, .ref (a4 0), .ref sh, .ref fi]))] ++ tkW c1 a1 sT0 ++ tkW c1 a2 sT0 ++ tkW c1 a3 sT0 ++ tpW cB a4 sZ ++ [(sh, .inl (cS, 4, .inr (.inr (.inr (.inr (va_up (va_up (va_up (va_up (fun _ => none) 0 (some (a5 0))) 1 (some (a6 0))) 2 (some (a7 0))) 3 (some (a8 0))))))))] ++ [(fi, .inl (c1, 7, .inl (fun _ => 0)))] ++ shW cL a5 sZ ++ shW cL a6 sZ ++ shW cL a7 sZ ++ shW cL a8 sZ) H := hP
  have hD : va_D A ([(h0, .inr (3, [.ref (a1 0), .ref (a2 0), .ref (a3 0), .int 0, .ref (a4 0), .ref sh, .ref fi]))] ++ tkW c1 a1 sT0 ++ tkW c1 a2 sT0 ++ tkW c1 a3 sT0 ++ tpW cB a4 sZ ++ [(sh, .inl (cS, 4, .inr (.inr (.inr (.inr (va_up (va_up (va_up (va_up (fun _ => none) 0 (some (a5 0))) 1 (some (a6 0))) 2 (some (a7 0))) 3 (some (a8 0))))))))] ++ [(fi, .inl (c1, 7, .inl (fun _ => 0)))] ++ shW cL a5 sZ ++ shW cL a6 sZ ++ shW cL a7 sZ ++ shW cL a8 sZ) := hD
  refine lv_iinc (v := 4) (lv' := [(1, .int 4), (0, .ref h0)]) hx hb dX4_init_84 hl (k := 0) rfl (by decide) (by decide) rfl (fun ls hl => ?_)
  refine lv_goto (tgt := 66) hx hb dX4_init_87 (by decide) ?_
  refine lv_iload_n hx hb dX4_init_66 rfl (lv_at hl 0 rfl) ?_
  refine lv_iconst (v := 4) hx hb dX4_init_67 (by decide) ?_
  refine lv_icmp_ge (tgt := 90) hx hb dX4_init_68 (by decide) (fun _ => ?_) (fun z => absurd (by decide) z)
  exact W.vret hx hb hr (fun t ht hW => ⟨⟨(), rfl, trivial, c1, cB, cS, cL, (fun o j => if o = 0 then (if j = 0 then h0 else if j = 1 then fi else sh) else if o = 1 then a1 j else if o = 2 then a2 j else if o = 3 then a3 j else if o = 4 then a4 j else if o = 5 then a5 j else if o = 6 then a6 j else if o = 7 then a7 j else a8 j), rfl, by rw [ht]; exact hP, va_K.moved hW.alike hK, hD⟩, hS.F ht⟩) hS.2.2 dX4_init_90
