/-! what the walks use: branches, names, ends -/
theorem o_t {α : Type} {c : Prop} [Decidable c] {a b : Option α} {r : α} (hc : c) (h : (if c then a else b) = some r) : a = some r := by rw [if_pos hc] at h; exact h
theorem o_f {α : Type} {c : Prop} [Decidable c] {a b : Option α} {r : α} (hc : ¬ c) (h : (if c then a else b) = some r) : b = some r := by rw [if_neg hc] at h; exact h
theorem o_nx {α β : Type} {e a : α} {f : α → Option β} {r : β} (ha : a = e) (h : nm e f = some r) : f a = some r := by subst ha; exact h
theorem o_j0 {β : Type} {k f : Option β} {r : β} (e : k = f) (h : k = some r) : f = some r := e ▸ h
theorem o_j1 {A1 β : Type} {k f : A1 → Option β} {r : β} (e : k = f) {a : A1} (h : k a = some r) : f a = some r := e ▸ h
theorem o_j2 {A1 A2 β : Type} {k f : A1 → A2 → Option β} {r : β} (e : k = f) {a : A1} {b : A2} (h : k a b = some r) : f a b = some r := e ▸ h
theorem o_j3 {A1 A2 A3 β : Type} {k f : A1 → A2 → A3 → Option β} {r : β} (e : k = f) {a : A1} {b : A2} {c : A3} (h : k a b c = some r) : f a b c = some r := e ▸ h
theorem o_j4 {A1 A2 A3 A4 β : Type} {k f : A1 → A2 → A3 → A4 → Option β} {r : β} (e : k = f) {a : A1} {b : A2} {c : A3} {d : A4} (h : k a b c d = some r) : f a b c d = some r := e ▸ h
theorem o_j5 {A1 A2 A3 A4 A5 β : Type} {k f : A1 → A2 → A3 → A4 → A5 → Option β} {r : β} (e : k = f) {a : A1} {b : A2} {c : A3} {d : A4} {x : A5} (h : k a b c d x = some r) : f a b c d x = some r := e ▸ h
theorem cMk {l : Launch} {G : sGl} {y : MethodName} {ws ws' : List Cond} {rm : Room} {av : List Value} {S S' : sWo} {M M' : sOb} {r : Option Value} {cc : ByteArray} {maxL : Nat} {ret : Option FieldType} (hy : plainName y.cls = true) (hws : ws = Cond.code y cc maxL ret :: ws') (hln : (lg_sl av).length ≤ maxL)
    (body : ∀ (p : Program) (e : Env) (s : State) (m : MethodId) (args : Array Value) (below : List Frame) (meth : Method) (c : Code) (Q : State → Prop), Q = MQ below (sQp G r S' M') args s 0 0 (sF G) → p.tables.exec = Jvm.exec → c.code = cc → meth.sig.returnType = ret → meth.locks = false → c.maxLocals = maxL → s.vm.findClass y.cls = some m.cls → (∀ w ∈ ws, w.before args s = true) → sHw G s S M s.heap [] → ∀ ls : Array Slot, lv_has ls maxL (lv_args 0 av) → W p l e rm s m args below meth c s.heap [] 0 0 Q (F0 m 0 ls [])) : sCt l G y ws rm av S M r S' M' :=
  sCt.mk hy hws hln (fun p e s m below meth c hx hb hr hlk hml hown hts hw ls hl => body p e s m av.toArray below meth c _ rfl hx hb hr hlk hml hown hts hw ls hl)
section ENDS
variable {p : Program} {l : Launch} {e : Env} {R : Room} {s : State} {m : MethodId} {args : Array Value} {below : List Frame} {meth : Method} {c : Code} {H : Heap} {locs : List Loc} {Q : State → Prop}
variable {cc : ByteArray} {pc : Nat} {ls : Array Slot} {G : sGl} {S S2 : sWo} {M M2 : sOb} {x y : Int32} {o cells slots : Nat} {rest : List Value} {own : String} {index : Nat}
theorem rI (hQ : Q = MQ below (sQp G (some (.int y)) S2 M2) args s 0 0 (sF G)) (hx : p.tables.exec = Jvm.exec) (hb : c.code = cc) (hr : meth.sig.returnType = some .int) (hlk : meth.locks = false) (hw : sHw G s S M H locs) (hdg : decode cc pc = .ok (.ireturn, 1)) (hv : x = y) (hS : S = S2) (hM : M = M2) : W p l e R s m args below meth c H locs 0 0 Q (F0 m pc ls [.int x]) := by
  subst hQ
  exact eI hx hb hr hlk hw hdg hv hS hM
theorem rZ (hQ : Q = MQ below (sQp G (some (.int y)) S2 M2) args s 0 0 (sF G)) (hx : p.tables.exec = Jvm.exec) (hb : c.code = cc) (hr : meth.sig.returnType = some .boolean) (hlk : meth.locks = false) (hw : sHw G s S M H locs) (h01 : x = 0 ∨ x = 1) (hdg : decode cc pc = .ok (.ireturn, 1)) (hv : x = y) (hS : S = S2) (hM : M = M2) : W p l e R s m args below meth c H locs 0 0 Q (F0 m pc ls [.int x]) := by
  subst hQ
  exact eZ hx hb hr hlk hw h01 hdg hv hS hM
theorem rC (hQ : Q = MQ below (sQp G (some (.int y)) S2 M2) args s 0 0 (sF G)) (hx : p.tables.exec = Jvm.exec) (hb : c.code = cc) (hr : meth.sig.returnType = some .char) (hlk : meth.locks = false) (hw : sHw G s S M H locs) (hc : x = (x.toUInt32 % 65536).toInt32) (hdg : decode cc pc = .ok (.ireturn, 1)) (hv : x = y) (hS : S = S2) (hM : M = M2) : W p l e R s m args below meth c H locs 0 0 Q (F0 m pc ls [.int x]) := by
  subst hQ
  exact W.zret hx hb hr (by rw [hc]; exact pk_nc x) (eQ hw (by rw [hv]) hS hM) hw.2.2.2.1.2.2 hdg hlk
theorem rB (hQ : Q = MQ below (sQp G (some (.int y)) S2 M2) args s 0 0 (sF G)) (hx : p.tables.exec = Jvm.exec) (hb : c.code = cc) (hr : meth.sig.returnType = some .byte) (hlk : meth.locks = false) (hw : sHw G s S M H locs) (hc : narrow .byte (.int x) = .int x) (hdg : decode cc pc = .ok (.ireturn, 1)) (hv : x = y) (hS : S = S2) (hM : M = M2) : W p l e R s m args below meth c H locs 0 0 Q (F0 m pc ls [.int x]) := by
  subst hQ
  exact W.zret hx hb hr hc (eQ hw (by rw [hv]) hS hM) hw.2.2.2.1.2.2 hdg hlk
theorem rL {x y : Int64} (hQ : Q = MQ below (sQp G (some (.long y)) S2 M2) args s 0 0 (sF G)) (hx : p.tables.exec = Jvm.exec) (hb : c.code = cc) (hr : meth.sig.returnType = some .long) (hlk : meth.locks = false) (hw : sHw G s S M H locs) (hdg : decode cc pc = .ok (.lreturn, 1)) (hv : x = y) (hS : S = S2) (hM : M = M2) : W p l e R s m args below meth c H locs 0 0 Q (F0 m pc ls [.long x]) := by
  subst hQ
  exact eL hx hb hr hlk hw hdg hv hS hM
theorem rV (hQ : Q = MQ below (sQp G none S2 M2) args s 0 0 (sF G)) (hx : p.tables.exec = Jvm.exec) (hb : c.code = cc) (hr : meth.sig.returnType = none) (hlk : meth.locks = false) (hw : sHw G s S M H locs) (hdg : decode cc pc = .ok (.return_, 1)) (hS : S = S2) (hM : M = M2) : W p l e R s m args below meth c H locs 0 0 Q (F0 m pc ls []) := by
  subst hQ
  exact eV hx hb hr hlk hw hdg hS hM
theorem rA {a b : Nat} {rt : FieldType} (hQ : Q = MQ below (sQp G (some (.ref b)) S2 M2) args s 0 0 (sF G)) (hx : p.tables.exec = Jvm.exec) (hb : c.code = cc) (hr : meth.sig.returnType = some rt) (hrt : ∃ n, rt = .object n) (hlk : meth.locks = false) (hw : sHw G s S M H locs) (hdg : decode cc pc = .ok (.areturn, 1)) (hv : a = b) (hS : S = S2) (hM : M = M2) : W p l e R s m args below meth c H locs 0 0 Q (F0 m pc ls [.ref a]) := by
  subst hQ
  exact eA hx hb hr hrt hlk hw hdg hv hS hM
theorem lenSh (hx : p.tables.exec = Jvm.exec) (hb : c.code = cc) (hw : sHw G s S M H locs) (ho : isSh o) (hdg : decode cc pc = .ok (.arraylength, 1))
    (kk : W p l e R s m args below meth c H locs cells slots Q (F0 m (pc + 1) ls (.int 40 :: rest))) : W p l e R s m args below meth c H locs cells slots Q (F0 m pc ls (.ref (sA G o 1) :: rest)) :=
  va_alen (D := G.1) hx hb hw.1 hw.2.1 (2 * o + 26) 2 (cShA ho) rfl (by rfl) hdg kk
theorem cpSh {o1 o2 : Nat} {sp dp n : Int32} (hx : p.tables.exec = Jvm.exec) (hb : c.code = cc) (hml : c.maxLocals = ls.size) (hown : s.vm.findClass own = some m.cls) (hlink : (Cond.methodLink own index arraycopyName).before args s = true) (hnat : (Cond.native arraycopyName).before args s = true) (hstat : (Cond.static arraycopyName).before args s = true) (hini : (Cond.initialized "java/lang/System").before args s = true) (hw : sHw G s S M H locs) (ho1 : isSh o1) (ho2 : isSh o2)
    (hc : ¬ (sp < 0 ∨ dp < 0 ∨ n < 0 ∨ ¬ sp.toNatClampNeg + n.toNatClampNeg ≤ 40 ∨ ¬ dp.toNatClampNeg + n.toNatClampNeg ≤ 40)) (hframes : 1 ≤ R.frames) (hlocals : (rest.map fun v => v.category).sum + (nativeFrameWords "java/lang/System" "arraycopy" 5 + 11) ≤ R.locals) (hdg : decode cc pc = .ok (.invokestatic index, 3)) (hU : sUp S o2 (sSL (S o2) (va_cpy (S o1).2.2 (S o2).2.2 sp.toNatClampNeg dp.toNatClampNeg n.toNatClampNeg)) = S2)
    (kk : ∀ (H1 : Heap) (locs1 : List Loc), sHw G s S2 M H1 locs1 → W p l e R s m args below meth c H1 locs1 cells slots Q (F0 m (pc + 3) ls rest)) : W p l e R s m args below meth c H locs cells slots Q (F0 m pc ls (.int n :: .int dp :: .ref (sA G o2 1) :: .int sp :: .ref (sA G o1 1) :: rest)) := by
  subst hU
  refine va_copyl (D := G.1) (ty := .long) hx hb hml hown hlink hnat hstat hini hw.1 hw.2.1 hw.2.2.1 hw.2.2.2.1 (2 * o1 + 26) (2 * o2 + 26) 2 2 (cShA ho1) (cShA ho2) rfl rfl rfl (fun q => hc (Or.inl q)) (fun q => hc (Or.inr (Or.inl q))) (fun q => hc (Or.inr (Or.inr (Or.inl q)))) (Decidable.not_not.mp fun q => hc (Or.inr (Or.inr (Or.inr (Or.inl q))))) (Decidable.not_not.mp fun q => hc (Or.inr (Or.inr (Or.inr (Or.inr q))))) (fun _ _ => rfl) hframes hlocals hdg (fun H1 locs1 hP _ hS => kk H1 locs1 (hw.post ?_ hS))
  rw [cShL ho2] at hP
  exact hP
end ENDS
