/-! ROWS over the whole world: fields, arrays, calls, ends -/
theorem cTk0 {G : sGl} {S : sWo} {M : sOb} {o : Nat} (ho : isTk o) : (sCw G S M)[10 * o - 7]? = some (sA G o 0, .inr (2, fTk (sA G o) (S o))) := by
  rcases ho with rfl | rfl | rfl <;> rfl
theorem cTkP {G : sGl} {S : sWo} {M : sOb} {o : Nat} (ho : isTk o) (j : Nat) (v : Int32) : (sCw G S M).set (10 * o - 7) (sA G o 0, .inr (2, fTk (sA G o) (sSs (S o) j v))) = sCw G (sUp S o (sSs (S o) j v)) M := by
  rcases ho with rfl | rfl | rfl <;> rfl
theorem cTkA {G : sGl} {S : sWo} {M : sOb} {o : Nat} (ho : isTk o) {k : Nat} (hk : k < 9) : (sCw G S M)[10 * o - 6 + k]? = some (sA G o (k + 1), .inl (sC G 0, 9, .inl ((S o).2.1 k))) := by
  rcases ho with rfl | rfl | rfl <;> (match k, hk with
    | 0, _ => rfl
    | 1, _ => rfl
    | 2, _ => rfl
    | 3, _ => rfl
    | 4, _ => rfl
    | 5, _ => rfl
    | 6, _ => rfl
    | 7, _ => rfl
    | 8, _ => rfl)
theorem cTkS {G : sGl} {S : sWo} {M : sOb} {o : Nat} (ho : isTk o) {k : Nat} (hk : k < 9) (i : Nat) (v : Int32) : (sCw G S M).set (10 * o - 6 + k) (sA G o (k + 1), .inl (sC G 0, 9, .inl (upd ((S o).2.1 k) i v))) = sCw G (sUp S o (sSa (S o) k i v)) M := by
  rcases ho with rfl | rfl | rfl <;> (match k, hk with
    | 0, _ => rfl
    | 1, _ => rfl
    | 2, _ => rfl
    | 3, _ => rfl
    | 4, _ => rfl
    | 5, _ => rfl
    | 6, _ => rfl
    | 7, _ => rfl
    | 8, _ => rfl)
theorem cSh0 {G : sGl} {S : sWo} {M : sOb} {o : Nat} (ho : isSh o) : (sCw G S M)[2 * o + 25]? = some (sA G o 0, .inr (0, fSh (sA G o) (S o))) := by
  rcases ho with rfl | rfl | rfl | rfl <;> rfl
theorem cShP {G : sGl} {S : sWo} {M : sOb} {o : Nat} (ho : isSh o) (j : Nat) (v : Int32) : (sCw G S M).set (2 * o + 25) (sA G o 0, .inr (0, fSh (sA G o) (sSs (S o) j v))) = sCw G (sUp S o (sSs (S o) j v)) M := by
  rcases ho with rfl | rfl | rfl | rfl <;> rfl
theorem cShA {G : sGl} {S : sWo} {M : sOb} {o : Nat} (ho : isSh o) : (sCw G S M)[2 * o + 26]? = some (sA G o 1, .inl (sC G 2, 40, .inr (.inl (S o).2.2))) := by
  rcases ho with rfl | rfl | rfl | rfl <;> rfl
theorem cShL {G : sGl} {S : sWo} {M : sOb} {o : Nat} (ho : isSh o) (f : Nat → Int64) : (sCw G S M).set (2 * o + 26) (sA G o 1, .inl (sC G 2, 40, .inr (.inl f))) = sCw G (sUp S o (sSL (S o) f)) M := by
  rcases ho with rfl | rfl | rfl | rfl <;> rfl
theorem cTpP {G : sGl} {S : sWo} {M : sOb} (j : Nat) (v : Int32) : (sCw G S M).set 33 (sA G 4 0, .inr (1, fTp (sA G 4) (sSs (S 4) j v))) = sCw G (sUp S 4 (sSs (S 4) j v)) M := rfl
theorem cTpS {G : sGl} {S : sWo} {M : sOb} (i : Nat) (v : Int32) : (sCw G S M).set 34 (sA G 4 1, .inl (sC G 1, 120, .inl (upd ((S 4).2.1 0) i v))) = sCw G (sUp S 4 (sSa (S 4) 0 i v)) M := rfl
theorem cOwP {G : sGl} {S : sWo} {M : sOb} (j : Nat) (v : Int32) : (sCw G S M).set 0 (sA G 0 0, .inr (3, fOw G (sSs (S 0) j v))) = sCw G (sUp S 0 (sSs (S 0) j v)) M := rfl
theorem cOwS {G : sGl} {S : sWo} {M : sOb} (i : Nat) (v : Int32) : (sCw G S M).set 1 (sA G 0 1, .inl (sC G 0, 7, .inl (upd ((S 0).2.1 0) i v))) = sCw G (sUp S 0 (sSa (S 0) 0 i v)) M := rfl
theorem cMdP {G : sGl} {S : sWo} {M : sOb} (j : Nat) (v : Int32) : (sCw G S M).set 43 (sA G 9 0, .inr (4, fMd (sA G 9) (sSs M j v))) = sCw G S (sSs M j v) := rfl
def mLen (k : Nat) : Nat := match k with
  | 0 => 77
  | 1 => 77
  | 2 => 77
  | 3 => 8
  | 4 => 120
  | 5 => 4
  | 6 => 4
  | _ => 9
theorem cMdA {G : sGl} {S : sWo} {M : sOb} {k : Nat} (hk : k < 8) : (sCw G S M)[44 + k]? = some (sA G 9 (k + 1), .inl (sC G 0, mLen k, .inl (M.2.1 k))) := by
  match k, hk with
  | 0, _ => rfl
  | 1, _ => rfl
  | 2, _ => rfl
  | 3, _ => rfl
  | 4, _ => rfl
  | 5, _ => rfl
  | 6, _ => rfl
  | 7, _ => rfl
theorem cMdS {G : sGl} {S : sWo} {M : sOb} {k : Nat} (hk : k < 8) (i : Nat) (v : Int32) : (sCw G S M).set (44 + k) (sA G 9 (k + 1), .inl (sC G 0, mLen k, .inl (upd (M.2.1 k) i v))) = sCw G S (sSa M k i v) := by
  match k, hk with
  | 0, _ => rfl
  | 1, _ => rfl
  | 2, _ => rfl
  | 3, _ => rfl
  | 4, _ => rfl
  | 5, _ => rfl
  | 6, _ => rfl
  | 7, _ => rfl
theorem cMdL {G : sGl} {S : sWo} {M : sOb} (f : Nat → Int64) : (sCw G S M).set 52 (sA G 9 9, .inl (sC G 2, 160, .inr (.inl f))) = sCw G S (sSL M f) := rfl
section ROWS
variable {p : Program} {l : Launch} {e : Env} {R : Room} {s : State} {m : MethodId} {args : Array Value} {below : List Frame} {meth : Method} {c : Code} {H : Heap} {locs : List Loc} {cells slots : Nat} {Q : State → Prop}
variable {cc : ByteArray} {pc : Nat} {ls : Array Slot} {rest : List Value} {G : sGl} {S S2 : sWo} {M M2 : sOb} {own : String} {Ts : List Cond} {index o : Nat} {T : sOb} {i x : Int32} {v : Value}
/-- Track: a field -/
theorem gTk (hx : p.tables.exec = Jvm.exec) (hb : c.code = cc) (hts : ∀ w ∈ Ts, w.before args s = true) (hin : ∀ w ∈ u_ws RX3 TX3 15, w ∈ Ts) (hown : s.vm.findClass own = some m.cls) (hw : sHw G s S M H locs) (ho : isTk o) (hT : S o = T) (k : Nat) (hk : k < 15) (hlink : (Cond.fieldLink own index (TX3 k).1 (TX3 k).2.1 (TX3 k).2.2.1).before args s = true) (hv : (fTk (sA G o) T)[k]? = some v) (hdg : decode cc pc = .ok (.getfield index, 3))
    (kk : W p l e R s m args below meth c H locs cells slots Q (F0 m (pc + 3) ls (v :: rest))) : W p l e R s m args below meth c H locs cells slots Q (F0 m pc ls (.ref (sA G o 0) :: rest)) := by
  subst hT
  exact va_get (D := G.1) (ci := 2) (C := RX3) (T := TX3) (N := 15) hx hb hts hin hown hw.1 hw.2.1 (10 * o - 7) (cTk0 ho) rfl k hk hlink (fun _ h => h) hv hdg kk
theorem pTk (hx : p.tables.exec = Jvm.exec) (hb : c.code = cc) (hts : ∀ w ∈ Ts, w.before args s = true) (hin : ∀ w ∈ u_ws RX3 TX3 15, w ∈ Ts) (hown : s.vm.findClass own = some m.cls) (hw : sHw G s S M H locs) (ho : isTk o) (hT : S o = T) (k : Nat) (hk : k < 6) (hlink : (Cond.fieldLink own index (TX3 k).1 (TX3 k).2.1 (TX3 k).2.2.1).before args s = true) (hdg : decode cc pc = .ok (.putfield index, 3)) (hU : sUp S o (sSs T k x) = S2)
    (kk : ∀ (H1 : Heap) (locs1 : List Loc), sHw G s S2 M H1 locs1 → W p l e R s m args below meth c H1 locs1 cells slots Q (F0 m (pc + 3) ls rest)) : W p l e R s m args below meth c H locs cells slots Q (F0 m pc ls (.int x :: .ref (sA G o 0) :: rest)) := by
  subst hT
  subst hU
  have hfs : (fTk (sA G o) (S o)).set k (.int x) = fTk (sA G o) (sSs (S o) k x) := by
    match k, hk with
    | 0, _ => rfl
    | 1, _ => rfl
    | 2, _ => rfl
    | 3, _ => rfl
    | 4, _ => rfl
    | 5, _ => rfl
  have hd : parseFieldDescriptor (TX3 k).2.2.1 = some .int := by
    match k, hk with
    | 0, _ => decide +kernel
    | 1, _ => decide +kernel
    | 2, _ => decide +kernel
    | 3, _ => decide +kernel
    | 4, _ => decide +kernel
    | 5, _ => decide +kernel
  have hf : (TX3 k).2.2.2 = false := by
    match k, hk with
    | 0, _ => rfl
    | 1, _ => rfl
    | 2, _ => rfl
    | 3, _ => rfl
    | 4, _ => rfl
    | 5, _ => rfl
  refine va_put (D := G.1) (ci := 2) (C := RX3) (T := TX3) (N := 15) hx hb hts hin tyX3 tyX3_ok nmX3 hown hw.1 hw.2.1 hw.2.2.1 hw.2.2.2.1 (10 * o - 7) (cTk0 ho) rfl k (by omega) hlink (fun _ h => h) hf hd rfl rfl (by show k < 15; omega) hdg (fun H1 locs1 hP _ hS => kk H1 locs1 (hw.post ?_ hS))
  rw [hfs, cTkP ho] at hP
  exact hP
theorem ldTk (hx : p.tables.exec = Jvm.exec) (hb : c.code = cc) (hw : sHw G s S M H locs) (ho : isTk o) (hT : S o = T) (k : Nat) (hk : k < 9) (hin : ¬ (i < 0 ∨ 9 ≤ i.toNatClampNeg)) (hdg : decode cc pc = .ok (.iaload, 1))
    (kk : W p l e R s m args below meth c H locs cells slots Q (F0 m (pc + 1) ls (.int (T.2.1 k i.toNatClampNeg) :: rest))) : W p l e R s m args below meth c H locs cells slots Q (F0 m pc ls (.int i :: .ref (sA G o (k + 1)) :: rest)) := by
  subst hT
  exact va_iald (D := G.1) hx hb hw.1 hw.2.1 (10 * o - 6 + k) 0 (cTkA ho hk) rfl hin hdg kk
theorem stTk (hx : p.tables.exec = Jvm.exec) (hb : c.code = cc) (hw : sHw G s S M H locs) (ho : isTk o) (hT : S o = T) (k : Nat) (hk : k < 9) (hin : ¬ (i < 0 ∨ 9 ≤ i.toNatClampNeg)) (hdg : decode cc pc = .ok (.iastore, 1)) (hU : sUp S o (sSa T k i.toNatClampNeg x) = S2)
    (kk : ∀ (H1 : Heap) (locs1 : List Loc), sHw G s S2 M H1 locs1 → W p l e R s m args below meth c H1 locs1 cells slots Q (F0 m (pc + 1) ls rest)) : W p l e R s m args below meth c H locs cells slots Q (F0 m pc ls (.int x :: .int i :: .ref (sA G o (k + 1)) :: rest)) := by
  subst hT
  subst hU
  refine va_iast (D := G.1) hx hb hw.1 hw.2.1 hw.2.2.1 hw.2.2.2.1 (10 * o - 6 + k) 0 (cTkA ho hk) rfl hin hdg (fun H1 locs1 hP _ hS => kk H1 locs1 (hw.post ?_ hS))
  rw [cTkS ho hk] at hP
  exact hP
theorem lenTk (hx : p.tables.exec = Jvm.exec) (hb : c.code = cc) (hw : sHw G s S M H locs) (ho : isTk o) (k : Nat) (hk : k < 9) (hdg : decode cc pc = .ok (.arraylength, 1))
    (kk : W p l e R s m args below meth c H locs cells slots Q (F0 m (pc + 1) ls (.int 9 :: rest))) : W p l e R s m args below meth c H locs cells slots Q (F0 m pc ls (.ref (sA G o (k + 1)) :: rest)) :=
  va_alen (D := G.1) hx hb hw.1 hw.2.1 (10 * o - 6 + k) 0 (cTkA ho hk) rfl (by rfl) hdg kk
/-- Sheet -/
theorem gSh (hx : p.tables.exec = Jvm.exec) (hb : c.code = cc) (hts : ∀ w ∈ Ts, w.before args s = true) (hin : ∀ w ∈ u_ws RX1 TX1 3, w ∈ Ts) (hown : s.vm.findClass own = some m.cls) (hw : sHw G s S M H locs) (ho : isSh o) (hT : S o = T) (k : Nat) (hk : k < 3) (hlink : (Cond.fieldLink own index (TX1 k).1 (TX1 k).2.1 (TX1 k).2.2.1).before args s = true) (hv : (fSh (sA G o) T)[k]? = some v) (hdg : decode cc pc = .ok (.getfield index, 3))
    (kk : W p l e R s m args below meth c H locs cells slots Q (F0 m (pc + 3) ls (v :: rest))) : W p l e R s m args below meth c H locs cells slots Q (F0 m pc ls (.ref (sA G o 0) :: rest)) := by
  subst hT
  exact va_get (D := G.1) (ci := 0) (C := RX1) (T := TX1) (N := 3) hx hb hts hin hown hw.1 hw.2.1 (2 * o + 25) (cSh0 ho) rfl k hk hlink (fun _ h => h) hv hdg kk
theorem pSh (hx : p.tables.exec = Jvm.exec) (hb : c.code = cc) (hts : ∀ w ∈ Ts, w.before args s = true) (hin : ∀ w ∈ u_ws RX1 TX1 3, w ∈ Ts) (hown : s.vm.findClass own = some m.cls) (hw : sHw G s S M H locs) (ho : isSh o) (hT : S o = T) (k : Nat) (hk : k < 2) (hlink : (Cond.fieldLink own index (TX1 k).1 (TX1 k).2.1 (TX1 k).2.2.1).before args s = true) (hdg : decode cc pc = .ok (.putfield index, 3)) (hU : sUp S o (sSs T k x) = S2)
    (kk : ∀ (H1 : Heap) (locs1 : List Loc), sHw G s S2 M H1 locs1 → W p l e R s m args below meth c H1 locs1 cells slots Q (F0 m (pc + 3) ls rest)) : W p l e R s m args below meth c H locs cells slots Q (F0 m pc ls (.int x :: .ref (sA G o 0) :: rest)) := by
  subst hT
  subst hU
  have hfs : (fSh (sA G o) (S o)).set k (.int x) = fSh (sA G o) (sSs (S o) k x) := by
    match k, hk with
    | 0, _ => rfl
    | 1, _ => rfl
  have hd : parseFieldDescriptor (TX1 k).2.2.1 = some .int := by
    match k, hk with
    | 0, _ => decide +kernel
    | 1, _ => decide +kernel
  have hf : (TX1 k).2.2.2 = false := by
    match k, hk with
    | 0, _ => rfl
    | 1, _ => rfl
  refine va_put (D := G.1) (ci := 0) (C := RX1) (T := TX1) (N := 3) hx hb hts hin tyX1 tyX1_ok nmX1 hown hw.1 hw.2.1 hw.2.2.1 hw.2.2.2.1 (2 * o + 25) (cSh0 ho) rfl k (by omega) hlink (fun _ h => h) hf hd rfl rfl (by show k < 3; omega) hdg (fun H1 locs1 hP _ hS => kk H1 locs1 (hw.post ?_ hS))
  rw [hfs, cShP ho] at hP
  exact hP
theorem ldSh (hx : p.tables.exec = Jvm.exec) (hb : c.code = cc) (hw : sHw G s S M H locs) (ho : isSh o) (hT : S o = T) (hin : ¬ (i < 0 ∨ 40 ≤ i.toNatClampNeg)) (hdg : decode cc pc = .ok (.laload, 1))
    (kk : W p l e R s m args below meth c H locs cells slots Q (F0 m (pc + 1) ls (.long (T.2.2 i.toNatClampNeg) :: rest))) : W p l e R s m args below meth c H locs cells slots Q (F0 m pc ls (.int i :: .ref (sA G o 1) :: rest)) := by
  subst hT
  exact va_lald (D := G.1) hx hb hw.1 hw.2.1 (2 * o + 26) 2 (cShA ho) rfl hin hdg kk
theorem stSh {z : Int64} (hx : p.tables.exec = Jvm.exec) (hb : c.code = cc) (hw : sHw G s S M H locs) (ho : isSh o) (hT : S o = T) (hin : ¬ (i < 0 ∨ 40 ≤ i.toNatClampNeg)) (hdg : decode cc pc = .ok (.lastore, 1)) (hU : sUp S o (sSl T i.toNatClampNeg z) = S2)
    (kk : ∀ (H1 : Heap) (locs1 : List Loc), sHw G s S2 M H1 locs1 → W p l e R s m args below meth c H1 locs1 cells slots Q (F0 m (pc + 1) ls rest)) : W p l e R s m args below meth c H locs cells slots Q (F0 m pc ls (.long z :: .int i :: .ref (sA G o 1) :: rest)) := by
  subst hT
  subst hU
  refine va_last (D := G.1) hx hb hw.1 hw.2.1 hw.2.2.1 hw.2.2.2.1 (2 * o + 26) 2 (cShA ho) rfl hin hdg (fun H1 locs1 hP _ hS => kk H1 locs1 (hw.post ?_ hS))
  rw [cShL ho] at hP
  exact hP
/-- Tape -/
theorem gTp (hx : p.tables.exec = Jvm.exec) (hb : c.code = cc) (hts : ∀ w ∈ Ts, w.before args s = true) (hin : ∀ w ∈ u_ws RX2 TX2 6, w ∈ Ts) (hown : s.vm.findClass own = some m.cls) (hw : sHw G s S M H locs) (hT : S 4 = T) (k : Nat) (hk : k < 6) (hlink : (Cond.fieldLink own index (TX2 k).1 (TX2 k).2.1 (TX2 k).2.2.1).before args s = true) (hv : (fTp (sA G 4) T)[k]? = some v) (hdg : decode cc pc = .ok (.getfield index, 3))
    (kk : W p l e R s m args below meth c H locs cells slots Q (F0 m (pc + 3) ls (v :: rest))) : W p l e R s m args below meth c H locs cells slots Q (F0 m pc ls (.ref (sA G 4 0) :: rest)) := by
  subst hT
  exact va_get (D := G.1) (ci := 1) (C := RX2) (T := TX2) (N := 6) hx hb hts hin hown hw.1 hw.2.1 33 rfl rfl k hk hlink (fun _ h => h) hv hdg kk
theorem pTp (hx : p.tables.exec = Jvm.exec) (hb : c.code = cc) (hts : ∀ w ∈ Ts, w.before args s = true) (hin : ∀ w ∈ u_ws RX2 TX2 6, w ∈ Ts) (hown : s.vm.findClass own = some m.cls) (hw : sHw G s S M H locs) (hT : S 4 = T) (k j : Nat) (hk : k < 6) (hfs : (fTp (sA G 4) T).set k (.int x) = fTp (sA G 4) (sSs T j x)) (hf : (TX2 k).2.2.2 = false) (hd : (TX2 k).2.2.1 = "I") (hlink : (Cond.fieldLink own index (TX2 k).1 (TX2 k).2.1 (TX2 k).2.2.1).before args s = true) (hdg : decode cc pc = .ok (.putfield index, 3)) (hU : sUp S 4 (sSs T j x) = S2)
    (kk : ∀ (H1 : Heap) (locs1 : List Loc), sHw G s S2 M H1 locs1 → W p l e R s m args below meth c H1 locs1 cells slots Q (F0 m (pc + 3) ls rest)) : W p l e R s m args below meth c H locs cells slots Q (F0 m pc ls (.int x :: .ref (sA G 4 0) :: rest)) := by
  subst hT
  subst hU
  refine va_put (D := G.1) (ci := 1) (C := RX2) (T := TX2) (N := 6) (fs := fTp (sA G 4) (S 4)) (ty := .int) hx hb hts hin tyX2 tyX2_ok nmX2 hown hw.1 hw.2.1 hw.2.2.1 hw.2.2.2.1 33 rfl rfl k hk hlink (fun _ h => h) hf (by rw [hd]; decide +kernel) rfl rfl hk hdg (fun H1 locs1 hP _ hS => kk H1 locs1 (hw.post ?_ hS))
  rw [hfs, cTpP] at hP
  exact hP
theorem ldTp (hx : p.tables.exec = Jvm.exec) (hb : c.code = cc) (hw : sHw G s S M H locs) (hT : S 4 = T) (hin : ¬ (i < 0 ∨ 120 ≤ i.toNatClampNeg)) (hdg : decode cc pc = .ok (.baload, 1))
    (kk : W p l e R s m args below meth c H locs cells slots Q (F0 m (pc + 1) ls (.int (T.2.1 0 i.toNatClampNeg) :: rest))) : W p l e R s m args below meth c H locs cells slots Q (F0 m pc ls (.int i :: .ref (sA G 4 1) :: rest)) := by
  subst hT
  exact va_bald (D := G.1) hx hb hw.1 hw.2.1 34 1 rfl rfl hin hdg kk
theorem stTp (hx : p.tables.exec = Jvm.exec) (hb : c.code = cc) (hw : sHw G s S M H locs) (hT : S 4 = T) (hin : ¬ (i < 0 ∨ 120 ≤ i.toNatClampNeg)) (hdg : decode cc pc = .ok (.bastore, 1)) (hU : sUp S 4 (sSa T 0 i.toNatClampNeg (vp_nar .byte x)) = S2)
    (kk : ∀ (H1 : Heap) (locs1 : List Loc), sHw G s S2 M H1 locs1 → W p l e R s m args below meth c H1 locs1 cells slots Q (F0 m (pc + 1) ls rest)) : W p l e R s m args below meth c H locs cells slots Q (F0 m pc ls (.int x :: .int i :: .ref (sA G 4 1) :: rest)) := by
  subst hT
  subst hU
  refine va_bast (D := G.1) (f := (S 4).2.1 0) hx hb hw.1 hw.2.1 hw.2.2.1 hw.2.2.2.1 34 1 rfl rfl hin hdg (fun H1 locs1 hP _ hS => kk H1 locs1 (hw.post ?_ hS))
  rw [cTpS] at hP
  exact hP
/-- SecondHome itself -/
theorem gOw (hx : p.tables.exec = Jvm.exec) (hb : c.code = cc) (hts : ∀ w ∈ Ts, w.before args s = true) (hin : ∀ w ∈ u_ws RX4 TX4 7, w ∈ Ts) (hown : s.vm.findClass own = some m.cls) (hw : sHw G s S M H locs) (k : Nat) (hk : k < 7) (hlink : (Cond.fieldLink own index (TX4 k).1 (TX4 k).2.1 (TX4 k).2.2.1).before args s = true) (hv : (fOw G (S 0))[k]? = some v) (hdg : decode cc pc = .ok (.getfield index, 3))
    (kk : W p l e R s m args below meth c H locs cells slots Q (F0 m (pc + 3) ls (v :: rest))) : W p l e R s m args below meth c H locs cells slots Q (F0 m pc ls (.ref (sA G 0 0) :: rest)) :=
  va_get (D := G.1) (ci := 3) (C := RX4) (T := TX4) (N := 7) hx hb hts hin hown hw.1 hw.2.1 0 rfl rfl k hk hlink (fun _ h => h) hv hdg kk
theorem pOw (hx : p.tables.exec = Jvm.exec) (hb : c.code = cc) (hts : ∀ w ∈ Ts, w.before args s = true) (hin : ∀ w ∈ u_ws RX4 TX4 7, w ∈ Ts) (hown : s.vm.findClass own = some m.cls) (hw : sHw G s S M H locs) (h01 : x = 0 ∨ x = 1) (hlink : (Cond.fieldLink own index (TX4 3).1 (TX4 3).2.1 (TX4 3).2.2.1).before args s = true) (hdg : decode cc pc = .ok (.putfield index, 3)) (hU : sUp S 0 (sSs (S 0) 0 x) = S2)
    (kk : ∀ (H1 : Heap) (locs1 : List Loc), sHw G s S2 M H1 locs1 → W p l e R s m args below meth c H1 locs1 cells slots Q (F0 m (pc + 3) ls rest)) : W p l e R s m args below meth c H locs cells slots Q (F0 m pc ls (.int x :: .ref (sA G 0 0) :: rest)) := by
  subst hU
  have h1 : narrow .boolean (.int x) = .int x := by rcases h01 with rfl | rfl <;> rfl
  have h2 : fits .boolean (.int x) = true := by rcases h01 with rfl | rfl <;> rfl
  refine va_put (D := G.1) (ci := 3) (C := RX4) (T := TX4) (N := 7) (fs := fOw G (S 0)) (ty := .boolean) hx hb hts hin tyX4 tyX4_ok nmX4 hown hw.1 hw.2.1 hw.2.2.1 hw.2.2.2.1 0 rfl rfl 3 (by decide) hlink (fun _ h => h) rfl (by decide +kernel) h1 h2 (by show 3 < 7; decide) hdg (fun H1 locs1 hP _ hS => kk H1 locs1 (hw.post ?_ hS))
  rw [← cOwP 0 x]
  exact hP
theorem ldOw (hx : p.tables.exec = Jvm.exec) (hb : c.code = cc) (hw : sHw G s S M H locs) (hin : ¬ (i < 0 ∨ 7 ≤ i.toNatClampNeg)) (hdg : decode cc pc = .ok (.iaload, 1))
    (kk : W p l e R s m args below meth c H locs cells slots Q (F0 m (pc + 1) ls (.int ((S 0).2.1 0 i.toNatClampNeg) :: rest))) : W p l e R s m args below meth c H locs cells slots Q (F0 m pc ls (.int i :: .ref (sA G 0 1) :: rest)) :=
  va_iald (D := G.1) hx hb hw.1 hw.2.1 1 0 rfl rfl hin hdg kk
theorem stOw (hx : p.tables.exec = Jvm.exec) (hb : c.code = cc) (hw : sHw G s S M H locs) (hin : ¬ (i < 0 ∨ 7 ≤ i.toNatClampNeg)) (hdg : decode cc pc = .ok (.iastore, 1)) (hU : sUp S 0 (sSa (S 0) 0 i.toNatClampNeg x) = S2)
    (kk : ∀ (H1 : Heap) (locs1 : List Loc), sHw G s S2 M H1 locs1 → W p l e R s m args below meth c H1 locs1 cells slots Q (F0 m (pc + 1) ls rest)) : W p l e R s m args below meth c H locs cells slots Q (F0 m pc ls (.int x :: .int i :: .ref (sA G 0 1) :: rest)) := by
  subst hU
  refine va_iast (D := G.1) (f := (S 0).2.1 0) hx hb hw.1 hw.2.1 hw.2.2.1 hw.2.2.2.1 1 0 rfl rfl hin hdg (fun H1 locs1 hP _ hS => kk H1 locs1 (hw.post ?_ hS))
  rw [cOwS] at hP
  exact hP
theorem aaOw (hx : p.tables.exec = Jvm.exec) (hb : c.code = cc) (hw : sHw G s S M H locs) (hin : ¬ (i < 0 ∨ 4 ≤ i.toNatClampNeg)) (hdg : decode cc pc = .ok (.aaload, 1))
    (kk : W p l e R s m args below meth c H locs cells slots Q (F0 m (pc + 1) ls (.ref (sA G (5 + i.toNatClampNeg) 0) :: rest))) : W p l e R s m args below meth c H locs cells slots Q (F0 m pc ls (.int i :: .ref (sA G 0 2) :: rest)) :=
  va_aldq (D := G.1) (C := "SecondHome$Sheet") (f := fun j => some (sA G (5 + j) 0)) hx hb hw.1 hw.2.1 2 3 rfl rfl hin hdg kk
theorem isSh_of (h : ¬ (i < 0 ∨ 4 ≤ i.toNatClampNeg)) : isSh (5 + i.toNatClampNeg) := by
  have h1 : i.toNatClampNeg < 4 := Nat.not_le.mp fun q => h (Or.inr q)
  unfold isSh
  omega
/-- the reference -/
theorem gMd (hx : p.tables.exec = Jvm.exec) (hb : c.code = cc) (hts : ∀ w ∈ Ts, w.before args s = true) (hin : ∀ w ∈ u_ws RX5 TX5 15, w ∈ Ts) (hown : s.vm.findClass own = some m.cls) (hw : sHw G s S M H locs) (k : Nat) (hk : k < 15) (hlink : (Cond.fieldLink own index (TX5 k).1 (TX5 k).2.1 (TX5 k).2.2.1).before args s = true) (hv : (fMd (sA G 9) M)[k]? = some v) (hdg : decode cc pc = .ok (.getfield index, 3))
    (kk : W p l e R s m args below meth c H locs cells slots Q (F0 m (pc + 3) ls (v :: rest))) : W p l e R s m args below meth c H locs cells slots Q (F0 m pc ls (.ref (sA G 9 0) :: rest)) :=
  va_get (D := G.1) (ci := 4) (C := RX5) (T := TX5) (N := 15) hx hb hts hin hown hw.1 hw.2.1 43 rfl rfl k hk hlink (fun _ h => h) hv hdg kk
theorem pMd {ty : FieldType} (hx : p.tables.exec = Jvm.exec) (hb : c.code = cc) (hts : ∀ w ∈ Ts, w.before args s = true) (hin : ∀ w ∈ u_ws RX5 TX5 15, w ∈ Ts) (hown : s.vm.findClass own = some m.cls) (hw : sHw G s S M H locs) (k j : Nat) (hk : k < 15) (hfs : (fMd (sA G 9) M).set k (.int x) = fMd (sA G 9) (sSs M j x)) (hf : (TX5 k).2.2.2 = false) (hd : parseFieldDescriptor (TX5 k).2.2.1 = some ty) (h1 : narrow ty (.int x) = .int x) (h2 : fits ty (.int x) = true) (hlink : (Cond.fieldLink own index (TX5 k).1 (TX5 k).2.1 (TX5 k).2.2.1).before args s = true) (hdg : decode cc pc = .ok (.putfield index, 3)) (hU : sSs M j x = M2)
    (kk : ∀ (H1 : Heap) (locs1 : List Loc), sHw G s S M2 H1 locs1 → W p l e R s m args below meth c H1 locs1 cells slots Q (F0 m (pc + 3) ls rest)) : W p l e R s m args below meth c H locs cells slots Q (F0 m pc ls (.int x :: .ref (sA G 9 0) :: rest)) := by
  subst hU
  refine va_put (D := G.1) (ci := 4) (C := RX5) (T := TX5) (N := 15) (fs := fMd (sA G 9) M) (ty := ty) hx hb hts hin tyX5 tyX5_ok nmX5 hown hw.1 hw.2.1 hw.2.2.1 hw.2.2.2.1 43 rfl rfl k hk hlink (fun _ h => h) hf hd h1 h2 hk hdg (fun H1 locs1 hP _ hS => kk H1 locs1 (hw.post ?_ hS))
  rw [hfs, cMdP] at hP
  exact hP
theorem ldMd {n : Nat} (hx : p.tables.exec = Jvm.exec) (hb : c.code = cc) (hw : sHw G s S M H locs) (k : Nat) (hk : k < 8) (hn : mLen k = n) (hin : ¬ (i < 0 ∨ n ≤ i.toNatClampNeg)) (hdg : decode cc pc = .ok (.iaload, 1))
    (kk : W p l e R s m args below meth c H locs cells slots Q (F0 m (pc + 1) ls (.int (M.2.1 k i.toNatClampNeg) :: rest))) : W p l e R s m args below meth c H locs cells slots Q (F0 m pc ls (.int i :: .ref (sA G 9 (k + 1)) :: rest)) := by
  subst hn
  exact va_iald (D := G.1) hx hb hw.1 hw.2.1 (44 + k) 0 (cMdA hk) rfl hin hdg kk
theorem stMd {n : Nat} (hx : p.tables.exec = Jvm.exec) (hb : c.code = cc) (hw : sHw G s S M H locs) (k : Nat) (hk : k < 8) (hn : mLen k = n) (hin : ¬ (i < 0 ∨ n ≤ i.toNatClampNeg)) (hdg : decode cc pc = .ok (.iastore, 1)) (hU : sSa M k i.toNatClampNeg x = M2)
    (kk : ∀ (H1 : Heap) (locs1 : List Loc), sHw G s S M2 H1 locs1 → W p l e R s m args below meth c H1 locs1 cells slots Q (F0 m (pc + 1) ls rest)) : W p l e R s m args below meth c H locs cells slots Q (F0 m pc ls (.int x :: .int i :: .ref (sA G 9 (k + 1)) :: rest)) := by
  subst hn
  subst hU
  refine va_iast (D := G.1) hx hb hw.1 hw.2.1 hw.2.2.1 hw.2.2.2.1 (44 + k) 0 (cMdA hk) rfl hin hdg (fun H1 locs1 hP _ hS => kk H1 locs1 (hw.post ?_ hS))
  rw [cMdS hk] at hP
  exact hP
theorem ldMl (hx : p.tables.exec = Jvm.exec) (hb : c.code = cc) (hw : sHw G s S M H locs) (hin : ¬ (i < 0 ∨ 160 ≤ i.toNatClampNeg)) (hdg : decode cc pc = .ok (.laload, 1))
    (kk : W p l e R s m args below meth c H locs cells slots Q (F0 m (pc + 1) ls (.long (M.2.2 i.toNatClampNeg) :: rest))) : W p l e R s m args below meth c H locs cells slots Q (F0 m pc ls (.int i :: .ref (sA G 9 9) :: rest)) :=
  va_lald (D := G.1) (f := M.2.2) hx hb hw.1 hw.2.1 52 2 rfl rfl hin hdg kk
theorem stMl {z : Int64} (hx : p.tables.exec = Jvm.exec) (hb : c.code = cc) (hw : sHw G s S M H locs) (hin : ¬ (i < 0 ∨ 160 ≤ i.toNatClampNeg)) (hdg : decode cc pc = .ok (.lastore, 1)) (hU : sSl M i.toNatClampNeg z = M2)
    (kk : ∀ (H1 : Heap) (locs1 : List Loc), sHw G s S M2 H1 locs1 → W p l e R s m args below meth c H1 locs1 cells slots Q (F0 m (pc + 1) ls rest)) : W p l e R s m args below meth c H locs cells slots Q (F0 m pc ls (.long z :: .int i :: .ref (sA G 9 9) :: rest)) := by
  subst hU
  refine va_last (D := G.1) (f := M.2.2) hx hb hw.1 hw.2.1 hw.2.2.1 hw.2.2.2.1 52 2 rfl rfl hin hdg (fun H1 locs1 hP _ hS => kk H1 locs1 (hw.post ?_ hS))
  rw [cMdL] at hP
  exact hP
/-- receivers -/
theorem rvTk (hw : sHw G s S M H locs) (ho : isTk o) : ∃ cell : Cell, H[sA G o 0]? = some cell ∧ cell.vm.isStatics = false ∧ s.vm.findClass RX3 = some cell.cls := va_recv hw.1 hw.2.1 (ci := 2) (q := (RX3, TX3, 15)) rfl (cTk0 ho)
theorem rvSh (hw : sHw G s S M H locs) (ho : isSh o) : ∃ cell : Cell, H[sA G o 0]? = some cell ∧ cell.vm.isStatics = false ∧ s.vm.findClass RX1 = some cell.cls := va_recv hw.1 hw.2.1 (ci := 0) (q := (RX1, TX1, 3)) rfl (cSh0 ho)
theorem rvTp (hw : sHw G s S M H locs) : ∃ cell : Cell, H[sA G 4 0]? = some cell ∧ cell.vm.isStatics = false ∧ s.vm.findClass RX2 = some cell.cls := va_recv hw.1 hw.2.1 (ci := 1) (q0 := 33) (q := (RX2, TX2, 6)) rfl rfl
theorem rvOw (hw : sHw G s S M H locs) : ∃ cell : Cell, H[sA G 0 0]? = some cell ∧ cell.vm.isStatics = false ∧ s.vm.findClass RX4 = some cell.cls := va_recv hw.1 hw.2.1 (ci := 3) (q0 := 0) (q := (RX4, TX4, 7)) rfl rfl
theorem rvMd (hw : sHw G s S M H locs) : ∃ cell : Cell, H[sA G 9 0]? = some cell ∧ cell.vm.isStatics = false ∧ s.vm.findClass RX5 = some cell.cls := va_recv hw.1 hw.2.1 (ci := 4) (q0 := 43) (q := (RX5, TX5, 15)) rfl rfl
/-- calls -/
theorem kRun {y : MethodName} {ws : List Cond} {rm : Room} {mc0 : Nat} {r : Option Value} {st0 st' : List Value} {aa : Array Value} (hw : sHw G s S M H locs) (hr : va_Run p l e R s m args below meth c H locs cells slots 0 0 (F0 m pc ls st0) rest (sQp G r S2 M2 aa) (sF G)) (hst' : r.toList ++ rest = st')
    (kk : ∀ (H1 : Heap) (locs1 : List Loc), sHw G s S2 M2 H1 locs1 → W p l e R s m args below meth c H1 locs1 cells slots Q (F0 m (pc + 3) ls st')) : W p l e R s m args below meth c H locs cells slots Q (F0 m pc ls st0) := by
  subst hst'
  intro T hT X
  obtain ⟨v, st₀, t, T', L, h0, X', hL, e1, e2, ⟨hv, hP, hz, hk⟩, st⟩ := hr T hT X
  cases hv
  rw [h0] at hz hk
  have hS := hw.2.2.2.1
  have hS1 : va_S (sF G) s.heap T'.heap (locs ++ L) := ⟨Nat.le_trans hS.1 (by rw [e1]; exact hz), fun q h1 h2 => by rw [e1, hk q (Nat.lt_of_lt_of_le h1 hS.1) h2]; exact hS.2.1 q h1 h2, fun q hq => by
      rcases List.mem_append.mp hq with h | h
      · exact hS.2.2 q h
      · exact hL q h⟩
  obtain ⟨t2, a1, b1⟩ := kk T'.heap (locs ++ L) (hw.post (by rw [e1]; exact hP) hS1) T' rfl X'
  exact ⟨t2, st t2 a1, b1⟩
theorem kV {y : MethodName} {ws : List Cond} {rm : Room} {r : Option Value} {st0 st' As : List Value} {b n nL maxL : Nat} {C : String} {bytes : ByteArray} {ret : Option FieldType} (F : CallFix p m c cc nL s args Ts own) (hM : sCt l G y ws rm (.ref b :: As) S M r S2 M2) (cw : CallW R s args own C index y bytes maxL ret ws rm 0 0 n) (hw : sHw G s S M H locs) (hrc : ∃ cell : Cell, H[b]? = some cell ∧ cell.vm.isStatics = false ∧ s.vm.findClass C = some cell.cls) (hn : As.length = n) (hsz : ls.size = nL) (hst : As.reverse ++ .ref b :: rest = st0) (hW : (rest.map fun v => v.category).sum ≤ 8) (hdg : decode cc pc = .ok (.invokevirtual index, 3)) (hf : cells ≤ R.cells ∧ slots ≤ R.slots) (hst' : r.toList ++ rest = st')
    (kk : ∀ (H1 : Heap) (locs1 : List Loc), sHw G s S2 M2 H1 locs1 → W p l e R s m args below meth c H1 locs1 cells slots Q (F0 m (pc + 3) ls st')) : W p l e R s m args below meth c H locs cells slots Q (F0 m pc ls st0) := by
  subst hst
  exact kRun (y := y) (ws := ws) (rm := rm) (mc0 := 0) hw (va_runV (As := As) (rest := rest) F hM cw ⟨sPw.blind, hrc, fun U hU hW => ⟨rfl, hw.pre hU hW⟩⟩ rfl hn hsz rfl (lv_room hW) hdg hf) hst' kk
theorem kS {y : MethodName} {ws : List Cond} {rm : Room} {r : Option Value} {st0 st' As : List Value} {n nL maxL : Nat} {bytes : ByteArray} {ret : Option FieldType} (F : CallFix p m c cc nL s args Ts own) (hM : sCt l G y ws rm As S M r S2 M2) (cw : CallB R s args own index y bytes maxL ret ws rm 0 0 n ∧ (Cond.static y).before args s = true) (hw : sHw G s S M H locs) (hn : As.length = n) (hsz : ls.size = nL) (hst : As.reverse ++ rest = st0) (hW : (rest.map fun v => v.category).sum ≤ 8) (hdg : decode cc pc = .ok (.invokestatic index, 3)) (hf : cells ≤ R.cells ∧ slots ≤ R.slots) (hst' : r.toList ++ rest = st')
    (kk : ∀ (H1 : Heap) (locs1 : List Loc), sHw G s S2 M2 H1 locs1 → W p l e R s m args below meth c H1 locs1 cells slots Q (F0 m (pc + 3) ls st')) : W p l e R s m args below meth c H locs cells slots Q (F0 m pc ls st0) := by
  subst hst
  exact kRun (y := y) (ws := ws) (rm := rm) (mc0 := 0) hw (va_runS (As := As) (rest := rest) F hM cw ⟨sPw.blind, fun U hU hW => ⟨rfl, hw.pre hU hW⟩⟩ rfl hn hsz rfl (lv_room hW) hdg hf) hst' kk
/-- ends -/
theorem eQ {r r2 : Option Value} (hw : sHw G s S M H locs) (hr : r = r2) (hS : S = S2) (hM : M = M2) : ∀ t : State, t.heap = H → s.WarmedH t.vm → sQp G r2 S2 M2 args s (.returned r) t := by
  subst hr; subst hS; subst hM
  intro t ht _
  exact ⟨rfl, by rw [ht]; exact hw.2.1, hw.2.2.2.1.F ht⟩
theorem eI {y : Int32} (hx : p.tables.exec = Jvm.exec) (hb : c.code = cc) (hr : meth.sig.returnType = some .int) (hlk : meth.locks = false) (hw : sHw G s S M H locs) (hdg : decode cc pc = .ok (.ireturn, 1)) (hv : x = y) (hS : S = S2) (hM : M = M2) : W p l e R s m args below meth c H locs 0 0 (MQ below (sQp G (some (.int y)) S2 M2) args s 0 0 (sF G)) (F0 m pc ls [.int x]) :=
  W.iret hx hb hr (eQ hw (by rw [hv]) hS hM) hw.2.2.2.1.2.2 hdg hlk
theorem eZ {y : Int32} (hx : p.tables.exec = Jvm.exec) (hb : c.code = cc) (hr : meth.sig.returnType = some .boolean) (hlk : meth.locks = false) (hw : sHw G s S M H locs) (h01 : x = 0 ∨ x = 1) (hdg : decode cc pc = .ok (.ireturn, 1)) (hv : x = y) (hS : S = S2) (hM : M = M2) : W p l e R s m args below meth c H locs 0 0 (MQ below (sQp G (some (.int y)) S2 M2) args s 0 0 (sF G)) (F0 m pc ls [.int x]) :=
  W.zret hx hb hr (by rcases h01 with rfl | rfl <;> rfl) (eQ hw (by rw [hv]) hS hM) hw.2.2.2.1.2.2 hdg hlk
theorem eL {x y : Int64} (hx : p.tables.exec = Jvm.exec) (hb : c.code = cc) (hr : meth.sig.returnType = some .long) (hlk : meth.locks = false) (hw : sHw G s S M H locs) (hdg : decode cc pc = .ok (.lreturn, 1)) (hv : x = y) (hS : S = S2) (hM : M = M2) : W p l e R s m args below meth c H locs 0 0 (MQ below (sQp G (some (.long y)) S2 M2) args s 0 0 (sF G)) (F0 m pc ls [.long x]) :=
  W.lret hx hb hr (eQ hw (by rw [hv]) hS hM) hw.2.2.2.1.2.2 hdg hlk
theorem eV (hx : p.tables.exec = Jvm.exec) (hb : c.code = cc) (hr : meth.sig.returnType = none) (hlk : meth.locks = false) (hw : sHw G s S M H locs) (hdg : decode cc pc = .ok (.return_, 1)) (hS : S = S2) (hM : M = M2) : W p l e R s m args below meth c H locs 0 0 (MQ below (sQp G none S2 M2) args s 0 0 (sF G)) (F0 m pc ls []) :=
  W.vret hx hb hr (eQ hw rfl hS hM) hw.2.2.2.1.2.2 hdg hlk
theorem eA {a b : Nat} {rt : FieldType} (hx : p.tables.exec = Jvm.exec) (hb : c.code = cc) (hr : meth.sig.returnType = some rt) (hrt : ∃ n, rt = .object n) (hlk : meth.locks = false) (hw : sHw G s S M H locs) (hdg : decode cc pc = .ok (.areturn, 1)) (hv : a = b) (hS : S = S2) (hM : M = M2) : W p l e R s m args below meth c H locs 0 0 (MQ below (sQp G (some (.ref b)) S2 M2) args s 0 0 (sF G)) (F0 m pc ls [.ref a]) :=
  W.aret hx hb hr (Or.inl hrt) (Or.inr ⟨a, rfl⟩) (eQ hw (by rw [hv]) hS hM) hw.2.2.2.1.2.2 hdg hlk
end ROWS
/-- a contract, from its entry -/
theorem sCt.mk {l : Launch} {G : sGl} {y : MethodName} {ws ws' : List Cond} {rm : Room} {av : List Value} {S S' : sWo} {M M' : sOb} {r : Option Value} {cc : ByteArray} {maxL : Nat} {ret : Option FieldType} (hy : plainName y.cls = true) (hws : ws = Cond.code y cc maxL ret :: ws') (hln : (lg_sl av).length ≤ maxL)
    (body : ∀ (p : Program) (e : Env) (s : State) (m : MethodId) (below : List Frame) (meth : Method) (c : Code), p.tables.exec = Jvm.exec → c.code = cc → meth.sig.returnType = ret → meth.locks = false → c.maxLocals = maxL → s.vm.findClass y.cls = some m.cls → (∀ w ∈ ws, w.before av.toArray s = true) → sHw G s S M s.heap [] → ∀ ls : Array Slot, lv_has ls maxL (lv_args 0 av) → W p l e rm s m av.toArray below meth c s.heap [] 0 0 (MQ below (sQp G r S' M') av.toArray s 0 0 (sF G)) (F0 m 0 ls [])) : sCt l G y ws rm av S M r S' M' := by
  refine Met.ofW (cc := cc) (maxL := maxL) (ret := ret) hy hws ?_
  intro p e s m args below meth c s₁ B hml hv
  obtain ⟨rfl, hK, hP, hD, hC⟩ := hv
  rw [lg_entry_eq]
  exact body p e s m below meth c B.exec B.bytes B.returns B.notSynchronized hml (findClass_of_methodNamed B.named) (atoms_spec (ws := ws) B.pre) ⟨hK, hP, hD, va_S.rf, hC⟩ _ (lv_entry av hln)
/-- a switch's way out -/
theorem sw_ne {x k : Int32} (h : ¬ x = k) : x.toInt ≠ k.toInt := fun q => h (Int32.toInt_inj.mp q)
