/-! THE STATE: every object is (ints by place, int rows by place, one row of longs); the world is the class's nine objects (0 SecondHome, 1 track, 2 trial, 3 kept, 4 tape, 5 to 8 sheets) and the reference (M) -/
abbrev sOb : Type := (Nat → Int32) × (Nat → Nat → Int32) × (Nat → Int64)
abbrev sWo : Type := Nat → sOb
def sUp (S : sWo) (o : Nat) (T : sOb) : sWo := fun j => if j = o then T else S j
theorem sUp_s (S : sWo) (o : Nat) (T : sOb) : sUp S o T o = T := if_pos rfl
theorem sUp_n {S : sWo} {o j : Nat} {T : sOb} (h : j ≠ o) : sUp S o T j = S j := if_neg h
theorem sUp_u (S : sWo) (o : Nat) (T T' : sOb) : sUp (sUp S o T) o T' = sUp S o T' := by
  funext j
  unfold sUp
  split <;> rfl
theorem sUp_i (S : sWo) (o : Nat) : sUp S o (S o) = S := by
  funext j
  unfold sUp
  split
  · rename_i h
    rw [h]
  · rfl
def sSs (T : sOb) (k : Nat) (v : Int32) : sOb := (upd T.1 k v, T.2)
def sSa (T : sOb) (k i : Nat) (v : Int32) : sOb := (T.1, fun j => if j = k then upd (T.2.1 k) i v else T.2.1 j, T.2.2)
def sSl (T : sOb) (i : Nat) (v : Int64) : sOb := (T.1, T.2.1, vp_updL T.2.2 i v)
def sSL (T : sOb) (f : Nat → Int64) : sOb := (T.1, T.2.1, f)
/-- the numbers of classes, the array classes (0 int, 1 byte, 2 long, 3 Sheet), the addresses, what may be written, the constants' addresses -/
abbrev sGl : Type := va_G × (Nat → ClassId) × (Nat → Nat → Nat) × (Nat → Prop) × (Nat → Nat)
abbrev sC (G : sGl) : Nat → ClassId := G.2.1
abbrev sA (G : sGl) : Nat → Nat → Nat := G.2.2.1
abbrev sF (G : sGl) : Nat → Prop := G.2.2.2.1
abbrev sX (G : sGl) : Nat → Nat := G.2.2.2.2
abbrev sTy (G : sGl) : List (ClassId × FieldType) := [(sC G 0, .int), (sC G 1, .byte), (sC G 2, .long), (sC G 3, .object "SecondHome$Sheet")]
abbrev fOw (G : sGl) (T : sOb) : List Value := [.ref (sA G 1 0), .ref (sA G 2 0), .ref (sA G 3 0), .int (T.1 0), .ref (sA G 4 0), .ref (sA G 0 2), .ref (sA G 0 1)]
abbrev fTk (a : Nat → Nat) (T : sOb) : List Value := [.int (T.1 0), .int (T.1 1), .int (T.1 2), .int (T.1 3), .int (T.1 4), .int (T.1 5), .ref (a 1), .ref (a 2), .ref (a 3), .ref (a 4), .ref (a 5), .ref (a 6), .ref (a 7), .ref (a 8), .ref (a 9)]
abbrev fTp (a : Nat → Nat) (T : sOb) : List Value := [.int (T.1 0), .ref (a 1), .int (T.1 1), .int (T.1 2), .int (T.1 3), .int (T.1 4)]
abbrev fSh (a : Nat → Nat) (T : sOb) : List Value := [.int (T.1 0), .int (T.1 1), .ref (a 1)]
abbrev fMd (a : Nat → Nat) (T : sOb) : List Value := [.ref (a 1), .ref (a 2), .ref (a 3), .int (T.1 0), .ref (a 4), .ref (a 5), .int (T.1 1), .ref (a 6), .ref (a 7), .ref (a 9), .ref (a 8), .int (T.1 2), .int (T.1 3), .int (T.1 4), .int (T.1 5)]
def wOw (G : sGl) (T : sOb) : va_W := [(sA G 0 0, .inr (3, fOw G T)), (sA G 0 1, .inl (sC G 0, 7, .inl (T.2.1 0))), (sA G 0 2, .inl (sC G 3, 4, .inr (.inr (.inr (.inr (fun j => some (sA G (5 + j) 0)))))))]
def wTk (G : sGl) (a : Nat → Nat) (T : sOb) : va_W := [(a 0, .inr (2, fTk a T)), (a 1, .inl (sC G 0, 9, .inl (T.2.1 0))), (a 2, .inl (sC G 0, 9, .inl (T.2.1 1))), (a 3, .inl (sC G 0, 9, .inl (T.2.1 2))), (a 4, .inl (sC G 0, 9, .inl (T.2.1 3))), (a 5, .inl (sC G 0, 9, .inl (T.2.1 4))), (a 6, .inl (sC G 0, 9, .inl (T.2.1 5))), (a 7, .inl (sC G 0, 9, .inl (T.2.1 6))), (a 8, .inl (sC G 0, 9, .inl (T.2.1 7))), (a 9, .inl (sC G 0, 9, .inl (T.2.1 8)))]
def wTp (G : sGl) (a : Nat → Nat) (T : sOb) : va_W := [(a 0, .inr (1, fTp a T)), (a 1, .inl (sC G 1, 120, .inl (T.2.1 0)))]
def wSh (G : sGl) (a : Nat → Nat) (T : sOb) : va_W := [(a 0, .inr (0, fSh a T)), (a 1, .inl (sC G 2, 40, .inr (.inl T.2.2)))]
def wMd (G : sGl) (a : Nat → Nat) (T : sOb) : va_W := [(a 0, .inr (4, fMd a T)), (a 1, .inl (sC G 0, 77, .inl (T.2.1 0))), (a 2, .inl (sC G 0, 77, .inl (T.2.1 1))), (a 3, .inl (sC G 0, 77, .inl (T.2.1 2))), (a 4, .inl (sC G 0, 8, .inl (T.2.1 3))), (a 5, .inl (sC G 0, 120, .inl (T.2.1 4))), (a 6, .inl (sC G 0, 4, .inl (T.2.1 5))), (a 7, .inl (sC G 0, 4, .inl (T.2.1 6))), (a 8, .inl (sC G 0, 9, .inl (T.2.1 7))), (a 9, .inl (sC G 2, 160, .inr (.inl T.2.2)))]
def sCw (G : sGl) (S : sWo) (M : sOb) : va_W := wOw G (S 0) ++ (wTk G (sA G 1) (S 1) ++ (wTk G (sA G 2) (S 2) ++ (wTk G (sA G 3) (S 3) ++ (wTp G (sA G 4) (S 4) ++ (wSh G (sA G 5) (S 5) ++ (wSh G (sA G 6) (S 6) ++ (wSh G (sA G 7) (S 7) ++ (wSh G (sA G 8) (S 8) ++ wMd G (sA G 9) M))))))))
def isTk (o : Nat) : Prop := o = 1 ∨ o = 2 ∨ o = 3
def isSh (o : Nat) : Prop := o = 5 ∨ o = 6 ∨ o = 7 ∨ o = 8
/-- the constants: the kinds above, the texts -/
def kAb : List Int32 := [-1, 0, 0, 2, 1, 1]
def kTx : List (String × Nat × String) := [("SecondHome$Kinds", 15, "runner"), ("SecondHome$Kinds", 17, "holder"), ("SecondHome$Kinds", 19, "keeper"), ("SecondHome$Kinds", 21, "helper"), ("SecondHome$Kinds", 23, "sprinter"), ("SecondHome$Kinds", 25, "idler"), ("SecondHome$Tape", 50, "length"), ("SecondHome$Tape", 59, "least"), ("SecondHome$Tape", 64, "law"), ("SecondHome$Tape", 82, "pace"), ("SecondHome$Tape", 84, "breath"), ("SecondHome$Tape", 86, "friend"), ("SecondHome$Tape", 88, "start")]
def kBy : List (List Int32) := [[114, 117, 110, 110, 101, 114], [104, 111, 108, 100, 101, 114], [107, 101, 101, 112, 101, 114], [104, 101, 108, 112, 101, 114], [115, 112, 114, 105, 110, 116, 101, 114], [105, 100, 108, 101, 114], [108, 101, 110, 103, 116, 104], [108, 101, 97, 115, 116], [108, 97, 119], [112, 97, 99, 101], [98, 114, 101, 97, 116, 104], [102, 114, 105, 101, 110, 100], [115, 116, 97, 114, 116]]
def kLe : List Nat := [6, 6, 6, 6, 8, 5, 6, 5, 3, 4, 6, 6, 5]
def sKc (G : sGl) (U : State) : Prop :=
  va_Z "SecondHome$Kinds" "ABOVE" "[I" (.ref (sX G 0)) (sF G) U U.heap ∧ va_T .int (sX G 0) 6 (fun j => .int (kAb.getD j 0)) (sF G) U U.heap ∧
  va_Z "java/lang/String" "COMPACT_STRINGS" "Z" (.int 1) (sF G) U U.heap ∧ va_Zq "jdk/internal/util/Preconditions" "SIOOBE_FORMATTER" "Ljava/util/function/BiFunction;" (sF G) U U.heap ∧
  vk_S 13 kLe kBy (fun i => sX G (1 + i)) (fun i => sX G (20 + i)) (sF G) U U.heap ∧
  ∀ i : Nat, i < 13 → vk_R (kTx.getD i ("", 0, "")).1 (kTx.getD i ("", 0, "")).2.1 (kTx.getD i ("", 0, "")).2.2 (sX G (1 + i)) U
/-- a method's start -/
def sPw (G : sGl) (S : sWo) (M : sOb) (U : State) : Prop := va_K G.1 vwCl (sTy G) U ∧ va_P G.1 vwCl (sCw G S M) U.heap ∧ va_D (sF G) (sCw G S M) ∧ sKc G U
/-- within a method -/
def sHw (G : sGl) (s : State) (S : sWo) (M : sOb) (H : Heap) (locs : List Loc) : Prop := va_K G.1 vwCl (sTy G) s ∧ va_P G.1 vwCl (sCw G S M) H ∧ va_D (sF G) (sCw G S M) ∧ va_S (sF G) s.heap H locs ∧ sKc G s
/-- a method's end -/
def sQp (G : sGl) (r : Option Value) (S : sWo) (M : sOb) : Array Value → State → Outcome → State → Prop := fun _ st oc t => oc = .returned r ∧ va_P G.1 vwCl (sCw G S M) t.heap ∧ va_F (sF G) st t
/-- THE CONTRACT -/
def sCt (l : Launch) (G : sGl) (y : MethodName) (ws : List Cond) (rm : Room) (av : List Value) (S : sWo) (M : sOb) (r : Option Value) (S' : sWo) (M' : sOb) : Prop := Met l y ws rm (va_Pc av (sPw G S M)) (sQp G r S' M') 0 0 (sF G)
theorem va_D_congr {A : Nat → Prop} {w1 w2 : va_W} (h : w1.map Prod.fst = w2.map Prod.fst) (hD : va_D A w1) : va_D A w2 := by
  have key : ∀ (k : Nat) (q : Nat × va_E), w2[k]? = some q → ∃ q1, w1[k]? = some q1 ∧ q1.1 = q.1 := by
    intro k q hk
    have h2 : (w2.map Prod.fst)[k]? = some q.1 := by rw [List.getElem?_map, hk]; rfl
    rw [← h, List.getElem?_map] at h2
    cases h3 : w1[k]? with
    | none => rw [h3] at h2; cases h2
    | some q1 => rw [h3] at h2; exact ⟨q1, rfl, Option.some.inj h2⟩
  refine ⟨fun i j p q hi hj e => ?_, fun k q hk => ?_⟩
  · obtain ⟨p1, a1, a2⟩ := key i p hi
    obtain ⟨q1, b1, b2⟩ := key j q hj
    exact hD.1 i j p1 q1 a1 b1 (a2.trans (e.trans b2.symm))
  · obtain ⟨q1, a1, a2⟩ := key k q hk
    rw [← a2]
    exact hD.2 k q1 a1
theorem sCw_ad (G : sGl) (S S' : sWo) (M M' : sOb) : (sCw G S M).map Prod.fst = (sCw G S' M').map Prod.fst := rfl
theorem sCw_D {G : sGl} {S S' : sWo} {M M' : sOb} (h : va_D (sF G) (sCw G S M)) : va_D (sF G) (sCw G S' M') := va_D_congr (sCw_ad G S S' M M') h
theorem sKc.moved {G : sGl} {u U : State} (hW : u.WarmedH U.vm) (hq : ∀ a : Nat, a < u.heap.size → ¬ sF G a → U.heap[a]? = u.heap[a]?) (h : sKc G u) : sKc G U := by
  obtain ⟨h1, h2, h3, h4, h5, h6⟩ := h
  exact ⟨(h1.kept hq).moved hW.alike, (h2.kept hq).moved hW.alike, (h3.kept hq).moved hW.alike, (h4.kept hq).moved hW.alike, (h5.kept hq).moved hW.alike, fun i hi => (h6 i hi).warm hW⟩
theorem sKc.same {G : sGl} {u U : State} (hv : U.vm = u.vm) (hh : U.heap = u.heap) (h : sKc G u) : sKc G U := by
  obtain ⟨h1, h2, h3, h4, h5, h6⟩ := h
  have ha : u.vm.Alike U.vm := by rw [hv]; exact Vm.Alike.refl _
  unfold sKc
  rw [hh]
  exact ⟨h1.moved ha, h2.moved ha, h3.moved ha, h4.moved ha, h5.moved ha, fun i hi => (h6 i hi).same hv⟩
/-- what a call's start needs -/
theorem sHw.pre {G : sGl} {s U : State} {S : sWo} {M : sOb} {H : Heap} {locs : List Loc} (h : sHw G s S M H locs) (hU : U.heap = H) (hW : s.WarmedH U.vm) : sPw G S M U := by
  obtain ⟨hK, hP, hD, hS, hC⟩ := h
  subst hU
  exact ⟨hK.moved hW.alike, hP, hD, hC.moved hW hS.2.1⟩
theorem sPw.blind {G : sGl} {S : sWo} {M : sOb} {av : List Value} : FrameBlind (va_Pc av (sPw G S M)) := by
  intro a U g mk q
  obtain ⟨q0, hK, hP, hD, hC⟩ := q
  exact ⟨q0, va_K.moved (u := U) (U := U.calling g mk a) (Vm.Alike.refl U.vm) hK, hP, hD, hC.same rfl rfl⟩
/-- behind a call -/
theorem sHw.post {G : sGl} {s : State} {S S' : sWo} {M M' : sOb} {H H1 : Heap} {locs locs1 : List Loc} (h : sHw G s S M H locs) (hP : va_P G.1 vwCl (sCw G S' M') H1) (hS : va_S (sF G) s.heap H1 locs1) : sHw G s S' M' H1 locs1 :=
  ⟨h.1, hP, sCw_D h.2.2.1, hS, h.2.2.2.2⟩
theorem o_in {α : Type} {c : Prop} [Decidable c] {e : Option α} {r : α} (h : (if c then none else e) = some r) : ¬ c ∧ e = some r := by
  by_cases hc : c
  · rw [if_pos hc] at h; cases h
  · rw [if_neg hc] at h; exact ⟨hc, h⟩
theorem o_bd {α β : Type} {o : Option α} {f : α → Option β} {r : β} (h : o.bind f = some r) : ∃ a, o = some a ∧ f a = some r := by
  cases o with
  | none => cases h
  | some a => exact ⟨a, rfl, h⟩
/-- a value with a name -/
def nm {α β : Type} (e : α) (f : α → Option β) : Option β := f e
theorem o_nm {α β : Type} {e : α} {f : α → Option β} {r : β} (h : nm e f = some r) : ∃ a, a = e ∧ f a = some r := ⟨e, rfl, h⟩
theorem o_1 {α : Type} {a b : α} (h : some a = some b) : a = b := Option.some.inj h
theorem o_2a {α β : Type} {a b : α} {x y : β} (h : some (a, x) = some (b, y)) : a = b := congrArg Prod.fst (Option.some.inj h)
theorem o_2b {α β : Type} {a b : α} {x y : β} (h : some (a, x) = some (b, y)) : x = y := congrArg Prod.snd (Option.some.inj h)
/-- loops, by fuel -/
def FU : Nat := 5000
def fx0 {γ : Type} (F : Option γ → Option γ) : Nat → Option γ
  | 0 => none
  | n + 1 => F (fx0 F n)
def fx1 {A1 γ : Type} (F : (A1 → Option γ) → A1 → Option γ) : Nat → A1 → Option γ
  | 0, _ => none
  | n + 1, a => F (fx1 F n) a
def fx2 {A1 A2 γ : Type} (F : (A1 → A2 → Option γ) → A1 → A2 → Option γ) : Nat → A1 → A2 → Option γ
  | 0, _, _ => none
  | n + 1, a, b => F (fx2 F n) a b
def fx3 {A1 A2 A3 γ : Type} (F : (A1 → A2 → A3 → Option γ) → A1 → A2 → A3 → Option γ) : Nat → A1 → A2 → A3 → Option γ
  | 0, _, _, _ => none
  | n + 1, a, b, c => F (fx3 F n) a b c
def fx4 {A1 A2 A3 A4 γ : Type} (F : (A1 → A2 → A3 → A4 → Option γ) → A1 → A2 → A3 → A4 → Option γ) : Nat → A1 → A2 → A3 → A4 → Option γ
  | 0, _, _, _, _ => none
  | n + 1, a, b, c, d => F (fx4 F n) a b c d
def fx5 {A1 A2 A3 A4 A5 γ : Type} (F : (A1 → A2 → A3 → A4 → A5 → Option γ) → A1 → A2 → A3 → A4 → A5 → Option γ) : Nat → A1 → A2 → A3 → A4 → A5 → Option γ
  | 0, _, _, _, _, _ => none
  | n + 1, a, b, c, d, e => F (fx5 F n) a b c d e
theorem fx1_w {A1 γ : Type} {F : (A1 → Option γ) → A1 → Option γ} {r : γ} {P : A1 → Prop} (hF : ∀ rec : A1 → Option γ, (∀ a, rec a = some r → P a) → ∀ a, F rec a = some r → P a) : ∀ n a, fx1 F n a = some r → P a
  | 0, _, h => by cases h
  | n + 1, a, h => hF (fx1 F n) (fx1_w hF n) a h
theorem fx2_w {A1 A2 γ : Type} {F : (A1 → A2 → Option γ) → A1 → A2 → Option γ} {r : γ} {P : A1 → A2 → Prop} (hF : ∀ rec : A1 → A2 → Option γ, (∀ a b, rec a b = some r → P a b) → ∀ a b, F rec a b = some r → P a b) : ∀ n a b, fx2 F n a b = some r → P a b
  | 0, _, _, h => by cases h
  | n + 1, a, b, h => hF (fx2 F n) (fx2_w hF n) a b h
theorem fx3_w {A1 A2 A3 γ : Type} {F : (A1 → A2 → A3 → Option γ) → A1 → A2 → A3 → Option γ} {r : γ} {P : A1 → A2 → A3 → Prop} (hF : ∀ rec : A1 → A2 → A3 → Option γ, (∀ a b c, rec a b c = some r → P a b c) → ∀ a b c, F rec a b c = some r → P a b c) : ∀ n a b c, fx3 F n a b c = some r → P a b c
  | 0, _, _, _, h => by cases h
  | n + 1, a, b, c, h => hF (fx3 F n) (fx3_w hF n) a b c h
theorem fx4_w {A1 A2 A3 A4 γ : Type} {F : (A1 → A2 → A3 → A4 → Option γ) → A1 → A2 → A3 → A4 → Option γ} {r : γ} {P : A1 → A2 → A3 → A4 → Prop} (hF : ∀ rec : A1 → A2 → A3 → A4 → Option γ, (∀ a b c d, rec a b c d = some r → P a b c d) → ∀ a b c d, F rec a b c d = some r → P a b c d) : ∀ n a b c d, fx4 F n a b c d = some r → P a b c d
  | 0, _, _, _, _, h => by cases h
  | n + 1, a, b, c, d, h => hF (fx4 F n) (fx4_w hF n) a b c d h
theorem fx5_w {A1 A2 A3 A4 A5 γ : Type} {F : (A1 → A2 → A3 → A4 → A5 → Option γ) → A1 → A2 → A3 → A4 → A5 → Option γ} {r : γ} {P : A1 → A2 → A3 → A4 → A5 → Prop} (hF : ∀ rec : A1 → A2 → A3 → A4 → A5 → Option γ, (∀ a b c d e, rec a b c d e = some r → P a b c d e) → ∀ a b c d e, F rec a b c d e = some r → P a b c d e) : ∀ n a b c d e, fx5 F n a b c d e = some r → P a b c d e
  | 0, _, _, _, _, _, h => by cases h
  | n + 1, a, b, c, d, e, h => hF (fx5 F n) (fx5_w hF n) a b c d e h
