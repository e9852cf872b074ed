/-! PURE: the words -/
def gEq (g : Nat → Int32) : List Int32 → Nat → Bool
  | [], _ => true
  | c :: l, i => decide (g i = c) && gEq g l (i + 1)
def gAt (T M : sOb) (z i : Nat) : Int32 := gBy M z ((T.1 2).toNatClampNeg + i)
def gWb (T M : sOb) (z w : Nat) : Bool := decide (T.1 1 = 1) && (decide (T.1 3 - T.1 2 = nI (kLe.getD w 0)) && gEq (gAt T M z) (kBy.getD w []) 0)
theorem w_len : ∀ w, w < 13 → fJ0_length_8abf5 w = some (nI (kLe.getD w 0)) ∧ kLe.getD w 0 < 9 ∧ (kBy.getD w []).drop (kLe.getD w 0) = [] := by decide +kernel
theorem w_char : ∀ w, w < 13 → ∀ i, i < kLe.getD w 0 → fJ0_charAt_5068e w (nI i) = some ((kBy.getD w []).getD i 0) ∧ (kBy.getD w []).drop i = (kBy.getD w []).getD i 0 :: (kBy.getD w []).drop (i + 1) := by decide +kernel
theorem p_word {T M : sOb} {z lo w : Nat} (h : RelT T M z lo) (hw : w < 13) : fX2_isWord T w = some (if gWb T M z w then 1 else 0) := by
  obtain ⟨h1, b, e, h2, h3, h4, -⟩ := h
  obtain ⟨l1, l2, l3⟩ := w_len w hw
  have hz := h1.1
  have key : ∀ d i m : Nat, i + d = kLe.getD w 0 → d < m → fx1 (bX2_isWord_28 T w) m (nI i) = some (if gEq (gAt T M z) ((kBy.getD w []).drop i) i then 1 else 0) := by
    intro d
    induction d with
    | zero =>
      intro i m hi hm
      obtain ⟨f, rfl⟩ : ∃ f, m = f + 1 := ⟨m - 1, by omega⟩
      have hi' : i = kLe.getD w 0 := by omega
      show bX2_isWord_28 _ _ _ _ = _
      unfold bX2_isWord_28
      rw [l1, b_some, hi', if_pos (Int32.le_refl _), l3]
      rfl
    | succ d ih =>
      intro i m hi hm
      obtain ⟨f, rfl⟩ : ∃ f, m = f + 1 := ⟨m - 1, by omega⟩
      have IH := ih (i + 1) f (by omega) (by omega)
      rw [nI_succ] at IH
      obtain ⟨c1, c2⟩ := w_char w hw i (by omega)
      show bX2_isWord_28 _ _ (fx1 (bX2_isWord_28 T w) f) _ = _
      generalize fx1 (bX2_isWord_28 T w) f = rc at IH ⊢
      unfold bX2_isWord_28
      rw [l1, b_some, if_neg (nI_ge (by omega) (by omega)), c1, b_some, h4, nI_add, p_byte h1 (by omega), b_some, nm_d, IH, c2]
      have ea : gAt T M z i = gBy M z (b + i) := by unfold gAt; rw [h4, z_cl (by omega)]
      show _ = some (if (decide (gAt T M z i = (kBy.getD w []).getD i 0) && gEq (gAt T M z) ((kBy.getD w []).drop (i + 1)) (i + 1)) = true then 1 else 0)
      rw [ea]
      by_cases q : (kBy.getD w []).getD i 0 = gBy M z (b + i)
      · rw [if_pos q, decide_eq_true q.symm, Bool.true_and]
      · rw [if_neg q, decide_eq_false (fun y => q y.symm), Bool.false_and]
        rfl
  have k0 := key (kLe.getD w 0) 0 FU (by omega) (by unfold FU; omega)
  rw [show nI 0 = (0 : Int32) from rfl, List.drop_zero] at k0
  unfold fX2_isWord gWb
  rw [l1, b_some, k0]
  by_cases q1 : T.1 1 = 1
  · rw [if_pos q1, decide_eq_true q1, Bool.true_and]
    by_cases q2 : T.1 3 - T.1 2 = nI (kLe.getD w 0)
    · rw [if_pos q2.symm, decide_eq_true q2, Bool.true_and]
    · rw [if_neg (fun y => q2 y.symm), decide_eq_false q2, Bool.false_and]
      rfl
  · rw [if_neg q1, decide_eq_false q1, Bool.false_and]
    rfl
theorem q_isWord {T M : sOb} {z lo : Nat} (h : RelT T M z lo) (L : Int32) : fX5_isWord M L = some (if T.1 1 = 1 ∧ T.1 3 - T.1 2 = L then 1 else 0) := by
  obtain ⟨h1, b, e, h2, h3, h4, h5, h6, h7, h8⟩ := h
  unfold fX5_isWord
  rw [h6, h7]
  by_cases q : gKd (gBy M z b) = 1
  · rcases h8 with y | ⟨y1, y2, -⟩
    · rw [q] at y
      exact absurd y (by decide)
    · rw [if_pos q, h4, h5, y1, y2]
      by_cases q2 : nI e - nI b = L
      · rw [if_pos q2, if_pos ⟨q, q2⟩]
      · rw [if_neg q2, if_neg (fun y => q2 y.2)]
  · rw [if_neg q, if_neg (fun y => q y.1)]
theorem q_has3 {T M : sOb} {z lo : Nat} (h : RelT T M z lo) (o : Nat) (ho : o < 1000) {v : Int32} (hv : v = nI o) (a b c : Int32) : fX5_has3 M v a b c = some (if gAt T M z o = a ∧ gAt T M z (o + 1) = b ∧ gAt T M z (o + 2) = c then 1 else 0) := by
  obtain ⟨h1, b', e, h2, h3, h4, h5, -⟩ := h
  have hz := h1.1
  subst hv
  have ea : ∀ i, gAt T M z i = gBy M z (b' + i) := fun i => by unfold gAt; rw [h4, z_cl (by omega)]
  unfold fX5_has3
  rw [h5, nI_add, show (1 : Int32) = nI 1 from rfl, show (2 : Int32) = nI 2 from rfl, nI_add, nI_add, q_byte h1 (by omega), q_byte h1 (by omega), q_byte h1 (by omega), b_some, b_some, b_some, ea, ea, ea, Nat.add_assoc, Nat.add_assoc]
  by_cases q1 : gBy M z (b' + o) = a
  · rw [if_pos q1]
    by_cases q2 : gBy M z (b' + (o + 1)) = b
    · rw [if_pos q2]
      by_cases q3 : gBy M z (b' + (o + 2)) = c
      · rw [if_pos q3, if_pos ⟨q1, q2, q3⟩]
      · rw [if_neg q3, if_neg (fun y => q3 y.2.2)]
    · rw [if_neg q2, if_neg (fun y => q2 y.2.1)]
  · rw [if_neg q1, if_neg (fun y => q1 y.1)]
theorem it2 {α : Type} {W A B : Prop} [Decidable W] [Decidable A] [Decidable B] (h : W ↔ A ∧ B) (X Y : α) : (if A then (if B then Y else X) else X) = if W then Y else X := by
  grind
theorem it3 {α : Type} {W A B C : Prop} [Decidable W] [Decidable A] [Decidable B] [Decidable C] (h : W ↔ A ∧ B ∧ C) (X Y : α) : (if A then (if B then (if C then Y else X) else X) else X) = if W then Y else X := by
  grind
theorem it4 {α : Type} {W A B C D : Prop} [Decidable W] [Decidable A] [Decidable B] [Decidable C] [Decidable D] (h : W ↔ A ∧ B ∧ C ∧ D) (X Y : α) : (if A then (if B then (if C then (if D then Y else X) else X) else X) else X) = if W then Y else X := by
  grind
theorem gW_6 {T M : sOb} {z w : Nat} {a b c d e f : Int32} (hl : kLe.getD w 0 = 6) (hw : kBy.getD w [] = [a, b, c, d, e, f]) : gWb T M z w = true ↔ (T.1 1 = 1 ∧ T.1 3 - T.1 2 = 6) ∧ (gAt T M z 0 = a ∧ gAt T M z (0 + 1) = b ∧ gAt T M z (0 + 2) = c) ∧ (gAt T M z 3 = d ∧ gAt T M z (3 + 1) = e ∧ gAt T M z (3 + 2) = f) := by
  unfold gWb
  rw [hl, hw]
  simp only [gEq, Bool.and_eq_true, decide_eq_true_eq, and_true, Nat.zero_add, Nat.reduceAdd, and_assoc]
  rfl
theorem gW_8 {T M : sOb} {z w : Nat} {a b c d e f g i : Int32} (hl : kLe.getD w 0 = 8) (hw : kBy.getD w [] = [a, b, c, d, e, f, g, i]) : gWb T M z w = true ↔ (T.1 1 = 1 ∧ T.1 3 - T.1 2 = 8) ∧ (gAt T M z 0 = a ∧ gAt T M z (0 + 1) = b ∧ gAt T M z (0 + 2) = c) ∧ (gAt T M z 3 = d ∧ gAt T M z (3 + 1) = e ∧ gAt T M z (3 + 2) = f) ∧ (gAt T M z 5 = f ∧ gAt T M z (5 + 1) = g ∧ gAt T M z (5 + 2) = i) := by
  unfold gWb
  rw [hl, hw]
  simp only [gEq, Bool.and_eq_true, decide_eq_true_eq, and_true, Nat.zero_add, Nat.reduceAdd, and_assoc]
  rw [show nI 8 = (8 : Int32) from rfl]
  grind
theorem gW_5 {T M : sOb} {z w : Nat} {a b c d e : Int32} (hl : kLe.getD w 0 = 5) (hw : kBy.getD w [] = [a, b, c, d, e]) : gWb T M z w = true ↔ (T.1 1 = 1 ∧ T.1 3 - T.1 2 = 5) ∧ (gAt T M z 0 = a ∧ gAt T M z (0 + 1) = b ∧ gAt T M z (0 + 2) = c) ∧ (gAt T M z 2 = c ∧ gAt T M z (2 + 1) = d ∧ gAt T M z (2 + 2) = e) := by
  unfold gWb
  rw [hl, hw]
  simp only [gEq, Bool.and_eq_true, decide_eq_true_eq, and_true, Nat.zero_add, Nat.reduceAdd, and_assoc]
  rw [show nI 5 = (5 : Int32) from rfl]
  grind
theorem gW_4 {T M : sOb} {z w : Nat} {a b c d : Int32} (hl : kLe.getD w 0 = 4) (hw : kBy.getD w [] = [a, b, c, d]) : gWb T M z w = true ↔ (T.1 1 = 1 ∧ T.1 3 - T.1 2 = 4) ∧ (gAt T M z 0 = a ∧ gAt T M z (0 + 1) = b ∧ gAt T M z (0 + 2) = c) ∧ (gAt T M z 1 = b ∧ gAt T M z (1 + 1) = c ∧ gAt T M z (1 + 2) = d) := by
  unfold gWb
  rw [hl, hw]
  simp only [gEq, Bool.and_eq_true, decide_eq_true_eq, and_true, Nat.zero_add, Nat.reduceAdd, and_assoc]
  rw [show nI 4 = (4 : Int32) from rfl]
  grind
theorem gW_3 {T M : sOb} {z w : Nat} {a b c : Int32} (hl : kLe.getD w 0 = 3) (hw : kBy.getD w [] = [a, b, c]) : gWb T M z w = true ↔ (T.1 1 = 1 ∧ T.1 3 - T.1 2 = 3) ∧ (gAt T M z 0 = a ∧ gAt T M z (0 + 1) = b ∧ gAt T M z (0 + 2) = c) := by
  unfold gWb
  rw [hl, hw]
  simp only [gEq, Bool.and_eq_true, decide_eq_true_eq, and_true, Nat.zero_add, Nat.reduceAdd, and_assoc]
  rw [show nI 3 = (3 : Int32) from rfl]
theorem ch6 {β : Type} {T M : sOb} {z lo w : Nat} {a b c d e f : Int32} (h : RelT T M z lo) (hl : kLe.getD w 0 = 6) (hw : kBy.getD w [] = [a, b, c, d, e, f]) (X Y : Option β) : ((fX5_isWord M 6).bind fun q => nm X fun k => if q = 0 then k else (fX5_has3 M 0 a b c).bind fun q => if q = 0 then k else (fX5_has3 M 3 d e f).bind fun q => if q = 0 then k else Y) = if gWb T M z w then Y else X := by
  rw [q_isWord h, q_has3 h 0 (by omega) (v := 0) rfl, q_has3 h 3 (by omega) (v := 3) rfl, b_some, nm_d, b_some, b_some, bi, bi, bi]
  exact it3 (gW_6 hl hw) X Y
theorem ch8 {β : Type} {T M : sOb} {z lo w : Nat} {a b c d e f g i : Int32} (h : RelT T M z lo) (hl : kLe.getD w 0 = 8) (hw : kBy.getD w [] = [a, b, c, d, e, f, g, i]) (X Y : Option β) : ((fX5_isWord M 8).bind fun q => nm X fun k => if q = 0 then k else (fX5_has3 M 0 a b c).bind fun q => if q = 0 then k else (fX5_has3 M 3 d e f).bind fun q => if q = 0 then k else (fX5_has3 M 5 f g i).bind fun q => if q = 0 then k else Y) = if gWb T M z w then Y else X := by
  rw [q_isWord h, q_has3 h 0 (by omega) (v := 0) rfl, q_has3 h 3 (by omega) (v := 3) rfl, q_has3 h 5 (by omega) (v := 5) rfl, b_some, nm_d, b_some, b_some, b_some, bi, bi, bi, bi]
  exact it4 (gW_8 hl hw) X Y
theorem ch5 {β : Type} {T M : sOb} {z lo w : Nat} {a b c d e : Int32} (h : RelT T M z lo) (hl : kLe.getD w 0 = 5) (hw : kBy.getD w [] = [a, b, c, d, e]) (X Y : Option β) : ((fX5_isWord M 5).bind fun q => nm X fun k => if q = 0 then k else (fX5_has3 M 0 a b c).bind fun q => if q = 0 then k else (fX5_has3 M 2 c d e).bind fun q => if q = 0 then k else Y) = if gWb T M z w then Y else X := by
  rw [q_isWord h, q_has3 h 0 (by omega) (v := 0) rfl, q_has3 h 2 (by omega) (v := 2) rfl, b_some, nm_d, b_some, b_some, bi, bi, bi]
  exact it3 (gW_5 hl hw) X Y
theorem ch5b {β : Type} {T M : sOb} {z lo w : Nat} {a b c d e : Int32} (h : RelT T M z lo) (hl : kLe.getD w 0 = 5) (hw : kBy.getD w [] = [a, b, c, d, e]) (X Y : Option β) : ((fX5_isWord M 5).bind fun q => if q = 0 then X else (fX5_has3 M 0 a b c).bind fun q => if q = 0 then X else (fX5_has3 M 2 c d e).bind fun q => if q = 0 then X else Y) = if gWb T M z w then Y else X := by
  rw [q_isWord h, q_has3 h 0 (by omega) (v := 0) rfl, q_has3 h 2 (by omega) (v := 2) rfl, b_some, b_some, b_some, bi, bi, bi]
  exact it3 (gW_5 hl hw) X Y
theorem ch4 {β : Type} {T M : sOb} {z lo w : Nat} {a b c d : Int32} (h : RelT T M z lo) (hl : kLe.getD w 0 = 4) (hw : kBy.getD w [] = [a, b, c, d]) (X Y : Option β) : ((fX5_isWord M 4).bind fun q => if q = 0 then X else (fX5_has3 M 0 a b c).bind fun q => if q = 0 then X else (fX5_has3 M 1 b c d).bind fun q => if q = 0 then X else Y) = if gWb T M z w then Y else X := by
  rw [q_isWord h, q_has3 h 0 (by omega) (v := 0) rfl, q_has3 h 1 (by omega) (v := 1) rfl, b_some, b_some, b_some, bi, bi, bi]
  exact it3 (gW_4 hl hw) X Y
theorem ch3 {β : Type} {T M : sOb} {z lo w : Nat} {a b c : Int32} (h : RelT T M z lo) (hl : kLe.getD w 0 = 3) (hw : kBy.getD w [] = [a, b, c]) (X Y : Option β) : ((fX5_isWord M 3).bind fun q => if q = 0 then X else (fX5_has3 M 0 a b c).bind fun q => if q = 0 then X else Y) = if gWb T M z w then Y else X := by
  rw [q_isWord h, q_has3 h 0 (by omega) (v := 0) rfl, b_some, b_some, bi, bi]
  exact it2 (gW_3 hl hw) X Y
/-- a word that may come: 1 or 0 goes on -/
theorem mc6 {β : Type} {T M : sOb} {z lo w : Nat} {a b c d e f : Int32} (h : RelT T M z lo) (hl : kLe.getD w 0 = 6) (hw : kBy.getD w [] = [a, b, c, d, e, f]) (K : Int32 → Option β) : ((fX5_isWord M 6).bind fun q => nm K fun y => nm (y 0) fun k => if q = 0 then k else (fX5_has3 M 0 a b c).bind fun q => if q = 0 then k else (fX5_has3 M 3 d e f).bind fun q => if q = 0 then k else y 1) = K (if gWb T M z w then 1 else 0) := by
  rw [q_isWord h, q_has3 h 0 (by omega) (v := 0) rfl, q_has3 h 3 (by omega) (v := 3) rfl, b_some, nm_d, nm_d, b_some, b_some, bi, bi, bi, it3 (gW_6 (T := T) (M := M) (z := z) hl hw)]
  split <;> rfl
theorem mc5 {β : Type} {T M : sOb} {z lo w : Nat} {a b c d e : Int32} (h : RelT T M z lo) (hl : kLe.getD w 0 = 5) (hw : kBy.getD w [] = [a, b, c, d, e]) (K : Int32 → Option β) : ((fX5_isWord M 5).bind fun q => nm K fun y => nm (y 0) fun k => if q = 0 then k else (fX5_has3 M 0 a b c).bind fun q => if q = 0 then k else (fX5_has3 M 2 c d e).bind fun q => if q = 0 then k else y 1) = K (if gWb T M z w then 1 else 0) := by
  rw [q_isWord h, q_has3 h 0 (by omega) (v := 0) rfl, q_has3 h 2 (by omega) (v := 2) rfl, b_some, nm_d, nm_d, b_some, b_some, bi, bi, bi, it3 (gW_5 (T := T) (M := M) (z := z) hl hw)]
  split <;> rfl
/-- which kind is named -/
def gKn (T M : sOb) (z : Nat) : Int32 := if gWb T M z 0 then 0 else if gWb T M z 1 then 1 else if gWb T M z 2 then 2 else if gWb T M z 3 then 3 else if gWb T M z 4 then 4 else if gWb T M z 5 then 5 else -1
theorem q_kindNamed {T M : sOb} {z lo : Nat} (h : RelT T M z lo) : fX5_kindNamed M = some (gKn T M z) := by
  unfold fX5_kindNamed gKn
  rw [ch6 h (w := 0) rfl rfl, ch6 h (w := 1) rfl rfl, ch6 h (w := 2) rfl rfl, ch6 h (w := 3) rfl rfl, ch8 h (w := 4) rfl rfl, ch5b h (w := 5) rfl rfl]
  simp only [apply_ite some]
theorem p_kn1 {T M : sOb} {z lo : Nat} (h : RelT T M z lo) (f i : Nat) (hi : i < 6) : fx1 (bX2_kindNamed_2 T) (f + 1) (nI i) = if gWb T M z i then some (nI i) else fx1 (bX2_kindNamed_2 T) f (nI i + 1) := by
  show bX2_kindNamed_2 _ (fx1 (bX2_kindNamed_2 T) f) _ = _
  generalize fx1 (bX2_kindNamed_2 T) f = rc
  unfold bX2_kindNamed_2
  have hn : ∀ i, i < 6 → fX0_name (nI i) = some i := by decide +kernel
  rw [if_neg (show ¬ (6 : Int32) ≤ nI i from nI_ge (b := 6) hi (by omega)), hn i hi, b_some, if_neg (show ¬ 13 ≤ i by omega), p_word h (by omega), b_some, bi, nm_d]
theorem p_kindNamed {T M : sOb} {z lo : Nat} (h : RelT T M z lo) : fX2_kindNamed T = some (gKn T M z) := by
  unfold fX2_kindNamed
  obtain ⟨f, hf⟩ : ∃ f, FU = f + 7 := ⟨4993, rfl⟩
  have e0 := p_kn1 h (f + 6) 0 (by omega)
  have e1 := p_kn1 h (f + 5) 1 (by omega)
  have e2 := p_kn1 h (f + 4) 2 (by omega)
  have e3 := p_kn1 h (f + 3) 3 (by omega)
  have e4 := p_kn1 h (f + 2) 4 (by omega)
  have e5 := p_kn1 h (f + 1) 5 (by omega)
  have e6 : fx1 (bX2_kindNamed_2 T) (f + 1) (nI 6) = some (-1) := by
    show bX2_kindNamed_2 _ _ _ = _
    unfold bX2_kindNamed_2
    rw [if_pos (show (6 : Int32) ≤ nI 6 from Int32.le_refl _)]
  rw [← nI_succ] at e0 e1 e2 e3 e4 e5
  rw [hf, show (0 : Int32) = nI 0 from rfl, e0, e1, e2, e3, e4, e5, e6]
  unfold gKn
  simp only [apply_ite some]
  rfl
/-- which number of the race is named -/
def gLN (T M : sOb) (z : Nat) : Int32 := if gWb T M z 6 then 0 else if gWb T M z 7 then 1 else if gWb T M z 8 then 2 else -1
theorem q_letNamed {T M : sOb} {z lo : Nat} (h : RelT T M z lo) : fX5_letNamed M = some (gLN T M z) := by
  unfold fX5_letNamed gLN
  rw [ch6 h (w := 6) rfl rfl, ch5 h (w := 7) rfl rfl, ch3 h (w := 8) rfl rfl]
  simp only [apply_ite some]
