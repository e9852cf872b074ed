/-! PURE: places, prizes, the line, trials -/
def gH (T : sOb) (a : Nat) : Int32 := if T.2.1 7 a < 0 then 0 else 1
def gAh (T : sOb) (a b : Nat) : Int32 := if gH T a = gH T b then (if T.2.1 7 a = T.2.1 7 b then (if T.2.1 5 a = T.2.1 5 b then (if nI b ≤ nI a then 0 else 1) else (if T.2.1 5 a ≤ T.2.1 5 b then 0 else 1)) else (if T.2.1 7 b ≤ T.2.1 7 a then 0 else 1)) else gH T a
theorem gH_01 (T : sOb) (a : Nat) : gH T a = 0 ∨ gH T a = 1 := by
  unfold gH
  split
  · exact Or.inl rfl
  · exact Or.inr rfl
theorem p_ahead {T : sOb} {a b : Nat} (ha : a < 9) (hb : b < 9) : fX3_isAhead T (nI a) (nI b) = some (gAh T a b) := by
  unfold fX3_isAhead gAh
  simp only [if_neg (ix_n ha (show 9 < 2147483648 by omega)), if_neg (ix_n hb (show 9 < 2147483648 by omega)), z_cl (show a < 2147483648 by omega), z_cl (show b < 2147483648 by omega), nm_if]
  rw [show (if T.2.1 7 a < 0 then (0 : Int32) else 1) = gH T a from rfl, show (if T.2.1 7 b < 0 then (0 : Int32) else 1) = gH T b from rfl]
  have h := gH_01 T a
  simp only [if_neg (show ¬ ¬ (gH T a = 0 ∨ gH T a = 1) from fun q => q h)]
  split
  · split
    · split
      · split <;> rfl
      · split <;> rfl
    · split <;> rfl
  · rfl
theorem q_ahead {M T : sOb} (h : RF (M.2.1 0) T) {a b : Nat} (ha : a < 9) (hb : b < 9) : fX5_isAhead M (nI a) (nI b) = some (gAh T a b) := by
  unfold fX5_isAhead gAh
  rw [q_isHome h ha, q_isHome h hb, q_is h ha 7 (by omega) (v := 7) rfl, q_is h hb 7 (by omega) (v := 7) rfl, q_is h ha 5 (by omega) (v := 5) rfl, q_is h hb 5 (by omega) (v := 5) rfl]
  simp only [b_some]
  rw [show (if T.2.1 7 a < 0 then (0 : Int32) else 1) = gH T a from rfl, show (if T.2.1 7 b < 0 then (0 : Int32) else 1) = gH T b from rfl]
  have hh := gH_01 T a
  simp only [if_neg (show ¬ ¬ (gH T a = 0 ∨ gH T a = 1) from fun q => q hh)]
  split
  · split
    · split
      · split <;> rfl
      · split <;> rfl
    · split <;> rfl
  · rfl
def gPl (T : sOb) (r : Nat) : Nat → Nat
  | 0 => 0
  | n + 1 => gPl T r n + (if n = r then 0 else if gAh T n r = 0 then 0 else 1)
theorem gPl_s (T : sOb) (r n : Nat) : gPl T r (n + 1) = gPl T r n + (if n = r then 0 else if gAh T n r = 0 then 0 else 1) := rfl
theorem nI_ne {a b : Nat} (ha : a < 2147483648) (hb : b < 2147483648) (h : ¬ a = b) : ¬ nI a = nI b := fun q => h ((nI_eq ha hb).mp q)
theorem p_place {T : sOb} {c r : Nat} (hc : c ≤ 9) (h4 : T.1 4 = nI c) (hr : r < c) : fX3_placeOf T (nI r) = some (nI (gPl T r c)) := by
  unfold fX3_placeOf
  rw [p_has1 hc h4 hr, b_some, if_neg (by decide)]
  have key : ∀ d i n : Nat, i + d = c → d < n → fx2 (bX3_placeOf_12 T (nI r)) n (nI (gPl T r i)) (nI i) = some (nI (gPl T r c)) := by
    intro d
    induction d with
    | zero =>
      intro i n hi hn
      obtain ⟨m, rfl⟩ : ∃ m, n = m + 1 := ⟨n - 1, by omega⟩
      obtain rfl : i = c := by omega
      show bX3_placeOf_12 _ _ _ _ _ = _
      unfold bX3_placeOf_12
      rw [h4, if_pos (Int32.le_refl _)]
    | succ d ih =>
      intro i n hi hn
      obtain ⟨m, rfl⟩ : ∃ m, n = m + 1 := ⟨n - 1, by omega⟩
      have IH := ih (i + 1) m (by omega) (by omega)
      rw [nI_succ, gPl_s] at IH
      show bX3_placeOf_12 _ _ (fx2 (bX3_placeOf_12 T (nI r)) m) _ _ = _
      generalize fx2 (bX3_placeOf_12 T (nI r)) m = rc at IH ⊢
      unfold bX3_placeOf_12
      rw [h4, if_neg (nI_ge (by omega) (by omega)), p_ahead (by omega) (by omega), b_some]
      simp only [nm_d]
      by_cases e : i = r
      · rw [if_pos e] at IH
        rw [if_pos (by rw [e])]
        exact IH
      · rw [if_neg e] at IH
        rw [if_neg (nI_ne (by omega) (by omega) e)]
        by_cases e2 : gAh T i r = 0
        · rw [if_pos e2] at IH ⊢
          exact IH
        · rw [if_neg e2] at IH
          rw [if_neg e2, ← nI_succ]
          exact IH
  exact key c 0 FU (by omega) (by unfold FU; omega)
theorem q_place {M T : sOb} {c r : Nat} (h : RF (M.2.1 0) T) (hc : c ≤ 9) (h4 : T.1 4 = nI c) (hr : r < c) : fX5_placeOf M (nI r) = some (nI (gPl T r c)) := by
  unfold fX5_placeOf
  have h0 : M.2.1 0 0 = nI c := h.1.trans h4
  have key : ∀ d i n : Nat, i + d = c → d < n → fx2 (bX5_placeOf_4 M (nI r)) n (nI (gPl T r i)) (nI i) = some (nI (gPl T r c)) := by
    intro d
    induction d with
    | zero =>
      intro i n hi hn
      obtain ⟨m, rfl⟩ : ∃ m, n = m + 1 := ⟨n - 1, by omega⟩
      obtain rfl : i = c := by omega
      show bX5_placeOf_4 _ _ _ _ _ = _
      unfold bX5_placeOf_4
      rw [cl_0, h0, if_pos (Int32.le_refl _)]
    | succ d ih =>
      intro i n hi hn
      obtain ⟨m, rfl⟩ : ∃ m, n = m + 1 := ⟨n - 1, by omega⟩
      have IH := ih (i + 1) m (by omega) (by omega)
      rw [nI_succ, gPl_s] at IH
      show bX5_placeOf_4 _ _ (fx2 (bX5_placeOf_4 M (nI r)) m) _ _ = _
      generalize fx2 (bX5_placeOf_4 M (nI r)) m = rc at IH ⊢
      unfold bX5_placeOf_4
      rw [cl_0, h0, if_neg (nI_ge (by omega) (by omega)), q_ahead h (by omega) (by omega), b_some]
      simp only [nm_d]
      by_cases e : i = r
      · rw [if_pos e] at IH
        rw [if_pos (by rw [e]), Int32.add_zero]
        exact IH
      · rw [if_neg e] at IH
        rw [if_neg (nI_ne (by omega) (by omega) e)]
        by_cases e2 : gAh T i r = 0
        · rw [if_pos e2] at IH
          rw [if_pos e2, Int32.add_zero]
          exact IH
        · rw [if_neg e2] at IH
          rw [if_neg e2, ← nI_succ]
          exact IH
  exact key c 0 FU (by omega) (by unfold FU; omega)
/-- whose place it is, from one on -/
def gWF (T : sOb) (c : Nat) (pl : Int32) : Nat → Nat → Int32
  | 0, _ => -1
  | d + 1, i => if nI (gPl T i c) = pl then nI i else gWF T c pl d (i + 1)
def gWh (T : sOb) (c : Nat) (pl : Int32) : Int32 := gWF T c pl c 0
theorem p_whose {T : sOb} {c : Nat} (hc : c ≤ 9) (h4 : T.1 4 = nI c) (pl : Int32) : fX3_whoseAt T pl = some (gWh T c pl) := by
  have key : ∀ d i n : Nat, i + d = c → d < n → fx1 (bX3_whoseAt_2 T pl) n (nI i) = some (gWF T c pl d i) := by
    intro d
    induction d with
    | zero =>
      intro i n hi hn
      obtain ⟨m, rfl⟩ : ∃ m, n = m + 1 := ⟨n - 1, by omega⟩
      obtain rfl : i = c := by omega
      show bX3_whoseAt_2 _ _ _ _ = _
      unfold bX3_whoseAt_2
      rw [h4, if_pos (Int32.le_refl _)]
      rfl
    | succ d ih =>
      intro i n hi hn
      obtain ⟨m, rfl⟩ : ∃ m, n = m + 1 := ⟨n - 1, by omega⟩
      have IH := ih (i + 1) m (by omega) (by omega)
      rw [nI_succ] at IH
      show bX3_whoseAt_2 _ _ (fx1 (bX3_whoseAt_2 T pl) m) _ = some (if nI (gPl T i c) = pl then nI i else gWF T c pl d (i + 1))
      generalize fx1 (bX3_whoseAt_2 T pl) m = rc at IH ⊢
      unfold bX3_whoseAt_2
      rw [h4, if_neg (nI_ge (by omega) (by omega)), p_place hc h4 (by omega), b_some, nm_d]
      split
      · rfl
      · exact IH
  exact key c 0 FU (by omega) (by unfold FU; omega)
theorem q_whose {M T : sOb} {c : Nat} (h : RF (M.2.1 0) T) (hc : c ≤ 9) (h4 : T.1 4 = nI c) (pl : Int32) : fX5_whoIs M pl = some (gWh T c pl) := by
  have h0 : M.2.1 0 0 = nI c := h.1.trans h4
  have key : ∀ d i n : Nat, i + d = c → d < n → fx1 (bX5_whoIs_2 M pl) n (nI i) = some (gWF T c pl d i) := by
    intro d
    induction d with
    | zero =>
      intro i n hi hn
      obtain ⟨m, rfl⟩ : ∃ m, n = m + 1 := ⟨n - 1, by omega⟩
      obtain rfl : i = c := by omega
      show bX5_whoIs_2 _ _ _ _ = _
      unfold bX5_whoIs_2
      rw [cl_0, h0, if_pos (Int32.le_refl _)]
      rfl
    | succ d ih =>
      intro i n hi hn
      obtain ⟨m, rfl⟩ : ∃ m, n = m + 1 := ⟨n - 1, by omega⟩
      have IH := ih (i + 1) m (by omega) (by omega)
      rw [nI_succ] at IH
      show bX5_whoIs_2 _ _ (fx1 (bX5_whoIs_2 M pl) m) _ = some (if nI (gPl T i c) = pl then nI i else gWF T c pl d (i + 1))
      generalize fx1 (bX5_whoIs_2 M pl) m = rc at IH ⊢
      unfold bX5_whoIs_2
      rw [cl_0, h0, if_neg (nI_ge (by omega) (by omega)), q_place h hc h4 (by omega), b_some, nm_d]
      split
      · rfl
      · exact IH
  exact key c 0 FU (by omega) (by unfold FU; omega)
def gPz (T : sOb) (c : Nat) (law : Int32) : Int32 := if law = 0 then gWh T c 0 else if law = 1 then gWh T c 1 else if law = 2 then gWh T c (nI c - 2) else gWh T c ((nI c - 1) / 2)
theorem p_prize {T : sOb} {c : Nat} (hc : c ≤ 9) (h4 : T.1 4 = nI c) (law : Int32) : fX3_prizeOwner T law = some (gPz T c law) := by
  unfold fX3_prizeOwner gPz
  simp only [p_whose hc h4, b_some, h4]
  split
  · rfl
  · split
    · rfl
    · split <;> rfl
theorem q_prize {M T : sOb} {c : Nat} (h : RF (M.2.1 0) T) (hc : c ≤ 9) (h4 : T.1 4 = nI c) (law : Int32) : fX5_prizeOf M law = some (gPz T c law) := by
  have h0 : M.2.1 0 0 = nI c := h.1.trans h4
  unfold fX5_prizeOf gPz
  simp only [q_whose h hc h4, b_some, cl_0, h0]
  split
  · rfl
  · split
    · rfl
    · split <;> rfl
/-- who has a place is a runner, or nobody -/
theorem gWF_r {T : sOb} {c : Nat} {pl : Int32} : ∀ (d i : Nat), i + d = c → c ≤ 9 → gWF T c pl d i = -1 ∨ ∃ r, r < c ∧ gWF T c pl d i = nI r
  | 0, _, _, _ => Or.inl rfl
  | d + 1, i, h, hc => by
    unfold gWF
    split
    · exact Or.inr ⟨i, by omega, rfl⟩
    · exact gWF_r d (i + 1) (by omega) hc
theorem gPz_r {T : sOb} {c : Nat} (hc : c ≤ 9) (law : Int32) : gPz T c law = -1 ∨ ∃ r, r < c ∧ gPz T c law = nI r := by
  unfold gPz gWh
  split
  · exact gWF_r c 0 (by omega) hc
  · split
    · exact gWF_r c 0 (by omega) hc
    · split
      · exact gWF_r c 0 (by omega) hc
      · exact gWF_r c 0 (by omega) hc
