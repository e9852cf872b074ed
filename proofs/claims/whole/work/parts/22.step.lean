/-! PURE: a second -/
theorem sSa_self (T : sOb) (k i : Nat) : sSa T k i (T.2.1 k i) = T := by
  unfold sSa
  have h : (fun j => if j = k then upd (T.2.1 k) i (T.2.1 k i) else T.2.1 j) = T.2.1 := by
    funext j
    by_cases hj : j = k
    · subst hj
      rw [if_pos rfl]
      funext r
      unfold upd
      by_cases hr : r = i
      · rw [if_pos hr, hr]
      · rw [if_neg hr]
    · rw [if_neg hj]
  rw [h]
theorem gWish_congr {T T' : sOb} (h1 : T'.1 = T.1) (h : ∀ k, k ≠ 2 → k ≠ 8 → T'.2.1 k = T.2.1 k) (r : Nat) (f : Int32) : gWish T' r f = gWish T r f := by
  unfold gWish gSpr gKeep gHold gMin
  rw [h1, h 0 (by decide) (by decide), h 1 (by decide) (by decide), h 3 (by decide) (by decide), h 5 (by decide) (by decide), h 7 (by decide) (by decide)]
/-- how far one would go at least, with the least pace -/
def gW (T : sOb) (c r : Nat) : Int32 := if gWish T r (gFA T c).1 < T.1 1 then T.1 1 else gWish T r (gFA T c).1
/-- how far it runs -/
def gSt (T : sOb) (c r : Nat) : Int32 := if gW T c r - 4 ≤ T.2.1 2 r then gW T c r else (if (4 : Int32) < T.1 1 then T.1 1 else 4)
/-- its breath then -/
def gBr (T : sOb) (c r : Nat) : Int32 := if gW T c r - 4 ≤ T.2.1 2 r then (if gW T c r - 4 ≤ 0 then (if 0 ≤ gW T c r - 4 then T.2.1 2 r else (if (999 : Int32) < T.2.1 2 r + 1 then 999 else T.2.1 2 r + 1)) else T.2.1 2 r - (gW T c r - 4)) else T.2.1 2 r
theorem p_stride {T : sOb} {r : Nat} (hr : r < 9) (w : Int32) : fX3_strideOf T (nI r) w = some (if w - 4 ≤ T.2.1 2 r then w else (if (4 : Int32) < T.1 1 then T.1 1 else 4), sSa T 2 r (if w - 4 ≤ T.2.1 2 r then (if w - 4 ≤ 0 then (if 0 ≤ w - 4 then T.2.1 2 r else (if (999 : Int32) < T.2.1 2 r + 1 then 999 else T.2.1 2 r + 1)) else T.2.1 2 r - (w - 4)) else T.2.1 2 r)) := by
  unfold fX3_strideOf
  simp only [nm_d]
  rw [if_neg (ix_in hr (by omega)), z_cl (by omega)]
  by_cases h1 : w - 4 ≤ T.2.1 2 r
  · rw [if_pos h1, if_pos h1, if_pos h1]
    by_cases h2 : w - 4 ≤ 0
    · rw [if_pos h2, if_pos h2]
      by_cases h3 : 0 ≤ w - 4
      · rw [if_pos h3, if_pos h3, sSa_self]
      · rw [if_neg h3, if_neg h3]
    · rw [if_neg h2, if_neg h2]
  · rw [if_neg h1, if_neg h1, if_neg h1, sSa_self]
/-- the first loop: strides and breaths of the first i -/
def gL1 (T : sOb) (c : Nat) : Nat → sOb
  | 0 => T
  | i + 1 => if T.2.1 7 i < 0 then sSa (sSa (gL1 T c i) 2 i (gBr T c i)) 8 i (gSt T c i) else sSa (gL1 T c i) 8 i 0
theorem gL1_s (T : sOb) (c i : Nat) : gL1 T c (i + 1) = if T.2.1 7 i < 0 then sSa (sSa (gL1 T c i) 2 i (gBr T c i)) 8 i (gSt T c i) else sSa (gL1 T c i) 8 i 0 := rfl
theorem gL1_1 (T : sOb) (c : Nat) : ∀ i, (gL1 T c i).1 = T.1 ∧ (gL1 T c i).2.2 = T.2.2
  | 0 => ⟨rfl, rfl⟩
  | i + 1 => by
    have h := gL1_1 T c i
    unfold gL1
    split
    · exact h
    · exact h
theorem gL1_k (T : sOb) (c : Nat) (k : Nat) (h2 : k ≠ 2) (h8 : k ≠ 8) : ∀ i, (gL1 T c i).2.1 k = T.2.1 k
  | 0 => rfl
  | i + 1 => by
    have h := gL1_k T c k h2 h8 i
    unfold gL1
    split
    · rw [sSa_other h8, sSa_other h2]
      exact h
    · rw [sSa_other h8]
      exact h
theorem gL1_2 (T : sOb) (c : Nat) (r : Nat) : ∀ i, (gL1 T c i).2.1 2 r = if r < i ∧ T.2.1 7 r < 0 then gBr T c r else T.2.1 2 r
  | 0 => by rw [if_neg (by omega)]; rfl
  | i + 1 => by
    have h := gL1_2 T c r i
    rw [gL1_s]
    grind [sSa_at]
theorem gL1_8 (T : sOb) (c : Nat) (r : Nat) : ∀ i, (gL1 T c i).2.1 8 r = if r < i then (if T.2.1 7 r < 0 then gSt T c r else 0) else T.2.1 8 r
  | 0 => by rw [if_neg (by omega)]; rfl
  | i + 1 => by
    have h := gL1_8 T c r i
    rw [gL1_s]
    grind [sSa_at]
/-- the first loop of goSecond -/
theorem p_L1 {T : sOb} {c : Nat} (hc : c ≤ 9) (h4 : T.1 4 = nI c) (hf : ∀ r, r < c → -1 ≤ T.2.1 3 r ∧ T.2.1 3 r < nI c) (k : sOb → Option sOb) : ∀ d i n : Nat, i + d = c → d < n → fx2 (bX3_goSecond_7 (gFA T c).1 k) n (nI i) (gL1 T c i) = k (gL1 T c c) := by
  intro d
  induction d with
  | zero =>
    intro i n hi hn
    obtain ⟨m, rfl⟩ : ∃ m, n = m + 1 := ⟨n - 1, by omega⟩
    obtain rfl : i = c := by omega
    show bX3_goSecond_7 _ _ _ _ _ = _
    unfold bX3_goSecond_7
    rw [(gL1_1 T i i).1, h4, if_pos (Int32.le_refl _)]
  | succ d ih =>
    intro i n hi hn
    obtain ⟨m, rfl⟩ : ∃ m, n = m + 1 := ⟨n - 1, by omega⟩
    have IH := ih (i + 1) m (by omega) (by omega)
    rw [nI_succ, gL1_s] at IH
    show bX3_goSecond_7 _ _ (fx2 (bX3_goSecond_7 (gFA T c).1 k) m) _ _ = _
    generalize fx2 (bX3_goSecond_7 (gFA T c).1 k) m = rc at IH ⊢
    unfold bX3_goSecond_7
    have h41 : (gL1 T c i).1 4 = nI c := by rw [(gL1_1 T c i).1]; exact h4
    have hf1 : -1 ≤ (gL1 T c i).2.1 3 i ∧ (gL1 T c i).2.1 3 i < nI c := by rw [gL1_k T c 3 (by decide) (by decide)]; exact hf i (by omega)
    rw [h41, if_neg (nI_ge (by omega) (by omega)), if_neg (ix_in (by omega) (by omega)), z_cl (by omega), gL1_k T c 7 (by decide) (by decide)]
    simp only [nm_d]
    rw [p_wish hc h41 (by omega) hf1, b_some, p_stride (by omega), b_some]
    rw [gWish_congr (gL1_1 T c i).1 (fun k h2 h8 => gL1_k T c k h2 h8 i), (gL1_1 T c i).1]
    have hb2 : (gL1 T c i).2.1 2 i = T.2.1 2 i := by rw [gL1_2, if_neg (by omega)]
    rw [hb2]
    by_cases h7 : T.2.1 7 i < 0
    · rw [if_pos h7] at IH ⊢
      exact IH
    · rw [if_neg h7] at IH ⊢
      exact IH
