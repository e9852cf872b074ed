/-! PURE: the sheets: sheet, write -/
theorem ix_sh (j i : Nat) : (40 : Int32) * nI j + nI i = nI (40 * j + i) := by
  rw [show (40 : Int32) = nI 40 from rfl, pk_mul, nI_add]
theorem p_isSheet (a : Int32) : fX4_isSheet a = some (if 0 ≤ a ∧ a < nI 4 then 1 else 0) := by
  unfold fX4_isSheet
  rw [show nI 4 = (4 : Int32) from rfl]
  by_cases q1 : a < 0
  · rw [if_pos q1, if_neg (by grind)]
  · rw [if_neg q1]
    by_cases q2 : 4 ≤ a
    · rw [if_pos q2, if_neg (by grind)]
    · rw [if_neg q2, if_pos (by grind)]
theorem q_isSheet (a : Int32) : fX5_isSheet a = some (if 0 ≤ a ∧ a < nI 4 then 1 else 0) := p_isSheet a
theorem p_isWidth (a : Int32) : fX4_isWidth a = some (if a = 0 ∨ a = 8 ∨ a = 16 ∨ a = 64 then 1 else 0) := by
  unfold fX4_isWidth
  by_cases q0 : a = 0
  · rw [if_pos q0, if_pos (Or.inl q0)]
  · rw [if_neg q0]
    by_cases q1 : a = 8
    · rw [if_pos q1, if_pos (Or.inr (Or.inl q1))]
    · rw [if_neg q1]
      by_cases q2 : a = 16
      · rw [if_pos q2, if_pos (Or.inr (Or.inr (Or.inl q2)))]
      · rw [if_neg q2]
        by_cases q3 : a = 64
        · rw [if_pos q3, if_pos (Or.inr (Or.inr (Or.inr q3)))]
        · rw [if_neg q3, if_neg (by grind)]
/-- one sheet becomes another -/
theorem Rel.sheet {S : sWo} {M Q M' : sOb} {n m j : Nat} (h : Rel S M n) (hn : n ≤ m) (hm : m ≤ 600) (hj : j < 4) (h0 : M'.1 = M.1) (hM : ∀ k, k ≠ 2 → k ≠ 5 → k ≠ 6 → k ≠ 7 → k ≠ 0 → M'.2.1 k = M.2.1 k) (hr : ∀ i, i < 77 → M'.2.1 0 i = M.2.1 0 i) (h5 : ∀ i, i ≠ j → M'.2.1 5 i = M.2.1 5 i) (h6 : ∀ i, i ≠ j → M'.2.1 6 i = M.2.1 6 i) (hL : ∀ p, ¬ (40 * j ≤ p ∧ p < 40 * j + 40) → M'.2.2 p = M.2.2 p) (hQ : RelS Q M' j) : Rel (sUp S (5 + j) Q) M' m := by
  obtain ⟨⟨c, h1⟩, h2, ⟨h3, h4⟩, ⟨f5, f5'⟩, ⟨z, z6, z7, z8, z9⟩, h10⟩ := h.mono hn hm
  have e4 : sUp S (5 + j) Q (5 + j) = Q := sUp_s _ _ _
  have eo : ∀ o, o ≠ 5 + j → sUp S (5 + j) Q o = S o := fun o ho => sUp_n ho
  generalize sUp S (5 + j) Q = S' at e4 eo ⊢
  have hM' : ∀ k, k = 1 ∨ k = 3 ∨ k = 4 → M'.2.1 k = M.2.1 k := fun k hk => hM k (by omega) (by omega) (by omega) (by omega) (by omega)
  refine ⟨⟨c, by rw [eo 1 (by omega)]; exact h1⟩, by rw [eo 1 (by omega)]; exact RF_s h2 hr, ⟨by rw [eo 0 (by omega), h0]; exact h3, ?_⟩, ⟨fun j hj => by rw [eo 0 (by omega), hM' 3 (by omega)]; exact f5 j hj, by rw [eo 0 (by omega), hM' 3 (by omega)]; exact f5'⟩, ⟨z, z6, by rw [eo 4 (by omega)]; exact z7, by rw [h0]; exact z8, fun i hi => by rw [eo 4 (by omega), hM' 4 (by omega)]; exact z9 i hi⟩, fun i hi => ?_⟩
  · rw [eo 0 (by omega), eo 3 (by omega), hM' 1 (by omega)]
    exact h4
  · by_cases q : i = j
    · rw [q, e4]
      exact hQ
    · rw [eo (5 + i) (by omega)]
      obtain ⟨g1, g2, g3, g4, g5⟩ := h10 i hi
      exact ⟨by rw [h5 i q]; exact g1, g2, by rw [h6 i q]; exact g3, g4, fun p hp => by rw [hL _ (by omega)]; exact g5 p hp⟩
theorem sSl_at (T : sOb) (i p : Nat) (v : Int64) : (sSl T i v).2.2 p = if p = i then v else T.2.2 p := rfl
theorem p_fill (Q : sOb) : ∃ Q', fJ7_fill_d0a16 Q 0 = some Q' ∧ Q'.1 = Q.1 ∧ Q'.2.1 = Q.2.1 ∧ ∀ i, i < 40 → Q'.2.2 i = 0 := by
  have key : ∀ d i n : Nat, i + d = 40 → d < n → ∀ Q1 : sOb, Q1.1 = Q.1 → Q1.2.1 = Q.2.1 → (∀ j, j < i → Q1.2.2 j = 0) → ∃ Q', fx2 (bJ7_fill_d0a16_6 0) n (nI i) Q1 = some Q' ∧ Q'.1 = Q.1 ∧ Q'.2.1 = Q.2.1 ∧ ∀ i, i < 40 → Q'.2.2 i = 0 := by
    intro d
    induction d with
    | zero =>
      intro i n hi hn Q1 h1 h2 h3
      obtain ⟨m, rfl⟩ : ∃ m, n = m + 1 := ⟨n - 1, by omega⟩
      obtain rfl : i = 40 := by omega
      refine ⟨Q1, ?_, h1, h2, h3⟩
      show bJ7_fill_d0a16_6 _ _ _ _ = _
      unfold bJ7_fill_d0a16_6
      rw [if_pos (show (40 : Int32) ≤ nI 40 from Int32.le_refl _)]
    | succ d ih =>
      intro i n hi hn Q1 h1 h2 h3
      obtain ⟨m, rfl⟩ : ∃ m, n = m + 1 := ⟨n - 1, by omega⟩
      obtain ⟨Q', a1, a2⟩ := ih (i + 1) m (by omega) (by omega) (sSl Q1 i 0) h1 h2 (fun j hj => by
        rw [sSl_at]
        by_cases q : j = i
        · rw [if_pos q]
        · rw [if_neg q]
          exact h3 j (by omega))
      refine ⟨Q', ?_, a2⟩
      rw [nI_succ] at a1
      show bJ7_fill_d0a16_6 _ (fx2 (bJ7_fill_d0a16_6 0) m) _ _ = _
      generalize fx2 (bJ7_fill_d0a16_6 0) m = rc at a1 ⊢
      unfold bJ7_fill_d0a16_6
      rw [if_neg (show ¬ (40 : Int32) ≤ nI i from nI_ge (b := 40) (by omega) (by omega)), if_neg (ix_in (show i < 40 by omega) (by omega)), z_cl (by omega), nm_d, nm_d]
      exact a1
  exact key 40 0 FU (by omega) (by unfold FU; omega) Q rfl rfl (fun j hj => absurd hj (Nat.not_lt_zero j))
theorem q_fill {j : Nat} (hj : j < 4) (M : sOb) : ∃ M', fx2 (bX5_sheet_93 (nI j)) FU 0 M = some (M.2.1 6 j, M') ∧ M'.1 = M.1 ∧ M'.2.1 = M.2.1 ∧ (∀ i, i < 40 → M'.2.2 (40 * j + i) = 0) ∧ ∀ p, ¬ (40 * j ≤ p ∧ p < 40 * j + 40) → M'.2.2 p = M.2.2 p := by
  have key : ∀ d i n : Nat, i + d = 40 → d < n → ∀ M1 : sOb, M1.1 = M.1 → M1.2.1 = M.2.1 → (∀ k, k < i → M1.2.2 (40 * j + k) = 0) → (∀ p, ¬ (40 * j ≤ p ∧ p < 40 * j + 40) → M1.2.2 p = M.2.2 p) → ∃ M', fx2 (bX5_sheet_93 (nI j)) n (nI i) M1 = some (M.2.1 6 j, M') ∧ M'.1 = M.1 ∧ M'.2.1 = M.2.1 ∧ (∀ i, i < 40 → M'.2.2 (40 * j + i) = 0) ∧ ∀ p, ¬ (40 * j ≤ p ∧ p < 40 * j + 40) → M'.2.2 p = M.2.2 p := by
    intro d
    induction d with
    | zero =>
      intro i n hi hn M1 h1 h2 h3 h4
      obtain ⟨m, rfl⟩ : ∃ m, n = m + 1 := ⟨n - 1, by omega⟩
      obtain rfl : i = 40 := by omega
      refine ⟨M1, ?_, h1, h2, h3, h4⟩
      show bX5_sheet_93 _ _ _ _ = _
      unfold bX5_sheet_93
      rw [if_pos (show (40 : Int32) ≤ nI 40 from Int32.le_refl _), z_cl (by omega), h2]
    | succ d ih =>
      intro i n hi hn M1 h1 h2 h3 h4
      obtain ⟨m, rfl⟩ : ∃ m, n = m + 1 := ⟨n - 1, by omega⟩
      obtain ⟨M', a1, a2⟩ := ih (i + 1) m (by omega) (by omega) (sSl M1 (40 * j + i) 0) h1 h2 (fun k hk => by
        rw [sSl_at]
        by_cases q : k = i
        · rw [if_pos (by omega)]
        · rw [if_neg (by omega)]
          exact h3 k (by omega)) (fun p hp => by
        rw [sSl_at, if_neg (by omega)]
        exact h4 p hp)
      refine ⟨M', ?_, a2⟩
      rw [nI_succ] at a1
      show bX5_sheet_93 _ (fx2 (bX5_sheet_93 (nI j)) m) _ _ = _
      generalize fx2 (bX5_sheet_93 (nI j)) m = rc at a1 ⊢
      unfold bX5_sheet_93
      rw [if_neg (show ¬ (40 : Int32) ≤ nI i from nI_ge (b := 40) (by omega) (by omega)), ix_sh, if_neg (ix_in (show 40 * j + i < 160 by omega) (by omega)), z_cl (show 40 * j + i < 2147483648 by omega), nm_d, nm_d]
      exact a1
  exact key 40 0 FU (by omega) (by unfold FU; omega) M rfl rfl (fun j hj => absurd hj (Nat.not_lt_zero j)) (fun _ _ => rfl)
theorem op_sheet {S : sWo} {M : sOb} {n : Nat} (h : Rel S M n) (hn : n < 512) (a b d : Int32) : Ok (fX4_sheet S a b d) (fX5_sheet M a b d) (n + 1) := by
  have hB := ok_found h (show n ≤ n + 1 by omega) (by omega) 0 (by omega) (-1000000001) fd0
  have hB6 := ok_found h (show n ≤ n + 1 by omega) (by omega) 6 (by omega) (-1000000007) fd6
  unfold fX4_sheet fX5_sheet
  simp only [b_eta, p_isSheet, q_isSheet, p_isWidth, b_so, bi, nm_x]
  by_cases e : 0 ≤ a ∧ a < nI 4
  · obtain ⟨j, hj, rfl⟩ := nI_ex (by omega) e.1 e.2
    rw [if_pos e, if_pos e]
    by_cases e1 : b = 0 ∨ b = 8 ∨ b = 16 ∨ b = 64
    · rw [if_pos e1]
      have ew : ∀ (K L : Option (Int32 × sOb)), (if b = 0 then K else if b = 8 then K else if b = 16 then K else if b = 64 then K else L) = K := by
        intro K L
        rcases e1 with rfl | rfl | rfl | rfl
        · rw [if_pos rfl]
        · rw [if_neg (by decide), if_pos rfl]
        · rw [if_neg (by decide), if_neg (by decide), if_pos rfl]
        · rw [if_neg (by decide), if_neg (by decide), if_neg (by decide), if_pos rfl]
      rw [ew]
      by_cases e2 : 0 ≤ d
      · rw [if_pos e2, if_pos e2]
        by_cases e3 : d ≤ 40
        · rw [if_pos e3, if_pos e3, if_neg (ix_in hj (by omega)), z_cl (show j < 2147483648 by omega)]
          have main : ∀ x y : Int32, (x = if b = 0 then -1 else b) → 0 ≤ y ∧ y ≤ 40 → ∃ Q' M', fJ7_fill_d0a16 (sSs (sSs (S (5 + j)) 0 b) 1 y) 0 = some Q' ∧ fx2 (bX5_sheet_93 (nI j)) FU 0 (sSa (sSa M 5 j x) 6 j y) = some (Q'.1 1, M') ∧ Rel (sUp S (5 + j) Q') M' (n + 1) := by
            intro x y hx hy
            obtain ⟨Q', a1, a2, a3, a4⟩ := p_fill (sSs (sSs (S (5 + j)) 0 b) 1 y)
            obtain ⟨M', b1, b2, b3, b4, b5⟩ := q_fill hj (sSa (sSa M 5 j x) 6 j y)
            have q1 : Q'.1 1 = y := by rw [a2]; rfl
            have q0 : Q'.1 0 = b := by rw [a2]; rfl
            have m6 : (sSa (sSa M 5 j x) 6 j y).2.1 6 j = y := by rw [sSa_at, if_pos ⟨rfl, rfl⟩]
            have m5 : (sSa (sSa M 5 j x) 6 j y).2.1 5 j = x := by rw [sSa_at, if_neg (by omega), sSa_at, if_pos ⟨rfl, rfl⟩]
            refine ⟨Q', M', a1, by rw [b1, m6, q1], h.sheet (by omega) (by omega) hj b2 (fun k _ h5 h6 _ _ => by rw [b3, sSa_other h6, sSa_other h5]) (fun i _ => by rw [b3, sSa_other (by decide), sSa_other (by decide)]) (fun i hi => by rw [b3, sSa_at, if_neg (by omega), sSa_at, if_neg (by omega)]) (fun i hi => by rw [b3, sSa_at, if_neg (by omega), sSa_at, if_neg (by omega)]) (fun p hp => b5 p hp) ⟨by rw [b3, m5, q0]; exact hx, by rw [q0]; exact e1, by rw [b3, m6, q1], by rw [q1]; exact hy, fun i hi => by rw [b4 i hi, a4 i hi]⟩⟩
          unfold fX1_lay
          simp only [nm_x]
          by_cases e4 : b = 0
          · obtain ⟨Q', M', a1, a2, a3⟩ := main (-1) 0 (by rw [if_pos e4]) (by decide)
            rw [if_pos e4, if_pos e4, if_pos e4, a1, b_some, b_some, a2, if_neg (ix_n hj (show 4 < 2147483648 by omega))]
            exact ⟨_, _, _, rfl, rfl, a3⟩
          · obtain ⟨Q', M', a1, a2, a3⟩ := main b d (by rw [if_neg e4]) ⟨e2, e3⟩
            rw [if_neg e4, if_neg e4, if_neg e4, a1, b_some, b_some, a2, if_neg (ix_n hj (show 4 < 2147483648 by omega))]
            exact ⟨_, _, _, rfl, rfl, a3⟩
        · rw [if_neg e3, if_neg e3]
          exact hB
      · rw [if_neg e2, if_neg e2]
        exact hB6
    · rw [if_neg e1, if_neg (fun z => e1 (Or.inl z)), if_neg (fun z => e1 (Or.inr (Or.inl z))), if_neg (fun z => e1 (Or.inr (Or.inr (Or.inl z)))), if_neg (fun z => e1 (Or.inr (Or.inr (Or.inr z))))]
      exact hB
  · rw [if_neg e, if_neg e]
    exact hB
/-- the answer of write is long -/
def OkL (oc : Option (Int64 × sWo)) (om : Option (Int64 × sOb)) (n : Nat) : Prop := ∃ v S' M', oc = some (v, S') ∧ om = some (v, M') ∧ Rel S' M' n
theorem okL_of {oc : Option (Int32 × sWo)} {om : Option (Int32 × sOb)} {n : Nat} (h : Ok oc om n) : OkL (oc.bind fun q => some (q.1.toInt64, q.2)) (om.bind fun q => some (q.1.toInt64, q.2)) n := by
  obtain ⟨v, S', M', rfl, rfl, h⟩ := h
  exact ⟨v.toInt64, S', M', rfl, rfl, h⟩
theorem p_refusal {S : sWo} {j : Nat} (hj : j < 4) : fX4_sheetRefusal S (nI j) = some (if (S (5 + j)).1 0 = 0 then -1000000006 else 0) := by
  unfold fX4_sheetRefusal fX1_isMissing
  rw [p_isSheet, b_some, bi, if_pos (show 0 ≤ nI j ∧ nI j < nI 4 from ⟨nI_pos' (by omega), nI_lt hj (by omega)⟩), if_neg (ix_in hj (by omega)), z_cl (by omega)]
  by_cases q : (S (5 + j)).1 0 = 0
  · rw [if_pos q, if_pos q, b_some, if_neg n10]
  · rw [if_neg q, if_neg q, b_some, if_pos rfl]
theorem p_refusal0 {S : sWo} {a : Int32} (ha : ¬ (0 ≤ a ∧ a < nI 4)) : fX4_sheetRefusal S a = some (-1000000001) := by
  unfold fX4_sheetRefusal
  rw [p_isSheet, b_some, bi, if_neg ha]
theorem RelS.neg {Q M : sOb} {j : Nat} (h : RelS Q M j) : (0 ≤ M.2.1 5 j ↔ ¬ Q.1 0 = 0) := by
  obtain ⟨g1, g2, -⟩ := h
  rw [g1]
  rcases g2 with q | q | q | q
  · rw [q]; decide
  · rw [q]; decide
  · rw [q]; decide
  · rw [q]; decide
theorem q_lacks {Q M : sOb} {j : Nat} (hj : j < 4) (h : RelS Q M j) : fX5_lacks M (nI j) = some (if Q.1 0 = 0 then -1000000006 else 0) := by
  unfold fX5_lacks
  rw [q_isSheet, b_some, bi, if_pos (show 0 ≤ nI j ∧ nI j < nI 4 from ⟨nI_pos' (by omega), nI_lt hj (by omega)⟩), if_neg (ix_in hj (by omega)), z_cl (by omega)]
  by_cases q : Q.1 0 = 0
  · rw [if_pos q, if_neg (fun z => h.neg.mp z q)]
  · rw [if_neg q, if_pos (h.neg.mpr q)]
theorem q_lacks0 {M : sOb} {a : Int32} (ha : ¬ (0 ≤ a ∧ a < nI 4)) : fX5_lacks M a = some (-1000000001) := by
  unfold fX5_lacks
  rw [q_isSheet, b_some, bi, if_neg ha]
theorem p_has40 {Q : sOb} (hQ : 0 ≤ Q.1 1 ∧ Q.1 1 ≤ 40) (a : Int32) : fX1_has Q a = some (if 0 ≤ a ∧ a < Q.1 1 then 1 else 0) := by
  unfold fX1_has
  generalize Q.1 1 = x at hQ ⊢
  grind
theorem p_narrow {Q M : sOb} {j : Nat} (h : RelS Q M j) (hq : ¬ Q.1 0 = 0) (v : Int64) : ∃ w, fX1_lowest Q v = some w ∧ fX5_narrow (M.2.1 5 j) v = some w := by
  obtain ⟨g1, -⟩ := h
  rw [if_neg hq] at g1
  unfold fX1_lowest fX5_narrow
  rw [g1]
  split
  · exact ⟨_, rfl, rfl⟩
  · split
    · exact ⟨_, rfl, rfl⟩
    · exact ⟨_, rfl, rfl⟩
theorem p_put40 {Q : sOb} {i : Nat} {v w : Int64} (hQ : 0 ≤ Q.1 1 ∧ Q.1 1 ≤ 40) (hi : nI i < Q.1 1) (hi40 : i < 40) (hw : fX1_lowest Q v = some w) : fX1_put Q (nI i) v = some (sSl Q i w) := by
  unfold fX1_put
  rw [p_has40 hQ, b_some, bi, if_pos ⟨nI_pos' (by omega), hi⟩, hw, b_some, if_neg (ix_in hi40 (by omega)), z_cl (by omega), nm_d]
theorem nI_40 {x : Int32} {i : Nat} (hx : 0 ≤ x ∧ x ≤ 40) (hi : nI i < x) (hi' : i < 2147483648) : i < 40 := by
  have : nI i < nI 40 := by
    show nI i < (40 : Int32)
    generalize nI i = y at hi ⊢
    grind
  rw [z_lt, z_n hi', z_n (by omega)] at this
  omega
theorem RelS.put {Q M : sOb} {j i : Nat} (h : RelS Q M j) (w : Int64) : RelS (sSl Q i w) (sSl M (40 * j + i) w) j := by
  obtain ⟨g1, g2, g3, g4, g5⟩ := h
  refine ⟨g1, g2, g3, g4, fun k hk => ?_⟩
  rw [sSl_at, sSl_at]
  by_cases q : k = i
  · rw [if_pos q, if_pos (by omega)]
  · rw [if_neg q, if_neg (by omega)]
    exact g5 k hk
theorem op_write {S : sWo} {M : sOb} {n : Nat} (h : Rel S M n) (hn : n < 512) (a b : Int32) (v : Int64) : OkL (fX4_write S a b v) (fX5_write M a b v) (n + 1) := by
  have hB := okL_of (ok_found h (show n ≤ n + 1 by omega) (by omega) 0 (by omega) (-1000000001) fd0)
  have hB5 := okL_of (ok_found h (show n ≤ n + 1 by omega) (by omega) 5 (by omega) (-1000000006) fd5)
  unfold fX4_write fX5_write
  by_cases e : 0 ≤ a ∧ a < nI 4
  · obtain ⟨j, hj, rfl⟩ := nI_ex (by omega) e.1 e.2
    have hs := h.2.2.2.2.2 j hj
    obtain ⟨g1, g2, g3, g4, g5⟩ := hs
    rw [p_refusal hj, b_some, q_isSheet, b_some, bi, if_pos e, if_neg (ix_in hj (by omega)), if_neg (ix_in hj (by omega)), z_cl (show j < 2147483648 by omega)]
    by_cases q : (S (5 + j)).1 0 = 0
    · rw [if_pos q, if_neg (show ¬ (-1000000006 : Int32) = 0 by decide), if_neg (fun z => (RelS.neg (h.2.2.2.2.2 j hj)).mp z q)]
      exact hB5
    · rw [if_neg q, if_pos rfl, if_pos ((RelS.neg (h.2.2.2.2.2 j hj)).mpr q), p_has40 g4, b_some, bi, g3, p_in b 0 ((S (5 + j)).1 1 - 1) (b' := 0) rfl rfl, b_some, bi]
      have el : (0 ≤ b ∧ b ≤ (S (5 + j)).1 1 - 1) ↔ (0 ≤ b ∧ b < (S (5 + j)).1 1) := by
        clear hB hB5
        generalize (S (5 + j)).1 1 = x at g4 ⊢
        grind
      simp only [el]
      by_cases q2 : 0 ≤ b ∧ b < (S (5 + j)).1 1
      · obtain ⟨i, hi, rfl⟩ := nI_ex (x := b) (c := 40) (by omega) q2.1 (by show b < (40 : Int32); clear hB hB5; generalize (S (5 + j)).1 1 = x at g4 q2 ⊢; grind)
        obtain ⟨w, w1, w2⟩ := p_narrow (h.2.2.2.2.2 j hj) q v
        rw [if_pos q2, if_pos q2, if_neg (ix_in hi (by omega)), nm_d, p_put40 g4 q2.2 hi w1, b_some, nm_d, z_cl (show i < 2147483648 by omega), ix_sh, if_neg (ix_in (show 40 * j + i < 160 by omega) (by omega)), nm_d, w2, b_some, nm_d, z_cl (show 40 * j + i < 2147483648 by omega), g5 i hi]
        exact ⟨_, _, _, rfl, rfl, h.sheet (by omega) (by omega) hj rfl (fun _ _ _ _ _ _ => rfl) (fun _ _ => rfl) (fun _ _ => rfl) (fun _ _ => rfl) (fun p hp => by rw [sSl_at, if_neg (by omega)]) ((h.2.2.2.2.2 j hj).put w)⟩
      · rw [if_neg q2, if_neg q2]
        exact hB
  · rw [p_refusal0 e, b_some, if_neg (show ¬ (-1000000001 : Int32) = 0 by decide), q_isSheet, b_some, bi, if_neg e]
    exact hB
