/-! PURE: copy, lays, film, read -/
theorem p_hasRow {Q : sOb} (hQ : 0 ≤ Q.1 1 ∧ Q.1 1 ≤ 40) (a k : Int32) : fX1_hasRow Q a k = some (if 0 ≤ a.toInt ∧ 0 ≤ k.toInt ∧ a.toInt + k.toInt ≤ (Q.1 1).toInt then 1 else 0) := by
  unfold fX1_hasRow
  generalize Q.1 1 = x at hQ ⊢
  rw [z_le, z_le] at hQ
  have h0 : (0 : Int32).toInt = 0 := rfl
  have h40 : (40 : Int32).toInt = 40 := rfl
  rw [h0, h40] at hQ
  by_cases q1 : a < 0
  · rw [if_pos q1]
    rw [z_lt, h0] at q1
    rw [if_neg (by omega)]
  · rw [if_neg q1]
    rw [z_lt, h0] at q1
    by_cases q2 : k < 0
    · rw [if_pos q2]
      rw [z_lt, h0] at q2
      rw [if_neg (by omega)]
    · rw [if_neg q2]
      rw [z_lt, h0] at q2
      by_cases q3 : x < k
      · rw [if_pos q3]
        rw [z_lt] at q3
        rw [if_neg (by omega)]
      · rw [if_neg q3]
        rw [z_lt] at q3
        by_cases q4 : x - k < a
        · rw [if_pos q4]
          rw [z_lt, z_sub (by omega) (by omega)] at q4
          rw [if_neg (by omega)]
        · rw [if_neg q4]
          rw [z_lt, z_sub (by omega) (by omega)] at q4
          rw [if_pos (by omega)]
theorem q_hasRows {x y a b k : Int32} (hx : 0 ≤ x ∧ x ≤ 40) (hy : 0 ≤ y ∧ y ≤ 40) (K F : Option (Int32 × sOb)) : (if a < 0 then F else if b < 0 then F else if k < 0 then F else if x - a < k then F else if k ≤ y - b then K else F) = if 0 ≤ a.toInt ∧ 0 ≤ k.toInt ∧ a.toInt + k.toInt ≤ x.toInt then (if 0 ≤ b.toInt ∧ 0 ≤ k.toInt ∧ b.toInt + k.toInt ≤ y.toInt then K else F) else F := by
  rw [z_le, z_le] at hx hy
  have h0 : (0 : Int32).toInt = 0 := rfl
  have h40 : (40 : Int32).toInt = 40 := rfl
  rw [h0, h40] at hx hy
  have ha := a.toInt_lt
  have hb := b.toInt_lt
  by_cases q1 : a < 0
  · rw [if_pos q1]
    rw [z_lt, h0] at q1
    rw [if_neg (by omega)]
  rw [if_neg q1]
  rw [z_lt, h0] at q1
  by_cases q2 : b < 0
  · rw [if_pos q2]
    rw [z_lt, h0] at q2
    rw [if_neg (show ¬ (0 ≤ b.toInt ∧ 0 ≤ k.toInt ∧ b.toInt + k.toInt ≤ y.toInt) by omega)]
    split <;> rfl
  rw [if_neg q2]
  rw [z_lt, h0] at q2
  by_cases q3 : k < 0
  · rw [if_pos q3]
    rw [z_lt, h0] at q3
    rw [if_neg (by omega)]
  rw [if_neg q3]
  rw [z_lt, h0] at q3
  by_cases q4 : x - a < k
  · rw [if_pos q4]
    rw [z_lt, z_sub (by omega) (by omega)] at q4
    rw [if_neg (by omega)]
  rw [if_neg q4]
  rw [z_lt, z_sub (by omega) (by omega)] at q4
  rw [if_pos (show 0 ≤ a.toInt ∧ 0 ≤ k.toInt ∧ a.toInt + k.toInt ≤ x.toInt by omega)]
  by_cases q5 : k ≤ y - b
  · rw [if_pos q5]
    rw [z_le, z_sub (by omega) (by omega)] at q5
    rw [if_pos (by omega)]
  · rw [if_neg q5]
    rw [z_le, z_sub (by omega) (by omega)] at q5
    rw [if_neg (by omega)]
theorem q_copyUp {s d k : Nat} (hs : s + k ≤ 160) (hd : d + k ≤ 160) (hle : d ≤ s) (M : sOb) : ∃ M', fx2 (bX5_copy_136 (nI k) (nI s) (nI d)) FU 0 M = some (nI k, M') ∧ M'.1 = M.1 ∧ M'.2.1 = M.2.1 ∧ ∀ p, M'.2.2 p = if d ≤ p ∧ p < d + k then M.2.2 (s + (p - d)) else M.2.2 p := by
  have key : ∀ e i n : Nat, i + e = k → e < n → ∀ M1 : sOb, M1.1 = M.1 → M1.2.1 = M.2.1 → (∀ p, M1.2.2 p = if d ≤ p ∧ p < d + i then M.2.2 (s + (p - d)) else M.2.2 p) → ∃ M', fx2 (bX5_copy_136 (nI k) (nI s) (nI d)) n (nI i) M1 = some (nI k, M') ∧ M'.1 = M.1 ∧ M'.2.1 = M.2.1 ∧ ∀ p, M'.2.2 p = if d ≤ p ∧ p < d + k then M.2.2 (s + (p - d)) else M.2.2 p := by
    intro e
    induction e with
    | zero =>
      intro i n hi hn M1 h1 h2 h3
      obtain ⟨m, rfl⟩ : ∃ m, n = m + 1 := ⟨n - 1, by omega⟩
      obtain rfl : i = k := by omega
      refine ⟨M1, ?_, h1, h2, h3⟩
      show bX5_copy_136 _ _ _ _ _ _ = _
      unfold bX5_copy_136
      rw [if_pos (Int32.le_refl _)]
    | succ e ih =>
      intro i n hi hn M1 h1 h2 h3
      obtain ⟨m, rfl⟩ : ∃ m, n = m + 1 := ⟨n - 1, by omega⟩
      obtain ⟨M', a1, a2⟩ := ih (i + 1) m (by omega) (by omega) (sSl M1 (d + i) (M1.2.2 (s + i))) h1 h2 (fun p => by
        rw [sSl_at]
        by_cases q : p = d + i
        · rw [if_pos q, if_pos (by omega), h3, if_neg (by omega), q, show d + i - d = i by omega]
        · rw [if_neg q, h3]
          by_cases q2 : d ≤ p ∧ p < d + i
          · rw [if_pos q2, if_pos (by omega)]
          · rw [if_neg q2, if_neg (by omega)])
      refine ⟨M', ?_, a2⟩
      rw [nI_succ] at a1
      show bX5_copy_136 _ _ _ (fx2 (bX5_copy_136 (nI k) (nI s) (nI d)) m) _ _ = _
      generalize fx2 (bX5_copy_136 (nI k) (nI s) (nI d)) m = rc at a1 ⊢
      unfold bX5_copy_136
      simp only [nm_x, nI_add]
      rw [if_neg (nI_ge (by omega) (by omega)), if_pos (nI_le hle (by omega)), if_neg (ix_in (show s + i < 160 by omega) (by omega)), if_neg (ix_in (show d + i < 160 by omega) (by omega)), z_cl (show s + i < 2147483648 by omega), z_cl (show d + i < 2147483648 by omega)]
      exact a1
  exact key k 0 FU (by omega) (by unfold FU; omega) M rfl rfl (fun p => by rw [if_neg (by omega)])
theorem q_copyDn {s d k : Nat} (hs : s + k ≤ 160) (hd : d + k ≤ 160) (hle : s < d) (M : sOb) : ∃ M', fx2 (bX5_copy_136 (nI k) (nI s) (nI d)) FU 0 M = some (nI k, M') ∧ M'.1 = M.1 ∧ M'.2.1 = M.2.1 ∧ ∀ p, M'.2.2 p = if d ≤ p ∧ p < d + k then M.2.2 (s + (p - d)) else M.2.2 p := by
  have key : ∀ e i n : Nat, i + e = k → e < n → ∀ M1 : sOb, M1.1 = M.1 → M1.2.1 = M.2.1 → (∀ p, M1.2.2 p = if d + e ≤ p ∧ p < d + k then M.2.2 (s + (p - d)) else M.2.2 p) → ∃ M', fx2 (bX5_copy_136 (nI k) (nI s) (nI d)) n (nI i) M1 = some (nI k, M') ∧ M'.1 = M.1 ∧ M'.2.1 = M.2.1 ∧ ∀ p, M'.2.2 p = if d ≤ p ∧ p < d + k then M.2.2 (s + (p - d)) else M.2.2 p := by
    intro e
    induction e with
    | zero =>
      intro i n hi hn M1 h1 h2 h3
      obtain ⟨m, rfl⟩ : ∃ m, n = m + 1 := ⟨n - 1, by omega⟩
      obtain rfl : i = k := by omega
      refine ⟨M1, ?_, h1, h2, h3⟩
      show bX5_copy_136 _ _ _ _ _ _ = _
      unfold bX5_copy_136
      rw [if_pos (Int32.le_refl _)]
    | succ e ih =>
      intro i n hi hn M1 h1 h2 h3
      obtain ⟨m, rfl⟩ : ∃ m, n = m + 1 := ⟨n - 1, by omega⟩
      obtain ⟨M', a1, a2⟩ := ih (i + 1) m (by omega) (by omega) (sSl M1 (d + e) (M1.2.2 (s + e))) h1 h2 (fun p => by
        rw [sSl_at]
        by_cases q : p = d + e
        · rw [if_pos q, if_pos (by omega), h3, if_neg (by omega), q, show d + e - d = e by omega]
        · rw [if_neg q, h3]
          by_cases q2 : d + (e + 1) ≤ p ∧ p < d + k
          · rw [if_pos q2, if_pos (by omega)]
          · rw [if_neg q2, if_neg (by omega)])
      refine ⟨M', ?_, a2⟩
      rw [nI_succ] at a1
      have ey : nI k - 1 - nI i = nI e := by
        rw [show (1 : Int32) = nI 1 from rfl, pk_sub (by omega), pk_sub (by omega), show k - 1 - i = e by omega]
      show bX5_copy_136 _ _ _ (fx2 (bX5_copy_136 (nI k) (nI s) (nI d)) m) _ _ = _
      generalize fx2 (bX5_copy_136 (nI k) (nI s) (nI d)) m = rc at a1 ⊢
      unfold bX5_copy_136
      simp only [nm_x, ey, nI_add]
      rw [if_neg (nI_ge (by omega) (by omega)), if_neg (nI_ge hle (by omega)), if_neg (ix_in (show s + e < 160 by omega) (by omega)), if_neg (ix_in (show d + e < 160 by omega) (by omega)), z_cl (show s + e < 2147483648 by omega), z_cl (show d + e < 2147483648 by omega)]
      exact a1
  exact key k 0 FU (by omega) (by unfold FU; omega) M rfl rfl (fun p => by rw [if_neg (by omega)])
theorem q_copy {s d k : Nat} (hs : s + k ≤ 160) (hd : d + k ≤ 160) (M : sOb) : ∃ M', fx2 (bX5_copy_136 (nI k) (nI s) (nI d)) FU 0 M = some (nI k, M') ∧ M'.1 = M.1 ∧ M'.2.1 = M.2.1 ∧ ∀ p, M'.2.2 p = if d ≤ p ∧ p < d + k then M.2.2 (s + (p - d)) else M.2.2 p := by
  by_cases q : d ≤ s
  · exact q_copyUp hs hd q M
  · exact q_copyDn hs hd (by omega) M
theorem z_nn {x : Int32} (h : 0 ≤ x.toInt) : ∃ n : Nat, n < 2147483648 ∧ x = nI n ∧ x.toInt = (n : Int) := z_nat h
theorem op_copy {S : sWo} {M : sOb} {n : Nat} (h : Rel S M n) (hn : n < 512) (a b c d k : Int32) : Ok (fX4_copy S a b c d k) (fX5_copy M a b c d k) (n + 1) := by
  have hB := ok_found h (show n ≤ n + 1 by omega) (by omega) 0 (by omega) (-1000000001) fd0
  have hB2 := ok_found h (show n ≤ n + 1 by omega) (by omega) 2 (by omega) (-1000000003) fd2
  have hB5 := ok_found h (show n ≤ n + 1 by omega) (by omega) 5 (by omega) (-1000000006) fd5
  unfold fX4_copy fX5_copy
  simp only [b_eta, p_isSheet, q_isSheet, b_so, bi, nm_x]
  by_cases e : 0 ≤ a ∧ a < nI 4
  · obtain ⟨j, hj, rfl⟩ := nI_ex (by omega) e.1 e.2
    rw [if_pos e, if_pos e]
    by_cases e' : 0 ≤ c ∧ c < nI 4
    · obtain ⟨j', hj', rfl⟩ := nI_ex (by omega) e'.1 e'.2
      have hs := h.2.2.2.2.2 j hj
      have hs' := h.2.2.2.2.2 j' hj'
      have hsn := hs.neg
      have hsn' := hs'.neg
      obtain ⟨g1, g2, g3, g4, g5⟩ := hs
      obtain ⟨g1', g2', g3', g4', g5'⟩ := hs'
      rw [if_pos e', if_pos e']
      simp only [z_cl (show j < 2147483648 by omega), z_cl (show j' < 2147483648 by omega), if_neg (ix_n hj (show 4 < 2147483648 by omega)), if_neg (ix_n hj' (show 4 < 2147483648 by omega))]
      unfold fX1_isMissing
      by_cases q : (S (5 + j)).1 0 = 0
      · rw [if_pos q, b_some, if_neg n10, if_pos (show M.2.1 5 j < 0 from Int32.not_le.mp (fun z => hsn.mp z q))]
        exact hB5
      rw [if_neg q, b_some, if_pos rfl, if_neg (show ¬ M.2.1 5 j < 0 from Int32.not_lt.mpr (hsn.mpr q))]
      by_cases q' : (S (5 + j')).1 0 = 0
      · rw [if_pos q', b_some, if_neg n10, if_neg (fun z => hsn'.mp z q')]
        exact hB5
      rw [if_neg q', b_some, if_pos rfl, if_pos (hsn'.mpr q')]
      rw [if_neg q] at g1
      rw [if_neg q'] at g1'
      rw [g1, g1', g3, g3', p_hasRow g4, p_hasRow g4', b_some, b_some, bi, bi, q_hasRows g4 g4']
      by_cases q2 : (S (5 + j)).1 0 = (S (5 + j')).1 0
      · rw [if_pos q2, if_pos q2]
        by_cases q3 : 0 ≤ b.toInt ∧ 0 ≤ k.toInt ∧ b.toInt + k.toInt ≤ ((S (5 + j)).1 1).toInt
        · rw [if_pos q3, if_pos q3]
          by_cases q4 : 0 ≤ d.toInt ∧ 0 ≤ k.toInt ∧ d.toInt + k.toInt ≤ ((S (5 + j')).1 1).toInt
          · rw [if_pos q4, if_pos q4]
            have l4 : ((S (5 + j)).1 1).toInt ≤ 40 := z_le.mp g4.2
            have l4' : ((S (5 + j')).1 1).toInt ≤ 40 := z_le.mp g4'.2
            obtain ⟨s, s1, rfl, s3⟩ := z_nat q3.1
            obtain ⟨t, t1, rfl, t3⟩ := z_nat q4.1
            obtain ⟨m, m1, rfl, m3⟩ := z_nat q3.2.1
            have w1 : s + m ≤ 40 := by omega
            have w2 : t + m ≤ 40 := by omega
            obtain ⟨M', a1, a2, a3, a4⟩ := q_copy (s := 40 * j + s) (d := 40 * j' + t) (k := m) (by omega) (by omega) M
            rw [z_cl s1, z_cl t1, z_cl m1, ix_sh, ix_sh, a1, if_neg (by
              intro z
              rcases z with z | z | z | z | z
              · exact nI_pos s1 z
              · exact nI_pos t1 z
              · exact nI_pos m1 z
              · exact z w1
              · exact z w2)]
            refine ⟨_, _, _, rfl, rfl, h.sheet (by omega) (by omega) hj' a2 (fun k _ _ _ _ _ => by rw [a3]) (fun _ _ => by rw [a3]) (fun _ _ => by rw [a3]) (fun _ _ => by rw [a3]) (fun p hp => by rw [a4, if_neg (by omega)]) ⟨by rw [a3, g1']; exact (if_neg q').symm, g2', by rw [a3, g3']; rfl, g4', fun i hi => ?_⟩⟩
            show M'.2.2 (40 * j' + i) = va_cpy (S (5 + j)).2.2 (S (5 + j')).2.2 s t m i
            rw [a4]
            by_cases q5 : t ≤ i ∧ i < t + m
            · rw [if_pos (by omega), pk_cpy_in q5.1 q5.2, show 40 * j + s + (40 * j' + i - (40 * j' + t)) = 40 * j + (s + (i - t)) by omega]
              exact g5 _ (by omega)
            · rw [if_neg (by omega), pk_cpy_out (by omega)]
              exact g5' i hi
          · rw [if_neg q4, if_neg q4]
            exact hB
        · rw [if_neg q3, if_neg q3]
          exact hB
      · rw [if_neg q2, if_neg q2]
        exact hB2
    · rw [if_neg e', if_neg e']
      exact hB
  · rw [if_neg e, if_neg e]
    exact hB
theorem z_12 {v : Int64} (h1 : ¬ v < 1) (h2 : ¬ (12 : Int64) < v) : 1 ≤ v.toInt32 ∧ v.toInt32 ≤ 12 := by
  rw [l_lt] at h1 h2
  rw [show (1 : Int64).toInt = 1 from rfl] at h1
  rw [show (12 : Int64).toInt = 12 from rfl] at h2
  have e : v.toInt32.toInt = v.toInt := by
    rw [Int64.toInt_toInt32]
    exact z_bm (by omega) (by omega)
  rw [z_le, z_le, e]
  exact ⟨by rw [show (1 : Int32).toInt = 1 from rfl]; omega, by rw [show (12 : Int32).toInt = 12 from rfl]; omega⟩
theorem lp_lays {n c j : Nat} (hn : n < 512) (hj : j < 4) : ∀ d i m : Nat, i + d = 40 → d < m → ∀ (S : sWo) (M : sOb) (x : Int32), Rel S M n → Inv (S 1) c (nI (600 * n)) → Ok (fx3 (bX4_lays_29 (nI j)) m x (nI i) S) (fx3 (bX5_lays_22 (nI j)) m x (nI i) M) (n + 1) := by
  intro d
  induction d with
  | zero =>
    intro i m hi hm S M x h hI
    obtain ⟨f, rfl⟩ : ∃ f, m = f + 1 := ⟨m - 1, by omega⟩
    obtain rfl : i = 40 := by omega
    obtain ⟨g1, g2, g3, g4, g5⟩ := h.2.2.2.2.2 j hj
    show Ok (bX4_lays_29 _ _ _ _ _) (bX5_lays_22 _ _ _ _ _) _
    unfold bX4_lays_29 bX5_lays_22
    rw [if_neg (ix_in hj (by omega)), z_cl (show j < 2147483648 by omega), g3, if_pos (show (S (5 + j)).1 1 ≤ nI 40 from g4.2), if_pos (show (S (5 + j)).1 1 ≤ nI 40 from g4.2)]
    exact ⟨_, _, _, rfl, rfl, h.mono (by omega) (by omega)⟩
  | succ d ih =>
    intro i m hi hm S M x h hI
    obtain ⟨f, rfl⟩ : ∃ f, m = f + 1 := ⟨m - 1, by omega⟩
    have hc := hI.1
    obtain ⟨g1, g2, g3, g4, g5⟩ := h.2.2.2.2.2 j hj
    have IH : ∀ (S : sWo) (M : sOb) (x : Int32), Rel S M n → Inv (S 1) c (nI (600 * n)) → Ok (fx3 (bX4_lays_29 (nI j)) f x (nI i + 1) S) (fx3 (bX5_lays_22 (nI j)) f x (nI i + 1) M) (n + 1) := by
      intro S M x h hI
      have := ih (i + 1) f (by omega) (by omega) S M x h hI
      rw [nI_succ] at this
      exact this
    have hE : Ok (some (x, S)) (some (x, M)) (n + 1) := ⟨_, _, _, rfl, rfl, h.mono (by omega) (by omega)⟩
    show Ok (bX4_lays_29 _ (fx3 (bX4_lays_29 (nI j)) f) _ _ _) (bX5_lays_22 _ (fx3 (bX5_lays_22 (nI j)) f) _ _ _) _
    generalize fx3 (bX4_lays_29 (nI j)) f = rc at IH ⊢
    generalize fx3 (bX5_lays_22 (nI j)) f = rm at IH ⊢
    unfold bX4_lays_29 bX5_lays_22 fX5_isIn
    simp only [nm_x, lg_lt0, lg_gt0]
    rw [if_neg (ix_in hj (by omega)), z_cl (show j < 2147483648 by omega), g3, cl_0, h.2.1.1, hI.2.1]
    by_cases q1 : (S (5 + j)).1 1 ≤ nI i
    · rw [if_pos q1, if_pos q1]
      exact hE
    rw [if_neg q1, if_neg q1]
    by_cases q2 : nI c ≤ nI i
    · rw [if_pos q2, if_pos q2]
      exact hE
    have hic : i < c := by
      rw [z_le, z_n (by omega), z_n (by omega)] at q2
      omega
    rw [if_neg q2, if_neg q2, if_neg (ix_in (show i < 40 by omega) (by omega)), if_neg (ix_in (show i < 9 by omega) (by omega)), z_cl (show i < 2147483648 by omega), ix_sh, if_neg (ix_in (show 40 * j + i < 160 by omega) (by omega)), z_cl (show 40 * j + i < 2147483648 by omega), g5 i (by omega)]
    by_cases q3 : (S (5 + j)).2.2 i < 1
    · rw [if_pos q3, if_pos q3, b_some, if_pos rfl]
      exact IH S M x h hI
    rw [if_neg q3, if_neg q3]
    by_cases q4 : 12 < (S (5 + j)).2.2 i
    · rw [if_pos q4, if_pos q4, b_some, if_pos rfl]
      exact IH S M x h hI
    rw [if_neg q4, if_neg q4, b_some, if_neg n10, q_puts (show i < 9 by omega) 1 (by omega) (v := 1) rfl, b_some]
    have hI1 := Inv_set hI hic (show 1 < 5 by omega) (IR_1 (hI.2.2.2.2.2.2.2 i hic) (z_12 q3 q4))
    refine IH _ _ _ (h.track (Nat.le_refl n) (by omega) (Fm.a0 _ _ _) hI1 ?_) (by rw [sUp_s]; exact hI1)
    rw [sSa_same]
    exact h.2.1.put (by omega) (by omega) _
theorem op_lays {S : sWo} {M : sOb} {n : Nat} (h : Rel S M n) (hn : n < 512) (a : Int32) : Ok (fX4_lays S a) (fX5_lays M a) (n + 1) := by
  have hB := ok_found h (show n ≤ n + 1 by omega) (by omega) 0 (by omega) (-1000000001) fd0
  have hB5 := ok_found h (show n ≤ n + 1 by omega) (by omega) 5 (by omega) (-1000000006) fd5
  obtain ⟨c, hI⟩ := h.1
  unfold fX4_lays fX5_lays
  by_cases e : 0 ≤ a ∧ a < nI 4
  · obtain ⟨j, hj, rfl⟩ := nI_ex (by omega) e.1 e.2
    rw [p_refusal hj, b_some, q_lacks hj (h.2.2.2.2.2 j hj), b_some, b_some]
    by_cases q : (S (5 + j)).1 0 = 0
    · rw [if_pos q, if_neg (show ¬ (-1000000006 : Int32) = 0 by decide), if_neg (show ¬ (-1000000006 : Int32) = 0 by decide), b_eta, b_eta]
      exact hB5
    · rw [if_neg q, if_pos rfl, if_pos rfl, if_neg (ix_in hj (by omega))]
      have := lp_lays (c := c) hn hj 40 0 FU (by omega) (by unfold FU; omega) S M 0 h hI
      rw [show nI 0 = (0 : Int32) from rfl] at this
      exact this
  · rw [p_refusal0 e, b_some, q_lacks0 e, b_some, b_some, if_neg (show ¬ (-1000000001 : Int32) = 0 by decide), if_neg (show ¬ (-1000000001 : Int32) = 0 by decide), b_eta, b_eta]
    exact hB
