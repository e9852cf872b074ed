/-! PURE: the reference's track: who is first, how many are home, wishes -/
theorem cl_0 : (0 : Int32).toNatClampNeg = 0 := rfl
theorem cl_1 : (1 : Int32).toNatClampNeg = 1 := rfl
theorem cl_2 : (2 : Int32).toNatClampNeg = 2 := rfl
theorem cl_3 : (3 : Int32).toNatClampNeg = 3 := rfl
theorem cl_4 : (4 : Int32).toNatClampNeg = 4 := rfl
theorem q_is {M T : sOb} (h : RF (M.2.1 0) T) {r : Nat} (hr : r < 9) (k : Nat) (hk : k < 8) {v : Int32} (hv : v = nI k) : fX5_is M (nI r) v = some (T.2.1 k r) := by
  subst hv
  rw [p_is hr hk, h.at hr hk]
theorem q_puts {M : sOb} {r : Nat} (hr : r < 9) (k : Nat) (hk : k < 8) {v : Int32} (hv : v = nI k) (x : Int32) : fX5_puts M (nI r) v x = some (sSa M 0 (5 + 8 * r + k) x) := by
  subst hv
  exact p_puts hr hk x
theorem q_isRunner {M : sOb} {c : Nat} (h0 : M.2.1 0 0 = nI c) (a : Int32) : fX5_isRunner M a = some (if 0 ≤ a ∧ a < nI c then 1 else 0) := by
  unfold fX5_isRunner
  rw [cl_0, h0]
  grind
theorem q_isHome {M T : sOb} (h : RF (M.2.1 0) T) {r : Nat} (hr : r < 9) : fX5_isHome M (nI r) = some (if T.2.1 7 r < 0 then 0 else 1) := by
  unfold fX5_isHome
  rw [q_is h hr 7 (by omega) (v := 7) rfl, b_some]
  split <;> rfl
theorem gHC_s (T : sOb) (n : Nat) : gHC T (n + 1) = gHC T n + (if T.2.1 7 n < 0 then 0 else 1) := rfl
theorem q_homeMany {M T : sOb} {c : Nat} (h : RF (M.2.1 0) T) (hc : c ≤ 9) (h4 : T.1 4 = nI c) : fX5_homeMany M = some (nI (gHC T c)) := by
  have h0 : M.2.1 0 0 = nI c := h.1.trans h4
  have key : ∀ d i n : Nat, i + d = c → d < n → fx2 (bX5_homeMany_4 M) n (nI (gHC T i)) (nI i) = some (nI (gHC T c)) := by
    intro d
    induction d with
    | zero =>
      intro i n hi hn
      obtain ⟨m, rfl⟩ : ∃ m, n = m + 1 := ⟨n - 1, by omega⟩
      obtain rfl : i = c := by omega
      show bX5_homeMany_4 _ _ _ _ = _
      unfold bX5_homeMany_4
      rw [cl_0, h0, if_pos (Int32.le_refl _)]
    | succ d ih =>
      intro i n hi hn
      obtain ⟨m, rfl⟩ : ∃ m, n = m + 1 := ⟨n - 1, by omega⟩
      have IH := ih (i + 1) m (by omega) (by omega)
      rw [nI_succ, gHC_s] at IH
      show bX5_homeMany_4 _ (fx2 (bX5_homeMany_4 M) m) _ _ = _
      generalize fx2 (bX5_homeMany_4 M) m = rc at IH ⊢
      unfold bX5_homeMany_4
      rw [cl_0, h0, if_neg (nI_ge (by omega) (by omega)), q_isHome h (by omega), b_some]
      simp only [nm_d]
      by_cases h7 : T.2.1 7 i < 0
      · rw [if_pos h7] at IH ⊢
        rw [if_pos rfl, Int32.add_zero]
        exact IH
      · rw [if_neg h7] at IH ⊢
        rw [if_neg (by decide), ← nI_succ]
        exact IH
  exact key c 0 FU (by omega) (by unfold FU; omega)
theorem q_FA {M T : sOb} {c : Nat} {B : Int32} (h : RF (M.2.1 0) T) (hI : Inv T c B) : fX5_firstAlone M = some (gFA T c).1 := by
  obtain ⟨hc, h4, -, -, -, -, -, hR⟩ := hI
  have h0 : M.2.1 0 0 = nI c := h.1.trans h4
  unfold fX5_firstAlone
  rw [nm_d]
  have key : ∀ d i n : Nat, i + d = c → d < n → ∀ b a : Int32, ((b = -1 ∧ a = 0 ∧ gFA T i = (-1, -1)) ∨ ∃ j, j < i ∧ b = nI j ∧ ((a = 1 ∧ gFA T i = (nI j, T.2.1 5 j)) ∨ (a = 0 ∧ gFA T i = (-1, T.2.1 5 j)))) → fx3 (bX5_firstAlone_6 M (fun (x1_76 : Int32) (x2_76 : Int32) => if x2_76 = 0 then (some (-1 : Int32)) else (some x1_76))) n b a (nI i) = some (gFA T c).1 := by
    intro d
    induction d with
    | zero =>
      intro i n hi hn b a hb
      obtain ⟨m, rfl⟩ : ∃ m, n = m + 1 := ⟨n - 1, by omega⟩
      obtain rfl : i = c := by omega
      show bX5_firstAlone_6 _ _ _ _ _ _ = _
      unfold bX5_firstAlone_6
      rw [cl_0, h0, if_pos (Int32.le_refl _)]
      rcases hb with ⟨h1, h2, h3⟩ | ⟨j, h1, h2, ⟨h3, h5⟩ | ⟨h3, h5⟩⟩
      · rw [h2, h3]
        rfl
      · rw [h2, h3, h5]
        rfl
      · rw [h3, h5]
        rfl
    | succ d ih =>
      intro i n hi hn b a hb
      obtain ⟨m, rfl⟩ : ∃ m, n = m + 1 := ⟨n - 1, by omega⟩
      have IH := ih (i + 1) m (by omega) (by omega)
      rw [nI_succ, gFA_s] at IH
      obtain ⟨-, -, -, -, -, ⟨hy, -⟩, -⟩ := hR i (by omega)
      show bX5_firstAlone_6 _ _ (fx3 (bX5_firstAlone_6 M _) m) _ _ _ = _
      generalize fx3 (bX5_firstAlone_6 M (fun (x1_76 : Int32) (x2_76 : Int32) => if x2_76 = 0 then (some (-1 : Int32)) else (some x1_76))) m = rc at IH ⊢
      unfold bX5_firstAlone_6
      rw [cl_0, h0, if_neg (nI_ge (by omega) (by omega)), q_isHome h (by omega), b_some]
      simp only [nm_d]
      by_cases h7 : T.2.1 7 i < 0
      · rw [if_pos h7, if_pos rfl]
        rw [if_pos h7] at IH
        rcases hb with ⟨h1, h2, h3⟩ | ⟨j, h1, h2, h35⟩
        · rw [if_pos (show b < 0 by rw [h1]; decide)]
          apply IH
          refine Or.inr ⟨i, by omega, rfl, Or.inl ⟨rfl, ?_⟩⟩
          rw [h3, if_neg (by grind)]
        · have hj : ¬ nI j < 0 := nI_pos (by omega)
          rw [h2, if_neg hj, q_is h (by omega) 5 (by omega) (v := 5) rfl, b_some, q_is h (by omega) 5 (by omega) (v := 5) rfl, b_some]
          have e2 : (gFA T i).2 = T.2.1 5 j := by
            rcases h35 with ⟨-, h5⟩ | ⟨-, h5⟩ <;> rw [h5]
          rw [e2] at IH
          by_cases e3 : T.2.1 5 i ≤ T.2.1 5 j
          · rw [if_pos e3] at IH ⊢
            rw [b_some, b_some]
            by_cases e4 : T.2.1 5 i = T.2.1 5 j
            · rw [if_pos e4] at IH ⊢
              apply IH
              exact Or.inr ⟨j, by omega, rfl, Or.inr ⟨rfl, rfl⟩⟩
            · rw [if_neg e4] at IH ⊢
              apply IH
              exact Or.inr ⟨j, by omega, rfl, h35⟩
          · rw [if_neg e3] at IH ⊢
            apply IH
            exact Or.inr ⟨i, by omega, rfl, Or.inl ⟨rfl, rfl⟩⟩
      · rw [if_neg h7, if_neg (by decide)]
        rw [if_neg h7] at IH
        apply IH
        rcases hb with h1 | ⟨j, h1, h2⟩
        · exact Or.inl h1
        · exact Or.inr ⟨j, by omega, h2⟩
  exact key c 0 FU (by omega) (by unfold FU; omega) _ _ (Or.inl ⟨rfl, rfl, rfl⟩)
theorem q_hold {M T : sOb} (h : RF (M.2.1 0) T) {r : Nat} (hr : r < 9) (f : Int32) : fX5_asHolder M (nI r) f = some (gHold T r f) := by
  unfold fX5_asHolder gHold
  rw [nm_d, q_is h hr 1 (by omega) (v := 1) rfl, q_is h hr 5 (by omega) (v := 5) rfl, cl_1, cl_2, h.2.1, h.2.2.1]
  simp only [b_some]
  split
  · split <;> rfl
  · rfl
theorem z_mn {a b : Int32} : (if b ≤ a then b else a) = if a < b then a else b := by
  by_cases h : b ≤ a
  · rw [if_pos h, if_neg (by grind)]
  · rw [if_neg h, if_pos (by grind)]
theorem z_m1 {a : Int32} : (if (1 : Int32) ≤ a then a else 1) = if 1 < a then a else 1 := by
  by_cases h : (1 : Int32) ≤ a
  · by_cases h2 : (1 : Int32) < a
    · rw [if_pos h, if_pos h2]
    · rw [if_pos h, if_neg h2]
      grind
  · rw [if_neg h, if_neg (by grind)]
theorem q_keep {M T : sOb} {c r : Nat} (h : RF (M.2.1 0) T) (hc : c ≤ 9) (hr : r < c) (hf : -1 ≤ T.2.1 3 r ∧ T.2.1 3 r < nI c) : fX5_asKeeper M (nI r) = some (gKeep T r) := by
  unfold fX5_asKeeper gKeep
  rw [q_is h (by omega) 3 (by omega) (v := 3) rfl, b_some, nm_d, q_is h (show r < 9 by omega) 1 (by omega) (v := 1) rfl, b_some]
  by_cases h1 : T.2.1 3 r < 0
  · rw [if_pos h1, if_pos h1]
  · rw [if_neg h1, if_neg h1]
    obtain ⟨j, j1, j2⟩ := nI_ex (show c < 2147483648 by omega) (show 0 ≤ T.2.1 3 r by grind) hf.2
    rw [j2, q_isHome h (by omega), b_some, z_cl (by omega)]
    by_cases h2 : T.2.1 7 j < 0
    · rw [if_pos h2, if_pos rfl, if_pos h2, q_is h (by omega) 5 (by omega) (v := 5) rfl, b_some, q_is h (by omega) 5 (by omega) (v := 5) rfl, b_some]
      simp only [nm_d, b_some]
      unfold gMin
      rw [← z_mn, ← z_m1]
      split
      · split <;> rfl
      · split <;> rfl
    · rw [if_neg h2, if_neg (by decide), if_neg h2]
theorem z_mi {a b : Int32} : (if a ≤ b then a else b) = if a < b then a else b := by
  by_cases h : a < b
  · rw [if_pos h, if_pos (by grind)]
  · rw [if_neg h]
    by_cases h2 : a ≤ b
    · rw [if_pos h2]
      grind
    · rw [if_neg h2]
theorem q_wish {M T : sOb} {c r : Nat} (h : RF (M.2.1 0) T) (hc : c ≤ 9) (hr : r < c) (hf : -1 ≤ T.2.1 3 r ∧ T.2.1 3 r < nI c) (f hm : Int32) (hh : 0 < hm ↔ ¬ T.1 5 = 0) : fX5_wishOf M (nI r) f hm = some (gWish T r f) := by
  unfold fX5_wishOf gWish
  have r9 : r < 9 := by omega
  rw [q_is h r9 0 (by omega) (v := 0) rfl, b_some]
  simp only [q_hold h r9, q_keep h hc hr hf, b_some, nm_d, cl_1, cl_2, h.2.1, h.2.2.1]
  rw [q_is h r9 3 (by omega) (v := 3) rfl, q_is h r9 5 (by omega) (v := 5) rfl, q_is h r9 1 (by omega) (v := 1) rfl, b_some, b_some, b_some]
  by_cases e1 : T.2.1 0 r = 1
  · rw [if_pos e1, if_pos e1]
  rw [if_neg e1, if_neg e1]
  by_cases e2 : T.2.1 0 r = 2
  · rw [if_pos e2, if_pos e2]
  rw [if_neg e2, if_neg e2]
  by_cases e3 : T.2.1 0 r = 3
  · rw [if_pos e3, if_pos e3]
    by_cases h1 : T.2.1 3 r < 0
    · rw [if_pos h1, if_pos h1]
    · rw [if_neg h1, if_neg h1]
      obtain ⟨j, j1, j2⟩ := nI_ex (show c < 2147483648 by omega) (show 0 ≤ T.2.1 3 r by grind) hf.2
      rw [j2, q_isHome h (by omega), b_some, z_cl (by omega)]
      by_cases h2 : T.2.1 7 j < 0
      · rw [if_pos h2, if_pos rfl, if_pos h2]
      · rw [if_neg h2, if_neg (by decide), if_neg h2]
  rw [if_neg e3, if_neg e3]
  by_cases e4 : T.2.1 0 r = 4
  · rw [if_pos e4, if_pos e4]
    unfold gSpr
    by_cases h1 : T.2.1 5 r < T.1 0 - 40
    · rw [if_pos h1, if_pos h1]
    · rw [if_neg h1, if_neg h1]
      by_cases h2 : 0 < hm
      · rw [if_pos h2, if_neg (fun q => (hh.mp h2) q.2)]
      · rw [if_neg h2]
        have h3 : T.1 5 = 0 := Decidable.not_not.mp (fun q => h2 (hh.mpr q))
        by_cases h6 : nI r = f
        · rw [if_pos h6, if_pos ⟨h6, h3⟩]
        · rw [if_neg h6, if_neg (fun q => h6 q.1)]
  rw [if_neg e4, if_neg e4]
  by_cases e5 : T.2.1 0 r = 5
  · rw [if_pos e5, if_pos e5, ← z_mi]
    split <;> rfl
  rw [if_neg e5, if_neg e5]
  rfl
