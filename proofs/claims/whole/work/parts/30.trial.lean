/-! PURE: the line; a trial and its end; a race -/
def gLI (T : sOb) (i : Nat) : sOb := (T.1, fun k r => if r < i then (if k = 5 then T.2.1 4 r else if k = 7 then -1 else T.2.1 k r) else T.2.1 k r, T.2.2)
def gLn (T : sOb) (c : Nat) : sOb := (fun k => if k = 3 then 0 else if k = 5 then 0 else T.1 k, (gLI T c).2.1, T.2.2)
theorem p_lineUp {T : sOb} {c : Nat} (hc : c ≤ 9) (h4 : T.1 4 = nI c) : fX3_lineUp T = some (gLn T c) := by
  have key : ∀ d i n : Nat, i + d = c → d < n → fx2 bX3_lineUp_2 n (nI i) (gLI T i) = some (gLn T c) := by
    intro d
    induction d with
    | zero =>
      intro i n hi hn
      obtain ⟨m, rfl⟩ : ∃ m, n = m + 1 := ⟨n - 1, by omega⟩
      obtain rfl : i = c := by omega
      show bX3_lineUp_2 _ _ _ = _
      unfold bX3_lineUp_2
      rw [show (gLI T i).1 4 = nI i from h4, if_pos (Int32.le_refl _), nm_d, nm_d]
      congr 1
      refine sOb_ext (fun k => ?_) (fun k r => rfl) rfl
      rw [sSs_1, sSs_1]
      show (if k = 5 then 0 else if k = 3 then 0 else T.1 k) = if k = 3 then 0 else if k = 5 then 0 else T.1 k
      grind
    | succ d ih =>
      intro i n hi hn
      obtain ⟨m, rfl⟩ : ∃ m, n = m + 1 := ⟨n - 1, by omega⟩
      have IH := ih (i + 1) m (by omega) (by omega)
      rw [nI_succ] at IH
      show bX3_lineUp_2 (fx2 bX3_lineUp_2 m) _ _ = _
      generalize fx2 bX3_lineUp_2 m = rc at IH ⊢
      unfold bX3_lineUp_2
      rw [show (gLI T i).1 4 = nI c from h4, if_neg (nI_ge (by omega) (by omega)), if_neg (ix_in (show i < 9 by omega) (by omega)), z_cl (by omega)]
      simp only [nm_d]
      have hE : sSa (sSa (gLI T i) 5 i ((gLI T i).2.1 4 i)) 7 i (-1) = gLI T (i + 1) := by
        refine sOb_ext (fun k => rfl) (fun k r => ?_) rfl
        rw [sSa_at, sSa_at]
        unfold gLI
        grind
      rw [hE]
      exact IH
  exact key c 0 FU (by omega) (by unfold FU; omega)
theorem q_lines {M T : sOb} {c : Nat} (h : RF (M.2.1 0) T) (hc : c ≤ 9) (h4 : T.1 4 = nI c) : ∃ M', fX5_lines M = some M' ∧ RF (M'.2.1 0) (gLn T c) ∧ Fm M M' := by
  have key : ∀ d i n : Nat, i + d = c → d < n → ∀ M : sOb, RF (M.2.1 0) (gLI T i) → ∃ M', fx2 bX5_lines_2 n (nI i) M = some M' ∧ RF (M'.2.1 0) (gLn T c) ∧ Fm M M' := by
    intro d
    induction d with
    | zero =>
      intro i n hi hn M h
      obtain ⟨m, rfl⟩ : ∃ m, n = m + 1 := ⟨n - 1, by omega⟩
      obtain rfl : i = c := by omega
      refine ⟨sSa M 0 4 0, ?_, ?_, Fm.a0 _ _ _⟩
      · show bX5_lines_2 _ _ _ = _
        unfold bX5_lines_2
        rw [cl_0, h.1, show (gLI T i).1 4 = nI i from h4, if_pos (Int32.le_refl _), nm_d, cl_4]
      · rw [sSa_same]
        obtain ⟨b0, b1, b2, b3, b4, b5⟩ := h
        refine ⟨by rw [upd_n (by decide)]; exact b0, by rw [upd_n (by decide)]; exact b1, by rw [upd_n (by decide)]; exact b2, by rw [upd_n (by decide)]; exact b3, ?_, fun r hr k hk => ?_⟩
        · rw [upd_s]
          rfl
        · rw [upd_n (by omega), b5 r hr k hk]
          rfl
    | succ d ih =>
      intro i n hi hn M h
      obtain ⟨m, rfl⟩ : ∃ m, n = m + 1 := ⟨n - 1, by omega⟩
      have r9 : i < 9 := by omega
      have hE : RF ((sSa (sSa M 0 (5 + 8 * i + 5) ((gLI T i).2.1 4 i)) 0 (5 + 8 * i + 7) (-1)).2.1 0) (gLI T (i + 1)) := by
        rw [sSa_same, sSa_same]
        refine RF_congr ((h.put r9 (k := 5) (by omega) _).put r9 (k := 7) (by omega) _) (fun k _ => rfl) (fun r hr k hk => ?_)
        rw [sSa_at, sSa_at]
        unfold gLI
        grind
      obtain ⟨M', a1, a2, a3⟩ := ih (i + 1) m (by omega) (by omega) _ hE
      refine ⟨M', ?_, a2, ((Fm.a0 _ _ _).tr (Fm.a0 _ _ _)).tr a3⟩
      rw [nI_succ] at a1
      show bX5_lines_2 (fx2 bX5_lines_2 m) _ _ = _
      generalize fx2 bX5_lines_2 m = rc at a1 ⊢
      unfold bX5_lines_2
      rw [cl_0, h.1, show (gLI T i).1 4 = nI c from h4, if_neg (nI_ge (by omega) (by omega)), q_is h r9 4 (by omega) (v := 4) rfl, b_some, q_puts r9 5 (by omega) (v := 5) rfl, b_some, q_puts r9 7 (by omega) (v := 7) rfl, b_some, nm_d]
      exact a1
  refine key c 0 FU (by omega) (by unfold FU; omega) M (RF_congr h (fun k _ => rfl) (fun r hr k hk => ?_))
  show (if r < 0 then (if k = 5 then T.2.1 4 r else if k = 7 then -1 else T.2.1 k r) else T.2.1 k r) = T.2.1 k r
  rw [if_neg (Nat.not_lt_zero r)]
theorem gHC_ln (T : sOb) (c : Nat) : ∀ n, n ≤ c → gHC (gLn T c) n = 0
  | 0, _ => rfl
  | n + 1, h => by
    rw [gHC_s, gHC_ln T c n (by omega)]
    have e : (gLn T c).2.1 7 n = -1 := by
      show (if n < c then (if 7 = 5 then _ else if 7 = 7 then -1 else _) else _) = -1
      rw [if_pos (by omega), if_neg (by decide), if_pos rfl]
    rw [e, if_pos (by decide)]
theorem Inv_ln {T : sOb} {c : Nat} {B : Int32} (h : Inv T c B) : Inv (gLn T c) c (nI 0) := by
  obtain ⟨h0, h4, hL, hl, hw, hs, h5, hR⟩ := h
  refine ⟨h0, h4, hL, hl, hw, ⟨Int32.le_refl _, Int32.le_refl _⟩, ?_, fun r hr => ?_⟩
  · rw [gHC_ln T c c (Nat.le_refl c)]
    rfl
  · obtain ⟨r0, r1, r2, r3, r4, r5, r7⟩ := hR r hr
    have e : ∀ k, (gLn T c).2.1 k r = if k = 5 then T.2.1 4 r else if k = 7 then -1 else T.2.1 k r := fun k => by
      show (if r < c then _ else _) = _
      rw [if_pos hr]
    have g0 : (gLn T c).1 0 = T.1 0 := rfl
    unfold IR
    rw [g0, e 0, e 1, e 2, e 3, e 4, e 5, e 7]
    simp only [if_neg (show ¬ (0 : Nat) = 5 by decide), if_neg (show ¬ (0 : Nat) = 7 by decide), if_neg (show ¬ (1 : Nat) = 5 by decide), if_neg (show ¬ (1 : Nat) = 7 by decide), if_neg (show ¬ (2 : Nat) = 5 by decide), if_neg (show ¬ (2 : Nat) = 7 by decide), if_neg (show ¬ (3 : Nat) = 5 by decide), if_neg (show ¬ (3 : Nat) = 7 by decide), if_neg (show ¬ (4 : Nat) = 5 by decide), if_neg (show ¬ (4 : Nat) = 7 by decide), if_neg (show ¬ (7 : Nat) = 5 by decide), if_true]
    refine ⟨r0, r1, r2, r3, r4, ⟨r4.1, ?_⟩, fun _ => r4.2⟩
    generalize T.2.1 4 r = x at r4 ⊢
    generalize T.1 0 = y at r4 hL ⊢
    grind
/-- a track taken over -/
def gTI (T T2 : sOb) (i : Nat) : sOb := (fun k => if k < 6 then T2.1 k else T.1 k, fun k r => if k < 8 ∧ r < i then T2.2.1 k r else T.2.1 k r, T.2.2)
def gTO (T T2 : sOb) : sOb := gTI T T2 9
theorem gTI_at (T T2 : sOb) (i k r : Nat) : (gTI T T2 i).2.1 k r = if k < 8 ∧ r < i then T2.2.1 k r else T.2.1 k r := rfl
def gC8 (A T2 : sOb) (i : Nat) : sOb := sSa (sSa (sSa (sSa (sSa (sSa (sSa (sSa A 0 i (T2.2.1 0 i)) 1 i (T2.2.1 1 i)) 2 i (T2.2.1 2 i)) 3 i (T2.2.1 3 i)) 4 i (T2.2.1 4 i)) 5 i (T2.2.1 5 i)) 6 i (T2.2.1 6 i)) 7 i (T2.2.1 7 i)
theorem gC8_1 (A T2 : sOb) (i : Nat) : (gC8 A T2 i).1 = A.1 := by
  unfold gC8
  rw [sSa_1, sSa_1, sSa_1, sSa_1, sSa_1, sSa_1, sSa_1, sSa_1]
theorem gC8_3 (A T2 : sOb) (i : Nat) : (gC8 A T2 i).2.2 = A.2.2 := by
  unfold gC8
  rw [sSa_3, sSa_3, sSa_3, sSa_3, sSa_3, sSa_3, sSa_3, sSa_3]
theorem gC8_2 (A T2 : sOb) (i k r : Nat) : (gC8 A T2 i).2.1 k r = if k < 8 ∧ r = i then T2.2.1 k i else A.2.1 k r := by
  unfold gC8
  rw [sSa_at, sSa_at, sSa_at, sSa_at, sSa_at, sSa_at, sSa_at, sSa_at]
  by_cases hr : r = i
  · by_cases hk : k < 8
    · rw [if_pos (show k < 8 ∧ r = i from ⟨hk, hr⟩)]
      rcases (show k = 0 ∨ k = 1 ∨ k = 2 ∨ k = 3 ∨ k = 4 ∨ k = 5 ∨ k = 6 ∨ k = 7 by omega) with rfl | rfl | rfl | rfl | rfl | rfl | rfl | rfl <;> simp [hr]
    · rw [if_neg (show ¬ (k < 8 ∧ r = i) by omega), if_neg (show ¬ (k = 7 ∧ r = i) by omega), if_neg (show ¬ (k = 6 ∧ r = i) by omega), if_neg (show ¬ (k = 5 ∧ r = i) by omega), if_neg (show ¬ (k = 4 ∧ r = i) by omega), if_neg (show ¬ (k = 3 ∧ r = i) by omega), if_neg (show ¬ (k = 2 ∧ r = i) by omega), if_neg (show ¬ (k = 1 ∧ r = i) by omega), if_neg (show ¬ (k = 0 ∧ r = i) by omega)]
  · rw [if_neg (show ¬ (k < 8 ∧ r = i) by omega), if_neg (show ¬ (k = 7 ∧ r = i) by omega), if_neg (show ¬ (k = 6 ∧ r = i) by omega), if_neg (show ¬ (k = 5 ∧ r = i) by omega), if_neg (show ¬ (k = 4 ∧ r = i) by omega), if_neg (show ¬ (k = 3 ∧ r = i) by omega), if_neg (show ¬ (k = 2 ∧ r = i) by omega), if_neg (show ¬ (k = 1 ∧ r = i) by omega), if_neg (show ¬ (k = 0 ∧ r = i) by omega)]
theorem gTI_step (T T2 : sOb) (i : Nat) : gC8 (gTI T T2 i) T2 i = gTI T T2 (i + 1) := by
  refine sOb_ext (fun k => ?_) (fun k r => ?_) ?_
  · rw [gC8_1]
    rfl
  · rw [gC8_2, gTI_at, gTI_at]
    by_cases q : k < 8 ∧ r = i
    · rw [if_pos q, if_pos (by omega), q.2]
    · rw [if_neg q]
      by_cases q2 : k < 8 ∧ r < i
      · rw [if_pos q2, if_pos (by omega)]
      · rw [if_neg q2, if_neg (by omega)]
  · rw [gC8_3]
    rfl
def gC6 (T T2 : sOb) : sOb := sSs (sSs (sSs (sSs (sSs (sSs T 0 (T2.1 0)) 1 (T2.1 1)) 2 (T2.1 2)) 3 (T2.1 3)) 4 (T2.1 4)) 5 (T2.1 5)
theorem gC6_1 (T T2 : sOb) (k : Nat) : (gC6 T T2).1 k = if k < 6 then T2.1 k else T.1 k := by
  unfold gC6
  rw [sSs_1, sSs_1, sSs_1, sSs_1, sSs_1, sSs_1]
  by_cases hk : k < 6
  · rw [if_pos hk]
    rcases (show k = 0 ∨ k = 1 ∨ k = 2 ∨ k = 3 ∨ k = 4 ∨ k = 5 by omega) with rfl | rfl | rfl | rfl | rfl | rfl <;> simp
  · rw [if_neg hk, if_neg (show ¬ k = 5 by omega), if_neg (show ¬ k = 4 by omega), if_neg (show ¬ k = 3 by omega), if_neg (show ¬ k = 2 by omega), if_neg (show ¬ k = 1 by omega), if_neg (show ¬ k = 0 by omega)]
theorem gC6_2 (T T2 : sOb) : (gC6 T T2).2 = T.2 := by
  unfold gC6
  rw [sSs_2, sSs_2, sSs_2, sSs_2, sSs_2, sSs_2]
theorem gTI_0 (T T2 : sOb) : gC6 T T2 = gTI T T2 0 := by
  refine sOb_ext (fun k => ?_) (fun k r => ?_) ?_
  · rw [gC6_1]
    rfl
  · rw [gC6_2, gTI_at, if_neg (by omega)]
  · rw [gC6_2]
    rfl
theorem p_takeOver (T T2 : sOb) : fX3_takeOver T T2 = some (gTO T T2) := by
  have key : ∀ d i n : Nat, i + d = 9 → d < n → fx2 (bX3_takeOver_50 T2) n (nI i) (gTI T T2 i) = some (gTI T T2 9) := by
    intro d
    induction d with
    | zero =>
      intro i n hi hn
      obtain ⟨m, rfl⟩ : ∃ m, n = m + 1 := ⟨n - 1, by omega⟩
      obtain rfl : i = 9 := by omega
      show bX3_takeOver_50 _ _ _ _ = _
      unfold bX3_takeOver_50
      rw [if_pos (show (9 : Int32) ≤ nI 9 from Int32.le_refl _)]
    | succ d ih =>
      intro i n hi hn
      obtain ⟨m, rfl⟩ : ∃ m, n = m + 1 := ⟨n - 1, by omega⟩
      have IH := ih (i + 1) m (by omega) (by omega)
      rw [nI_succ, ← gTI_step] at IH
      show bX3_takeOver_50 _ (fx2 (bX3_takeOver_50 T2) m) _ _ = _
      generalize fx2 (bX3_takeOver_50 T2) m = rc at IH ⊢
      unfold bX3_takeOver_50
      rw [if_neg (show ¬ (9 : Int32) ≤ nI i from nI_ge (b := 9) (by omega) (by omega)), if_neg (ix_in (show i < 9 by omega) (by omega)), z_cl (by omega)]
      generalize gTI T T2 i = A at IH ⊢
      unfold gC8 at IH
      simp only [nm_d]
      exact IH
  have h := key 9 0 FU (by omega) (by unfold FU; omega)
  rw [← gTI_0, show nI 0 = (0 : Int32) from rfl] at h
  unfold fX3_takeOver gTO
  rw [nm_d, nm_d, nm_d, nm_d, nm_d, nm_d]
  have e : sSs (sSs (sSs (sSs (sSs (sSs T 0 (T2.1 0)) 1 (T2.1 1)) 2 (T2.1 2)) 3 (T2.1 3)) 4 (T2.1 4)) 5 (T2.1 5) = gC6 T T2 := rfl
  rw [e]
  exact h
theorem gTO_1 (T T2 : sOb) {k : Nat} (hk : k < 6) : (gTO T T2).1 k = T2.1 k := if_pos hk
theorem gTO_2 (T T2 : sOb) {k r : Nat} (hk : k < 8) (hr : r < 9) : (gTO T T2).2.1 k r = T2.2.1 k r := if_pos ⟨hk, hr⟩
theorem gHC_congr {T T2 : sOb} : ∀ n, (∀ r, r < n → T.2.1 7 r = T2.2.1 7 r) → gHC T n = gHC T2 n
  | 0, _ => rfl
  | n + 1, h => by rw [gHC_s, gHC_s, gHC_congr n (fun r hr => h r (by omega)), h n (by omega)]
theorem Inv_congr {T T2 : sOb} {c : Nat} {B : Int32} (h : Inv T2 c B) (h1 : ∀ k, k < 6 → T.1 k = T2.1 k) (h2 : ∀ k, k < 8 → ∀ r, r < 9 → T.2.1 k r = T2.2.1 k r) : Inv T c B := by
  obtain ⟨h0, h4, hL, hl, hw, hs, h5, hR⟩ := h
  refine ⟨h0, by rw [h1 4 (by omega)]; exact h4, by rw [h1 0 (by omega)]; exact hL, by rw [h1 1 (by omega)]; exact hl, by rw [h1 2 (by omega)]; exact hw, by rw [h1 3 (by omega)]; exact hs, ?_, fun r hr => ?_⟩
  · rw [h1 5 (by omega), gHC_congr c (fun r hr => h2 7 (by omega) r (by omega))]
    exact h5
  · have := hR r hr
    unfold IR at this ⊢
    rw [h1 0 (by omega), h2 0 (by omega) r (by omega), h2 1 (by omega) r (by omega), h2 2 (by omega) r (by omega), h2 3 (by omega) r (by omega), h2 4 (by omega) r (by omega), h2 5 (by omega) r (by omega), h2 7 (by omega) r (by omega)]
    exact this
theorem Inv_TO {T T2 : sOb} {c : Nat} {B : Int32} (h : Inv T2 c B) : Inv (gTO T T2) c B := Inv_congr h (fun _ hk => gTO_1 T T2 hk) (fun _ hk _ hr => gTO_2 T T2 hk hr)
theorem RF_TO {s : Nat → Int32} {T T2 : sOb} (h : RF s T2) : RF s (gTO T T2) := RF_congr h (fun _ hk => gTO_1 T T2 (by omega)) (fun _ hr _ hk => gTO_2 T T2 hk hr)
/-- the reference lays its row by -/
theorem q_laysBy (M : sOb) : ∃ M', fX5_laysBy M = some M' ∧ (∀ j, j < 77 → M'.2.1 2 j = M.2.1 0 j) ∧ (∀ k, k ≠ 2 → M'.2.1 k = M.2.1 k) ∧ M'.1 = M.1 ∧ M'.2.2 = M.2.2 := by
  have key : ∀ d i n : Nat, i + d = 77 → d < n → ∀ M1 : sOb, (∀ j, j < i → M1.2.1 2 j = M.2.1 0 j) → (∀ k, k ≠ 2 → M1.2.1 k = M.2.1 k) → M1.1 = M.1 → M1.2.2 = M.2.2 → ∃ M', fx2 bX5_laysBy_2 n (nI i) M1 = some M' ∧ (∀ j, j < 77 → M'.2.1 2 j = M.2.1 0 j) ∧ (∀ k, k ≠ 2 → M'.2.1 k = M.2.1 k) ∧ M'.1 = M.1 ∧ M'.2.2 = M.2.2 := by
    intro d
    induction d with
    | zero =>
      intro i n hi hn M1 h1 h2 h3 h4
      obtain ⟨m, rfl⟩ : ∃ m, n = m + 1 := ⟨n - 1, by omega⟩
      obtain rfl : i = 77 := by omega
      refine ⟨M1, ?_, h1, h2, h3, h4⟩
      show bX5_laysBy_2 _ _ _ = _
      unfold bX5_laysBy_2
      rw [if_pos (show (77 : Int32) ≤ nI 77 from Int32.le_refl _)]
    | succ d ih =>
      intro i n hi hn M1 h1 h2 h3 h4
      obtain ⟨m, rfl⟩ : ∃ m, n = m + 1 := ⟨n - 1, by omega⟩
      obtain ⟨M', a1, a2⟩ := ih (i + 1) m (by omega) (by omega) (sSa M1 2 i (M1.2.1 0 i)) (fun j hj => by
        rw [sSa_at]
        by_cases q : j = i
        · rw [if_pos ⟨rfl, q⟩, h2 0 (by decide), q]
        · rw [if_neg (fun z => q z.2)]
          exact h1 j (by omega)) (fun k hk => by rw [sSa_other hk]; exact h2 k hk) h3 h4
      refine ⟨M', ?_, a2⟩
      rw [nI_succ] at a1
      show bX5_laysBy_2 (fx2 bX5_laysBy_2 m) _ _ = _
      generalize fx2 bX5_laysBy_2 m = rc at a1 ⊢
      unfold bX5_laysBy_2
      rw [if_neg (show ¬ (77 : Int32) ≤ nI i from nI_ge (b := 77) (by omega) (by omega)), if_neg (ix_in (show i < 77 by omega) (by omega)), z_cl (by omega), nm_d, nm_d]
      exact a1
  exact key 77 0 FU (by omega) (by unfold FU; omega) M (fun j hj => absurd hj (Nat.not_lt_zero j)) (fun _ _ => rfl) rfl rfl
theorem q_laysBack (M : sOb) : ∃ M', fX5_laysBack M = some M' ∧ (∀ j, j < 77 → M'.2.1 0 j = M.2.1 2 j) ∧ (∀ k, k ≠ 0 → M'.2.1 k = M.2.1 k) ∧ M'.1 = M.1 ∧ M'.2.2 = M.2.2 := by
  have key : ∀ d i n : Nat, i + d = 77 → d < n → ∀ M1 : sOb, (∀ j, j < i → M1.2.1 0 j = M.2.1 2 j) → (∀ k, k ≠ 0 → M1.2.1 k = M.2.1 k) → M1.1 = M.1 → M1.2.2 = M.2.2 → ∃ M', fx2 bX5_laysBack_2 n (nI i) M1 = some M' ∧ (∀ j, j < 77 → M'.2.1 0 j = M.2.1 2 j) ∧ (∀ k, k ≠ 0 → M'.2.1 k = M.2.1 k) ∧ M'.1 = M.1 ∧ M'.2.2 = M.2.2 := by
    intro d
    induction d with
    | zero =>
      intro i n hi hn M1 h1 h2 h3 h4
      obtain ⟨m, rfl⟩ : ∃ m, n = m + 1 := ⟨n - 1, by omega⟩
      obtain rfl : i = 77 := by omega
      refine ⟨M1, ?_, h1, h2, h3, h4⟩
      show bX5_laysBack_2 _ _ _ = _
      unfold bX5_laysBack_2
      rw [if_pos (show (77 : Int32) ≤ nI 77 from Int32.le_refl _)]
    | succ d ih =>
      intro i n hi hn M1 h1 h2 h3 h4
      obtain ⟨m, rfl⟩ : ∃ m, n = m + 1 := ⟨n - 1, by omega⟩
      obtain ⟨M', a1, a2⟩ := ih (i + 1) m (by omega) (by omega) (sSa M1 0 i (M1.2.1 2 i)) (fun j hj => by
        rw [sSa_at]
        by_cases q : j = i
        · rw [if_pos ⟨rfl, q⟩, h2 2 (by decide), q]
        · rw [if_neg (fun z => q z.2)]
          exact h1 j (by omega)) (fun k hk => by rw [sSa_other hk]; exact h2 k hk) h3 h4
      refine ⟨M', ?_, a2⟩
      rw [nI_succ] at a1
      show bX5_laysBack_2 (fx2 bX5_laysBack_2 m) _ _ = _
      generalize fx2 bX5_laysBack_2 m = rc at a1 ⊢
      unfold bX5_laysBack_2
      rw [if_neg (show ¬ (77 : Int32) ≤ nI i from nI_ge (b := 77) (by omega) (by omega)), if_neg (ix_in (show i < 77 by omega) (by omega)), z_cl (by omega), nm_d, nm_d]
      exact a1
  exact key 77 0 FU (by omega) (by unfold FU; omega) M (fun j hj => absurd hj (Nat.not_lt_zero j)) (fun _ _ => rfl) rfl rfl
/-- what a trial leaves of the reference -/
def Fq (M M' : sOb) : Prop := M'.1 = M.1 ∧ (∀ k, k ≠ 0 → k ≠ 2 → k ≠ 7 → M'.2.1 k = M.2.1 k) ∧ M'.2.2 = M.2.2 ∧ ∀ j, j < 77 → M'.2.1 0 j = M.2.1 0 j
theorem Fq.rf (M : sOb) : Fq M M := ⟨rfl, fun _ _ _ _ => rfl, rfl, fun _ _ => rfl⟩
theorem Fq.tr {A B C : sOb} (h1 : Fq A B) (h2 : Fq B C) : Fq A C := ⟨h2.1.trans h1.1, fun k a b c => (h2.2.1 k a b c).trans (h1.2.1 k a b c), h2.2.2.1.trans h1.2.2.1, fun j hj => (h2.2.2.2 j hj).trans (h1.2.2.2 j hj)⟩
theorem Fq.RF {M M' T : sOb} (h : Fq M M') (hr : RF (M.2.1 0) T) : RF (M'.2.1 0) T := by
  obtain ⟨-, -, -, h⟩ := h
  obtain ⟨a0, a1, a2, a3, a4, a5⟩ := hr
  exact ⟨by rw [h 0 (by omega)]; exact a0, by rw [h 1 (by omega)]; exact a1, by rw [h 2 (by omega)]; exact a2, by rw [h 3 (by omega)]; exact a3, by rw [h 4 (by omega)]; exact a4, fun r hr k hk => by rw [h _ (by omega)]; exact a5 r hr k hk⟩
/-- lay by; what comes then is within Fm; lay back -/
theorem q_trial (M : sOb) : ∃ M1, fX5_laysBy M = some M1 ∧ M1.2.1 0 = M.2.1 0 ∧ (∀ j, j < 77 → M1.2.1 2 j = M.2.1 0 j) ∧ ∀ M2, Fm M1 M2 → ∃ M3, fX5_laysBack M2 = some M3 ∧ Fq M M3 := by
  obtain ⟨M1, a1, a2, a3, a4, a5⟩ := q_laysBy M
  refine ⟨M1, a1, a3 0 (by decide), a2, fun M2 hF => ?_⟩
  obtain ⟨M3, b1, b2, b3, b4, b5⟩ := q_laysBack M2
  refine ⟨M3, b1, b4.trans (hF.1.trans a4), fun k h0 h2 h7 => (b3 k h0).trans ((hF.2.1 k h0 h7).trans (a3 k h2)), b5.trans (hF.2.2.trans a5), fun j hj => ?_⟩
  rw [b2 j hj, hF.2.1 2 (by decide) (by decide)]
  exact a2 j hj
/-- the end of a race -/
def gRE (T : sOb) (c : Nat) : sOb := gIt c 2000 (gLn T c)
def gRa (T : sOb) (c : Nat) : Int32 := if gHC (gRE T c) c = c then gPz (gRE T c) c ((gRE T c).1 2) else -1
theorem p_race {T : sOb} {c : Nat} {B : Int32} (h : Inv T c B) : fX3_raceOwner T = some (gRa T c, gRE T c) := by
  have hl := Inv_ln h
  have hE := Inv_it 2000 0 hl (by omega)
  unfold fX3_raceOwner
  rw [p_lineUp h.1 h.2.1, b_some, show (2000 : Int32) = nI 2000 from rfl, p_goOnE 2000 (by omega) hl (by omega), b_some]
  have e : gIt c 2000 (gLn T c) = gRE T c := rfl
  rw [e] at hE ⊢
  rw [p_allHome hE, b_some]
  unfold gRa
  by_cases q : gHC (gRE T c) c = c
  · rw [if_pos q, if_pos q, if_neg (by decide), p_prize hE.1 hE.2.1]
    rfl
  · rw [if_neg q, if_neg q, if_pos rfl]
theorem q_race {M T : sOb} {c : Nat} {B : Int32} (h : Inv T c B) (hr : RF (M.2.1 0) T) : ∃ M', fX5_races M = some (gRa T c, M') ∧ Fm M M' := by
  have hl := Inv_ln h
  have hE := Inv_it 2000 0 hl (by omega)
  obtain ⟨M1, a1, a2, a3⟩ := q_lines hr h.1 h.2.1
  obtain ⟨M2, b1, b2, b3⟩ := q_goesToEnd hl (by omega) a2
  refine ⟨M2, ?_, a3.tr b3⟩
  have e : gIt c 2000 (gLn T c) = gRE T c := rfl
  rw [e] at hE b1 b2
  unfold fX5_races
  rw [a1, b_some, b1, b_some]
  unfold gRa
  by_cases q : gHC (gRE T c) c = c
  · rw [if_pos q, if_pos q]
    dsimp only
    rw [if_neg (show ¬ (1 : Int32) = 0 by decide), cl_3, b2.2.2.2.1, q_prize b2 hE.1 hE.2.1]
    rfl
  · rw [if_neg q, if_neg q]
    dsimp only
    rw [if_pos rfl]
