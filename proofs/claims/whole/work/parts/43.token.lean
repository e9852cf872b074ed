/-! PURE: the tape: bytes and tokens -/
def Tp (T M : sOb) (z : Nat) : Prop := z ≤ 120 ∧ T.1 0 = nI z ∧ M.1 1 = nI z ∧ ∀ i, i < z → M.2.1 4 i = T.2.1 0 i &&& 255
def gBy (M : sOb) (z i : Nat) : Int32 := if i < z then M.2.1 4 i else -1
theorem p_byte {T M : sOb} {z i : Nat} (h : Tp T M z) (hi : i < 2147483648) : fX2_byteAt T (nI i) = some (gBy M z i) := by
  obtain ⟨h1, h2, h3, h4⟩ := h
  unfold fX2_byteAt gBy
  rw [if_neg (nI_pos hi), h2]
  by_cases q : i < z
  · rw [if_neg (nI_ge q (by omega)), if_neg (show ¬ (120 : Int32) ≤ nI i from nI_ge (b := 120) (by omega) (by omega)), if_neg (ix_in (show i < 120 by omega) (by omega)), z_cl hi, if_pos q, h4 i q]
  · rw [if_pos (nI_le (by omega) hi), if_neg q]
theorem q_byte {T M : sOb} {z i : Nat} (h : Tp T M z) (hi : i < 2147483648) : fX5_byteAt M (nI i) = some (gBy M z i) := by
  obtain ⟨h1, h2, h3, h4⟩ := h
  unfold fX5_byteAt gBy
  rw [h3]
  by_cases q : i < z
  · rw [if_neg (nI_ge q (by omega)), if_neg (ix_in (show i < 120 by omega) (by omega)), z_cl hi, if_pos q]
  · rw [if_pos (nI_le (by omega) hi), if_neg q]
theorem gBy_z (M : sOb) (z : Nat) : gBy M z z = -1 := if_neg (Nat.lt_irrefl z)
/-- the kind of token that a byte begins -/
def gKd (a : Int32) : Int32 := if 0 ≤ a then (if 97 ≤ a ∧ a ≤ 122 then 1 else if 48 ≤ a ∧ a ≤ 57 then 2 else if a = 59 then 3 else 4) else 0
theorem p_tk (a : Int32) : fX2_tokenBegunBy a = some (gKd a) := by
  unfold fX2_tokenBegunBy gKd
  simp only [nm_x]
  grind
theorem q_letter (a : Int32) : fX5_isLetter a = some (if gKd a = 1 then 1 else 0) := by
  unfold fX5_isLetter gKd
  grind
theorem q_digit (a : Int32) : fX5_isDigit a = some (if gKd a = 2 then 1 else 0) := by
  unfold fX5_isDigit gKd
  grind
theorem gKd_m1 : gKd (-1) = 0 := by decide
theorem gKd_v (a : Int32) : gKd a = 0 ∨ gKd a = 1 ∨ gKd a = 2 ∨ gKd a = 3 ∨ gKd a = 4 := by
  unfold gKd
  grind
/-- where the blanks end; where the run of a kind ends -/
def gSp (f : Nat → Int32) : Nat → Nat → Nat
  | 0, i => i
  | d + 1, i => if f i = 32 then gSp f d (i + 1) else i
def gRn (f : Nat → Int32) (k : Int32) : Nat → Nat → Nat
  | 0, i => i
  | d + 1, i => if gKd (f i) = k then gRn f k d (i + 1) else i
theorem gSp_s (f : Nat → Int32) (d i : Nat) : gSp f (d + 1) i = if f i = 32 then gSp f d (i + 1) else i := rfl
theorem gRn_s (f : Nat → Int32) (k : Int32) (d i : Nat) : gRn f k (d + 1) i = if gKd (f i) = k then gRn f k d (i + 1) else i := rfl
theorem gSp_r (f : Nat → Int32) : ∀ d i, i ≤ gSp f d i ∧ gSp f d i ≤ i + d
  | 0, i => ⟨Nat.le_refl i, Nat.le_refl i⟩
  | d + 1, i => by
    rw [gSp_s]
    have := gSp_r f d (i + 1)
    split
    · omega
    · omega
theorem gRn_r (f : Nat → Int32) (k : Int32) : ∀ d i, i ≤ gRn f k d i ∧ gRn f k d i ≤ i + d
  | 0, i => ⟨Nat.le_refl i, Nat.le_refl i⟩
  | d + 1, i => by
    rw [gRn_s]
    have := gRn_r f k d (i + 1)
    split
    · omega
    · omega
/-- a number of four places, or one more -/
def gNu (f : Nat → Int32) : Nat → Nat → Int32 → Int32
  | 0, _, x => x
  | d + 1, i, x => gNu f d (i + 1) (if x ≤ 9999 then 10 * x + f i - 48 else x)
theorem gNu_s (f : Nat → Int32) (d i : Nat) (x : Int32) : gNu f (d + 1) i x = gNu f d (i + 1) (if x ≤ 9999 then 10 * x + f i - 48 else x) := rfl
theorem gNu_big (f : Nat → Int32) : ∀ d i (x : Int32), ¬ x ≤ 9999 → gNu f d i x = x
  | 0, _, _, _ => rfl
  | d + 1, i, x, h => by rw [gNu_s, if_neg h, gNu_big f d (i + 1) x h]
theorem sSs_n {T : sOb} {k j : Nat} {v : Int32} (h : j ≠ k) : (sSs T k v).1 j = T.1 j := upd_n h
theorem sSs_v (T : sOb) (k : Nat) (v : Int32) : (sSs T k v).1 k = v := upd_s _ _ _
theorem Tp.congr {T T' M M' : sOb} {z : Nat} (h : Tp T M z) (h1 : T'.1 0 = T.1 0) (h2 : T'.2 = T.2) (h3 : M'.1 1 = M.1 1) (h4 : M'.2.1 4 = M.2.1 4) : Tp T' M' z := by
  unfold Tp
  rw [h1, h2, h3, h4]
  exact h
theorem gBy_congr {M M' : sOb} {z : Nat} (h : M'.2.1 4 = M.2.1 4) (i : Nat) : gBy M' z i = gBy M z i := by
  unfold gBy
  rw [h]
theorem p_blanks {M : sOb} {z : Nat} (k : sOb → Option sOb) : ∀ d i m : Nat, i + d = z → d < m → ∀ T : sOb, Tp T M z → T.1 2 = nI i → ∃ T', fx1 (bX2_next_8 k) m T = k T' ∧ T'.1 2 = nI (gSp (gBy M z) d i) ∧ (∀ j, j ≠ 2 → T'.1 j = T.1 j) ∧ T'.2 = T.2 := by
  intro d
  induction d with
  | zero =>
    intro i m hi hm T h h2
    obtain ⟨f, rfl⟩ : ∃ f, m = f + 1 := ⟨m - 1, by omega⟩
    obtain rfl : i = z := by omega
    refine ⟨T, ?_, h2, fun _ _ => rfl, rfl⟩
    show bX2_next_8 _ _ _ = _
    unfold bX2_next_8
    rw [h.2.1, h2, if_pos (Int32.le_refl _)]
  | succ d ih =>
    intro i m hi hm T h h2
    have hz := h.1
    obtain ⟨f, rfl⟩ : ∃ f, m = f + 1 := ⟨m - 1, by omega⟩
    obtain ⟨T', a1, a2, a3, a4⟩ := ih (i + 1) f (by omega) (by omega) (sSs T 2 (nI i + 1)) (h.congr (sSs_n (by decide)) rfl rfl rfl) (by rw [sSs_v, nI_succ])
    show ∃ T', bX2_next_8 _ (fx1 (bX2_next_8 k) f) _ = _ ∧ _
    generalize fx1 (bX2_next_8 k) f = rc at a1 ⊢
    unfold bX2_next_8
    rw [h.2.1, h2, if_neg (nI_ge (by omega) (by omega)), p_byte h (by omega), b_some, nm_d, gSp_s]
    by_cases q : gBy M z i = 32
    · rw [if_pos q, if_pos q]
      exact ⟨T', a1, a2, fun j hj => (a3 j hj).trans (sSs_n hj), a4⟩
    · rw [if_neg q, if_neg q]
      exact ⟨T, rfl, h2, fun _ _ => rfl, rfl⟩
theorem q_blanks {T : sOb} {z : Nat} {g : Nat → Int32} (k : sOb → Option sOb) : ∀ d i m : Nat, i + d = z → d < m → ∀ M : sOb, Tp T M z → (∀ i, gBy M z i = g i) → M.1 3 = nI i → ∃ M', fx1 (bX5_nextToken_8 k) m M = k M' ∧ M'.1 3 = nI (gSp g d i) ∧ (∀ j, j ≠ 3 → M'.1 j = M.1 j) ∧ M'.2 = M.2 := by
  intro d
  induction d with
  | zero =>
    intro i m hi hm M h hg h2
    have hz := h.1
    obtain ⟨f, rfl⟩ : ∃ f, m = f + 1 := ⟨m - 1, by omega⟩
    obtain rfl : i = z := by omega
    refine ⟨M, ?_, h2, fun _ _ => rfl, rfl⟩
    show bX5_nextToken_8 _ _ _ = _
    unfold bX5_nextToken_8
    rw [h2, q_byte h (by omega), b_some, gBy_z, if_neg (by decide)]
  | succ d ih =>
    intro i m hi hm M h hg h2
    have hz := h.1
    obtain ⟨f, rfl⟩ : ∃ f, m = f + 1 := ⟨m - 1, by omega⟩
    obtain ⟨M', a1, a2, a3, a4⟩ := ih (i + 1) f (by omega) (by omega) (sSs M 3 (nI i + 1)) (h.congr rfl rfl (sSs_n (by decide)) rfl) hg (by rw [sSs_v, nI_succ])
    show ∃ M', bX5_nextToken_8 _ (fx1 (bX5_nextToken_8 k) f) _ = _ ∧ _
    generalize fx1 (bX5_nextToken_8 k) f = rc at a1 ⊢
    unfold bX5_nextToken_8
    rw [h2, q_byte h (by omega), b_some, nm_d, gSp_s, hg]
    by_cases q : g i = 32
    · rw [if_pos q, if_pos q]
      exact ⟨M', a1, a2, fun j hj => (a3 j hj).trans (sSs_n hj), a4⟩
    · rw [if_neg q, if_neg q]
      exact ⟨M, rfl, h2, fun _ _ => rfl, rfl⟩
theorem p_run {M : sOb} {z : Nat} {k : Int32} : ∀ d i m : Nat, i + d = z → d < m → ∀ T : sOb, Tp T M z → T.1 1 = k → T.1 3 = nI i → ∃ T', fx1 bX2_next_86 m T = some T' ∧ T'.1 3 = nI (gRn (gBy M z) k d i) ∧ (∀ j, j ≠ 3 → T'.1 j = T.1 j) ∧ T'.2 = T.2 := by
  intro d
  induction d with
  | zero =>
    intro i m hi hm T h hk h2
    obtain ⟨f, rfl⟩ : ∃ f, m = f + 1 := ⟨m - 1, by omega⟩
    obtain rfl : i = z := by omega
    refine ⟨T, ?_, h2, fun _ _ => rfl, rfl⟩
    show bX2_next_86 _ _ = _
    unfold bX2_next_86
    rw [h.2.1, h2, if_pos (Int32.le_refl _)]
  | succ d ih =>
    intro i m hi hm T h hk h2
    have hz := h.1
    obtain ⟨f, rfl⟩ : ∃ f, m = f + 1 := ⟨m - 1, by omega⟩
    obtain ⟨T', a1, a2, a3, a4⟩ := ih (i + 1) f (by omega) (by omega) (sSs T 3 (nI i + 1)) (h.congr (sSs_n (by decide)) rfl rfl rfl) (by rw [sSs_n (by decide), hk]) (by rw [sSs_v, nI_succ])
    show ∃ T', bX2_next_86 (fx1 bX2_next_86 f) _ = _ ∧ _
    generalize fx1 bX2_next_86 f = rc at a1 ⊢
    unfold bX2_next_86
    rw [h.2.1, h2, hk, if_neg (nI_ge (by omega) (by omega)), p_byte h (by omega), b_some, p_tk, b_some, nm_d, gRn_s]
    by_cases q : gKd (gBy M z i) = k
    · rw [if_pos q, if_pos q]
      exact ⟨T', a1, a2, fun j hj => (a3 j hj).trans (sSs_n hj), a4⟩
    · rw [if_neg q, if_neg q]
      exact ⟨T, rfl, h2, fun _ _ => rfl, rfl⟩
theorem q_letters {T : sOb} {z : Nat} {g : Nat → Int32} (k : sOb → Option sOb) : ∀ d i m : Nat, i + d = z → d < m → ∀ M : sOb, Tp T M z → (∀ i, gBy M z i = g i) → M.1 2 = 1 → M.1 4 = nI i → ∃ M', fx1 (bX5_nextToken_101 k) m M = k M' ∧ M'.1 4 = nI (gRn g 1 d i) ∧ (∀ j, j ≠ 4 → M'.1 j = M.1 j) ∧ M'.2 = M.2 := by
  intro d
  induction d with
  | zero =>
    intro i m hi hm M h hg hk h2
    have hz := h.1
    obtain ⟨f, rfl⟩ : ∃ f, m = f + 1 := ⟨m - 1, by omega⟩
    obtain rfl : i = z := by omega
    refine ⟨M, ?_, h2, fun _ _ => rfl, rfl⟩
    show bX5_nextToken_101 _ _ _ = _
    unfold bX5_nextToken_101
    rw [hk, if_pos rfl, h2, q_byte h (by omega), b_some, q_letter, b_some, bi, gBy_z, gKd_m1, if_neg (by decide)]
  | succ d ih =>
    intro i m hi hm M h hg hk h2
    have hz := h.1
    obtain ⟨f, rfl⟩ : ∃ f, m = f + 1 := ⟨m - 1, by omega⟩
    obtain ⟨M', a1, a2, a3, a4⟩ := ih (i + 1) f (by omega) (by omega) (sSs M 4 (nI i + 1)) (h.congr rfl rfl (sSs_n (by decide)) rfl) hg (by rw [sSs_n (by decide), hk]) (by rw [sSs_v, nI_succ])
    show ∃ M', bX5_nextToken_101 _ (fx1 (bX5_nextToken_101 k) f) _ = _ ∧ _
    generalize fx1 (bX5_nextToken_101 k) f = rc at a1 ⊢
    unfold bX5_nextToken_101
    rw [hk, if_pos rfl, h2, q_byte h (by omega), b_some, q_letter, b_some, bi, nm_d, gRn_s, hg]
    by_cases q : gKd (g i) = 1
    · rw [if_pos q, if_pos q]
      exact ⟨M', a1, a2, fun j hj => (a3 j hj).trans (sSs_n hj), a4⟩
    · rw [if_neg q, if_neg q]
      exact ⟨M, rfl, h2, fun _ _ => rfl, rfl⟩
theorem q_digits {T : sOb} {z : Nat} {g : Nat → Int32} (T0 : sOb) (k : sOb → Option sOb) : ∀ d i m : Nat, i + d = z → d < m → ∀ (M : sOb) (x : Int32), Tp T M z → (∀ i, gBy M z i = g i) → M.1 2 = 2 → M.1 4 = nI i → M.1 5 = x → ∃ M', fx1 (bX5_nextToken_136 T0 k) m M = k M' ∧ M'.1 4 = nI (gRn g 2 d i) ∧ M'.1 5 = gNu g (gRn g 2 d i - i) i x ∧ (∀ j, j ≠ 4 → j ≠ 5 → M'.1 j = M.1 j) ∧ M'.2 = M.2 := by
  intro d
  induction d with
  | zero =>
    intro i m hi hm M x h hg hk h2 h5
    have hz := h.1
    obtain ⟨f, rfl⟩ : ∃ f, m = f + 1 := ⟨m - 1, by omega⟩
    obtain rfl : i = z := by omega
    refine ⟨M, ?_, h2, ?_, fun _ _ _ => rfl, rfl⟩
    · show bX5_nextToken_136 _ _ _ _ = _
      unfold bX5_nextToken_136
      rw [hk, if_pos rfl, h2, q_byte h (by omega), b_some, q_digit, b_some, bi, gBy_z, gKd_m1, if_neg (by decide)]
    · rw [show gRn g 2 0 i = i from rfl, Nat.sub_self]
      exact h5
  | succ d ih =>
    intro i m hi hm M x h hg hk h2 h5
    have hz := h.1
    obtain ⟨f, rfl⟩ : ∃ f, m = f + 1 := ⟨m - 1, by omega⟩
    have IH : ∀ y, ∃ M', fx1 (bX5_nextToken_136 T0 k) f (sSs (sSs M 5 y) 4 (nI i + 1)) = k M' ∧ M'.1 4 = nI (gRn g 2 d (i + 1)) ∧ M'.1 5 = gNu g (gRn g 2 d (i + 1) - (i + 1)) (i + 1) y ∧ (∀ j, j ≠ 4 → j ≠ 5 → M'.1 j = M.1 j) ∧ M'.2 = M.2 := by
      intro y
      obtain ⟨M', a1, a2, a3, a4, a5⟩ := ih (i + 1) f (by omega) (by omega) (sSs (sSs M 5 y) 4 (nI i + 1)) y (h.congr rfl rfl (by rw [sSs_n (by decide), sSs_n (by decide)]) rfl) hg (by rw [sSs_n (by decide), sSs_n (by decide), hk]) (by rw [sSs_v, nI_succ]) (by rw [sSs_n (by decide), sSs_v])
      exact ⟨M', a1, a2, a3, fun j h4 h5 => (a4 j h4 h5).trans ((sSs_n h4).trans (sSs_n h5)), a5⟩
    show ∃ M', bX5_nextToken_136 _ _ (fx1 (bX5_nextToken_136 T0 k) f) _ = _ ∧ _
    generalize fx1 (bX5_nextToken_136 T0 k) f = rc at IH ⊢
    unfold bX5_nextToken_136
    simp only [nm_x]
    rw [hk, if_pos rfl, h2, q_byte h (by omega), b_some, b_some, q_digit, b_some, bi, gRn_s, hg, sSs_n (show 4 ≠ 5 by decide), sSs_n (show 4 ≠ 5 by decide), h2, h5]
    by_cases q : gKd (g i) = 2
    · have hr := gRn_r g 2 d (i + 1)
      rw [if_pos q, if_pos q, show gRn g 2 d (i + 1) - i = (gRn g 2 d (i + 1) - (i + 1)) + 1 by omega, gNu_s]
      by_cases q2 : x ≤ 9999
      · rw [if_pos q2, if_pos q2]
        exact IH _
      · rw [if_neg q2, if_neg q2]
        exact IH _
    · rw [if_neg q, if_neg q, Nat.sub_self]
      exact ⟨M, rfl, h2, h5, fun _ _ _ => rfl, rfl⟩
theorem p_number {T M : sOb} {z : Nat} (h : Tp T M z) (e : Nat) (he : e ≤ z) (h3 : T.1 3 = nI e) : ∀ d i m : Nat, i + d = e → d < m → ∀ x : Int32, fx2 (bX2_numberHere_7 T) m x (nI i) = some (gNu (gBy M z) d i x) := by
  intro d
  have hz := h.1
  induction d with
  | zero =>
    intro i m hi hm x
    obtain ⟨f, rfl⟩ : ∃ f, m = f + 1 := ⟨m - 1, by omega⟩
    obtain rfl : i = e := by omega
    show bX2_numberHere_7 _ _ _ _ = _
    unfold bX2_numberHere_7
    rw [h3, if_pos (Int32.le_refl _)]
    rfl
  | succ d ih =>
    intro i m hi hm x
    obtain ⟨f, rfl⟩ : ∃ f, m = f + 1 := ⟨m - 1, by omega⟩
    have IH := fun x => ih (i + 1) f (by omega) (by omega) x
    simp only [nI_succ] at IH
    show bX2_numberHere_7 _ (fx2 (bX2_numberHere_7 T) f) _ _ = _
    generalize fx2 (bX2_numberHere_7 T) f = rc at IH ⊢
    unfold bX2_numberHere_7
    rw [h3, if_neg (nI_ge (by omega) (by omega))]
    by_cases q : x ≤ 9999
    · rw [if_neg (Int32.not_lt.mpr q), p_byte h (by omega), b_some, nm_d, nm_d, IH, gNu_s, if_pos q]
    · rw [if_pos (Int32.not_le.mp q), gNu_big _ _ _ _ q]
