/-! PURE: the track: what each method of Track gives, as functions of the track -/
def gHC (T : sOb) : Nat → Nat
  | 0 => 0
  | n + 1 => gHC T n + (if T.2.1 7 n < 0 then 0 else 1)
theorem gHC_le (T : sOb) : ∀ n, gHC T n ≤ n
  | 0 => Nat.le_refl 0
  | n + 1 => by
    have := gHC_le T n
    unfold gHC
    split <;> omega
theorem gHC_lt {T : sOb} : ∀ {n r : Nat}, r < n → T.2.1 7 r < 0 → gHC T n < n
  | 0, _, h, _ => absurd h (Nat.not_lt_zero _)
  | n + 1, r, h, hh => by
    have h1 := gHC_le T n
    unfold gHC
    by_cases hr : r = n
    · subst hr
      rw [if_pos hh]
      omega
    · have := gHC_lt (n := n) (r := r) (by omega) hh
      split <;> omega
theorem gHC_all {T : sOb} : ∀ {n : Nat}, gHC T n = n → ∀ r, r < n → ¬ T.2.1 7 r < 0 := by
  intro n h r hr hh
  have := gHC_lt hr hh
  omega
def IR (T : sOb) (c r : Nat) : Prop := (0 ≤ T.2.1 0 r ∧ T.2.1 0 r ≤ 5) ∧ (1 ≤ T.2.1 1 r ∧ T.2.1 1 r ≤ 12) ∧ (0 ≤ T.2.1 2 r ∧ T.2.1 2 r ≤ 999) ∧ (-1 ≤ T.2.1 3 r ∧ T.2.1 3 r < nI c) ∧ (0 ≤ T.2.1 4 r ∧ T.2.1 4 r < T.1 0) ∧ (0 ≤ T.2.1 5 r ∧ T.2.1 5 r ≤ 10100) ∧ (T.2.1 7 r < 0 → T.2.1 5 r < T.1 0)
/-- what holds of a track with c runners; its second is at most B -/
def Inv (T : sOb) (c : Nat) (B : Int32) : Prop := c ≤ 9 ∧ T.1 4 = nI c ∧ (10 ≤ T.1 0 ∧ T.1 0 ≤ 9999) ∧ (0 ≤ T.1 1 ∧ T.1 1 ≤ 5) ∧ (0 ≤ T.1 2 ∧ T.1 2 ≤ 3) ∧ (0 ≤ T.1 3 ∧ T.1 3 ≤ B) ∧ T.1 5 = nI (gHC T c) ∧ ∀ r : Nat, r < c → IR T c r
theorem p_has {T : sOb} {c : Nat} (hc : c ≤ 9) (h4 : T.1 4 = nI c) (a : Int32) : fX3_has T a = some (if 0 ≤ a ∧ a < nI c then 1 else 0) := by
  have := nI_9 hc
  unfold fX3_has
  grind
theorem p_has1 {T : sOb} {c r : Nat} (hc : c ≤ 9) (h4 : T.1 4 = nI c) (hr : r < c) : fX3_has T (nI r) = some 1 := by
  rw [p_has hc h4, if_pos ⟨nI_pos' (by omega), nI_lt hr (by omega)⟩]
/-- who is first alone, and its yards -/
def gFA (T : sOb) : Nat → Int32 × Int32
  | 0 => (-1, -1)
  | n + 1 => if T.2.1 7 n < 0 then (if T.2.1 5 n ≤ (gFA T n).2 then (if T.2.1 5 n = (gFA T n).2 then (-1, (gFA T n).2) else gFA T n) else (nI n, T.2.1 5 n)) else gFA T n
theorem gFA_s (T : sOb) (n : Nat) : gFA T (n + 1) = if T.2.1 7 n < 0 then (if T.2.1 5 n ≤ (gFA T n).2 then (if T.2.1 5 n = (gFA T n).2 then (-1, (gFA T n).2) else gFA T n) else (nI n, T.2.1 5 n)) else gFA T n := rfl
theorem p_FA {T : sOb} {c : Nat} (hc : c ≤ 9) (h4 : T.1 4 = nI c) : fX3_firstAlone T = some (gFA T c).1 := by
  have key : ∀ d i n : Nat, i + d = c → d < n → fx3 (bX3_firstAlone_6 T) n (gFA T i).1 (gFA T i).2 (nI i) = some (gFA T c).1 := by
    intro d
    induction d with
    | zero =>
      intro i n hi hn
      obtain ⟨m, rfl⟩ : ∃ m, n = m + 1 := ⟨n - 1, by omega⟩
      obtain rfl : i = c := by omega
      show bX3_firstAlone_6 T _ _ _ _ = _
      unfold bX3_firstAlone_6
      rw [h4, if_pos (Int32.le_refl _)]
    | succ d ih =>
      intro i n hi hn
      obtain ⟨m, rfl⟩ : ∃ m, n = m + 1 := ⟨n - 1, by omega⟩
      have IH := ih (i + 1) m (by omega) (by omega)
      rw [nI_succ, gFA_s] at IH
      show bX3_firstAlone_6 T (fx3 (bX3_firstAlone_6 T) m) _ _ _ = _
      generalize fx3 (bX3_firstAlone_6 T) m = rc at IH ⊢
      unfold bX3_firstAlone_6
      rw [h4, if_neg (nI_ge (by omega) (by omega)), if_neg (ix_in (by omega) (by omega)), z_cl (by omega)]
      simp only [nm_d]
      by_cases e1 : T.2.1 7 i < 0
      · rw [if_pos e1] at IH ⊢
        by_cases e2 : T.2.1 5 i ≤ (gFA T i).2
        · rw [if_pos e2] at IH ⊢
          by_cases e3 : T.2.1 5 i = (gFA T i).2
          · rw [if_pos e3] at IH ⊢
            exact IH
          · rw [if_neg e3] at IH ⊢
            exact IH
        · rw [if_neg e2] at IH ⊢
          exact IH
      · rw [if_neg e1] at IH ⊢
        exact IH
  exact key c 0 FU (by omega) (by unfold FU; omega)
def gHold (T : sOb) (r : Nat) (f : Int32) : Int32 := if nI r = f then (if (4 : Int32) * T.2.1 5 r < (3 : Int32) * T.1 0 then T.2.1 1 r else T.1 1) else T.2.1 1 r
theorem p_hold {T : sOb} {r : Nat} (hr : r < 9) (f : Int32) : fX3_holderWish T (nI r) f = some (gHold T r f) := by
  unfold fX3_holderWish gHold
  simp only [if_neg (ix_n hr (show 9 < 2147483648 by omega)), z_cl (show r < 2147483648 by omega)]
  by_cases h1 : nI r = f
  · rw [if_pos h1, if_pos h1]
    by_cases h2 : (4 : Int32) * T.2.1 5 r < (3 : Int32) * T.1 0
    · rw [if_pos h2, if_pos h2]
    · rw [if_neg h2, if_neg h2]
  · rw [if_neg h1, if_neg h1]
def gMin (T : sOb) (r j : Nat) : Int32 := if (T.2.1 5 j - T.2.1 5 r) < T.2.1 1 r then T.2.1 5 j - T.2.1 5 r else T.2.1 1 r
def gKeep (T : sOb) (r : Nat) : Int32 := if T.2.1 3 r < 0 then T.2.1 1 r else if T.2.1 7 (T.2.1 3 r).toNatClampNeg < 0 then (if (1 : Int32) < gMin T r (T.2.1 3 r).toNatClampNeg then gMin T r (T.2.1 3 r).toNatClampNeg else 1) else T.2.1 1 r
theorem p_keep {T : sOb} {c r : Nat} (hc : c ≤ 9) (h4 : T.1 4 = nI c) (hr : r < c) (hf : -1 ≤ T.2.1 3 r ∧ T.2.1 3 r < nI c) : fX3_keeperWish T (nI r) = some (gKeep T r) := by
  unfold fX3_keeperWish gKeep
  rw [if_neg (ix_in (show r < 9 by omega) (by omega)), z_cl (by omega), nm_d, p_has hc h4, b_some]
  by_cases h1 : T.2.1 3 r < 0
  · grind
  · obtain ⟨j, j1, j2⟩ := nI_ex (show c < 2147483648 by omega) (show 0 ≤ T.2.1 3 r by grind) hf.2
    have hb := ix_in (show j < 9 by omega) (show 9 < 2147483648 by omega)
    have hcl := z_cl (show j < 2147483648 by omega)
    unfold gMin
    grind
def gSpr (T : sOb) (r : Nat) (f : Int32) : Int32 := if T.2.1 5 r < T.1 0 - (40 : Int32) then gHold T r f else if nI r = f ∧ T.1 5 = 0 then gHold T r f else (2 : Int32) * gHold T r f
theorem p_spr {T : sOb} {r : Nat} (hr : r < 9) (f : Int32) : fX3_sprinterWish T (nI r) f = some (gSpr T r f) := by
  unfold fX3_sprinterWish gSpr
  simp only [nm_d, p_hold hr, b_some, if_neg (ix_n hr (show 9 < 2147483648 by omega)), z_cl (show r < 2147483648 by omega)]
  by_cases h1 : nI r = f
  · rw [if_pos h1]
    by_cases h2 : T.1 5 = 0
    · rw [if_pos h2]
      by_cases h3 : T.2.1 5 r < T.1 0 - (40 : Int32)
      · rw [if_pos h3, if_pos h3]
      · rw [if_neg h3, if_neg h3, if_neg (by decide), if_pos ⟨h1, h2⟩]
    · rw [if_neg h2]
      by_cases h3 : T.2.1 5 r < T.1 0 - (40 : Int32)
      · rw [if_pos h3, if_pos h3]
      · rw [if_neg h3, if_neg h3, if_pos trivial, if_neg (fun q => h2 q.2)]
  · rw [if_neg h1]
    by_cases h3 : T.2.1 5 r < T.1 0 - (40 : Int32)
    · rw [if_pos h3, if_pos h3]
    · rw [if_neg h3, if_neg h3, if_pos trivial, if_neg (fun q => h1 q.1)]
def gWish (T : sOb) (r : Nat) (f : Int32) : Int32 := if T.2.1 0 r = 1 then gHold T r f else if T.2.1 0 r = 2 then gKeep T r else if T.2.1 0 r = 3 then (if T.2.1 3 r < 0 then gKeep T r else if T.2.1 7 (T.2.1 3 r).toNatClampNeg < 0 then gKeep T r else T.1 1) else if T.2.1 0 r = 4 then gSpr T r f else if T.2.1 0 r = 5 then (if T.1 1 + (2 : Int32) < gHold T r f then T.1 1 + (2 : Int32) else gHold T r f) else T.2.1 1 r
theorem p_isHome {T : sOb} {c : Nat} (hc : c ≤ 9) (h4 : T.1 4 = nI c) (a : Int32) (ha : a < nI c) : fX3_isHome T a = some (if a < 0 then 0 else if T.2.1 7 a.toNatClampNeg < 0 then 0 else 1) := by
  unfold fX3_isHome
  rw [p_has hc h4, b_some]
  by_cases h1 : a < 0
  · grind
  · obtain ⟨j, j1, rfl⟩ := nI_ex (show c < 2147483648 by omega) (show 0 ≤ a by grind) ha
    have hb := ix_in (show j < 9 by omega) (show 9 < 2147483648 by omega)
    have hcl := z_cl (show j < 2147483648 by omega)
    grind
theorem p_wish {T : sOb} {c r : Nat} (hc : c ≤ 9) (h4 : T.1 4 = nI c) (hr : r < c) (hf : -1 ≤ T.2.1 3 r ∧ T.2.1 3 r < nI c) (f : Int32) : fX3_wishOf T (nI r) f = some (gWish T r f) := by
  unfold fX3_wishOf gWish
  rw [p_has1 hc h4 hr, b_some, if_neg (by decide), if_neg (ix_in (show r < 9 by omega) (by omega)), z_cl (by omega)]
  simp only [p_hold (show r < 9 by omega), p_keep hc h4 hr hf, p_spr (show r < 9 by omega), p_isHome hc h4 _ hf.2, b_some]
  grind
