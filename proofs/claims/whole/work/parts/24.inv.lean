/-! PURE: what holds stays over a second -/
theorem gHold_b {T : sOb} {r : Nat} (hl : 0 ≤ T.1 1 ∧ T.1 1 ≤ 5) (hp : 1 ≤ T.2.1 1 r ∧ T.2.1 1 r ≤ 12) (f : Int32) : 0 ≤ gHold T r f ∧ gHold T r f ≤ 12 := by
  unfold gHold
  split
  · split <;> grind
  · grind
theorem gKeep_b {T : sOb} {r : Nat} (hp : 1 ≤ T.2.1 1 r ∧ T.2.1 1 r ≤ 12) : 0 ≤ gKeep T r ∧ gKeep T r ≤ 12 := by
  unfold gKeep
  have hm2 : gMin T r (T.2.1 3 r).toNatClampNeg ≤ T.2.1 1 r := by
    unfold gMin
    grind
  generalize gMin T r (T.2.1 3 r).toNatClampNeg = g at hm2 ⊢
  split
  · grind
  · split
    · grind
    · grind
theorem z_dbl {g : Int32} (h : 0 ≤ g ∧ g ≤ 12) : 0 ≤ (2 : Int32) * g ∧ (2 : Int32) * g ≤ 24 := by grind
theorem z_24 {g : Int32} (h : 0 ≤ g ∧ g ≤ 12) : 0 ≤ g ∧ g ≤ 24 := by grind
theorem gSpr_b {T : sOb} {r : Nat} (hl : 0 ≤ T.1 1 ∧ T.1 1 ≤ 5) (hp : 1 ≤ T.2.1 1 r ∧ T.2.1 1 r ≤ 12) (f : Int32) : 0 ≤ gSpr T r f ∧ gSpr T r f ≤ 24 := by
  have h := gHold_b hl hp f
  unfold gSpr
  generalize gHold T r f = g at h ⊢
  split
  · exact z_24 h
  · split
    · exact z_24 h
    · exact z_dbl h
theorem gWish_b {T : sOb} {c r : Nat} {B : Int32} (h : Inv T c B) (hr : r < c) (f : Int32) : 0 ≤ gWish T r f ∧ gWish T r f ≤ 24 := by
  obtain ⟨-, -, hL, hl, -, -, -, hR⟩ := h
  obtain ⟨-, hp, -, -, -, -, -⟩ := hR r hr
  have h1 := gHold_b hl hp f
  have h2 := gKeep_b (T := T) (r := r) hp
  have h3 := gSpr_b hl hp f
  unfold gWish
  generalize gHold T r f = g at h1 ⊢
  generalize gKeep T r = g2 at h2 ⊢
  generalize gSpr T r f = g3 at h3 ⊢
  generalize T.2.1 0 r = kd
  generalize T.2.1 1 r = pa at hp ⊢
  generalize T.1 1 = le at hl ⊢
  split
  · grind
  split
  · grind
  split
  · split
    · grind
    · split <;> grind
  split
  · grind
  split
  · grind
  · grind
theorem gW_b {T : sOb} {c r : Nat} {B : Int32} (h : Inv T c B) (hr : r < c) : 0 ≤ gW T c r ∧ gW T c r ≤ 24 := by
  have h1 := gWish_b h hr (gFA T c).1
  obtain ⟨-, -, hL, hl, -, -, -, -⟩ := h
  unfold gW
  grind
theorem gSt_b {T : sOb} {c r : Nat} {B : Int32} (h : Inv T c B) (hr : r < c) : 0 ≤ gSt T c r ∧ gSt T c r ≤ 24 := by
  have h1 := gW_b h hr
  obtain ⟨-, -, hL, hl, -, -, -, -⟩ := h
  unfold gSt
  grind
theorem gBr_b {T : sOb} {c r : Nat} {B : Int32} (h : Inv T c B) (hr : r < c) : 0 ≤ gBr T c r ∧ gBr T c r ≤ 999 := by
  have h1 := gW_b h hr
  obtain ⟨-, -, hL, hl, -, -, -, hR⟩ := h
  obtain ⟨-, -, hb, -, -, -, -⟩ := hR r hr
  unfold gBr
  generalize gW T c r = w at h1 ⊢
  generalize T.2.1 2 r = b at hb ⊢
  grind
theorem gStep_2 (T : sOb) (c k r : Nat) : (gStep T c).2.1 k r = if r < c then nv T c k r else T.2.1 k r := by
  unfold gStep gL2
  grind
theorem gStep_1 (T : sOb) (c k : Nat) : (gStep T c).1 k = if k = 3 then T.1 3 + 1 else if k = 5 then T.1 5 + nI (nw T c c) else T.1 k := rfl
theorem gHC_step {T : sOb} {c : Nat} {B : Int32} (h : Inv T c B) (hB : B < 2000000000) : ∀ n, n ≤ c → gHC (gStep T c) n = gHC T n + nw T c n
  | 0, _ => rfl
  | n + 1, hn => by
    have IH := gHC_step h hB n (by omega)
    obtain ⟨-, -, -, -, -, hs, -, -⟩ := h
    show gHC (gStep T c) n + (if (gStep T c).2.1 7 n < 0 then 0 else 1) = gHC T n + (if T.2.1 7 n < 0 then 0 else 1) + (nw T c n + (if T.2.1 7 n < 0 then (if T.2.1 5 n + gSt T c n < T.1 0 then 0 else 1) else 0))
    rw [IH, gStep_2, if_pos (show n < c by omega)]
    have h3 : ¬ (T.1 3 + 1 < 0) := by grind
    unfold nv
    by_cases h7 : T.2.1 7 n < 0
    · by_cases h5 : T.2.1 5 n + gSt T c n < T.1 0
      · simp only [if_pos h7, if_pos h5]
        simp [h7]
      · simp only [if_pos h7, if_neg h5]
        simp [h3]
        omega
    · simp only [if_neg h7]
      simp [h7]
      omega
theorem Inv_step {T : sOb} {c : Nat} {B : Int32} (h : Inv T c B) (hB : B < 2000000000) : Inv (gStep T c) c (B + 1) := by
  have hH := gHC_step h hB c (Nat.le_refl c)
  have hS : ∀ r, r < c → 0 ≤ gSt T c r ∧ gSt T c r ≤ 24 := fun r hr => gSt_b h hr
  have hBr : ∀ r, r < c → 0 ≤ gBr T c r ∧ gBr T c r ≤ 999 := fun r hr => gBr_b h hr
  obtain ⟨h0, h4, hL, hl, hw, hs, h5, hR⟩ := h
  refine ⟨h0, h4, hL, hl, hw, ?_, ?_, fun r hr => ?_⟩
  · rw [gStep_1, if_pos rfl]
    grind
  · rw [gStep_1, if_neg (by decide), if_pos rfl, hH, h5, nI_add]
  · obtain ⟨r0, r1, r2, r3, r4, r5, r7⟩ := hR r hr
    have b1 := hS r hr
    have b2 := hBr r hr
    have g0 : (gStep T c).1 0 = T.1 0 := rfl
    have v0 : (gStep T c).2.1 0 r = T.2.1 0 r := by rw [gStep_2, if_pos hr]; unfold nv; split <;> rfl
    have v1 : (gStep T c).2.1 1 r = T.2.1 1 r := by rw [gStep_2, if_pos hr]; unfold nv; split <;> rfl
    have v3 : (gStep T c).2.1 3 r = T.2.1 3 r := by rw [gStep_2, if_pos hr]; unfold nv; split <;> rfl
    have v4 : (gStep T c).2.1 4 r = T.2.1 4 r := by rw [gStep_2, if_pos hr]; unfold nv; split <;> rfl
    have v2 : (gStep T c).2.1 2 r = if T.2.1 7 r < 0 then gBr T c r else T.2.1 2 r := by rw [gStep_2, if_pos hr]; unfold nv; split <;> rfl
    have v5 : (gStep T c).2.1 5 r = if T.2.1 7 r < 0 then T.2.1 5 r + gSt T c r else T.2.1 5 r := by rw [gStep_2, if_pos hr]; unfold nv; split <;> rfl
    have v7 : (gStep T c).2.1 7 r = if T.2.1 7 r < 0 then (if T.2.1 5 r + gSt T c r < T.1 0 then T.2.1 7 r else T.1 3 + 1) else T.2.1 7 r := by rw [gStep_2, if_pos hr]; unfold nv; split <;> rfl
    unfold IR
    rw [g0, v0, v1, v2, v3, v4, v5, v7]
    refine ⟨r0, r1, ?_, r3, r4, ?_, ?_⟩
    · split
      · exact b2
      · exact r2
    · generalize gSt T c r = g at b1 ⊢
      generalize T.2.1 5 r = y at r5 r7 ⊢
      generalize T.1 0 = le at hL r7 ⊢
      split
      · rename_i q
        have := r7 q
        grind
      · exact r5
    · generalize gSt T c r = g at b1 ⊢
      generalize T.2.1 5 r = y at r5 r7 ⊢
      generalize T.1 0 = le at hL r7 ⊢
      generalize T.1 3 = se at hs ⊢
      by_cases q : T.2.1 7 r < 0
      · rw [if_pos q, if_pos q]
        by_cases q2 : y + g < le
        · intro _
          exact q2
        · rw [if_neg q2]
          intro q3
          grind
      · rw [if_neg q, if_neg q]
        intro q3
        exact absurd q3 q
