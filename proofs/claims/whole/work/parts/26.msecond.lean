/-! PURE: the reference's second -/
/-- what the reference's race leaves as it was: all but its row and what each ran -/
def Fm (M M' : sOb) : Prop := M'.1 = M.1 ∧ (∀ k, k ≠ 0 → k ≠ 7 → M'.2.1 k = M.2.1 k) ∧ M'.2.2 = M.2.2
theorem Fm.rf (M : sOb) : Fm M M := ⟨rfl, fun _ _ _ => rfl, rfl⟩
theorem Fm.tr {A B C : sOb} (h1 : Fm A B) (h2 : Fm B C) : Fm A C := ⟨h2.1.trans h1.1, fun k a b => (h2.2.1 k a b).trans (h1.2.1 k a b), h2.2.2.trans h1.2.2⟩
theorem Fm.a0 (M : sOb) (i : Nat) (v : Int32) : Fm M (sSa M 0 i v) := ⟨rfl, fun _ a _ => sSa_other a, rfl⟩
theorem Fm.a7 (M : sOb) (i : Nat) (v : Int32) : Fm M (sSa M 7 i v) := ⟨rfl, fun _ _ a => sSa_other a, rfl⟩
theorem RF_congr {s : Nat → Int32} {T T' : sOb} (h : RF s T) (h1 : ∀ k, k < 5 → T'.1 k = T.1 k) (h2 : ∀ r, r < 9 → ∀ k, k < 8 → T'.2.1 k r = T.2.1 k r) : RF s T' := by
  obtain ⟨a0, a1, a2, a3, a4, a5⟩ := h
  exact ⟨by rw [h1 4 (by omega)]; exact a0, by rw [h1 0 (by omega)]; exact a1, by rw [h1 1 (by omega)]; exact a2, by rw [h1 2 (by omega)]; exact a3, by rw [h1 3 (by omega)]; exact a4, fun r hr k hk => by rw [h2 r hr k hk]; exact a5 r hr k hk⟩
/-- the first loop: what each would run -/
theorem q_L1 {T : sOb} {c : Nat} {B : Int32} (hI : Inv T c B) (hm : Int32) (hh : 0 < hm ↔ ¬ T.1 5 = 0) (k : sOb → Option (Int32 × sOb)) : ∀ d i n : Nat, i + d = c → d < n → ∀ M : sOb, RF (M.2.1 0) T → (∀ r, r < i → M.2.1 7 r = if T.2.1 7 r < 0 then gW T c r else 0) → ∃ M', fx2 (bX5_goesOn_24 hm (gFA T c).1 k) n (nI i) M = k M' ∧ M'.2.1 0 = M.2.1 0 ∧ Fm M M' ∧ ∀ r, r < c → M'.2.1 7 r = if T.2.1 7 r < 0 then gW T c r else 0 := by
  obtain ⟨hc, h4, -, -, -, -, -, hR⟩ := hI
  intro d
  induction d with
  | zero =>
    intro i n hi hn M h hr
    obtain ⟨m, rfl⟩ : ∃ m, n = m + 1 := ⟨n - 1, by omega⟩
    obtain rfl : i = c := by omega
    refine ⟨M, ?_, rfl, Fm.rf M, hr⟩
    show bX5_goesOn_24 _ _ _ _ _ _ = _
    unfold bX5_goesOn_24
    rw [cl_0, h.1, h4, if_pos (Int32.le_refl _)]
  | succ d ih =>
    intro i n hi hn M h hr
    obtain ⟨m, rfl⟩ : ∃ m, n = m + 1 := ⟨n - 1, by omega⟩
    have hf := (hR i (by omega)).2.2.2.1
    have key : ∀ v : Int32, v = (if T.2.1 7 i < 0 then gW T c i else 0) → ∃ M', fx2 (bX5_goesOn_24 hm (gFA T c).1 k) m (nI i + 1) (sSa M 7 i v) = k M' ∧ M'.2.1 0 = M.2.1 0 ∧ Fm M M' ∧ ∀ r, r < c → M'.2.1 7 r = if T.2.1 7 r < 0 then gW T c r else 0 := by
      intro v hv
      have e0 : (sSa M 7 i v).2.1 0 = M.2.1 0 := sSa_other (by decide)
      obtain ⟨M', a1, a2, a3, a4⟩ := ih (i + 1) m (by omega) (by omega) (sSa M 7 i v) (by rw [e0]; exact h) (fun r hr' => by
        rw [sSa_at]
        by_cases hri : r = i
        · subst hri
          rw [if_pos ⟨rfl, rfl⟩, hv]
        · rw [if_neg (fun q => hri q.2)]
          exact hr r (by omega))
      rw [nI_succ] at a1
      exact ⟨M', a1, a2.trans e0, (Fm.a7 M i v).tr a3, a4⟩
    show ∃ M', bX5_goesOn_24 _ _ _ (fx2 (bX5_goesOn_24 hm (gFA T c).1 k) m) _ _ = _ ∧ _
    generalize fx2 (bX5_goesOn_24 hm (gFA T c).1 k) m = rc at key ⊢
    unfold bX5_goesOn_24
    have r9 : i < 9 := by omega
    simp only [cl_0, cl_2, h.1, h4, if_neg (nI_ge (show i < c by omega) (show c < 2 ^ 31 by omega)), q_isHome h r9, b_some, nm_d, q_wish h hc (show i < c by omega) hf _ _ hh, z_cl (show i < 2147483648 by omega), if_neg (ix_n r9 (show 9 < 2147483648 by omega)), h.2.2.1]
    by_cases h7 : T.2.1 7 i < 0
    · simp only [if_pos h7] at key ⊢
      by_cases h8 : T.1 1 ≤ gWish T i (gFA T c).1
      · simp only [if_pos h8, if_true]
        exact key _ (by unfold gW; rw [if_neg (by grind)])
      · simp only [if_neg h8, if_true]
        exact key _ (by unfold gW; rw [if_pos (by grind)])
    · simp only [if_neg h7] at key ⊢
      simp only [if_neg (show ¬ (1 : Int32) = 0 by decide)]
      exact key _ rfl
/-- the track behind the first i of the second loop -/
def gP (T : sOb) (c i : Nat) : sOb := (fun k => if k = 3 then T.1 3 + 1 else T.1 k, fun k r => if r < i then nv T c k r else T.2.1 k r, T.2.2)
theorem z_more {w b : Int32} (hw : 0 ≤ w ∧ w ≤ 24) (hb : 0 ≤ b ∧ b ≤ 999) : (if w ≤ 4 then (0 : Int32) else w - 4) ≤ b ↔ w - 4 ≤ b := by
  by_cases h : w ≤ 4
  · rw [if_pos h]
    constructor
    · intro _
      grind
    · intro _
      exact hb.1
  · rw [if_neg h]
theorem z_brv {w b : Int32} (hw : 0 ≤ w ∧ w ≤ 24) (hb : 0 ≤ b ∧ b ≤ 999) (h : w - 4 ≤ b) : (if (b - (if w ≤ 4 then (0 : Int32) else w - 4)) + (if (4 : Int32) ≤ w then 0 else 1) ≤ 999 then (b - (if w ≤ 4 then (0 : Int32) else w - 4)) + (if (4 : Int32) ≤ w then 0 else 1) else 999) = (if w - 4 ≤ 0 then (if 0 ≤ w - 4 then b else (if (999 : Int32) < b + 1 then 999 else b + 1)) else b - (w - 4)) := by
  by_cases h1 : w ≤ 4
  · by_cases h2 : (4 : Int32) ≤ w
    · obtain rfl : w = 4 := by grind
      simp only [if_pos h1, if_pos h2]
      grind
    · simp only [if_pos h1, if_neg h2]
      grind
  · have h2 : (4 : Int32) ≤ w := by grind
    have h3 : 0 < w - 4 := by grind
    rw [if_neg h1, if_pos h2, Int32.add_zero]
    generalize w - 4 = v at h h3 ⊢
    rw [if_neg (show ¬ v ≤ 0 by grind), if_pos (by grind)]
