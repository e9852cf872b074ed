theorem nm_if {α β : Type} {c : Prop} [Decidable c] (f : α → Option β) (a b : α) : (nm f fun k => if c then k a else k b) = f (if c then a else b) := by
  unfold nm
  split <;> rfl
theorem w_is {M : sOb} {r : Nat} (hr : r < 9) (k : Nat) (hk : k < 8) {v : Int32} (hv : v = nI k) : fX5_is M (nI r) v = some (M.2.1 0 (5 + 8 * r + k)) := by
  subst hv
  exact p_is hr hk
theorem sSa_00 (M : sOb) (i : Nat) (v : Int32) (j : Nat) : (sSa M 0 i v).2.1 0 j = if j = i then v else M.2.1 0 j := by
  rw [sSa_same]
  rfl
theorem sSa_07 (M : sOb) (i : Nat) (v : Int32) : (sSa M 0 i v).2.1 7 = M.2.1 7 := sSa_other (by decide)
theorem sSa_70 (M : sOb) (i : Nat) (v : Int32) : (sSa M 7 i v).2.1 0 = M.2.1 0 := sSa_other (by decide)
theorem sSa_77 (M : sOb) (i : Nat) (v : Int32) (j : Nat) : (sSa M 7 i v).2.1 7 j = if j = i then v else M.2.1 7 j := by
  rw [sSa_same]
  rfl
/-- behind a runner's breath: yards and whether it is home -/
theorem q_tail {T1 M1 : sOb} {i : Nat} (hi : i < 9) (h : RF (M1.2.1 0) T1) {y st ln sc : Int32} (hy : T1.2.1 5 i = y) (hst : M1.2.1 7 i = st) (hln : T1.1 0 = ln) (hsc : T1.1 3 = sc) (rc : Int32 → Int32 → sOb → Option (Int32 × sOb)) (x : Int32) :
    ((fX5_is M1 (nI i) (5 : Int32)).bind fun q267 => (fX5_puts M1 (nI i) (5 : Int32) (q267 + (M1.2.1 7 (nI i).toNatClampNeg))).bind fun q278 => (fX5_is q278 (nI i) (5 : Int32)).bind fun q285 => if q285 < (q278.2.1 0 (1 : Int32).toNatClampNeg) then (nm ((nI i) + (1 : Int32)) fun v314 => rc x v314 q278) else ((fX5_puts q278 (nI i) (7 : Int32) (q278.2.1 0 (4 : Int32).toNatClampNeg)).bind fun q308 => nm (x + (1 : Int32)) fun v311 => nm ((nI i) + (1 : Int32)) fun v314 => rc v311 v314 q308)) = rc (if y + st < ln then x else x + 1) (nI i + 1) (if y + st < ln then sSa M1 0 (5 + 8 * i + 5) (y + st) else sSa (sSa M1 0 (5 + 8 * i + 5) (y + st)) 0 (5 + 8 * i + 7) sc) := by
  rw [q_is h hi 5 (by omega) (v := 5) rfl, b_some, z_cl (by omega), hst, hy, q_puts hi 5 (by omega) (v := 5) rfl, b_some, w_is hi 5 (by omega) (v := 5) rfl, b_some, cl_1, cl_4, sSa_00, if_pos rfl, sSa_00, if_neg (show ¬ 1 = 5 + 8 * i + 5 by omega), sSa_00, if_neg (show ¬ 4 = 5 + 8 * i + 5 by omega), h.2.1, h.2.2.2.2.1, hln, hsc, q_puts hi 7 (by omega) (v := 7) rfl, b_some]
  simp only [nm_d]
  split <;> rfl
theorem q_body {T : sOb} {c i : Nat} {B : Int32} (hI : Inv T c B) (hi : i < c) (M : sOb) (h : RF (M.2.1 0) (gP T c i)) (h7 : T.2.1 7 i < 0) (hrun : M.2.1 7 i = gW T c i) :
    ∃ M', (∀ rc x, bX5_goesOn_116 rc x (nI i) M = rc (if T.2.1 5 i + gSt T c i < T.1 0 then x else x + 1) (nI i + 1) M') ∧ RF (M'.2.1 0) (gP T c (i + 1)) ∧ M'.2.1 7 i = gSt T c i ∧ (∀ r, r ≠ i → M'.2.1 7 r = M.2.1 7 r) ∧ Fm M M' := by
  have hw := gW_b hI hi
  obtain ⟨hc, h4, hL, hl, hlw, hs, h5c, hR⟩ := hI
  obtain ⟨-, -, hb, -, -, -, -⟩ := hR i hi
  have r9 : i < 9 := by omega
  have gp : ∀ k, (gP T c i).2.1 k i = T.2.1 k i := fun k => by
    show (if i < i then _ else _) = _
    rw [if_neg (Nat.lt_irrefl i)]
  have hn : ¬ (gP T c i).1 4 ≤ nI i := by
    rw [show (gP T c i).1 4 = nI c from h4]
    exact nI_ge hi (by omega)
  -- the state behind the breath
  obtain ⟨M1, hM1, hRF1, hrun1, hoth1, hFm1⟩ : ∃ M1, (∀ rc x, bX5_goesOn_116 rc x (nI i) M = ((fX5_is M1 (nI i) (5 : Int32)).bind fun q267 => (fX5_puts M1 (nI i) (5 : Int32) (q267 + (M1.2.1 7 (nI i).toNatClampNeg))).bind fun q278 => (fX5_is q278 (nI i) (5 : Int32)).bind fun q285 => if q285 < (q278.2.1 0 (1 : Int32).toNatClampNeg) then (nm ((nI i) + (1 : Int32)) fun v314 => rc x v314 q278) else ((fX5_puts q278 (nI i) (7 : Int32) (q278.2.1 0 (4 : Int32).toNatClampNeg)).bind fun q308 => nm (x + (1 : Int32)) fun v311 => nm ((nI i) + (1 : Int32)) fun v314 => rc v311 v314 q308))) ∧ RF (M1.2.1 0) (sSa (gP T c i) 2 i (gBr T c i)) ∧ M1.2.1 7 i = gSt T c i ∧ (∀ r, r ≠ i → M1.2.1 7 r = M.2.1 7 r) ∧ Fm M M1 := by
    by_cases hA : gW T c i - 4 ≤ T.2.1 2 i
    · have hSt : gSt T c i = gW T c i := by unfold gSt; rw [if_pos hA]
      refine ⟨sSa M 0 (5 + 8 * i + 2) (gBr T c i), ?_, ?_, ?_, ?_, Fm.a0 _ _ _⟩
      · intro rc x
        unfold bX5_goesOn_116
        rw [cl_0, h.1, if_neg hn, q_isHome h r9, b_some, gp 7, if_pos h7, if_pos rfl, if_neg (ix_in r9 (by omega)), nm_if, q_is h r9 2 (by omega) (v := 2) rfl, b_some, nm_d, z_cl (by omega), hrun, gp 2, if_pos ((z_more hw hb).mpr hA), b_some, nm_if, nm_d, nm_if, z_brv hw hb hA, q_puts r9 2 (by omega) (v := 2) rfl, b_some]
        have hBr : gBr T c i = (if gW T c i - 4 ≤ 0 then (if 0 ≤ gW T c i - 4 then T.2.1 2 i else (if (999 : Int32) < T.2.1 2 i + 1 then 999 else T.2.1 2 i + 1)) else T.2.1 2 i - (gW T c i - 4)) := by unfold gBr; rw [if_pos hA]
        rw [← hBr]
      · rw [sSa_same]
        exact h.put r9 (by omega) _
      · rw [sSa_07, hrun, hSt]
      · intro r _
        rw [sSa_07]
    · have hBr : gBr T c i = T.2.1 2 i := by unfold gBr; rw [if_neg hA]
      have hSt : gSt T c i = if (4 : Int32) < T.1 1 then T.1 1 else 4 := by unfold gSt; rw [if_neg hA]
      refine ⟨sSa M 7 i (gSt T c i), ?_, ?_, ?_, ?_, Fm.a7 _ _ _⟩
      · intro rc x
        unfold bX5_goesOn_116
        rw [cl_0, h.1, if_neg hn, q_isHome h r9, b_some, gp 7, if_pos h7, if_pos rfl, if_neg (ix_in r9 (by omega)), nm_if, q_is h r9 2 (by omega) (v := 2) rfl, b_some, nm_d, z_cl (by omega), hrun, gp 2, if_neg (fun q => hA ((z_more hw hb).mp q)), nm_if, nm_d, cl_2, h.2.2.1]
        have e1 : (gP T c i).1 1 = T.1 1 := rfl
        have e2 : (if T.1 1 ≤ (4 : Int32) then (4 : Int32) else T.1 1) = gSt T c i := by
          rw [hSt]
          by_cases q : T.1 1 ≤ 4
          · rw [if_pos q, if_neg (by grind)]
          · rw [if_neg q, if_pos (by grind)]
        rw [e1, e2]
      · rw [sSa_70, hBr, ← gp 2, sSa_self]
        exact h
      · rw [sSa_77, if_pos rfl]
      · intro r hr
        rw [sSa_77, if_neg hr]
  have hy : (sSa (gP T c i) 2 i (gBr T c i)).2.1 5 i = T.2.1 5 i := by rw [sSa_other (by decide), gp 5]
  have ht := q_tail r9 hRF1 hy hrun1 (ln := T.1 0) (sc := T.1 3 + 1) rfl rfl
  refine ⟨_, fun rc x => (hM1 rc x).trans (ht rc x), ?_, ?_, ?_, ?_⟩
  · by_cases q : T.2.1 5 i + gSt T c i < T.1 0
    · rw [if_pos q, sSa_same]
      refine RF_congr (hRF1.put r9 (by omega) _) (fun k _ => rfl) (fun r hr k hk => ?_)
      rw [sSa_at, sSa_at]
      show (if r < i + 1 then nv T c k r else T.2.1 k r) = if k = 5 ∧ r = i then _ else if k = 2 ∧ r = i then _ else (if r < i then nv T c k r else T.2.1 k r)
      by_cases hri : r = i
      · subst hri
        unfold nv
        rw [if_pos h7, if_pos q]
        grind
      · grind
    · rw [if_neg q, sSa_same, sSa_same]
      refine RF_congr ((hRF1.put r9 (by omega) _).put r9 (k := 7) (by omega) _) (fun k _ => rfl) (fun r hr k hk => ?_)
      rw [sSa_at, sSa_at, sSa_at]
      show (if r < i + 1 then nv T c k r else T.2.1 k r) = if k = 7 ∧ r = i then _ else if k = 5 ∧ r = i then _ else if k = 2 ∧ r = i then _ else (if r < i then nv T c k r else T.2.1 k r)
      by_cases hri : r = i
      · subst hri
        unfold nv
        rw [if_pos h7, if_neg q]
        grind
      · grind
  · split
    · rw [sSa_07]
      exact hrun1
    · rw [sSa_07, sSa_07]
      exact hrun1
  · intro r hr
    split
    · rw [sSa_07]
      exact hoth1 r hr
    · rw [sSa_07, sSa_07]
      exact hoth1 r hr
  · split
    · exact hFm1.tr (Fm.a0 _ _ _)
    · exact (hFm1.tr (Fm.a0 _ _ _)).tr (Fm.a0 _ _ _)
