/-! PURE: the relation of the class's objects and the reference -/
def s7 (f : Nat → Int32) : Int32 := 0 + f 0 + f 1 + f 2 + f 3 + f 4 + f 5 + f 6
def RelF (S : sWo) (M : sOb) : Prop := (∀ j, j < 7 → M.2.1 3 (j + 1) = (S 0).2.1 0 j) ∧ M.2.1 3 0 = s7 ((S 0).2.1 0)
def RelK (S : sWo) (M : sOb) (n : Nat) : Prop := (S 0).1 0 = M.1 0 ∧ ((S 0).1 0 = 0 ∨ ((S 0).1 0 = 1 ∧ (∃ c, Inv (S 3) c (nI (600 * n))) ∧ RF (M.2.1 1) (S 3)))
def RelP (S : sWo) (M : sOb) : Prop := ∃ z, z ≤ 120 ∧ (S 4).1 0 = nI z ∧ M.1 1 = nI z ∧ ∀ i, i < z → M.2.1 4 i = (S 4).2.1 0 i &&& 255
def RelS (Q M : sOb) (j : Nat) : Prop := M.2.1 5 j = (if Q.1 0 = 0 then -1 else Q.1 0) ∧ (Q.1 0 = 0 ∨ Q.1 0 = 8 ∨ Q.1 0 = 16 ∨ Q.1 0 = 64) ∧ M.2.1 6 j = Q.1 1 ∧ (0 ≤ Q.1 1 ∧ Q.1 1 ≤ 40) ∧ ∀ i, i < 40 → M.2.2 (40 * j + i) = Q.2.2 i
/-- behind n calls -/
def Rel (S : sWo) (M : sOb) (n : Nat) : Prop := (∃ c, Inv (S 1) c (nI (600 * n))) ∧ RF (M.2.1 0) (S 1) ∧ RelK S M n ∧ RelF S M ∧ RelP S M ∧ ∀ j, j < 4 → RelS (S (5 + j)) M j
def Ok (oc : Option (Int32 × sWo)) (om : Option (Int32 × sOb)) (n : Nat) : Prop := ∃ v S' M', oc = some (v, S') ∧ om = some (v, M') ∧ Rel S' M' n
theorem Rel.mono {S : sWo} {M : sOb} {n m : Nat} (h : Rel S M n) (hn : n ≤ m) (hm : m ≤ 600) : Rel S M m := by
  obtain ⟨⟨c, h1⟩, h2, ⟨h3, h4⟩, h5, h6, h7⟩ := h
  have hle : nI (600 * n) ≤ nI (600 * m) := nI_le (by omega) (by omega)
  refine ⟨⟨c, Inv_mono h1 hle⟩, h2, ⟨h3, ?_⟩, h5, h6, h7⟩
  rcases h4 with h4 | ⟨h4, ⟨c', h8⟩, h9⟩
  · exact Or.inl h4
  · exact Or.inr ⟨h4, ⟨c', Inv_mono h8 hle⟩, h9⟩
theorem Rel.trial {S S' : sWo} {M M' : sOb} {n : Nat} (h : Rel S M n) (hS : ∀ o, o ≠ 2 → S' o = S o) (hM : Fq M M') : Rel S' M' n := by
  obtain ⟨⟨c, h1⟩, h2, ⟨h3, h4⟩, ⟨h5, h5'⟩, ⟨z, h6, h7, h8, h9⟩, h10⟩ := h
  have e := hM.2.1
  refine ⟨⟨c, by rw [hS 1 (by decide)]; exact h1⟩, by rw [hS 1 (by decide)]; exact hM.RF h2, ⟨by rw [hS 0 (by decide), hM.1]; exact h3, ?_⟩, ⟨fun j hj => by rw [e 3 (by decide) (by decide) (by decide), hS 0 (by decide)]; exact h5 j hj, by rw [e 3 (by decide) (by decide) (by decide), hS 0 (by decide)]; exact h5'⟩, ⟨z, h6, by rw [hS 4 (by decide)]; exact h7, by rw [hM.1]; exact h8, fun i hi => by rw [e 4 (by decide) (by decide) (by decide), hS 4 (by decide)]; exact h9 i hi⟩, fun j hj => ?_⟩
  · rw [hS 0 (by decide), hS 3 (by decide), e 1 (by decide) (by decide) (by decide)]
    exact h4
  · rw [hS (5 + j) (by omega)]
    unfold RelS
    rw [e 5 (by decide) (by decide) (by decide), e 6 (by decide) (by decide) (by decide), hM.2.2.1]
    exact h10 j hj
theorem Rel.track {S : sWo} {M M' T : sOb} {n m c : Nat} (h : Rel S M n) (hn : n ≤ m) (hm : m ≤ 600) (hM : Fm M M') (hI : Inv T c (nI (600 * m))) (hR : RF (M'.2.1 0) T) : Rel (sUp S 1 T) M' m := by
  obtain ⟨-, -, ⟨h3, h4⟩, ⟨h5, h5'⟩, ⟨z, h6, h7, h8, h9⟩, h10⟩ := h.mono hn hm
  have e := hM.2.1
  have hS : ∀ o, o ≠ 1 → sUp S 1 T o = S o := fun o ho => sUp_n ho
  refine ⟨⟨c, by rw [sUp_s]; exact hI⟩, by rw [sUp_s]; exact hR, ⟨by rw [hS 0 (by decide), hM.1]; exact h3, ?_⟩, ⟨fun j hj => by rw [e 3 (by decide) (by decide), hS 0 (by decide)]; exact h5 j hj, by rw [e 3 (by decide) (by decide), hS 0 (by decide)]; exact h5'⟩, ⟨z, h6, by rw [hS 4 (by decide)]; exact h7, by rw [hM.1]; exact h8, fun i hi => by rw [e 4 (by decide) (by decide), hS 4 (by decide)]; exact h9 i hi⟩, fun j hj => ?_⟩
  · rw [hS 0 (by decide), hS 3 (by decide), e 1 (by decide) (by decide)]
    exact h4
  · rw [hS (5 + j) (by omega)]
    unfold RelS
    rw [e 5 (by decide) (by decide), e 6 (by decide) (by decide), hM.2.2]
    exact h10 j hj
/-- a finding -/
theorem s7_up {f : Nat → Int32} {j : Nat} (hj : j < 7) : s7 (upd f j (f j + 1)) = s7 f + 1 := by
  unfold s7 upd
  rcases (show j = 0 ∨ j = 1 ∨ j = 2 ∨ j = 3 ∨ j = 4 ∨ j = 5 ∨ j = 6 by omega) with rfl | rfl | rfl | rfl | rfl | rfl | rfl <;> simp <;> grind
theorem rel_found {S : sWo} {M : sOb} {n : Nat} (h : Rel S M n) (j : Nat) (hj : j < 7) (a : Int32) (ha : (-1000000001 : Int32) - a = nI j) : ∃ S' M', fX4_found S a = some (a, S') ∧ fX5_finds M a = some (a, M') ∧ Rel S' M' n := by
  refine ⟨sUp S 0 (sSa (S 0) 0 j ((S 0).2.1 0 j + 1)), sSa (sSa M 3 0 (M.2.1 3 0 + 1)) 3 (j + 1) ((S 0).2.1 0 j + 1), ?_, ?_, ?_⟩
  · unfold fX4_found
    rw [nm_d, ha, if_neg (nI_pos (by omega)), if_neg (show ¬ (7 : Int32) ≤ nI j from nI_ge (b := 7) (by omega) (by omega)), if_neg (ix_in hj (by omega)), z_cl (by omega), nm_d]
  · unfold fX5_finds
    rw [nm_d, cl_0, ha, show nI j + (1 : Int32) = nI (j + 1) from (nI_succ j).symm, if_neg (ix_in (show j + 1 < 8 by omega) (by omega)), z_cl (by omega), nm_d, sSa_at, if_neg (by omega), h.2.2.2.1.1 j hj]
  · obtain ⟨⟨c, h1⟩, h2, ⟨h3, h4⟩, ⟨h5, h5'⟩, ⟨z, h6, h7, h8, h9⟩, h10⟩ := h
    have hS : ∀ o, o ≠ 0 → sUp S 0 (sSa (S 0) 0 j ((S 0).2.1 0 j + 1)) o = S o := fun o ho => sUp_n ho
    have hM : ∀ k, k ≠ 3 → (sSa (sSa M 3 0 (M.2.1 3 0 + 1)) 3 (j + 1) ((S 0).2.1 0 j + 1)).2.1 k = M.2.1 k := fun k hk => by rw [sSa_other hk, sSa_other hk]
    refine ⟨⟨c, by rw [hS 1 (by decide)]; exact h1⟩, by rw [hS 1 (by decide), hM 0 (by decide)]; exact h2, ⟨by rw [sUp_s, sSa_1, sSa_1, sSa_1]; exact h3, ?_⟩, ⟨fun i hi => ?_, ?_⟩, ⟨z, h6, by rw [hS 4 (by decide)]; exact h7, by rw [sSa_1, sSa_1]; exact h8, fun i hi => by rw [hM 4 (by decide), hS 4 (by decide)]; exact h9 i hi⟩, fun i hi => ?_⟩
    · rw [sUp_s, sSa_1, hS 3 (by decide), hM 1 (by decide)]
      exact h4
    · rw [sUp_s, sSa_at, sSa_at, sSa_at]
      by_cases q : i = j
      · rw [if_pos ⟨rfl, by omega⟩, if_pos ⟨rfl, q⟩]
      · rw [if_neg (by omega), if_neg (by omega), if_neg (by omega)]
        exact h5 i hi
    · rw [sUp_s, sSa_at, if_neg (by omega), sSa_at, if_pos ⟨rfl, rfl⟩, sSa_same, s7_up hj, h5']
    · rw [hS (5 + i) (by omega)]
      unfold RelS
      rw [hM 5 (by decide), hM 6 (by decide), sSa_3, sSa_3]
      exact h10 i hi
theorem ok_found {S : sWo} {M : sOb} {n m : Nat} (h : Rel S M n) (hn : n ≤ m) (hm : m ≤ 600) (j : Nat) (hj : j < 7) (a : Int32) (ha : (-1000000001 : Int32) - a = nI j) : Ok (fX4_found S a) (fX5_finds M a) m := by
  obtain ⟨S', M', h1, h2, h3⟩ := rel_found h j hj a ha
  exact ⟨a, S', M', h1, h2, h3.mono hn hm⟩
/-- the class's -1, the reference's less than 0 -/
theorem ok_none {S : sWo} {M : sOb} {n m : Nat} (h : Rel S M n) (hn : n ≤ m) (hm : m ≤ 600) (v : Int32) (hv : v = -1 ∨ 0 ≤ v) : Ok (fX4_runnerOrNone S v) (fX5_orNone M v) m := by
  unfold fX4_runnerOrNone fX5_orNone
  rw [b_eta, b_eta]
  rcases hv with rfl | hv
  · rw [if_pos rfl, if_neg (by decide)]
    exact ok_found h hn hm 3 (by omega) _ rfl
  · rw [if_neg (by grind), if_pos hv]
    exact ⟨v, S, M, rfl, rfl, h.mono hn hm⟩
theorem p_in (a b c : Int32) {b' c' : Int64} (hb : b' = b.toInt64) (hc : c' = c.toInt64) : fX5_isIn a.toInt64 b' c' = some (if b ≤ a ∧ a ≤ c then 1 else 0) := by
  subst hb; subst hc
  rw [p_isIn]
  simp only [z_le]
theorem p_kind (a : Int32) : fX4_isKind a = some (if 0 ≤ a ∧ a ≤ 5 then 1 else 0) := by
  unfold fX4_isKind
  grind
theorem p_pace (a : Int32) : fX4_isPace a = some (if 1 ≤ a ∧ a ≤ 12 then 1 else 0) := by
  unfold fX4_isPace
  grind
theorem p_breath (a : Int32) : fX4_isBreath a = some (if 0 ≤ a ∧ a ≤ 999 then 1 else 0) := by
  unfold fX4_isBreath
  grind
theorem p_law (a : Int32) : fX4_isLaw a = some (if 0 ≤ a ∧ a ≤ 3 then 1 else 0) := by
  unfold fX4_isLaw
  grind
