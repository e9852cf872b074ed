/-! PURE: the calls: the track, runners -/
theorem bi {α : Type} {c : Prop} [Decidable c] (a b : α) : (if (if c then (1 : Int32) else 0) = 0 then a else b) = if c then b else a := by
  by_cases h : c
  · rw [if_pos h, if_pos h, if_neg (by decide)]
  · rw [if_neg h, if_neg h, if_pos rfl]
theorem n10 : ¬ (1 : Int32) = 0 := by decide
theorem fd0 : (-1000000001 : Int32) - (-1000000001) = nI 0 := by decide +kernel
theorem fd1 : (-1000000001 : Int32) - (-1000000002) = nI 1 := by decide +kernel
theorem fd2 : (-1000000001 : Int32) - (-1000000003) = nI 2 := by decide +kernel
theorem fd3 : (-1000000001 : Int32) - (-1000000004) = nI 3 := by decide +kernel
theorem fd4 : (-1000000001 : Int32) - (-1000000005) = nI 4 := by decide +kernel
theorem fd5 : (-1000000001 : Int32) - (-1000000006) = nI 5 := by decide +kernel
theorem fd6 : (-1000000001 : Int32) - (-1000000007) = nI 6 := by decide +kernel
theorem p_becomes {M : sOb} {i : Nat} (hi : i < 77) (v : Int32) {a : Int32} (ha : a = nI i) : fX5_becomes M a v = some (M.2.1 0 i, sSa M 0 i v) := by
  subst ha
  unfold fX5_becomes
  rw [if_neg (ix_in hi (by omega)), z_cl (by omega), nm_d, nm_d]
theorem RF_h0 {s : Nat → Int32} {T : sOb} (h : RF s T) (v : Int32) : RF (upd s 1 v) (sSs T 0 v) := by
  obtain ⟨h0, h1, h2, h3, h4, h5⟩ := h
  refine ⟨by rw [upd_n (by decide)]; exact h0, by rw [upd_s]; rfl, by rw [upd_n (by decide)]; exact h2, by rw [upd_n (by decide)]; exact h3, by rw [upd_n (by decide)]; exact h4, fun r hr k hk => by rw [upd_n (by omega)]; exact h5 r hr k hk⟩
theorem RF_h1 {s : Nat → Int32} {T : sOb} (h : RF s T) (v : Int32) : RF (upd s 2 v) (sSs T 1 v) := by
  obtain ⟨h0, h1, h2, h3, h4, h5⟩ := h
  refine ⟨by rw [upd_n (by decide)]; exact h0, by rw [upd_n (by decide)]; exact h1, by rw [upd_s]; rfl, by rw [upd_n (by decide)]; exact h3, by rw [upd_n (by decide)]; exact h4, fun r hr k hk => by rw [upd_n (by omega)]; exact h5 r hr k hk⟩
theorem RF_h2 {s : Nat → Int32} {T : sOb} (h : RF s T) (v : Int32) : RF (upd s 3 v) (sSs T 2 v) := by
  obtain ⟨h0, h1, h2, h3, h4, h5⟩ := h
  refine ⟨by rw [upd_n (by decide)]; exact h0, by rw [upd_n (by decide)]; exact h1, by rw [upd_n (by decide)]; exact h2, by rw [upd_s]; rfl, by rw [upd_n (by decide)]; exact h4, fun r hr k hk => by rw [upd_n (by omega)]; exact h5 r hr k hk⟩
theorem Inv_h1 {T : sOb} {c : Nat} {B v : Int32} (h : Inv T c B) (hv : 0 ≤ v ∧ v ≤ 5) : Inv (sSs T 1 v) c B := by
  obtain ⟨h0, h4, hL, hl, hw, hs, h5, hR⟩ := h
  refine ⟨h0, h4, hL, hv, hw, hs, ?_, hR⟩
  rw [gHC_congr (T := sSs T 1 v) (T2 := T) c (fun _ _ => rfl)]
  exact h5
theorem Inv_h2 {T : sOb} {c : Nat} {B v : Int32} (h : Inv T c B) (hv : 0 ≤ v ∧ v ≤ 3) : Inv (sSs T 2 v) c B := by
  obtain ⟨h0, h4, hL, hl, hw, hs, h5, hR⟩ := h
  refine ⟨h0, h4, hL, hl, hv, hs, ?_, hR⟩
  rw [gHC_congr (T := sSs T 2 v) (T2 := T) c (fun _ _ => rfl)]
  exact h5
theorem Inv_h0 {T : sOb} {B v : Int32} (h : Inv T 0 B) (hv : 10 ≤ v ∧ v ≤ 9999) : Inv (sSs T 0 v) 0 B := by
  obtain ⟨h0, h4, hL, hl, hw, hs, h5, hR⟩ := h
  exact ⟨h0, h4, hv, hl, hw, hs, h5, fun r hr => absurd hr (Nat.not_lt_zero r)⟩
theorem op_let {S : sWo} {M : sOb} {n : Nat} (h : Rel S M n) (hn : n < 512) (a b : Int32) : Ok (fX4_let S a b) (fX5_let M a b) (n + 1) := by
  have hB := ok_found h (show n ≤ n + 1 by omega) (by omega) 0 (by omega) (-1000000001) fd0
  have hSt := ok_found h (show n ≤ n + 1 by omega) (by omega) 4 (by omega) (-1000000005) fd4
  obtain ⟨c, hI⟩ := h.1
  have hR := h.2.1
  unfold fX4_let fX5_let
  simp only [b_eta, b_some, bi, p_in a 0 2 (b' := 0) (c' := 2) rfl rfl, nm_d]
  by_cases e0 : a = 0
  · subst e0
    rw [if_pos (show (0 : Int32) = 0 from rfl), if_pos (show (0 : Int32) ≤ 0 ∧ (0 : Int32) ≤ 2 by decide)]
    unfold fX4_letLength fX5_leastOf fX5_mostOf
    simp only [b_eta, if_true, b_some, p_in b 10 9999 rfl rfl, bi, cl_0, hR.1, hI.2.1]
    by_cases e1 : b < 10
    · rw [if_pos e1, if_neg (by grind)]
      exact hB
    · rw [if_neg e1]
      by_cases e2 : b ≤ 9999
      · rw [if_pos e2, if_pos (show (10 : Int32) ≤ b ∧ b ≤ 9999 from ⟨by grind, e2⟩)]
        by_cases e3 : nI c ≤ 0
        · rw [if_pos e3, if_pos e3, p_becomes (a := (1 : Int32) + 0) (i := 1) (by omega) b rfl, nm_d, nm_d, hR.2.1]
          obtain rfl : c = 0 := by
            rcases Nat.eq_zero_or_pos c with q | q
            · exact q
            · exact absurd e3 (nI_nle q (by have := hI.1; omega))
          refine ⟨_, _, _, rfl, rfl, h.track (n := n) (m := n + 1) (c := 0) (by omega) (by omega) (Fm.a0 _ _ _) (Inv_h0 (Inv_mono hI (nI_le (by omega) (by omega))) (by grind)) ?_⟩
          rw [sSa_same]
          exact RF_h0 hR b
        · rw [if_neg e3, if_neg e3]
          exact hSt
      · rw [if_neg e2, if_neg (by grind)]
        exact hB
  rw [if_neg e0]
  by_cases e1 : a = 1
  · subst e1
    rw [if_pos (show (1 : Int32) = 1 from rfl), if_pos (show (0 : Int32) ≤ 1 ∧ (1 : Int32) ≤ 2 by decide)]
    unfold fX4_letLeast fX5_leastOf fX5_mostOf
    simp only [b_eta, if_true, if_neg n10, b_some, p_in b 0 5 rfl rfl, bi]
    by_cases e2 : b < 0
    · rw [if_pos e2, if_neg (by grind)]
      exact hB
    · rw [if_neg e2]
      by_cases e3 : b ≤ 5
      · rw [if_pos e3, if_pos (by grind), p_becomes (a := (1 : Int32) + 1) (i := 2) (by omega) b rfl, nm_d, nm_d, hR.2.2.1]
        refine ⟨_, _, _, rfl, rfl, h.track (n := n) (m := n + 1) (c := c) (by omega) (by omega) (Fm.a0 _ _ _) (Inv_h1 (Inv_mono hI (nI_le (by omega) (by omega))) (by grind)) ?_⟩
        rw [sSa_same]
        exact RF_h1 hR b
      · rw [if_neg e3, if_neg (by grind)]
        exact hB
  rw [if_neg e1]
  by_cases e2 : a = 2
  · subst e2
    rw [if_pos (show (2 : Int32) = 2 from rfl), if_pos (show (0 : Int32) ≤ 2 ∧ (2 : Int32) ≤ 2 by decide)]
    unfold fX4_letLaw fX5_leastOf fX5_mostOf
    simp only [b_eta, if_neg (show ¬ (2 : Int32) = 0 by decide), if_neg (show ¬ (2 : Int32) = 1 by decide), b_some, p_in b 0 3 rfl rfl, bi, p_law]
    by_cases e3 : 0 ≤ b ∧ b ≤ 3
    · rw [if_pos e3, if_pos e3, p_becomes (a := (1 : Int32) + 2) (i := 3) (by omega) b rfl, nm_d, nm_d, hR.2.2.2.1]
      refine ⟨_, _, _, rfl, rfl, h.track (n := n) (m := n + 1) (c := c) (by omega) (by omega) (Fm.a0 _ _ _) (Inv_h2 (Inv_mono hI (nI_le (by omega) (by omega))) e3) ?_⟩
      rw [sSa_same]
      exact RF_h2 hR b
    · rw [if_neg e3, if_neg e3]
      exact hB
  rw [if_neg e2, if_neg (by grind)]
  exact hB
/-- a number of a runner becomes another -/
theorem Inv_set {T : sOb} {c r k : Nat} {B v : Int32} (h : Inv T c B) (hr : r < c) (hk : k < 5) (hv : IR (sSa T k r v) c r) : Inv (sSa T k r v) c B := by
  obtain ⟨h0, h4, hL, hl, hw, hs, h5, hR⟩ := h
  refine ⟨h0, h4, hL, hl, hw, hs, ?_, fun r' hr' => ?_⟩
  · rw [gHC_congr (T := sSa T k r v) (T2 := T) c (fun i _ => by rw [sSa_other (by omega)])]
    exact h5
  · by_cases q : r' = r
    · rw [q]
      exact hv
    · have := hR r' hr'
      unfold IR at this ⊢
      have e : ∀ k', (sSa T k r v).2.1 k' r' = T.2.1 k' r' := fun k' => by rw [sSa_at, if_neg (fun z => q z.2)]
      rw [e 0, e 1, e 2, e 3, e 4, e 5, e 7]
      exact this
theorem p_exch {T : sOb} {r k : Nat} (hr : r < 9) (v : Int32) : fX4_exchange T k (nI r) v = some (T.2.1 k r, sSa T k r v) := by
  unfold fX4_exchange
  rw [if_neg (nI_pos (by omega)), if_pos (show nI r < (9 : Int32) from nI_lt (b := 9) hr (by omega)), if_neg (ix_in hr (by omega)), z_cl (by omega), nm_d, nm_d]
/-- the two sides of setting -/
theorem ok_set {S : sWo} {M : sOb} {n c r k : Nat} {v : Int32} (h : Rel S M n) (hn : n < 512) (hI : Inv (S 1) c (nI (600 * n))) (hr : r < c) (hk : k < 5) (hv : IR (sSa (S 1) k r v) c r) : Ok (some ((S 1).2.1 k r, sUp S 1 (sSa (S 1) k r v))) (some (M.2.1 0 (5 + 8 * r + k), sSa M 0 (5 + 8 * r + k) v)) (n + 1) := by
  have hc := hI.1
  have hR := h.2.1
  rw [hR.at (show r < 9 by omega) (show k < 8 by omega)]
  refine ⟨_, _, _, rfl, rfl, h.track (n := n) (m := n + 1) (c := c) (by omega) (by omega) (Fm.a0 _ _ _) (Inv_mono (Inv_set hI hr hk hv) (nI_le (by omega) (by omega))) ?_⟩
  rw [sSa_same]
  exact hR.put (by omega) (by omega) v
theorem op_turn {S : sWo} {M : sOb} {n : Nat} (h : Rel S M n) (hn : n < 512) (a b : Int32) : Ok (fX4_turn S a b) (fX5_turn M a b) (n + 1) := by
  have hB := ok_found h (show n ≤ n + 1 by omega) (by omega) 0 (by omega) (-1000000001) fd0
  obtain ⟨c, hI⟩ := h.1
  have hR := h.2.1
  have hc := hI.1
  unfold fX4_turn fX5_turn
  simp only [b_eta, p_has hI.1 hI.2.1, q_isRunner (hR.1.trans hI.2.1), b_some, bi, p_kind, p_in b 0 5 (b' := 0) (c' := 5) rfl rfl]
  by_cases e : 0 ≤ a ∧ a < nI c
  · rw [if_pos e, if_pos e]
    by_cases e2 : 0 ≤ b ∧ b ≤ 5
    · obtain ⟨r, hr, rfl⟩ := nI_ex (by omega) e.1 e.2
      rw [if_pos e2, if_pos e2, p_exch (by omega), b_some, nm_d, p_becomes (i := 5 + 8 * r + 0) (by omega) b (by rw [show (5 : Int32) + (8 : Int32) * nI r = nI 5 + nI 8 * nI r from rfl, pk_mul, nI_add]; rfl)]
      refine ok_set h hn hI hr (by omega) ?_
      obtain ⟨r0, r1, r2, r3, r4, r5, r7⟩ := hI.2.2.2.2.2.2.2 r hr
      unfold IR
      rw [sSa_at, if_pos ⟨rfl, rfl⟩, sSa_other (show 1 ≠ 0 by decide), sSa_other (show 2 ≠ 0 by decide), sSa_other (show 3 ≠ 0 by decide), sSa_other (show 4 ≠ 0 by decide), sSa_other (show 5 ≠ 0 by decide), sSa_other (show 7 ≠ 0 by decide)]
      exact ⟨e2, r1, r2, r3, r4, r5, r7⟩
    · rw [if_neg e2, if_neg e2]
      exact hB
  · rw [if_neg e, if_neg e]
    exact hB
theorem p_01 (c : Prop) [Decidable c] : ¬ ¬ ((if c then (1 : Int32) else 0) = 0 ∨ (if c then (1 : Int32) else 0) = 1) := by
  intro q
  apply q
  split
  · exact Or.inr rfl
  · exact Or.inl rfl
theorem p_isStart {T : sOb} (hl : 10 ≤ T.1 0 ∧ T.1 0 ≤ 9999) (v : Int32) : fX3_isStart T v = some (if 0 ≤ v ∧ v ≤ T.1 0 - 1 then 1 else 0) := by
  unfold fX3_isStart
  generalize T.1 0 = x at hl ⊢
  by_cases q1 : v < 0
  · rw [if_pos q1, if_neg (by grind)]
  · rw [if_neg q1]
    by_cases q2 : x ≤ v
    · rw [if_pos q2, if_neg (by grind)]
    · rw [if_neg q2, if_pos (by grind)]
theorem p_friendFor {S : sWo} {c : Nat} {B : Int32} (hI : Inv (S 1) c B) (a v : Int32) : fX4_isFriendFor S a v = some (if v = -1 ∨ (0 ≤ v ∧ v < nI c) ∧ ¬ v = a then 1 else 0) := by
  unfold fX4_isFriendFor
  simp only [p_has hI.1 hI.2.1, b_some, bi]
  by_cases q1 : v = -1
  · rw [if_pos q1, if_pos (Or.inl q1)]
  · rw [if_neg q1]
    by_cases q2 : 0 ≤ v ∧ v < nI c
    · rw [if_pos q2]
      by_cases q3 : v = a
      · rw [if_pos q3, if_neg (fun z => z.elim q1 (fun y => y.2 q3))]
      · rw [if_neg q3, if_pos (Or.inr ⟨q2, q3⟩)]
    · rw [if_neg q2, if_neg (fun z => z.elim q1 (fun y => q2 y.1))]
theorem q_friendFor {M : sOb} {c : Nat} (h0 : M.2.1 0 0 = nI c) (a v : Int32) : (if v = (-1 : Int32) then (some (1 : Int32)) else ((fX5_isRunner M v).bind fun q59 => if q59 = 0 then (some (0 : Int32)) else (if v = a then (some (0 : Int32)) else (some (1 : Int32))))) = some (if v = -1 ∨ (0 ≤ v ∧ v < nI c) ∧ ¬ v = a then 1 else 0) := by
  simp only [q_isRunner h0, b_some, bi]
  by_cases q1 : v = -1
  · rw [if_pos q1, if_pos (Or.inl q1)]
  · rw [if_neg q1]
    by_cases q2 : 0 ≤ v ∧ v < nI c
    · rw [if_pos q2]
      by_cases q3 : v = a
      · rw [if_pos q3, if_neg (fun z => z.elim q1 (fun y => y.2 q3))]
      · rw [if_neg q3, if_pos (Or.inr ⟨q2, q3⟩)]
    · rw [if_neg q2, if_neg (fun z => z.elim q1 (fun y => q2 y.1))]
theorem op_set {S : sWo} {M : sOb} {n : Nat} (h : Rel S M n) (hn : n < 512) (a k v : Int32) : Ok (fX4_set S a k v) (fX5_set M a k v) (n + 1) := by
  have hB := ok_found h (show n ≤ n + 1 by omega) (by omega) 0 (by omega) (-1000000001) fd0
  obtain ⟨c, hI⟩ := h.1
  have hR := h.2.1
  have hc := hI.1
  have h0 : M.2.1 0 0 = nI c := hR.1.trans hI.2.1
  unfold fX4_set fX5_set
  simp only [b_eta, p_has hI.1 hI.2.1, q_isRunner h0, b_some, bi, p_pace, p_breath, p_friendFor hI, p_isStart hI.2.2.1]
  by_cases e : 0 ≤ a ∧ a < nI c
  · obtain ⟨r, hr, rfl⟩ := nI_ex (by omega) e.1 e.2
    obtain ⟨r0, r1, r2, r3, r4, r5, r7⟩ := hI.2.2.2.2.2.2.2 r hr
    rw [if_pos e, if_pos e]
    unfold fX5_mayBe
    simp only [p_exch (show r < 9 by omega), b_some, nm_d, p_in v 1 12 (b' := 1) (c' := 12) rfl rfl, p_in v 0 999 (b' := 0) (c' := 999) rfl rfl, q_friendFor h0, cl_1, hR.2.1, p_in v 0 ((S 1).1 0 - 1) (b' := 0) rfl rfl, if_neg (p_01 _)]
    by_cases e1 : k = 1
    · subst e1
      rw [if_pos (show (1 : Int32) = 1 from rfl), if_pos (show (1 : Int32) = 1 from rfl), b_some, bi, p_becomes (a := ((5 : Int32) + (8 : Int32) * nI r) + 1) (i := 5 + 8 * r + 1) (by omega) v (ix_ru r 1)]
      by_cases e2 : 1 ≤ v ∧ v ≤ 12
      · rw [if_pos e2, if_pos e2]
        refine ok_set h hn hI hr (by omega) ?_
        unfold IR
        rw [sSa_at, if_neg (by omega), sSa_at, if_pos ⟨rfl, rfl⟩, sSa_other (show 2 ≠ 1 by decide), sSa_other (show 3 ≠ 1 by decide), sSa_other (show 4 ≠ 1 by decide), sSa_other (show 5 ≠ 1 by decide), sSa_other (show 7 ≠ 1 by decide)]
        exact ⟨r0, e2, r2, r3, r4, r5, r7⟩
      · rw [if_neg e2, if_neg e2]
        exact hB
    rw [if_neg e1, if_neg e1]
    by_cases e2 : k = 2
    · subst e2
      rw [if_pos (show (2 : Int32) = 2 from rfl), if_pos (show (2 : Int32) = 2 from rfl), b_some, bi, p_becomes (a := ((5 : Int32) + (8 : Int32) * nI r) + 2) (i := 5 + 8 * r + 2) (by omega) v (ix_ru r 2)]
      by_cases e2 : 0 ≤ v ∧ v ≤ 999
      · rw [if_pos e2, if_pos e2]
        refine ok_set h hn hI hr (by omega) ?_
        unfold IR
        rw [sSa_other (show 0 ≠ 2 by decide), sSa_other (show 1 ≠ 2 by decide), sSa_at, if_pos ⟨rfl, rfl⟩, sSa_other (show 3 ≠ 2 by decide), sSa_other (show 4 ≠ 2 by decide), sSa_other (show 5 ≠ 2 by decide), sSa_other (show 7 ≠ 2 by decide)]
        exact ⟨r0, r1, e2, r3, r4, r5, r7⟩
      · rw [if_neg e2, if_neg e2]
        exact hB
    rw [if_neg e2, if_neg e2]
    by_cases e3 : k = 3
    · subst e3
      rw [if_pos (show (3 : Int32) = 3 from rfl), if_pos (show (3 : Int32) = 3 from rfl), b_some, bi, p_becomes (a := ((5 : Int32) + (8 : Int32) * nI r) + 3) (i := 5 + 8 * r + 3) (by omega) v (ix_ru r 3)]
      by_cases q : v = -1 ∨ (0 ≤ v ∧ v < nI c) ∧ ¬ v = nI r
      · rw [if_pos q, if_pos q]
        refine ok_set h hn hI hr (by omega) ?_
        unfold IR
        rw [sSa_other (show 0 ≠ 3 by decide), sSa_other (show 1 ≠ 3 by decide), sSa_other (show 2 ≠ 3 by decide), sSa_at, if_pos ⟨rfl, rfl⟩, sSa_other (show 4 ≠ 3 by decide), sSa_other (show 5 ≠ 3 by decide), sSa_other (show 7 ≠ 3 by decide)]
        have := nI_9 hc
        exact ⟨r0, r1, r2, by clear r0 r1 r2 r3 r4 r5 r7 e hB; grind, r4, r5, r7⟩
      · rw [if_neg q, if_neg q]
        exact hB
    rw [if_neg e3, if_neg e3]
    by_cases e4 : k = 4
    · subst e4
      rw [if_pos (show (4 : Int32) = 4 from rfl), if_pos (show (4 : Int32) = 4 from rfl), b_some, bi, p_becomes (a := ((5 : Int32) + (8 : Int32) * nI r) + 4) (i := 5 + 8 * r + 4) (by omega) v (ix_ru r 4)]
      by_cases q : 0 ≤ v ∧ v ≤ (S 1).1 0 - 1
      · rw [if_pos q, if_pos q]
        refine ok_set h hn hI hr (by omega) ?_
        have hlen := hI.2.2.1
        unfold IR
        rw [sSa_other (show 0 ≠ 4 by decide), sSa_other (show 1 ≠ 4 by decide), sSa_other (show 2 ≠ 4 by decide), sSa_other (show 3 ≠ 4 by decide), sSa_at, if_pos ⟨rfl, rfl⟩, sSa_other (show 5 ≠ 4 by decide), sSa_other (show 7 ≠ 4 by decide), sSa_1]
        refine ⟨r0, r1, r2, r3, ?_, r5, r7⟩
        generalize (S 1).1 0 = x at hlen q ⊢
        clear r0 r1 r2 r3 r4 r5 r7 e hB
        grind
      · rw [if_neg q, if_neg q]
        exact hB
    rw [if_neg e4, if_neg e4, b_some, if_pos (show (0 : Int32) = 0 from rfl)]
    exact hB
  · rw [if_neg e, if_neg e]
    exact hB
