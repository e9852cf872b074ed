/-! PURE: wish, line, seconds, now, place, prize, score, leads, count, status -/
theorem op_wish {S : sWo} {M : sOb} {n : Nat} (h : Rel S M n) (hn : n < 512) (a : Int32) : Ok (fX4_wish S a) (fX5_wish M a) (n + 1) := by
  have hB := ok_found h (show n ≤ n + 1 by omega) (by omega) 0 (by omega) (-1000000001) fd0
  have hSt := ok_found h (show n ≤ n + 1 by omega) (by omega) 4 (by omega) (-1000000005) fd4
  obtain ⟨c, hI⟩ := h.1
  have hR := h.2.1
  have hc := hI.1
  have hle := gHC_le (S 1) c
  unfold fX4_wish fX5_wish
  simp only [b_eta, p_has hI.1 hI.2.1, q_isRunner (hR.1.trans hI.2.1), b_so, bi]
  by_cases e : 0 ≤ a ∧ a < nI c
  · obtain ⟨r, hr, rfl⟩ := nI_ex (by omega) e.1 e.2
    have hf := Inv_f hI r hr
    rw [if_pos e, if_pos e, p_isHome hI.1 hI.2.1 _ e.2, q_isHome hR (by omega), b_some, b_some, z_cl (by omega), if_neg (nI_pos (by omega)), p_FA hI.1 hI.2.1, q_FA hR hI, q_homeMany hR hI.1 hI.2.1, b_some, b_some, b_some]
    rw [p_wish hI.1 hI.2.1 hr hf, q_wish hR hI.1 hr hf _ _ (by rw [hI.2.2.2.2.2.2.1]; exact nI_pos0 (by omega)), b_some, b_some]
    by_cases q : (S 1).2.1 7 r < 0
    · rw [if_pos q, if_pos rfl, if_pos rfl]
      exact ok_same h hn rfl
    · rw [if_neg q, if_neg n10, if_neg n10]
      exact hSt
  · rw [if_neg e, if_neg e]
    exact hB
theorem op_line {S : sWo} {M : sOb} {n : Nat} (h : Rel S M n) (hn : n < 512) : Ok (fX4_line S) (fX5_line M) (n + 1) := by
  obtain ⟨c, hI⟩ := h.1
  have hR := h.2.1
  obtain ⟨M', a1, a2, a3⟩ := q_lines hR hI.1 hI.2.1
  unfold fX4_line fX5_line
  rw [nm_d, p_lineUp hI.1 hI.2.1, b_some, nm_d, q_homeMany hR hI.1 hI.2.1, b_some, a1, b_some, hI.2.2.2.2.2.2.1]
  exact ⟨_, _, _, rfl, rfl, h.track (n := n) (m := n + 1) (c := c) (by omega) (by omega) a3 (Inv_mono (Inv_ln hI) (nI_le (by omega) (by omega))) a2⟩
theorem gHC_tick {T : sOb} {c b : Nat} (h : Inv T c (nI b)) (hb : b < 2000000000) : gHC T c ≤ gHC (gTick T c) c := by
  unfold gTick
  split
  · exact Nat.le_refl _
  · rw [gHC_step h (nI_big hb) c (Nat.le_refl c)]
    omega
theorem gHC_it {c : Nat} : ∀ (d b : Nat) {T : sOb}, Inv T c (nI b) → b + d < 2000000000 → gHC T c ≤ gHC (gIt c d T) c
  | 0, _, _, _, _ => Nat.le_refl _
  | d + 1, b, T, h, hb => by
    rw [gIt_s]
    exact Nat.le_trans (gHC_tick h (by omega)) (gHC_it d (b + 1) (Inv_tick h (by omega)) (by omega))
theorem q_secs {c : Nat} (a h0 : Nat) (ha : a < 4000) : ∀ d i n : Nat, i + d = a → d < n → ∀ (T M : sOb) (b : Nat), Inv T c (nI b) → b + d < 2000000000 → RF (M.2.1 0) T → h0 ≤ gHC T c → ∃ M', fx3 (bX5_seconds_23 (nI a)) n (nI (gHC T c - h0)) (nI i) M = some (nI (gHC (gIt c d T) c - h0), M') ∧ RF (M'.2.1 0) (gIt c d T) ∧ Fm M M' := by
  intro d
  induction d with
  | zero =>
    intro i n hi hn T M b h hb hr hh
    obtain ⟨m, rfl⟩ : ∃ m, n = m + 1 := ⟨n - 1, by omega⟩
    obtain rfl : i = a := by omega
    refine ⟨M, ?_, hr, Fm.rf M⟩
    show bX5_seconds_23 _ _ _ _ _ = _
    unfold bX5_seconds_23
    rw [if_pos (Int32.le_refl _)]
    rfl
  | succ d ih =>
    intro i n hi hn T M b h hb hr hh
    obtain ⟨m, rfl⟩ : ∃ m, n = m + 1 := ⟨n - 1, by omega⟩
    have ht := gHC_tick h (show b < 2000000000 by omega)
    obtain ⟨M1, x, a1, a2, a3, a4⟩ : ∃ M1 x, fX5_goesOn M = some (x, M1) ∧ RF (M1.2.1 0) (gTick T c) ∧ Fm M M1 ∧ nI (gHC T c - h0) + x = nI (gHC (gTick T c) c - h0) := by
      by_cases q : gHC T c = c
      · refine ⟨M, 0, q_goesOn0 h hr q, ?_, Fm.rf M, ?_⟩
        · rw [gTick, if_pos q]
          exact hr
        · rw [gTick, if_pos q, Int32.add_zero]
      · obtain ⟨M', z1, z2, -, z4⟩ := q_goesOn h hr q
        refine ⟨M', _, z1, ?_, z4, ?_⟩
        · rw [gTick, if_neg q]
          exact z2
        · rw [gTick, if_neg q, nI_add, gHC_step h (nI_big (by omega)) c (Nat.le_refl c)]
          congr 1
          omega
    obtain ⟨M', b1, b2, b3⟩ := ih (i + 1) m (by omega) (by omega) (gTick T c) M1 (b + 1) (Inv_tick h (by omega)) (by omega) a2 (by omega)
    refine ⟨M', ?_, b2, a3.tr b3⟩
    rw [nI_succ] at b1
    show bX5_seconds_23 _ (fx3 (bX5_seconds_23 (nI a)) m) _ _ _ = _
    generalize fx3 (bX5_seconds_23 (nI a)) m = rc at b1 ⊢
    unfold bX5_seconds_23
    rw [if_neg (nI_ge (by omega) (by omega)), a1, b_some, nm_d, nm_d, a4]
    exact b1
theorem op_seconds {S : sWo} {M : sOb} {n : Nat} (h : Rel S M n) (hn : n < 512) (a : Int32) : Ok (fX4_seconds S a) (fX5_seconds M a) (n + 1) := by
  have hB := ok_found h (show n ≤ n + 1 by omega) (by omega) 0 (by omega) (-1000000001) fd0
  obtain ⟨c, hI⟩ := h.1
  have hR := h.2.1
  have hc := hI.1
  unfold fX4_seconds fX5_seconds
  rw [b_eta, b_eta, p_in a 1 600 (b' := 1) (c' := 600) rfl rfl, b_some, bi]
  by_cases e1 : a < 1
  · rw [if_pos e1, if_neg (show ¬ ((1 : Int32) ≤ a ∧ a ≤ 600) by clear hB; grind)]
    exact hB
  · rw [if_neg e1]
    by_cases e2 : a ≤ 600
    · have e3 : (1 : Int32) ≤ a ∧ a ≤ 600 := by clear hB; grind
      rw [if_pos e2, if_pos e3]
      obtain ⟨k, hk, rfl⟩ := nI_ex (c := 601) (by omega) (show 0 ≤ a by clear hB; grind) (show a < nI 601 by show a < (601 : Int32); clear hB; grind)
      have hIE := Inv_it k (600 * n) hI (by omega)
      obtain ⟨M', a1, a2, a3⟩ := q_secs (c := c) k (gHC (S 1) c) (by omega) k 0 FU (by omega) (by unfold FU; omega) (S 1) M (600 * n) hI (by omega) hR (Nat.le_refl _)
      rw [show gHC (S 1) c - gHC (S 1) c = 0 by omega, show nI 0 = (0 : Int32) from rfl] at a1
      rw [nm_d, p_goOnE k (by omega) hI (by omega), b_some, nm_d, a1, sUp_s, hIE.2.2.2.2.2.2.1, hI.2.2.2.2.2.2.1, pk_sub (gHC_it k (600 * n) hI (by omega))]
      exact ⟨_, _, _, rfl, rfl, h.track (n := n) (m := n + 1) (c := c) (by omega) (by omega) a3 (Inv_mono hIE (nI_le (by omega) (by omega))) a2⟩
    · rw [if_neg e2, if_neg (show ¬ ((1 : Int32) ≤ a ∧ a ≤ 600) by clear hB; grind)]
      exact hB
theorem op_now {S : sWo} {M : sOb} {n : Nat} (h : Rel S M n) (hn : n < 512) (a : Int32) : Ok (fX4_now S a) (fX5_now M a) (n + 1) := by
  have hB := ok_found h (show n ≤ n + 1 by omega) (by omega) 0 (by omega) (-1000000001) fd0
  obtain ⟨c, hI⟩ := h.1
  have hR := h.2.1
  unfold fX4_now fX5_now
  rw [b_eta, b_eta, q_homeMany hR hI.1 hI.2.1, b_some, cl_4, cl_1, cl_2, cl_3]
  by_cases e0 : a = 0
  · rw [if_pos e0, if_pos e0]
    exact ok_same h hn hR.2.2.2.2.1.symm
  rw [if_neg e0, if_neg e0]
  by_cases e1 : a = 1
  · rw [if_pos e1, if_pos e1]
    exact ok_same h hn hR.2.1.symm
  rw [if_neg e1, if_neg e1]
  by_cases e2 : a = 2
  · rw [if_pos e2, if_pos e2]
    exact ok_same h hn hR.2.2.1.symm
  rw [if_neg e2, if_neg e2]
  by_cases e3 : a = 3
  · rw [if_pos e3, if_pos e3]
    exact ok_same h hn hR.2.2.2.1.symm
  rw [if_neg e3, if_neg e3]
  by_cases e4 : a = 4
  · rw [if_pos e4, if_pos e4]
    exact ok_same h hn hI.2.2.2.2.2.2.1
  rw [if_neg e4, if_neg e4]
  exact hB
theorem op_place {S : sWo} {M : sOb} {n : Nat} (h : Rel S M n) (hn : n < 512) (a : Int32) : Ok (fX4_place S a) (fX5_place M a) (n + 1) := by
  have hB := ok_found h (show n ≤ n + 1 by omega) (by omega) 0 (by omega) (-1000000001) fd0
  obtain ⟨c, hI⟩ := h.1
  have hR := h.2.1
  unfold fX4_place fX5_place
  simp only [b_eta, p_has hI.1 hI.2.1, q_isRunner (hR.1.trans hI.2.1), b_so, bi, p_whose hI.1 hI.2.1, q_whose hR hI.1 hI.2.1]
  by_cases e : 0 ≤ a ∧ a < nI c
  · rw [if_pos e, if_pos e]
    exact ok_same h hn rfl
  · rw [if_neg e, if_neg e]
    exact hB
theorem gPz_n {T : sOb} {c : Nat} (hc : c ≤ 9) (law : Int32) : gPz T c law = -1 ∨ 0 ≤ gPz T c law := by
  rcases gPz_r (T := T) hc law with q | ⟨r, hr, q⟩
  · exact Or.inl q
  · rw [q]
    exact Or.inr (nI_pos' (by omega))
theorem op_prize {S : sWo} {M : sOb} {n : Nat} (h : Rel S M n) (hn : n < 512) : Ok (fX4_prize S) (fX5_prize M) (n + 1) := by
  obtain ⟨c, hI⟩ := h.1
  have hR := h.2.1
  unfold fX4_prize fX5_prize
  rw [p_prize hI.1 hI.2.1, b_some, b_eta, cl_3, hR.2.2.2.1, q_prize hR hI.1 hI.2.1, b_some, b_eta]
  exact ok_none h (by omega) (by omega) _ (gPz_n hI.1 _)
/-- who has most -/
def gMo (f : Nat → Int32) : Nat → Int32
  | 0 => -1
  | n + 1 => if gMo f n < 0 then nI n else if f n ≤ f (gMo f n).toNatClampNeg then gMo f n else nI n
theorem gMo_s (f : Nat → Int32) (n : Nat) : gMo f (n + 1) = if gMo f n < 0 then nI n else if f n ≤ f (gMo f n).toNatClampNeg then gMo f n else nI n := rfl
theorem gMo_r (f : Nat → Int32) : ∀ n, n ≤ 9 → gMo f n = -1 ∨ ∃ r, r < n ∧ gMo f n = nI r
  | 0, _ => Or.inl rfl
  | n + 1, hn => by
    rw [gMo_s]
    rcases gMo_r f n (by omega) with q | ⟨r, hr, q⟩
    · rw [q, if_pos (by decide)]
      exact Or.inr ⟨n, by omega, rfl⟩
    · rw [q, if_neg (nI_pos (by omega))]
      split
      · exact Or.inr ⟨r, by omega, rfl⟩
      · exact Or.inr ⟨n, by omega, rfl⟩
theorem p_most {S : sWo} {c k : Nat} (hc : c ≤ 9) (h4 : (S 1).1 4 = nI c) : fX4_most S k = some (gMo ((S 1).2.1 k) c) := by
  have key : ∀ d i n : Nat, i + d = c → d < n → fx2 (bX4_most_4 S k) n (gMo ((S 1).2.1 k) i) (nI i) = some (gMo ((S 1).2.1 k) c) := by
    intro d
    induction d with
    | zero =>
      intro i n hi hn
      obtain ⟨m, rfl⟩ : ∃ m, n = m + 1 := ⟨n - 1, by omega⟩
      obtain rfl : i = c := by omega
      show bX4_most_4 _ _ _ _ _ = _
      unfold bX4_most_4
      rw [h4, if_pos (Int32.le_refl _)]
    | succ d ih =>
      intro i n hi hn
      obtain ⟨m, rfl⟩ : ∃ m, n = m + 1 := ⟨n - 1, by omega⟩
      have IH := ih (i + 1) m (by omega) (by omega)
      rw [nI_succ, gMo_s] at IH
      show bX4_most_4 _ _ (fx2 (bX4_most_4 S k) m) _ _ = _
      generalize fx2 (bX4_most_4 S k) m = rc at IH ⊢
      unfold bX4_most_4
      rw [h4, if_neg (nI_ge (by omega) (by omega)), if_neg (show ¬ (9 : Int32) ≤ nI i from nI_ge (b := 9) (by omega) (by omega)), if_neg (ix_in (show i < 9 by omega) (by omega)), z_cl (by omega)]
      simp only [nm_d]
      rcases gMo_r ((S 1).2.1 k) i (by omega) with q | ⟨r, hr, q⟩
      · rw [q] at IH ⊢
        rw [if_pos (by decide)] at IH
        rw [if_pos rfl]
        exact IH
      · rw [q] at IH ⊢
        rw [if_neg (nI_pos (by omega)), z_cl (by omega)] at IH
        rw [if_neg (show ¬ nI r = -1 by have := nI_pos' (n := r) (by omega); generalize nI r = x at this ⊢; clear IH; grind), if_neg (ix_in (show r < 9 by omega) (by omega)), z_cl (by omega)]
        by_cases q2 : (S 1).2.1 k i ≤ (S 1).2.1 k r
        · rw [if_pos q2] at IH ⊢
          exact IH
        · rw [if_neg q2] at IH ⊢
          exact IH
  exact key c 0 FU (by omega) (by unfold FU; omega)
theorem q_leads {M T : sOb} {c : Nat} (h : RF (M.2.1 0) T) (hc : c ≤ 9) (h4 : T.1 4 = nI c) : fX5_leads M = fX5_orNone M (gMo (T.2.1 6) c) := by
  have h0 : M.2.1 0 0 = nI c := h.1.trans h4
  have key : ∀ d i n : Nat, i + d = c → d < n → fx2 (bX5_leads_4 M) n (gMo (T.2.1 6) i) (nI i) = fX5_orNone M (gMo (T.2.1 6) c) := by
    intro d
    induction d with
    | zero =>
      intro i n hi hn
      obtain ⟨m, rfl⟩ : ∃ m, n = m + 1 := ⟨n - 1, by omega⟩
      obtain rfl : i = c := by omega
      show bX5_leads_4 _ _ _ _ = _
      unfold bX5_leads_4
      rw [cl_0, h0, if_pos (Int32.le_refl _), b_eta]
    | succ d ih =>
      intro i n hi hn
      obtain ⟨m, rfl⟩ : ∃ m, n = m + 1 := ⟨n - 1, by omega⟩
      have IH := ih (i + 1) m (by omega) (by omega)
      rw [nI_succ, gMo_s] at IH
      show bX5_leads_4 _ (fx2 (bX5_leads_4 M) m) _ _ = _
      generalize fx2 (bX5_leads_4 M) m = rc at IH ⊢
      unfold bX5_leads_4
      rw [cl_0, h0, if_neg (nI_ge (by omega) (by omega)), q_is h (show i < 9 by omega) 6 (by omega) (v := 6) rfl, b_some]
      simp only [nm_d]
      rcases gMo_r (T.2.1 6) i (by omega) with q | ⟨r, hr, q⟩
      · rw [q] at IH ⊢
        rw [if_pos (by decide)] at IH
        rw [if_pos (by decide)]
        exact IH
      · rw [q] at IH ⊢
        rw [if_neg (nI_pos (by omega)), z_cl (by omega)] at IH
        rw [if_neg (nI_pos (by omega)), q_is h (show r < 9 by omega) 6 (by omega) (v := 6) rfl, b_some]
        by_cases q2 : T.2.1 6 i ≤ T.2.1 6 r
        · rw [if_pos q2] at IH ⊢
          exact IH
        · rw [if_neg q2] at IH ⊢
          exact IH
  exact key c 0 FU (by omega) (by unfold FU; omega)
theorem gMo_n (f : Nat → Int32) {n : Nat} (hn : n ≤ 9) : gMo f n = -1 ∨ 0 ≤ gMo f n := by
  rcases gMo_r f n hn with q | ⟨r, hr, q⟩
  · exact Or.inl q
  · rw [q]
    exact Or.inr (nI_pos' (by omega))
theorem op_leads {S : sWo} {M : sOb} {n : Nat} (h : Rel S M n) (hn : n < 512) : Ok (fX4_leads S) (fX5_leads M) (n + 1) := by
  obtain ⟨c, hI⟩ := h.1
  have hR := h.2.1
  unfold fX4_leads
  rw [p_most hI.1 hI.2.1, b_some, b_eta, q_leads hR hI.1 hI.2.1]
  exact ok_none h (by omega) (by omega) _ (gMo_n _ hI.1)
/-- a sum over the runners -/
def gSu (f : Nat → Int32) : Nat → Int32
  | 0 => 0
  | n + 1 => gSu f n + f n
theorem gSu_s (f : Nat → Int32) (n : Nat) : gSu f (n + 1) = gSu f n + f n := rfl
theorem p_sum {S : sWo} {c k : Nat} (hc : c ≤ 9) (h4 : (S 1).1 4 = nI c) : fX4_sum S k = some (gSu ((S 1).2.1 k) c) := by
  have key : ∀ d i n : Nat, i + d = c → d < n → fx2 (bX4_sum_4 S k) n (gSu ((S 1).2.1 k) i) (nI i) = some (gSu ((S 1).2.1 k) c) := by
    intro d
    induction d with
    | zero =>
      intro i n hi hn
      obtain ⟨m, rfl⟩ : ∃ m, n = m + 1 := ⟨n - 1, by omega⟩
      obtain rfl : i = c := by omega
      show bX4_sum_4 _ _ _ _ _ = _
      unfold bX4_sum_4
      rw [h4, if_pos (Int32.le_refl _)]
    | succ d ih =>
      intro i n hi hn
      obtain ⟨m, rfl⟩ : ∃ m, n = m + 1 := ⟨n - 1, by omega⟩
      have IH := ih (i + 1) m (by omega) (by omega)
      rw [nI_succ, gSu_s] at IH
      show bX4_sum_4 _ _ (fx2 (bX4_sum_4 S k) m) _ _ = _
      generalize fx2 (bX4_sum_4 S k) m = rc at IH ⊢
      unfold bX4_sum_4
      rw [h4, if_neg (nI_ge (by omega) (by omega)), if_neg (show ¬ (9 : Int32) ≤ nI i from nI_ge (b := 9) (by omega) (by omega)), if_neg (ix_in (show i < 9 by omega) (by omega)), z_cl (by omega), nm_d, nm_d]
      exact IH
  exact key c 0 FU (by omega) (by unfold FU; omega)
theorem q_sum {M T : sOb} {c : Nat} (h : RF (M.2.1 0) T) (hc : c ≤ 9) (h4 : T.1 4 = nI c) (k : Nat) (hk : k < 8) {v : Int32} (hv : v = nI k) : fX5_ofAll M v = some (gSu (T.2.1 k) c) := by
  have h0 : M.2.1 0 0 = nI c := h.1.trans h4
  have key : ∀ d i n : Nat, i + d = c → d < n → fx2 (bX5_ofAll_4 M v) n (gSu (T.2.1 k) i) (nI i) = some (gSu (T.2.1 k) c) := by
    intro d
    induction d with
    | zero =>
      intro i n hi hn
      obtain ⟨m, rfl⟩ : ∃ m, n = m + 1 := ⟨n - 1, by omega⟩
      obtain rfl : i = c := by omega
      show bX5_ofAll_4 _ _ _ _ _ = _
      unfold bX5_ofAll_4
      rw [cl_0, h0, if_pos (Int32.le_refl _)]
    | succ d ih =>
      intro i n hi hn
      obtain ⟨m, rfl⟩ : ∃ m, n = m + 1 := ⟨n - 1, by omega⟩
      have IH := ih (i + 1) m (by omega) (by omega)
      rw [nI_succ, gSu_s] at IH
      show bX5_ofAll_4 _ _ (fx2 (bX5_ofAll_4 M v) m) _ _ = _
      generalize fx2 (bX5_ofAll_4 M v) m = rc at IH ⊢
      unfold bX5_ofAll_4
      rw [cl_0, h0, if_neg (nI_ge (by omega) (by omega)), q_is h (show i < 9 by omega) k hk hv, b_some, nm_d, nm_d]
      exact IH
  exact key c 0 FU (by omega) (by unfold FU; omega)
theorem op_count {S : sWo} {M : sOb} {n : Nat} (h : Rel S M n) (hn : n < 512) (a : Int32) : Ok (fX4_count S a) (fX5_count M a) (n + 1) := by
  have hB := ok_found h (show n ≤ n + 1 by omega) (by omega) 0 (by omega) (-1000000001) fd0
  obtain ⟨c, hI⟩ := h.1
  have hR := h.2.1
  obtain ⟨z, -, z1, z2, -⟩ := h.2.2.2.2.1
  unfold fX4_count fX5_count
  rw [b_eta, b_eta, cl_0, p_sum hI.1 hI.2.1, p_sum hI.1 hI.2.1, p_sum hI.1 hI.2.1, b_some, b_some, b_some, q_sum hR hI.1 hI.2.1 5 (by omega) (v := 5) rfl, q_sum hR hI.1 hI.2.1 2 (by omega) (v := 2) rfl, q_sum hR hI.1 hI.2.1 6 (by omega) (v := 6) rfl, b_some, b_some, b_some]
  by_cases e0 : a = 0
  · rw [if_pos e0, if_pos e0]
    exact ok_same h hn hR.1.symm
  rw [if_neg e0, if_neg e0]
  by_cases e1 : a = 1
  · rw [if_pos e1, if_pos e1]
    exact ok_same h hn (z1.trans z2.symm)
  rw [if_neg e1, if_neg e1]
  by_cases e2 : a = 2
  · rw [if_pos e2, if_pos e2]
    exact ok_same h hn rfl
  rw [if_neg e2, if_neg e2]
  by_cases e3 : a = 3
  · rw [if_pos e3, if_pos e3]
    exact ok_same h hn rfl
  rw [if_neg e3, if_neg e3]
  by_cases e4 : a = 4
  · rw [if_pos e4, if_pos e4]
    exact ok_same h hn rfl
  rw [if_neg e4, if_neg e4]
  exact hB
theorem p_status7 (S : sWo) : fx2 (bX4_status_33 S) FU (0 : Int32) (0 : Int32) = some (s7 ((S 0).2.1 0), S) := by
  have key : ∀ d i n : Nat, i + d = 7 → d < n → fx2 (bX4_status_33 S) n (gSu ((S 0).2.1 0) i) (nI i) = some (gSu ((S 0).2.1 0) 7, S) := by
    intro d
    induction d with
    | zero =>
      intro i n hi hn
      obtain ⟨m, rfl⟩ : ∃ m, n = m + 1 := ⟨n - 1, by omega⟩
      obtain rfl : i = 7 := by omega
      show bX4_status_33 _ _ _ _ = _
      unfold bX4_status_33
      rw [if_pos (show (7 : Int32) ≤ nI 7 from Int32.le_refl _)]
    | succ d ih =>
      intro i n hi hn
      obtain ⟨m, rfl⟩ : ∃ m, n = m + 1 := ⟨n - 1, by omega⟩
      have IH := ih (i + 1) m (by omega) (by omega)
      rw [nI_succ, gSu_s] at IH
      show bX4_status_33 _ (fx2 (bX4_status_33 S) m) _ _ = _
      generalize fx2 (bX4_status_33 S) m = rc at IH ⊢
      unfold bX4_status_33
      rw [if_neg (show ¬ (7 : Int32) ≤ nI i from nI_ge (b := 7) (by omega) (by omega)), if_neg (ix_in (show i < 7 by omega) (by omega)), z_cl (by omega), nm_d, nm_d]
      exact IH
  have e : gSu ((S 0).2.1 0) 7 = s7 ((S 0).2.1 0) := rfl
  have hk := key 7 0 FU (by omega) (by unfold FU; omega)
  rw [e] at hk
  exact hk
theorem op_status {S : sWo} {M : sOb} {n : Nat} (h : Rel S M n) (hn : n < 512) (a : Int32) : Ok (fX4_status S a) (fX5_status M a) (n + 1) := by
  have hB := ok_found h (show n ≤ n + 1 by omega) (by omega) 0 (by omega) (-1000000001) fd0
  obtain ⟨hf, hf0⟩ := h.2.2.2.1
  unfold fX4_status fX5_status
  rw [b_eta, b_eta, p_in a (-1) 6 (b' := -1) (c' := 6) rfl rfl, b_some, bi, p_status7]
  by_cases e1 : a < -1
  · rw [if_pos e1, if_neg (show ¬ ((-1 : Int32) ≤ a ∧ a ≤ 6) by clear hB hf hf0; grind)]
    exact hB
  · rw [if_neg e1]
    by_cases e2 : a < 7
    · rw [if_pos e2, if_pos (show (-1 : Int32) ≤ a ∧ a ≤ 6 by clear hB hf hf0; grind)]
      by_cases e3 : a < 0
      · obtain rfl : a = -1 := by clear hB hf hf0; grind
        rw [if_pos e3, if_neg (show ¬ ((-1 : Int32) + 1 < 0 ∨ 8 ≤ ((-1 : Int32) + 1).toNatClampNeg) by decide), show ((-1 : Int32) + 1).toNatClampNeg = 0 from rfl]
        exact ok_same h hn hf0.symm
      · obtain ⟨j, hj, rfl⟩ := nI_ex (c := 7) (by omega) (show 0 ≤ a by clear hB hf hf0; grind) (show a < nI 7 from e2)
        rw [if_neg e3, if_neg (ix_in hj (by omega)), z_cl (by omega), show nI j + (1 : Int32) = nI (j + 1) from (nI_succ j).symm, if_neg (ix_in (show j + 1 < 8 by omega) (by omega)), z_cl (by omega)]
        exact ok_same h hn (hf j hj).symm
    · rw [if_neg e2, if_neg (show ¬ ((-1 : Int32) ≤ a ∧ a ≤ 6) by clear hB hf hf0; grind)]
      exact hB
