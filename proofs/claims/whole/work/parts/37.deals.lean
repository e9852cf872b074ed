/-! PURE: score, fair, deal -/
theorem Inv_6 {T : sOb} {c r : Nat} {B v : Int32} (h : Inv T c B) : Inv (sSa T 6 r v) c B := by
  obtain ⟨h0, h4, hL, hl, hw, hs, h5, hR⟩ := h
  refine ⟨h0, h4, hL, hl, hw, hs, ?_, fun r' hr' => ?_⟩
  · rw [gHC_congr (T := sSa T 6 r v) (T2 := T) c (fun i _ => by rw [sSa_other (by omega)])]
    exact h5
  · unfold IR
    rw [sSa_other (show 0 ≠ 6 by decide), sSa_other (show 1 ≠ 6 by decide), sSa_other (show 2 ≠ 6 by decide), sSa_other (show 3 ≠ 6 by decide), sSa_other (show 4 ≠ 6 by decide), sSa_other (show 5 ≠ 6 by decide), sSa_other (show 7 ≠ 6 by decide)]
    exact hR r' hr'
theorem lp_score {c : Nat} {B : Int32} (q : Int32) : ∀ d i m : Nat, i + d = c → d < m → ∀ (T M : sOb) (x : Int32), Inv T c B → RF (M.2.1 0) T → ∃ y T' M', fx3 (bX3_givePoints_13 q) m x (nI i) T = some (y, T') ∧ fx3 (bX5_score_44 q) m x (nI i) M = some (y, M') ∧ Inv T' c B ∧ RF (M'.2.1 0) T' ∧ Fm M M' := by
  intro d
  induction d with
  | zero =>
    intro i m hi hm T M x hI hR
    obtain ⟨f, rfl⟩ : ∃ f, m = f + 1 := ⟨m - 1, by omega⟩
    obtain rfl : i = c := by omega
    refine ⟨x, T, M, ?_, ?_, hI, hR, Fm.rf M⟩
    · show bX3_givePoints_13 _ _ _ _ _ = _
      unfold bX3_givePoints_13
      rw [hI.2.1, if_pos (Int32.le_refl _)]
    · show bX5_score_44 _ _ _ _ _ = _
      unfold bX5_score_44
      rw [cl_0, hR.1, hI.2.1, if_pos (Int32.le_refl _)]
  | succ d ih =>
    intro i m hi hm T M x hI hR
    obtain ⟨f, rfl⟩ : ∃ f, m = f + 1 := ⟨m - 1, by omega⟩
    have hc := hI.1
    have hi9 : i < 9 := by omega
    have key : ∀ v x' : Int32, ∃ y T' M', fx3 (bX3_givePoints_13 q) f x' (nI i + 1) (sSa T 6 i v) = some (y, T') ∧ fx3 (bX5_score_44 q) f x' (nI i + 1) (sSa M 0 (5 + 8 * i + 6) v) = some (y, M') ∧ Inv T' c B ∧ RF (M'.2.1 0) T' ∧ Fm M M' := by
      intro v x'
      have := ih (i + 1) f (by omega) (by omega) (sSa T 6 i v) (sSa M 0 (5 + 8 * i + 6) v) x' (Inv_6 hI) (by rw [sSa_same]; exact hR.put hi9 (by omega) v)
      rw [nI_succ] at this
      obtain ⟨y, T', M', a1, a2, a3, a4, a5⟩ := this
      exact ⟨y, T', M', a1, a2, a3, a4, (Fm.a0 M _ _).tr a5⟩
    show ∃ y T' M', bX3_givePoints_13 _ (fx3 (bX3_givePoints_13 q) f) _ _ _ = _ ∧ bX5_score_44 _ (fx3 (bX5_score_44 q) f) _ _ _ = _ ∧ _
    generalize fx3 (bX3_givePoints_13 q) f = rc at key ⊢
    generalize fx3 (bX5_score_44 q) f = rm at key ⊢
    unfold bX3_givePoints_13 bX5_score_44
    rw [hI.2.1, cl_0, hR.1, hI.2.1, if_neg (nI_ge (by omega) (by omega)), if_neg (nI_ge (by omega) (by omega)), p_place hc hI.2.1 (by omega), q_place hR hc hI.2.1 (by omega), b_some, b_some, nm_d, nm_d]
    by_cases e : nI i = q
    · rw [if_pos e, if_pos e]
      dsimp only
      rw [nm_d, nm_d, if_neg (ix_in hi9 (by omega)), z_cl (show i < 2147483648 by omega), nm_d, nm_d, nm_d, q_is hR hi9 6 (by omega) (v := 6) rfl, b_some, q_puts hi9 6 (by omega) (v := 6) rfl, b_some, nm_d, nm_d]
      exact key _ _
    · rw [if_neg e, if_neg e]
      dsimp only
      rw [nm_d, nm_d, if_neg (ix_in hi9 (by omega)), z_cl (show i < 2147483648 by omega), nm_d, nm_d, nm_d, q_is hR hi9 6 (by omega) (v := 6) rfl, b_some, q_puts hi9 6 (by omega) (v := 6) rfl, b_some, nm_d, nm_d]
      exact key _ _
theorem op_score {S : sWo} {M : sOb} {n : Nat} (h : Rel S M n) (hn : n < 512) : Ok (fX4_score S) (fX5_score M) (n + 1) := by
  have hB := ok_found h (show n ≤ n + 1 by omega) (by omega) 4 (by omega) (-1000000005) fd4
  obtain ⟨c, hI⟩ := h.1
  have hR := h.2.1
  have hc := hI.1
  have hle := gHC_le (S 1) c
  unfold fX4_score fX5_score
  rw [hI.2.1, cl_0, hR.1, hI.2.1, b_eta, b_eta, p_allHome hI, b_some, bi, q_homeMany hR hI.1 hI.2.1, b_some]
  by_cases e : nI c = 0
  · rw [if_pos e, if_pos e]
    exact hB
  · rw [if_neg e, if_neg e]
    by_cases q : gHC (S 1) c = c
    · rw [if_pos q, if_pos (show nI c ≤ nI (gHC (S 1) c) by rw [q]; exact Int32.le_refl _)]
      unfold fX3_givePoints
      rw [p_prize hc hI.2.1, b_some, cl_3, hR.2.2.2.1, q_prize hR hc hI.2.1, b_some]
      obtain ⟨y, T', M', a1, a2, a3, a4, a5⟩ := lp_score (c := c) (gPz (S 1) c ((S 1).1 2)) c 0 FU (by omega) (by unfold FU; omega) (S 1) M 0 (Inv_mono hI (nI_le (b := 600 * (n + 1)) (by omega) (by omega))) hR
      rw [show nI 0 = (0 : Int32) from rfl] at a1 a2
      rw [a1, a2, b_some, nm_d]
      exact ⟨y, _, M', rfl, rfl, h.track (by omega) (by omega) a5 a3 a4⟩
    · rw [if_neg q, if_neg (nI_ge (by omega) (by omega))]
      exact hB
/-- who has the best pace, as the reference looks -/
theorem q_fairMost {M T : sOb} {c : Nat} (h : RF (M.2.1 0) T) (hc : c ≤ 9) (h4 : T.1 4 = nI c) (k : Int32 → Option (Int32 × sOb)) : fx2 (bX5_fair_4 M k) FU (-1) 0 = k (gMo (T.2.1 1) c) := by
  have h0 : M.2.1 0 0 = nI c := h.1.trans h4
  have key : ∀ d i n : Nat, i + d = c → d < n → fx2 (bX5_fair_4 M k) n (gMo (T.2.1 1) i) (nI i) = k (gMo (T.2.1 1) c) := by
    intro d
    induction d with
    | zero =>
      intro i n hi hn
      obtain ⟨m, rfl⟩ : ∃ m, n = m + 1 := ⟨n - 1, by omega⟩
      obtain rfl : i = c := by omega
      show bX5_fair_4 _ _ _ _ _ = _
      unfold bX5_fair_4
      rw [cl_0, h0, if_pos (Int32.le_refl _)]
    | succ d ih =>
      intro i n hi hn
      obtain ⟨m, rfl⟩ : ∃ m, n = m + 1 := ⟨n - 1, by omega⟩
      have IH := ih (i + 1) m (by omega) (by omega)
      rw [nI_succ, gMo_s] at IH
      show bX5_fair_4 _ _ (fx2 (bX5_fair_4 M k) m) _ _ = _
      generalize fx2 (bX5_fair_4 M k) m = rc at IH ⊢
      unfold bX5_fair_4
      rw [cl_0, h0, if_neg (nI_ge (by omega) (by omega)), q_is h (show i < 9 by omega) 1 (by omega) (v := 1) rfl, b_some]
      simp only [nm_d]
      rcases gMo_r (T.2.1 1) i (by omega) with q | ⟨r, hr, q⟩
      · rw [q] at IH ⊢
        rw [if_pos (by decide)] at IH
        rw [if_pos (by decide)]
        exact IH
      · rw [q] at IH ⊢
        rw [if_neg (nI_pos (by omega)), z_cl (by omega)] at IH
        rw [if_neg (nI_pos (by omega)), q_is h (show r < 9 by omega) 1 (by omega) (v := 1) rfl, b_some]
        by_cases q2 : T.2.1 1 i ≤ T.2.1 1 r
        · rw [if_pos q2] at IH ⊢
          exact IH
        · rw [if_neg q2] at IH ⊢
          exact IH
  have := key c 0 FU (by omega) (by unfold FU; omega)
  rw [show nI 0 = (0 : Int32) from rfl] at this
  exact this
theorem lp_fair {n c : Nat} {w : Int32} (hn : n < 512) (hw : ¬ w < 0) : ∀ d i m : Nat, i + d = 6 → d < m → ∀ (S : sWo) (M : sOb), Rel S M n → Inv (S 1) c (nI (600 * n)) → Ok (fx2 (bX4_fair_26 w) m (nI i) S) (fx2 (bX5_fair_47 w) m (nI i) M) (n + 1) := by
  intro d
  induction d with
  | zero =>
    intro i m hi hm S M h hI
    obtain ⟨f, rfl⟩ : ∃ f, m = f + 1 := ⟨m - 1, by omega⟩
    obtain rfl : i = 6 := by omega
    show Ok (bX4_fair_26 _ _ _ _) (bX5_fair_47 _ _ _ _) _
    unfold bX4_fair_26 bX5_fair_47
    rw [if_pos (show (5 : Int32) < nI 6 from nI_lt (a := 5) (by omega) (by omega)), if_pos (show (5 : Int32) < nI 6 from nI_lt (a := 5) (by omega) (by omega)), b_eta, b_eta]
    exact ok_found h (by omega) (by omega) 3 (by omega) (-1000000004) fd3
  | succ d ih =>
    intro i m hi hm S M h hI
    obtain ⟨f, rfl⟩ : ∃ f, m = f + 1 := ⟨m - 1, by omega⟩
    have hc := hI.1
    have hIT : Inv (gTO (S 2) (S 1)) c (nI (600 * n)) := Inv_TO hI
    have hv : 0 ≤ nI i ∧ nI i ≤ 5 := ⟨nI_pos' (by omega), nI_le (b := 5) (by omega) (by omega)⟩
    have hno : ¬ (5 : Int32) < nI i := nI_nlt (a := 5) (by omega) (by omega)
    have hI1 := Inv_h1 hIT hv
    obtain ⟨M1, a1, a2, -, a4⟩ := q_trial M
    have hR1 : RF ((sSa M1 0 2 (nI i)).2.1 0) (sSs (gTO (S 2) (S 1)) 1 (nI i)) := by
      rw [sSa_same, a2]
      exact RF_h1 (RF_TO h.2.1) (nI i)
    obtain ⟨M2, b1, b2⟩ := q_race hI1 hR1
    obtain ⟨M', d1, d2⟩ := a4 M2 ((Fm.a0 M1 2 (nI i)).tr b2)
    have hS : ∀ o, o ≠ 2 → sUp (sUp (sUp S 2 (gTO (S 2) (S 1))) 2 (sSs (gTO (S 2) (S 1)) 1 (nI i))) 2 (gRE (sSs (gTO (S 2) (S 1)) 1 (nI i)) c) o = S o := fun o ho => by rw [sUp_n ho, sUp_n ho, sUp_n ho]
    have h' := h.trial hS d2
    have ih2 := ih (i + 1) f (by omega) (by omega) _ _ h' (by rw [hS 1 (by decide)]; exact hI)
    rw [nI_succ] at ih2
    show Ok (bX4_fair_26 _ (fx2 (bX4_fair_26 w) f) _ _) (bX5_fair_47 _ (fx2 (bX5_fair_47 w) f) _ _) _
    generalize fx2 (bX4_fair_26 w) f = rc at ih2 ⊢
    generalize fx2 (bX5_fair_47 w) f = rm at ih2 ⊢
    unfold bX4_fair_26 bX5_fair_47
    rw [if_neg hno, if_neg hno, if_neg hw, p_tryOut, b_some, nm_d, sUp_s, sUp_s, p_race hI1, b_some, nm_d, a1, b_some, cl_2, nm_d, nm_d, b1, b_some, nm_d]
    dsimp only
    rw [d1]
    by_cases q : gRa (sSs (gTO (S 2) (S 1)) 1 (nI i)) c = w
    · rw [if_pos q, if_pos q, b_some, if_neg n10]
      exact ⟨_, _, _, rfl, rfl, h'.mono (by omega) (by omega)⟩
    · rw [if_neg q, if_neg q, b_some, if_pos rfl, nm_d]
      exact ih2
theorem op_fair {S : sWo} {M : sOb} {n : Nat} (h : Rel S M n) (hn : n < 512) : Ok (fX4_fair S) (fX5_fair M) (n + 1) := by
  have hB := ok_found h (show n ≤ n + 1 by omega) (by omega) 3 (by omega) (-1000000004) fd3
  obtain ⟨c, hI⟩ := h.1
  have hR := h.2.1
  have hc := hI.1
  unfold fX4_fair fX5_fair
  rw [p_most hc hI.2.1, b_some, nm_d, q_fairMost hR hc hI.2.1, b_eta]
  rcases gMo_r ((S 1).2.1 1) c hc with q | ⟨r, hr, q⟩
  · rw [q, if_pos rfl]
    obtain ⟨f, hf⟩ : ∃ f, FU = f + 1 := ⟨4999, rfl⟩
    rw [hf]
    show Ok _ (bX5_fair_47 _ _ _ _) _
    unfold bX5_fair_47
    rw [if_neg (by decide), if_pos (by decide), b_eta]
    exact hB
  · rw [q, if_neg (show ¬ nI r = -1 by have := nI_pos' (n := r) (by omega); generalize nI r = y at this ⊢; clear hB q; grind)]
    have := lp_fair (c := c) hn (nI_pos (n := r) (by omega)) 6 0 FU (by omega) (by unfold FU; omega) S M h hI
    rw [show nI 0 = (0 : Int32) from rfl] at this
    exact this
/-- two change their paces -/
def gCP (T : sOb) (i j : Nat) : sOb := sSa (sSa T 1 i (T.2.1 1 j)) 1 j (T.2.1 1 i)
theorem Inv_CP {T : sOb} {c i j : Nat} {B : Int32} (h : Inv T c B) (hi : i < c) (hj : j < c) : Inv (gCP T i j) c B := by
  have hR := h.2.2.2.2.2.2.2
  have h1 := Inv_set h hi (show 1 < 5 by omega) (IR_1 (hR i hi) (hR j hj).2.1)
  exact Inv_set h1 hj (show 1 < 5 by omega) (IR_1 (h1.2.2.2.2.2.2.2 j hj) (hR i hi).2.1)
theorem p_CP {T : sOb} {c i j : Nat} (hc : c ≤ 9) (h4 : T.1 4 = nI c) (hi : i < c) (hj : j < c) : fX3_changePaces T (nI i) (nI j) = some (gCP T i j) := by
  unfold fX3_changePaces
  rw [p_has1 hc h4 hi, b_some, if_neg n10, p_has1 hc h4 hj, b_some, if_neg n10, if_neg (ix_in (show i < 9 by omega) (by omega)), nm_d, if_neg (ix_in (show j < 9 by omega) (by omega)), nm_d, nm_d, z_cl (show i < 2147483648 by omega), z_cl (show j < 2147483648 by omega)]
  rfl
theorem q_prizeIf {M T : sOb} {c i j : Nat} {B : Int32} (hI : Inv T c B) (hR : RF (M.2.1 0) T) (hi : i < c) (hj : j < c) : ∃ M', fX5_prizeIf M (nI i) (nI j) = some (gRa (gCP T i j) c, M') ∧ Fq M M' := by
  have hc := hI.1
  obtain ⟨M1, a1, a2, a3, a4⟩ := q_trial M
  have e1 : M1.2.1 2 (5 + 8 * j + 1) = T.2.1 1 j := by rw [a3 _ (by omega), hR.at (show j < 9 by omega) (show 1 < 8 by omega)]
  obtain ⟨M2, b1, b2, b3⟩ := q_put1 (M := M1) (T := T) (by rw [a2]; exact hR) (show i < 9 by omega) 1 (by omega) (v := 1) rfl (T.2.1 1 j)
  have e2 : M2.2.1 2 (5 + 8 * i + 1) = T.2.1 1 i := by rw [b3.2.1 2 (by decide) (by decide), a3 _ (by omega), hR.at (show i < 9 by omega) (show 1 < 8 by omega)]
  obtain ⟨M3, c1, c2, c3⟩ := q_put1 b2 (show j < 9 by omega) 1 (by omega) (v := 1) rfl (T.2.1 1 i)
  obtain ⟨M4, d1, d2⟩ := q_race (Inv_CP hI hi hj) c2
  obtain ⟨M5, f1, f2⟩ := a4 M4 ((b3.tr c3).tr d2)
  refine ⟨M5, ?_, f2⟩
  unfold fX5_prizeIf
  rw [a1, b_some, show ((5 : Int32) + (8 : Int32) * nI j) + 1 = nI (5 + 8 * j + 1) from ix_ru j 1, show ((5 : Int32) + (8 : Int32) * nI i) + 1 = nI (5 + 8 * i + 1) from ix_ru i 1, if_neg (ix_in (show 5 + 8 * j + 1 < 77 by omega) (by omega)), z_cl (show 5 + 8 * j + 1 < 2147483648 by omega), e1, b1, b_some, if_neg (ix_in (show 5 + 8 * i + 1 < 77 by omega) (by omega)), z_cl (show 5 + 8 * i + 1 < 2147483648 by omega), e2, c1, b_some, d1, b_some, f1, b_some]
theorem lp_deal2 {n c i : Nat} {w : Int32} (T0 M0 : sOb) (hn : n < 512) (rc : Int32 → sWo → Option (Int32 × sWo)) (rm : Int32 → sOb → Option (Int32 × sOb)) (H : ∀ S M, Rel S M n → Inv (S 1) c (nI (600 * n)) → Ok (rc (nI i + 1) S) (rm (nI i + 1) M) (n + 1)) : ∀ d j m : Nat, j + d = c → i < j → d < m → ∀ (S : sWo) (M : sOb), Rel S M n → Inv (S 1) c (nI (600 * n)) → Ok (fx2 (bX4_deal_37 (w, T0) rc (nI i)) m (nI j) S) (fx2 (bX5_deal_33 (w, M0) rm (nI i)) m (nI j) M) (n + 1) := by
  intro d
  induction d with
  | zero =>
    intro j m hj hij hm S M h hI
    obtain ⟨f, rfl⟩ : ∃ f, m = f + 1 := ⟨m - 1, by omega⟩
    obtain rfl : j = c := by omega
    show Ok (bX4_deal_37 _ _ _ _ _ _) (bX5_deal_33 _ _ _ _ _ _) _
    unfold bX4_deal_37 bX5_deal_33
    rw [hI.2.1, cl_0, h.2.1.1, hI.2.1, if_pos (Int32.le_refl _), if_pos (Int32.le_refl _), nm_d, nm_d]
    exact H S M h hI
  | succ d ih =>
    intro j m hj hij hm S M h hI
    obtain ⟨f, rfl⟩ : ∃ f, m = f + 1 := ⟨m - 1, by omega⟩
    have hc := hI.1
    have hIT : Inv (gTO (S 2) (S 1)) c (nI (600 * n)) := Inv_TO hI
    have hI1 := Inv_CP hIT (show i < c by omega) (show j < c by omega)
    obtain ⟨M', b1, b2⟩ := q_prizeIf hIT (RF_TO h.2.1) (show i < c by omega) (show j < c by omega)
    have hS : ∀ o, o ≠ 2 → sUp (sUp (sUp S 2 (gTO (S 2) (S 1))) 2 (gCP (gTO (S 2) (S 1)) i j)) 2 (gRE (gCP (gTO (S 2) (S 1)) i j) c) o = S o := fun o ho => by rw [sUp_n ho, sUp_n ho, sUp_n ho]
    have h' := h.trial hS b2
    have ih2 := ih (j + 1) f (by omega) (by omega) (by omega) _ _ h' (by rw [hS 1 (by decide)]; exact hI)
    rw [nI_succ] at ih2
    show Ok (bX4_deal_37 _ _ _ (fx2 (bX4_deal_37 (w, T0) rc (nI i)) f) _ _) (bX5_deal_33 _ _ _ (fx2 (bX5_deal_33 (w, M0) rm (nI i)) f) _ _) _
    generalize fx2 (bX4_deal_37 (w, T0) rc (nI i)) f = rc' at ih2 ⊢
    generalize fx2 (bX5_deal_33 (w, M0) rm (nI i)) f = rm' at ih2 ⊢
    unfold bX4_deal_37 bX5_deal_33
    rw [hI.2.1, cl_0, h.2.1.1, hI.2.1, if_neg (nI_ge (by omega) (by omega)), if_neg (nI_ge (by omega) (by omega)), p_tryOut, b_some, sUp_s, p_CP hc hIT.2.1 (by omega) (by omega), b_some, nm_d, sUp_s, p_race hI1, b_some, nm_d, b1, b_some]
    dsimp only
    rcases gRa_n (T := gCP (gTO (S 2) (S 1)) i j) hc with q | q
    · rw [q, if_pos rfl, if_pos (by decide), nm_d, nm_d]
      exact ih2
    · rw [if_neg (show ¬ gRa (gCP (gTO (S 2) (S 1)) i j) c = -1 by intro z; rw [z] at q; exact absurd q (by decide)), if_neg (show ¬ gRa (gCP (gTO (S 2) (S 1)) i j) c < 0 from Int32.not_lt.mpr q)]
      by_cases q2 : gRa (gCP (gTO (S 2) (S 1)) i j) c = w
      · rw [if_pos q2, if_pos q2, nm_d, nm_d]
        exact ih2
      · rw [if_neg q2, if_neg q2]
        exact ⟨_, _, _, rfl, rfl, h'.mono (by omega) (by omega)⟩
theorem lp_deal {n c : Nat} {w : Int32} (T0 M0 : sOb) (hn : n < 512) (hw : ¬ w < 0) : ∀ d i m : Nat, i + d = c → d < m → ∀ (S : sWo) (M : sOb), Rel S M n → Inv (S 1) c (nI (600 * n)) → Ok (fx2 (bX4_deal_22 (w, T0)) m (nI i) S) (fx2 (bX5_deal_15 (w, M0)) m (nI i) M) (n + 1) := by
  intro d
  induction d with
  | zero =>
    intro i m hi hm S M h hI
    obtain ⟨f, rfl⟩ : ∃ f, m = f + 1 := ⟨m - 1, by omega⟩
    obtain rfl : i = c := by omega
    show Ok (bX4_deal_22 _ _ _ _) (bX5_deal_15 _ _ _ _) _
    unfold bX4_deal_22 bX5_deal_15
    rw [hI.2.1, cl_0, h.2.1.1, hI.2.1, if_pos (Int32.le_refl _), if_pos (Int32.le_refl _), b_eta, b_eta]
    exact ok_found h (by omega) (by omega) 3 (by omega) (-1000000004) fd3
  | succ d ih =>
    intro i m hi hm S M h hI
    obtain ⟨f, rfl⟩ : ∃ f, m = f + 1 := ⟨m - 1, by omega⟩
    have hc := hI.1
    have H : ∀ S M, Rel S M n → Inv (S 1) c (nI (600 * n)) → Ok (fx2 (bX4_deal_22 (w, T0)) f (nI i + 1) S) (fx2 (bX5_deal_15 (w, M0)) f (nI i + 1) M) (n + 1) := by
      intro S M h hI
      have := ih (i + 1) f (by omega) (by omega) S M h hI
      rw [nI_succ] at this
      exact this
    show Ok (bX4_deal_22 _ (fx2 (bX4_deal_22 (w, T0)) f) _ _) (bX5_deal_15 _ (fx2 (bX5_deal_15 (w, M0)) f) _ _) _
    generalize fx2 (bX4_deal_22 (w, T0)) f = rc at H ⊢
    generalize fx2 (bX5_deal_15 (w, M0)) f = rm at H ⊢
    have := lp_deal2 (w := w) T0 M0 hn rc rm H (c - (i + 1)) (i + 1) FU (by omega) (by omega) (by unfold FU; omega) S M h hI
    rw [nI_succ] at this
    unfold bX4_deal_22 bX5_deal_15
    rw [hI.2.1, cl_0, h.2.1.1, hI.2.1, if_neg (nI_ge (by omega) (by omega)), if_neg (nI_ge (by omega) (by omega)), nm_d, nm_d]
    rw [if_neg (show ¬ (w, M0).1 < 0 from hw)]
    exact this
theorem op_deal {S : sWo} {M : sOb} {n : Nat} (h : Rel S M n) (hn : n < 512) : Ok (fX4_deal S) (fX5_deal M) (n + 1) := by
  obtain ⟨c, hI⟩ := h.1
  have hR := h.2.1
  have hc := hI.1
  have hIT : Inv (gTO (S 2) (S 1)) c (nI (600 * n)) := Inv_TO hI
  obtain ⟨M1, a1, a2, -, a4⟩ := q_trial M
  have hR1 : RF (M1.2.1 0) (gTO (S 2) (S 1)) := by rw [a2]; exact RF_TO hR
  obtain ⟨M2, b1, b3⟩ := q_race hIT hR1
  obtain ⟨M3, c1, c2⟩ := a4 M2 b3
  have h' := h.trial (S' := sUp (sUp S 2 (gTO (S 2) (S 1))) 2 (gRE (gTO (S 2) (S 1)) c)) up22 c2
  have hI' : Inv ((sUp (sUp S 2 (gTO (S 2) (S 1))) 2 (gRE (gTO (S 2) (S 1)) c)) 1) c (nI (600 * n)) := by
    rw [up22 1 (by decide)]
    exact hI
  unfold fX4_deal fX5_deal
  rw [p_tryOut, b_some, sUp_s, p_race hIT, b_some, nm_d, b_eta, a1, b_some, b1, b_some, c1, b_some]
  dsimp only
  rcases gRa_n (T := gTO (S 2) (S 1)) hc with q | q
  · rw [if_pos q]
    obtain ⟨f, hf⟩ : ∃ f, FU = f + 1 := ⟨4999, rfl⟩
    rw [hf]
    show Ok _ (bX5_deal_15 _ (fx2 _ f) _ _) _
    generalize fx2 (bX5_deal_15 (gRa (gTO (S 2) (S 1)) c, M2)) f = rm
    unfold bX5_deal_15
    have hB := ok_found h' (show n ≤ n + 1 by omega) (by omega) 3 (by omega) (-1000000004) fd3
    rw [b_eta]
    split
    · exact hB
    · dsimp only
      rw [if_pos (show gRa (gTO (S 2) (S 1)) c < 0 by rw [q]; decide)]
      exact hB
  · rw [if_neg (show ¬ gRa (gTO (S 2) (S 1)) c = -1 by intro z; rw [z] at q; exact absurd q (by decide))]
    have := lp_deal (c := c) (w := gRa (gTO (S 2) (S 1)) c) (gRE (gTO (S 2) (S 1)) c) M2 hn (Int32.not_lt.mpr q) c 0 FU (by omega) (by unfold FU; omega) _ _ h' hI'
    rw [show nI 0 = (0 : Int32) from rfl] at this
    exact this
