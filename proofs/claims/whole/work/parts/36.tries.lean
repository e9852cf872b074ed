/-! PURE: what is tried for one runner: pace, kind, start, friend, favours -/
theorem IR_0 {T : sOb} {c r : Nat} {v : Int32} (h : IR T c r) (hv : 0 ≤ v ∧ v ≤ 5) : IR (sSa T 0 r v) c r := by
  obtain ⟨r0, r1, r2, r3, r4, r5, r7⟩ := h
  unfold IR
  rw [sSa_other (show 1 ≠ 0 by decide), sSa_other (show 2 ≠ 0 by decide), sSa_other (show 3 ≠ 0 by decide), sSa_other (show 4 ≠ 0 by decide), sSa_other (show 5 ≠ 0 by decide), sSa_other (show 7 ≠ 0 by decide), show (sSa T 0 r v).2.1 0 r = v by rw [sSa_at, if_pos ⟨rfl, rfl⟩]]
  exact ⟨hv, r1, r2, r3, r4, r5, r7⟩
theorem IR_1 {T : sOb} {c r : Nat} {v : Int32} (h : IR T c r) (hv : 1 ≤ v ∧ v ≤ 12) : IR (sSa T 1 r v) c r := by
  obtain ⟨r0, r1, r2, r3, r4, r5, r7⟩ := h
  unfold IR
  rw [sSa_other (show 0 ≠ 1 by decide), sSa_other (show 2 ≠ 1 by decide), sSa_other (show 3 ≠ 1 by decide), sSa_other (show 4 ≠ 1 by decide), sSa_other (show 5 ≠ 1 by decide), sSa_other (show 7 ≠ 1 by decide), show (sSa T 1 r v).2.1 1 r = v by rw [sSa_at, if_pos ⟨rfl, rfl⟩]]
  exact ⟨r0, hv, r2, r3, r4, r5, r7⟩
theorem IR_3 {T : sOb} {c r : Nat} {v : Int32} (h : IR T c r) (hv : -1 ≤ v ∧ v < nI c) : IR (sSa T 3 r v) c r := by
  obtain ⟨r0, r1, r2, r3, r4, r5, r7⟩ := h
  unfold IR
  rw [sSa_other (show 0 ≠ 3 by decide), sSa_other (show 1 ≠ 3 by decide), sSa_other (show 2 ≠ 3 by decide), sSa_other (show 4 ≠ 3 by decide), sSa_other (show 5 ≠ 3 by decide), sSa_other (show 7 ≠ 3 by decide), show (sSa T 3 r v).2.1 3 r = v by rw [sSa_at, if_pos ⟨rfl, rfl⟩]]
  exact ⟨r0, r1, r2, hv, r4, r5, r7⟩
theorem IR_4 {T : sOb} {c r : Nat} {v : Int32} (h : IR T c r) (hv : 0 ≤ v ∧ v < T.1 0) : IR (sSa T 4 r v) c r := by
  obtain ⟨r0, r1, r2, r3, r4, r5, r7⟩ := h
  unfold IR
  rw [sSa_other (show 0 ≠ 4 by decide), sSa_other (show 1 ≠ 4 by decide), sSa_other (show 2 ≠ 4 by decide), sSa_other (show 3 ≠ 4 by decide), sSa_other (show 5 ≠ 4 by decide), sSa_other (show 7 ≠ 4 by decide), show (sSa T 4 r v).2.1 4 r = v by rw [sSa_at, if_pos ⟨rfl, rfl⟩]]
  exact ⟨r0, r1, r2, r3, hv, r5, r7⟩
theorem q_hasIf {M T : sOb} {c r k : Nat} {B x v : Int32} (hI : Inv (sSa T k r x) c B) (hR : RF (M.2.1 0) T) (hr : r < 9) (hk : k < 8) (hv : v = nI k) : ∃ M', fX5_hasIf M (nI r) v x = some (if gRa (sSa T k r x) c = nI r then 1 else 0, M') ∧ Fq M M' := by
  obtain ⟨M1, a1, a2, -, a4⟩ := q_trial M
  obtain ⟨M2, b1, b2, b3⟩ := q_put1 (M := M1) (T := T) (by rw [a2]; exact hR) hr k hk hv x
  obtain ⟨M3, c1, c2⟩ := q_race hI b2
  obtain ⟨M4, d1, d2⟩ := a4 M3 (b3.tr c2)
  refine ⟨M4, ?_, d2⟩
  unfold fX5_hasIf
  rw [a1, b_some, b1, b_some, c1, b_some, nm_d]
  dsimp only
  rw [d1]
  by_cases q : gRa (sSa T k r x) c = nI r
  · rw [if_pos q, if_pos q, b_some, if_neg (by decide)]
  · rw [if_neg q, if_neg q, b_some, if_neg (by decide)]
theorem lp_pace {n c r : Nat} (hn : n < 512) (hr : r < c) : ∀ d i m : Nat, i + d = 13 → 1 ≤ i → d < m → ∀ (S : sWo) (M : sOb), Rel S M n → Inv (S 1) c (nI (600 * n)) → Ok (fx2 (bX4_pace_20 (nI r)) m (nI i) S) (fx2 (bX5_pace_17 (nI r)) m (nI i) M) (n + 1) := by
  intro d
  induction d with
  | zero =>
    intro i m hi h1 hm S M h hI
    obtain ⟨f, rfl⟩ : ∃ f, m = f + 1 := ⟨m - 1, by omega⟩
    obtain rfl : i = 13 := by omega
    show Ok (bX4_pace_20 _ _ _ _) (bX5_pace_17 _ _ _ _) _
    unfold bX4_pace_20 bX5_pace_17
    rw [if_pos (show (12 : Int32) < nI 13 from nI_lt (a := 12) (by omega) (by omega)), if_pos (show (12 : Int32) < nI 13 from nI_lt (a := 12) (by omega) (by omega)), b_eta, b_eta]
    exact ok_found h (by omega) (by omega) 3 (by omega) (-1000000004) fd3
  | succ d ih =>
    intro i m hi h1 hm S M h hI
    obtain ⟨f, rfl⟩ : ∃ f, m = f + 1 := ⟨m - 1, by omega⟩
    have hc := hI.1
    have hB : Ok (fX4_found S (-1000000004)) (fX5_finds M (-1000000004)) (n + 1) := ok_found h (by omega) (by omega) 3 (by omega) (-1000000004) fd3
    have hIT : Inv (gTO (S 2) (S 1)) c (nI (600 * n)) := Inv_TO hI
    have hv : 1 ≤ nI i ∧ nI i ≤ 12 := ⟨nI_le (a := 1) h1 (by omega), nI_le (b := 12) (by omega) (by omega)⟩
    have hI1 := Inv_set hIT hr (show 1 < 5 by omega) (IR_1 (hIT.2.2.2.2.2.2.2 r hr) hv)
    obtain ⟨M', b1, b2⟩ := q_hasIf hI1 (RF_TO h.2.1) (show r < 9 by omega) (show 1 < 8 by omega) (v := 1) rfl
    have hS : ∀ o, o ≠ 2 → sUp (sUp (sUp S 2 (gTO (S 2) (S 1))) 2 (sSa (gTO (S 2) (S 1)) 1 r (nI i))) 2 (gRE (sSa (gTO (S 2) (S 1)) 1 r (nI i)) c) o = S o := fun o ho => by rw [sUp_n ho, sUp_n ho, sUp_n ho]
    have h' := h.trial hS b2
    have ih2 := ih (i + 1) f (by omega) (by omega) (by omega) _ _ h' (by rw [hS 1 (by decide)]; exact hI)
    rw [nI_succ] at ih2
    show Ok (bX4_pace_20 _ (fx2 (bX4_pace_20 (nI r)) f) _ _) (bX5_pace_17 _ (fx2 (bX5_pace_17 (nI r)) f) _ _) _
    generalize fx2 (bX4_pace_20 (nI r)) f = rc at ih2 ⊢
    generalize fx2 (bX5_pace_17 (nI r)) f = rm at ih2 ⊢
    unfold bX4_pace_20 bX5_pace_17
    rw [if_neg (show ¬ (12 : Int32) < nI i from nI_nlt (a := 12) (by omega) (by omega)), if_neg (show ¬ (12 : Int32) < nI i from nI_nlt (a := 12) (by omega) (by omega)), p_tryOut, b_some, if_neg (ix_in (show r < 9 by omega) (by omega)), z_cl (show r < 2147483648 by omega), nm_d, sUp_s, sUp_s, p_race hI1, b_some, nm_d, b1, b_some]
    dsimp only
    rw [bi]
    by_cases q : gRa (sSa (gTO (S 2) (S 1)) 1 r (nI i)) c = nI r
    · rw [if_pos q, if_pos q]
      exact ⟨_, _, _, rfl, rfl, h'.mono (by omega) (by omega)⟩
    · rw [if_neg q, if_neg q, nm_d, nm_d]
      exact ih2
theorem op_pace {S : sWo} {M : sOb} {n : Nat} (h : Rel S M n) (hn : n < 512) (a : Int32) : Ok (fX4_pace S a) (fX5_pace M a) (n + 1) := by
  have hB := ok_found h (show n ≤ n + 1 by omega) (by omega) 0 (by omega) (-1000000001) fd0
  obtain ⟨c, hI⟩ := h.1
  have hR := h.2.1
  have hc := hI.1
  unfold fX4_pace fX5_pace
  rw [p_has hI.1 hI.2.1, q_isRunner (hR.1.trans hI.2.1), b_some, b_some, bi, bi, b_eta, b_eta]
  by_cases e : 0 ≤ a ∧ a < nI c
  · obtain ⟨r, hr, rfl⟩ := nI_ex (by omega) e.1 e.2
    rw [if_pos e, if_pos e]
    exact lp_pace (c := c) hn hr 12 1 FU (by omega) (by omega) (by unfold FU; omega) S M h hI
  · rw [if_neg e, if_neg e]
    exact hB
theorem lp_kind {n c r : Nat} (hn : n < 512) (hr : r < c) : ∀ d i m : Nat, i + d = 6 → 0 ≤ i → d < m → ∀ (S : sWo) (M : sOb), Rel S M n → Inv (S 1) c (nI (600 * n)) → Ok (fx2 (bX4_kind_20 (nI r)) m (nI i) S) (fx2 (bX5_kind_17 (nI r)) m (nI i) M) (n + 1) := by
  intro d
  induction d with
  | zero =>
    intro i m hi h1 hm S M h hI
    obtain ⟨f, rfl⟩ : ∃ f, m = f + 1 := ⟨m - 1, by omega⟩
    obtain rfl : i = 6 := by omega
    show Ok (bX4_kind_20 _ _ _ _) (bX5_kind_17 _ _ _ _) _
    unfold bX4_kind_20 bX5_kind_17
    rw [if_pos (show (6 : Int32) ≤ nI 6 from nI_le (a := 6) (by omega) (by omega)), if_pos (show (5 : Int32) < nI 6 from nI_lt (a := 5) (by omega) (by omega)), b_eta, b_eta]
    exact ok_found h (by omega) (by omega) 3 (by omega) (-1000000004) fd3
  | succ d ih =>
    intro i m hi h1 hm S M h hI
    obtain ⟨f, rfl⟩ : ∃ f, m = f + 1 := ⟨m - 1, by omega⟩
    have hc := hI.1
    have hB : Ok (fX4_found S (-1000000004)) (fX5_finds M (-1000000004)) (n + 1) := ok_found h (by omega) (by omega) 3 (by omega) (-1000000004) fd3
    have hIT : Inv (gTO (S 2) (S 1)) c (nI (600 * n)) := Inv_TO hI
    have hv : 0 ≤ nI i ∧ nI i ≤ 5 := ⟨nI_le (a := 0) h1 (by omega), nI_le (b := 5) (by omega) (by omega)⟩
    have hI1 := Inv_set hIT hr (show 0 < 5 by omega) (IR_0 (hIT.2.2.2.2.2.2.2 r hr) hv)
    obtain ⟨M', b1, b2⟩ := q_hasIf hI1 (RF_TO h.2.1) (show r < 9 by omega) (show 0 < 8 by omega) (v := 0) rfl
    have hS : ∀ o, o ≠ 2 → sUp (sUp (sUp S 2 (gTO (S 2) (S 1))) 2 (sSa (gTO (S 2) (S 1)) 0 r (nI i))) 2 (gRE (sSa (gTO (S 2) (S 1)) 0 r (nI i)) c) o = S o := fun o ho => by rw [sUp_n ho, sUp_n ho, sUp_n ho]
    have h' := h.trial hS b2
    have ih2 := ih (i + 1) f (by omega) (by omega) (by omega) _ _ h' (by rw [hS 1 (by decide)]; exact hI)
    rw [nI_succ] at ih2
    show Ok (bX4_kind_20 _ (fx2 (bX4_kind_20 (nI r)) f) _ _) (bX5_kind_17 _ (fx2 (bX5_kind_17 (nI r)) f) _ _) _
    generalize fx2 (bX4_kind_20 (nI r)) f = rc at ih2 ⊢
    generalize fx2 (bX5_kind_17 (nI r)) f = rm at ih2 ⊢
    unfold bX4_kind_20 bX5_kind_17
    rw [if_neg (show ¬ (6 : Int32) ≤ nI i from Int32.not_le.mpr (nI_lt (b := 6) (by omega) (by omega))), if_neg (show ¬ (5 : Int32) < nI i from nI_nlt (a := 5) (by omega) (by omega)), p_tryOut, b_some, if_neg (ix_in (show r < 9 by omega) (by omega)), z_cl (show r < 2147483648 by omega), nm_d, sUp_s, sUp_s, p_race hI1, b_some, nm_d, b1, b_some]
    dsimp only
    rw [bi]
    by_cases q : gRa (sSa (gTO (S 2) (S 1)) 0 r (nI i)) c = nI r
    · rw [if_pos q, if_pos q]
      exact ⟨_, _, _, rfl, rfl, h'.mono (by omega) (by omega)⟩
    · rw [if_neg q, if_neg q, nm_d, nm_d]
      exact ih2
theorem op_kind {S : sWo} {M : sOb} {n : Nat} (h : Rel S M n) (hn : n < 512) (a : Int32) : Ok (fX4_kind S a) (fX5_kind M a) (n + 1) := by
  have hB := ok_found h (show n ≤ n + 1 by omega) (by omega) 0 (by omega) (-1000000001) fd0
  obtain ⟨c, hI⟩ := h.1
  have hR := h.2.1
  have hc := hI.1
  unfold fX4_kind fX5_kind
  rw [p_has hI.1 hI.2.1, q_isRunner (hR.1.trans hI.2.1), b_some, b_some, bi, bi, b_eta, b_eta]
  by_cases e : 0 ≤ a ∧ a < nI c
  · obtain ⟨r, hr, rfl⟩ := nI_ex (by omega) e.1 e.2
    rw [if_pos e, if_pos e]
    exact lp_kind (c := c) hn hr 6 0 FU (by omega) (by omega) (by unfold FU; omega) S M h hI
  · rw [if_neg e, if_neg e]
    exact hB
theorem lp_start {n c r : Nat} (hn : n < 512) (hr : r < c) : ∀ d i m : Nat, i + d = 41 → 0 ≤ i → d < m → ∀ (S : sWo) (M : sOb), Rel S M n → Inv (S 1) c (nI (600 * n)) → Ok (fx2 (bX4_start_20 (nI r)) m (nI (5 * i)) S) (fx2 (bX5_start_17 (nI r)) m (nI (5 * i)) M) (n + 1) := by
  intro d
  induction d with
  | zero =>
    intro i m hi h1 hm S M h hI
    obtain ⟨f, rfl⟩ : ∃ f, m = f + 1 := ⟨m - 1, by omega⟩
    obtain rfl : i = 41 := by omega
    show Ok (bX4_start_20 _ _ _ _) (bX5_start_17 _ _ _ _) _
    unfold bX4_start_20 bX5_start_17
    rw [if_pos (show (200 : Int32) < nI (5 * 41) from nI_lt (a := 200) (by omega) (by omega)), if_pos (show (200 : Int32) < nI (5 * 41) from nI_lt (a := 200) (by omega) (by omega)), b_eta, b_eta]
    exact ok_found h (by omega) (by omega) 3 (by omega) (-1000000004) fd3
  | succ d ih =>
    intro i m hi h1 hm S M h hI
    obtain ⟨f, rfl⟩ : ∃ f, m = f + 1 := ⟨m - 1, by omega⟩
    have hc := hI.1
    have hB : Ok (fX4_found S (-1000000004)) (fX5_finds M (-1000000004)) (n + 1) := ok_found h (by omega) (by omega) 3 (by omega) (-1000000004) fd3
    have hIT : Inv (gTO (S 2) (S 1)) c (nI (600 * n)) := Inv_TO hI
    by_cases qL : (S 1).1 0 ≤ nI (5 * i)
    · show Ok (bX4_start_20 _ (fx2 (bX4_start_20 (nI r)) f) _ _) (bX5_start_17 _ (fx2 (bX5_start_17 (nI r)) f) _ _) _
      generalize fx2 (bX4_start_20 (nI r)) f = rc
      generalize fx2 (bX5_start_17 (nI r)) f = rm
      unfold bX4_start_20 bX5_start_17
      rw [if_neg (show ¬ (200 : Int32) < nI (5 * i) from nI_nlt (a := 200) (by omega) (by omega)), if_neg (show ¬ (200 : Int32) < nI (5 * i) from nI_nlt (a := 200) (by omega) (by omega)), if_pos qL, cl_1, h.2.1.2.1, if_pos qL, b_eta, b_eta]
      exact hB
    have hv : 0 ≤ nI (5 * i) ∧ nI (5 * i) < (gTO (S 2) (S 1)).1 0 := ⟨nI_le (a := 0) (by omega) (by omega), by rw [gTO_1 _ _ (by omega)]; exact Int32.not_le.mp qL⟩
    have hI1 := Inv_set hIT hr (show 4 < 5 by omega) (IR_4 (hIT.2.2.2.2.2.2.2 r hr) hv)
    obtain ⟨M', b1, b2⟩ := q_hasIf hI1 (RF_TO h.2.1) (show r < 9 by omega) (show 4 < 8 by omega) (v := 4) rfl
    have hS : ∀ o, o ≠ 2 → sUp (sUp (sUp S 2 (gTO (S 2) (S 1))) 2 (sSa (gTO (S 2) (S 1)) 4 r (nI (5 * i)))) 2 (gRE (sSa (gTO (S 2) (S 1)) 4 r (nI (5 * i))) c) o = S o := fun o ho => by rw [sUp_n ho, sUp_n ho, sUp_n ho]
    have h' := h.trial hS b2
    have ih2 := ih (i + 1) f (by omega) (by omega) (by omega) _ _ h' (by rw [hS 1 (by decide)]; exact hI)
    rw [show 5 * (i + 1) = 5 * i + 5 from rfl, ← nI_add] at ih2
    rw [show nI 5 = (5 : Int32) from rfl] at ih2
    show Ok (bX4_start_20 _ (fx2 (bX4_start_20 (nI r)) f) _ _) (bX5_start_17 _ (fx2 (bX5_start_17 (nI r)) f) _ _) _
    generalize fx2 (bX4_start_20 (nI r)) f = rc at ih2 ⊢
    generalize fx2 (bX5_start_17 (nI r)) f = rm at ih2 ⊢
    unfold bX4_start_20 bX5_start_17
    rw [if_neg (show ¬ (200 : Int32) < nI (5 * i) from nI_nlt (a := 200) (by omega) (by omega)), if_neg (show ¬ (200 : Int32) < nI (5 * i) from nI_nlt (a := 200) (by omega) (by omega)), if_neg qL, cl_1, h.2.1.2.1, if_neg qL, p_tryOut, b_some, if_neg (ix_in (show r < 9 by omega) (by omega)), z_cl (show r < 2147483648 by omega), nm_d, sUp_s, sUp_s, p_race hI1, b_some, nm_d, b1, b_some]
    dsimp only
    rw [bi]
    by_cases q : gRa (sSa (gTO (S 2) (S 1)) 4 r (nI (5 * i))) c = nI r
    · rw [if_pos q, if_pos q]
      exact ⟨_, _, _, rfl, rfl, h'.mono (by omega) (by omega)⟩
    · rw [if_neg q, if_neg q, nm_d, nm_d]
      exact ih2
theorem op_start {S : sWo} {M : sOb} {n : Nat} (h : Rel S M n) (hn : n < 512) (a : Int32) : Ok (fX4_start S a) (fX5_start M a) (n + 1) := by
  have hB := ok_found h (show n ≤ n + 1 by omega) (by omega) 0 (by omega) (-1000000001) fd0
  obtain ⟨c, hI⟩ := h.1
  have hR := h.2.1
  have hc := hI.1
  unfold fX4_start fX5_start
  rw [p_has hI.1 hI.2.1, q_isRunner (hR.1.trans hI.2.1), b_some, b_some, bi, bi, b_eta, b_eta]
  by_cases e : 0 ≤ a ∧ a < nI c
  · obtain ⟨r, hr, rfl⟩ := nI_ex (by omega) e.1 e.2
    rw [if_pos e, if_pos e]
    exact lp_start (c := c) hn hr 41 0 FU (by omega) (by omega) (by unfold FU; omega) S M h hI
  · rw [if_neg e, if_neg e]
    exact hB
theorem lp_friend {n c r : Nat} (hn : n < 512) (hr : r < c) : ∀ (d m : Nat) (x : Int32), x.toInt + d = c → -1 ≤ x.toInt → d < m → ∀ (S : sWo) (M : sOb), Rel S M n → Inv (S 1) c (nI (600 * n)) → Ok (fx2 (bX4_friend_20 (nI r)) m x S) (fx2 (bX5_friend_17 (nI r)) m x M) (n + 1) := by
  intro d
  induction d with
  | zero =>
    intro m x hi h1 hm S M h hI
    have hc := hI.1
    obtain ⟨f, rfl⟩ : ∃ f, m = f + 1 := ⟨m - 1, by omega⟩
    have e : nI c ≤ x := by rw [z_le, z_n (by omega)]; omega
    show Ok (bX4_friend_20 _ _ _ _) (bX5_friend_17 _ _ _ _) _
    unfold bX4_friend_20 bX5_friend_17
    rw [hI.2.1, cl_0, h.2.1.1, hI.2.1, if_pos e, if_pos e, b_eta, b_eta]
    exact ok_found h (by omega) (by omega) 3 (by omega) (-1000000004) fd3
  | succ d ih =>
    intro m x hi h1 hm S M h hI
    obtain ⟨f, rfl⟩ : ∃ f, m = f + 1 := ⟨m - 1, by omega⟩
    have hc := hI.1
    have e : ¬ nI c ≤ x := by rw [z_le, z_n (by omega)]; omega
    have hx : (x + 1).toInt = x.toInt + 1 := z_add (by rw [show (1 : Int32).toInt = 1 from rfl]; omega) (by rw [show (1 : Int32).toInt = 1 from rfl]; omega)
    have hIT : Inv (gTO (S 2) (S 1)) c (nI (600 * n)) := Inv_TO hI
    have hv : -1 ≤ x ∧ x < nI c := ⟨by rw [z_le]; exact h1, by rw [z_lt, z_n (by omega)]; omega⟩
    have hI1 := Inv_set hIT hr (show 3 < 5 by omega) (IR_3 (hIT.2.2.2.2.2.2.2 r hr) hv)
    obtain ⟨M', b1, b2⟩ := q_hasIf hI1 (RF_TO h.2.1) (show r < 9 by omega) (show 3 < 8 by omega) (v := 3) rfl
    have hS : ∀ o, o ≠ 2 → sUp (sUp (sUp S 2 (gTO (S 2) (S 1))) 2 (sSa (gTO (S 2) (S 1)) 3 r x)) 2 (gRE (sSa (gTO (S 2) (S 1)) 3 r x) c) o = S o := fun o ho => by rw [sUp_n ho, sUp_n ho, sUp_n ho]
    have h' := h.trial hS b2
    have ih2 := ih f (x + 1) (by omega) (by omega) (by omega) _ _ h' (by rw [hS 1 (by decide)]; exact hI)
    have ih3 := ih f (x + 1) (by omega) (by omega) (by omega) _ _ h hI
    show Ok (bX4_friend_20 _ (fx2 (bX4_friend_20 (nI r)) f) _ _) (bX5_friend_17 _ (fx2 (bX5_friend_17 (nI r)) f) _ _) _
    generalize fx2 (bX4_friend_20 (nI r)) f = rc at ih2 ih3 ⊢
    generalize fx2 (bX5_friend_17 (nI r)) f = rm at ih2 ih3 ⊢
    unfold bX4_friend_20 bX5_friend_17
    rw [hI.2.1, cl_0, h.2.1.1, hI.2.1, if_neg e, if_neg e]
    by_cases qx : x = nI r
    · rw [if_pos qx, if_pos qx, nm_d, nm_d]
      exact ih3
    rw [if_neg qx, if_neg qx, p_tryOut, b_some, if_neg (ix_in (show r < 9 by omega) (by omega)), z_cl (show r < 2147483648 by omega), nm_d, sUp_s, sUp_s, p_race hI1, b_some, nm_d, b1, b_some]
    dsimp only
    rw [bi]
    by_cases q : gRa (sSa (gTO (S 2) (S 1)) 3 r x) c = nI r
    · rw [if_pos q, if_pos q]
      exact ⟨_, _, _, rfl, rfl, h'.mono (by omega) (by omega)⟩
    · rw [if_neg q, if_neg q, nm_d, nm_d]
      exact ih2
theorem op_friend {S : sWo} {M : sOb} {n : Nat} (h : Rel S M n) (hn : n < 512) (a : Int32) : Ok (fX4_friend S a) (fX5_friend M a) (n + 1) := by
  have hB := ok_found h (show n ≤ n + 1 by omega) (by omega) 0 (by omega) (-1000000001) fd0
  obtain ⟨c, hI⟩ := h.1
  have hR := h.2.1
  have hc := hI.1
  unfold fX4_friend fX5_friend
  rw [p_has hI.1 hI.2.1, q_isRunner (hR.1.trans hI.2.1), b_some, b_some, bi, bi, b_eta, b_eta]
  by_cases e : 0 ≤ a ∧ a < nI c
  · obtain ⟨r, hr, rfl⟩ := nI_ex (by omega) e.1 e.2
    rw [if_pos e, if_pos e]
    exact lp_friend (c := c) hn hr (c + 1) FU (-1) (by rw [show (-1 : Int32).toInt = -1 from rfl]; omega) (by decide) (by unfold FU; omega) S M h hI
  · rw [if_neg e, if_neg e]
    exact hB
theorem or_16 : ∀ z, z < 16 → ∀ i, i < 4 → nI z ||| ((1 : Int32) <<< (nI i &&& 31)) = nI (z ||| 1 <<< i) ∧ z ||| 1 <<< i < 16 := by decide +kernel
theorem lp_favours {M T : sOb} {S : sWo} {c : Nat} (hR : RF (M.2.1 0) T) (hc : c ≤ 9) (h4 : T.1 4 = nI c) (hT : S 2 = T) (a v : Int32) (k : Int32 → Option (Int32 × sOb)) : ∀ d i m : Nat, i + d = 4 → d < m → ∀ z, z < 16 → ∃ y, y < 16 ∧ fx2 (bX4_favours_53 a S) m (nI z) (nI i) = some (nI y, S) ∧ fx2 (bX5_favours_38 a (v, M) k) m (nI z) (nI i) = k (nI y) := by
  intro d
  induction d with
  | zero =>
    intro i m hi hm z hz
    obtain ⟨f, rfl⟩ : ∃ f, m = f + 1 := ⟨m - 1, by omega⟩
    obtain rfl : i = 4 := by omega
    refine ⟨z, hz, ?_, ?_⟩
    · show bX4_favours_53 _ _ _ _ _ = _
      unfold bX4_favours_53
      rw [if_pos (show (4 : Int32) ≤ nI 4 from nI_le (a := 4) (by omega) (by omega))]
    · show bX5_favours_38 _ _ _ _ _ _ = _
      unfold bX5_favours_38
      rw [if_pos (show (4 : Int32) ≤ nI 4 from nI_le (a := 4) (by omega) (by omega))]
  | succ d ih =>
    intro i m hi hm z hz
    obtain ⟨f, rfl⟩ : ∃ f, m = f + 1 := ⟨m - 1, by omega⟩
    have e : ¬ (4 : Int32) ≤ nI i := Int32.not_le.mpr (nI_lt (b := 4) (by omega) (by omega))
    have o := or_16 z hz i (by omega)
    have ih1 := ih (i + 1) f (by omega) (by omega) (z ||| 1 <<< i) o.2
    have ih2 := ih (i + 1) f (by omega) (by omega) z hz
    rw [nI_succ] at ih1 ih2
    show ∃ y, y < 16 ∧ bX4_favours_53 _ _ (fx2 (bX4_favours_53 a S) f) _ _ = _ ∧ bX5_favours_38 _ _ _ (fx2 (bX5_favours_38 a (v, M) k) f) _ _ = _
    generalize fx2 (bX4_favours_53 a S) f = rc at ih1 ih2 ⊢
    generalize fx2 (bX5_favours_38 a (v, M) k) f = rm at ih1 ih2 ⊢
    unfold bX4_favours_53 bX5_favours_38
    rw [if_neg e, if_neg e, if_neg (nI_pos (show z < 2147483648 by omega)), hT, p_prize hc h4, b_some]
    dsimp only
    rw [q_prize hR hc h4, b_some, o.1]
    by_cases q : gPz T c (nI i) = a
    · rw [if_pos q, if_pos q]
      exact ih1
    · rw [if_neg q, if_neg q, Int32.or_zero]
      exact ih2
theorem op_favours {S : sWo} {M : sOb} {n : Nat} (h : Rel S M n) (hn : n < 512) (a : Int32) : Ok (fX4_favours S a) (fX5_favours M a) (n + 1) := by
  have hB := ok_found h (show n ≤ n + 1 by omega) (by omega) 0 (by omega) (-1000000001) fd0
  obtain ⟨c, hI⟩ := h.1
  have hR := h.2.1
  have hc := hI.1
  unfold fX4_favours fX5_favours
  rw [p_has hI.1 hI.2.1, q_isRunner (hR.1.trans hI.2.1), b_some, b_some, bi, bi, b_eta, b_eta]
  by_cases e : 0 ≤ a ∧ a < nI c
  · have hIT : Inv (gTO (S 2) (S 1)) c (nI (600 * n)) := Inv_TO hI
    have hl := Inv_ln hIT
    have hE := Inv_it 2000 0 hl (by omega)
    obtain ⟨M1, a1, a2, -, a4⟩ := q_trial M
    have hR1 : RF (M1.2.1 0) (gTO (S 2) (S 1)) := by rw [a2]; exact RF_TO hR
    obtain ⟨M2, b1, b2, b3⟩ := q_lines hR1 hIT.1 hIT.2.1
    obtain ⟨M3, c1, c2, c3⟩ := q_goesToEnd hl (by omega) b2
    obtain ⟨M4, d1, d2⟩ := a4 M3 (b3.tr c3)
    have hg := p_goOnE 2000 (by omega) hl (by omega)
    rw [show nI 2000 = (2000 : Int32) from rfl] at hg
    rw [if_pos e, if_pos e, p_tryOut, b_some, sUp_s, p_lineUp hIT.1 hIT.2.1, b_some, nm_d, sUp_s, hg, b_some, nm_d, sUp_s, p_allHome hE, b_some, bi, a1, b_some, b1, b_some, c1, b_some, nm_d]
    dsimp only
    rw [nm_d, nm_d, bi, d1]
    have hS : ∀ o, o ≠ 2 → sUp (sUp (sUp S 2 (gTO (S 2) (S 1))) 2 (gLn (gTO (S 2) (S 1)) c)) 2 (gIt c 2000 (gLn (gTO (S 2) (S 1)) c)) o = S o := fun o ho => by rw [sUp_n ho, sUp_n ho, sUp_n ho]
    have h' := h.trial hS d2
    by_cases q : gHC (gIt c 2000 (gLn (gTO (S 2) (S 1)) c)) c = c
    · obtain ⟨y, hy, l1, l2⟩ := lp_favours c2 hE.1 hE.2.1 (S := sUp (sUp (sUp S 2 (gTO (S 2) (S 1))) 2 (gLn (gTO (S 2) (S 1)) c)) 2 (gIt c 2000 (gLn (gTO (S 2) (S 1)) c))) (sUp_s _ _ _) a (if gHC (gIt c 2000 (gLn (gTO (S 2) (S 1)) c)) c = c then 1 else 0) (fun x2_72 => (some M4).bind fun q73 => (fX5_orNone q73 x2_72).bind fun q78 => some (q78.1, q78.2)) 4 0 FU (by omega) (by unfold FU; omega) 0 (by omega)
      rw [show nI 0 = (0 : Int32) from rfl] at l1 l2
      rw [if_pos q, if_pos q, l1, l2, b_some, b_eta]
      unfold fX5_orNone
      rw [b_eta, if_pos (nI_pos' (by omega))]
      exact ⟨_, _, _, rfl, rfl, h'.mono (by omega) (by omega)⟩
    · rw [if_neg q, if_neg q]
      obtain ⟨f, hf⟩ : ∃ f, FU = f + 1 := ⟨4999, rfl⟩
      rw [hf]
      show Ok _ (bX5_favours_38 _ _ _ _ _ _) _
      unfold bX5_favours_38
      rw [if_neg (by decide), if_pos (by decide)]
      show Ok _ ((some M4).bind fun q73 => (fX5_orNone q73 (-1)).bind fun q78 => some (q78.1, q78.2)) _
      rw [b_some, b_eta, b_eta]
      unfold fX5_orNone
      rw [b_eta, if_neg (by decide)]
      exact ok_found h' (by omega) (by omega) 3 (by omega) (-1000000004) fd3
  · rw [if_neg e, if_neg e]
    exact hB
