/-! PURE: runner, of, as, wish, line, seconds, now, place, prize -/
theorem b_so {α β : Type} (a : α) (f : α → Option β) : (some a).bind f = f a := Eq.trans rfl rfl
theorem nm_x {α β : Type} (e : α) (f : α → Option β) : nm e f = f e := Eq.trans rfl rfl
def vT (a b d : Int32) : sOb := (fun _ => 0, fun k _ => if k = 0 then a else if k = 1 then b else if k = 2 then d else if k = 3 then -1 else if k = 7 then -1 else 0, fun _ => 0)
theorem vT_8 (T : sOb) (a b d : Int32) (c : Nat) : sSa (sSa (sSa (sSa (sSa (sSa (sSa (sSa T 0 c a) 1 c b) 2 c d) 3 c (-1)) 4 c 0) 5 c 0) 6 c 0) 7 c (-1) = gC8 T (vT a b d) c := by
  unfold gC8
  have e0 : (vT a b d).2.1 0 c = a := rfl
  have e1 : (vT a b d).2.1 1 c = b := rfl
  have e2 : (vT a b d).2.1 2 c = d := rfl
  have e3 : (vT a b d).2.1 3 c = -1 := rfl
  have e4 : (vT a b d).2.1 4 c = 0 := rfl
  have e5 : (vT a b d).2.1 5 c = 0 := rfl
  have e6 : (vT a b d).2.1 6 c = 0 := rfl
  have e7 : (vT a b d).2.1 7 c = -1 := rfl
  rw [e0, e1, e2, e3, e4, e5, e6, e7]
/-- a track with one runner more -/
def gAd (T : sOb) (a b d : Int32) (c : Nat) : sOb := sSs (gC8 T (vT a b d) c) 4 (nI (c + 1))
theorem p_add {T : sOb} {c : Nat} (hc : c < 9) (h4 : T.1 4 = nI c) (a b d : Int32) : fX3_add T a b d = some (nI c, gAd T a b d c) := by
  unfold fX3_add
  rw [h4, if_neg (nI_pos (by omega)), if_pos (show nI c < (9 : Int32) from nI_lt (b := 9) hc (by omega)), nm_d, if_neg (ix_in hc (by omega)), z_cl (by omega), nm_d, nm_d, nm_d, nm_d, nm_d, nm_d, nm_d, nm_d, nm_d, vT_8]
  unfold gAd
  rw [gC8_1, h4, nI_succ]
theorem gAd_2 (T : sOb) (a b d : Int32) (c k r : Nat) : (gAd T a b d c).2.1 k r = if k < 8 ∧ r = c then (vT a b d).2.1 k c else T.2.1 k r := by
  unfold gAd
  rw [sSs_2, gC8_2]
theorem gAd_1 (T : sOb) (a b d : Int32) (c k : Nat) : (gAd T a b d c).1 k = if k = 4 then nI (c + 1) else T.1 k := by
  unfold gAd
  rw [sSs_1, gC8_1]
theorem gHC_ad (T : sOb) (a b d : Int32) (c : Nat) : ∀ n, n ≤ c → gHC (gAd T a b d c) n = gHC T n := fun n hn => gHC_congr n (fun r hr => by rw [gAd_2, if_neg (by omega)])
theorem Inv_ad {T : sOb} {c : Nat} {B a b d : Int32} (h : Inv T c B) (hc : c < 9) (ha : 0 ≤ a ∧ a ≤ 5) (hb : 1 ≤ b ∧ b ≤ 12) (hd : 0 ≤ d ∧ d ≤ 999) : Inv (gAd T a b d c) (c + 1) B := by
  obtain ⟨h0, h4, hL, hl, hw, hs, h5, hR⟩ := h
  have e1 : ∀ k, k ≠ 4 → (gAd T a b d c).1 k = T.1 k := fun k hk => by rw [gAd_1, if_neg hk]
  have hcc : nI c < nI (c + 1) := nI_lt (by omega) (by omega)
  refine ⟨by omega, by rw [gAd_1, if_pos rfl], by rw [e1 0 (by decide)]; exact hL, by rw [e1 1 (by decide)]; exact hl, by rw [e1 2 (by decide)]; exact hw, by rw [e1 3 (by decide)]; exact hs, ?_, fun r hr => ?_⟩
  · rw [e1 5 (by decide), gHC_s, gHC_ad T a b d c c (Nat.le_refl c), gAd_2, if_pos (show 7 < 8 ∧ c = c from ⟨by decide, rfl⟩), show (vT a b d).2.1 7 c = -1 from rfl, if_pos (show (-1 : Int32) < 0 by decide)]
    exact h5
  · unfold IR
    rw [e1 0 (by decide)]
    simp only [gAd_2]
    by_cases q : r = c
    · subst q
      rw [if_pos ⟨by decide, rfl⟩, if_pos ⟨by decide, rfl⟩, if_pos ⟨by decide, rfl⟩, if_pos ⟨by decide, rfl⟩, if_pos ⟨by decide, rfl⟩, if_pos ⟨by decide, rfl⟩, if_pos ⟨by decide, rfl⟩, show (vT a b d).2.1 0 r = a from rfl, show (vT a b d).2.1 1 r = b from rfl, show (vT a b d).2.1 2 r = d from rfl, show (vT a b d).2.1 3 r = -1 from rfl, show (vT a b d).2.1 4 r = 0 from rfl, show (vT a b d).2.1 5 r = 0 from rfl, show (vT a b d).2.1 7 r = -1 from rfl]
      have hp : 0 ≤ nI (r + 1) := nI_pos' (by omega)
      have hL0 : (0 : Int32) < T.1 0 := by
        generalize T.1 0 = x at hL ⊢
        grind
      refine ⟨ha, hb, hd, ⟨by decide, ?_⟩, ⟨by decide, hL0⟩, by decide, fun _ => hL0⟩
      generalize nI (r + 1) = x at hp ⊢
      grind
    · rw [if_neg (by omega), if_neg (by omega), if_neg (by omega), if_neg (by omega), if_neg (by omega), if_neg (by omega), if_neg (by omega)]
      obtain ⟨r0, r1, r2, r3, r4, r5, r7⟩ := hR r (by omega)
      exact ⟨r0, r1, r2, ⟨r3.1, Int32.lt_trans r3.2 hcc⟩, r4, r5, r7⟩
/-- the reference's new runner -/
theorem RF_h4 {s : Nat → Int32} {T : sOb} (h : RF s T) (v : Int32) : RF (upd s 0 v) (sSs T 4 v) := by
  obtain ⟨h0, h1, h2, h3, h4, h5⟩ := h
  refine ⟨by rw [upd_s]; rfl, by rw [upd_n (by decide)]; exact h1, by rw [upd_n (by decide)]; exact h2, by rw [upd_n (by decide)]; exact h3, by rw [upd_n (by decide)]; exact h4, fun r hr k hk => by rw [upd_n (by omega)]; exact h5 r hr k hk⟩
theorem q_put1 {M T : sOb} (h : RF (M.2.1 0) T) {r : Nat} (hr : r < 9) (k : Nat) (hk : k < 8) {v : Int32} (hv : v = nI k) (x : Int32) : ∃ M', fX5_puts M (nI r) v x = some M' ∧ RF (M'.2.1 0) (sSa T k r x) ∧ Fm M M' := by
  refine ⟨_, q_puts hr k hk hv x, ?_, Fm.a0 _ _ _⟩
  rw [sSa_same]
  exact h.put hr hk x
theorem q_comes {M T : sOb} {c : Nat} (h : RF (M.2.1 0) T) (hc : c < 9) (h4 : T.1 4 = nI c) (a b : Int32) : ∃ M', fX5_comes M a b = some (nI c, M') ∧ RF (M'.2.1 0) (gAd T a b 100 c) ∧ Fm M M' := by
  unfold fX5_comes
  rw [cl_0, h.1, h4, nm_d, nm_d]
  have e0 : RF ((sSa M 0 0 (nI c + 1)).2.1 0) (sSs T 4 (nI c + 1)) := by
    rw [sSa_same]
    exact RF_h4 h _
  obtain ⟨M1, a1, b1, c1⟩ := q_put1 e0 hc 0 (by omega) (v := 0) rfl a
  obtain ⟨M2, a2, b2, c2⟩ := q_put1 b1 hc 1 (by omega) (v := 1) rfl b
  obtain ⟨M3, a3, b3, c3⟩ := q_put1 b2 hc 2 (by omega) (v := 2) rfl 100
  obtain ⟨M4, a4, b4, c4⟩ := q_put1 b3 hc 3 (by omega) (v := 3) rfl (-1)
  obtain ⟨M5, a5, b5, c5⟩ := q_put1 b4 hc 4 (by omega) (v := 4) rfl 0
  obtain ⟨M6, a6, b6, c6⟩ := q_put1 b5 hc 5 (by omega) (v := 5) rfl 0
  obtain ⟨M7, a7, b7, c7⟩ := q_put1 b6 hc 6 (by omega) (v := 6) rfl 0
  obtain ⟨M8, a8, b8, c8⟩ := q_put1 b7 hc 7 (by omega) (v := 7) rfl (-1)
  rw [a1, b_some, a2, b_some, a3, b_some, a4, b_some, a5, b_some, a6, b_some, a7, b_some, a8, b_some]
  refine ⟨M8, rfl, ?_, (Fm.a0 _ _ _).tr (c1.tr (c2.tr (c3.tr (c4.tr (c5.tr (c6.tr (c7.tr c8)))))))⟩
  rw [vT_8] at b8
  refine RF_congr b8 (fun k hk => ?_) (fun r hr k hk => ?_)
  · rw [gAd_1, gC8_1, sSs_1, nI_succ]
  · rw [gAd_2, gC8_2, sSs_2]
theorem op_runner {S : sWo} {M : sOb} {n : Nat} (h : Rel S M n) (hn : n < 512) (a b d : Int32) : Ok (fX4_runner S a b d) (fX5_runner M a b d) (n + 1) := by
  have hB := ok_found h (show n ≤ n + 1 by omega) (by omega) 0 (by omega) (-1000000001) fd0
  have hF := ok_found h (show n ≤ n + 1 by omega) (by omega) 1 (by omega) (-1000000002) fd1
  obtain ⟨c, hI⟩ := h.1
  have hR := h.2.1
  have hc := hI.1
  unfold fX4_runner fX5_runner
  simp only [b_eta, b_so, bi, p_kind, p_pace, p_breath, p_in a 0 5 (b' := 0) (c' := 5) rfl rfl, p_in b 1 12 (b' := 1) (c' := 12) rfl rfl, p_in d 0 999 (b' := 0) (c' := 999) rfl rfl, cl_0, hR.1, hI.2.1, nm_x]
  by_cases e1 : 0 ≤ a ∧ a ≤ 5
  · rw [if_pos e1, if_pos e1]
    by_cases e2 : 1 ≤ b ∧ b ≤ 12
    · rw [if_pos e2, if_pos e2]
      by_cases e3 : 0 ≤ d ∧ d ≤ 999
      · rw [if_pos e3, if_pos e3]
        by_cases e4 : c = 9
        · rw [if_neg (show ¬ nI c < (9 : Int32) from nI_nlt (b := 9) (by omega) (by omega)), if_pos (show nI c = (9 : Int32) by rw [e4]; rfl)]
          exact hF
        · have hc9 : c < 9 := by omega
          obtain ⟨M1, a1, a2, a3⟩ := q_comes hR hc9 hI.2.1 a b
          obtain ⟨M2, b1, b2, b3⟩ := q_put1 a2 hc9 2 (by omega) (v := 2) rfl d
          rw [if_pos (show nI c < (9 : Int32) from nI_lt (b := 9) hc9 (by omega)), if_neg (show ¬ nI c = (9 : Int32) from nI_ne (b := 9) (by omega) (by omega) e4), p_add hc9 hI.2.1, a1, b_some, b_some, b1, b_some]
          refine ⟨_, _, _, rfl, rfl, h.track (n := n) (m := n + 1) (c := c + 1) (by omega) (by omega) (a3.tr b3) (Inv_ad (Inv_mono hI (nI_le (by omega) (by omega))) hc9 e1 e2 e3) ?_⟩
          refine RF_congr b2 (fun k hk => ?_) (fun r hr k hk => ?_)
          · rw [gAd_1, sSa_1, gAd_1]
          · rw [gAd_2, sSa_at, gAd_2]
            by_cases q : k = 2 ∧ r = c
            · rw [if_pos q, if_pos ⟨by omega, q.2⟩, q.1]
              rfl
            · rw [if_neg q]
              by_cases q2 : k < 8 ∧ r = c
              · rw [if_pos q2, if_pos q2]
                show (if k = 0 then a else if k = 1 then b else if k = 2 then d else if k = 3 then -1 else if k = 7 then -1 else 0) = (if k = 0 then a else if k = 1 then b else if k = 2 then 100 else if k = 3 then -1 else if k = 7 then -1 else 0)
                rw [if_neg (show ¬ k = 2 by omega), if_neg (show ¬ k = 2 by omega)]
              · rw [if_neg q2, if_neg q2]
      · rw [if_neg e3, if_neg e3]
        exact hB
    · rw [if_neg e2, if_neg e2]
      exact hB
  · rw [if_neg e1, if_neg e1]
    exact hB
/-- an answer that changes nothing -/
theorem ok_same {S : sWo} {M : sOb} {n : Nat} (h : Rel S M n) (hn : n < 512) {v w : Int32} (hv : v = w) : Ok (some (v, S)) (some (w, M)) (n + 1) := ⟨v, S, M, rfl, by rw [hv], h.mono (by omega) (by omega)⟩
theorem op_of {S : sWo} {M : sOb} {n : Nat} (h : Rel S M n) (hn : n < 512) (a k : Int32) : Ok (fX4_of S a k) (fX5_of M a k) (n + 1) := by
  have hB := ok_found h (show n ≤ n + 1 by omega) (by omega) 0 (by omega) (-1000000001) fd0
  obtain ⟨c, hI⟩ := h.1
  have hR := h.2.1
  have hc := hI.1
  unfold fX4_of fX5_of
  simp only [b_eta, p_has hI.1 hI.2.1, q_isRunner (hR.1.trans hI.2.1), b_so, bi, p_in k 0 8 (b' := 0) (c' := 8) rfl rfl]
  by_cases e : 0 ≤ a ∧ a < nI c
  · obtain ⟨r, hr, rfl⟩ := nI_ex (by omega) e.1 e.2
    have r9 : r < 9 := by omega
    simp only [if_pos e, if_neg (ix_n r9 (show 9 < 2147483648 by omega)), z_cl (show r < 2147483648 by omega), p_place hI.1 hI.2.1 hr, q_place hR hI.1 hI.2.1 hr, b_so]
    by_cases e0 : k = 0
    · rw [if_pos e0, if_pos (show 0 ≤ k ∧ k ≤ 8 by rw [e0]; decide), if_neg (show ¬ (8 : Int32) ≤ k by rw [e0]; decide), q_is hR r9 0 (by omega) (v := k) e0, b_some]
      exact ok_same h hn rfl
    rw [if_neg e0]
    by_cases e1 : k = 1
    · rw [if_pos e1, if_pos (show 0 ≤ k ∧ k ≤ 8 by rw [e1]; decide), if_neg (show ¬ (8 : Int32) ≤ k by rw [e1]; decide), q_is hR r9 1 (by omega) (v := k) e1, b_some]
      exact ok_same h hn rfl
    rw [if_neg e1]
    by_cases e2 : k = 2
    · rw [if_pos e2, if_pos (show 0 ≤ k ∧ k ≤ 8 by rw [e2]; decide), if_neg (show ¬ (8 : Int32) ≤ k by rw [e2]; decide), q_is hR r9 2 (by omega) (v := k) e2, b_some]
      exact ok_same h hn rfl
    rw [if_neg e2]
    by_cases e3 : k = 3
    · rw [if_pos e3, if_pos (show 0 ≤ k ∧ k ≤ 8 by rw [e3]; decide), if_neg (show ¬ (8 : Int32) ≤ k by rw [e3]; decide), q_is hR r9 3 (by omega) (v := k) e3, b_some]
      exact ok_same h hn rfl
    rw [if_neg e3]
    by_cases e4 : k = 4
    · rw [if_pos e4, if_pos (show 0 ≤ k ∧ k ≤ 8 by rw [e4]; decide), if_neg (show ¬ (8 : Int32) ≤ k by rw [e4]; decide), q_is hR r9 4 (by omega) (v := k) e4, b_some]
      exact ok_same h hn rfl
    rw [if_neg e4]
    by_cases e5 : k = 5
    · rw [if_pos e5, if_pos (show 0 ≤ k ∧ k ≤ 8 by rw [e5]; decide), if_neg (show ¬ (8 : Int32) ≤ k by rw [e5]; decide), q_is hR r9 5 (by omega) (v := k) e5, b_some]
      exact ok_same h hn rfl
    rw [if_neg e5]
    by_cases e6 : k = 6
    · rw [if_pos e6, if_pos (show 0 ≤ k ∧ k ≤ 8 by rw [e6]; decide), if_neg (show ¬ (8 : Int32) ≤ k by rw [e6]; decide), q_is hR r9 6 (by omega) (v := k) e6, b_some]
      exact ok_same h hn rfl
    rw [if_neg e6]
    by_cases e7 : k = 7
    · rw [if_pos e7, if_pos (show 0 ≤ k ∧ k ≤ 8 by rw [e7]; decide), if_neg (show ¬ (8 : Int32) ≤ k by rw [e7]; decide), q_is hR r9 7 (by omega) (v := k) e7, b_some]
      exact ok_same h hn rfl
    rw [if_neg e7]
    by_cases e8 : k = 8
    · rw [if_pos e8, if_pos (show 0 ≤ k ∧ k ≤ 8 by rw [e8]; decide), if_pos (show (8 : Int32) ≤ k by rw [e8]; decide)]
      exact ok_same h hn rfl
    rw [if_neg e8, if_neg (show ¬ (0 ≤ k ∧ k ≤ 8) by clear hB e; grind)]
    exact hB
  · rw [if_neg e, if_neg e]
    exact hB
theorem isUnder_eq : ∀ i : Nat, i < 6 → ∀ j : Nat, j < 6 → fX0_isUnder (nI i) (nI j) = fX5_isUnder (nI i) (nI j) := by
  intro i hi j hj
  rcases (show i = 0 ∨ i = 1 ∨ i = 2 ∨ i = 3 ∨ i = 4 ∨ i = 5 by omega) with rfl | rfl | rfl | rfl | rfl | rfl <;> rcases (show j = 0 ∨ j = 1 ∨ j = 2 ∨ j = 3 ∨ j = 4 ∨ j = 5 by omega) with rfl | rfl | rfl | rfl | rfl | rfl <;> decide +kernel
theorem isUnder_some : ∀ i : Nat, i < 6 → ∀ j : Nat, j < 6 → (fX5_isUnder (nI i) (nI j)).isSome = true := by
  intro i hi j hj
  rcases (show i = 0 ∨ i = 1 ∨ i = 2 ∨ i = 3 ∨ i = 4 ∨ i = 5 by omega) with rfl | rfl | rfl | rfl | rfl | rfl <;> rcases (show j = 0 ∨ j = 1 ∨ j = 2 ∨ j = 3 ∨ j = 4 ∨ j = 5 by omega) with rfl | rfl | rfl | rfl | rfl | rfl <;> decide +kernel
theorem op_as {S : sWo} {M : sOb} {n : Nat} (h : Rel S M n) (hn : n < 512) (a k : Int32) : Ok (fX4_as S a k) (fX5_as M a k) (n + 1) := by
  have hB := ok_found h (show n ≤ n + 1 by omega) (by omega) 0 (by omega) (-1000000001) fd0
  have hK := ok_found h (show n ≤ n + 1 by omega) (by omega) 2 (by omega) (-1000000003) fd2
  obtain ⟨c, hI⟩ := h.1
  have hR := h.2.1
  have hc := hI.1
  unfold fX4_as fX5_as
  simp only [b_eta, p_has hI.1 hI.2.1, q_isRunner (hR.1.trans hI.2.1), b_so, bi, p_kind, p_in k 0 5 (b' := 0) (c' := 5) rfl rfl]
  by_cases e : 0 ≤ a ∧ a < nI c
  · obtain ⟨r, hr, rfl⟩ := nI_ex (by omega) e.1 e.2
    have r9 : r < 9 := by omega
    obtain ⟨r0, -, -, -, -, -, -⟩ := hI.2.2.2.2.2.2.2 r hr
    rw [if_pos e, if_pos e]
    by_cases e2 : 0 ≤ k ∧ k ≤ 5
    · obtain ⟨i, hi, ei⟩ := nI_ex (c := 6) (by omega) r0.1 (show (S 1).2.1 0 r < nI 6 by show _ < (6 : Int32); clear hB hK e e2; grind)
      obtain ⟨j, hj, ej⟩ := nI_ex (c := 6) (by omega) e2.1 (show k < nI 6 by show _ < (6 : Int32); clear hB hK e r0; grind)
      rw [if_pos e2, if_pos e2, if_neg (ix_in r9 (by omega)), z_cl (by omega), q_is hR r9 0 (by omega) (v := 0) rfl, b_some, q_is hR r9 1 (by omega) (v := 1) rfl, ei, ej, isUnder_eq i hi j hj]
      have hs := isUnder_some i hi j hj
      cases hq : fX5_isUnder (nI i) (nI j) with
      | none => rw [hq] at hs; cases hs
      | some u =>
        rw [b_some, b_some, b_some]
        by_cases q : u = 0
        · rw [if_pos q, if_pos q]
          exact hK
        · rw [if_neg q, if_neg q]
          exact ok_same h hn rfl
    · rw [if_neg e2, if_neg e2]
      exact hB
  · rw [if_neg e, if_neg e]
    exact hB
