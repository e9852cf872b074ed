/-! PURE: what is tried: on, home, prizeBy, race, leaders, passes -/
theorem p_tryOut (S : sWo) : fX4_tryOut S = some (sUp S 2 (gTO (S 2) (S 1))) := by
  unfold fX4_tryOut
  rw [p_takeOver, b_some, nm_d]
theorem up2 {S : sWo} {T : sOb} : ∀ o, o ≠ 2 → sUp S 2 T o = S o := fun _ ho => sUp_n ho
theorem ok_trial {S S' : sWo} {M M' : sOb} {n : Nat} (h : Rel S M n) (hn : n < 512) (hS : ∀ o, o ≠ 2 → S' o = S o) (hM : Fq M M') {v w : Int32} (hv : v = w) : Ok (some (v, S')) (some (w, M')) (n + 1) := ⟨v, S', M', rfl, by rw [hv], (h.trial hS hM).mono (by omega) (by omega)⟩
theorem up22 {S : sWo} {T T' : sOb} : ∀ o, o ≠ 2 → sUp (sUp S 2 T) 2 T' o = S o := fun _ ho => by rw [sUp_n ho, sUp_n ho]
theorem op_on {S : sWo} {M : sOb} {n : Nat} (h : Rel S M n) (hn : n < 512) (a b : Int32) : Ok (fX4_on S a b) (fX5_on M a b) (n + 1) := by
  have hB := ok_found h (show n ≤ n + 1 by omega) (by omega) 0 (by omega) (-1000000001) fd0
  obtain ⟨c, hI⟩ := h.1
  have hR := h.2.1
  have hc := hI.1
  unfold fX4_on fX5_on
  simp only [b_eta, p_has hI.1 hI.2.1, q_isRunner (hR.1.trans hI.2.1), b_so, bi, p_in b 0 2000 (b' := 0) (c' := 2000) rfl rfl, p_tryOut, sUp_s]
  by_cases e : 0 ≤ a ∧ a < nI c
  · obtain ⟨r, hr, rfl⟩ := nI_ex (by omega) e.1 e.2
    rw [if_pos e, if_pos e]
    by_cases e2 : 0 ≤ b ∧ b ≤ 2000
    · obtain ⟨k, hk, rfl⟩ := nI_ex (c := 2001) (by omega) e2.1 (show b < nI 2001 by show b < (2001 : Int32); clear hB e; grind)
      have hIT : Inv (gTO (S 2) (S 1)) c (nI (600 * n)) := Inv_TO hI
      obtain ⟨M1, a1, a2, -, a4⟩ := q_trial M
      have hR1 : RF (M1.2.1 0) (gTO (S 2) (S 1)) := by rw [a2]; exact RF_TO hR
      obtain ⟨M2, b1, b2, b3⟩ := q_goMany (c := c) k (by omega) k 0 FU (by omega) (by unfold FU; omega) (gTO (S 2) (S 1)) M1 (600 * n) hIT (by omega) hR1
      obtain ⟨M3, c1, c2⟩ := a4 M2 b3
      have b1' : fX5_goesOnMany M1 (nI k) = some M2 := b1
      rw [if_neg (nI_pos (by omega)), if_pos e2.2, if_pos e2, p_goOnE k (by omega) hIT (by omega), b_some, nm_d, if_neg (ix_in (show r < 9 by omega) (by omega)), z_cl (by omega), sUp_s, a1, b_some, b1', b_some, q_is b2 (show r < 9 by omega) 5 (by omega) (v := 5) rfl, b_some, c1, b_some]
      exact ok_trial h hn up22 c2 rfl
    · rw [if_neg e2]
      by_cases e3 : b < 0
      · rw [if_pos e3]
        exact hB
      · rw [if_neg e3, if_neg (show ¬ b ≤ 2000 by clear hB e; grind)]
        exact hB
  · rw [if_neg e, if_neg e]
    exact hB
/-- to the end, on both sides -/
theorem q_end {S : sWo} {M : sOb} {n c : Nat} (h : Rel S M n) (hn : n < 512) (hI : Inv (S 1) c (nI (600 * n))) : ∃ T M1 M2 M3, T = gIt c 2000 (gTO (S 2) (S 1)) ∧ fX3_goOn (gTO (S 2) (S 1)) (2000 : Int32) = some T ∧ Inv T c (nI (600 * n + 2000)) ∧ fX5_laysBy M = some M1 ∧ fX5_goesToEnd M1 = some (if gHC T c = c then 1 else 0, M2) ∧ RF (M2.2.1 0) T ∧ fX5_laysBack M2 = some M3 ∧ Fq M M3 := by
  have hR := h.2.1
  have hIT : Inv (gTO (S 2) (S 1)) c (nI (600 * n)) := Inv_TO hI
  obtain ⟨M1, a1, a2, -, a4⟩ := q_trial M
  have hR1 : RF (M1.2.1 0) (gTO (S 2) (S 1)) := by rw [a2]; exact RF_TO hR
  obtain ⟨M2, b1, b2, b3⟩ := q_goesToEnd hIT (by omega) hR1
  obtain ⟨M3, c1, c2⟩ := a4 M2 b3
  exact ⟨_, M1, M2, M3, rfl, p_goOnE 2000 (by omega) hIT (by omega), Inv_it 2000 (600 * n) hIT (by omega), a1, b1, b2, c1, c2⟩
theorem op_home {S : sWo} {M : sOb} {n : Nat} (h : Rel S M n) (hn : n < 512) (a : Int32) : Ok (fX4_home S a) (fX5_home M a) (n + 1) := by
  have hB := ok_found h (show n ≤ n + 1 by omega) (by omega) 0 (by omega) (-1000000001) fd0
  obtain ⟨c, hI⟩ := h.1
  have hR := h.2.1
  have hc := hI.1
  unfold fX4_home fX5_home
  simp only [b_eta, p_has hI.1 hI.2.1, q_isRunner (hR.1.trans hI.2.1), b_so, bi, p_tryOut, sUp_s]
  by_cases e : 0 ≤ a ∧ a < nI c
  · obtain ⟨r, hr, rfl⟩ := nI_ex (by omega) e.1 e.2
    obtain ⟨T, M1, M2, M3, -, t1, t2, t3, t4, t5, t6, t7⟩ := q_end h hn hI
    rw [if_pos e, if_pos e, t1, b_some, nm_d, sUp_s, p_isHome t2.1 t2.2.1 _ e.2, b_some, if_neg (nI_pos (by omega)), z_cl (by omega), if_neg (ix_n (show r < 9 by omega) (show 9 < 2147483648 by omega)), t3, b_some, t4, b_some, q_is t5 (show r < 9 by omega) 7 (by omega) (v := 7) rfl, b_some, t6, b_some]
    unfold fX5_orNone
    rw [b_eta]
    by_cases q : T.2.1 7 r < 0
    · rw [if_pos q, if_pos rfl, if_neg (show ¬ 0 ≤ T.2.1 7 r by clear hB e; grind)]
      exact ok_found (h.trial up22 t7) (by omega) (by omega) 3 (by omega) (-1000000004) fd3
    · rw [if_neg q, if_neg n10, if_pos (show 0 ≤ T.2.1 7 r by clear hB e; grind)]
      exact ok_trial h hn up22 t7 rfl
  · rw [if_neg e, if_neg e]
    exact hB
theorem op_prizeBy {S : sWo} {M : sOb} {n : Nat} (h : Rel S M n) (hn : n < 512) (a : Int32) : Ok (fX4_prizeBy S a) (fX5_prizeBy M a) (n + 1) := by
  have hB := ok_found h (show n ≤ n + 1 by omega) (by omega) 0 (by omega) (-1000000001) fd0
  obtain ⟨c, hI⟩ := h.1
  have hR := h.2.1
  have hc := hI.1
  unfold fX4_prizeBy fX5_prizeBy
  simp only [b_eta, b_so, bi, p_tryOut, sUp_s, p_law, p_in a 0 3 (b' := 0) (c' := 3) rfl rfl]
  by_cases e : 0 ≤ a ∧ a ≤ 3
  · obtain ⟨T, M1, M2, M3, -, t1, t2, t3, t4, t5, t6, t7⟩ := q_end h hn hI
    rw [if_pos e, if_pos e, t1, b_some, nm_d, sUp_s, p_allHome t2, b_some, bi, p_prize t2.1 t2.2.1, b_some, t3, b_some, t4, b_some]
    dsimp only
    rw [q_prize t5 t2.1 t2.2.1, nm_d, t6, b_some, bi]
    by_cases q : gHC T c = c
    · rw [if_pos q, if_pos q]
      exact ok_none (h.trial up22 t7) (by omega) (by omega) _ (gPz_n t2.1 _)
    · rw [if_neg q, if_neg q]
      exact ok_none (h.trial up22 t7) (by omega) (by omega) _ (Or.inl rfl)
  · rw [if_neg e, if_neg e]
    exact hB
theorem gRa_n {T : sOb} {c : Nat} (hc : c ≤ 9) : gRa T c = -1 ∨ 0 ≤ gRa T c := by
  unfold gRa
  split
  · exact gPz_n hc _
  · exact Or.inl rfl
theorem op_race {S : sWo} {M : sOb} {n : Nat} (h : Rel S M n) (hn : n < 512) : Ok (fX4_race S) (fX5_race M) (n + 1) := by
  obtain ⟨c, hI⟩ := h.1
  have hR := h.2.1
  have hIT : Inv (gTO (S 2) (S 1)) c (nI (600 * n)) := Inv_TO hI
  obtain ⟨M1, a1, a2, -, a4⟩ := q_trial M
  have hR1 : RF (M1.2.1 0) (gTO (S 2) (S 1)) := by rw [a2]; exact RF_TO hR
  obtain ⟨M2, b1, b3⟩ := q_race hIT hR1
  obtain ⟨M3, c1, c2⟩ := a4 M2 b3
  unfold fX4_race fX5_race
  rw [p_tryOut, b_some, sUp_s, p_race hIT, b_some, nm_d, b_eta, a1, b_some, b1, b_some, c1, b_some, b_eta]
  exact ok_none (h.trial up22 c2) (by omega) (by omega) _ (gRa_n hI.1)
/-- how often another one leads -/
def gLe (c : Nat) : Nat → sOb → Int32 → Int32 → Int32
  | 0, _, _, m => m
  | d + 1, T, l, m => if (gFA T c).1 = -1 ∨ (gFA T c).1 = l then gLe c d (gTick T c) l m else gLe c d (gTick T c) (gFA T c).1 (m + 1)
theorem gFA_home {T : sOb} {c : Nat} : ∀ n, (∀ r, r < n → ¬ T.2.1 7 r < 0) → gFA T n = (-1, -1)
  | 0, _ => rfl
  | n + 1, h => by rw [gFA_s, if_neg (h n (by omega)), gFA_home (c := c) n (fun r hr => h r (by omega))]
theorem gLe_home {T : sOb} {c : Nat} (h : gHC T c = c) : ∀ d l m, gLe c d T l m = m
  | 0, _, _ => rfl
  | d + 1, l, m => by
    unfold gLe
    rw [gFA_home (c := c) c (gHC_all h), if_pos (Or.inl rfl), gTick, if_pos h]
    exact gLe_home h d l m
theorem gFA_n {T : sOb} : ∀ n, n ≤ 9 → (gFA T n).1 = -1 ∨ ∃ r, r < n ∧ (gFA T n).1 = nI r
  | 0, _ => Or.inl rfl
  | n + 1, hn => by
    rw [gFA_s]
    have ih := gFA_n (T := T) n (by omega)
    have ih' : (gFA T n).1 = -1 ∨ ∃ r, r < n + 1 ∧ (gFA T n).1 = nI r := by
      rcases ih with q | ⟨r, hr, q⟩
      · exact Or.inl q
      · exact Or.inr ⟨r, by omega, q⟩
    split
    · split
      · split
        · exact Or.inl rfl
        · exact ih'
      · exact Or.inr ⟨n, by omega, rfl⟩
    · exact ih'
theorem p_leaders {c : Nat} : ∀ d i n : Nat, i + d = 2001 → d < n → ∀ (S : sWo) (b : Nat) (l m : Int32), Inv (S 2) c (nI b) → b + d < 2000000000 → ∃ S', fx4 bX4_leaders_12 n l m (nI i) S = some (gLe c d (S 2) l m, S') ∧ ∀ o, o ≠ 2 → S' o = S o := by
  intro d
  induction d with
  | zero =>
    intro i n hi hn S b l m h hb
    obtain ⟨f, rfl⟩ : ∃ f, n = f + 1 := ⟨n - 1, by omega⟩
    obtain rfl : i = 2001 := by omega
    refine ⟨S, ?_, fun _ _ => rfl⟩
    show bX4_leaders_12 _ _ _ _ _ = _
    unfold bX4_leaders_12
    rw [if_pos (show (2000 : Int32) < nI 2001 from nI_lt (a := 2000) (by omega) (by omega))]
    rfl
  | succ d ih =>
    intro i n hi hn S b l m h hb
    obtain ⟨f, rfl⟩ : ∃ f, n = f + 1 := ⟨n - 1, by omega⟩
    show ∃ S', bX4_leaders_12 (fx4 bX4_leaders_12 f) _ _ _ _ = _ ∧ _
    have ih2 : ∀ l m, ∃ S', fx4 bX4_leaders_12 f l m (nI i + 1) (sUp S 2 (gTick (S 2) c)) = some (gLe c d (gTick (S 2) c) l m, S') ∧ ∀ o, o ≠ 2 → S' o = S o := by
      intro l m
      obtain ⟨S', a1, a2⟩ := ih (i + 1) f (by omega) (by omega) (sUp S 2 (gTick (S 2) c)) (b + 1) l m (by rw [sUp_s]; exact Inv_tick h (by omega)) (by omega)
      rw [nI_succ, sUp_s] at a1
      exact ⟨S', a1, fun o ho => (a2 o ho).trans (sUp_n ho)⟩
    generalize fx4 bX4_leaders_12 f = rc at ih2 ⊢
    unfold bX4_leaders_12
    rw [if_neg (show ¬ (2000 : Int32) < nI i from nI_nlt (a := 2000) (by omega) (by omega)), p_allHome h, b_some, bi]
    by_cases q : gHC (S 2) c = c
    · rw [if_pos q, gLe_home q]
      exact ⟨S, rfl, fun _ _ => rfl⟩
    · rw [if_neg q, p_FA h.1 h.2.1, b_some, p_second h.1 h.2.1 (Inv_f h), b_some]
      have et : gTick (S 2) c = gStep (S 2) c := by rw [gTick, if_neg q]
      rw [et] at ih2
      unfold gLe
      rw [et]
      simp only [nm_d]
      by_cases q1 : (gFA (S 2) c).1 = -1
      · rw [if_pos q1, if_pos (Or.inl q1)]
        exact ih2 l m
      · rw [if_neg q1]
        by_cases q2 : (gFA (S 2) c).1 = l
        · rw [if_pos q2, if_pos (Or.inr q2)]
          exact ih2 l m
        · rw [if_neg q2, if_neg (fun z => z.elim q1 q2)]
          exact ih2 _ _
theorem q_leaders {c : Nat} : ∀ d i n : Nat, i + d = 2001 → d < n → ∀ (T M M0 M00 : sOb) (b : Nat) (l m : Int32), Inv T c (nI b) → b + d < 2000000000 → RF (M.2.1 0) T → Fm M0 M → (∀ M2, Fm M0 M2 → ∃ M3, fX5_laysBack M2 = some M3 ∧ Fq M00 M3) → ∃ M', fx4 bX5_leaders_10 n l m (nI i) M = some (gLe c d T l m, M') ∧ Fq M00 M' := by
  intro d
  induction d with
  | zero =>
    intro i n hi hn T M M0 M00 b l m h hb hr hF hL
    obtain ⟨f, rfl⟩ : ∃ f, n = f + 1 := ⟨n - 1, by omega⟩
    obtain rfl : i = 2001 := by omega
    obtain ⟨M3, a1, a2⟩ := hL M hF
    refine ⟨M3, ?_, a2⟩
    show bX5_leaders_10 _ _ _ _ _ = _
    unfold bX5_leaders_10
    rw [if_pos (show (2000 : Int32) < nI 2001 from nI_lt (a := 2000) (by omega) (by omega)), a1, b_some]
    rfl
  | succ d ih =>
    intro i n hi hn T M M0 M00 b l m h hb hr hF hL
    obtain ⟨f, rfl⟩ : ∃ f, n = f + 1 := ⟨n - 1, by omega⟩
    obtain ⟨M1, x, a1, a2, a3⟩ := q_tick h hr
    have ih2 : ∀ l m, ∃ M', fx4 bX5_leaders_10 f l m (nI i + 1) M1 = some (gLe c d (gTick T c) l m, M') ∧ Fq M00 M' := by
      intro l m
      have := ih (i + 1) f (by omega) (by omega) (gTick T c) M1 M0 M00 (b + 1) l m (Inv_tick h (by omega)) (by omega) a2 (hF.tr a3) hL
      rw [nI_succ] at this
      exact this
    show ∃ M', bX5_leaders_10 (fx4 bX5_leaders_10 f) _ _ _ _ = _ ∧ _
    generalize fx4 bX5_leaders_10 f = rc at ih2 ⊢
    unfold bX5_leaders_10 gLe
    rw [if_neg (show ¬ (2000 : Int32) < nI i from nI_nlt (a := 2000) (by omega) (by omega)), q_FA hr h, b_some]
    simp only [nm_d, a1, b_so]
    have hc := h.1
    rcases gFA_n (T := T) c hc with q | ⟨r, hr', q⟩
    · rw [q, if_pos (Or.inl rfl), if_pos (by decide), if_pos (by decide), Int32.add_zero]
      exact ih2 l m
    · have hz : ¬ nI r = -1 := by
        have := nI_pos' (n := r) (by omega)
        generalize nI r = y at this ⊢
        clear ih2
        grind
      rw [q, if_neg (nI_pos (by omega))]
      by_cases q2 : nI r = l
      · rw [if_pos q2, if_pos (Or.inr q2), if_neg (nI_pos (by omega)), Int32.add_zero, q2]
        exact ih2 _ _
      · rw [if_neg q2, if_neg (show ¬ (nI r = -1 ∨ nI r = l) from fun z => z.elim hz q2)]
        try rw [if_neg (nI_pos (n := r) (by omega))]
        exact ih2 _ _
theorem op_leaders {S : sWo} {M : sOb} {n : Nat} (h : Rel S M n) (hn : n < 512) : Ok (fX4_leaders S) (fX5_leaders M) (n + 1) := by
  obtain ⟨c, hI⟩ := h.1
  have hR := h.2.1
  have hIT : Inv (gTO (S 2) (S 1)) c (nI (600 * n)) := Inv_TO hI
  obtain ⟨M1, a1, a2, -, a4⟩ := q_trial M
  have hR1 : RF (M1.2.1 0) (gTO (S 2) (S 1)) := by rw [a2]; exact RF_TO hR
  obtain ⟨S', b1, b2⟩ := p_leaders (c := c) 2001 0 FU (by omega) (by unfold FU; omega) (sUp S 2 (gTO (S 2) (S 1))) (600 * n) (-1) 0 (by rw [sUp_s]; exact hIT) (by omega)
  obtain ⟨M', c1, c2⟩ := q_leaders (c := c) 2001 0 FU (by omega) (by unfold FU; omega) (gTO (S 2) (S 1)) M1 M1 M (600 * n) (-1) 0 hIT (by omega) hR1 (Fm.rf M1) a4
  rw [sUp_s, show nI 0 = (0 : Int32) from rfl] at b1
  rw [show nI 0 = (0 : Int32) from rfl] at c1
  unfold fX4_leaders fX5_leaders
  rw [p_tryOut, b_some, b1, a1, b_some, c1]
  exact ok_trial h hn (fun o ho => (b2 o ho).trans (sUp_n ho)) c2 rfl
/-- when one has more yards than another one -/
def gPa (c a b : Nat) : Nat → Nat → sOb → Int32
  | 0, _, _ => -1
  | d + 1, i, T => if T.2.1 5 a ≤ T.2.1 5 b then gPa c a b d (i + 1) (gTick T c) else nI i
theorem gPa_s (c a b d i : Nat) (T : sOb) : gPa c a b (d + 1) i T = if T.2.1 5 a ≤ T.2.1 5 b then gPa c a b d (i + 1) (gTick T c) else nI i := rfl
theorem gPa_home {c a b : Nat} {T : sOb} (h : gHC T c = c) (hy : T.2.1 5 a ≤ T.2.1 5 b) : ∀ d i, gPa c a b d i T = -1
  | 0, _ => rfl
  | d + 1, i => by
    rw [gPa_s, if_pos hy, gTick, if_pos h]
    exact gPa_home h hy d (i + 1)
theorem p_passes {c a b' : Nat} (ha : a < 9) (hb' : b' < 9) : ∀ d i n : Nat, i + d = 2001 → d < n → ∀ (S : sWo) (b : Nat), Inv (S 2) c (nI b) → b + d < 2000000000 → ∃ S', fx2 (bX4_passes_42 (nI a) (nI b') (fun (S_75 : sWo) => (fX4_found S_75 (-1000000004 : Int32)).bind fun q91 => some (q91.1, q91.2))) n (nI i) S = fX4_runnerOrNone S' (gPa c a b' d i (S 2)) ∧ ∀ o, o ≠ 2 → S' o = S o := by
  intro d
  induction d with
  | zero =>
    intro i n hi hn S b h hb
    obtain ⟨f, rfl⟩ : ∃ f, n = f + 1 := ⟨n - 1, by omega⟩
    obtain rfl : i = 2001 := by omega
    refine ⟨S, ?_, fun _ _ => rfl⟩
    show bX4_passes_42 _ _ _ _ _ _ = _
    unfold bX4_passes_42 fX4_runnerOrNone
    rw [if_pos (show (2000 : Int32) < nI 2001 from nI_lt (a := 2000) (by omega) (by omega)), if_pos (show gPa c a b' 0 2001 (S 2) = -1 from rfl)]
  | succ d ih =>
    intro i n hi hn S b h hb
    obtain ⟨f, rfl⟩ : ∃ f, n = f + 1 := ⟨n - 1, by omega⟩
    have ih2 := ih (i + 1) f (by omega) (by omega) (sUp S 2 (gTick (S 2) c)) (b + 1) (by rw [sUp_s]; exact Inv_tick h (by omega)) (by omega)
    rw [nI_succ, sUp_s] at ih2
    show ∃ S', bX4_passes_42 _ _ _ (fx2 (bX4_passes_42 _ _ _) f) _ _ = _ ∧ _
    generalize fx2 (bX4_passes_42 (nI a) (nI b') (fun (S_75 : sWo) => (fX4_found S_75 (-1000000004 : Int32)).bind fun q91 => some (q91.1, q91.2))) f = rc at ih2 ⊢
    unfold bX4_passes_42
    rw [if_neg (show ¬ (2000 : Int32) < nI i from nI_nlt (a := 2000) (by omega) (by omega)), if_neg (ix_in ha (by omega)), if_neg (ix_in hb' (by omega)), z_cl (by omega), z_cl (by omega), p_allHome h, b_some, bi, gPa_s]
    by_cases q0 : (S 2).2.1 5 a ≤ (S 2).2.1 5 b'
    · rw [if_pos q0, if_pos q0]
      by_cases q : gHC (S 2) c = c
      · rw [if_pos q]
        refine ⟨S, ?_, fun _ _ => rfl⟩
        unfold fX4_runnerOrNone
        rw [gTick, if_pos q, gPa_home q q0, if_pos rfl]
      · have et : gTick (S 2) c = gStep (S 2) c := by rw [gTick, if_neg q]
        rw [et] at ih2 ⊢
        rw [if_neg q, p_second h.1 h.2.1 (Inv_f h), b_some, nm_d, nm_d]
        obtain ⟨S', a1, a2⟩ := ih2
        exact ⟨S', a1, fun o ho => (a2 o ho).trans (sUp_n ho)⟩
    · rw [if_neg q0, if_neg q0]
      refine ⟨S, ?_, fun _ _ => rfl⟩
      unfold fX4_runnerOrNone
      rw [if_neg ?_]
      have := nI_pos' (n := i) (by omega)
      clear ih2
      generalize nI i = y at this ⊢
      grind
theorem q_passes {c a b' : Nat} (ha : a < 9) (hb' : b' < 9) (k : Int32 → sOb → Option (Int32 × sOb)) : ∀ d i n : Nat, i + d = 2001 → d + 1 < n → ∀ (T M M0 : sOb) (b : Nat), Inv T c (nI b) → b + d < 2000000000 → RF (M.2.1 0) T → Fm M0 M → ∃ M', fx3 (bX5_passes_37 (nI a) (nI b') k) n (-1) (nI i) M = k (gPa c a b' d i T) M' ∧ Fm M0 M' := by
  intro d
  induction d with
  | zero =>
    intro i n hi hn T M M0 b h hb hr hF
    obtain ⟨f, rfl⟩ : ∃ f, n = f + 1 := ⟨n - 1, by omega⟩
    obtain rfl : i = 2001 := by omega
    refine ⟨M, ?_, hF⟩
    show bX5_passes_37 _ _ _ _ _ _ _ = _
    unfold bX5_passes_37
    rw [if_pos (show (2000 : Int32) < nI 2001 from nI_lt (a := 2000) (by omega) (by omega))]
    rfl
  | succ d ih =>
    intro i n hi hn T M M0 b h hb hr hF
    obtain ⟨f, rfl⟩ : ∃ f, n = f + 1 := ⟨n - 1, by omega⟩
    obtain ⟨M1, x, a1, a2, a3⟩ := q_tick h hr
    have ih2 := ih (i + 1) f (by omega) (by omega) (gTick T c) M1 M0 (b + 1) (Inv_tick h (by omega)) (by omega) a2 (hF.tr a3)
    rw [nI_succ] at ih2
    have hlast : ∀ j : Int32, 0 ≤ j → ∀ M', fx3 (bX5_passes_37 (nI a) (nI b') k) f j (nI i + 1) M' = k j M' := by
      intro j hj M'
      obtain ⟨f', rfl⟩ : ∃ f', f = f' + 1 := ⟨f - 1, by omega⟩
      show bX5_passes_37 _ _ _ _ _ _ _ = _
      unfold bX5_passes_37
      rw [if_pos hj]
      split <;> rfl
    show ∃ M', bX5_passes_37 _ _ _ (fx3 (bX5_passes_37 (nI a) (nI b') k) f) _ _ _ = _ ∧ _
    generalize fx3 (bX5_passes_37 (nI a) (nI b') k) f = rc at ih2 hlast ⊢
    unfold bX5_passes_37
    rw [if_neg (show ¬ (2000 : Int32) < nI i from nI_nlt (a := 2000) (by omega) (by omega)), if_neg (by decide), q_is hr ha 5 (by omega) (v := 5) rfl, b_some, q_is hr hb' 5 (by omega) (v := 5) rfl, b_some, nm_if, a1, b_some, nm_d, gPa_s]
    by_cases q0 : T.2.1 5 a ≤ T.2.1 5 b'
    · rw [if_pos q0, if_pos q0]
      exact ih2
    · rw [if_neg q0, if_neg q0]
      exact ⟨M1, hlast _ (nI_pos' (by omega)) M1, hF.tr a3⟩
theorem gPa_n {c a b : Nat} : ∀ d i T, i + d ≤ 3000 → gPa c a b d i T = -1 ∨ 0 ≤ gPa c a b d i T
  | 0, _, _, _ => Or.inl rfl
  | d + 1, i, T, h => by
    rw [gPa_s]
    split
    · exact gPa_n d (i + 1) _ (by omega)
    · exact Or.inr (nI_pos' (by omega))
theorem op_passes {S : sWo} {M : sOb} {n : Nat} (h : Rel S M n) (hn : n < 512) (a b : Int32) : Ok (fX4_passes S a b) (fX5_passes M a b) (n + 1) := by
  have hB := ok_found h (show n ≤ n + 1 by omega) (by omega) 0 (by omega) (-1000000001) fd0
  obtain ⟨c, hI⟩ := h.1
  have hR := h.2.1
  have hc := hI.1
  unfold fX4_passes fX5_passes
  rw [p_has hI.1 hI.2.1, q_isRunner (hR.1.trans hI.2.1), p_has hI.1 hI.2.1, q_isRunner (hR.1.trans hI.2.1), b_some, b_some, b_some, b_some, bi, bi, bi, bi, p_tryOut, b_some]
  by_cases e : 0 ≤ a ∧ a < nI c
  · obtain ⟨r, hr, rfl⟩ := nI_ex (by omega) e.1 e.2
    rw [if_pos e, if_pos e]
    by_cases e2 : 0 ≤ b ∧ b < nI c
    · obtain ⟨r', hr', rfl⟩ := nI_ex (by omega) e2.1 e2.2
      rw [if_pos e2, if_pos e2]
      by_cases e3 : nI r = nI r'
      · rw [if_pos e3, if_pos e3, b_eta, b_eta]
        exact hB
      · have hIT : Inv (gTO (S 2) (S 1)) c (nI (600 * n)) := Inv_TO hI
        obtain ⟨M1, a1, a2, -, a4⟩ := q_trial M
        have hR1 : RF (M1.2.1 0) (gTO (S 2) (S 1)) := by rw [a2]; exact RF_TO hR
        obtain ⟨S', b1, b2⟩ := p_passes (c := c) (show r < 9 by omega) (show r' < 9 by omega) 2001 0 FU (by omega) (by unfold FU; omega) (sUp S 2 (gTO (S 2) (S 1))) (600 * n) (by rw [sUp_s]; exact hIT) (by omega)
        obtain ⟨M', c1, c2⟩ := q_passes (c := c) (show r < 9 by omega) (show r' < 9 by omega) (fun (x3_83 : Int32) (T_83 : sOb) => (fX5_laysBack T_83).bind fun q84 => (fX5_orNone q84 x3_83).bind fun q89 => some (q89.1, q89.2)) 2001 0 FU (by omega) (by unfold FU; omega) (gTO (S 2) (S 1)) M1 M1 (600 * n) hIT (by omega) hR1 (Fm.rf M1)
        obtain ⟨M3, d1, d2⟩ := a4 M' c2
        rw [sUp_s, show nI 0 = (0 : Int32) from rfl] at b1
        rw [show nI 0 = (0 : Int32) from rfl] at c1
        rw [if_neg e3, if_neg e3, nm_d, b1, a1, b_some, nm_d, c1, d1, b_some, b_eta]
        exact ok_none (h.trial (fun o ho => (b2 o ho).trans (sUp_n ho)) d2) (by omega) (by omega) _ (gPa_n _ _ _ (by omega))
    · rw [if_neg e2, if_neg e2, b_eta, b_eta]
      exact hB
  · rw [if_neg e, if_neg e, b_eta, b_eta]
    exact hB
