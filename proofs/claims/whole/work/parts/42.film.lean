/-! PURE: film, read -/
theorem RelS.congr {Q M M' : sOb} {j : Nat} (h : RelS Q M j) (h5 : M'.2.1 5 = M.2.1 5) (h6 : M'.2.1 6 = M.2.1 6) (hL : M'.2.2 = M.2.2) : RelS Q M' j := by
  unfold RelS
  rw [h5, h6, hL]
  exact h
theorem gIt_1 (c : Nat) (T : sOb) : gIt c 1 T = gTick T c := rfl
theorem lp_film {c j r : Nat} (hj : j < 4) (hr : r < c) (k : sOb → Option (Int32 × sOb)) (S0 : sWo) (M0 : sOb) (hk : ¬ (S0 (5 + j)).1 0 = 0) : ∀ d i m : Nat, i + d = 40 → d < m → ∀ (S : sWo) (M : sOb) (b : Nat), Inv (S 2) c (nI b) → b + d < 900000000 → RF (M.2.1 0) (S 2) → (∀ o, o ≠ 2 → o ≠ 5 + j → S o = S0 o) → (S (5 + j)).1 = (S0 (5 + j)).1 → M.1 = M0.1 → (∀ k, k ≠ 0 → k ≠ 7 → M.2.1 k = M0.2.1 k) → (∀ p, ¬ (40 * j ≤ p ∧ p < 40 * j + 40) → M.2.2 p = M0.2.2 p) → RelS (S (5 + j)) M j → ∃ S' M', fx2 (bX4_film_51 (nI j) (nI r)) m (nI i) S = some ((S0 (5 + j)).1 1, S') ∧ fx2 (bX5_film_39 (nI j) (nI r) k) m (nI i) M = k M' ∧ (∀ o, o ≠ 2 → o ≠ 5 + j → S' o = S0 o) ∧ M'.1 = M0.1 ∧ (∀ k, k ≠ 0 → k ≠ 7 → M'.2.1 k = M0.2.1 k) ∧ (∀ p, ¬ (40 * j ≤ p ∧ p < 40 * j + 40) → M'.2.2 p = M0.2.2 p) ∧ RelS (S' (5 + j)) M' j := by
  intro d
  induction d with
  | zero =>
    intro i m hi hm S M b hI hb hR hS hQ h1 h2 h3 h4
    obtain ⟨f, rfl⟩ : ∃ f, m = f + 1 := ⟨m - 1, by omega⟩
    obtain rfl : i = 40 := by omega
    refine ⟨S, M, ?_, ?_, hS, h1, h2, h3, h4⟩
    · show bX4_film_51 _ _ _ _ _ = _
      unfold bX4_film_51
      rw [z_cl (show j < 2147483648 by omega), if_pos (show (S (5 + j)).1 1 ≤ nI 40 from h4.2.2.2.1.2), hQ]
    · show bX5_film_39 _ _ _ _ _ _ = _
      unfold bX5_film_39
      rw [if_neg (ix_in hj (by omega)), z_cl (show j < 2147483648 by omega), h4.2.2.1, if_pos (show (S (5 + j)).1 1 ≤ nI 40 from h4.2.2.2.1.2)]
  | succ d ih =>
    intro i m hi hm S M b hI hb hR hS hQ h1 h2 h3 h4
    obtain ⟨f, rfl⟩ : ∃ f, m = f + 1 := ⟨m - 1, by omega⟩
    have hc := hI.1
    by_cases q : (S (5 + j)).1 1 ≤ nI i
    · refine ⟨S, M, ?_, ?_, hS, h1, h2, h3, h4⟩
      · show bX4_film_51 _ _ (fx2 (bX4_film_51 (nI j) (nI r)) f) _ _ = _
        generalize fx2 (bX4_film_51 (nI j) (nI r)) f = rc
        unfold bX4_film_51
        rw [z_cl (show j < 2147483648 by omega), if_pos q, hQ]
      · show bX5_film_39 _ _ _ (fx2 (bX5_film_39 (nI j) (nI r) k) f) _ _ = _
        generalize fx2 (bX5_film_39 (nI j) (nI r) k) f = rm
        unfold bX5_film_39
        rw [if_neg (ix_in hj (by omega)), z_cl (show j < 2147483648 by omega), h4.2.2.1, if_pos q]
    · have hq0 : ¬ (S (5 + j)).1 0 = 0 := by rw [hQ]; exact hk
      obtain ⟨w, w1, w2⟩ := p_narrow h4 hq0 ((S 2).2.1 5 r).toInt64
      have hp := p_put40 (i := i) h4.2.2.2.1 (Int32.not_le.mp q) (by omega) w1
      have h4' := h4.put (i := i) w
      obtain ⟨M2, x, a1, a2, a3⟩ := q_tick (M := sSl M (40 * j + i) w) hI hR
      have eQ : sUp (sUp S (5 + j) (sSl (S (5 + j)) i w)) 2 (gTick (S 2) c) (5 + j) = sSl (S (5 + j)) i w := by rw [sUp_n (by omega), sUp_s]
      have IH := ih (i + 1) f (by omega) (by omega) (sUp (sUp S (5 + j) (sSl (S (5 + j)) i w)) 2 (gTick (S 2) c)) M2 (b + 1) (by rw [sUp_s]; exact Inv_tick hI (by omega)) (by omega) (by rw [sUp_s]; exact a2) (fun o ho ho' => by rw [sUp_n ho, sUp_n ho']; exact hS o ho ho') (by rw [eQ]; exact hQ) (a3.1.trans h1) (fun k h0 h7 => (a3.2.1 k h0 h7).trans (h2 k h0 h7)) (fun p hp => by rw [a3.2.2, sSl_at, if_neg (by omega)]; exact h3 p hp) (by rw [eQ]; exact h4'.congr (a3.2.1 5 (by decide) (by decide)) (a3.2.1 6 (by decide) (by decide)) a3.2.2)
      rw [nI_succ] at IH
      show ∃ S' M', bX4_film_51 _ _ (fx2 (bX4_film_51 (nI j) (nI r)) f) _ _ = _ ∧ bX5_film_39 _ _ _ (fx2 (bX5_film_39 (nI j) (nI r) k) f) _ _ = _ ∧ _
      generalize fx2 (bX4_film_51 (nI j) (nI r)) f = rc at IH ⊢
      generalize fx2 (bX5_film_39 (nI j) (nI r) k) f = rm at IH ⊢
      unfold bX4_film_51 bX5_film_39
      have hg := p_goOnE 1 (by omega) hI (by omega)
      rw [show nI 1 = (1 : Int32) from rfl, gIt_1] at hg
      simp only [nm_x]
      rw [z_cl (show j < 2147483648 by omega), z_cl (show r < 2147483648 by omega), if_neg q, if_neg (ix_n (show r < 9 by omega) (show 9 < 2147483648 by omega)), hp, b_some, sUp_n (show 2 ≠ 5 + j by omega), hg, b_some, if_neg (ix_n hj (show 4 < 2147483648 by omega)), h4.2.2.1, if_neg q, q_is hR (show r < 9 by omega) 5 (by omega) (v := 5) rfl, b_some, w2, b_some, ix_sh, if_neg (ix_in (show 40 * j + i < 160 by omega) (by omega)), z_cl (show 40 * j + i < 2147483648 by omega), a1, b_some]
      exact IH
theorem op_film {S : sWo} {M : sOb} {n : Nat} (h : Rel S M n) (hn : n < 512) (a b : Int32) : Ok (fX4_film S a b) (fX5_film M a b) (n + 1) := by
  have hB := ok_found h (show n ≤ n + 1 by omega) (by omega) 0 (by omega) (-1000000001) fd0
  have hB5 := ok_found h (show n ≤ n + 1 by omega) (by omega) 5 (by omega) (-1000000006) fd5
  obtain ⟨c, hI⟩ := h.1
  have hR := h.2.1
  have hc := hI.1
  unfold fX4_film fX5_film
  by_cases e : 0 ≤ a ∧ a < nI 4
  · obtain ⟨j, hj, rfl⟩ := nI_ex (by omega) e.1 e.2
    have hs := h.2.2.2.2.2 j hj
    rw [p_refusal hj, b_some, q_lacks hj hs, b_some, b_some]
    by_cases q : (S (5 + j)).1 0 = 0
    · rw [if_pos q, if_neg (show ¬ (-1000000006 : Int32) = 0 by decide), if_neg (show ¬ (-1000000006 : Int32) = 0 by decide), b_eta, b_eta]
      exact hB5
    · rw [if_neg q, if_pos rfl, if_pos rfl, p_has hI.1 hI.2.1, q_isRunner (hR.1.trans hI.2.1), b_some, b_some, bi, bi, b_eta, b_eta]
      by_cases e2 : 0 ≤ b ∧ b < nI c
      · obtain ⟨r, hr, rfl⟩ := nI_ex (by omega) e2.1 e2.2
        obtain ⟨M1, a1, a2, a3, a4, a5⟩ := q_laysBy M
        have hIT : Inv (gTO (S 2) (S 1)) c (nI (600 * n)) := Inv_TO hI
        rw [if_pos e2, if_pos e2, if_neg (ix_in hj (by omega)), p_tryOut, b_some, a1, b_some, nm_d]
        obtain ⟨S', M', b1, b2, b3, b4, b5, b6, b7⟩ := lp_film (c := c) hj hr (fun (T_88 : sOb) => (fX5_laysBack T_88).bind fun q89 => if nI j < 0 ∨ 4 ≤ (nI j).toNatClampNeg then none else some ((q89.2.1 6 (nI j).toNatClampNeg), q89)) S M1 q 40 0 FU (by omega) (by unfold FU; omega) (sUp S 2 (gTO (S 2) (S 1))) M1 (600 * n) (by rw [sUp_s]; exact hIT) (by omega) (by rw [sUp_s, a3 0 (by decide)]; exact RF_TO hR) (fun o ho _ => sUp_n ho) (by rw [sUp_n (by omega)]) rfl (fun _ _ _ => rfl) (fun _ _ => rfl) (by rw [sUp_n (by omega)]; exact hs.congr (a3 5 (by decide)) (a3 6 (by decide)) a5)
        rw [show nI 0 = (0 : Int32) from rfl] at b1 b2
        rw [b1, b2]
        obtain ⟨M3, d1, d2, d3, d4, d5⟩ := q_laysBack M'
        rw [d1, b_some, if_neg (ix_in hj (by omega)), z_cl (show j < 2147483648 by omega)]
        have m6 : M3.2.1 6 = M.2.1 6 := (d3 6 (by decide)).trans ((b5 6 (by decide) (by decide)).trans (a3 6 (by decide)))
        have m5 : M3.2.1 5 = M.2.1 5 := (d3 5 (by decide)).trans ((b5 5 (by decide) (by decide)).trans (a3 5 (by decide)))
        have hr := h.sheet (M' := M3) (Q := S' (5 + j)) (show n ≤ n + 1 by omega) (by omega) hj (d4.trans (b4.trans a4)) (fun k h2 _ _ h7 h0 => (d3 k h0).trans ((b5 k h0 h7).trans (a3 k h2))) (fun i hi => by rw [d2 i hi, b5 2 (by decide) (by decide), a2 i hi]) (fun i _ => by rw [m5]) (fun i _ => by rw [m6]) (fun p hp => by rw [d5, b6 p hp, a5]) (b7.congr (d3 5 (by decide)) (d3 6 (by decide)) d5)
        refine ⟨_, S', M3, rfl, by rw [m6, hs.2.2.1], hr.trial (fun o ho => ?_) (Fq.rf M3)⟩
        by_cases qo : o = 5 + j
        · rw [qo, sUp_s]
        · rw [sUp_n qo]
          exact b3 o ho qo
      · rw [if_neg e2, if_neg e2]
        exact hB
  · rw [p_refusal0 e, b_some, q_lacks0 e, b_some, b_some, if_neg (show ¬ (-1000000001 : Int32) = 0 by decide), if_neg (show ¬ (-1000000001 : Int32) = 0 by decide), b_eta, b_eta]
    exact hB
theorem lg_eq0 (x y : Int64) : lg_cmp x y = 0 ↔ x = y := by
  have h1 := lg_lt0 x y
  have h2 := lg_gt0 x y
  constructor
  · intro q
    rw [q] at h1 h2
    have a1 : ¬ x < y := fun z => absurd (h1.mpr z) (by decide)
    have a2 : ¬ y < x := fun z => absurd (h2.mpr z) (by decide)
    exact Int64.le_antisymm (Int64.not_lt.mp a2) (Int64.not_lt.mp a1)
  · intro q
    subst q
    have a1 : ¬ lg_cmp x x < 0 := fun z => Int64.lt_irrefl (h1.mp z)
    have a2 : ¬ 0 < lg_cmp x x := fun z => Int64.lt_irrefl (h2.mp z)
    generalize lg_cmp x x = y at a1 a2
    exact Int32.le_antisymm (Int32.not_lt.mp a2) (Int32.not_lt.mp a1)
theorem and_m1 (x : Int32) : x &&& (-1 : Int32) = x := by
  apply Int32.toBitVec_inj.mp
  rw [Int32.toBitVec_and, show (-1 : Int32).toBitVec = BitVec.allOnes 32 from rfl, BitVec.and_allOnes]
theorem lp_rd1 {c j i : Nat} {B : Int32} {S : sWo} {M : sOb} (hj : j < 4) (hi : i < 40) (hI : Inv (S 2) c B) (hR : RF (M.2.1 0) (S 2)) (hs : RelS (S (5 + j)) M j) (kc : Int32 → Option (Int32 × sWo)) (km : Int32 → Option (Int32 × sOb)) : ∀ d r m : Nat, r + d = c → d < m → ∀ x, ∃ x', fx2 (bX4_allFitting_33 (5 + j) (nI i) S kc) m x (nI r) = kc x' ∧ fx2 (bX5_read_48 (nI j) (nI i) M km) m x (nI r) = km x' ∧ (x = 0 → x' = 0) := by
  intro d
  induction d with
  | zero =>
    intro r m hr hm x
    obtain ⟨f, rfl⟩ : ∃ f, m = f + 1 := ⟨m - 1, by omega⟩
    obtain rfl : r = c := by omega
    refine ⟨x, ?_, ?_, id⟩
    · show bX4_allFitting_33 _ _ _ _ _ _ _ = _
      unfold bX4_allFitting_33
      rw [hI.2.1, if_pos (Int32.le_refl _)]
    · show bX5_read_48 _ _ _ _ _ _ _ = _
      unfold bX5_read_48
      rw [cl_0, hR.1, hI.2.1, if_pos (Int32.le_refl _)]
  | succ d ih =>
    intro r m hr hm x
    obtain ⟨f, rfl⟩ : ∃ f, m = f + 1 := ⟨m - 1, by omega⟩
    have hc := hI.1
    have IH := fun x => ih (r + 1) f (by omega) (by omega) x
    simp only [nI_succ] at IH
    show ∃ x', bX4_allFitting_33 _ _ _ _ (fx2 (bX4_allFitting_33 (5 + j) (nI i) S kc) f) _ _ = _ ∧ bX5_read_48 _ _ _ _ (fx2 (bX5_read_48 (nI j) (nI i) M km) f) _ _ = _ ∧ _
    generalize fx2 (bX4_allFitting_33 (5 + j) (nI i) S kc) f = rc at IH ⊢
    generalize fx2 (bX5_read_48 (nI j) (nI i) M km) f = rm at IH ⊢
    unfold bX4_allFitting_33 bX5_read_48
    simp only [nm_x, lg_eq0, and_m1]
    rw [hI.2.1, cl_0, hR.1, hI.2.1, if_neg (nI_ge (by omega) (by omega)), if_neg (nI_ge (by omega) (by omega)), if_neg (ix_in (show r < 9 by omega) (by omega)), if_neg (ix_in hi (by omega)), ix_sh, if_neg (ix_in (show 40 * j + i < 160 by omega) (by omega)), q_is hR (show r < 9 by omega) 5 (by omega) (v := 5) rfl, b_some, z_cl (show r < 2147483648 by omega), z_cl (show i < 2147483648 by omega), z_cl (show 40 * j + i < 2147483648 by omega), hs.2.2.2.2 i hi]
    by_cases q : ((S 2).2.1 5 r).toInt64 = (S (5 + j)).2.2 i
    · rw [if_pos q, if_pos q.symm]
      exact IH x
    · rw [if_neg q, if_neg (fun z => q z.symm)]
      obtain ⟨x', a1, a2, a3⟩ := IH (x &&& (((1 : Int32) <<< (nI r &&& 31)) ^^^ (-1 : Int32)))
      exact ⟨x', a1, a2, fun z => a3 (by rw [z, Int32.zero_and])⟩
theorem lp_rd0 {c j : Nat} (hj : j < 4) (k : Int32 → sOb → Option (Int32 × sOb)) : ∀ d i m : Nat, i + d = 40 → d < m → ∀ (S : sWo) (M : sOb) (b : Nat), Inv (S 2) c (nI b) → b + d < 900000000 → RF (M.2.1 0) (S 2) → RelS (S (5 + j)) M j → ∃ M', fx3 (bX5_read_35 (nI j) k) m 0 (nI i) M = k 0 M' ∧ Fm M M' := by
  intro d
  induction d with
  | zero =>
    intro i m hi hm S M b hI hb hR hs
    obtain ⟨f, rfl⟩ : ∃ f, m = f + 1 := ⟨m - 1, by omega⟩
    obtain rfl : i = 40 := by omega
    refine ⟨M, ?_, Fm.rf M⟩
    show bX5_read_35 _ _ _ _ _ _ = _
    unfold bX5_read_35
    rw [if_neg (ix_in hj (by omega)), z_cl (show j < 2147483648 by omega), hs.2.2.1, if_pos (show (S (5 + j)).1 1 ≤ nI 40 from hs.2.2.2.1.2)]
  | succ d ih =>
    intro i m hi hm S M b hI hb hR hs
    obtain ⟨f, rfl⟩ : ∃ f, m = f + 1 := ⟨m - 1, by omega⟩
    have hc := hI.1
    obtain ⟨M2, x, a1, a2, a3⟩ := q_tick hI hR
    have IH := ih (i + 1) f (by omega) (by omega) (sUp S 2 (gTick (S 2) c)) M2 (b + 1) (by rw [sUp_s]; exact Inv_tick hI (by omega)) (by omega) (by rw [sUp_s]; exact a2) (by rw [sUp_n (by omega)]; exact hs.congr (a3.2.1 5 (by decide) (by decide)) (a3.2.1 6 (by decide) (by decide)) a3.2.2)
    rw [nI_succ] at IH
    show ∃ M', bX5_read_35 _ _ (fx3 (bX5_read_35 (nI j) k) f) _ _ _ = _ ∧ _
    generalize fx3 (bX5_read_35 (nI j) k) f = rm at IH ⊢
    unfold bX5_read_35
    rw [if_neg (ix_in hj (by omega)), z_cl (show j < 2147483648 by omega), hs.2.2.1, nm_d]
    by_cases q : (S (5 + j)).1 1 ≤ nI i
    · rw [if_pos q]
      exact ⟨M, rfl, Fm.rf M⟩
    · rw [if_neg q]
      obtain ⟨x', b1, b2, b3⟩ := lp_rd1 (i := i) hj (by omega) hI hR hs (fun _ => none) (fun (x2_101 : Int32) => (fX5_goesOn M).bind fun q102 => nm (nI i + (1 : Int32)) fun v107 => rm x2_101 v107 q102.2) c 0 FU (by omega) (by unfold FU; omega) 0
      rw [show nI 0 = (0 : Int32) from rfl] at b2
      rw [b2, a1, b_some, nm_d, b3 rfl]
      obtain ⟨M', d1, d2⟩ := IH
      exact ⟨M', d1, a3.tr d2⟩
theorem lp_rd {c j : Nat} (hj : j < 4) (k : Int32 → sOb → Option (Int32 × sOb)) : ∀ d i m : Nat, i + d = 40 → d < m → ∀ (S : sWo) (M : sOb) (b : Nat) (x : Int32), Inv (S 2) c (nI b) → b + d < 900000000 → RF (M.2.1 0) (S 2) → RelS (S (5 + j)) M j → ∃ x' S' M', fx3 (bX4_allFitting_17 (5 + j)) m x (nI i) S = some (x', S') ∧ fx3 (bX5_read_35 (nI j) k) m x (nI i) M = k x' M' ∧ (∀ o, o ≠ 2 → S' o = S o) ∧ Fm M M' := by
  intro d
  induction d with
  | zero =>
    intro i m hi hm S M b x hI hb hR hs
    obtain ⟨f, rfl⟩ : ∃ f, m = f + 1 := ⟨m - 1, by omega⟩
    obtain rfl : i = 40 := by omega
    refine ⟨x, S, M, ?_, ?_, fun _ _ => rfl, Fm.rf M⟩
    · show bX4_allFitting_17 _ _ _ _ _ = _
      unfold bX4_allFitting_17
      rw [if_pos (show (S (5 + j)).1 1 ≤ nI 40 from hs.2.2.2.1.2)]
    · show bX5_read_35 _ _ _ _ _ _ = _
      unfold bX5_read_35
      rw [if_neg (ix_in hj (by omega)), z_cl (show j < 2147483648 by omega), hs.2.2.1, if_pos (show (S (5 + j)).1 1 ≤ nI 40 from hs.2.2.2.1.2)]
  | succ d ih =>
    intro i m hi hm S M b x hI hb hR hs
    by_cases qx : x = 0
    · subst qx
      obtain ⟨M', d1, d2⟩ := lp_rd0 (c := c) hj k (d + 1) i m hi hm S M b hI hb hR hs
      refine ⟨0, S, M', ?_, d1, fun _ _ => rfl, d2⟩
      obtain ⟨f, rfl⟩ : ∃ f, m = f + 1 := ⟨m - 1, by omega⟩
      show bX4_allFitting_17 _ (fx3 (bX4_allFitting_17 (5 + j)) f) _ _ _ = _
      generalize fx3 (bX4_allFitting_17 (5 + j)) f = rc
      unfold bX4_allFitting_17
      rw [if_pos rfl]
      split <;> rfl
    obtain ⟨f, rfl⟩ : ∃ f, m = f + 1 := ⟨m - 1, by omega⟩
    have hc := hI.1
    obtain ⟨M2, y, a1, a2, a3⟩ := q_tick hI hR
    have IH := fun x => ih (i + 1) f (by omega) (by omega) (sUp S 2 (gTick (S 2) c)) M2 (b + 1) x (by rw [sUp_s]; exact Inv_tick hI (by omega)) (by omega) (by rw [sUp_s]; exact a2) (by rw [sUp_n (by omega)]; exact hs.congr (a3.2.1 5 (by decide) (by decide)) (a3.2.1 6 (by decide) (by decide)) a3.2.2)
    simp only [nI_succ] at IH
    show ∃ x' S' M', bX4_allFitting_17 _ (fx3 (bX4_allFitting_17 (5 + j)) f) _ _ _ = _ ∧ bX5_read_35 _ _ (fx3 (bX5_read_35 (nI j) k) f) _ _ _ = _ ∧ _
    generalize fx3 (bX4_allFitting_17 (5 + j)) f = rc at IH ⊢
    generalize fx3 (bX5_read_35 (nI j) k) f = rm at IH ⊢
    unfold bX4_allFitting_17 bX5_read_35
    rw [if_neg (ix_in hj (by omega)), z_cl (show j < 2147483648 by omega), hs.2.2.1, if_neg qx, nm_d, nm_d]
    by_cases q : (S (5 + j)).1 1 ≤ nI i
    · rw [if_pos q, if_pos q]
      exact ⟨x, S, M, rfl, rfl, fun _ _ => rfl, Fm.rf M⟩
    · rw [if_neg q, if_neg q]
      obtain ⟨x', b1, b2, b3⟩ := lp_rd1 (i := i) hj (by omega) hI hR hs (fun (x3_76 : Int32) => (fX3_goOn (S 2) (1 : Int32)).bind fun q78 => nm (sUp S 2 q78) fun S78 => nm (nI i + (1 : Int32)) fun v81 => rc x3_76 v81 S78) (fun (x2_101 : Int32) => (fX5_goesOn M).bind fun q102 => nm (nI i + (1 : Int32)) fun v107 => rm x2_101 v107 q102.2) c 0 FU (by omega) (by unfold FU; omega) x
      rw [show nI 0 = (0 : Int32) from rfl] at b1 b2
      have hg := p_goOnE 1 (by omega) hI (by omega)
      rw [show nI 1 = (1 : Int32) from rfl, gIt_1] at hg
      rw [b1, b2, hg, b_some, nm_d, nm_d, a1, b_some, nm_d]
      obtain ⟨x'', S', M', d1, d2, d3, d4⟩ := IH x'
      exact ⟨x'', S', M', d1, d2, fun o ho => (d3 o ho).trans (sUp_n ho), a3.tr d4⟩
theorem bit_r (x : Int32) : ∀ r, r < 9 → ((x &&& ((1 : Int32) <<< (nI r &&& 31)) = 0) ↔ ¬ ((x >>> (nI r &&& 31)) &&& 1 = 1)) := by
  intro r hr
  have e1 : (x &&& ((1 : Int32) <<< (nI r &&& 31))).toBitVec = x.toBitVec &&& BitVec.twoPow 32 r := by
    rcases (by omega : r = 0 ∨ r = 1 ∨ r = 2 ∨ r = 3 ∨ r = 4 ∨ r = 5 ∨ r = 6 ∨ r = 7 ∨ r = 8) with rfl | rfl | rfl | rfl | rfl | rfl | rfl | rfl | rfl
    all_goals rfl
  have e2 : ((x >>> (nI r &&& 31)) &&& 1).toBitVec = x.toBitVec.sshiftRight r &&& 1#32 := by
    rcases (by omega : r = 0 ∨ r = 1 ∨ r = 2 ∨ r = 3 ∨ r = 4 ∨ r = 5 ∨ r = 6 ∨ r = 7 ∨ r = 8) with rfl | rfl | rfl | rfl | rfl | rfl | rfl | rfl | rfl
    all_goals rfl
  rw [← Int32.toBitVec_inj, ← Int32.toBitVec_inj, e1, e2, BitVec.and_twoPow, BitVec.and_one_eq_setWidth_ofBool_getLsbD, BitVec.getLsbD_sshiftRight, if_pos (show r + 0 < 32 by omega)]
  rw [show r + 0 = r from rfl]
  have t0 : ∀ r, r < 9 → ¬ BitVec.twoPow 32 r = (0 : Int32).toBitVec := by decide +kernel
  cases x.toBitVec.getLsbD r
  · simp
  · have := t0 r hr
    simp
    exact this
theorem lp_first {c n : Nat} {S : sWo} {M : sOb} (hn : n < 512) (x : Int32) (h : Rel S M n) (hI : Inv (S 1) c (nI (600 * n))) : ∀ d r m : Nat, r + d = c → d < m → Ok (fx1 (bX4_read_30 (x, S)) m (nI r)) (fx1 (bX5_read_119 x M) m (nI r)) (n + 1) := by
  have hc := hI.1
  intro d
  induction d with
  | zero =>
    intro r m hr hm
    obtain ⟨f, rfl⟩ : ∃ f, m = f + 1 := ⟨m - 1, by omega⟩
    obtain rfl : r = c := by omega
    show Ok (bX4_read_30 _ _ _) (bX5_read_119 _ _ _ _) _
    unfold bX4_read_30 bX5_read_119
    dsimp only
    rw [hI.2.1, cl_0, h.2.1.1, hI.2.1, if_pos (Int32.le_refl _), if_pos (Int32.le_refl _), b_eta, b_eta]
    exact ok_found h (by omega) (by omega) 3 (by omega) (-1000000004) fd3
  | succ d ih =>
    intro r m hr hm
    obtain ⟨f, rfl⟩ : ∃ f, m = f + 1 := ⟨m - 1, by omega⟩
    have IH := ih (r + 1) f (by omega) (by omega)
    rw [nI_succ] at IH
    show Ok (bX4_read_30 _ (fx1 (bX4_read_30 (x, S)) f) _) (bX5_read_119 _ _ (fx1 (bX5_read_119 x M) f) _) _
    generalize fx1 (bX4_read_30 (x, S)) f = rc at IH ⊢
    generalize fx1 (bX5_read_119 x M) f = rm at IH ⊢
    unfold bX4_read_30 bX5_read_119
    dsimp only
    rw [hI.2.1, cl_0, h.2.1.1, hI.2.1, if_neg (nI_ge (by omega) (by omega)), if_neg (nI_ge (by omega) (by omega)), nm_d, nm_d]
    have hb := bit_r x r (by omega)
    by_cases q : (x >>> (nI r &&& 31)) &&& 1 = 1
    · rw [if_pos q, if_neg (fun z => hb.mp z q)]
      exact ⟨_, _, _, rfl, rfl, h.mono (by omega) (by omega)⟩
    · rw [if_neg q, if_pos (hb.mpr q)]
      exact IH
theorem op_read {S : sWo} {M : sOb} {n : Nat} (h : Rel S M n) (hn : n < 512) (a : Int32) : Ok (fX4_read S a) (fX5_read M a) (n + 1) := by
  have hB := ok_found h (show n ≤ n + 1 by omega) (by omega) 0 (by omega) (-1000000001) fd0
  have hB5 := ok_found h (show n ≤ n + 1 by omega) (by omega) 5 (by omega) (-1000000006) fd5
  obtain ⟨c, hI⟩ := h.1
  have hR := h.2.1
  have hc := hI.1
  unfold fX4_read fX5_read
  by_cases e : 0 ≤ a ∧ a < nI 4
  · obtain ⟨j, hj, rfl⟩ := nI_ex (by omega) e.1 e.2
    have hs := h.2.2.2.2.2 j hj
    rw [p_refusal hj, b_some, q_lacks hj hs, b_some, b_some]
    by_cases q : (S (5 + j)).1 0 = 0
    · rw [if_pos q, if_neg (show ¬ (-1000000006 : Int32) = 0 by decide), if_neg (show ¬ (-1000000006 : Int32) = 0 by decide), b_eta, b_eta]
      exact hB5
    · rw [if_neg q, if_pos rfl, if_pos rfl, if_neg (ix_in hj (by omega)), z_cl (show j < 2147483648 by omega)]
      unfold fX4_allFitting
      obtain ⟨M1, a1, a2, a3, a4, a5⟩ := q_laysBy M
      have hIT : Inv (gTO (S 2) (S 1)) c (nI (600 * n)) := Inv_TO hI
      rw [p_tryOut, b_some, nm_d, sUp_s, hIT.2.1, a1, b_some, nm_d, nm_d, cl_0, a3 0 (by decide), hR.1, hI.2.1]
      obtain ⟨x', S', M', b1, b2, b3, b4⟩ := lp_rd (c := c) hj (fun (x2_113 : Int32) (T_113 : sOb) => (fX5_laysBack T_113).bind fun q114 => fx1 (bX5_read_119 x2_113 q114) FU (0 : Int32)) 40 0 FU (by omega) (by unfold FU; omega) (sUp S 2 (gTO (S 2) (S 1))) M1 (600 * n) (((1 : Int32) <<< (nI c &&& 31)) - 1) (by rw [sUp_s]; exact hIT) (by omega) (by rw [sUp_s, a3 0 (by decide)]; exact RF_TO hR) (by rw [sUp_n (by omega)]; exact hs.congr (a3 5 (by decide)) (a3 6 (by decide)) a5)
      rw [show nI 0 = (0 : Int32) from rfl] at b1 b2
      rw [b1, b2, b_some]
      obtain ⟨M3, d1, d2, d3, d4, d5⟩ := q_laysBack M'
      rw [d1, b_some]
      have hq : Fq M M3 := ⟨d4.trans (b4.1.trans a4), fun k h0 h2 h7 => (d3 k h0).trans ((b4.2.1 k h0 h7).trans (a3 k h2)), d5.trans (b4.2.2.trans a5), fun i hi => by rw [d2 i hi, b4.2.1 2 (by decide) (by decide), a2 i hi]⟩
      have hS : ∀ o, o ≠ 2 → S' o = S o := fun o ho => (b3 o ho).trans (sUp_n ho)
      have := lp_first hn x' (h.trial hS hq) (by rw [hS 1 (by decide)]; exact hI) c 0 FU (by omega) (by unfold FU; omega)
      rw [show nI 0 = (0 : Int32) from rfl] at this
      exact this
  · rw [p_refusal0 e, b_some, q_lacks0 e, b_some, b_some, if_neg (show ¬ (-1000000001 : Int32) = 0 by decide), if_neg (show ¬ (-1000000001 : Int32) = 0 by decide), b_eta, b_eta]
    exact hB
