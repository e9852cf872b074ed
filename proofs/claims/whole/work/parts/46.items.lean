/-! PURE: what stands behind a word: numbers, a runner -/
def FrT (T0 T : sOb) : Prop := T.1 0 = T0.1 0 ∧ T.2 = T0.2
def FrN (M0 M : sOb) : Prop := M.1 0 = M0.1 0 ∧ M.1 1 = M0.1 1 ∧ M.2 = M0.2
theorem q_isNumber {M : sOb} (h : M.1 2 = 2) (a b : Int32) : fX5_isNumber M a b = some (if a ≤ M.1 5 ∧ M.1 5 ≤ b then 1 else 0) := by
  unfold fX5_isNumber
  rw [if_pos h, p_in (M.1 5) a b rfl rfl, b_some, bi]
  split <;> rfl
theorem rb {T M : sOb} {z lo : Nat} (h : RelT T M z lo) (hk : ¬ T.1 1 = 0) (a b : Int32) : ∃ M1 T1, fX5_nextToken M = some M1 ∧ FrN M M1 ∧ FrT T T1 ∧ ((fX5_isNumber M1 a b = some 0 ∧ fX2_readNumberBehind T a b = some (0, T1) ∧ RelT T1 M1 z (lo + 1)) ∨ (fX5_isNumber M1 a b = some 1 ∧ fX2_readNumberBehind T a b = some (1, T1) ∧ (a ≤ M1.1 5 ∧ M1.1 5 ≤ b) ∧ T1.1 4 = M1.1 5 ∧ ∀ M2, M2.1 = M1.1 → M2.2.1 4 = M1.2.1 4 → ∃ M3, fX5_nextToken M2 = some M3 ∧ FrN M2 M3 ∧ RelT T1 M3 z (lo + 2))) := by
  obtain ⟨T1, M1, a1, a2, a3, a4, a5, a6, a7, a8, a9, a10⟩ := nx h hk
  have hkd : T1.1 1 = M1.1 2 := by
    obtain ⟨-, b', e, -, -, -, -, h6, h7, -⟩ := a3
    rw [h6, h7]
  unfold fX2_readNumberBehind
  rw [a1, b_some]
  by_cases q : T1.1 1 = 2
  · rw [if_pos q, a4 q, b_some, nm_d, sSs_v]
    have hnum := q_isNumber (hkd.symm.trans q) a b
    have hT : RelT (sSs T1 4 (M1.1 5)) M1 z (lo + 1) := a3.congr (fun j hj => sSs_n hj) rfl (fun _ => rfl) rfl
    by_cases q1 : M1.1 5 < a
    · rw [if_pos q1]
      exact ⟨M1, sSs T1 4 (M1.1 5), a2, ⟨a8, a9, a10⟩, ⟨a5, a7⟩, Or.inl ⟨by rw [hnum, if_neg (fun y => Int32.not_le.mpr q1 y.1)], rfl, hT⟩⟩
    · rw [if_neg q1]
      by_cases q2 : M1.1 5 ≤ b
      · have hn : ∀ M2 : sOb, M2.1 = M1.1 → M2.2.1 4 = M1.2.1 4 → RelT (sSs T1 4 (M1.1 5)) M2 z (lo + 1) := fun M2 e1 e2 => a3.congr (fun j hj => sSs_n hj) rfl (fun _ => by rw [e1]) e2
        have hk2 : ¬ (sSs T1 4 (M1.1 5)).1 1 = 0 := by rw [sSs_n (by decide), q]; decide
        obtain ⟨T2, M3, b1, b2, b3, b4, b5, b6, b7, b8⟩ := nx (hn M1 rfl rfl) hk2
        rw [if_pos q2, b1, b_some]
        refine ⟨M1, T2, a2, ⟨a8, a9, a10⟩, ⟨b5.trans a5, b7.trans a7⟩, Or.inr ⟨by rw [hnum, if_pos ⟨Int32.not_lt.mp q1, q2⟩], rfl, ⟨Int32.not_lt.mp q1, q2⟩, by rw [b6, sSs_v], fun M2 e1 e2 => ?_⟩⟩
        obtain ⟨T3, M3', c1, c2, c3, c4, c5, c6, c7, c8, c9, c10⟩ := nx (hn M2 e1 e2) hk2
        have : T3 = T2 := Option.some.inj (c1.symm.trans b1)
        rw [this] at c3
        exact ⟨M3', c2, ⟨c8, c9, c10⟩, c3⟩
      · rw [if_neg q2]
        exact ⟨M1, sSs T1 4 (M1.1 5), a2, ⟨a8, a9, a10⟩, ⟨a5, a7⟩, Or.inl ⟨by rw [hnum, if_neg (fun y => q2 y.2)], rfl, hT⟩⟩
  · rw [if_neg q]
    refine ⟨M1, T1, a2, ⟨a8, a9, a10⟩, ⟨a5, a7⟩, Or.inl ⟨?_, rfl, a3⟩⟩
    unfold fX5_isNumber
    rw [if_neg (fun y => q (hkd.trans y))]
theorem gWb_k {T M : sOb} {z w : Nat} (h : gWb T M z w = true) : ¬ T.1 1 = 0 := by
  unfold gWb at h
  have := (Bool.and_eq_true _ _ ▸ h : _ ∧ _).1
  have q : T.1 1 = 1 := of_decide_eq_true this
  rw [q]
  decide
theorem may0 (M : sOb) (a b : Int32) : fX5_mayCome M 0 a b = some (0, M) := by
  unfold fX5_mayCome
  rw [if_pos rfl]
theorem may1 {M M1 : sOb} {a b : Int32} (h : fX5_nextToken M = some M1) (hn : fX5_isNumber M1 a b = some 1) : fX5_mayCome M 1 a b = some (1, M1) := by
  unfold fX5_mayCome
  rw [if_neg n10, h, b_some, hn, b_some, if_neg n10]
theorem mayn {M M1 : sOb} {a b : Int32} (h : fX5_nextToken M = some M1) (hn : fX5_isNumber M1 a b = some 0) : fX5_mayCome M 1 a b = some (-1, M1) := by
  unfold fX5_mayCome
  rw [if_neg n10, h, b_some, hn, b_some, if_pos rfl]
/-- the runner that came: its kind a, pace v, breath p, friend q, start r -/
def gX (T : sOb) (a v p q r : Int32) (c : Nat) : sOb := sSa (sSa (sSa (gAd T a v p c) 3 c q) 4 c r) 5 c r
theorem gX_2 (T : sOb) (a v p q r : Int32) (c k i : Nat) : (gX T a v p q r c).2.1 k i = if k < 8 ∧ i = c then (if k = 0 then a else if k = 1 then v else if k = 2 then p else if k = 3 then q else if k = 4 then r else if k = 5 then r else if k = 7 then -1 else 0) else T.2.1 k i := by
  unfold gX
  rw [sSa_at, sSa_at, sSa_at, gAd_2]
  show _ = _
  have hv : (vT a v p).2.1 k c = if k = 0 then a else if k = 1 then v else if k = 2 then p else if k = 3 then -1 else if k = 7 then -1 else 0 := rfl
  rw [hv]
  clear hv
  grind
theorem gX_1 (T : sOb) (a v p q r : Int32) (c k : Nat) : (gX T a v p q r c).1 k = if k = 4 then nI (c + 1) else T.1 k := by
  show (gAd T a v p c).1 k = _
  rw [gAd_1]
theorem RF_X0 {s : Nat → Int32} {T : sOb} {a v : Int32} {c : Nat} (h : RF s (gAd T a v 100 c)) : RF s (gX T a v 100 (-1) 0 c) := by
  refine RF_congr h (fun k _ => ?_) (fun r _ k hk => ?_)
  · rw [gX_1, gAd_1]
  · rw [gX_2, gAd_2]
    have hv : (vT a v 100).2.1 k c = if k = 0 then a else if k = 1 then v else if k = 2 then 100 else if k = 3 then -1 else if k = 7 then -1 else 0 := rfl
    rw [hv]
    clear hv
    grind
theorem RF_Xp {s : Nat → Int32} {T : sOb} {a v p q r : Int32} {c : Nat} (hc : c < 9) (h : RF s (gX T a v p q r c)) (p' : Int32) : RF (upd s (5 + 8 * c + 2) p') (gX T a v p' q r c) := by
  refine RF_congr (h.put hc (show 2 < 8 by omega) p') (fun k _ => ?_) (fun i _ k hk => ?_)
  · rw [gX_1, sSa_1, gX_1]
  · rw [gX_2, sSa_at, gX_2]
    grind
theorem RF_Xq {s : Nat → Int32} {T : sOb} {a v p q r : Int32} {c : Nat} (hc : c < 9) (h : RF s (gX T a v p q r c)) (q' : Int32) : RF (upd s (5 + 8 * c + 3) q') (gX T a v p q' r c) := by
  refine RF_congr (h.put hc (show 3 < 8 by omega) q') (fun k _ => ?_) (fun i _ k hk => ?_)
  · rw [gX_1, sSa_1, gX_1]
  · rw [gX_2, sSa_at, gX_2]
    grind
theorem RF_Xr {s : Nat → Int32} {T : sOb} {a v p q r : Int32} {c : Nat} (hc : c < 9) (h : RF s (gX T a v p q r c)) (r' : Int32) : RF (upd (upd s (5 + 8 * c + 4) r') (5 + 8 * c + 5) r') (gX T a v p q r' c) := by
  refine RF_congr ((h.put hc (show 4 < 8 by omega) r').put hc (show 5 < 8 by omega) r') (fun k _ => ?_) (fun i _ k hk => ?_)
  · rw [gX_1, sSa_1, sSa_1, gX_1]
  · rw [gX_2, sSa_at, sSa_at, gX_2]
    grind
theorem Inv_5 {T : sOb} {c r : Nat} {B v : Int32} (h : Inv T c B) (hv : 0 ≤ v ∧ v < T.1 0) : Inv (sSa T 5 r v) c B := by
  obtain ⟨g0, g4, gL, gl, gw, gs, g5, gR⟩ := h
  refine ⟨g0, g4, gL, gl, gw, gs, ?_, fun i hi => ?_⟩
  · rw [gHC_congr (T := sSa T 5 r v) (T2 := T) c (fun i _ => by rw [sSa_other (by omega)])]
    exact g5
  · obtain ⟨r0, r1, r2, r3, r4, r5, r7⟩ := gR i hi
    unfold IR
    rw [sSa_other (show 0 ≠ 5 by decide), sSa_other (show 1 ≠ 5 by decide), sSa_other (show 2 ≠ 5 by decide), sSa_other (show 3 ≠ 5 by decide), sSa_other (show 4 ≠ 5 by decide), sSa_other (show 7 ≠ 5 by decide), sSa_at, sSa_1]
    refine ⟨r0, r1, r2, r3, r4, ?_⟩
    by_cases q : i = r
    · rw [if_pos ⟨rfl, q⟩]
      refine ⟨⟨hv.1, ?_⟩, fun _ => hv.2⟩
      have hv2 := hv.2
      clear r0 r1 r2 r3 r4 r5 r7 gR g5
      generalize T.1 0 = x at gL hv2
      grind
    · rw [if_neg (fun y => q y.2)]
      exact ⟨r5, r7⟩
theorem Inv_X {T : sOb} {c : Nat} {B a v p q r : Int32} (h : Inv T c B) (hc : c < 9) (ha : 0 ≤ a ∧ a ≤ 5) (hv : 1 ≤ v ∧ v ≤ 12) (hp : 0 ≤ p ∧ p ≤ 999) (hq : -1 ≤ q ∧ q < nI c) (hr : 0 ≤ r ∧ r < T.1 0) : Inv (gX T a v p q r c) (c + 1) B := by
  have h1 := Inv_ad h hc ha hv hp
  have hcc : nI c < nI (c + 1) := nI_lt (by omega) (by omega)
  have h2 := Inv_set h1 (show c < c + 1 by omega) (show 3 < 5 by omega) (IR_3 (h1.2.2.2.2.2.2.2 c (by omega)) ⟨hq.1, Int32.lt_trans hq.2 hcc⟩)
  have h3 := Inv_set h2 (show c < c + 1 by omega) (show 4 < 5 by omega) (IR_4 (v := r) (h2.2.2.2.2.2.2.2 c (by omega)) ⟨hr.1, by rw [sSa_1, gAd_1, if_neg (by decide)]; exact hr.2⟩)
  exact Inv_5 h3 ⟨hr.1, by rw [sSa_1, sSa_1, gAd_1, if_neg (by decide)]; exact hr.2⟩
