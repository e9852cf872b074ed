/-! PURE: text -/
theorem Out.ww {S0 : sWo} {M0 : sOb} {z lo : Nat} {B : Int32} {oc : Option (Int32 × sWo)} {om : Option (Int32 × sOb)} (h : Out S0 M0 z lo B oc om) {f : Int32 × sWo → Option (Int32 × sWo)} {g : Int32 × sOb → Option (Int32 × sOb)} (f0 : ∀ S, f (0, S) = some (0, S)) (f1 : ∀ S, f (1, S) = some (1, S)) (g0 : ∀ M, g (0, M) = some (0, M)) (g1 : ∀ M, g (1, M) = some (1, M)) : Out S0 M0 z lo B (oc.bind f) (om.bind g) := by
  obtain ⟨S', M', ⟨a1, a2, a3⟩ | ⟨a1, a2, a3⟩⟩ := h
  · exact ⟨S', M', Or.inl ⟨by rw [a1, b_some, f0], by rw [a2, b_some, g0], a3⟩⟩
  · exact ⟨S', M', Or.inr ⟨by rw [a1, b_some, f1], by rw [a2, b_some, g1], a3⟩⟩
theorem gKn_v (T M : sOb) (z : Nat) : gKn T M z = -1 ∨ ((0 ≤ gKn T M z ∧ gKn T M z ≤ 5) ∧ ¬ T.1 1 = 0) := by
  unfold gKn
  by_cases w0 : gWb T M z 0 = true
  · rw [if_pos w0]; exact Or.inr ⟨by decide, gWb_k w0⟩
  rw [if_neg w0]
  by_cases w1 : gWb T M z 1 = true
  · rw [if_pos w1]; exact Or.inr ⟨by decide, gWb_k w1⟩
  rw [if_neg w1]
  by_cases w2 : gWb T M z 2 = true
  · rw [if_pos w2]; exact Or.inr ⟨by decide, gWb_k w2⟩
  rw [if_neg w2]
  by_cases w3 : gWb T M z 3 = true
  · rw [if_pos w3]; exact Or.inr ⟨by decide, gWb_k w3⟩
  rw [if_neg w3]
  by_cases w4 : gWb T M z 4 = true
  · rw [if_pos w4]; exact Or.inr ⟨by decide, gWb_k w4⟩
  rw [if_neg w4]
  by_cases w5 : gWb T M z 5 = true
  · rw [if_pos w5]; exact Or.inr ⟨by decide, gWb_k w5⟩
  rw [if_neg w5]
  exact Or.inl rfl
theorem it_both {S0 S : sWo} {M0 M : sOb} {z lo c : Nat} {B : Int32} (hI : Inv (S 2) c B) (hR : RF (M.2.1 0) (S 2)) (hT : RelT (S 4) M z lo) (hE : RE S0 M0 S M) : Out S0 M0 z (lo + 1) B (fX2_readItem S) (fX5_goesItem M) := by
  have hc := hI.1
  have hF : Out S0 M0 z (lo + 1) B (some (0, S)) (some (0, M)) := ⟨S, M, Or.inl ⟨rfl, rfl, hT.mono (by omega), hE⟩⟩
  unfold fX2_readItem fX5_goesItem
  rw [p_kindNamed hT, b_some, q_kindNamed hT, b_some]
  rcases gKn_v (S 4) M z with q | ⟨q, hk⟩
  · rw [q, if_pos rfl, if_pos (show (-1 : Int32) < 0 by decide), p_word hT (show 6 < 13 by omega), p_word hT (show 7 < 13 by omega), p_word hT (show 8 < 13 by omega), b_some, b_some, b_some, bi, bi, bi, q_letNamed hT, b_some]
    unfold gLN
    by_cases w6 : gWb (S 4) M z 6 = true
    · rw [if_pos w6, if_pos w6, hI.2.1, if_neg (show ¬ (0 : Int32) < 0 by decide)]
      unfold fX5_goesLet
      rw [nm_d, if_pos rfl, cl_0, hR.1, hI.2.1]
      by_cases q0 : c = 0
      · subst q0
        rw [if_pos (show nI 0 = 0 from rfl), if_pos (show nI 0 ≤ 0 from Int32.le_refl _)]
        refine Out.ww ?_ (fun _ => rfl) (fun _ => rfl) (fun _ => rfl) (fun _ => rfl)
        simp only [show fX5_leastOf 0 = some 10 from rfl, show fX5_mostOf 0 = some 9999 from rfl, b_so]
        exact lt_both (i := 0) (i1 := 0) (by omega) rfl hI hR hT hE (gWb_k w6) (fun v hv => Inv_h0 hI hv) (fun v => RF_h0 hR v)
      · rw [if_neg (show ¬ nI c = 0 from nI_ne (b := 0) (by omega) (by omega) q0), if_neg (show ¬ nI c ≤ 0 from nI_nle (by omega) (by omega)), b_some, if_pos rfl]
        exact hF
    rw [if_neg w6, if_neg w6]
    by_cases w7 : gWb (S 4) M z 7 = true
    · rw [if_pos w7, if_pos w7, if_neg (show ¬ (1 : Int32) < 0 by decide)]
      unfold fX5_goesLet
      rw [nm_d, if_neg (show ¬ (1 : Int32) = 0 by decide)]
      refine Out.ww ?_ (fun _ => rfl) (fun _ => rfl) (fun _ => rfl) (fun _ => rfl)
      simp only [show fX5_leastOf 1 = some 0 from rfl, show fX5_mostOf 1 = some 5 from rfl, b_so]
      exact lt_both (i := 1) (i1 := 1) (by omega) rfl hI hR hT hE (gWb_k w7) (fun v hv => Inv_h1 hI hv) (fun v => RF_h1 hR v)
    rw [if_neg w7, if_neg w7]
    by_cases w8 : gWb (S 4) M z 8 = true
    · rw [if_pos w8, if_pos w8, if_neg (show ¬ (2 : Int32) < 0 by decide)]
      unfold fX5_goesLet
      rw [nm_d, if_neg (show ¬ (2 : Int32) = 0 by decide)]
      refine Out.ww ?_ (fun _ => rfl) (fun _ => rfl) (fun _ => rfl) (fun _ => rfl)
      simp only [show fX5_leastOf 2 = some 0 from rfl, show fX5_mostOf 2 = some 3 from rfl, b_so]
      exact lt_both (i := 2) (i1 := 2) (by omega) rfl hI hR hT hE (gWb_k w8) (fun v hv => Inv_h2 hI hv) (fun v => RF_h2 hR v)
    rw [if_neg w8, if_neg w8, if_pos (show (-1 : Int32) < 0 by decide)]
    exact hF
  · rw [if_neg (show ¬ gKn (S 4) M z = -1 by intro y; rw [y] at q; exact absurd q.1 (by decide)), if_neg (Int32.not_lt.mpr q.1), hI.2.1]
    by_cases q9 : c < 9
    · rw [if_neg (show ¬ (9 : Int32) ≤ nI c from nI_ge (b := 9) q9 (by omega))]
      exact Out.ww (rn_both q9 hI hR hT hE hk q) (fun _ => rfl) (fun _ => rfl) (fun _ => rfl) (fun _ => rfl)
    · obtain rfl : c = 9 := by omega
      rw [if_pos (show (9 : Int32) ≤ nI 9 from Int32.le_refl _), m_runner, cl_0, hR.1, hI.2.1, if_pos (show nI 9 = (9 : Int32) from rfl), b_some]
      show Out _ _ _ _ _ _ (if ¬ ((0 : Int32) = 0 ∨ (0 : Int32) = 1) then none else some (0, M))
      rw [if_neg (by decide)]
      exact hF
theorem neg_b {b : Nat} (h : b ≤ 120) : (-1 : Int32) - nI b < 0 := by
  have e : ∀ b, b < 121 → (-1 : Int32) - nI b < 0 := by decide +kernel
  exact e b (by omega)
theorem q_t0 (k : Int32 → sOb → Option (Int32 × sOb)) (f : Nat) (v : Int32) (M : sOb) : fx3 (bX5_text_13 k) (f + 1) v 0 M = k v M := by
  show bX5_text_13 _ _ _ _ _ = _
  unfold bX5_text_13
  rw [if_pos rfl]
theorem lp_race {S0 : sWo} {M0 : sOb} {z : Nat} {B : Int32} (k : Int32 → sOb → Option (Int32 × sOb)) : ∀ d x m m' : Nat, x + d = 62 → 1 ≤ x → d < m → d + 1 < m' → ∀ (S : sWo) (Mp M : sOb) (c : Nat), fX5_nextToken Mp = some M → Inv (S 2) c B → RF (M.2.1 0) (S 2) → RelT (S 4) M z (2 * (x - 1)) → RE S0 M0 S M → ∃ v S' M', fx2 bX2_readRace_11 m (nI x) S = some (v, S') ∧ fx3 (bX5_text_13 k) m' (nI (x - 1)) 1 Mp = k v M' ∧ RE S0 M0 S' M' ∧ (v < 0 ∨ (0 ≤ v ∧ ∃ c, Inv (S' 2) c B ∧ RF (M'.2.1 0) (S' 2))) := by
  intro d
  induction d with
  | zero =>
    intro x m m' hx h1 hm hm' S Mp M c hn hI hR hT hE
    obtain ⟨hz, b, e, h2, h3, -⟩ := hT
    have := hz.1
    omega
  | succ d ih =>
    intro x m m' hx h1 hm hm' S Mp M c hn hI hR hT hE
    obtain ⟨f, rfl⟩ : ∃ f, m = f + 1 := ⟨m - 1, by omega⟩
    obtain ⟨g, rfl⟩ : ∃ g, m' = g + 1 + 1 := ⟨m' - 2, by omega⟩
    have hO := it_both hI hR hT hE
    have hq0 := q_t0 k g
    show ∃ v S' M', bX2_readRace_11 (fx2 bX2_readRace_11 f) _ _ = _ ∧ bX5_text_13 _ (fx3 (bX5_text_13 k) (g + 1)) _ _ _ = _ ∧ _
    have IH := fun S Mp M c => ih (x + 1) f (g + 1) (by omega) (by omega) (by omega) (by omega) S Mp M c
    rw [nI_succ, show x + 1 - 1 = x from rfl] at IH
    generalize fx2 bX2_readRace_11 f = rc at IH ⊢
    generalize fx3 (bX5_text_13 k) (g + 1) = rm at IH hq0 ⊢
    unfold bX2_readRace_11 bX5_text_13
    rw [if_neg (show ¬ (120 : Int32) < nI x from nI_nlt (a := 120) (by omega) (by omega)), if_neg n10, hn, b_some]
    obtain ⟨S1, M1, ⟨a1, a2, a3, a4⟩ | ⟨a1, a2, c1, a3, a4, a5, a6⟩⟩ := hO
    · rw [a1, b_some, a2, b_some]
      dsimp only
      rw [if_pos rfl, if_pos rfl, nm_d, hq0]
      obtain ⟨hz, b, e, h2, h3, h4, h5, -⟩ := a3
      have hz0 := hz.1
      rw [h4, h5]
      exact ⟨_, S1, M1, rfl, rfl, a4, Or.inl (neg_b (by omega))⟩
    · rw [a1, b_some, a2, b_some]
      dsimp only
      rw [if_neg n10, if_neg n10, nm_d, nm_d]
      have ex : nI (x - 1) + 1 = nI x := by rw [← nI_succ, show x - 1 + 1 = x by omega]
      have hT' := a5
      obtain ⟨hz, b, e, h2, h3, h4, h5, h6, h7, h8⟩ := a5
      have hz0 := hz.1
      have hkd : M1.1 2 = (S1 4).1 1 := h7.trans h6.symm
      rw [hkd, ex]
      by_cases q3 : (S1 4).1 1 = 3
      · have hk : ¬ (S1 4).1 1 = 0 := by rw [q3]; decide
        obtain ⟨T2, M2, b1, b2, b3, -, b5, b6, b7, b8, b9, b10⟩ := nx hT' hk
        rw [if_neg hk, if_pos q3, if_pos q3, b1, b_some, nm_d, nm_d]
        dsimp only
        rw [if_neg n10]
        obtain ⟨v, S', M', e1, e2, e3, e4⟩ := IH (sUp S1 4 T2) M1 M2 c1 b2 (by rw [sUp_n (by decide)]; exact a3) (by rw [sUp_n (by decide), b10]; exact a4) (by rw [sUp_s]; exact b3.mono (by omega)) (a6.tape ⟨b5, b7⟩ ⟨b8, b9, b10⟩)
        exact ⟨v, S', M', e1, e2, e3, e4⟩
      · rw [if_neg q3, if_neg q3]
        dsimp only
        rw [if_pos rfl]
        by_cases q0 : (S1 4).1 1 = 0
        · rw [if_pos q0, if_pos q0, hq0]
          exact ⟨_, S1, M1, rfl, rfl, a6, Or.inr ⟨nI_pos' (by omega), c1, a3, a4⟩⟩
        · rw [if_neg q0, if_neg q0, nm_d, hq0, h4, h5]
          exact ⟨_, S1, M1, rfl, rfl, a6, Or.inl (neg_b (by omega))⟩
theorem op_text {S : sWo} {M : sOb} {n : Nat} (h : Rel S M n) (hn : n < 512) : Ok (fX4_text S) (fX5_text M) (n + 1) := by
  obtain ⟨c, hI⟩ := h.1
  have hR := h.2.1
  obtain ⟨z, z1, z2, z3, z4⟩ := h.2.2.2.2.1
  have hIT : Inv (gTO (S 2) (S 1)) c (nI (600 * n)) := Inv_TO hI
  obtain ⟨M1, a1, a2, a3, a4, a5⟩ := q_laysBy M
  have hq : Fq M M1 := ⟨a4, fun k _ h2 _ => a3 k h2, a5, fun j _ => by rw [a3 0 (by decide)]⟩
  have hp : Tp (sSs (S 4) 3 0) (sSs M1 4 0) z := ⟨z1, by rw [sSs_n (by decide)]; exact z2, by rw [sSs_n (by decide), a4]; exact z3, fun i hi => by rw [sSs_2, sSs_2, a3 4 (by decide)]; exact z4 i hi⟩
  obtain ⟨T2, M2, b1, b2, b3, -, b5, b6, b7, b8, b9, b10⟩ := nx_at hp (e := 0) (sSs_v _ _ _) (sSs_v _ _ _) (by omega)
  unfold fX4_text fX5_text fX2_readRace
  rw [p_tryOut, b_some, nm_d, sUp_n (show 4 ≠ 2 by decide), sUp_s, b1, b_some, nm_d, a1, b_some, nm_d, nm_d]
  obtain ⟨v, S', M', e1, e2, e3, e4⟩ := lp_race (S0 := sUp (sUp S 2 (gTO (S 2) (S 1))) 4 (sSs (S 4) 3 0)) (M0 := sSs M1 4 0) (z := z) (B := nI (600 * n)) (fun (x1_82 : Int32) (T_82 : sOb) => if 0 ≤ x1_82 then (nm (sSs T_82 1 (0 : Int32)) fun M92 => some (x1_82, M92)) else ((fX5_laysBack T_82).bind fun q87 => nm (sSs q87 1 (0 : Int32)) fun M92 => some (x1_82, M92))) 61 1 FU FU (by omega) (by omega) (by unfold FU; omega) (by unfold FU; omega) (sUp (sUp (sUp S 2 (gTO (S 2) (S 1))) 4 (sSs (S 4) 3 0)) 4 T2) (sSs M1 4 0) M2 c b2 (by rw [sUp_n (by decide), sUp_n (by decide), sUp_s]; exact hIT) (by rw [sUp_n (by decide), sUp_n (by decide), sUp_s, b10, sSs_2, a3 0 (by decide)]; exact RF_TO hR) (by rw [sUp_s]; exact b3) ⟨by rw [sUp_s, sUp_s]; exact ⟨b5, b7⟩, fun o _ h4 => sUp_n h4, b8, b9, fun k _ _ => by rw [b10], by rw [b10]⟩
  rw [show nI 1 = (1 : Int32) from rfl] at e1
  rw [show nI (1 - 1) = (0 : Int32) from rfl] at e2
  rw [e1, b_some, e2]
  unfold fX2_empty
  rw [nm_d, nm_d, b_some, nm_d]
  dsimp only
  obtain ⟨-, x3, x4, -, x6, x7⟩ := e3
  have hS : ∀ o, o ≠ 2 → o ≠ 4 → S' o = S o := fun o h2 h4 => by rw [x3 o h2 h4, sUp_n h4, sUp_n h2]
  have m0 : M'.1 0 = M.1 0 := by rw [x4, sSs_n (by decide), a4]
  have m6 : ∀ k, k ≠ 0 → k ≠ 7 → M'.2.1 k = M1.2.1 k := fun k h0 h7 => by rw [x6 k h0 h7, sSs_2]
  have m7 : M'.2.2 = M1.2.2 := by rw [x7, sSs_2]
  have pe : (sSs (S' 4) 0 0).1 0 = nI 0 := sSs_v _ _ _
  generalize sSs (S' 4) 0 0 = P at pe ⊢
  rcases e4 with q | ⟨q, c', hI', hR'⟩
  · obtain ⟨M3, d1, d2, d3, d4, d5⟩ := q_laysBack M'
    rw [if_pos q, if_neg (Int32.not_le.mpr q), d1, b_some, nm_d]
    have hA : Rel S (M.1, M3.2) n := h.trial (fun _ _ => rfl) ⟨rfl, fun k h0 h2 h7 => (d3 k h0).trans ((m6 k h0 h7).trans (a3 k h2)), d5.trans (m7.trans a5), fun j hj => (d2 j hj).trans (by rw [m6 2 (by decide) (by decide), a2 j hj])⟩
    have hB : Rel (sUp S 4 P) (sSs M3 1 0) (n + 1) := hA.tape (by omega) (by omega) (by rw [sSs_n (by decide), d4, m0]) (fun _ _ => rfl) rfl 0 (by omega) pe (sSs_v _ _ _) (fun i hi => absurd hi (Nat.not_lt_zero i))
    refine ⟨_, _, _, rfl, rfl, hB.trial (fun o ho => ?_) (Fq.rf _)⟩
    by_cases q4 : o = 4
    · rw [q4, sUp_s, sUp_s]
    · rw [sUp_n q4, sUp_n q4, hS o ho q4]
  · rw [if_neg (Int32.not_lt.mpr q), if_pos q, p_takeOver, b_some, nm_d, nm_d, sUp_n (show 1 ≠ 4 by decide), sUp_n (show 2 ≠ 4 by decide), hS 1 (by decide) (by decide)]
    have hF : Fm M1 (M1.1, M'.2) := ⟨rfl, m6, m7⟩
    have hA : Rel (sUp S 1 (gTO (S 1) (S' 2))) (M1.1, M'.2) (n + 1) := (h.trial (S' := S) (fun _ _ => rfl) hq).track (by omega) (by omega) hF (Inv_mono (Inv_TO hI') (nI_le (by omega) (by omega))) (RF_TO hR')
    have hB : Rel (sUp (sUp S 1 (gTO (S 1) (S' 2))) 4 P) (sSs M' 1 0) (n + 1) := hA.tape (Nat.le_refl _) (by omega) (by rw [sSs_n (by decide), m0, a4]) (fun _ _ => rfl) rfl 0 (by omega) pe (sSs_v _ _ _) (fun i hi => absurd hi (Nat.not_lt_zero i))
    refine ⟨_, _, _, rfl, rfl, hB.trial (fun o ho => ?_) (Fq.rf _)⟩
    by_cases q4 : o = 4
    · rw [q4, sUp_n (by decide), sUp_s, sUp_s]
    · by_cases q1 : o = 1
      · rw [q1, sUp_s, sUp_n (by decide), sUp_s]
      · rw [sUp_n q1, sUp_n q4, sUp_n q4, sUp_n q1, hS o ho q4]
