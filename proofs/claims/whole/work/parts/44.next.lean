/-! PURE: the next token, on both sides -/
theorem kd_chain {β : Type} (a : Int32) (k : Int32 → Option β) : (if 0 ≤ a then ((fX5_isLetter a).bind fun q61 => if q61 = 0 then ((fX5_isDigit a).bind fun q72 => if q72 = 0 then (if a = (59 : Int32) then (k (3 : Int32)) else (k (4 : Int32))) else (k (2 : Int32))) else (k (1 : Int32))) else (k (0 : Int32))) = k (gKd a) := by
  rw [q_letter, q_digit, b_some, b_some, bi, bi]
  unfold gKd
  by_cases h0 : 0 ≤ a
  · rw [if_pos h0]
    simp only [if_pos h0]
    by_cases h1 : 97 ≤ a ∧ a ≤ 122
    · simp only [if_pos h1, if_true]
    · simp only [if_neg h1]
      by_cases h2 : 48 ≤ a ∧ a ≤ 57
      · simp only [if_pos h2, if_true]
        rw [if_neg (by decide)]
      · simp only [if_neg h2]
        by_cases h3 : a = 59
        · simp only [if_pos h3]
          rw [if_neg (by decide), if_neg (by decide)]
        · simp only [if_neg h3]
          rw [if_neg (by decide), if_neg (by decide)]
  · rw [if_neg h0]
    simp only [if_neg h0]
theorem kd_nm {β : Type} (a : Int32) (K : Int32 → Option β) : (nm K fun k93 => if 0 ≤ a then ((fX5_isLetter a).bind fun q61 => if q61 = 0 then ((fX5_isDigit a).bind fun q72 => if q72 = 0 then (if a = (59 : Int32) then (k93 (3 : Int32)) else (k93 (4 : Int32))) else (k93 (2 : Int32))) else (k93 (1 : Int32))) else (k93 (0 : Int32))) = K (gKd a) := by
  rw [nm_d]
  exact kd_chain a K
theorem q_l0 {M : sOb} {k : sOb → Option sOb} (h : ¬ M.1 2 = 1) : fx1 (bX5_nextToken_101 k) FU M = k M := by
  obtain ⟨f, hf⟩ : ∃ f, FU = f + 1 := ⟨4999, rfl⟩
  rw [hf]
  show bX5_nextToken_101 _ _ _ = _
  unfold bX5_nextToken_101
  rw [if_neg h]
theorem q_d0 {M T0 : sOb} {k : sOb → Option sOb} (h : ¬ M.1 2 = 2) : fx1 (bX5_nextToken_136 T0 k) FU M = k M := by
  obtain ⟨f, hf⟩ : ∃ f, FU = f + 1 := ⟨4999, rfl⟩
  rw [hf]
  show bX5_nextToken_136 _ _ _ _ = _
  unfold bX5_nextToken_136
  rw [if_neg h]
/-- where a token ends that begins at b -/
def gEn (g : Nat → Int32) (z b : Nat) : Nat := if gKd (g b) = 1 ∨ gKd (g b) = 2 then gRn g (gKd (g b)) (z - (b + 1)) (b + 1) else b + 1
theorem kd_lt {M : sOb} {z b : Nat} (h : ¬ gKd (gBy M z b) = 0) : b < z := by
  apply Classical.byContradiction
  intro q
  apply h
  unfold gBy
  rw [if_neg q, gKd_m1]
theorem gEn_r {M : sOb} {z b : Nat} (h : ¬ gKd (gBy M z b) = 0) : b < gEn (gBy M z) z b ∧ gEn (gBy M z) z b ≤ z := by
  have hb := kd_lt h
  unfold gEn
  have := gRn_r (gBy M z) (gKd (gBy M z b)) (z - (b + 1)) (b + 1)
  split
  · omega
  · omega
theorem p_next {T M : sOb} {z e : Nat} (h : Tp T M z) (he : T.1 3 = nI e) (hz : e ≤ z) : ∃ T', fX2_next T = some T' ∧ T'.1 2 = nI (gSp (gBy M z) (z - e) e) ∧ T'.1 1 = gKd (gBy M z (gSp (gBy M z) (z - e) e)) ∧ T'.1 3 = nI (gEn (gBy M z) z (gSp (gBy M z) (z - e) e)) ∧ T'.1 0 = T.1 0 ∧ T'.1 4 = T.1 4 ∧ T'.2 = T.2 := by
  have hz0 := h.1
  have hb := gSp_r (gBy M z) (z - e) e
  unfold fX2_next
  rw [nm_d, nm_d]
  obtain ⟨T1, a1, a2, a3, a4⟩ := p_blanks (M := M) (z := z) (fun (T_45 : sOb) => (fX2_byteAt T_45 (T_45.1 2)).bind fun q51 => (fX2_tokenBegunBy q51).bind fun q54 => nm (sSs T_45 1 q54) fun T57 => nm (sSs T57 3 ((T57.1 2) + (1 : Int32))) fun T67 => if (T67.1 1) = (1 : Int32) then (fx1 bX2_next_86 FU T67) else (if (T67.1 1) = (2 : Int32) then (fx1 bX2_next_86 FU T67) else (some T67))) (z - e) e FU (by omega) (by unfold FU; omega) (sSs T 2 (T.1 3)) (h.congr (sSs_n (by decide)) rfl rfl rfl) (by rw [sSs_v, he])
  rw [a1]
  generalize gSp (gBy M z) (z - e) e = b at a2 hb ⊢
  have h1 : Tp T1 M z := h.congr ((a3 0 (by decide)).trans (sSs_n (by decide))) a4 rfl rfl
  rw [a2, p_byte h1 (by omega), b_some, p_tk, b_some, nm_d, nm_d]
  have hT : Tp (sSs (sSs T1 1 (gKd (gBy M z b))) 3 ((sSs T1 1 (gKd (gBy M z b))).1 2 + 1)) M z := h1.congr (by rw [sSs_n (by decide), sSs_n (by decide)]) rfl rfl rfl
  have e3 : (sSs (sSs T1 1 (gKd (gBy M z b))) 3 ((sSs T1 1 (gKd (gBy M z b))).1 2 + 1)).1 3 = nI (b + 1) := by rw [sSs_v, sSs_n (by decide), a2, nI_succ]
  have e1 : (sSs (sSs T1 1 (gKd (gBy M z b))) 3 ((sSs T1 1 (gKd (gBy M z b))).1 2 + 1)).1 1 = gKd (gBy M z b) := by rw [sSs_n (by decide), sSs_v]
  have eo : ∀ j, j ≠ 1 → j ≠ 2 → j ≠ 3 → (sSs (sSs T1 1 (gKd (gBy M z b))) 3 ((sSs T1 1 (gKd (gBy M z b))).1 2 + 1)).1 j = T.1 j := fun j h1 h2 h3 => by rw [sSs_n h3, sSs_n h1, a3 j h2, sSs_n h2]
  have e2 : (sSs (sSs T1 1 (gKd (gBy M z b))) 3 ((sSs T1 1 (gKd (gBy M z b))).1 2 + 1)).1 2 = nI b := by rw [sSs_n (by decide), sSs_n (by decide), a2]
  have e4 : (sSs (sSs T1 1 (gKd (gBy M z b))) 3 ((sSs T1 1 (gKd (gBy M z b))).1 2 + 1)).2 = T.2 := a4
  generalize sSs (sSs T1 1 (gKd (gBy M z b))) 3 ((sSs T1 1 (gKd (gBy M z b))).1 2 + 1) = T2 at hT e3 e1 eo e2 e4 ⊢
  have run : ¬ gKd (gBy M z b) = 0 → ∃ T', fx1 bX2_next_86 FU T2 = some T' ∧ T'.1 2 = nI b ∧ T'.1 1 = gKd (gBy M z b) ∧ T'.1 3 = nI (gRn (gBy M z) (gKd (gBy M z b)) (z - (b + 1)) (b + 1)) ∧ T'.1 0 = T.1 0 ∧ T'.1 4 = T.1 4 ∧ T'.2 = T.2 := by
    intro q
    have := kd_lt q
    obtain ⟨T', b1, b2, b3, b4⟩ := p_run (M := M) (z := z) (z - (b + 1)) (b + 1) FU (by omega) (by unfold FU; omega) T2 hT e1 e3
    exact ⟨T', b1, (b3 2 (by decide)).trans e2, (b3 1 (by decide)).trans e1, b2, (b3 0 (by decide)).trans (eo 0 (by decide) (by decide) (by decide)), (b3 4 (by decide)).trans (eo 4 (by decide) (by decide) (by decide)), b4.trans e4⟩
  unfold gEn
  rw [e1]
  by_cases q1 : gKd (gBy M z b) = 1
  · rw [if_pos q1, if_pos (Or.inl q1)]
    exact run (by rw [q1]; decide)
  · rw [if_neg q1]
    by_cases q2 : gKd (gBy M z b) = 2
    · rw [if_pos q2, if_pos (Or.inr q2)]
      exact run (by rw [q2]; decide)
    · rw [if_neg q2, if_neg (fun y => y.elim q1 q2)]
      exact ⟨T2, rfl, e2, e1, e3, eo 0 (by decide) (by decide) (by decide), eo 4 (by decide) (by decide) (by decide), e4⟩
theorem q_next {T M : sOb} {z e : Nat} (h : Tp T M z) (he : M.1 4 = nI e) (hz : e ≤ z) : ∃ M', fX5_nextToken M = some M' ∧ M'.1 3 = nI (gSp (gBy M z) (z - e) e) ∧ M'.1 2 = gKd (gBy M z (gSp (gBy M z) (z - e) e)) ∧ (¬ gKd (gBy M z (gSp (gBy M z) (z - e) e)) = 0 → M'.1 4 = nI (gEn (gBy M z) z (gSp (gBy M z) (z - e) e))) ∧ (gKd (gBy M z (gSp (gBy M z) (z - e) e)) = 2 → M'.1 5 = gNu (gBy M z) (gEn (gBy M z) z (gSp (gBy M z) (z - e) e) - gSp (gBy M z) (z - e) e) (gSp (gBy M z) (z - e) e) 0) ∧ M'.1 0 = M.1 0 ∧ M'.1 1 = M.1 1 ∧ M'.2 = M.2 := by
  have hz0 := h.1
  have hb := gSp_r (gBy M z) (z - e) e
  unfold fX5_nextToken
  rw [nm_d, nm_d]
  obtain ⟨M1, a1, a2, a3, a4⟩ := q_blanks (T := T) (z := z) (g := gBy M z) (fun (T_34 : sOb) => nm (sSs T_34 4 (T_34.1 3)) fun M39 => (fX5_byteAt M39 (M39.1 3)).bind fun q47 => nm (fun (y0_93 : Int32) => nm (sSs M39 2 y0_93) fun M93 => nm (sSs M93 5 (0 : Int32)) fun M98 => nm (fun (T_136 : sOb) => nm (fun (T_211 : sOb) => if (T_211.1 2) ≤ (2 : Int32) then (nm (sSs T_211 4 ((T_211.1 4) + (0 : Int32))) fun M230 => some M230) else (nm (sSs T_211 4 ((T_211.1 4) + (1 : Int32))) fun M230 => some M230)) fun k211 => fx1 (bX5_nextToken_136 T_136 k211) FU T_136) fun k136 => fx1 (bX5_nextToken_101 k136) FU M98) fun k93 => if 0 ≤ q47 then ((fX5_isLetter q47).bind fun q61 => if q61 = 0 then ((fX5_isDigit q47).bind fun q72 => if q72 = 0 then (if q47 = (59 : Int32) then (k93 (3 : Int32)) else (k93 (4 : Int32))) else (k93 (2 : Int32))) else (k93 (1 : Int32))) else (k93 (0 : Int32))) (z - e) e FU (by omega) (by unfold FU; omega) (sSs M 3 (M.1 4)) (h.congr rfl rfl (sSs_n (by decide)) rfl) (fun _ => rfl) (by rw [sSs_v, he])
  rw [a1]
  generalize gSp (gBy M z) (z - e) e = b at a2 hb ⊢
  rw [nm_d]
  have h1 : Tp T (sSs M1 4 (M1.1 3)) z := h.congr rfl rfl (by rw [sSs_n (by decide), a3 1 (by decide), sSs_n (by decide)]) (by rw [sSs_2, a4]; rfl)
  have g1 : ∀ i, gBy (sSs M1 4 (M1.1 3)) z i = gBy M z i := fun i => gBy_congr (by rw [sSs_2, a4]; rfl) i
  rw [a2] at h1 g1
  rw [sSs_n (show 3 ≠ 4 by decide), a2, q_byte h1 (by omega), b_some, g1, kd_nm, nm_d, nm_d, nm_d]
  have hM : Tp T (sSs (sSs (sSs M1 4 (nI b)) 2 (gKd (gBy M z b))) 5 0) z := h1.congr rfl rfl (by rw [sSs_n (by decide), sSs_n (by decide)]) rfl
  have e4 : (sSs (sSs (sSs M1 4 (nI b)) 2 (gKd (gBy M z b))) 5 0).1 4 = nI b := by rw [sSs_n (by decide), sSs_n (by decide), sSs_v]
  have e2 : (sSs (sSs (sSs M1 4 (nI b)) 2 (gKd (gBy M z b))) 5 0).1 2 = gKd (gBy M z b) := by rw [sSs_n (by decide), sSs_v]
  have e5 : (sSs (sSs (sSs M1 4 (nI b)) 2 (gKd (gBy M z b))) 5 0).1 5 = 0 := sSs_v _ _ _
  have eo : ∀ j, j ≠ 2 → j ≠ 3 → j ≠ 4 → j ≠ 5 → (sSs (sSs (sSs M1 4 (nI b)) 2 (gKd (gBy M z b))) 5 0).1 j = M.1 j := fun j h2 h3 h4 h5 => by rw [sSs_n h5, sSs_n h2, sSs_n h4, a3 j h3, sSs_n h3]
  have e3 : (sSs (sSs (sSs M1 4 (nI b)) 2 (gKd (gBy M z b))) 5 0).1 3 = nI b := by rw [sSs_n (by decide), sSs_n (by decide), sSs_n (by decide), a2]
  have ep : (sSs (sSs (sSs M1 4 (nI b)) 2 (gKd (gBy M z b))) 5 0).2 = M.2 := a4
  have g2 : ∀ i, gBy (sSs (sSs (sSs M1 4 (nI b)) 2 (gKd (gBy M z b))) 5 0) z i = gBy M z i := g1
  generalize sSs (sSs (sSs M1 4 (nI b)) 2 (gKd (gBy M z b))) 5 0 = M2 at hM e4 e2 e5 eo e3 ep g2 ⊢
  by_cases q1 : gKd (gBy M z b) = 1
  · have hlt := kd_lt (show ¬ gKd (gBy M z b) = 0 by rw [q1]; decide)
    rw [q1] at e2 ⊢
    obtain ⟨M3, b1, b2, b3, b4⟩ := q_letters (T := T) (z := z) (g := gBy M z) (fun (T_136 : sOb) => nm (fun (T_211 : sOb) => if (T_211.1 2) ≤ (2 : Int32) then (nm (sSs T_211 4 ((T_211.1 4) + (0 : Int32))) fun M230 => some M230) else (nm (sSs T_211 4 ((T_211.1 4) + (1 : Int32))) fun M230 => some M230)) fun k211 => fx1 (bX5_nextToken_136 T_136 k211) FU T_136) (z - b) b FU (by omega) (by unfold FU; omega) M2 hM g2 e2 e4
    have k2 : M3.1 2 = 1 := (b3 2 (by decide)).trans e2
    rw [b1, nm_d, q_d0 (by rw [k2]; decide), k2, if_pos (by decide), nm_d, Int32.add_zero]
    refine ⟨_, rfl, by rw [sSs_n (by decide), b3 3 (by decide), e3], by rw [sSs_n (by decide), k2], fun _ => ?_, fun y => absurd y (by decide), by rw [sSs_n (by decide), b3 0 (by decide), eo 0 (by decide) (by decide) (by decide) (by decide)], by rw [sSs_n (by decide), b3 1 (by decide), eo 1 (by decide) (by decide) (by decide) (by decide)], b4.trans ep⟩
    rw [sSs_v, b2]
    unfold gEn
    rw [if_pos (Or.inl q1), q1, show z - b = (z - (b + 1)) + 1 by omega, gRn_s, if_pos q1]
  · rw [q_l0 (by rw [e2]; exact q1)]
    rw [nm_d]
    by_cases q2 : gKd (gBy M z b) = 2
    · have hlt := kd_lt (show ¬ gKd (gBy M z b) = 0 by rw [q2]; decide)
      have hr := gRn_r (gBy M z) 2 (z - b) b
      rw [q2] at e2 ⊢
      obtain ⟨M3, b1, b2, b3, b4, b5⟩ := q_digits (T := T) (z := z) (g := gBy M z) M2 (fun (T_211 : sOb) => if (T_211.1 2) ≤ (2 : Int32) then (nm (sSs T_211 4 ((T_211.1 4) + (0 : Int32))) fun M230 => some M230) else (nm (sSs T_211 4 ((T_211.1 4) + (1 : Int32))) fun M230 => some M230)) (z - b) b FU (by omega) (by unfold FU; omega) M2 0 hM g2 e2 e4 e5
      have k2 : M3.1 2 = 2 := (b4 2 (by decide) (by decide)).trans e2
      have een : gEn (gBy M z) z b = gRn (gBy M z) 2 (z - b) b := by
        unfold gEn
        rw [if_pos (Or.inr q2), q2, show z - b = (z - (b + 1)) + 1 by omega, gRn_s, if_pos q2]
      rw [b1, k2, if_pos (by decide), nm_d, Int32.add_zero]
      exact ⟨_, rfl, by rw [sSs_n (by decide), b4 3 (by decide) (by decide), e3], by rw [sSs_n (by decide), k2], fun _ => by rw [sSs_v, b2, een], fun _ => by rw [sSs_n (by decide), b3, een], by rw [sSs_n (by decide), b4 0 (by decide) (by decide), eo 0 (by decide) (by decide) (by decide) (by decide)], by rw [sSs_n (by decide), b4 1 (by decide) (by decide), eo 1 (by decide) (by decide) (by decide) (by decide)], b5.trans ep⟩
    · rw [q_d0 (by rw [e2]; exact q2), e2, nm_d, nm_d]
      by_cases q3 : gKd (gBy M z b) ≤ 2
      · have q0 : gKd (gBy M z b) = 0 := by
          rcases gKd_v (gBy M z b) with y | y | y | y | y
          · exact y
          · exact absurd y q1
          · exact absurd y q2
          · rw [y] at q3; exact absurd q3 (by decide)
          · rw [y] at q3; exact absurd q3 (by decide)
        rw [if_pos q3]
        exact ⟨_, rfl, by rw [sSs_n (by decide), e3], by rw [sSs_n (by decide), e2], fun y => absurd q0 y, fun y => absurd y q2, by rw [sSs_n (by decide), eo 0 (by decide) (by decide) (by decide) (by decide)], by rw [sSs_n (by decide), eo 1 (by decide) (by decide) (by decide) (by decide)], ep⟩
      · rw [if_neg q3]
        refine ⟨_, rfl, by rw [sSs_n (by decide), e3], by rw [sSs_n (by decide), e2], fun _ => ?_, fun y => absurd y q2, by rw [sSs_n (by decide), eo 0 (by decide) (by decide) (by decide) (by decide)], by rw [sSs_n (by decide), eo 1 (by decide) (by decide) (by decide) (by decide)], ep⟩
        unfold gEn
        rw [sSs_v, e4, if_neg (fun y => y.elim q1 q2), nI_succ]
/-- the two at a token -/
def RelT (T M : sOb) (z lo : Nat) : Prop := Tp T M z ∧ ∃ b e, lo ≤ b ∧ b ≤ z ∧ T.1 2 = nI b ∧ M.1 3 = nI b ∧ T.1 1 = gKd (gBy M z b) ∧ M.1 2 = gKd (gBy M z b) ∧ (gKd (gBy M z b) = 0 ∨ (T.1 3 = nI e ∧ M.1 4 = nI e ∧ b < e ∧ e ≤ z))
theorem nx_at {T M : sOb} {z e : Nat} (h : Tp T M z) (he : T.1 3 = nI e) (he' : M.1 4 = nI e) (hz : e ≤ z) : ∃ T' M', fX2_next T = some T' ∧ fX5_nextToken M = some M' ∧ RelT T' M' z e ∧ (T'.1 1 = 2 → fX2_numberHere T' = some (M'.1 5)) ∧ T'.1 0 = T.1 0 ∧ T'.1 4 = T.1 4 ∧ T'.2 = T.2 ∧ M'.1 0 = M.1 0 ∧ M'.1 1 = M.1 1 ∧ M'.2 = M.2 := by
  have hz0 := h.1
  obtain ⟨T', a1, a2, a3, a4, a5, a6, a7⟩ := p_next h he hz
  obtain ⟨M', b1, b2, b3, b4, b5, b6, b7, b8⟩ := q_next h he' hz
  have hb := gSp_r (gBy M z) (z - e) e
  have hT : Tp T' M' z := h.congr a5 a7 b7 (by rw [b8])
  have hg : ∀ i, gBy M' z i = gBy M z i := fun i => gBy_congr (by rw [b8]) i
  generalize gSp (gBy M z) (z - e) e = b at a2 a3 a4 b2 b3 b4 b5 hb
  refine ⟨T', M', a1, b1, ⟨hT, b, gEn (gBy M z) z b, by omega, by omega, a2, b2, by rw [hg, a3], by rw [hg, b3], ?_⟩, fun q => ?_, a5, a6, a7, b6, b7, b8⟩
  · rw [hg]
    by_cases q : gKd (gBy M z b) = 0
    · exact Or.inl q
    · exact Or.inr ⟨a4, b4 q, gEn_r q⟩
  · rw [a3] at q
    have hr := gEn_r (M := M) (z := z) (b := b) (by rw [q]; decide)
    unfold fX2_numberHere
    rw [nm_d, a2, p_number (M := M) (h.congr a5 a7 rfl rfl) (gEn (gBy M z) z b) hr.2 a4 (gEn (gBy M z) z b - b) b FU (by omega) (by unfold FU; omega) 0, b5 q]
theorem nx {T M : sOb} {z lo : Nat} (h : RelT T M z lo) (hk : ¬ T.1 1 = 0) : ∃ T' M', fX2_next T = some T' ∧ fX5_nextToken M = some M' ∧ RelT T' M' z (lo + 1) ∧ (T'.1 1 = 2 → fX2_numberHere T' = some (M'.1 5)) ∧ T'.1 0 = T.1 0 ∧ T'.1 4 = T.1 4 ∧ T'.2 = T.2 ∧ M'.1 0 = M.1 0 ∧ M'.1 1 = M.1 1 ∧ M'.2 = M.2 := by
  obtain ⟨h1, b, e, h2, h3, h4, h5, h6, h7, h8⟩ := h
  rw [h6] at hk
  rcases h8 with q | ⟨q1, q2, q3, q4⟩
  · exact absurd q hk
  · obtain ⟨T', M', a1, a2, ⟨a3, b', e', c2, c3⟩, a4⟩ := nx_at h1 q1 q2 q4
    exact ⟨T', M', a1, a2, ⟨a3, b', e', by omega, c3⟩, a4⟩
theorem RelT.mono {T M : sOb} {z lo lo' : Nat} (h : RelT T M z lo) (hl : lo' ≤ lo) : RelT T M z lo' := by
  obtain ⟨h1, b, e, h2, h3⟩ := h
  exact ⟨h1, b, e, by omega, h3⟩
theorem RelT.congr {T T' M M' : sOb} {z lo : Nat} (h : RelT T M z lo) (hT : ∀ j, j ≠ 4 → T'.1 j = T.1 j) (hT2 : T'.2 = T.2) (hM : ∀ j, M'.1 j = M.1 j) (h4 : M'.2.1 4 = M.2.1 4) : RelT T' M' z lo := by
  obtain ⟨h1, b, e, h2, h3, h5, h6, h7, h8, h9⟩ := h
  refine ⟨h1.congr (hT 0 (by decide)) hT2 (hM 1) h4, b, e, h2, h3, by rw [hT 2 (by decide)]; exact h5, by rw [hM]; exact h6, by rw [hT 1 (by decide), gBy_congr h4]; exact h7, by rw [hM, gBy_congr h4]; exact h8, ?_⟩
  rw [hT 3 (by decide), hM, gBy_congr h4]
  exact h9
