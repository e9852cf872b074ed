/-! PURE: a runner of the text -/
def RE (S0 : sWo) (M0 : sOb) (S : sWo) (M : sOb) : Prop := FrT (S0 4) (S 4) ∧ (∀ o, o ≠ 2 → o ≠ 4 → S o = S0 o) ∧ M.1 0 = M0.1 0 ∧ M.1 1 = M0.1 1 ∧ (∀ k, k ≠ 0 → k ≠ 7 → M.2.1 k = M0.2.1 k) ∧ M.2.2 = M0.2.2
theorem RE.tape {S0 S : sWo} {M0 M M' T : sOb} (h : RE S0 M0 S M) (hT : FrT (S 4) T) (hM : FrN M M') : RE S0 M0 (sUp S 4 T) M' := by
  obtain ⟨⟨h1, h2⟩, h3, h4, h5, h6, h7⟩ := h
  refine ⟨?_, fun o h2 h4 => by rw [sUp_n h4]; exact h3 o h2 h4, hM.1.trans h4, hM.2.1.trans h5, fun k a b => by rw [hM.2.2]; exact h6 k a b, by rw [hM.2.2]; exact h7⟩
  rw [sUp_s]
  exact ⟨hT.1.trans h1, hT.2.trans h2⟩
theorem RE.model {S0 S : sWo} {M0 M M' : sOb} (h : RE S0 M0 S M) (hM : Fm M M') : RE S0 M0 S M' := by
  obtain ⟨h1, h3, h4, h5, h6, h7⟩ := h
  exact ⟨h1, h3, by rw [hM.1]; exact h4, by rw [hM.1]; exact h5, fun k a b => (hM.2.1 k a b).trans (h6 k a b), hM.2.2.trans h7⟩
theorem RE.next {S0 S : sWo} {M0 M M' : sOb} (h : RE S0 M0 S M) (hM : FrN M M') : RE S0 M0 S M' := by
  obtain ⟨h1, h3, h4, h5, h6, h7⟩ := h
  exact ⟨h1, h3, hM.1.trans h4, hM.2.1.trans h5, fun k a b => by rw [hM.2.2]; exact h6 k a b, by rw [hM.2.2]; exact h7⟩
theorem RE.track {S0 S : sWo} {M0 M T : sOb} (h : RE S0 M0 S M) : RE S0 M0 (sUp S 2 T) M := by
  obtain ⟨h1, h3, h4⟩ := h
  exact ⟨by rw [sUp_n (by decide)]; exact h1, fun o h2 h4 => by rw [sUp_n h2]; exact h3 o h2 h4, h4⟩
theorem FrT.s4 (T : sOb) (v : Int32) : FrT T (sSs T 4 v) := ⟨sSs_n (by decide), rfl⟩
theorem FrN.rf (M : sOb) : FrN M M := ⟨rfl, rfl, rfl⟩
def Out (S0 : sWo) (M0 : sOb) (z lo : Nat) (B : Int32) (oc : Option (Int32 × sWo)) (om : Option (Int32 × sOb)) : Prop := ∃ S' M', (oc = some (0, S') ∧ om = some (0, M') ∧ RelT (S' 4) M' z 0 ∧ RE S0 M0 S' M') ∨ (oc = some (1, S') ∧ om = some (1, M') ∧ ∃ c, Inv (S' 2) c B ∧ RF (M'.2.1 0) (S' 2) ∧ RelT (S' 4) M' z lo ∧ RE S0 M0 S' M')
def sK130 (a v p q : Int32) (S_130 : sWo) : Option (Int32 × sWo) := (fX3_add (S_130 2) a v p).bind fun q135 => nm (sUp S_130 2 q135.2) fun S135 => (fX3_has (S135 2) q135.1).bind fun q143 => if q143 = 0 then (some ((1 : Int32), S135)) else (if q135.1 < 0 ∨ 9 ≤ q135.1.toNatClampNeg then none else nm (sUp S135 2 (sSa (S135 2) 3 q135.1.toNatClampNeg q)) fun S157 => nm (sUp S157 2 (sSa (S157 2) 4 q135.1.toNatClampNeg ((S157 4).1 4))) fun S168 => nm (sUp S168 2 (sSa (S168 2) 5 q135.1.toNatClampNeg ((S168 4).1 4))) fun S179 => some ((1 : Int32), S179))
theorem p_K130 {S : sWo} {c : Nat} (hc : c < 9) (h4 : (S 2).1 4 = nI c) (a v p q : Int32) : ∃ S', sK130 a v p q S = some (1, S') ∧ S' 2 = gX (S 2) a v p q ((S 4).1 4) c ∧ ∀ o, o ≠ 2 → S' o = S o := by
  unfold sK130
  have h5 : (gAd (S 2) a v p c).1 4 = nI (c + 1) := by rw [gAd_1, if_pos rfl]
  rw [p_add hc h4, b_some, nm_d, sUp_s]
  dsimp only
  rw [p_has1 (c := c + 1) (by omega) h5 (by omega), b_some, if_neg n10, if_neg (ix_in hc (by omega)), z_cl (show c < 2147483648 by omega), nm_d, nm_d, nm_d]
  refine ⟨_, rfl, ?_, fun o ho => by rw [sUp_n ho, sUp_n ho, sUp_n ho, sUp_n ho]⟩
  simp only [sUp_s]
  rw [sUp_n (show 4 ≠ 2 by decide), sUp_n (show 4 ≠ 2 by decide), sUp_n (show 4 ≠ 2 by decide)]
  rfl
def sK94 (a v p : Int32) (S_94 : sWo) : Option (Int32 × sWo) := nm ((S_94 4).1 4) fun v98 => nm (sUp S_94 4 (sSs (S_94 4) 4 (0 : Int32))) fun S102 => (fX2_isWord (S102 4) 12).bind fun q108 => nm (fun (S_130 : sWo) => sK130 a v p v98 S_130) fun k130 => if q108 = 0 then (k130 S102) else ((fX2_readNumberBehind (S102 4) (0 : Int32) (((S102 2).1 0) - (1 : Int32))).bind fun q122 => nm (sUp S102 4 q122.2) fun S122 => if q122.1 = 0 then (some ((0 : Int32), S122)) else (k130 S122))
def sM293 (i : Int32) (y0_293 : Int32) (T_293 : sOb) : Option (Int32 × sOb) := nm (fun (T_322 : sOb) => if y0_293 < 0 then (some ((0 : Int32), T_322)) else (some ((1 : Int32), T_322))) fun k322 => if y0_293 ≤ 0 then (k322 T_293) else ((fX5_puts T_293 i (4 : Int32) (T_293.1 5)).bind fun q305 => (fX5_puts q305 i (5 : Int32) (q305.1 5)).bind fun q315 => (fX5_nextToken q315).bind fun q319 => k322 q319)
def sM231 (i : Int32) (y0_212 : Int32) (T_231 : sOb) : Option (Int32 × sOb) := nm (fun (y0_293 : Int32) (T_293 : sOb) => sM293 i y0_293 T_293) fun k293 => if 0 ≤ y0_212 then ((fX5_isWord T_231 (5 : Int32)).bind fun q242 => nm (fun (y0_281 : Int32) => (fX5_mayCome T_231 y0_281 (0 : Int32) ((T_231.2.1 0 (1 : Int32).toNatClampNeg) - (1 : Int32))).bind fun q290 => k293 q290.1 q290.2) fun k281 => nm (k281 (0 : Int32)) fun k280 => if q242 = 0 then k280 else ((fX5_has3 T_231 (0 : Int32) (115 : Int32) (116 : Int32) (97 : Int32)).bind fun q256 => if q256 = 0 then k280 else ((fX5_has3 T_231 (2 : Int32) (97 : Int32) (114 : Int32) (116 : Int32)).bind fun q270 => if q270 = 0 then k280 else (k281 (1 : Int32))))) else (k293 (-1 : Int32) T_231)
theorem l_pos {x : Int32} (h : 10 ≤ x ∧ x ≤ 9999) : 0 < x := by grind
theorem le_m1 {r x : Int32} (h : 0 ≤ r ∧ r ≤ x - 1) (hx : 10 ≤ x ∧ x ≤ 9999) : 0 ≤ r ∧ r < x := by grind
theorem st3 {S0 S : sWo} {M0 M : sOb} {z lo c : Nat} {B a v p : Int32} (hc : c < 9) (hI : Inv (S 2) c B) (hR : RF (M.2.1 0) (gX (S 2) a v p ((S 4).1 4) 0 c)) (hT : RelT (S 4) M z lo) (hE : RE S0 M0 S M) (ha : 0 ≤ a ∧ a ≤ 5) (hv : 1 ≤ v ∧ v ≤ 12) (hp : 0 ≤ p ∧ p ≤ 999) (hq : -1 ≤ (S 4).1 4 ∧ (S 4).1 4 < nI c) {y : Int32} (hy : 0 ≤ y) : Out S0 M0 z lo B (sK94 a v p S) (sM231 (nI c) y M) := by
  have hl := hI.2.2.1
  have hT1 : RelT (sSs (S 4) 4 0) M z lo := hT.congr (fun j hj => sSs_n hj) rfl (fun _ => rfl) rfl
  have e1 : M.2.1 0 1 = (S 2).1 0 := by rw [hR.2.1, gX_1, if_neg (by decide)]
  unfold sK94 sM231
  rw [nm_d, nm_d, sUp_s, p_word hT1 (by omega), b_some, nm_d, bi, nm_d, if_pos hy, mc5 hT1 (w := 12) rfl rfl, cl_1, e1, sUp_n (show 2 ≠ 4 by decide)]
  generalize hS1 : sUp S 4 (sSs (S 4) 4 0) = S1
  have s2 : S1 2 = S 2 := by rw [← hS1, sUp_n (by decide)]
  have s4 : S1 4 = sSs (S 4) 4 0 := by rw [← hS1, sUp_s]
  have hE1 : RE S0 M0 S1 M := by rw [← hS1]; exact hE.tape (FrT.s4 _ _) (FrN.rf M)
  by_cases w : gWb (sSs (S 4) 4 0) M z 12 = true
  · rw [if_pos w, if_pos w]
    obtain ⟨M1, T1, b1, b2, b3, b4⟩ := rb hT1 (gWb_k w) 0 ((S 2).1 0 - 1)
    have hE2 : RE S0 M0 (sUp S1 4 T1) M1 := hE1.tape (by rw [s4]; exact b3) b2
    rcases b4 with ⟨d1, d2, d3⟩ | ⟨d1, d2, d3, d4, d5⟩
    · dsimp only
      rw [d2, b_some, nm_d, if_pos rfl, mayn b1 d1, b_some]
      unfold sM293
      rw [nm_d, if_pos (show (-1 : Int32) ≤ 0 by decide)]
      dsimp only
      rw [if_pos (show (-1 : Int32) < 0 by decide)]
      exact ⟨_, _, Or.inl ⟨rfl, rfl, by rw [sUp_s]; exact d3.mono (by omega), hE2⟩⟩
    · dsimp only
      rw [d2, b_some, nm_d, if_neg n10, may1 b1 d1, b_some]
      unfold sM293
      have d3' := le_m1 d3 hl
      have m1 : (sSa M1 0 (5 + 8 * c + 4) (M1.1 5)).1 5 = M1.1 5 := rfl
      rw [nm_d, if_neg (show ¬ (1 : Int32) ≤ 0 by decide), q_puts hc 4 (by omega) (v := 4) rfl, b_some, q_puts hc 5 (by omega) (v := 5) rfl, b_some, m1]
      obtain ⟨M3, f1, f2, f3⟩ := d5 (sSa (sSa M1 0 (5 + 8 * c + 4) (M1.1 5)) 0 (5 + 8 * c + 5) (M1.1 5)) rfl (by rw [sSa_other (by decide), sSa_other (by decide)])
      rw [f1, b_some]
      dsimp only
      rw [if_neg (show ¬ (1 : Int32) < 0 by decide)]
      obtain ⟨S', k1, k2, k3⟩ := p_K130 (S := sUp S1 4 T1) hc (by rw [sUp_n (by decide), s2]; exact hI.2.1) a v p ((S 4).1 4)
      rw [k1]
      rw [sUp_s, sUp_n (by decide), s2, d4] at k2
      have hRX := RF_Xr hc hR (M1.1 5)
      refine ⟨S', M3, Or.inr ⟨rfl, rfl, c + 1, by rw [k2]; exact Inv_X hI hc ha hv hp hq d3', ?_, by rw [k3 4 (by decide), sUp_s]; exact f3.mono (by omega), ?_⟩⟩
      · rw [k2, f2.2.2, sSa_same, sSa_same, b2.2.2]
        exact hRX
      · have hE3 := (hE2.model ((Fm.a0 M1 (5 + 8 * c + 4) (M1.1 5)).tr (Fm.a0 _ (5 + 8 * c + 5) (M1.1 5)))).next f2
        obtain ⟨x1, x2, x3⟩ := hE3
        exact ⟨by rw [k3 4 (by decide)]; exact x1, fun o h2 h4 => (k3 o h2).trans (x2 o h2 h4), x3⟩
  · rw [if_neg w, if_neg w]
    dsimp only
    rw [may0, b_some]
    unfold sM293
    rw [nm_d, if_pos (show (0 : Int32) ≤ 0 by decide)]
    dsimp only
    rw [if_neg (show ¬ (0 : Int32) < 0 by decide)]
    obtain ⟨S', k1, k2, k3⟩ := p_K130 (S := S1) hc (by rw [s2]; exact hI.2.1) a v p ((S 4).1 4)
    rw [k1]
    rw [s2, s4, sSs_v] at k2
    obtain ⟨x1, x2, x3⟩ := hE1
    exact ⟨S', M, Or.inr ⟨rfl, rfl, c + 1, by rw [k2]; exact Inv_X hI hc ha hv hp hq ⟨by decide, l_pos hl⟩, by rw [k2]; exact hR, by rw [k3 4 (by decide), s4]; exact hT1, by rw [k3 4 (by decide)]; exact x1, fun o h2 h4 => (k3 o h2).trans (x2 o h2 h4), x3⟩⟩
def sK58 (a v : Int32) (S_58 : sWo) : Option (Int32 × sWo) := nm ((S_58 4).1 4) fun v62 => nm (sUp S_58 4 (sSs (S_58 4) 4 (-1 : Int32))) fun S66 => (fX2_isWord (S66 4) 11).bind fun q72 => nm (fun (S_94 : sWo) => sK94 a v v62 S_94) fun k94 => if q72 = 0 then (k94 S66) else ((fX2_readNumberBehind (S66 4) (0 : Int32) (((S66 2).1 4) - (1 : Int32))).bind fun q86 => nm (sUp S66 4 q86.2) fun S86 => if q86.1 = 0 then (some ((0 : Int32), S86)) else (k94 S86))
def sM212 (i : Int32) (y0_212 : Int32) (T_212 : sOb) : Option (Int32 × sOb) := nm (fun (T_231 : sOb) => sM231 i y0_212 T_231) fun k231 => if y0_212 ≤ 0 then (k231 T_212) else ((fX5_puts T_212 i (3 : Int32) (T_212.1 5)).bind fun q224 => (fX5_nextToken q224).bind fun q228 => k231 q228)
def sM154 (i : Int32) (y : Int32) (T_154 : sOb) : Option (Int32 × sOb) := nm (fun (y0_212 : Int32) (T_212 : sOb) => sM212 i y0_212 T_212) fun k212 => if 0 ≤ y then ((fX5_isWord T_154 (6 : Int32)).bind fun q166 => nm (fun (y0_205 : Int32) => (fX5_mayCome T_154 y0_205 (0 : Int32) (i - (1 : Int32))).bind fun q209 => k212 q209.1 q209.2) fun k205 => nm (k205 (0 : Int32)) fun k204 => if q166 = 0 then k204 else ((fX5_has3 T_154 (0 : Int32) (102 : Int32) (114 : Int32) (105 : Int32)).bind fun q180 => if q180 = 0 then k204 else ((fX5_has3 T_154 (3 : Int32) (101 : Int32) (110 : Int32) (100 : Int32)).bind fun q194 => if q194 = 0 then k204 else (k205 (1 : Int32))))) else (k212 (-1 : Int32) T_154)
theorem m293n (i : Int32) (M : sOb) : sM293 i (-1) M = some (0, M) := by
  unfold sM293
  rw [nm_d, if_pos (show (-1 : Int32) ≤ 0 by decide)]
  exact if_pos (by decide)
theorem m231n (i : Int32) (M : sOb) : sM231 i (-1) M = some (0, M) := by
  unfold sM231
  rw [nm_d, if_neg (show ¬ (0 : Int32) ≤ -1 by decide)]
  exact m293n i M
theorem m212n (i : Int32) (M : sOb) : sM212 i (-1) M = some (0, M) := by
  unfold sM212
  rw [nm_d, if_pos (show (-1 : Int32) ≤ 0 by decide)]
  exact m231n i M
theorem m154n (i : Int32) (M : sOb) : sM154 i (-1) M = some (0, M) := by
  unfold sM154
  rw [nm_d, if_neg (show ¬ (0 : Int32) ≤ -1 by decide)]
  exact m212n i M
theorem le_c1 {r x : Int32} (h : 0 ≤ r ∧ r ≤ x - 1) (hx : 0 ≤ x ∧ x ≤ 9) : -1 ≤ r ∧ r < x := by grind
theorem st2 {S0 S : sWo} {M0 M : sOb} {z lo c : Nat} {B a v : Int32} (hc : c < 9) (hI : Inv (S 2) c B) (hR : RF (M.2.1 0) (gX (S 2) a v ((S 4).1 4) (-1) 0 c)) (hT : RelT (S 4) M z lo) (hE : RE S0 M0 S M) (ha : 0 ≤ a ∧ a ≤ 5) (hv : 1 ≤ v ∧ v ≤ 12) (hp : 0 ≤ (S 4).1 4 ∧ (S 4).1 4 ≤ 999) {y : Int32} (hy : 0 ≤ y) : Out S0 M0 z lo B (sK58 a v S) (sM154 (nI c) y M) := by
  have hT1 : RelT (sSs (S 4) 4 (-1)) M z lo := hT.congr (fun j hj => sSs_n hj) rfl (fun _ => rfl) rfl
  have h9 := nI_9 (c := c) (by omega)
  unfold sK58 sM154
  rw [nm_d, nm_d, sUp_s, p_word hT1 (by omega), b_some, nm_d, bi, nm_d, if_pos hy, mc6 hT1 (w := 11) rfl rfl, sUp_n (show 2 ≠ 4 by decide), hI.2.1]
  generalize hS1 : sUp S 4 (sSs (S 4) 4 (-1)) = S1
  have s2 : S1 2 = S 2 := by rw [← hS1, sUp_n (by decide)]
  have s4 : S1 4 = sSs (S 4) 4 (-1) := by rw [← hS1, sUp_s]
  have hE1 : RE S0 M0 S1 M := by rw [← hS1]; exact hE.tape (FrT.s4 _ _) (FrN.rf M)
  by_cases w : gWb (sSs (S 4) 4 (-1)) M z 11 = true
  · rw [if_pos w, if_pos w]
    obtain ⟨M1, T1, b1, b2, b3, b4⟩ := rb hT1 (gWb_k w) 0 (nI c - 1)
    have hE2 : RE S0 M0 (sUp S1 4 T1) M1 := hE1.tape (by rw [s4]; exact b3) b2
    rcases b4 with ⟨d1, d2, d3⟩ | ⟨d1, d2, d3, d4, d5⟩
    · dsimp only
      rw [d2, b_some, nm_d, if_pos rfl, mayn b1 d1, b_some]
      dsimp only
      rw [m212n]
      exact ⟨_, _, Or.inl ⟨rfl, rfl, by rw [sUp_s]; exact d3.mono (by omega), hE2⟩⟩
    · dsimp only
      rw [d2, b_some, nm_d, if_neg n10, may1 b1 d1, b_some]
      dsimp only
      unfold sM212
      rw [nm_d, if_neg (show ¬ (1 : Int32) ≤ 0 by decide), q_puts hc 3 (by omega) (v := 3) rfl, b_some]
      obtain ⟨M3, f1, f2, f3⟩ := d5 (sSa M1 0 (5 + 8 * c + 3) (M1.1 5)) rfl (by rw [sSa_other (by decide)])
      rw [f1, b_some]
      have hE3 := (hE2.model (Fm.a0 M1 (5 + 8 * c + 3) (M1.1 5))).next f2
      refine st3 hc (by rw [sUp_n (by decide), s2]; exact hI) ?_ (by rw [sUp_s]; exact f3.mono (by omega)) hE3 ha hv hp (by rw [sUp_s, d4]; exact le_c1 d3 h9) (by decide)
      rw [sUp_n (by decide), s2, sUp_s, d4, f2.2.2, sSa_same, b2.2.2]
      exact RF_Xq hc hR (M1.1 5)
  · rw [if_neg w, if_neg w]
    dsimp only
    rw [may0, b_some]
    dsimp only
    unfold sM212
    rw [nm_d, if_pos (show (0 : Int32) ≤ 0 by decide)]
    refine st3 hc (by rw [s2]; exact hI) (by rw [s2, s4, sSs_v]; exact hR) (by rw [s4]; exact hT1) hE1 ha hv hp ?_ (by decide)
    rw [s4, sSs_v]
    refine ⟨by decide, ?_⟩
    have h90 := h9.1
    generalize nI c = x at h90
    clear hT hT1 hE hE1 hR
    grind
def sM128 (i : Int32) (M : sOb) (y0_128 : Int32) : Option (Int32 × sOb) := (fX5_mayCome M y0_128 (0 : Int32) (999 : Int32)).bind fun q132 => nm (fun (T_154 : sOb) => sM154 i q132.1 T_154) fun k154 => if q132.1 ≤ 0 then (k154 q132.2) else ((fX5_puts q132.2 i (2 : Int32) (q132.2.1 5)).bind fun q147 => (fX5_nextToken q147).bind fun q151 => k154 q151)
theorem m_runner (M : sOb) (a1 : Int32) : fX5_goesRunner M a1 = if (M.2.1 0 (0 : Int32).toNatClampNeg) = (9 : Int32) then (some ((0 : Int32), M)) else ((fX5_nextToken M).bind fun q14 => (fX5_isWord q14 (4 : Int32)).bind fun q19 => if q19 = 0 then (some ((0 : Int32), q14)) else ((fX5_has3 q14 (0 : Int32) (112 : Int32) (97 : Int32) (99 : Int32)).bind fun q33 => if q33 = 0 then (some ((0 : Int32), q14)) else ((fX5_has3 q14 (1 : Int32) (97 : Int32) (99 : Int32) (101 : Int32)).bind fun q47 => if q47 = 0 then (some ((0 : Int32), q14)) else ((fX5_nextToken q14).bind fun q56 => (fX5_isNumber q56 (1 : Int32) (12 : Int32)).bind fun q63 => if q63 = 0 then (some ((0 : Int32), q56)) else ((fX5_comes q56 a1 (q56.1 5)).bind fun q77 => (fX5_nextToken q77.2).bind fun q82 => (fX5_isWord q82 (6 : Int32)).bind fun q89 => nm (sM128 q77.1 q82) fun k128 => nm (k128 (0 : Int32)) fun k127 => if q89 = 0 then k127 else ((fX5_has3 q82 (0 : Int32) (98 : Int32) (114 : Int32) (101 : Int32)).bind fun q103 => if q103 = 0 then k127 else ((fX5_has3 q82 (3 : Int32) (97 : Int32) (116 : Int32) (104 : Int32)).bind fun q117 => if q117 = 0 then k127 else (k128 (1 : Int32))))))))) := rfl
theorem c_runner (S : sWo) (a2 : Int32) : fX2_readRunner S a2 = (fX2_next (S 4)).bind fun q1 => nm (sUp S 4 q1) fun S1 => (fX2_isWord (S1 4) 9).bind fun q7 => if q7 = 0 then (some ((0 : Int32), S1)) else ((fX2_readNumberBehind (S1 4) (1 : Int32) (12 : Int32)).bind fun q17 => nm (sUp S1 4 q17.2) fun S17 => if q17.1 = 0 then (some ((0 : Int32), S17)) else (nm ((S17 4).1 4) fun v29 => nm (sUp S17 4 (sSs (S17 4) 4 (100 : Int32))) fun S33 => (fX2_isWord (S33 4) 10).bind fun q39 => nm (fun (S_58 : sWo) => sK58 a2 v29 S_58) fun k58 => if q39 = 0 then (k58 S33) else ((fX2_readNumberBehind (S33 4) (0 : Int32) (999 : Int32)).bind fun q50 => nm (sUp S33 4 q50.2) fun S50 => if q50.1 = 0 then (some ((0 : Int32), S50)) else (k58 S50)))) := rfl
