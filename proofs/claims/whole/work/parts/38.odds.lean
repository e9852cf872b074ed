/-! PURE: odds, unwilling -/
theorem p_12 (v : Int32) : ∃ z, z < 12 ∧ (v.toUInt32 >>> ((8 : Int32).toUInt32 &&& Int32.toUInt32 31)).toInt32 - (v.toUInt32 >>> ((8 : Int32).toUInt32 &&& Int32.toUInt32 31)).toInt32 / (12 : Int32) * (12 : Int32) = nI z := by
  have hv : v = nI v.toBitVec.toNat := by
    apply Int32.toBitVec_inj.mp
    apply BitVec.eq_of_toNat_eq
    rw [pk_tn v.toBitVec.isLt]
  have hn := v.toBitVec.isLt
  generalize v.toBitVec.toNat = n at hv hn
  subst hv
  rw [pk_ushrN hn 8 8 (by decide)]
  refine ⟨n / 2 ^ 8 % 12, Nat.mod_lt _ (by omega), ?_⟩
  exact pk_rem (a := n / 2 ^ 8) (d := 12) (by omega) (by omega) (by omega)
theorem p_pc {z : Nat} (h : z < 12) : nI z + 1 = nI (z + 1) ∧ 1 + nI z = nI (z + 1) ∧ 1 ≤ nI (z + 1) ∧ nI (z + 1) ≤ 12 := ⟨(nI_succ z).symm, by rw [Int32.add_comm]; exact (nI_succ z).symm, nI_le (a := 1) (by omega) (by omega), nI_le (b := 12) (by omega) (by omega)⟩
theorem lp_draw {c : Nat} {B : Int32} (kc : Int32 → sWo → Option (Int32 × sWo)) (km : Int32 → sOb → Option (Int32 × sOb)) : ∀ d i m : Nat, i + d = c → d < m → ∀ (S : sWo) (M : sOb) (x : Int32), Inv (S 2) c B → RF (M.2.1 0) (S 2) → ∃ x' S' M', fx3 (bX4_odds_53 kc) m x (nI i) S = kc x' S' ∧ fx3 (bX5_odds_49 km) m x (nI i) M = km x' M' ∧ Inv (S' 2) c B ∧ RF (M'.2.1 0) (S' 2) ∧ (∀ o, o ≠ 2 → S' o = S o) ∧ Fm M M' := by
  intro d
  induction d with
  | zero =>
    intro i m hi hm S M x hI hR
    obtain ⟨f, rfl⟩ : ∃ f, m = f + 1 := ⟨m - 1, by omega⟩
    obtain rfl : i = c := by omega
    refine ⟨x, S, M, ?_, ?_, hI, hR, fun _ _ => rfl, Fm.rf M⟩
    · show bX4_odds_53 _ _ _ _ _ = _
      unfold bX4_odds_53
      rw [hI.2.1, if_pos (Int32.le_refl _)]
    · show bX5_odds_49 _ _ _ _ _ = _
      unfold bX5_odds_49
      rw [cl_0, hR.1, hI.2.1, if_pos (Int32.le_refl _)]
  | succ d ih =>
    intro i m hi hm S M x hI hR
    obtain ⟨f, rfl⟩ : ∃ f, m = f + 1 := ⟨m - 1, by omega⟩
    have hc := hI.1
    have hi9 : i < 9 := by omega
    obtain ⟨z, hz, e⟩ := p_12 (x * 1103515245 + 12345)
    obtain ⟨e1, e2, e3⟩ := p_pc hz
    have hI1 := Inv_set hI (show i < c by omega) (show 1 < 5 by omega) (IR_1 (hI.2.2.2.2.2.2.2 i (by omega)) e3)
    have IH := ih (i + 1) f (by omega) (by omega) (sUp S 2 (sSa (S 2) 1 i (nI (z + 1)))) (sSa M 0 (5 + 8 * i + 1) (nI (z + 1))) (x * 1103515245 + 12345) (by rw [sUp_s]; exact hI1) (by rw [sUp_s, sSa_same]; exact hR.put hi9 (by omega) _)
    rw [nI_succ] at IH
    show ∃ x' S' M', bX4_odds_53 _ (fx3 (bX4_odds_53 kc) f) _ _ _ = _ ∧ bX5_odds_49 _ (fx3 (bX5_odds_49 km) f) _ _ _ = _ ∧ _
    generalize fx3 (bX4_odds_53 kc) f = rc at IH ⊢
    generalize fx3 (bX5_odds_49 km) f = rm at IH ⊢
    unfold bX4_odds_53 bX5_odds_49
    rw [hI.2.1, cl_0, hR.1, hI.2.1, if_neg (nI_ge (by omega) (by omega)), if_neg (nI_ge (by omega) (by omega))]
    simp only [nm_x]
    rw [if_neg (ix_in hi9 (by omega)), z_cl (show i < 2147483648 by omega), e, e1, e2, q_puts hi9 1 (by omega) (v := 1) rfl, b_some]
    obtain ⟨x', S', M', a1, a2, a3, a4, a5, a6⟩ := IH
    exact ⟨x', S', M', a1, a2, a3, a4, fun o ho => (a5 o ho).trans (sUp_n ho), (Fm.a0 M _ _).tr a6⟩
theorem lp_odds {n c k : Nat} {a : Int32} (hn : n < 512) (hk : k ≤ 20) : ∀ d i m : Nat, i + d = k → d < m → ∀ (S : sWo) (M : sOb) (x y : Int32), Rel S M n → Inv (S 1) c (nI (600 * n)) → (∀ j, j < 77 → M.2.1 2 j = M.2.1 0 j) → Ok (fx4 (bX4_odds_38 a (nI k)) m x y (nI i) S) (fx4 (bX5_odds_40 a (nI k)) m x y (nI i) M) (n + 1) := by
  intro d
  induction d with
  | zero =>
    intro i m hi hm S M x y h hI h2
    obtain ⟨f, rfl⟩ : ∃ f, m = f + 1 := ⟨m - 1, by omega⟩
    obtain rfl : i = k := by omega
    show Ok (bX4_odds_38 _ _ _ _ _ _ _) (bX5_odds_40 _ _ _ _ _ _ _) _
    unfold bX4_odds_38 bX5_odds_40
    rw [if_pos (Int32.le_refl _), if_pos (Int32.le_refl _)]
    exact ⟨_, _, _, rfl, rfl, h.mono (by omega) (by omega)⟩
  | succ d ih =>
    intro i m hi hm S M x y h hI h2
    obtain ⟨f, rfl⟩ : ∃ f, m = f + 1 := ⟨m - 1, by omega⟩
    have hc := hI.1
    have hIT : Inv ((sUp S 2 (gTO (S 2) (S 1))) 2) c (nI (600 * n)) := by rw [sUp_s]; exact Inv_TO hI
    have hR1 : RF (M.2.1 0) ((sUp S 2 (gTO (S 2) (S 1))) 2) := by rw [sUp_s]; exact RF_TO h.2.1
    have IH : ∀ (S : sWo) (M : sOb) (x y : Int32), Rel S M n → Inv (S 1) c (nI (600 * n)) → (∀ j, j < 77 → M.2.1 2 j = M.2.1 0 j) → Ok (fx4 (bX4_odds_38 a (nI k)) f x y (nI i + 1) S) (fx4 (bX5_odds_40 a (nI k)) f x y (nI i + 1) M) (n + 1) := by
      intro S M x y h hI h2
      have := ih (i + 1) f (by omega) (by omega) S M x y h hI h2
      rw [nI_succ] at this
      exact this
    show Ok (bX4_odds_38 _ _ (fx4 (bX4_odds_38 a (nI k)) f) _ _ _ _) (bX5_odds_40 _ _ (fx4 (bX5_odds_40 a (nI k)) f) _ _ _ _) _
    generalize fx4 (bX4_odds_38 a (nI k)) f = rc at IH ⊢
    generalize fx4 (bX5_odds_40 a (nI k)) f = rm at IH ⊢
    unfold bX4_odds_38 bX5_odds_40
    rw [if_neg (nI_ge (by omega) (by omega)), if_neg (nI_ge (by omega) (by omega)), p_tryOut, b_some, nm_d, nm_d]
    obtain ⟨x', S', M', a1, a2, a3, a4, a5, a6⟩ := lp_draw (c := c) (B := nI (600 * n)) (fun (x4_98 : Int32) (S_98 : sWo) => (fX3_raceOwner (S_98 2)).bind fun q100 => nm (sUp S_98 2 q100.2) fun S100 => if q100.1 = a then (nm (y + (1 : Int32)) fun v107 => nm (nI i + (1 : Int32)) fun v110 => rc x4_98 v107 v110 S100) else (nm (nI i + (1 : Int32)) fun v110 => rc x4_98 y v110 S100)) (fun (x4_94 : Int32) (T_94 : sOb) => (fX5_races T_94).bind fun q97 => nm (fun (y0_109 : Int32) => nm (y + y0_109) fun v110 => (fX5_laysBack q97.2).bind fun q113 => nm (nI i + (1 : Int32)) fun v116 => rm x4_94 v110 v116 q113) fun k109 => if q97.1 = a then (k109 (1 : Int32)) else (k109 (0 : Int32))) c 0 FU (by omega) (by unfold FU; omega) (sUp S 2 (gTO (S 2) (S 1))) M x hIT hR1
    rw [show nI 0 = (0 : Int32) from rfl] at a1 a2
    rw [a1, a2]
    obtain ⟨M2, b1, b2⟩ := q_race a3 a4
    obtain ⟨M3, d1, d2, d3, d4, d5⟩ := q_laysBack M2
    have hF := a6.tr b2
    have e0 : ∀ j, j < 77 → M3.2.1 0 j = M.2.1 0 j := fun j hj => by rw [d2 j hj, hF.2.1 2 (by decide) (by decide), h2 j hj]
    have hq : Fq M M3 := ⟨d4.trans hF.1, fun k h0 _ h7 => (d3 k h0).trans (hF.2.1 k h0 h7), d5.trans hF.2.2, e0⟩
    have h3 : ∀ j, j < 77 → M3.2.1 2 j = M3.2.1 0 j := fun j hj => by rw [e0 j hj, d3 2 (by decide), hF.2.1 2 (by decide) (by decide), h2 j hj]
    have hS : ∀ o, o ≠ 2 → sUp S' 2 (gRE (S' 2) c) o = S o := fun o ho => by rw [sUp_n ho, a5 o ho, sUp_n ho]
    have h' := h.trial hS hq
    have hI' : Inv ((sUp S' 2 (gRE (S' 2) c)) 1) c (nI (600 * n)) := by rw [hS 1 (by decide)]; exact hI
    rw [p_race a3, b_some, b1, b_some]
    simp only [nm_x]
    rw [d1]
    simp only [b_so]
    by_cases q : gRa (S' 2) c = a
    · rw [if_pos q, if_pos q]
      exact IH _ _ _ _ h' hI' h3
    · rw [if_neg q, if_neg q, Int32.add_zero]
      exact IH _ _ _ _ h' hI' h3
theorem op_odds {S : sWo} {M : sOb} {n : Nat} (h : Rel S M n) (hn : n < 512) (a b d : Int32) : Ok (fX4_odds S a b d) (fX5_odds M a b d) (n + 1) := by
  have hB := ok_found h (show n ≤ n + 1 by omega) (by omega) 0 (by omega) (-1000000001) fd0
  obtain ⟨c, hI⟩ := h.1
  have hR := h.2.1
  have hc := hI.1
  unfold fX4_odds fX5_odds
  rw [p_has hI.1 hI.2.1, q_isRunner (hR.1.trans hI.2.1), b_some, b_some, bi, bi, b_eta, b_eta, p_in b 1 20 (b' := 1) (c' := 20) rfl rfl, b_some, bi]
  by_cases e : 0 ≤ a ∧ a < nI c
  · rw [if_pos e, if_pos e]
    by_cases e2 : 1 ≤ b ∧ b ≤ 20
    · obtain ⟨k, hk, rfl⟩ := nI_ex (x := b) (c := 21) (by omega) (by clear hB e; grind) (show b < nI 21 by show b < (21 : Int32); clear hB e; grind)
      obtain ⟨M1, a1, a2, a3, a4, a5⟩ := q_laysBy M
      have hq : Fq M M1 := ⟨a4, fun k _ h2 _ => a3 k h2, a5, fun j _ => by rw [a3 0 (by decide)]⟩
      have h' := h.trial (S' := S) (fun _ _ => rfl) hq
      rw [if_neg (show ¬ nI k < 1 from Int32.not_lt.mpr e2.1), if_pos e2.2, if_pos e2, a1, b_some]
      have := lp_odds (c := c) (a := a) hn (show k ≤ 20 by omega) k 0 FU (by omega) (by unfold FU; omega) S M1 d 0 h' hI (fun j hj => by rw [a2 j hj, a3 0 (by decide)])
      rw [show nI 0 = (0 : Int32) from rfl] at this
      exact this
    · rw [if_neg e2]
      by_cases e3 : b < 1
      · rw [if_pos e3]
        exact hB
      · rw [if_neg e3, if_neg (show ¬ b ≤ 20 by clear hB e; grind)]
        exact hB
  · rw [if_neg e, if_neg e]
    exact hB
theorem lp_un {c : Nat} : ∀ d i m : Nat, i + d = 2000 → d < m → ∀ (S : sWo) (M M0 M00 : sOb) (b : Nat) (x : Int32), Inv (S 2) c (nI b) → b + d < 2000000000 → RF (M.2.1 0) (S 2) → Fm M0 M → (∀ M2, Fm M0 M2 → ∃ M3, fX5_laysBack M2 = some M3 ∧ Fq M00 M3) → ∃ y S' M', fx3 bX4_unwilling_13 m x (nI i) S = some (y, S') ∧ fx3 bX5_unwilling_12 m x (nI i) M = some (y, M') ∧ (∀ o, o ≠ 2 → S' o = S o) ∧ Fq M00 M' := by
  intro d
  induction d with
  | zero =>
    intro i m hi hm S M M0 M00 b x h hb hr hF hL
    obtain ⟨f, rfl⟩ : ∃ f, m = f + 1 := ⟨m - 1, by omega⟩
    obtain rfl : i = 2000 := by omega
    obtain ⟨M3, a1, a2⟩ := hL M hF
    refine ⟨x, S, M3, ?_, ?_, fun _ _ => rfl, a2⟩
    · show bX4_unwilling_13 _ _ _ _ = _
      unfold bX4_unwilling_13
      rw [if_pos (show (2000 : Int32) ≤ nI 2000 from nI_le (a := 2000) (by omega) (by omega))]
    · show bX5_unwilling_12 _ _ _ _ = _
      unfold bX5_unwilling_12
      rw [if_pos (show (2000 : Int32) ≤ nI 2000 from nI_le (a := 2000) (by omega) (by omega)), a1, b_some]
  | succ d ih =>
    intro i m hi hm S M M0 M00 b x h hb hr hF hL
    obtain ⟨f, rfl⟩ : ∃ f, m = f + 1 := ⟨m - 1, by omega⟩
    have hc := h.1
    have hle := gHC_le (S 2) c
    have hno : ¬ (2000 : Int32) ≤ nI i := Int32.not_le.mpr (nI_lt (b := 2000) (by omega) (by omega))
    by_cases q : gHC (S 2) c = c
    · obtain ⟨M3, a1, a2⟩ := hL M hF
      refine ⟨x, S, M3, ?_, ?_, fun _ _ => rfl, a2⟩
      · show bX4_unwilling_13 (fx3 bX4_unwilling_13 f) _ _ _ = _
        generalize fx3 bX4_unwilling_13 f = rc
        unfold bX4_unwilling_13
        rw [if_neg hno, p_allHome h, b_some, bi, if_pos q]
      · show bX5_unwilling_12 (fx3 bX5_unwilling_12 f) _ _ _ = _
        generalize fx3 bX5_unwilling_12 f = rm
        unfold bX5_unwilling_12
        rw [if_neg hno, q_homeMany hr h.1 h.2.1, b_some, cl_0, hr.1, h.2.1, q, if_pos (Int32.le_refl _), a1, b_some]
    · obtain ⟨M1, a1, a2, a3, a4⟩ := q_goesOn h hr q
      have et : gTick (S 2) c = gStep (S 2) c := by rw [gTick, if_neg q]
      have hI1 : Inv (gStep (S 2) c) c (nI (b + 1)) := by rw [← et]; exact Inv_tick h (by omega)
      have IH : ∀ x, ∃ y S' M', fx3 bX4_unwilling_13 f x (nI i + 1) (sUp S 2 (gStep (S 2) c)) = some (y, S') ∧ fx3 bX5_unwilling_12 f x (nI i + 1) M1 = some (y, M') ∧ (∀ o, o ≠ 2 → S' o = S o) ∧ Fq M00 M' := by
        intro x
        have := ih (i + 1) f (by omega) (by omega) (sUp S 2 (gStep (S 2) c)) M1 M0 M00 (b + 1) x (by rw [sUp_s]; exact hI1) (by omega) (by rw [sUp_s]; exact a2) (hF.tr a4) hL
        rw [nI_succ] at this
        obtain ⟨y, S', M', b1, b2, b3, b4⟩ := this
        exact ⟨y, S', M', b1, b2, fun o ho => (b3 o ho).trans (sUp_n ho), b4⟩
      show ∃ y S' M', bX4_unwilling_13 (fx3 bX4_unwilling_13 f) _ _ _ = _ ∧ bX5_unwilling_12 (fx3 bX5_unwilling_12 f) _ _ _ = _ ∧ _
      generalize fx3 bX4_unwilling_13 f = rc at IH ⊢
      generalize fx3 bX5_unwilling_12 f = rm at IH ⊢
      unfold bX4_unwilling_13 bX5_unwilling_12
      rw [if_neg hno, if_neg hno, p_allHome h, b_some, bi, if_neg q, q_homeMany hr h.1 h.2.1, b_some, cl_0, hr.1, h.2.1, if_neg (nI_ge (show gHC (S 2) c < c by omega) (by omega)), p_FA h.1 h.2.1, b_some, p_has h.1 h.2.1, b_some, q_FA hr h, b_some, p_second h.1 h.2.1 (Inv_f h), a1]
      simp only [nm_x, b_so, sUp_s, bi, Int32.or_zero, if_true]
      rcases gFA_n (T := S 2) c hc with z | ⟨r, hr', z⟩
      · rw [z, if_neg (show ¬ ((0 : Int32) ≤ -1 ∧ (-1 : Int32) < nI c) from fun y => absurd y.1 (by decide)), if_pos (show (-1 : Int32) < 0 by decide)]
        exact IH x
      · have h9 : r < 9 := by omega
        rw [z, if_pos (show 0 ≤ nI r ∧ nI r < nI c from ⟨nI_pos' (by omega), nI_lt hr' (by omega)⟩), if_neg (ix_in h9 (by omega)), if_neg (nI_pos (n := r) (by omega)), q_is hr h9 2 (by omega) (v := 2) rfl, b_some, q_is hr h9 1 (by omega) (v := 1) rfl, b_some, z_cl (show r < 2147483648 by omega)]
        by_cases y1 : (S 2).2.1 2 r < (S 2).2.1 1 r - 4
        · rw [if_pos y1, if_pos y1]
          exact IH x
        · rw [if_neg y1, if_neg y1, if_neg n10, if_neg n10, if_neg (ix_n h9 (show 9 < 2147483648 by omega)), if_neg (ix_n h9 (show 9 < 2147483648 by omega)), q_is a2 h9 1 (by omega) (v := 1) rfl, b_some, a3 r hr']
          by_cases y2 : (gStep (S 2) c).2.1 1 r ≤ (gStep (S 2) c).2.1 8 r
          · rw [if_pos y2, if_pos y2]
            exact IH x
          · rw [if_neg y2, if_neg y2]
            exact IH _
theorem op_unwilling {S : sWo} {M : sOb} {n : Nat} (h : Rel S M n) (hn : n < 512) : Ok (fX4_unwilling S) (fX5_unwilling M) (n + 1) := by
  obtain ⟨c, hI⟩ := h.1
  have hR := h.2.1
  have hIT : Inv (gTO (S 2) (S 1)) c (nI (600 * n)) := Inv_TO hI
  have hl := Inv_ln hIT
  obtain ⟨M1, a1, a2, -, a4⟩ := q_trial M
  have hR1 : RF (M1.2.1 0) (gTO (S 2) (S 1)) := by rw [a2]; exact RF_TO hR
  obtain ⟨M2, b1, b2, b3⟩ := q_lines hR1 hIT.1 hIT.2.1
  obtain ⟨y, S', M', c1, c2, c3, c4⟩ := lp_un (c := c) 2000 0 FU (by omega) (by unfold FU; omega) (sUp (sUp S 2 (gTO (S 2) (S 1))) 2 (gLn (gTO (S 2) (S 1)) c)) M2 M1 M 0 0 (by rw [sUp_s]; exact hl) (by omega) (by rw [sUp_s]; exact b2) b3 a4
  rw [show nI 0 = (0 : Int32) from rfl] at c1 c2
  unfold fX4_unwilling fX5_unwilling
  rw [p_tryOut, b_some, sUp_s, p_lineUp hIT.1 hIT.2.1, b_some, nm_d, c1, a1, b_some, b1, b_some, c2]
  exact ok_trial h hn (fun o ho => by rw [c3 o ho, sUp_n ho, sUp_n ho]) c4 rfl
