/-! PURE: image, undo, tear, wipe, feed -/
theorem m_255 : ∀ j, j < 32 → (255#32).getLsbD j = decide (j < 8) := by decide +kernel
theorem by_255k (a : BitVec 32) (k : Nat) (hk : k ≤ 24) : (((a >>> k).setWidth 8).signExtend 32) &&& 255#32 = (a.sshiftRight k) &&& 255#32 := by
  apply BitVec.eq_of_getLsbD_eq
  intro j hj
  rw [BitVec.getLsbD_and, BitVec.getLsbD_and, m_255 j hj]
  by_cases q : j < 8
  · rw [BitVec.getLsbD_signExtend, BitVec.getLsbD_sshiftRight, BitVec.getLsbD_setWidth, BitVec.getLsbD_ushiftRight, if_pos q, if_pos (show k + j < 32 by omega)]
    simp [q, hj]
  · simp [q]
theorem by_u (a : Int32) : ∀ i, i < 4 → (a.toUInt32 >>> (((8 : Int32) * nI i).toUInt32 &&& Int32.toUInt32 31)).toInt32.toBitVec = a.toBitVec >>> (8 * i) := by
  intro i hi
  rcases (by omega : i = 0 ∨ i = 1 ∨ i = 2 ∨ i = 3) with rfl | rfl | rfl | rfl
  all_goals rfl
theorem by_s (a : Int32) : ∀ i, i < 4 → (a >>> (((8 : Int32) * nI i) &&& 31)).toBitVec = a.toBitVec.sshiftRight (8 * i) := by
  intro i hi
  rcases (by omega : i = 0 ∨ i = 1 ∨ i = 2 ∨ i = 3) with rfl | rfl | rfl | rfl
  all_goals rfl
theorem by_255 (a : Int32) {i : Nat} (hi : i < 4) : (vp_nar .byte (a.toUInt32 >>> (((8 : Int32) * nI i).toUInt32 &&& Int32.toUInt32 31)).toInt32.toInt8.toInt32) &&& 255 = (a >>> (((8 : Int32) * nI i) &&& 31)) &&& 255 := by
  rw [pk_vb]
  apply Int32.toBitVec_inj.mp
  rw [Int32.toBitVec_and, Int32.toBitVec_and, by_s a i hi]
  have e : ((a.toUInt32 >>> (((8 : Int32) * nI i).toUInt32 &&& Int32.toUInt32 31)).toInt32.toInt8.toInt32).toBitVec = ((a.toUInt32 >>> (((8 : Int32) * nI i).toUInt32 &&& Int32.toUInt32 31)).toInt32.toBitVec.signExtend 8).signExtend 32 := rfl
  rw [e, by_u a i hi, BitVec.signExtend_eq_setWidth_of_le _ (show 8 ≤ 32 by omega)]
  exact by_255k a.toBitVec (8 * i) (by omega)
theorem RF_s {s s' : Nat → Int32} {T : sOb} (hr : RF s T) (h : ∀ j, j < 77 → s' j = s j) : RF s' T := by
  obtain ⟨a0, a1, a2, a3, a4, a5⟩ := hr
  exact ⟨by rw [h 0 (by omega)]; exact a0, by rw [h 1 (by omega)]; exact a1, by rw [h 2 (by omega)]; exact a2, by rw [h 3 (by omega)]; exact a3, by rw [h 4 (by omega)]; exact a4, fun r hr k hk => by rw [h _ (by omega)]; exact a5 r hr k hk⟩
theorem q_image (M : sOb) : ∃ M', fX5_image M = some (1, M') ∧ (∀ j, j < 77 → M'.2.1 1 j = M.2.1 0 j) ∧ (∀ k, k ≠ 1 → M'.2.1 k = M.2.1 k) ∧ M'.1 0 = 1 ∧ M'.1 1 = M.1 1 ∧ M'.2.2 = M.2.2 := by
  have key : ∀ d i n : Nat, i + d = 77 → d < n → ∀ M1 : sOb, (∀ j, j < i → M1.2.1 1 j = M.2.1 0 j) → (∀ k, k ≠ 1 → M1.2.1 k = M.2.1 k) → M1.1 = M.1 → M1.2.2 = M.2.2 → ∃ M', fx2 bX5_image_2 n (nI i) M1 = some (1, M') ∧ (∀ j, j < 77 → M'.2.1 1 j = M.2.1 0 j) ∧ (∀ k, k ≠ 1 → M'.2.1 k = M.2.1 k) ∧ M'.1 0 = 1 ∧ M'.1 1 = M.1 1 ∧ M'.2.2 = M.2.2 := by
    intro d
    induction d with
    | zero =>
      intro i n hi hn M1 h1 h2 h3 h4
      obtain ⟨m, rfl⟩ : ∃ m, n = m + 1 := ⟨n - 1, by omega⟩
      obtain rfl : i = 77 := by omega
      refine ⟨sSs M1 0 1, ?_, h1, h2, rfl, by rw [← h3]; rfl, h4⟩
      show bX5_image_2 _ _ _ = _
      unfold bX5_image_2
      rw [if_pos (show (77 : Int32) ≤ nI 77 from Int32.le_refl _), nm_d]
    | succ d ih =>
      intro i n hi hn M1 h1 h2 h3 h4
      obtain ⟨m, rfl⟩ : ∃ m, n = m + 1 := ⟨n - 1, by omega⟩
      obtain ⟨M', a1, a2⟩ := ih (i + 1) m (by omega) (by omega) (sSa M1 1 i (M1.2.1 0 i)) (fun j hj => by
        rw [sSa_at]
        by_cases q : j = i
        · rw [if_pos ⟨rfl, q⟩, h2 0 (by decide), q]
        · rw [if_neg (fun z => q z.2)]
          exact h1 j (by omega)) (fun k hk => by rw [sSa_other hk]; exact h2 k hk) h3 h4
      refine ⟨M', ?_, a2⟩
      rw [nI_succ] at a1
      show bX5_image_2 (fx2 bX5_image_2 m) _ _ = _
      generalize fx2 bX5_image_2 m = rc at a1 ⊢
      unfold bX5_image_2
      rw [if_neg (show ¬ (77 : Int32) ≤ nI i from nI_ge (b := 77) (by omega) (by omega)), if_neg (ix_in (show i < 77 by omega) (by omega)), z_cl (by omega), nm_d, nm_d]
      exact a1
  exact key 77 0 FU (by omega) (by unfold FU; omega) M (fun j hj => absurd hj (Nat.not_lt_zero j)) (fun _ _ => rfl) rfl rfl
theorem op_image {S : sWo} {M : sOb} {n : Nat} (h : Rel S M n) (hn : n < 512) : Ok (fX4_image S) (fX5_image M) (n + 1) := by
  obtain ⟨M', a1, a2, a3, a4, a5, a6⟩ := q_image M
  obtain ⟨⟨c, h1⟩, h2, ⟨h3, h4⟩, ⟨h5, h5'⟩, ⟨z, h6, h7, h8, h9⟩, h10⟩ := h.mono (show n ≤ n + 1 by omega) (by omega)
  unfold fX4_image
  rw [p_takeOver, b_some, nm_d, nm_d, a1]
  have e0 : sUp (sUp S 3 (gTO (S 3) (S 1))) 0 (sSs (sUp S 3 (gTO (S 3) (S 1)) 0) 0 1) 0 = sSs (S 0) 0 1 := by rw [sUp_s, sUp_n (show 0 ≠ 3 by decide)]
  have e3 : sUp (sUp S 3 (gTO (S 3) (S 1))) 0 (sSs (sUp S 3 (gTO (S 3) (S 1)) 0) 0 1) 3 = gTO (S 3) (S 1) := by rw [sUp_n (show 3 ≠ 0 by decide), sUp_s]
  have eo : ∀ o, o ≠ 0 → o ≠ 3 → sUp (sUp S 3 (gTO (S 3) (S 1))) 0 (sSs (sUp S 3 (gTO (S 3) (S 1)) 0) 0 1) o = S o := fun o ho h3 => by rw [sUp_n ho, sUp_n h3]
  generalize sUp (sUp S 3 (gTO (S 3) (S 1))) 0 (sSs (sUp S 3 (gTO (S 3) (S 1)) 0) 0 1) = S' at e0 e3 eo ⊢
  refine ⟨_, _, _, rfl, rfl, ⟨c, by rw [eo 1 (by decide) (by decide)]; exact h1⟩, by rw [eo 1 (by decide) (by decide), a3 0 (by decide)]; exact h2, ⟨by rw [e0, a4]; rfl, Or.inr ⟨by rw [e0]; rfl, ⟨c, by rw [e3]; exact Inv_TO h1⟩, by rw [e3]; exact RF_TO (RF_s h2 a2)⟩⟩, ⟨fun j hj => by rw [a3 3 (by decide), e0]; exact h5 j hj, by rw [a3 3 (by decide), e0]; exact h5'⟩, ⟨z, h6, by rw [eo 4 (by decide) (by decide)]; exact h7, by rw [a5]; exact h8, fun i hi => by rw [a3 4 (by decide), eo 4 (by decide) (by decide)]; exact h9 i hi⟩, fun j hj => ?_⟩
  rw [eo (5 + j) (by omega) (by omega)]
  unfold RelS
  rw [a3 5 (by decide), a3 6 (by decide), a6]
  exact h10 j hj
theorem q_undo (M : sOb) : ∃ M', fx2 bX5_undo_16 FU 0 M = some (M'.2.1 0 0, M') ∧ (∀ j, j < 77 → M'.2.1 0 j = M.2.1 1 j) ∧ Fm M M' := by
  have key : ∀ d i n : Nat, i + d = 77 → d < n → ∀ M1 : sOb, (∀ j, j < i → M1.2.1 0 j = M.2.1 1 j) → Fm M M1 → ∃ M', fx2 bX5_undo_16 n (nI i) M1 = some (M'.2.1 0 0, M') ∧ (∀ j, j < 77 → M'.2.1 0 j = M.2.1 1 j) ∧ Fm M M' := by
    intro d
    induction d with
    | zero =>
      intro i n hi hn M1 h1 h2
      obtain ⟨m, rfl⟩ : ∃ m, n = m + 1 := ⟨n - 1, by omega⟩
      obtain rfl : i = 77 := by omega
      refine ⟨M1, ?_, h1, h2⟩
      show bX5_undo_16 _ _ _ = _
      unfold bX5_undo_16
      rw [if_pos (show (77 : Int32) ≤ nI 77 from Int32.le_refl _), cl_0]
    | succ d ih =>
      intro i n hi hn M1 h1 h2
      obtain ⟨m, rfl⟩ : ∃ m, n = m + 1 := ⟨n - 1, by omega⟩
      obtain ⟨M', a1, a2⟩ := ih (i + 1) m (by omega) (by omega) (sSa M1 0 i (M1.2.1 1 i)) (fun j hj => by
        rw [sSa_at]
        by_cases q : j = i
        · rw [if_pos ⟨rfl, q⟩, h2.2.1 1 (by decide) (by decide), q]
        · rw [if_neg (fun z => q z.2)]
          exact h1 j (by omega)) (h2.tr (Fm.a0 _ _ _))
      refine ⟨M', ?_, a2⟩
      rw [nI_succ] at a1
      show bX5_undo_16 (fx2 bX5_undo_16 m) _ _ = _
      generalize fx2 bX5_undo_16 m = rc at a1 ⊢
      unfold bX5_undo_16
      rw [if_neg (show ¬ (77 : Int32) ≤ nI i from nI_ge (b := 77) (by omega) (by omega)), if_neg (ix_in (show i < 77 by omega) (by omega)), z_cl (by omega), nm_d, nm_d]
      exact a1
  exact key 77 0 FU (by omega) (by unfold FU; omega) M (fun j hj => absurd hj (Nat.not_lt_zero j)) (Fm.rf M)
theorem op_undo {S : sWo} {M : sOb} {n : Nat} (h : Rel S M n) (hn : n < 512) : Ok (fX4_undo S) (fX5_undo M) (n + 1) := by
  obtain ⟨h3, h4⟩ := h.2.2.1
  unfold fX4_undo fX5_undo
  rw [b_eta, b_eta, ← h3]
  rcases h4 with q | ⟨q, ⟨c, hI⟩, hR⟩
  · rw [if_pos q, if_pos q]
    exact ok_found h (by omega) (by omega) 3 (by omega) (-1000000004) fd3
  · rw [if_neg (show ¬ (S 0).1 0 = 0 by rw [q]; decide), if_neg (show ¬ (S 0).1 0 = 0 by rw [q]; decide), p_takeOver, b_some, nm_d, sUp_s]
    obtain ⟨M', a1, a2, a3⟩ := q_undo M
    have hR' : RF (M'.2.1 0) (gTO (S 1) (S 3)) := RF_TO (RF_s hR a2)
    rw [a1]
    exact ⟨_, _, _, rfl, by rw [hR'.1], h.track (m := n + 1) (by omega) (by omega) a3 (Inv_mono (Inv_TO hI) (nI_le (by omega) (by omega))) hR'⟩
/-- only the class's own numbers and the reference's become others -/
theorem op_tear {S : sWo} {M : sOb} {n : Nat} (h : Rel S M n) (hn : n < 512) : Ok (fX4_tear S) (fX5_tear M) (n + 1) := by
  obtain ⟨⟨c, h1⟩, h2, ⟨h3, h4⟩, ⟨h5, h5'⟩, ⟨z, h6, h7, h8, h9⟩, h10⟩ := h.mono (show n ≤ n + 1 by omega) (by omega)
  have hR : Rel (sUp S 0 (sSs (S 0) 0 0)) (sSs M 0 0) (n + 1) := by
    have e0 : sUp S 0 (sSs (S 0) 0 0) 0 = sSs (S 0) 0 0 := sUp_s _ _ _
    have eo : ∀ o, o ≠ 0 → sUp S 0 (sSs (S 0) 0 0) o = S o := fun o ho => sUp_n ho
    generalize sUp S 0 (sSs (S 0) 0 0) = S' at e0 eo ⊢
    refine ⟨⟨c, by rw [eo 1 (by decide)]; exact h1⟩, by rw [eo 1 (by decide)]; exact h2, ⟨by rw [e0]; rfl, Or.inl (by rw [e0]; rfl)⟩, ⟨fun j hj => by rw [e0]; exact h5 j hj, by rw [e0]; exact h5'⟩, ⟨z, h6, by rw [eo 4 (by decide)]; exact h7, h8, fun i hi => by rw [eo 4 (by decide)]; exact h9 i hi⟩, fun j hj => ?_⟩
    rw [eo (5 + j) (by omega)]
    exact h10 j hj
  unfold fX4_tear fX5_tear
  rw [nm_d, nm_d, nm_d, nm_d, ← h3]
  by_cases q : (S 0).1 0 = 0
  · rw [if_pos q, if_pos q]
    exact ⟨_, _, _, rfl, rfl, hR⟩
  · rw [if_neg q, if_neg q]
    exact ⟨_, _, _, rfl, rfl, hR⟩
/-- the tape becomes another -/
theorem Rel.tape {S : sWo} {M P M' : sOb} {n m : Nat} (h : Rel S M n) (hn : n ≤ m) (hm : m ≤ 600) (h0 : M'.1 0 = M.1 0) (hM : ∀ k, k ≠ 4 → M'.2.1 k = M.2.1 k) (hL : M'.2.2 = M.2.2) (z : Nat) (hz : z ≤ 120) (hP : P.1 0 = nI z) (hP' : M'.1 1 = nI z) (hb : ∀ i, i < z → M'.2.1 4 i = P.2.1 0 i &&& 255) : Rel (sUp S 4 P) M' m := by
  obtain ⟨⟨c, h1⟩, h2, ⟨h3, h4⟩, ⟨h5, h5'⟩, -, h10⟩ := h.mono hn hm
  have e4 : sUp S 4 P 4 = P := sUp_s _ _ _
  have eo : ∀ o, o ≠ 4 → sUp S 4 P o = S o := fun o ho => sUp_n ho
  generalize sUp S 4 P = S' at e4 eo ⊢
  refine ⟨⟨c, by rw [eo 1 (by decide)]; exact h1⟩, by rw [eo 1 (by decide), hM 0 (by decide)]; exact h2, ⟨by rw [eo 0 (by decide), h0]; exact h3, ?_⟩, ⟨fun j hj => by rw [eo 0 (by decide), hM 3 (by decide)]; exact h5 j hj, by rw [eo 0 (by decide), hM 3 (by decide)]; exact h5'⟩, ⟨z, hz, by rw [e4]; exact hP, hP', fun i hi => by rw [e4]; exact hb i hi⟩, fun j hj => ?_⟩
  · rw [eo 0 (by decide), eo 3 (by decide), hM 1 (by decide)]
    exact h4
  · rw [eo (5 + j) (by omega)]
    unfold RelS
    rw [hM 5 (by decide), hM 6 (by decide), hL]
    exact h10 j hj
theorem op_wipe {S : sWo} {M : sOb} {n : Nat} (h : Rel S M n) (hn : n < 512) : Ok (fX4_wipe S) (fX5_wipe M) (n + 1) := by
  obtain ⟨z, h6, h7, h8, h9⟩ := h.2.2.2.2.1
  unfold fX4_wipe fX5_wipe fX2_empty
  rw [nm_d, nm_d, b_some, nm_d, nm_d, nm_d, h7, h8]
  exact ⟨_, _, _, rfl, rfl, h.tape (by omega) (by omega) rfl (fun _ _ => rfl) rfl 0 (by omega) rfl rfl (fun i hi => absurd hi (Nat.not_lt_zero i))⟩
theorem lp_feed {n : Nat} (hn : n < 512) (a : Int32) : ∀ d m : Nat, d ≤ 4 → d < m → ∀ (S : sWo) (M : sOb) (z : Nat), Rel S M n → (S 4).1 0 = nI z → z + d ≤ 120 → Ok (fx2 (bX4_feed_42 a) m (nI d - 1) S) (fx2 (bX5_feed_41 a) m (nI d - 1) M) (n + 1) := by
  intro d
  induction d with
  | zero =>
    intro m hd hm S M z h hz hzd
    obtain ⟨f, rfl⟩ : ∃ f, m = f + 1 := ⟨m - 1, by omega⟩
    obtain ⟨z', h6, h7, h8, h9⟩ := h.2.2.2.2.1
    show Ok (bX4_feed_42 _ _ _ _) (bX5_feed_41 _ _ _ _) _
    unfold bX4_feed_42 bX5_feed_41
    rw [if_pos (show nI 0 - 1 < 0 by decide), if_pos (show nI 0 - 1 < 0 by decide), h7, h8]
    exact ⟨_, _, _, rfl, rfl, h.mono (by omega) (by omega)⟩
  | succ d ih =>
    intro m hd hm S M z h hz hzd
    obtain ⟨f, rfl⟩ : ∃ f, m = f + 1 := ⟨m - 1, by omega⟩
    obtain ⟨z', h6, h7, h8, h9⟩ := h.2.2.2.2.1
    obtain rfl : z' = z := (nI_eq (by omega) (by omega)).mp (h7.symm.trans hz)
    have ed : nI (d + 1) - 1 = nI d := pk_sub (a := d + 1) (b := 1) (by omega)
    have hR : Rel (sUp S 4 (sSs (sSa (S 4) 0 z' (vp_nar .byte (a.toUInt32 >>> (((8 : Int32) * nI d).toUInt32 &&& Int32.toUInt32 31)).toInt32.toInt8.toInt32)) 0 (nI z' + 1))) (sSs (sSa M 4 z' ((a >>> (((8 : Int32) * nI d) &&& 31)) &&& 255)) 1 (nI z' + 1)) n := by
      refine h.tape (Nat.le_refl n) (by omega) rfl (fun k hk => sSa_other hk) rfl (z' + 1) (by omega) (nI_succ z').symm (nI_succ z').symm (fun i hi => ?_)
      show (sSa M 4 z' _).2.1 4 i = (sSa (S 4) 0 z' _).2.1 0 i &&& 255
      rw [sSa_at, sSa_at]
      by_cases q : i = z'
      · rw [if_pos ⟨rfl, q⟩, if_pos ⟨rfl, q⟩, by_255 a (by omega)]
      · rw [if_neg (fun y => q y.2), if_neg (fun y => q y.2)]
        exact h9 i (by omega)
    have IH := ih f (by omega) (by omega) _ _ (z' + 1) hR (by rw [sUp_s]; exact (nI_succ z').symm) (by omega)
    show Ok (bX4_feed_42 _ (fx2 (bX4_feed_42 a) f) _ _) (bX5_feed_41 _ (fx2 (bX5_feed_41 a) f) _ _) _
    generalize fx2 (bX4_feed_42 a) f = rc at IH ⊢
    generalize fx2 (bX5_feed_41 a) f = rm at IH ⊢
    unfold bX4_feed_42 bX5_feed_41 fX2_add
    rw [ed, if_neg (nI_pos (n := d) (by omega)), if_neg (nI_pos (n := d) (by omega)), h7, h8, if_neg (nI_pos (n := z') (by omega)), if_neg (show ¬ (120 : Int32) ≤ nI z' from nI_ge (b := 120) (by omega) (by omega)), if_neg (ix_in (show z' < 120 by omega) (by omega)), if_neg (ix_in (show z' < 120 by omega) (by omega)), z_cl (show z' < 2147483648 by omega)]
    simp only [nm_x, b_so]
    rw [show nI d + (-1 : Int32) = nI d - 1 by generalize nI d = y; grind]
    show Ok (rc (nI d - 1) (sUp S 4 (sSs (sSa (S 4) 0 z' _) 0 ((S 4).1 0 + 1)))) (rm (nI d - 1) (sSs (sSa M 4 z' _) 1 (M.1 1 + 1))) _
    rw [h7, h8]
    exact IH
theorem op_feed {S : sWo} {M : sOb} {n : Nat} (h : Rel S M n) (hn : n < 512) (a b : Int32) : Ok (fX4_feed S a b) (fX5_feed M a b) (n + 1) := by
  have hB := ok_found h (show n ≤ n + 1 by omega) (by omega) 0 (by omega) (-1000000001) fd0
  have hB1 := ok_found h (show n ≤ n + 1 by omega) (by omega) 1 (by omega) (-1000000002) fd1
  obtain ⟨z, h6, h7, h8, h9⟩ := h.2.2.2.2.1
  unfold fX4_feed fX5_feed
  rw [b_eta, b_eta, b_eta, b_eta, p_in b 1 4 (b' := 1) (c' := 4) rfl rfl, b_some, bi, h7, h8]
  by_cases e2 : 1 ≤ b ∧ b ≤ 4
  · obtain ⟨k, hk, rfl⟩ := nI_ex (x := b) (c := 5) (by omega) (by clear hB hB1; grind) (show b < nI 5 by show b < (5 : Int32); clear hB hB1; grind)
    rw [if_neg (show ¬ nI k < 1 from Int32.not_lt.mpr e2.1), if_pos e2.2, if_pos e2, nI_add, nm_d, nm_d]
    by_cases q : z + k ≤ 120
    · rw [if_pos (show nI (z + k) ≤ 120 from nI_le (b := 120) q (by omega)), if_pos (show nI (z + k) ≤ 120 from nI_le (b := 120) q (by omega))]
      exact lp_feed hn a k FU (by omega) (by unfold FU; omega) S M z h h7 q
    · rw [if_neg (show ¬ nI (z + k) ≤ 120 from nI_ge (a := 120) (by omega) (by omega)), if_neg (show ¬ nI (z + k) ≤ 120 from nI_ge (a := 120) (by omega) (by omega))]
      exact hB1
  · rw [if_neg e2]
    by_cases e3 : b < 1
    · rw [if_pos e3]
      exact hB
    · rw [if_neg e3, if_neg (show ¬ b ≤ 4 by clear hB hB1; grind)]
      exact hB
