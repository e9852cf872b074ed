/-! PURE: an item of the text -/
theorem l_100 : (0 : Int32) ≤ 100 ∧ (100 : Int32) ≤ 999 := by decide
theorem rn_both {S0 S : sWo} {M0 M : sOb} {z lo c : Nat} {B a : Int32} (hc : c < 9) (hI : Inv (S 2) c B) (hR : RF (M.2.1 0) (S 2)) (hT : RelT (S 4) M z lo) (hE : RE S0 M0 S M) (hk : ¬ (S 4).1 1 = 0) (ha : 0 ≤ a ∧ a ≤ 5) : Out S0 M0 z (lo + 1) B (fX2_readRunner S a) (fX5_goesRunner M a) := by
  obtain ⟨T1, M1, a1, a2, a3, -, a5, -, a7, a8, a9, a10⟩ := nx hT hk
  have hE1 : RE S0 M0 (sUp S 4 T1) M1 := hE.tape ⟨a5, a7⟩ ⟨a8, a9, a10⟩
  rw [c_runner, m_runner, cl_0, hR.1, hI.2.1, if_neg (show ¬ nI c = 9 from nI_ne (b := 9) (by omega) (by omega) (by omega)), a1, b_some, a2, b_some, nm_d, sUp_s, p_word a3 (by omega), b_some, bi, ch4 a3 (w := 9) rfl rfl]
  by_cases w : gWb T1 M1 z 9 = true
  · rw [if_pos w, if_pos w]
    obtain ⟨M2, T2, b1, b2, b3, b4⟩ := rb a3 (gWb_k w) 1 12
    have hE2 : RE S0 M0 (sUp (sUp S 4 T1) 4 T2) M2 := hE1.tape (by rw [sUp_s]; exact b3) b2
    rcases b4 with ⟨d1, d2, d3⟩ | ⟨d1, d2, d3, d4, d5⟩
    · rw [d2, b_some, nm_d, if_pos rfl, b1, b_some, d1, b_some, if_pos rfl]
      exact ⟨_, _, Or.inl ⟨rfl, rfl, by rw [sUp_s]; exact d3.mono (by omega), hE2⟩⟩
    · have hR2 : RF (M2.2.1 0) (S 2) := by rw [b2.2.2, a10]; exact hR
      obtain ⟨M3, e1, e2, e3⟩ := q_comes hR2 hc hI.2.1 a (M2.1 5)
      obtain ⟨M4, f1, f2, f3⟩ := d5 M3 e3.1 (e3.2.1 4 (by decide) (by decide))
      rw [d2, b_some, nm_d, if_neg n10, nm_d, b1, b_some, d1, b_some, if_neg n10, e1, b_some]
      dsimp only
      rw [f1, b_some, sUp_s, d4, nm_d, sUp_s]
      have hT3 : RelT (sSs T2 4 100) M4 z (lo + 1 + 2) := f3.congr (fun j hj => sSs_n hj) rfl (fun _ => rfl) rfl
      rw [p_word hT3 (by omega), b_some, nm_d, bi, mc6 hT3 (w := 10) rfl rfl]
      have hE3 : RE S0 M0 (sUp (sUp (sUp S 4 T1) 4 T2) 4 (sSs T2 4 100)) M4 := (((hE2.model e3).next f2).tape (by rw [sUp_s]; exact FrT.s4 _ _) (FrN.rf M4))
      have s2 : sUp (sUp (sUp S 4 T1) 4 T2) 4 (sSs T2 4 100) 2 = S 2 := by rw [sUp_n (by decide), sUp_n (by decide), sUp_n (by decide)]
      have s4 : sUp (sUp (sUp S 4 T1) 4 T2) 4 (sSs T2 4 100) 4 = sSs T2 4 100 := sUp_s _ _ _
      generalize sUp (sUp (sUp S 4 T1) 4 T2) 4 (sSs T2 4 100) = S3 at hE3 s2 s4 ⊢
      have hRX : RF (M4.2.1 0) (gX (S 2) a (M2.1 5) 100 (-1) 0 c) := by rw [f2.2.2]; exact RF_X0 e2
      by_cases w2 : gWb (sSs T2 4 100) M4 z 10 = true
      · rw [if_pos w2, if_pos w2]
        obtain ⟨M5, T4, g1, g2, g3, g4⟩ := rb hT3 (gWb_k w2) 0 999
        have hE4 : RE S0 M0 (sUp S3 4 T4) M5 := hE3.tape (by rw [s4]; exact g3) g2
        unfold sM128
        rcases g4 with ⟨k1, k2, k3⟩ | ⟨k1, k2, k3, k4, k5⟩
        · rw [k2, b_some, nm_d, if_pos rfl, mayn g1 k1, b_some, nm_d]
          dsimp only
          rw [if_pos (show (-1 : Int32) ≤ 0 by decide), m154n]
          exact ⟨_, _, Or.inl ⟨rfl, rfl, by rw [sUp_s]; exact k3.mono (by omega), hE4⟩⟩
        · rw [k2, b_some, nm_d, if_neg n10, may1 g1 k1, b_some, nm_d]
          dsimp only
          rw [if_neg (show ¬ (1 : Int32) ≤ 0 by decide), q_puts hc 2 (by omega) (v := 2) rfl, b_some]
          obtain ⟨M6, m1, m2, m3⟩ := k5 (sSa M5 0 (5 + 8 * c + 2) (M5.1 5)) rfl (by rw [sSa_other (by decide)])
          rw [m1, b_some]
          have hE5 := (hE4.model (Fm.a0 M5 (5 + 8 * c + 2) (M5.1 5))).next m2
          refine st2 hc (by rw [sUp_n (by decide), s2]; exact hI) ?_ (by rw [sUp_s]; exact m3.mono (by omega)) hE5 ha d3 (by rw [sUp_s, k4]; exact k3) (by decide)
          rw [sUp_n (by decide), s2, sUp_s, k4, m2.2.2, sSa_same, g2.2.2]
          exact RF_Xp hc hRX (M5.1 5)
      · rw [if_neg w2, if_neg w2]
        unfold sM128
        rw [may0, b_some, nm_d]
        dsimp only
        rw [if_pos (show (0 : Int32) ≤ 0 by decide)]
        exact st2 hc (by rw [s2]; exact hI) (by rw [s2, s4, sSs_v]; exact hRX) (by rw [s4]; exact hT3.mono (by omega)) hE3 ha d3 (by rw [s4, sSs_v]; exact l_100) (by decide)
  · rw [if_neg w, if_neg w]
    exact ⟨_, _, Or.inl ⟨rfl, rfl, by rw [sUp_s]; exact a3.mono (by omega), hE1⟩⟩
/-- a number of the race: i is 0, 1 or 2 -/
theorem lt_both {S0 S : sWo} {M0 M : sOb} {z lo c : Nat} {B a b i1 : Int32} {i : Nat} (hi : i < 3) (hi1 : (1 : Int32) + i1 = nI (1 + i)) (hI : Inv (S 2) c B) (hR : RF (M.2.1 0) (S 2)) (hT : RelT (S 4) M z lo) (hE : RE S0 M0 S M) (hk : ¬ (S 4).1 1 = 0) (hX : ∀ v, a ≤ v ∧ v ≤ b → Inv (sSs (S 2) i v) c B) (hY : ∀ v, RF (upd (M.2.1 0) (1 + i) v) (sSs (S 2) i v)) : Out S0 M0 z (lo + 1) B ((fX2_readNumberBehind (S 4) a b).bind fun q3 => nm (sUp S 4 q3.2) fun S3 => if q3.1 = 0 then (some ((0 : Int32), S3)) else (nm (sUp S3 2 (sSs (S3 2) i ((S3 4).1 4))) fun S16 => some ((1 : Int32), S16))) ((fX5_nextToken M).bind fun q16 => (fX5_isNumber q16 a b).bind fun q28 => if q28 = 0 then (some ((0 : Int32), q16)) else (if ((1 : Int32) + i1) < 0 ∨ 77 ≤ ((1 : Int32) + i1).toNatClampNeg then none else nm (sSa q16 0 ((1 : Int32) + i1).toNatClampNeg (q16.1 5)) fun M47 => (fX5_nextToken M47).bind fun q49 => some ((1 : Int32), q49))) := by
  obtain ⟨M1, T1, b1, b2, b3, b4⟩ := rb hT hk a b
  have hE2 : RE S0 M0 (sUp S 4 T1) M1 := hE.tape b3 b2
  rcases b4 with ⟨d1, d2, d3⟩ | ⟨d1, d2, d3, d4, d5⟩
  · rw [d2, b_some, nm_d, if_pos rfl, b1, b_some, d1, b_some, if_pos rfl]
    exact ⟨_, _, Or.inl ⟨rfl, rfl, by rw [sUp_s]; exact d3.mono (by omega), hE2⟩⟩
  · rw [d2, b_some, nm_d, if_neg n10, nm_d, b1, b_some, d1, b_some, if_neg n10, hi1, if_neg (ix_in (show 1 + i < 77 by omega) (by omega)), z_cl (show 1 + i < 2147483648 by omega), nm_d]
    obtain ⟨M3, f1, f2, f3⟩ := d5 (sSa M1 0 (1 + i) (M1.1 5)) rfl (by rw [sSa_other (by decide)])
    rw [f1, b_some]
    have hE3 := ((hE2.model (Fm.a0 M1 (1 + i) (M1.1 5))).next f2).track (T := sSs ((sUp S 4 T1) 2) i (((sUp S 4 T1) 4).1 4))
    refine ⟨_, M3, Or.inr ⟨rfl, rfl, c, ?_, ?_, ?_, hE3⟩⟩
    · rw [sUp_s, sUp_n (by decide), sUp_s, d4]
      exact hX _ d3
    · rw [sUp_s, sUp_n (by decide), sUp_s, d4, f2.2.2, sSa_same, b2.2.2]
      exact hY _
    · rw [sUp_n (by decide), sUp_s]
      exact f3.mono (by omega)
