/-! PURE: the second loop of a second, and the second as a whole -/
/-- what a number of a runner is behind the second -/
def nv (T : sOb) (c k r : Nat) : Int32 := if T.2.1 7 r < 0 then (if k = 2 then gBr T c r else if k = 5 then T.2.1 5 r + gSt T c r else if k = 7 then (if T.2.1 5 r + gSt T c r < T.1 0 then T.2.1 7 r else T.1 3 + 1) else if k = 8 then gSt T c r else T.2.1 k r) else (if k = 8 then 0 else T.2.1 k r)
/-- how many come home among the first i -/
def nw (T : sOb) (c : Nat) : Nat → Nat
  | 0 => 0
  | n + 1 => nw T c n + (if T.2.1 7 n < 0 then (if T.2.1 5 n + gSt T c n < T.1 0 then 0 else 1) else 0)
theorem nw_s (T : sOb) (c n : Nat) : nw T c (n + 1) = nw T c n + (if T.2.1 7 n < 0 then (if T.2.1 5 n + gSt T c n < T.1 0 then 0 else 1) else 0) := rfl
def gL2 (T : sOb) (c i : Nat) : sOb := (fun k => if k = 3 then T.1 3 + 1 else if k = 5 then T.1 5 + nI (nw T c i) else T.1 k, fun k r => if k = 8 ∨ k = 2 then (if r < c then nv T c k r else T.2.1 k r) else (if r < i then nv T c k r else T.2.1 k r), T.2.2)
def gStep (T : sOb) (c : Nat) : sOb := gL2 T c c
theorem sOb_ext {A B : sOb} (h1 : ∀ k, A.1 k = B.1 k) (h2 : ∀ k r, A.2.1 k r = B.2.1 k r) (h3 : A.2.2 = B.2.2) : A = B := by
  obtain ⟨a, b, d⟩ := A
  obtain ⟨a', b', d'⟩ := B
  have e1 : a = a' := funext h1
  have e2 : b = b' := funext fun k => funext fun r => h2 k r
  have e3 : d = d' := h3
  rw [e1, e2, e3]
theorem sSs_1 (T : sOb) (k : Nat) (v : Int32) (j : Nat) : (sSs T k v).1 j = if j = k then v else T.1 j := rfl
theorem sSs_2 (T : sOb) (k : Nat) (v : Int32) : (sSs T k v).2 = T.2 := rfl
theorem sSa_1 (T : sOb) (k i : Nat) (v : Int32) : (sSa T k i v).1 = T.1 := rfl
theorem sSa_3 (T : sOb) (k i : Nat) (v : Int32) : (sSa T k i v).2.2 = T.2.2 := rfl
theorem gL2_0 (T : sOb) (c : Nat) : sSs (gL1 T c c) 3 (T.1 3 + 1) = gL2 T c 0 := by
  refine sOb_ext (fun k => ?_) (fun k r => ?_) ?_
  · rw [sSs_1, (gL1_1 T c c).1]
    have : T.1 5 + nI 0 = T.1 5 := Int32.add_zero _
    unfold gL2 nw
    grind
  · rw [sSs_2]
    show (gL1 T c c).2.1 k r = if k = 8 ∨ k = 2 then (if r < c then nv T c k r else T.2.1 k r) else (if r < 0 then nv T c k r else T.2.1 k r)
    by_cases h2 : k = 2
    · subst h2
      rw [gL1_2]
      unfold nv
      grind
    · by_cases h8 : k = 8
      · subst h8
        rw [gL1_8]
        unfold nv
        grind
      · rw [gL1_k T c k h2 h8]
        grind
  · exact (gL1_1 T c c).2
theorem p_L2 {T : sOb} {c : Nat} (hc : c ≤ 9) (h4 : T.1 4 = nI c) : ∀ d i n : Nat, i + d = c → d < n → fx2 bX3_goSecond_70 n (nI i) (gL2 T c i) = some (gL2 T c c) := by
  intro d
  induction d with
  | zero =>
    intro i n hi hn
    obtain ⟨m, rfl⟩ : ∃ m, n = m + 1 := ⟨n - 1, by omega⟩
    obtain rfl : i = c := by omega
    show bX3_goSecond_70 _ _ _ = _
    unfold bX3_goSecond_70
    rw [show (gL2 T i i).1 4 = nI i from h4, if_pos (Int32.le_refl _)]
  | succ d ih =>
    intro i n hi hn
    obtain ⟨m, rfl⟩ : ∃ m, n = m + 1 := ⟨n - 1, by omega⟩
    have IH := ih (i + 1) m (by omega) (by omega)
    rw [nI_succ] at IH
    show bX3_goSecond_70 (fx2 bX3_goSecond_70 m) _ _ = _
    generalize fx2 bX3_goSecond_70 m = rc at IH ⊢
    unfold bX3_goSecond_70
    rw [show (gL2 T c i).1 4 = nI c from h4, if_neg (nI_ge (by omega) (by omega)), if_neg (ix_in (by omega) (by omega)), z_cl (by omega)]
    simp only [nm_d]
    have e5 : (gL2 T c i).2.1 5 i = T.2.1 5 i := by unfold gL2; grind
    have e7 : (gL2 T c i).2.1 7 i = T.2.1 7 i := by unfold gL2; grind
    have e8 : (gL2 T c i).2.1 8 i = if T.2.1 7 i < 0 then gSt T c i else 0 := by unfold gL2 nv; grind
    have f7 : ∀ v, (sSa (gL2 T c i) 5 i v).2.1 7 i = T.2.1 7 i := fun v => by rw [sSa_other (by decide)]; exact e7
    have f5 : ∀ v, (sSa (gL2 T c i) 5 i v).2.1 5 i = v := fun v => by rw [sSa_at, if_pos ⟨rfl, rfl⟩]
    rw [f7, f5, e5, e8]
    have g0 : (sSa (gL2 T c i) 5 i (T.2.1 5 i + if T.2.1 7 i < 0 then gSt T c i else 0)).1 0 = T.1 0 := rfl
    rw [g0]
    have hz : T.2.1 5 i + 0 = T.2.1 5 i := Int32.add_zero _
    by_cases h7 : T.2.1 7 i < 0
    · rw [if_neg (show ¬ 0 ≤ T.2.1 7 i by grind), if_pos h7]
      by_cases h5 : T.2.1 5 i + gSt T c i < T.1 0
      · rw [if_pos h5]
        have hE : sSa (gL2 T c i) 5 i (T.2.1 5 i + gSt T c i) = gL2 T c (i + 1) := by
          refine sOb_ext (fun k => ?_) (fun k r => ?_) rfl
          · rw [sSa_1]
            unfold gL2
            rw [nw_s]
            grind
          · rw [sSa_at]
            unfold gL2 nv
            grind
        rw [hE]
        exact IH
      · rw [if_neg h5]
        have hE : sSs (sSa (sSa (gL2 T c i) 5 i (T.2.1 5 i + gSt T c i)) 7 i ((sSa (gL2 T c i) 5 i (T.2.1 5 i + gSt T c i)).1 3)) 5 ((sSa (sSa (gL2 T c i) 5 i (T.2.1 5 i + gSt T c i)) 7 i ((sSa (gL2 T c i) 5 i (T.2.1 5 i + gSt T c i)).1 3)).1 5 + 1) = gL2 T c (i + 1) := by
          refine sOb_ext (fun k => ?_) (fun k r => ?_) rfl
          · rw [sSs_1]
            simp only [sSa_1]
            have e1 : (gL2 T c i).1 5 = T.1 5 + nI (nw T c i) := rfl
            have e2 : nw T c (i + 1) = nw T c i + 1 := by rw [nw_s, if_pos h7, if_neg h5]
            have e3 : T.1 5 + nI (nw T c i) + 1 = T.1 5 + nI (nw T c i + 1) := by rw [nI_succ, Int32.add_assoc]
            rw [e1, e3]
            unfold gL2
            rw [e2]
            grind
          · rw [sSs_2, sSa_at, sSa_at]
            have e1 : (sSa (gL2 T c i) 5 i (T.2.1 5 i + gSt T c i)).1 3 = T.1 3 + 1 := rfl
            rw [e1]
            unfold gL2 nv
            grind
        rw [hE]
        exact IH
    · rw [if_pos (show 0 ≤ T.2.1 7 i by grind), if_neg h7, hz]
      have hE : sSa (gL2 T c i) 5 i (T.2.1 5 i) = gL2 T c (i + 1) := by
        refine sOb_ext (fun k => ?_) (fun k r => ?_) rfl
        · rw [sSa_1]
          unfold gL2
          rw [nw_s]
          grind
        · rw [sSa_at]
          unfold gL2 nv
          grind
      rw [hE]
      exact IH
theorem p_second {T : sOb} {c : Nat} (hc : c ≤ 9) (h4 : T.1 4 = nI c) (hf : ∀ r, r < c → -1 ≤ T.2.1 3 r ∧ T.2.1 3 r < nI c) : fX3_goSecond T = some (gStep T c) := by
  unfold fX3_goSecond
  rw [p_FA hc h4, b_some, nm_d]
  have h1 := p_L1 hc h4 hf (fun (T_58 : sOb) => nm (sSs T_58 3 ((T_58.1 3) + (1 : Int32))) fun T65 => fx2 bX3_goSecond_70 FU (0 : Int32) T65) c 0 FU (by omega) (by unfold FU; omega)
  have h2 := p_L2 hc h4 c 0 FU (by omega) (by unfold FU; omega)
  refine h1.trans ?_
  rw [nm_d, (gL1_1 T c c).1, gL2_0]
  exact h2
