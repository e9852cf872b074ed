/-! PURE: seconds go on, on both sides -/
theorem q_L2 {T : sOb} {c : Nat} {B : Int32} (hI : Inv T c B) : ∀ d i n : Nat, i + d = c → d < n → ∀ M : sOb, RF (M.2.1 0) (gP T c i) → (∀ r, i ≤ r → r < c → M.2.1 7 r = if T.2.1 7 r < 0 then gW T c r else 0) → (∀ r, r < i → M.2.1 7 r = if T.2.1 7 r < 0 then gSt T c r else 0) → ∃ M', fx3 bX5_goesOn_116 n (nI (nw T c i)) (nI i) M = some (nI (nw T c c), M') ∧ RF (M'.2.1 0) (gP T c c) ∧ (∀ r, r < c → M'.2.1 7 r = if T.2.1 7 r < 0 then gSt T c r else 0) ∧ Fm M M' := by
  intro d
  induction d with
  | zero =>
    intro i n hi hn M h hr1 hr2
    obtain ⟨m, rfl⟩ : ∃ m, n = m + 1 := ⟨n - 1, by omega⟩
    obtain rfl : i = c := by omega
    refine ⟨M, ?_, h, hr2, Fm.rf M⟩
    show bX5_goesOn_116 _ _ _ _ = _
    unfold bX5_goesOn_116
    rw [cl_0, h.1, show (gP T i i).1 4 = nI i from hI.2.1, if_pos (Int32.le_refl _)]
  | succ d ih =>
    intro i n hi hn M h hr1 hr2
    obtain ⟨m, rfl⟩ : ∃ m, n = m + 1 := ⟨n - 1, by omega⟩
    have r9 : i < 9 := by have := hI.1; omega
    by_cases h7 : T.2.1 7 i < 0
    · obtain ⟨M1, a1, a2, a3, a4, a5⟩ := q_body hI (show i < c by omega) M h h7 (by rw [hr1 i (Nat.le_refl i) (by omega), if_pos h7])
      obtain ⟨M', b1, b2, b3, b4⟩ := ih (i + 1) m (by omega) (by omega) M1 a2 (fun r q1 q2 => by rw [a4 r (by omega)]; exact hr1 r (by omega) q2) (fun r q1 => by
        by_cases hri : r = i
        · subst hri
          rw [a3, if_pos h7]
        · rw [a4 r hri]
          exact hr2 r (by omega))
      refine ⟨M', ?_, b2, b3, a5.tr b4⟩
      show bX5_goesOn_116 (fx3 bX5_goesOn_116 m) _ _ _ = _
      rw [a1]
      rw [nI_succ, nw_s, if_pos h7] at b1
      by_cases h5 : T.2.1 5 i + gSt T c i < T.1 0
      · rw [if_pos h5] at b1 ⊢
        exact b1
      · rw [if_neg h5] at b1
        rw [if_neg h5, ← nI_succ]
        exact b1
    · have hg : RF (M.2.1 0) (gP T c (i + 1)) := by
        refine RF_congr h (fun k _ => rfl) (fun r hr k hk => ?_)
        show (if r < i + 1 then nv T c k r else T.2.1 k r) = (if r < i then nv T c k r else T.2.1 k r)
        by_cases hri : r = i
        · subst hri
          unfold nv
          rw [if_neg h7]
          grind
        · grind
      obtain ⟨M', b1, b2, b3, b4⟩ := ih (i + 1) m (by omega) (by omega) M hg (fun r q1 q2 => hr1 r (by omega) q2) (fun r q1 => by
        by_cases hri : r = i
        · subst hri
          rw [hr1 r (Nat.le_refl r) (by omega), if_neg h7, if_neg h7]
        · exact hr2 r (by omega))
      refine ⟨M', ?_, b2, b3, b4⟩
      rw [nI_succ, nw_s, if_neg h7] at b1
      show bX5_goesOn_116 (fx3 bX5_goesOn_116 m) _ _ _ = _
      generalize fx3 bX5_goesOn_116 m = rc at b1 ⊢
      unfold bX5_goesOn_116
      have gp : (gP T c i).2.1 7 i = T.2.1 7 i := by
        show (if i < i then _ else _) = _
        rw [if_neg (Nat.lt_irrefl i)]
      have hn4 : ¬ (gP T c i).1 4 ≤ nI i := by
        rw [show (gP T c i).1 4 = nI c from hI.2.1]
        exact nI_ge (by omega) (by have := hI.1; omega)
      rw [cl_0, h.1, if_neg hn4, q_isHome h r9, b_some, gp, if_neg h7, if_neg (by decide), nm_d]
      exact b1
theorem nI_pos0 {n : Nat} (h : n < 2147483648) : 0 < nI n ↔ ¬ nI n = 0 := by
  have := nI_pos' h
  grind
theorem q_goesOn {T M : sOb} {c : Nat} {B : Int32} (hI : Inv T c B) (h : RF (M.2.1 0) T) (hn : ¬ gHC T c = c) : ∃ M', fX5_goesOn M = some (nI (nw T c c), M') ∧ RF (M'.2.1 0) (gStep T c) ∧ (∀ r, r < c → M'.2.1 7 r = (gStep T c).2.1 8 r) ∧ Fm M M' := by
  have hc := hI.1
  have h4 := hI.2.1
  have hle := gHC_le T c
  have h5 : T.1 5 = nI (gHC T c) := hI.2.2.2.2.2.2.1
  unfold fX5_goesOn
  rw [q_homeMany h hc h4, b_some, cl_0, h.1, h4, if_neg (fun q => hn ((nI_eq (by omega) (by omega)).mp q)), q_FA h hI, b_some, nm_d]
  have hh : 0 < nI (gHC T c) ↔ ¬ T.1 5 = 0 := by
    rw [h5]
    exact nI_pos0 (by omega)
  obtain ⟨M1, a1, a2, a3, a4⟩ := q_L1 hI (nI (gHC T c)) hh (fun (T_101 : sOb) => nm (sSa T_101 0 (4 : Int32).toNatClampNeg ((T_101.2.1 0 (4 : Int32).toNatClampNeg) + (1 : Int32))) fun M110 => fx3 bX5_goesOn_116 FU (0 : Int32) (0 : Int32) M110) c 0 FU (by omega) (by unfold FU; omega) M h (fun r hr => absurd hr (Nat.not_lt_zero r))
  have e1 : RF ((sSa M1 0 4 (M1.2.1 0 4 + 1)).2.1 0) (gP T c 0) := by
    rw [sSa_same, a2]
    obtain ⟨b0, b1, b2, b3, b4, b5⟩ := h
    refine ⟨by rw [upd_n (by decide)]; exact b0, by rw [upd_n (by decide)]; exact b1, by rw [upd_n (by decide)]; exact b2, by rw [upd_n (by decide)]; exact b3, ?_, fun r hr k hk => ?_⟩
    · rw [upd_s, b4]
      rfl
    · rw [upd_n (by omega), b5 r hr k hk]
      show T.2.1 k r = if r < 0 then nv T c k r else T.2.1 k r
      rw [if_neg (Nat.not_lt_zero r)]
  obtain ⟨M2, c1, c2, c3, c4⟩ := q_L2 hI c 0 FU (by omega) (by unfold FU; omega) (sSa M1 0 4 (M1.2.1 0 4 + 1)) e1 (fun r _ hr => by rw [sSa_07]; exact a4 r hr) (fun r hr => absurd hr (Nat.not_lt_zero r))
  have e0 : nw T c 0 = 0 := rfl
  rw [e0, show nI 0 = (0 : Int32) from rfl] at c1
  rw [show nI 0 = (0 : Int32) from rfl] at a1
  refine ⟨M2, ?_, ?_, ?_, (a3.tr (Fm.a0 _ _ _)).tr c4⟩
  · rw [a1, nm_d, cl_4]
    exact c1
  · refine RF_congr c2 (fun k hk => ?_) (fun r hr k hk => ?_)
    · rw [gStep_1]
      show _ = if k = 3 then _ else _
      by_cases q : k = 3
      · rw [if_pos q, if_pos q]
      · rw [if_neg q, if_neg q, if_neg (by omega)]
    · rw [gStep_2]
      rfl
  · intro r hr
    rw [c3 r hr, gStep_2, if_pos hr]
    unfold nv
    rw [if_neg (show ¬ (8 : Nat) = 2 by decide), if_neg (show ¬ (8 : Nat) = 5 by decide), if_neg (show ¬ (8 : Nat) = 7 by decide), if_pos (show (8 : Nat) = 8 by decide), if_pos (show (8 : Nat) = 8 by decide)]
theorem q_goesOn0 {T M : sOb} {c : Nat} {B : Int32} (hI : Inv T c B) (h : RF (M.2.1 0) T) (hn : gHC T c = c) : fX5_goesOn M = some (0, M) := by
  unfold fX5_goesOn
  rw [q_homeMany h hI.1 hI.2.1, b_some, cl_0, h.1, hI.2.1, hn, if_pos rfl]
/-- a second, if somebody isn't home -/
def gTick (T : sOb) (c : Nat) : sOb := if gHC T c = c then T else gStep T c
def gIt (c : Nat) : Nat → sOb → sOb
  | 0, T => T
  | n + 1, T => gIt c n (gTick T c)
theorem gIt_s (c n : Nat) (T : sOb) : gIt c (n + 1) T = gIt c n (gTick T c) := rfl
theorem gIt_home {c : Nat} {T : sOb} (h : gHC T c = c) : ∀ n, gIt c n T = T
  | 0 => rfl
  | n + 1 => by rw [gIt_s, gTick, if_pos h]; exact gIt_home h n
theorem Inv_mono {T : sOb} {c : Nat} {B B' : Int32} (h : Inv T c B) (hB : B ≤ B') : Inv T c B' := by
  obtain ⟨a, b, d, e, f, g, i, j⟩ := h
  exact ⟨a, b, d, e, f, ⟨g.1, Int32.le_trans g.2 hB⟩, i, j⟩
theorem nI_big {b : Nat} (h : b < 2000000000) : nI b < 2000000000 := nI_lt (b := 2000000000) h (by omega)
theorem Inv_tick {T : sOb} {c b : Nat} (h : Inv T c (nI b)) (hb : b < 2000000000) : Inv (gTick T c) c (nI (b + 1)) := by
  unfold gTick
  split
  · exact Inv_mono h (nI_le (by omega) (by omega))
  · rw [nI_succ]
    exact Inv_step h (nI_big hb)
theorem Inv_it {c : Nat} : ∀ (n b : Nat) {T : sOb}, Inv T c (nI b) → b + n < 2000000000 → Inv (gIt c n T) c (nI (b + n))
  | 0, b, T, h, _ => h
  | n + 1, b, T, h, hb => by
    rw [gIt_s]
    have := Inv_it n (b + 1) (Inv_tick h (by omega)) (by omega)
    rw [show b + (n + 1) = b + 1 + n by omega]
    exact this
theorem p_allHome {T : sOb} {c : Nat} {B : Int32} (h : Inv T c B) : fX3_allHome T = some (if gHC T c = c then 1 else 0) := by
  have hc := h.1
  have hle := gHC_le T c
  unfold fX3_allHome
  rw [h.2.2.2.2.2.2.1, h.2.1]
  by_cases q : gHC T c = c
  · rw [q, if_neg (nI_nlt (Nat.le_refl c) (by omega)), if_pos rfl]
  · rw [if_pos (nI_lt (by omega) (by omega)), if_neg q]
theorem Inv_f {T : sOb} {c : Nat} {B : Int32} (h : Inv T c B) : ∀ r, r < c → -1 ≤ T.2.1 3 r ∧ T.2.1 3 r < nI c := fun r hr => (h.2.2.2.2.2.2.2 r hr).2.2.2.1
theorem p_goOn {c : Nat} (a : Nat) (ha : a < 4000) : ∀ d i n : Nat, i + d = a → d < n → ∀ (T : sOb) (b : Nat), Inv T c (nI b) → b + d < 2000000000 → fx2 (bX3_goOn_2 (nI a)) n (nI i) T = some (gIt c d T) := by
  intro d
  induction d with
  | zero =>
    intro i n hi hn T b h hb
    obtain ⟨m, rfl⟩ : ∃ m, n = m + 1 := ⟨n - 1, by omega⟩
    obtain rfl : i = a := by omega
    show bX3_goOn_2 _ _ _ _ = _
    unfold bX3_goOn_2
    rw [if_pos (Int32.le_refl _)]
    rfl
  | succ d ih =>
    intro i n hi hn T b h hb
    obtain ⟨m, rfl⟩ : ∃ m, n = m + 1 := ⟨n - 1, by omega⟩
    have IH := ih (i + 1) m (by omega) (by omega) (gTick T c) (b + 1) (Inv_tick h (by omega)) (by omega)
    rw [nI_succ] at IH
    show bX3_goOn_2 _ (fx2 (bX3_goOn_2 (nI a)) m) _ _ = _
    generalize fx2 (bX3_goOn_2 (nI a)) m = rc at IH ⊢
    unfold bX3_goOn_2
    rw [if_neg (nI_ge (by omega) (by omega)), p_allHome h, b_some]
    by_cases q : gHC T c = c
    · rw [if_pos q, if_neg (by decide), gIt_home q]
    · rw [if_neg q, if_pos rfl, p_second h.1 h.2.1 (Inv_f h), b_some, nm_d, gIt_s]
      rw [gTick, if_neg q] at IH ⊢
      exact IH
theorem p_goOnE {T : sOb} {c b : Nat} (a : Nat) (ha : a < 4000) (h : Inv T c (nI b)) (hb : b < 1000000000) : fX3_goOn T (nI a) = some (gIt c a T) := p_goOn a ha a 0 FU (by omega) (by unfold FU; omega) T b h (by omega)
theorem q_tick {T M : sOb} {c b : Nat} (h : Inv T c (nI b)) (hr : RF (M.2.1 0) T) : ∃ M' x, fX5_goesOn M = some (x, M') ∧ RF (M'.2.1 0) (gTick T c) ∧ Fm M M' := by
  by_cases q : gHC T c = c
  · refine ⟨M, 0, q_goesOn0 h hr q, ?_, Fm.rf M⟩
    rw [gTick, if_pos q]
    exact hr
  · obtain ⟨M', a1, a2, -, a4⟩ := q_goesOn h hr q
    refine ⟨M', _, a1, ?_, a4⟩
    rw [gTick, if_neg q]
    exact a2
theorem q_goMany {c : Nat} (a : Nat) (ha : a < 4000) : ∀ d i n : Nat, i + d = a → d < n → ∀ (T M : sOb) (b : Nat), Inv T c (nI b) → b + d < 2000000000 → RF (M.2.1 0) T → ∃ M', fx2 (bX5_goesOnMany_2 (nI a)) n (nI i) M = some M' ∧ RF (M'.2.1 0) (gIt c d T) ∧ Fm M M' := by
  intro d
  induction d with
  | zero =>
    intro i n hi hn T M b h hb hr
    obtain ⟨m, rfl⟩ : ∃ m, n = m + 1 := ⟨n - 1, by omega⟩
    obtain rfl : i = a := by omega
    refine ⟨M, ?_, hr, Fm.rf M⟩
    show bX5_goesOnMany_2 _ _ _ _ = _
    unfold bX5_goesOnMany_2
    rw [if_pos (Int32.le_refl _)]
  | succ d ih =>
    intro i n hi hn T M b h hb hr
    obtain ⟨m, rfl⟩ : ∃ m, n = m + 1 := ⟨n - 1, by omega⟩
    obtain ⟨M1, x, a1, a2, a3⟩ := q_tick h hr
    obtain ⟨M', b1, b2, b3⟩ := ih (i + 1) m (by omega) (by omega) (gTick T c) M1 (b + 1) (Inv_tick h (by omega)) (by omega) a2
    refine ⟨M', ?_, b2, a3.tr b3⟩
    rw [nI_succ] at b1
    show bX5_goesOnMany_2 _ (fx2 (bX5_goesOnMany_2 (nI a)) m) _ _ = _
    generalize fx2 (bX5_goesOnMany_2 (nI a)) m = rc at b1 ⊢
    unfold bX5_goesOnMany_2
    rw [if_neg (nI_ge (by omega) (by omega)), a1, b_some, nm_d]
    exact b1
theorem q_toEnd {c : Nat} (k : sOb → Option (Int32 × sOb)) : ∀ d i n : Nat, i + d = 2000 → d < n → ∀ (T M : sOb) (b : Nat), Inv T c (nI b) → b + d < 2000000000 → RF (M.2.1 0) T → ∃ M', fx2 (bX5_goesToEnd_2 k) n (nI i) M = k M' ∧ RF (M'.2.1 0) (gIt c d T) ∧ Fm M M' := by
  intro d
  induction d with
  | zero =>
    intro i n hi hn T M b h hb hr
    obtain ⟨m, rfl⟩ : ∃ m, n = m + 1 := ⟨n - 1, by omega⟩
    obtain rfl : i = 2000 := by omega
    refine ⟨M, ?_, hr, Fm.rf M⟩
    show bX5_goesToEnd_2 _ _ _ _ = _
    unfold bX5_goesToEnd_2
    rw [if_pos (show (2000 : Int32) ≤ nI 2000 from Int32.le_refl _)]
  | succ d ih =>
    intro i n hi hn T M b h hb hr
    obtain ⟨m, rfl⟩ : ∃ m, n = m + 1 := ⟨n - 1, by omega⟩
    have hle := gHC_le T c
    have hc := h.1
    by_cases q : gHC T c = c
    · refine ⟨M, ?_, by rw [gIt_home q]; exact hr, Fm.rf M⟩
      show bX5_goesToEnd_2 _ _ _ _ = _
      unfold bX5_goesToEnd_2
      rw [if_neg (show ¬ (2000 : Int32) ≤ nI i from nI_ge (b := 2000) (by omega) (by omega)), q_homeMany hr h.1 h.2.1, b_some, cl_0, hr.1, h.2.1, q, if_pos (Int32.le_refl _)]
    · obtain ⟨M1, x, a1, a2, a3⟩ := q_tick h hr
      obtain ⟨M', b1, b2, b3⟩ := ih (i + 1) m (by omega) (by omega) (gTick T c) M1 (b + 1) (Inv_tick h (by omega)) (by omega) a2
      refine ⟨M', ?_, b2, a3.tr b3⟩
      rw [nI_succ] at b1
      show bX5_goesToEnd_2 _ (fx2 (bX5_goesToEnd_2 k) m) _ _ = _
      generalize fx2 (bX5_goesToEnd_2 k) m = rc at b1 ⊢
      unfold bX5_goesToEnd_2
      rw [if_neg (show ¬ (2000 : Int32) ≤ nI i from nI_ge (b := 2000) (by omega) (by omega)), q_homeMany hr h.1 h.2.1, b_some, cl_0, hr.1, h.2.1, if_neg (nI_ge (by omega) (by omega)), a1, b_some, nm_d]
      exact b1
theorem q_goesToEnd {T M : sOb} {c b : Nat} (h : Inv T c (nI b)) (hb : b < 1000000000) (hr : RF (M.2.1 0) T) : ∃ M', fX5_goesToEnd M = some (if gHC (gIt c 2000 T) c = c then 1 else 0, M') ∧ RF (M'.2.1 0) (gIt c 2000 T) ∧ Fm M M' := by
  obtain ⟨M', a1, a2, a3⟩ := q_toEnd (c := c) (fun (T_33 : sOb) => (fX5_homeMany T_33).bind fun q34 => if q34 = (T_33.2.1 0 (0 : Int32).toNatClampNeg) then (some ((1 : Int32), T_33)) else (some ((0 : Int32), T_33))) 2000 0 FU (by omega) (by unfold FU; omega) T M b h (by omega) hr
  refine ⟨M', ?_, a2, a3⟩
  have hI := Inv_it 2000 b h (by omega)
  have hle := gHC_le (gIt c 2000 T) c
  have hc := h.1
  unfold fX5_goesToEnd
  rw [nm_d]
  refine a1.trans ?_
  rw [q_homeMany a2 hI.1 hI.2.1, b_some, cl_0, a2.1, hI.2.1]
  by_cases q : gHC (gIt c 2000 T) c = c
  · rw [q, if_pos rfl, if_pos rfl]
  · rw [if_neg (fun z => q ((nI_eq (by omega) (by omega)).mp z)), if_neg q]
