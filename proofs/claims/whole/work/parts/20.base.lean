/-! PURE: numbers, the flat row of the reference beside the track's rows -/
theorem z_lt {a b : Int32} : a < b ↔ a.toInt < b.toInt := Int32.lt_iff_toInt_lt
theorem z_le {a b : Int32} : a ≤ b ↔ a.toInt ≤ b.toInt := Int32.le_iff_toInt_le
theorem z_eq {a b : Int32} : a = b ↔ a.toInt = b.toInt := Int32.toInt_inj.symm
theorem z_bm {n : Int} (h1 : -2147483648 ≤ n) (h2 : n < 2147483648) : n.bmod (2 ^ 32) = n := Int.bmod_eq_of_le_mul_two (by omega) (by omega)
theorem z_add {a b : Int32} (h1 : -2147483648 ≤ a.toInt + b.toInt) (h2 : a.toInt + b.toInt < 2147483648) : (a + b).toInt = a.toInt + b.toInt := by
  rw [Int32.toInt_add]
  exact z_bm h1 h2
theorem z_sub {a b : Int32} (h1 : -2147483648 ≤ a.toInt - b.toInt) (h2 : a.toInt - b.toInt < 2147483648) : (a - b).toInt = a.toInt - b.toInt := by
  rw [Int32.toInt_sub]
  exact z_bm h1 h2
theorem z_mul {a b : Int32} (h1 : -2147483648 ≤ a.toInt * b.toInt) (h2 : a.toInt * b.toInt < 2147483648) : (a * b).toInt = a.toInt * b.toInt := by
  rw [Int32.toInt_mul]
  exact z_bm h1 h2
theorem z_n {n : Nat} (h : n < 2147483648) : (nI n).toInt = (n : Int) := nI_toInt h
theorem z_cl {n : Nat} (h : n < 2147483648) : (nI n).toNatClampNeg = n := nI_clamp h
/-- an int that is no less than 0 and below a bound is a number -/
theorem z_of {x : Int32} (h : 0 ≤ x.toInt) : x = nI x.toInt.toNat := by
  apply z_eq.mpr
  have h1 := x.toInt_lt
  rw [z_n (by omega)]
  omega
theorem z_nat {x : Int32} (h : 0 ≤ x.toInt) : ∃ n : Nat, n < 2147483648 ∧ x = nI n ∧ x.toInt = (n : Int) := ⟨x.toInt.toNat, by have := x.toInt_lt; omega, z_of h, by omega⟩
theorem nI_9 {c : Nat} (hc : c ≤ 9) : 0 ≤ nI c ∧ nI c ≤ 9 := by
  refine ⟨nI_pos' (by omega), ?_⟩
  exact nI_le (b := 9) hc (by omega)
theorem nI_ex {x : Int32} {c : Nat} (hc : c < 2147483648) (h0 : 0 ≤ x) (h : x < nI c) : ∃ j : Nat, j < c ∧ x = nI j := by
  obtain ⟨n, h1, h2, h3⟩ := z_nat (x := x) (by have := z_le.mp h0; exact this)
  refine ⟨n, ?_, h2⟩
  have h4 := z_lt.mp h
  rw [z_n hc] at h4
  omega
theorem ix_in {i n : Nat} (h : i < n) (hn : n < 2147483648) : ¬ (nI i < 0 ∨ n ≤ (nI i).toNatClampNeg) := nI_in h hn
theorem ix_n {i n : Nat} (h : i < n) (hn : n < 2147483648) : ¬ (nI i < 0 ∨ n ≤ i) := by
  intro q
  rcases q with q | q
  · exact nI_pos (show i < 2 ^ 31 by omega) q
  · omega
theorem b_some {α β : Type} (a : α) (f : α → Option β) : (some a).bind f = f a := rfl
theorem b_eta {α β : Type} (o : Option (α × β)) : (o.bind fun q => some (q.1, q.2)) = o := by
  cases o with
  | none => rfl
  | some q => rfl
theorem b_id {α : Type} (o : Option α) : (o.bind fun q => some q) = o := by
  cases o with
  | none => rfl
  | some q => rfl
theorem nm_d {α β : Type} (e : α) (f : α → Option β) : nm e f = f e := rfl
/-- int64 comparisons of the reference's isIn -/
theorem lg_lt0 (x y : Int64) : lg_cmp x y < 0 ↔ x < y := by
  unfold lg_cmp
  by_cases h : x > y
  · rw [if_pos h]
    exact ⟨fun q => absurd q (by decide), fun q => absurd (Int64.lt_trans q h) (Int64.lt_irrefl)⟩
  · rw [if_neg h]
    by_cases h2 : x = y
    · rw [if_pos h2]
      exact ⟨fun q => absurd q (by decide), fun q => absurd (h2 ▸ q) (Int64.lt_irrefl)⟩
    · rw [if_neg h2]
      refine ⟨fun _ => ?_, fun _ => by decide⟩
      have h3 := Int64.not_lt.mp h
      rcases Int64.lt_or_eq_of_le h3 with q | q
      · exact q
      · exact absurd q h2
theorem lg_gt0 (x y : Int64) : 0 < lg_cmp x y ↔ y < x := by
  unfold lg_cmp
  by_cases h : x > y
  · rw [if_pos h]
    exact ⟨fun _ => h, fun _ => by decide⟩
  · rw [if_neg h]
    by_cases h2 : x = y
    · rw [if_pos h2]
      exact ⟨fun q => absurd q (by decide), fun q => absurd q h⟩
    · rw [if_neg h2]
      exact ⟨fun q => absurd q (by decide), fun q => absurd q h⟩
theorem l_lt {a b : Int64} : a < b ↔ a.toInt < b.toInt := Int64.lt_iff_toInt_lt
/-- isIn over ints -/
theorem p_isIn (a b c : Int32) : fX5_isIn a.toInt64 b.toInt64 c.toInt64 = some (if b.toInt ≤ a.toInt ∧ a.toInt ≤ c.toInt then 1 else 0) := by
  unfold fX5_isIn
  simp only [lg_lt0, lg_gt0, l_lt, Int32.toInt_toInt64]
  by_cases h1 : a.toInt < b.toInt
  · rw [if_pos h1, if_neg (by omega)]
  · rw [if_neg h1]
    by_cases h2 : c.toInt < a.toInt
    · rw [if_pos h2, if_neg (by omega)]
    · rw [if_neg h2, if_pos (by omega)]
/-- the reference's flat row and a track -/
def RF (s : Nat → Int32) (T : sOb) : Prop := s 0 = T.1 4 ∧ s 1 = T.1 0 ∧ s 2 = T.1 1 ∧ s 3 = T.1 2 ∧ s 4 = T.1 3 ∧ ∀ r : Nat, r < 9 → ∀ k : Nat, k < 8 → s (5 + 8 * r + k) = T.2.1 k r
theorem upd_s (f : Nat → Int32) (k : Nat) (v : Int32) : upd f k v k = v := if_pos rfl
theorem upd_n {f : Nat → Int32} {k j : Nat} {v : Int32} (h : j ≠ k) : upd f k v j = f j := if_neg h
theorem sSa_same (T : sOb) (k i : Nat) (v : Int32) : (sSa T k i v).2.1 k = upd (T.2.1 k) i v := if_pos rfl
theorem sSa_other {T : sOb} {k i j : Nat} {v : Int32} (h : j ≠ k) : (sSa T k i v).2.1 j = T.2.1 j := if_neg h
theorem sSa_at (T : sOb) (k i : Nat) (v : Int32) (j r : Nat) : (sSa T k i v).2.1 j r = if j = k ∧ r = i then v else T.2.1 j r := by
  by_cases h : j = k
  · subst h
    rw [sSa_same]
    unfold upd
    by_cases h2 : r = i
    · rw [if_pos h2, if_pos ⟨rfl, h2⟩]
    · rw [if_neg h2, if_neg (fun q => h2 q.2)]
  · rw [sSa_other h, if_neg (fun q => h q.1)]
theorem ix_ru (r k : Nat) : ((5 : Int32) + (8 : Int32) * nI r) + nI k = nI (5 + 8 * r + k) := by
  show (nI 5 + nI 8 * nI r) + nI k = _
  rw [pk_mul, nI_add, nI_add]
theorem p_is {M : sOb} {r k : Nat} (hr : r < 9) (hk : k < 8) : fX5_is M (nI r) (nI k) = some (M.2.1 0 (5 + 8 * r + k)) := by
  unfold fX5_is
  rw [ix_ru, if_neg (ix_in (by omega) (by omega)), z_cl (by omega)]
theorem p_puts {M : sOb} {r k : Nat} (hr : r < 9) (hk : k < 8) (v : Int32) : fX5_puts M (nI r) (nI k) v = some (sSa M 0 (5 + 8 * r + k) v) := by
  unfold fX5_puts
  rw [ix_ru, if_neg (ix_in (by omega) (by omega)), z_cl (by omega)]
  rfl
theorem RF.at {s : Nat → Int32} {T : sOb} (h : RF s T) {r k : Nat} (hr : r < 9) (hk : k < 8) : s (5 + 8 * r + k) = T.2.1 k r := h.2.2.2.2.2 r hr k hk
theorem RF.put {s : Nat → Int32} {T : sOb} (h : RF s T) {r k : Nat} (hr : r < 9) (hk : k < 8) (v : Int32) : RF (upd s (5 + 8 * r + k) v) (sSa T k r v) := by
  obtain ⟨h0, h1, h2, h3, h4, h5⟩ := h
  refine ⟨by rw [upd_n (by omega)]; exact h0, by rw [upd_n (by omega)]; exact h1, by rw [upd_n (by omega)]; exact h2, by rw [upd_n (by omega)]; exact h3, by rw [upd_n (by omega)]; exact h4, fun r' hr' k' hk' => ?_⟩
  rw [sSa_at]
  by_cases hq : k' = k ∧ r' = r
  · rw [if_pos hq, hq.1, hq.2, upd_s]
  · rw [if_neg hq, upd_n (by omega)]
    exact h5 r' hr' k' hk'
