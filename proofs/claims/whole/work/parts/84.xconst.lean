/-! THE CONSTANTS at the start (printed by wip/whole/law.py) -/
def nwL : List Cond := flatC (Jvm.Cond.and given_1 narrow_1)
def tmK (i : Nat) : Term := .string (kTx.getD i ("", 0, "")).1 (kTx.getD i ("", 0, "")).2.1
def tmF (i : Nat) : Term := .field (tmK i) "java/lang/String" "value" "[B"
def nePs : List (Nat × Nat) := [(0, 1), (0, 2), (0, 3), (0, 4), (0, 5), (0, 6), (0, 7), (0, 8), (0, 9), (0, 10), (0, 11), (0, 12), (1, 2), (1, 3), (1, 4), (1, 5), (1, 6), (1, 7), (1, 8), (1, 9), (1, 10), (1, 11), (1, 12), (2, 3), (2, 4), (2, 5), (2, 6), (2, 7), (2, 8), (2, 9), (2, 10), (2, 11), (2, 12), (3, 4), (3, 5), (3, 6), (3, 7), (3, 8), (3, 9), (3, 10), (3, 11), (3, 12), (4, 5), (4, 6), (4, 7), (4, 8), (4, 9), (4, 10), (4, 11), (4, 12), (5, 6), (5, 7), (5, 8), (5, 9), (5, 10), (5, 11), (5, 12), (6, 7), (6, 8), (7, 8), (9, 6), (9, 7), (9, 8), (9, 10), (9, 11), (9, 12), (10, 6), (10, 7), (10, 8), (10, 11), (10, 12), (11, 6), (11, 7), (11, 8), (11, 12), (12, 6), (12, 7), (12, 8)]
theorem mR {α : Type} {f : Nat → α} {n i : Nat} (h : i < n) : f i ∈ (List.range n).map f := List.mem_map.mpr ⟨i, List.mem_range.mpr h, rfl⟩
set_option maxRecDepth 100000 in
theorem nw_ex : ∀ w ∈ (List.range 13).map (fun i => Cond.exactly (tmK i) "java/lang/String"), w ∈ nwL := mem_r [18, 28, 39, 51, 64, 80, 161, 181, 201, 94, 108, 125, 143] (by decide +kernel)
set_option maxRecDepth 100000 in
theorem nw_co : ∀ w ∈ (List.range 13).map (fun i => Cond.eq (.field (tmK i) "java/lang/String" "coder" "B") (.int 0)), w ∈ nwL := mem_r [19, 29, 40, 52, 65, 81, 162, 182, 202, 95, 109, 126, 144] (by decide +kernel)
set_option maxRecDepth 100000 in
theorem nw_ar : ∀ w ∈ (List.range 13).map (fun i => Cond.arrayOf (tmF i) .byte), w ∈ nwL := mem_r [20, 30, 41, 53, 66, 82, 163, 183, 203, 96, 110, 127, 145] (by decide +kernel)
set_option maxRecDepth 100000 in
theorem nw_le : ∀ w ∈ (List.range 13).map (fun i => Cond.eq (.length (tmF i)) (.int (Int32.ofNat (kLe.getD i 0)))), w ∈ nwL := mem_r [21, 31, 42, 54, 67, 83, 164, 184, 204, 97, 111, 128, 146] (by decide +kernel)
set_option maxRecDepth 100000 in
theorem nw_el : ∀ w ∈ (List.range 13).flatMap (fun i => (List.range (kLe.getD i 0)).map (fun j => Cond.eq (.elem (tmF i) (.int (Int32.ofNat j))) (.int ((kBy.getD i []).getD j 0)))), w ∈ nwL := mem_r [22, 23, 24, 25, 26, 27, 32, 33, 34, 35, 36, 37, 43, 44, 45, 46, 47, 48, 55, 56, 57, 58, 59, 60, 68, 69, 70, 71, 72, 73, 74, 75, 84, 85, 86, 87, 88, 165, 166, 167, 168, 169, 170, 185, 186, 187, 188, 189, 205, 206, 207, 98, 99, 100, 101, 112, 113, 114, 115, 116, 117, 129, 130, 131, 132, 133, 134, 147, 148, 149, 150, 151] (by decide +kernel)
set_option maxRecDepth 100000 in
theorem nw_ne : ∀ w ∈ nePs.map (fun q => Cond.not (Cond.eq (tmK q.1) (tmK q.2))), w ∈ nwL := mem_r [38, 49, 61, 76, 89, 171, 190, 208, 102, 118, 135, 152, 50, 62, 77, 90, 172, 191, 209, 103, 119, 136, 153, 63, 78, 91, 173, 192, 210, 104, 120, 137, 154, 79, 92, 174, 193, 211, 105, 121, 138, 155, 93, 175, 194, 212, 106, 122, 139, 156, 176, 195, 213, 107, 123, 140, 157, 200, 218, 219, 177, 196, 214, 124, 141, 158, 178, 197, 215, 142, 159, 179, 198, 216, 160, 180, 199, 217] (by decide +kernel)
set_option maxRecDepth 100000 in
theorem ne_all0 : ∀ i ∈ List.range 13, ∀ j ∈ List.range 13, i ≠ j → (i, j) ∈ nePs ∨ (j, i) ∈ nePs := by decide +kernel
theorem ne_all (i : Nat) (hi : i < 13) (j : Nat) (hj : j < 13) : i ≠ j → (i, j) ∈ nePs ∨ (j, i) ∈ nePs := ne_all0 i (List.mem_range.mpr hi) j (List.mem_range.mpr hj)
set_option maxRecDepth 100000 in
theorem nw_ab : ∀ w ∈ (List.range 6).map (fun j => Cond.eq (.elem (.static "SecondHome$Kinds" "ABOVE" "[I") (.int (Int32.ofNat j))) (.int (kAb.getD j 0))), w ∈ nwL := mem_r [7, 8, 9, 10, 11, 12] (by decide +kernel)
set_option maxRecDepth 100000 in
theorem nw_5 : ∀ w ∈ ([Cond.arrayOf (.static "SecondHome$Kinds" "ABOVE" "[I") .int, Cond.eq (.length (.static "SecondHome$Kinds" "ABOVE" "[I")) (.int (Int32.ofNat 6)), Cond.eq (.static "java/lang/String" "COMPACT_STRINGS" "Z") (.int 1), Cond.isRef (.static "jdk/internal/util/Preconditions" "SIOOBE_FORMATTER" "Ljava/util/function/BiFunction;")] : List Cond), w ∈ nwL := mem_r [5, 6, 13, 14] (by decide +kernel)
set_option maxRecDepth 100000 in
theorem kR_in : ∀ w ∈ (List.range 13).map (fun i => Cond.stringRef (kTx.getD i ("", 0, "")).1 (kTx.getD i ("", 0, "")).2.1 (kTx.getD i ("", 0, "")).2.2), w ∈ lw_tbl := mem_r [560, 561, 562, 563, 564, 565, 636, 641, 646, 622, 631, 632, 633] (by decide +kernel)
set_option maxRecDepth 100000 in
theorem kZ_in : ∀ w ∈ ([Cond.laysStatic "SecondHome$Kinds" "ABOVE" "[I", Cond.initialized "SecondHome$Kinds", Cond.laysStatic "java/lang/String" "COMPACT_STRINGS" "Z", Cond.initialized "java/lang/String", Cond.laysStatic "jdk/internal/util/Preconditions" "SIOOBE_FORMATTER" "Ljava/util/function/BiFunction;", Cond.initialized "jdk/internal/util/Preconditions"] : List Cond), w ∈ lw_tbl := mem_r [322, 74, 579, 76, 595, 78] (by decide +kernel)
set_option maxHeartbeats 4000000 in
set_option maxRecDepth 100000 in
theorem lw_const {s : State} {b : Nat} (hts : ∀ w ∈ lw_tbl, w.before #[Value.ref b] s = true) (hgv : (Jvm.Cond.and given_1 narrow_1).before #[Value.ref b] s = true) : ∃ X : Nat → Nat, ∀ (D : va_G) (C : Nat → ClassId) (a : Nat → Nat → Nat), sKc (D, C, a, (fun q : Nat => s.heap.size ≤ q), X) s := by
  have hA : ∀ a : Nat, a < s.heap.size → ¬ (fun q : Nat => s.heap.size ≤ q) a := fun a h q => absurd h (Nat.not_lt.mpr q)
  have hs : ∀ w ∈ nwL, w.before #[Value.ref b] s = true := flat_of_before _ hgv
  obtain ⟨t, ht, hT⟩ := va_Tof (tm := (.static "SecondHome$Kinds" "ABOVE" "[I")) (ty := .int) (N := 6) (f := fun j => .int (kAb.getD j 0)) (A := fun q : Nat => s.heap.size ≤ q) (by decide) (hs _ (nw_5 _ (List.mem_cons_self))) (va_eqt (hs _ (nw_5 _ (List.mem_cons_of_mem _ List.mem_cons_self)))) (fun j hj => va_eqt (hs _ (nw_ab _ (mR hj)))) hA
  obtain ⟨adK, adV, hS, hE⟩ := vk_Sof (N := 13) (tm := tmK) (len := kLe) (byt := kBy) (A := fun q : Nat => s.heap.size ≤ q) (by decide) (fun i hi => hs _ (nw_ex _ (mR hi))) (fun i hi => hs _ (nw_co _ (mR hi))) (fun i hi => hs _ (nw_ar _ (mR hi))) (fun i hi => hs _ (nw_le _ (mR hi))) (fun i hi j hj => hs _ (nw_el _ (List.mem_flatMap.mpr ⟨i, List.mem_range.mpr hi, mR hj⟩))) (fun i j hi hj hij => (ne_all i hi j hj hij).imp (fun h => hs _ (nw_ne _ (List.mem_map.mpr ⟨_, h, rfl⟩))) (fun h => hs _ (nw_ne _ (List.mem_map.mpr ⟨_, h, rfl⟩)))) hA
  obtain ⟨X, hX⟩ : ∃ X : Nat → Nat, X = fun i => if i = 0 then t else if i < 20 then adK (i - 1) else adV (i - 20) := ⟨_, rfl⟩
  have e0 : X 0 = t := by rw [hX]; rfl
  have e1 : ∀ i : Nat, i < 13 → X (1 + i) = adK i := fun i hi => by rw [hX]; show (if 1 + i = 0 then t else if 1 + i < 20 then adK (1 + i - 1) else adV (1 + i - 20)) = adK i; rw [if_neg (by omega), if_pos (by omega), show 1 + i - 1 = i by omega]
  have e2 : ∀ i : Nat, i < 13 → X (20 + i) = adV i := fun i hi => by rw [hX]; show (if 20 + i = 0 then t else if 20 + i < 20 then adK (20 + i - 1) else adV (20 + i - 20)) = adV i; rw [if_neg (by omega), if_neg (by omega), show 20 + i - 20 = i by omega]
  refine ⟨X, fun D C a => ⟨?_, ?_, ?_, ?_, ⟨?_, ?_⟩, ?_⟩⟩
  · show va_Z "SecondHome$Kinds" "ABOVE" "[I" (.ref (X 0)) (fun q : Nat => s.heap.size ≤ q) s s.heap
    rw [e0]
    exact va_Zref (hts _ (kZ_in _ List.mem_cons_self)) (hts _ (kZ_in _ (List.mem_cons_of_mem _ List.mem_cons_self))) ht hA
  · show va_T .int (X 0) 6 (fun j => .int (kAb.getD j 0)) (fun q : Nat => s.heap.size ≤ q) s s.heap
    rw [e0]
    exact hT
  · exact va_Zof (hts _ (kZ_in _ (List.mem_of_getElem? (i := 2) rfl))) (hts _ (kZ_in _ (List.mem_of_getElem? (i := 3) rfl))) (va_eqi (hs _ (nw_5 _ (List.mem_of_getElem? (i := 2) rfl)))) hA
  · exact va_Zqof (hts _ (kZ_in _ (List.mem_of_getElem? (i := 4) rfl))) (hts _ (kZ_in _ (List.mem_of_getElem? (i := 5) rfl))) (hs _ (nw_5 _ (List.mem_of_getElem? (i := 3) rfl))) hA
  · intro i hi
    show va_O "java/lang/String" (X (1 + i)) (fun q : Nat => s.heap.size ≤ q) s s.heap ∧ va_OF "java/lang/String" "coder" "B" (.int 0) (X (1 + i)) (fun q : Nat => s.heap.size ≤ q) s s.heap ∧ va_OF "java/lang/String" "value" "[B" (.ref (X (20 + i))) (X (1 + i)) (fun q : Nat => s.heap.size ≤ q) s s.heap ∧ va_T .byte (X (20 + i)) (kLe.getD i 0) (fun j => .int ((kBy.getD i []).getD j 0)) (fun q : Nat => s.heap.size ≤ q) s s.heap
    rw [e1 i hi, e2 i hi]
    exact hS.1 i hi
  · intro i j hi hj e
    refine hS.2 i j hi hj ?_
    rw [← e1 i hi, ← e1 j hj]
    exact e
  · intro i hi
    show vk_R (kTx.getD i ("", 0, "")).1 (kTx.getD i ("", 0, "")).2.1 (kTx.getD i ("", 0, "")).2.2 (X (1 + i)) s
    rw [e1 i hi]
    exact vk_R.of (hts _ (kR_in _ (mR hi))) (hE i hi)
