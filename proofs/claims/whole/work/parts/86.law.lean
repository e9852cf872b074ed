/-! THE LAW: what its rows share (printed by wip/whole/law.py) -/
def lwC (p : Program) (s : State) (m : MethodId) (c : Code) (b L i : Nat) (xs : Nat → Int32) (G : sGl) (ls : Array Slot) : Prop :=
  p.tables.exec = Jvm.exec ∧ c.code = cL_law ∧ c.maxLocals = 4 ∧ s.vm.findClass RL = some m.cls ∧ (∀ w ∈ wsL_law, w.before #[Value.ref b] s = true) ∧ va_X b L xs s s.heap ∧ b < s.heap.size ∧ ¬ sF G b ∧ i + 6 ≤ L ∧ L ≤ 3072 ∧ lv_has ls 4 [(0, .ref b), (1, .ref (sA G 0 0)), (2, .ref (sA G 9 0)), (3, .int (nI i))]
section LAW
variable {p : Program} {l : Launch} {e : Env} {s : State} {m : MethodId} {below : List Frame} {meth : Method} {c : Code} {H : Heap} {locs : List Loc} {cells slots : Nat} {Q : State → Prop} {b L i k : Nat} {xs : Nat → Int32} {G : sGl} {ls : Array Slot} {S : sWo} {M : sOb}
/-- script[i + j] -/
theorem lw_arg (j : Nat) {z : Int} {pc : Nat} {rest : List Value} (C : lwC p s m c b L i xs G ls) (hw : sHw G s S M H locs) (hj : j < 6) (hz : Int32.ofInt z = nI j) (d0 : decode cL_law pc = .ok (.aload_n 0, 1)) (d1 : decode cL_law (pc + 1) = .ok (.iload_n 3, 1)) (d2 : decode cL_law (pc + 2) = .ok (.iconst z, 1)) (d3 : decode cL_law (pc + 3) = .ok (.iadd, 1)) (d4 : decode cL_law (pc + 4) = .ok (.iaload, 1))
    (kk : W p l e room_1 s m #[Value.ref b] below meth c H locs cells slots Q (F0 m (pc + 5) ls (.int (xs (i + j)) :: rest))) : W p l e room_1 s m #[Value.ref b] below meth c H locs cells slots Q (F0 m pc ls rest) := by
  obtain ⟨hx, hb, hml, hown, hts, hX, hbl, hbA, hi, hL, hl⟩ := C
  refine lv_aload_n hx hb d0 rfl (lv_at hl 0 rfl) ?_
  refine lv_iload_n hx hb d1 rfl (lv_at hl 3 rfl) ?_
  refine lv_iconst (v := nI j) hx hb d2 hz ?_
  refine lv_iadd hx hb d3 ?_
  rw [nI_add]
  refine va_sld hx hb hX hbl hbA hw.2.2.2.1 (vp_in_nI (show i + j < L by omega) (by omega)) d4 ?_
  rw [nI_clamp (show i + j < 2 ^ 31 by omega)]
  exact kk
end LAW
