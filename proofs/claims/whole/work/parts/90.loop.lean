/-! THE CLAIM OUT OF ONE WALK OF THE LAW'S BODY. Your part is whole_start (and what it stands on); all else here is the same for every law, but numbers. -/
def R_law : String := "SecondHomeLaw"
def lw_P (b : Addr) (xs : List Int32) (args : Array Value) (s : State) : Prop := args = #[.ref b] ∧ s.IntsAt b xs ∧ xs.length ≤ 3072 ∧ (Jvm.Cond.and given_1 narrow_1).before args s = true
def lw_Q (_ : Array Value) (s : State) (o : Outcome) (t : State) : Prop := o = .returned (some (.int 1)) ∧ Framed s o t [] 600000 7302250
def lw_Z (below : List Frame) (a : Array Value) (s : State) : State → Prop := fun t => ∃ o, t.status = .running ∧ Ended t below o ∧ lw_Q a s o t
/-- the law's own end, with 1 on the stack, nothing written that was there before, its room as the claim has it -/
theorem lw_ret {p : Program} {l : Launch} {e : Env} {s : State} {m : MethodId} {below : List Frame} {meth : Method} {c : Code} {b : Nat} (hx : p.tables.exec = Jvm.exec) (hb : c.code = code) (hr : meth.sig.returnType = ret) (hlocks : meth.locks = false) {pc : Nat} {H : Heap} {ls : Array Slot} (hdg : decode code pc = .ok (.ireturn, 1)) : W p l e room_1 s m #[Value.ref b] below meth c H [] 600000 7302250 (lw_Z below #[Value.ref b] s) (F0 m pc ls [.int 1]) := by
  intro T hT X
  obtain ⟨fs, hret, hrun, hended, hW, hframe⟩ := X.leave (v := some (.int 1)) (hlocks := hlocks) (fun h => by rw [hr] at h; cases h)
  have hmeth' : T.vm.method? m = some meth := X.method'
  refine ⟨T.setFrames fs, ?_, .returned (some (.int 1)), hrun, hended, rfl, ⟨_, rfl⟩, hW, hframe⟩
  jvm_step X.here [X.here.top, hx, hb, hdg, hmeth', hr, ret, narrow_b1]
  (try refine ⟨rfl, ?_⟩); (try refine ⟨rfl, ?_⟩)
  first | (intro acts; rw [hret _ acts rfl rfl rfl]) | rw [hret _ _ rfl rfl rfl]
  exact Steps.refl _
/-- what holds at the law's entry: the machine, the code, the tables' words (any of lw_tbl by 'hts w (by decide +kernel)'), the script of L ints xs at the cell b, what the Statement gives of the start (any of its parts by flat_of_before) -/
def lw_At (p : Program) (s : State) (m : MethodId) (meth : Method) (c : Code) (b L : Nat) (xs : Nat → Int32) : Prop :=
  p.tables.exec = Jvm.exec ∧ c.code = code ∧ meth.sig.returnType = ret ∧ c.maxLocals = 4 ∧ s.vm.findClass R_law = some m.cls ∧ (∀ w ∈ lw_tbl, w.before #[Value.ref b] s = true) ∧ va_X b L xs s s.heap ∧ b < s.heap.size ∧ meth.locks = false ∧ (Jvm.Cond.and given_1 narrow_1).before #[Value.ref b] s = true
theorem lw_sub6 {L : Nat} (hL : L ≤ 3072) : (nI L - 6).toInt = (L : Int) - 6 := by
  rw [Int32.toInt_sub, nI_toInt (by omega), show (6 : Int32).toInt = 6 from rfl]
  exact z_bm (by omega) (by omega)
theorem lw_six {L k : Nat} (hL : L ≤ 3072) (hk : 6 * k ≤ L) (h : ¬ nI L - 6 < nI (6 * k)) : 6 * k + 6 ≤ L := by
  rw [Int32.lt_iff_toInt_lt, lw_sub6 hL, nI_toInt (by omega)] at h
  omega
set_option maxHeartbeats 4000000 in
set_option maxRecDepth 100000 in
/-- THE LAW'S LOOP: behind k calls -/
theorem law_loop {p : Program} {l : Launch} {e : Env} {s : State} {m : MethodId} {below : List Frame} {meth : Method} {c : Code} {b L : Nat} {xs : Nat → Int32} {G : sGl} (hL : L ≤ 3072) (C0 : lw_At p s m meth c b L xs) (hG : sF G = fun q : Nat => s.heap.size ≤ q) :
    ∀ (n k : Nat), L < 6 * k + 6 * n → 6 * k ≤ L → ∀ (S : sWo) (M : sOb) (H : Heap) (locs : List Loc) (ls : Array Slot), Rel S M k → sHw G s S M H locs → lv_has ls 4 [(0, .ref b), (1, .ref (sA G 0 0)), (2, .ref (sA G 9 0)), (3, .int (nI (6 * k)))] → W p l e room_1 s m #[Value.ref b] below meth c H locs 53 1155 (lw_Z below #[Value.ref b] s) (F0 m 18 ls []) := by
  obtain ⟨hx, hb, hr, hml, hown, hts, hX, hbl, hlocks, hgv⟩ := C0
  have hbA : ¬ sF G b := by rw [hG]; exact Nat.not_le.mpr hbl
  have htsL : ∀ w ∈ wsL_law, w.before #[Value.ref b] s = true := fun w h => hts w (wsL_law_in w h)
  have hown : s.vm.findClass RL = some m.cls := hown
  have hb : c.code = cL_law := hb
  intro n
  induction n with
  | zero =>
    intro k h1 h2
    exact absurd h1 (by omega)
  | succ n ih =>
    intro k h1 h2 S M H locs ls hR hw hl
    refine lv_iload_n hx hb dL_law_18 rfl (lv_at hl 3 rfl) ?_
    refine lv_aload_n hx hb dL_law_19 rfl (lv_at hl 0 rfl) ?_
    refine va_slen hx hb hX hbl hbA hw.2.2.2.1 dL_law_20 ?_
    refine lv_bipush (v := 6) hx hb dL_law_21 (by decide) ?_
    refine lv_isub hx hb dL_law_23 ?_
    refine lv_icmp_gt (tgt := 1326) hx hb dL_law_24 (by decide) (fun _ => ?_) (fun c9 => ?_)
    · refine lv_iconst (v := 1) hx hb dL_law_1326 (by decide) ?_
      refine va_forget (fun q hq => by have h9 := hw.2.2.2.1.2.2 q hq; rw [hG] at h9; exact h9) ?_
      refine W.widen (k := 600000) (n := 7302250) (Nat.le_of_ble_eq_true rfl) (Nat.le_of_ble_eq_true rfl) ?_
      exact lw_ret hx hb hr hlocks dL_law_1327
    · have h6 : 6 * k + 6 ≤ L := lw_six hL h2 c9
      refine lw_sw (k := k) ⟨hx, hb, hml, hown, htsL, hX, hbl, hbA, h6, hL, hl⟩ ⟨Nat.le_of_ble_eq_true rfl, Nat.le_of_ble_eq_true rfl⟩ (by omega) hR hw (fun S1 M1 H1 locs1 hR1 hw1 => ?_)
      refine lv_iinc (v := nI (6 * (k + 1))) (lv' := [(3, .int (nI (6 * (k + 1)))), (0, .ref b), (1, .ref (sA G 0 0)), (2, .ref (sA G 9 0))]) hx hb dL_law_1320 hl (k := 3) rfl (nI_add (6 * k) 6) (by decide) rfl (fun ls hl => ?_)
      refine lv_goto (tgt := 18) hx hb dL_law_1323 (by decide) ?_
      exact ih (k + 1) (by omega) (by omega) S1 M1 _ _ ls hR1 hw1 (lv_sub hl [1, 2, 3, 0] rfl)
set_option maxRecDepth 100000 in
theorem lwW : ∀ w ∈ ([.instantiable RX1 3, .instantiable RX2 6, .instantiable RX3 15, .instantiable RX4 7, .instantiable RX5 15, .classLink RL 7 RX4, .classLink RL 10 RX5, .initialized RX4, .initialized RX5, .methodLink RL 9 yX4_init, .methodLink RL 12 yX5_init, .instanceMethod yX4_init, .instanceMethod yX5_init, .methodLinkNest RX4 9 yX3_init "SecondHome", .methodLinkNest RX4 24 yX2_init "SecondHome", .methodLinkNest RX4 39 yX1_init "SecondHome", .arrayOver (.object "SecondHome$Sheet")] : List Cond), w ∈ lw_tbl := mem_r [194, 166, 91, 83, 748, 82, 747, 69, 73, 84, 749, 85, 750, 92, 167, 195, 193] (by decide +kernel)
theorem nsX4.warm {s U : State} (hW : s.WarmedH U.vm) (h : nsX4 s) : nsX4 U := ⟨va_Nw.warmM hW h.1, va_Nw.warmM hW h.2.1, va_Nw.warmM hW h.2.2.1, va_AO.moved hW.alike h.2.2.2⟩
theorem nsX4.same {u U : State} (hv : u.vm = U.vm) (h : nsX4 u) : nsX4 U := ⟨va_Nw.same rfl hv h.1, va_Nw.same rfl hv h.2.1, va_Nw.same rfl hv h.2.2.1, va_AO.moved (by rw [hv]; exact Vm.Alike.refl _) h.2.2.2⟩
