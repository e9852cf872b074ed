/-! THE LAW'S OPERATIONS (printed by wip/whole/law.py) -/
section LAW
variable {p : Program} {l : Launch} {e : Env} {s : State} {m : MethodId} {below : List Frame} {meth : Method} {c : Code} {H : Heap} {locs : List Loc} {cells slots : Nat} {Q : State → Prop} {b L i k : Nat} {xs : Nat → Int32} {G : sGl} {ls : Array Slot} {S : sWo} {M : sOb}
set_option maxRecDepth 100000 in
set_option maxHeartbeats 4000000 in
theorem lw_o_passes (C : lwC p s m c b L i xs G ls) (hf : cells ≤ room_1.cells ∧ slots ≤ room_1.slots) (hk : k < 512) (hR : Rel S M k) (hw : sHw G s S M H locs) (kk : ∀ (S' : sWo) (M' : sOb) (H1 : Heap) (locs1 : List Loc), Rel S' M' (k + 1) → sHw G s S' M' H1 locs1 → W p l e room_1 s m #[Value.ref b] below meth c H1 locs1 cells slots Q (F0 m 1320 ls [])) : W p l e room_1 s m #[Value.ref b] below meth c H locs cells slots Q (F0 m 674 ls []) := by
  obtain ⟨hx, hb, hml, hown, hts, hX, hbl, hbA, hi, hL, hl⟩ := id C
  obtain ⟨v, S1, M1, e1, e2, hR1⟩ := op_passes hR hk (xs (i + 1)) (xs (i + 2))
  refine lv_aload_n hx hb dL_law_674 rfl (lv_at hl 1 rfl) ?_
  refine lw_arg 1 (z := 1) C hw (by decide) (by decide) dL_law_675 dL_law_676 dL_law_677 dL_law_678 dL_law_679 ?_
  refine lw_arg 2 (z := 2) C hw (by decide) (by decide) dL_law_680 dL_law_681 dL_law_682 dL_law_683 dL_law_684 ?_
  refine kV (As := [.int (xs (i + 1)), .int (xs (i + 2))]) (rest := []) (st' := [.int v]) ⟨hx, hb, hml, hown, hts⟩ (kX4_passes l G e1) (cwV 2 hts gL_law_X4_passes rfl rfl rfl qqX4_passes ⟨Nat.le_of_ble_eq_true rfl, Nat.le_of_ble_eq_true rfl⟩) hw (rvOw hw) rfl hl.1 rfl (Nat.le_of_ble_eq_true rfl) dL_law_685 hf rfl (fun H locs hw => ?_)
  refine lv_aload_n hx hb dL_law_688 rfl (lv_at hl 2 rfl) ?_
  refine lw_arg 1 (z := 1) C hw (by decide) (by decide) dL_law_689 dL_law_690 dL_law_691 dL_law_692 dL_law_693 ?_
  refine lw_arg 2 (z := 2) C hw (by decide) (by decide) dL_law_694 dL_law_695 dL_law_696 dL_law_697 dL_law_698 ?_
  refine kV (As := [.int (xs (i + 1)), .int (xs (i + 2))]) (rest := [.int v]) (st' := [.int v, .int v]) ⟨hx, hb, hml, hown, hts⟩ (kX5_passes l G e2) (cwV 2 hts gL_law_X5_passes rfl rfl rfl qqX5_passes ⟨Nat.le_of_ble_eq_true rfl, Nat.le_of_ble_eq_true rfl⟩) hw (rvMd hw) rfl hl.1 rfl (Nat.le_of_ble_eq_true rfl) dL_law_699 hf rfl (fun H locs hw => ?_)
  exact lv_icmp_eq (tgt := 1320) hx hb dL_law_702 (by decide) (fun _ => kk S1 M1 _ _ hR1 hw) (fun z => absurd rfl z)
set_option maxRecDepth 100000 in
set_option maxHeartbeats 4000000 in
theorem lw_o_race (C : lwC p s m c b L i xs G ls) (hf : cells ≤ room_1.cells ∧ slots ≤ room_1.slots) (hk : k < 512) (hR : Rel S M k) (hw : sHw G s S M H locs) (kk : ∀ (S' : sWo) (M' : sOb) (H1 : Heap) (locs1 : List Loc), Rel S' M' (k + 1) → sHw G s S' M' H1 locs1 → W p l e room_1 s m #[Value.ref b] below meth c H1 locs1 cells slots Q (F0 m 1320 ls [])) : W p l e room_1 s m #[Value.ref b] below meth c H locs cells slots Q (F0 m 707 ls []) := by
  obtain ⟨hx, hb, hml, hown, hts, hX, hbl, hbA, hi, hL, hl⟩ := id C
  obtain ⟨v, S1, M1, e1, e2, hR1⟩ := op_race hR hk
  refine lv_aload_n hx hb dL_law_707 rfl (lv_at hl 1 rfl) ?_
  refine kV (As := []) (rest := []) (st' := [.int v]) ⟨hx, hb, hml, hown, hts⟩ (kX4_race l G e1) (cwV 0 hts gL_law_X4_race rfl rfl rfl qqX4_race ⟨Nat.le_of_ble_eq_true rfl, Nat.le_of_ble_eq_true rfl⟩) hw (rvOw hw) rfl hl.1 rfl (Nat.le_of_ble_eq_true rfl) dL_law_708 hf rfl (fun H locs hw => ?_)
  refine lv_aload_n hx hb dL_law_711 rfl (lv_at hl 2 rfl) ?_
  refine kV (As := []) (rest := [.int v]) (st' := [.int v, .int v]) ⟨hx, hb, hml, hown, hts⟩ (kX5_race l G e2) (cwV 0 hts gL_law_X5_race rfl rfl rfl qqX5_race ⟨Nat.le_of_ble_eq_true rfl, Nat.le_of_ble_eq_true rfl⟩) hw (rvMd hw) rfl hl.1 rfl (Nat.le_of_ble_eq_true rfl) dL_law_712 hf rfl (fun H locs hw => ?_)
  exact lv_icmp_eq (tgt := 1320) hx hb dL_law_715 (by decide) (fun _ => kk S1 M1 _ _ hR1 hw) (fun z => absurd rfl z)
set_option maxRecDepth 100000 in
set_option maxHeartbeats 4000000 in
theorem lw_o_pace (C : lwC p s m c b L i xs G ls) (hf : cells ≤ room_1.cells ∧ slots ≤ room_1.slots) (hk : k < 512) (hR : Rel S M k) (hw : sHw G s S M H locs) (kk : ∀ (S' : sWo) (M' : sOb) (H1 : Heap) (locs1 : List Loc), Rel S' M' (k + 1) → sHw G s S' M' H1 locs1 → W p l e room_1 s m #[Value.ref b] below meth c H1 locs1 cells slots Q (F0 m 1320 ls [])) : W p l e room_1 s m #[Value.ref b] below meth c H locs cells slots Q (F0 m 720 ls []) := by
  obtain ⟨hx, hb, hml, hown, hts, hX, hbl, hbA, hi, hL, hl⟩ := id C
  obtain ⟨v, S1, M1, e1, e2, hR1⟩ := op_pace hR hk (xs (i + 1))
  refine lv_aload_n hx hb dL_law_720 rfl (lv_at hl 1 rfl) ?_
  refine lw_arg 1 (z := 1) C hw (by decide) (by decide) dL_law_721 dL_law_722 dL_law_723 dL_law_724 dL_law_725 ?_
  refine kV (As := [.int (xs (i + 1))]) (rest := []) (st' := [.int v]) ⟨hx, hb, hml, hown, hts⟩ (kX4_pace l G e1) (cwV 1 hts gL_law_X4_pace rfl rfl rfl qqX4_pace ⟨Nat.le_of_ble_eq_true rfl, Nat.le_of_ble_eq_true rfl⟩) hw (rvOw hw) rfl hl.1 rfl (Nat.le_of_ble_eq_true rfl) dL_law_726 hf rfl (fun H locs hw => ?_)
  refine lv_aload_n hx hb dL_law_729 rfl (lv_at hl 2 rfl) ?_
  refine lw_arg 1 (z := 1) C hw (by decide) (by decide) dL_law_730 dL_law_731 dL_law_732 dL_law_733 dL_law_734 ?_
  refine kV (As := [.int (xs (i + 1))]) (rest := [.int v]) (st' := [.int v, .int v]) ⟨hx, hb, hml, hown, hts⟩ (kX5_pace l G e2) (cwV 1 hts gL_law_X5_pace rfl rfl rfl qqX5_pace ⟨Nat.le_of_ble_eq_true rfl, Nat.le_of_ble_eq_true rfl⟩) hw (rvMd hw) rfl hl.1 rfl (Nat.le_of_ble_eq_true rfl) dL_law_735 hf rfl (fun H locs hw => ?_)
  exact lv_icmp_eq (tgt := 1320) hx hb dL_law_738 (by decide) (fun _ => kk S1 M1 _ _ hR1 hw) (fun z => absurd rfl z)
set_option maxRecDepth 100000 in
set_option maxHeartbeats 4000000 in
theorem lw_o_kind (C : lwC p s m c b L i xs G ls) (hf : cells ≤ room_1.cells ∧ slots ≤ room_1.slots) (hk : k < 512) (hR : Rel S M k) (hw : sHw G s S M H locs) (kk : ∀ (S' : sWo) (M' : sOb) (H1 : Heap) (locs1 : List Loc), Rel S' M' (k + 1) → sHw G s S' M' H1 locs1 → W p l e room_1 s m #[Value.ref b] below meth c H1 locs1 cells slots Q (F0 m 1320 ls [])) : W p l e room_1 s m #[Value.ref b] below meth c H locs cells slots Q (F0 m 743 ls []) := by
  obtain ⟨hx, hb, hml, hown, hts, hX, hbl, hbA, hi, hL, hl⟩ := id C
  obtain ⟨v, S1, M1, e1, e2, hR1⟩ := op_kind hR hk (xs (i + 1))
  refine lv_aload_n hx hb dL_law_743 rfl (lv_at hl 1 rfl) ?_
  refine lw_arg 1 (z := 1) C hw (by decide) (by decide) dL_law_744 dL_law_745 dL_law_746 dL_law_747 dL_law_748 ?_
  refine kV (As := [.int (xs (i + 1))]) (rest := []) (st' := [.int v]) ⟨hx, hb, hml, hown, hts⟩ (kX4_kind l G e1) (cwV 1 hts gL_law_X4_kind rfl rfl rfl qqX4_kind ⟨Nat.le_of_ble_eq_true rfl, Nat.le_of_ble_eq_true rfl⟩) hw (rvOw hw) rfl hl.1 rfl (Nat.le_of_ble_eq_true rfl) dL_law_749 hf rfl (fun H locs hw => ?_)
  refine lv_aload_n hx hb dL_law_752 rfl (lv_at hl 2 rfl) ?_
  refine lw_arg 1 (z := 1) C hw (by decide) (by decide) dL_law_753 dL_law_754 dL_law_755 dL_law_756 dL_law_757 ?_
  refine kV (As := [.int (xs (i + 1))]) (rest := [.int v]) (st' := [.int v, .int v]) ⟨hx, hb, hml, hown, hts⟩ (kX5_kind l G e2) (cwV 1 hts gL_law_X5_kind rfl rfl rfl qqX5_kind ⟨Nat.le_of_ble_eq_true rfl, Nat.le_of_ble_eq_true rfl⟩) hw (rvMd hw) rfl hl.1 rfl (Nat.le_of_ble_eq_true rfl) dL_law_758 hf rfl (fun H locs hw => ?_)
  exact lv_icmp_eq (tgt := 1320) hx hb dL_law_761 (by decide) (fun _ => kk S1 M1 _ _ hR1 hw) (fun z => absurd rfl z)
set_option maxRecDepth 100000 in
set_option maxHeartbeats 4000000 in
theorem lw_o_start (C : lwC p s m c b L i xs G ls) (hf : cells ≤ room_1.cells ∧ slots ≤ room_1.slots) (hk : k < 512) (hR : Rel S M k) (hw : sHw G s S M H locs) (kk : ∀ (S' : sWo) (M' : sOb) (H1 : Heap) (locs1 : List Loc), Rel S' M' (k + 1) → sHw G s S' M' H1 locs1 → W p l e room_1 s m #[Value.ref b] below meth c H1 locs1 cells slots Q (F0 m 1320 ls [])) : W p l e room_1 s m #[Value.ref b] below meth c H locs cells slots Q (F0 m 766 ls []) := by
  obtain ⟨hx, hb, hml, hown, hts, hX, hbl, hbA, hi, hL, hl⟩ := id C
  obtain ⟨v, S1, M1, e1, e2, hR1⟩ := op_start hR hk (xs (i + 1))
  refine lv_aload_n hx hb dL_law_766 rfl (lv_at hl 1 rfl) ?_
  refine lw_arg 1 (z := 1) C hw (by decide) (by decide) dL_law_767 dL_law_768 dL_law_769 dL_law_770 dL_law_771 ?_
  refine kV (As := [.int (xs (i + 1))]) (rest := []) (st' := [.int v]) ⟨hx, hb, hml, hown, hts⟩ (kX4_start l G e1) (cwV 1 hts gL_law_X4_start rfl rfl rfl qqX4_start ⟨Nat.le_of_ble_eq_true rfl, Nat.le_of_ble_eq_true rfl⟩) hw (rvOw hw) rfl hl.1 rfl (Nat.le_of_ble_eq_true rfl) dL_law_772 hf rfl (fun H locs hw => ?_)
  refine lv_aload_n hx hb dL_law_775 rfl (lv_at hl 2 rfl) ?_
  refine lw_arg 1 (z := 1) C hw (by decide) (by decide) dL_law_776 dL_law_777 dL_law_778 dL_law_779 dL_law_780 ?_
  refine kV (As := [.int (xs (i + 1))]) (rest := [.int v]) (st' := [.int v, .int v]) ⟨hx, hb, hml, hown, hts⟩ (kX5_start l G e2) (cwV 1 hts gL_law_X5_start rfl rfl rfl qqX5_start ⟨Nat.le_of_ble_eq_true rfl, Nat.le_of_ble_eq_true rfl⟩) hw (rvMd hw) rfl hl.1 rfl (Nat.le_of_ble_eq_true rfl) dL_law_781 hf rfl (fun H locs hw => ?_)
  exact lv_icmp_eq (tgt := 1320) hx hb dL_law_784 (by decide) (fun _ => kk S1 M1 _ _ hR1 hw) (fun z => absurd rfl z)
set_option maxRecDepth 100000 in
set_option maxHeartbeats 4000000 in
theorem lw_o_favours (C : lwC p s m c b L i xs G ls) (hf : cells ≤ room_1.cells ∧ slots ≤ room_1.slots) (hk : k < 512) (hR : Rel S M k) (hw : sHw G s S M H locs) (kk : ∀ (S' : sWo) (M' : sOb) (H1 : Heap) (locs1 : List Loc), Rel S' M' (k + 1) → sHw G s S' M' H1 locs1 → W p l e room_1 s m #[Value.ref b] below meth c H1 locs1 cells slots Q (F0 m 1320 ls [])) : W p l e room_1 s m #[Value.ref b] below meth c H locs cells slots Q (F0 m 789 ls []) := by
  obtain ⟨hx, hb, hml, hown, hts, hX, hbl, hbA, hi, hL, hl⟩ := id C
  obtain ⟨v, S1, M1, e1, e2, hR1⟩ := op_favours hR hk (xs (i + 1))
  refine lv_aload_n hx hb dL_law_789 rfl (lv_at hl 1 rfl) ?_
  refine lw_arg 1 (z := 1) C hw (by decide) (by decide) dL_law_790 dL_law_791 dL_law_792 dL_law_793 dL_law_794 ?_
  refine kV (As := [.int (xs (i + 1))]) (rest := []) (st' := [.int v]) ⟨hx, hb, hml, hown, hts⟩ (kX4_favours l G e1) (cwV 1 hts gL_law_X4_favours rfl rfl rfl qqX4_favours ⟨Nat.le_of_ble_eq_true rfl, Nat.le_of_ble_eq_true rfl⟩) hw (rvOw hw) rfl hl.1 rfl (Nat.le_of_ble_eq_true rfl) dL_law_795 hf rfl (fun H locs hw => ?_)
  refine lv_aload_n hx hb dL_law_798 rfl (lv_at hl 2 rfl) ?_
  refine lw_arg 1 (z := 1) C hw (by decide) (by decide) dL_law_799 dL_law_800 dL_law_801 dL_law_802 dL_law_803 ?_
  refine kV (As := [.int (xs (i + 1))]) (rest := [.int v]) (st' := [.int v, .int v]) ⟨hx, hb, hml, hown, hts⟩ (kX5_favours l G e2) (cwV 1 hts gL_law_X5_favours rfl rfl rfl qqX5_favours ⟨Nat.le_of_ble_eq_true rfl, Nat.le_of_ble_eq_true rfl⟩) hw (rvMd hw) rfl hl.1 rfl (Nat.le_of_ble_eq_true rfl) dL_law_804 hf rfl (fun H locs hw => ?_)
  exact lv_icmp_eq (tgt := 1320) hx hb dL_law_807 (by decide) (fun _ => kk S1 M1 _ _ hR1 hw) (fun z => absurd rfl z)
set_option maxRecDepth 100000 in
set_option maxHeartbeats 4000000 in
theorem lw_o_friend (C : lwC p s m c b L i xs G ls) (hf : cells ≤ room_1.cells ∧ slots ≤ room_1.slots) (hk : k < 512) (hR : Rel S M k) (hw : sHw G s S M H locs) (kk : ∀ (S' : sWo) (M' : sOb) (H1 : Heap) (locs1 : List Loc), Rel S' M' (k + 1) → sHw G s S' M' H1 locs1 → W p l e room_1 s m #[Value.ref b] below meth c H1 locs1 cells slots Q (F0 m 1320 ls [])) : W p l e room_1 s m #[Value.ref b] below meth c H locs cells slots Q (F0 m 812 ls []) := by
  obtain ⟨hx, hb, hml, hown, hts, hX, hbl, hbA, hi, hL, hl⟩ := id C
  obtain ⟨v, S1, M1, e1, e2, hR1⟩ := op_friend hR hk (xs (i + 1))
  refine lv_aload_n hx hb dL_law_812 rfl (lv_at hl 1 rfl) ?_
  refine lw_arg 1 (z := 1) C hw (by decide) (by decide) dL_law_813 dL_law_814 dL_law_815 dL_law_816 dL_law_817 ?_
  refine kV (As := [.int (xs (i + 1))]) (rest := []) (st' := [.int v]) ⟨hx, hb, hml, hown, hts⟩ (kX4_friend l G e1) (cwV 1 hts gL_law_X4_friend rfl rfl rfl qqX4_friend ⟨Nat.le_of_ble_eq_true rfl, Nat.le_of_ble_eq_true rfl⟩) hw (rvOw hw) rfl hl.1 rfl (Nat.le_of_ble_eq_true rfl) dL_law_818 hf rfl (fun H locs hw => ?_)
  refine lv_aload_n hx hb dL_law_821 rfl (lv_at hl 2 rfl) ?_
  refine lw_arg 1 (z := 1) C hw (by decide) (by decide) dL_law_822 dL_law_823 dL_law_824 dL_law_825 dL_law_826 ?_
  refine kV (As := [.int (xs (i + 1))]) (rest := [.int v]) (st' := [.int v, .int v]) ⟨hx, hb, hml, hown, hts⟩ (kX5_friend l G e2) (cwV 1 hts gL_law_X5_friend rfl rfl rfl qqX5_friend ⟨Nat.le_of_ble_eq_true rfl, Nat.le_of_ble_eq_true rfl⟩) hw (rvMd hw) rfl hl.1 rfl (Nat.le_of_ble_eq_true rfl) dL_law_827 hf rfl (fun H locs hw => ?_)
  exact lv_icmp_eq (tgt := 1320) hx hb dL_law_830 (by decide) (fun _ => kk S1 M1 _ _ hR1 hw) (fun z => absurd rfl z)
set_option maxRecDepth 100000 in
set_option maxHeartbeats 4000000 in
theorem lw_o_deal (C : lwC p s m c b L i xs G ls) (hf : cells ≤ room_1.cells ∧ slots ≤ room_1.slots) (hk : k < 512) (hR : Rel S M k) (hw : sHw G s S M H locs) (kk : ∀ (S' : sWo) (M' : sOb) (H1 : Heap) (locs1 : List Loc), Rel S' M' (k + 1) → sHw G s S' M' H1 locs1 → W p l e room_1 s m #[Value.ref b] below meth c H1 locs1 cells slots Q (F0 m 1320 ls [])) : W p l e room_1 s m #[Value.ref b] below meth c H locs cells slots Q (F0 m 835 ls []) := by
  obtain ⟨hx, hb, hml, hown, hts, hX, hbl, hbA, hi, hL, hl⟩ := id C
  obtain ⟨v, S1, M1, e1, e2, hR1⟩ := op_deal hR hk
  refine lv_aload_n hx hb dL_law_835 rfl (lv_at hl 1 rfl) ?_
  refine kV (As := []) (rest := []) (st' := [.int v]) ⟨hx, hb, hml, hown, hts⟩ (kX4_deal l G e1) (cwV 0 hts gL_law_X4_deal rfl rfl rfl qqX4_deal ⟨Nat.le_of_ble_eq_true rfl, Nat.le_of_ble_eq_true rfl⟩) hw (rvOw hw) rfl hl.1 rfl (Nat.le_of_ble_eq_true rfl) dL_law_836 hf rfl (fun H locs hw => ?_)
  refine lv_aload_n hx hb dL_law_839 rfl (lv_at hl 2 rfl) ?_
  refine kV (As := []) (rest := [.int v]) (st' := [.int v, .int v]) ⟨hx, hb, hml, hown, hts⟩ (kX5_deal l G e2) (cwV 0 hts gL_law_X5_deal rfl rfl rfl qqX5_deal ⟨Nat.le_of_ble_eq_true rfl, Nat.le_of_ble_eq_true rfl⟩) hw (rvMd hw) rfl hl.1 rfl (Nat.le_of_ble_eq_true rfl) dL_law_840 hf rfl (fun H locs hw => ?_)
  exact lv_icmp_eq (tgt := 1320) hx hb dL_law_843 (by decide) (fun _ => kk S1 M1 _ _ hR1 hw) (fun z => absurd rfl z)
set_option maxRecDepth 100000 in
set_option maxHeartbeats 4000000 in
theorem lw_o_fair (C : lwC p s m c b L i xs G ls) (hf : cells ≤ room_1.cells ∧ slots ≤ room_1.slots) (hk : k < 512) (hR : Rel S M k) (hw : sHw G s S M H locs) (kk : ∀ (S' : sWo) (M' : sOb) (H1 : Heap) (locs1 : List Loc), Rel S' M' (k + 1) → sHw G s S' M' H1 locs1 → W p l e room_1 s m #[Value.ref b] below meth c H1 locs1 cells slots Q (F0 m 1320 ls [])) : W p l e room_1 s m #[Value.ref b] below meth c H locs cells slots Q (F0 m 848 ls []) := by
  obtain ⟨hx, hb, hml, hown, hts, hX, hbl, hbA, hi, hL, hl⟩ := id C
  obtain ⟨v, S1, M1, e1, e2, hR1⟩ := op_fair hR hk
  refine lv_aload_n hx hb dL_law_848 rfl (lv_at hl 1 rfl) ?_
  refine kV (As := []) (rest := []) (st' := [.int v]) ⟨hx, hb, hml, hown, hts⟩ (kX4_fair l G e1) (cwV 0 hts gL_law_X4_fair rfl rfl rfl qqX4_fair ⟨Nat.le_of_ble_eq_true rfl, Nat.le_of_ble_eq_true rfl⟩) hw (rvOw hw) rfl hl.1 rfl (Nat.le_of_ble_eq_true rfl) dL_law_849 hf rfl (fun H locs hw => ?_)
  refine lv_aload_n hx hb dL_law_852 rfl (lv_at hl 2 rfl) ?_
  refine kV (As := []) (rest := [.int v]) (st' := [.int v, .int v]) ⟨hx, hb, hml, hown, hts⟩ (kX5_fair l G e2) (cwV 0 hts gL_law_X5_fair rfl rfl rfl qqX5_fair ⟨Nat.le_of_ble_eq_true rfl, Nat.le_of_ble_eq_true rfl⟩) hw (rvMd hw) rfl hl.1 rfl (Nat.le_of_ble_eq_true rfl) dL_law_853 hf rfl (fun H locs hw => ?_)
  exact lv_icmp_eq (tgt := 1320) hx hb dL_law_856 (by decide) (fun _ => kk S1 M1 _ _ hR1 hw) (fun z => absurd rfl z)
end LAW
