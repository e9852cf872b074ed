/-! THE LAW'S OPERATIONS (printed by wip/whole/law.py) -/
section LAW
variable {p : Program} {l : Launch} {e : Env} {s : State} {m : MethodId} {below : List Frame} {meth : Method} {c : Code} {H : Heap} {locs : List Loc} {cells slots : Nat} {Q : State → Prop} {b L i k : Nat} {xs : Nat → Int32} {G : sGl} {ls : Array Slot} {S : sWo} {M : sOb}
set_option maxRecDepth 100000 in
set_option maxHeartbeats 4000000 in
theorem lw_o_now (C : lwC p s m c b L i xs G ls) (hf : cells ≤ room_1.cells ∧ slots ≤ room_1.slots) (hk : k < 512) (hR : Rel S M k) (hw : sHw G s S M H locs) (kk : ∀ (S' : sWo) (M' : sOb) (H1 : Heap) (locs1 : List Loc), Rel S' M' (k + 1) → sHw G s S' M' H1 locs1 → W p l e room_1 s m #[Value.ref b] below meth c H1 locs1 cells slots Q (F0 m 1320 ls [])) : W p l e room_1 s m #[Value.ref b] below meth c H locs cells slots Q (F0 m 497 ls []) := by
  obtain ⟨hx, hb, hml, hown, hts, hX, hbl, hbA, hi, hL, hl⟩ := id C
  obtain ⟨v, S1, M1, e1, e2, hR1⟩ := op_now hR hk (xs (i + 1))
  refine lv_aload_n hx hb dL_law_497 rfl (lv_at hl 1 rfl) ?_
  refine lw_arg 1 (z := 1) C hw (by decide) (by decide) dL_law_498 dL_law_499 dL_law_500 dL_law_501 dL_law_502 ?_
  refine kV (As := [.int (xs (i + 1))]) (rest := []) (st' := [.int v]) ⟨hx, hb, hml, hown, hts⟩ (kX4_now l G e1) (cwV 1 hts gL_law_X4_now rfl rfl rfl qqX4_now ⟨Nat.le_of_ble_eq_true rfl, Nat.le_of_ble_eq_true rfl⟩) hw (rvOw hw) rfl hl.1 rfl (Nat.le_of_ble_eq_true rfl) dL_law_503 hf rfl (fun H locs hw => ?_)
  refine lv_aload_n hx hb dL_law_506 rfl (lv_at hl 2 rfl) ?_
  refine lw_arg 1 (z := 1) C hw (by decide) (by decide) dL_law_507 dL_law_508 dL_law_509 dL_law_510 dL_law_511 ?_
  refine kV (As := [.int (xs (i + 1))]) (rest := [.int v]) (st' := [.int v, .int v]) ⟨hx, hb, hml, hown, hts⟩ (kX5_now l G e2) (cwV 1 hts gL_law_X5_now rfl rfl rfl qqX5_now ⟨Nat.le_of_ble_eq_true rfl, Nat.le_of_ble_eq_true rfl⟩) hw (rvMd hw) rfl hl.1 rfl (Nat.le_of_ble_eq_true rfl) dL_law_512 hf rfl (fun H locs hw => ?_)
  exact lv_icmp_eq (tgt := 1320) hx hb dL_law_515 (by decide) (fun _ => kk S1 M1 _ _ hR1 hw) (fun z => absurd rfl z)
set_option maxRecDepth 100000 in
set_option maxHeartbeats 4000000 in
theorem lw_o_place (C : lwC p s m c b L i xs G ls) (hf : cells ≤ room_1.cells ∧ slots ≤ room_1.slots) (hk : k < 512) (hR : Rel S M k) (hw : sHw G s S M H locs) (kk : ∀ (S' : sWo) (M' : sOb) (H1 : Heap) (locs1 : List Loc), Rel S' M' (k + 1) → sHw G s S' M' H1 locs1 → W p l e room_1 s m #[Value.ref b] below meth c H1 locs1 cells slots Q (F0 m 1320 ls [])) : W p l e room_1 s m #[Value.ref b] below meth c H locs cells slots Q (F0 m 520 ls []) := by
  obtain ⟨hx, hb, hml, hown, hts, hX, hbl, hbA, hi, hL, hl⟩ := id C
  obtain ⟨v, S1, M1, e1, e2, hR1⟩ := op_place hR hk (xs (i + 1))
  refine lv_aload_n hx hb dL_law_520 rfl (lv_at hl 1 rfl) ?_
  refine lw_arg 1 (z := 1) C hw (by decide) (by decide) dL_law_521 dL_law_522 dL_law_523 dL_law_524 dL_law_525 ?_
  refine kV (As := [.int (xs (i + 1))]) (rest := []) (st' := [.int v]) ⟨hx, hb, hml, hown, hts⟩ (kX4_place l G e1) (cwV 1 hts gL_law_X4_place rfl rfl rfl qqX4_place ⟨Nat.le_of_ble_eq_true rfl, Nat.le_of_ble_eq_true rfl⟩) hw (rvOw hw) rfl hl.1 rfl (Nat.le_of_ble_eq_true rfl) dL_law_526 hf rfl (fun H locs hw => ?_)
  refine lv_aload_n hx hb dL_law_529 rfl (lv_at hl 2 rfl) ?_
  refine lw_arg 1 (z := 1) C hw (by decide) (by decide) dL_law_530 dL_law_531 dL_law_532 dL_law_533 dL_law_534 ?_
  refine kV (As := [.int (xs (i + 1))]) (rest := [.int v]) (st' := [.int v, .int v]) ⟨hx, hb, hml, hown, hts⟩ (kX5_place l G e2) (cwV 1 hts gL_law_X5_place rfl rfl rfl qqX5_place ⟨Nat.le_of_ble_eq_true rfl, Nat.le_of_ble_eq_true rfl⟩) hw (rvMd hw) rfl hl.1 rfl (Nat.le_of_ble_eq_true rfl) dL_law_535 hf rfl (fun H locs hw => ?_)
  exact lv_icmp_eq (tgt := 1320) hx hb dL_law_538 (by decide) (fun _ => kk S1 M1 _ _ hR1 hw) (fun z => absurd rfl z)
set_option maxRecDepth 100000 in
set_option maxHeartbeats 4000000 in
theorem lw_o_prize (C : lwC p s m c b L i xs G ls) (hf : cells ≤ room_1.cells ∧ slots ≤ room_1.slots) (hk : k < 512) (hR : Rel S M k) (hw : sHw G s S M H locs) (kk : ∀ (S' : sWo) (M' : sOb) (H1 : Heap) (locs1 : List Loc), Rel S' M' (k + 1) → sHw G s S' M' H1 locs1 → W p l e room_1 s m #[Value.ref b] below meth c H1 locs1 cells slots Q (F0 m 1320 ls [])) : W p l e room_1 s m #[Value.ref b] below meth c H locs cells slots Q (F0 m 543 ls []) := by
  obtain ⟨hx, hb, hml, hown, hts, hX, hbl, hbA, hi, hL, hl⟩ := id C
  obtain ⟨v, S1, M1, e1, e2, hR1⟩ := op_prize hR hk
  refine lv_aload_n hx hb dL_law_543 rfl (lv_at hl 1 rfl) ?_
  refine kV (As := []) (rest := []) (st' := [.int v]) ⟨hx, hb, hml, hown, hts⟩ (kX4_prize l G e1) (cwV 0 hts gL_law_X4_prize rfl rfl rfl qqX4_prize ⟨Nat.le_of_ble_eq_true rfl, Nat.le_of_ble_eq_true rfl⟩) hw (rvOw hw) rfl hl.1 rfl (Nat.le_of_ble_eq_true rfl) dL_law_544 hf rfl (fun H locs hw => ?_)
  refine lv_aload_n hx hb dL_law_547 rfl (lv_at hl 2 rfl) ?_
  refine kV (As := []) (rest := [.int v]) (st' := [.int v, .int v]) ⟨hx, hb, hml, hown, hts⟩ (kX5_prize l G e2) (cwV 0 hts gL_law_X5_prize rfl rfl rfl qqX5_prize ⟨Nat.le_of_ble_eq_true rfl, Nat.le_of_ble_eq_true rfl⟩) hw (rvMd hw) rfl hl.1 rfl (Nat.le_of_ble_eq_true rfl) dL_law_548 hf rfl (fun H locs hw => ?_)
  exact lv_icmp_eq (tgt := 1320) hx hb dL_law_551 (by decide) (fun _ => kk S1 M1 _ _ hR1 hw) (fun z => absurd rfl z)
set_option maxRecDepth 100000 in
set_option maxHeartbeats 4000000 in
theorem lw_o_score (C : lwC p s m c b L i xs G ls) (hf : cells ≤ room_1.cells ∧ slots ≤ room_1.slots) (hk : k < 512) (hR : Rel S M k) (hw : sHw G s S M H locs) (kk : ∀ (S' : sWo) (M' : sOb) (H1 : Heap) (locs1 : List Loc), Rel S' M' (k + 1) → sHw G s S' M' H1 locs1 → W p l e room_1 s m #[Value.ref b] below meth c H1 locs1 cells slots Q (F0 m 1320 ls [])) : W p l e room_1 s m #[Value.ref b] below meth c H locs cells slots Q (F0 m 556 ls []) := by
  obtain ⟨hx, hb, hml, hown, hts, hX, hbl, hbA, hi, hL, hl⟩ := id C
  obtain ⟨v, S1, M1, e1, e2, hR1⟩ := op_score hR hk
  refine lv_aload_n hx hb dL_law_556 rfl (lv_at hl 1 rfl) ?_
  refine kV (As := []) (rest := []) (st' := [.int v]) ⟨hx, hb, hml, hown, hts⟩ (kX4_score l G e1) (cwV 0 hts gL_law_X4_score rfl rfl rfl qqX4_score ⟨Nat.le_of_ble_eq_true rfl, Nat.le_of_ble_eq_true rfl⟩) hw (rvOw hw) rfl hl.1 rfl (Nat.le_of_ble_eq_true rfl) dL_law_557 hf rfl (fun H locs hw => ?_)
  refine lv_aload_n hx hb dL_law_560 rfl (lv_at hl 2 rfl) ?_
  refine kV (As := []) (rest := [.int v]) (st' := [.int v, .int v]) ⟨hx, hb, hml, hown, hts⟩ (kX5_score l G e2) (cwV 0 hts gL_law_X5_score rfl rfl rfl qqX5_score ⟨Nat.le_of_ble_eq_true rfl, Nat.le_of_ble_eq_true rfl⟩) hw (rvMd hw) rfl hl.1 rfl (Nat.le_of_ble_eq_true rfl) dL_law_561 hf rfl (fun H locs hw => ?_)
  exact lv_icmp_eq (tgt := 1320) hx hb dL_law_564 (by decide) (fun _ => kk S1 M1 _ _ hR1 hw) (fun z => absurd rfl z)
set_option maxRecDepth 100000 in
set_option maxHeartbeats 4000000 in
theorem lw_o_leads (C : lwC p s m c b L i xs G ls) (hf : cells ≤ room_1.cells ∧ slots ≤ room_1.slots) (hk : k < 512) (hR : Rel S M k) (hw : sHw G s S M H locs) (kk : ∀ (S' : sWo) (M' : sOb) (H1 : Heap) (locs1 : List Loc), Rel S' M' (k + 1) → sHw G s S' M' H1 locs1 → W p l e room_1 s m #[Value.ref b] below meth c H1 locs1 cells slots Q (F0 m 1320 ls [])) : W p l e room_1 s m #[Value.ref b] below meth c H locs cells slots Q (F0 m 569 ls []) := by
  obtain ⟨hx, hb, hml, hown, hts, hX, hbl, hbA, hi, hL, hl⟩ := id C
  obtain ⟨v, S1, M1, e1, e2, hR1⟩ := op_leads hR hk
  refine lv_aload_n hx hb dL_law_569 rfl (lv_at hl 1 rfl) ?_
  refine kV (As := []) (rest := []) (st' := [.int v]) ⟨hx, hb, hml, hown, hts⟩ (kX4_leads l G e1) (cwV 0 hts gL_law_X4_leads rfl rfl rfl qqX4_leads ⟨Nat.le_of_ble_eq_true rfl, Nat.le_of_ble_eq_true rfl⟩) hw (rvOw hw) rfl hl.1 rfl (Nat.le_of_ble_eq_true rfl) dL_law_570 hf rfl (fun H locs hw => ?_)
  refine lv_aload_n hx hb dL_law_573 rfl (lv_at hl 2 rfl) ?_
  refine kV (As := []) (rest := [.int v]) (st' := [.int v, .int v]) ⟨hx, hb, hml, hown, hts⟩ (kX5_leads l G e2) (cwV 0 hts gL_law_X5_leads rfl rfl rfl qqX5_leads ⟨Nat.le_of_ble_eq_true rfl, Nat.le_of_ble_eq_true rfl⟩) hw (rvMd hw) rfl hl.1 rfl (Nat.le_of_ble_eq_true rfl) dL_law_574 hf rfl (fun H locs hw => ?_)
  exact lv_icmp_eq (tgt := 1320) hx hb dL_law_577 (by decide) (fun _ => kk S1 M1 _ _ hR1 hw) (fun z => absurd rfl z)
set_option maxRecDepth 100000 in
set_option maxHeartbeats 4000000 in
theorem lw_o_on (C : lwC p s m c b L i xs G ls) (hf : cells ≤ room_1.cells ∧ slots ≤ room_1.slots) (hk : k < 512) (hR : Rel S M k) (hw : sHw G s S M H locs) (kk : ∀ (S' : sWo) (M' : sOb) (H1 : Heap) (locs1 : List Loc), Rel S' M' (k + 1) → sHw G s S' M' H1 locs1 → W p l e room_1 s m #[Value.ref b] below meth c H1 locs1 cells slots Q (F0 m 1320 ls [])) : W p l e room_1 s m #[Value.ref b] below meth c H locs cells slots Q (F0 m 582 ls []) := by
  obtain ⟨hx, hb, hml, hown, hts, hX, hbl, hbA, hi, hL, hl⟩ := id C
  obtain ⟨v, S1, M1, e1, e2, hR1⟩ := op_on hR hk (xs (i + 1)) (xs (i + 2))
  refine lv_aload_n hx hb dL_law_582 rfl (lv_at hl 1 rfl) ?_
  refine lw_arg 1 (z := 1) C hw (by decide) (by decide) dL_law_583 dL_law_584 dL_law_585 dL_law_586 dL_law_587 ?_
  refine lw_arg 2 (z := 2) C hw (by decide) (by decide) dL_law_588 dL_law_589 dL_law_590 dL_law_591 dL_law_592 ?_
  refine kV (As := [.int (xs (i + 1)), .int (xs (i + 2))]) (rest := []) (st' := [.int v]) ⟨hx, hb, hml, hown, hts⟩ (kX4_on l G e1) (cwV 2 hts gL_law_X4_on rfl rfl rfl qqX4_on ⟨Nat.le_of_ble_eq_true rfl, Nat.le_of_ble_eq_true rfl⟩) hw (rvOw hw) rfl hl.1 rfl (Nat.le_of_ble_eq_true rfl) dL_law_593 hf rfl (fun H locs hw => ?_)
  refine lv_aload_n hx hb dL_law_596 rfl (lv_at hl 2 rfl) ?_
  refine lw_arg 1 (z := 1) C hw (by decide) (by decide) dL_law_597 dL_law_598 dL_law_599 dL_law_600 dL_law_601 ?_
  refine lw_arg 2 (z := 2) C hw (by decide) (by decide) dL_law_602 dL_law_603 dL_law_604 dL_law_605 dL_law_606 ?_
  refine kV (As := [.int (xs (i + 1)), .int (xs (i + 2))]) (rest := [.int v]) (st' := [.int v, .int v]) ⟨hx, hb, hml, hown, hts⟩ (kX5_on l G e2) (cwV 2 hts gL_law_X5_on rfl rfl rfl qqX5_on ⟨Nat.le_of_ble_eq_true rfl, Nat.le_of_ble_eq_true rfl⟩) hw (rvMd hw) rfl hl.1 rfl (Nat.le_of_ble_eq_true rfl) dL_law_607 hf rfl (fun H locs hw => ?_)
  exact lv_icmp_eq (tgt := 1320) hx hb dL_law_610 (by decide) (fun _ => kk S1 M1 _ _ hR1 hw) (fun z => absurd rfl z)
set_option maxRecDepth 100000 in
set_option maxHeartbeats 4000000 in
theorem lw_o_home (C : lwC p s m c b L i xs G ls) (hf : cells ≤ room_1.cells ∧ slots ≤ room_1.slots) (hk : k < 512) (hR : Rel S M k) (hw : sHw G s S M H locs) (kk : ∀ (S' : sWo) (M' : sOb) (H1 : Heap) (locs1 : List Loc), Rel S' M' (k + 1) → sHw G s S' M' H1 locs1 → W p l e room_1 s m #[Value.ref b] below meth c H1 locs1 cells slots Q (F0 m 1320 ls [])) : W p l e room_1 s m #[Value.ref b] below meth c H locs cells slots Q (F0 m 615 ls []) := by
  obtain ⟨hx, hb, hml, hown, hts, hX, hbl, hbA, hi, hL, hl⟩ := id C
  obtain ⟨v, S1, M1, e1, e2, hR1⟩ := op_home hR hk (xs (i + 1))
  refine lv_aload_n hx hb dL_law_615 rfl (lv_at hl 1 rfl) ?_
  refine lw_arg 1 (z := 1) C hw (by decide) (by decide) dL_law_616 dL_law_617 dL_law_618 dL_law_619 dL_law_620 ?_
  refine kV (As := [.int (xs (i + 1))]) (rest := []) (st' := [.int v]) ⟨hx, hb, hml, hown, hts⟩ (kX4_home l G e1) (cwV 1 hts gL_law_X4_home rfl rfl rfl qqX4_home ⟨Nat.le_of_ble_eq_true rfl, Nat.le_of_ble_eq_true rfl⟩) hw (rvOw hw) rfl hl.1 rfl (Nat.le_of_ble_eq_true rfl) dL_law_621 hf rfl (fun H locs hw => ?_)
  refine lv_aload_n hx hb dL_law_624 rfl (lv_at hl 2 rfl) ?_
  refine lw_arg 1 (z := 1) C hw (by decide) (by decide) dL_law_625 dL_law_626 dL_law_627 dL_law_628 dL_law_629 ?_
  refine kV (As := [.int (xs (i + 1))]) (rest := [.int v]) (st' := [.int v, .int v]) ⟨hx, hb, hml, hown, hts⟩ (kX5_home l G e2) (cwV 1 hts gL_law_X5_home rfl rfl rfl qqX5_home ⟨Nat.le_of_ble_eq_true rfl, Nat.le_of_ble_eq_true rfl⟩) hw (rvMd hw) rfl hl.1 rfl (Nat.le_of_ble_eq_true rfl) dL_law_630 hf rfl (fun H locs hw => ?_)
  exact lv_icmp_eq (tgt := 1320) hx hb dL_law_633 (by decide) (fun _ => kk S1 M1 _ _ hR1 hw) (fun z => absurd rfl z)
set_option maxRecDepth 100000 in
set_option maxHeartbeats 4000000 in
theorem lw_o_prizeBy (C : lwC p s m c b L i xs G ls) (hf : cells ≤ room_1.cells ∧ slots ≤ room_1.slots) (hk : k < 512) (hR : Rel S M k) (hw : sHw G s S M H locs) (kk : ∀ (S' : sWo) (M' : sOb) (H1 : Heap) (locs1 : List Loc), Rel S' M' (k + 1) → sHw G s S' M' H1 locs1 → W p l e room_1 s m #[Value.ref b] below meth c H1 locs1 cells slots Q (F0 m 1320 ls [])) : W p l e room_1 s m #[Value.ref b] below meth c H locs cells slots Q (F0 m 638 ls []) := by
  obtain ⟨hx, hb, hml, hown, hts, hX, hbl, hbA, hi, hL, hl⟩ := id C
  obtain ⟨v, S1, M1, e1, e2, hR1⟩ := op_prizeBy hR hk (xs (i + 1))
  refine lv_aload_n hx hb dL_law_638 rfl (lv_at hl 1 rfl) ?_
  refine lw_arg 1 (z := 1) C hw (by decide) (by decide) dL_law_639 dL_law_640 dL_law_641 dL_law_642 dL_law_643 ?_
  refine kV (As := [.int (xs (i + 1))]) (rest := []) (st' := [.int v]) ⟨hx, hb, hml, hown, hts⟩ (kX4_prizeBy l G e1) (cwV 1 hts gL_law_X4_prizeBy rfl rfl rfl qqX4_prizeBy ⟨Nat.le_of_ble_eq_true rfl, Nat.le_of_ble_eq_true rfl⟩) hw (rvOw hw) rfl hl.1 rfl (Nat.le_of_ble_eq_true rfl) dL_law_644 hf rfl (fun H locs hw => ?_)
  refine lv_aload_n hx hb dL_law_647 rfl (lv_at hl 2 rfl) ?_
  refine lw_arg 1 (z := 1) C hw (by decide) (by decide) dL_law_648 dL_law_649 dL_law_650 dL_law_651 dL_law_652 ?_
  refine kV (As := [.int (xs (i + 1))]) (rest := [.int v]) (st' := [.int v, .int v]) ⟨hx, hb, hml, hown, hts⟩ (kX5_prizeBy l G e2) (cwV 1 hts gL_law_X5_prizeBy rfl rfl rfl qqX5_prizeBy ⟨Nat.le_of_ble_eq_true rfl, Nat.le_of_ble_eq_true rfl⟩) hw (rvMd hw) rfl hl.1 rfl (Nat.le_of_ble_eq_true rfl) dL_law_653 hf rfl (fun H locs hw => ?_)
  exact lv_icmp_eq (tgt := 1320) hx hb dL_law_656 (by decide) (fun _ => kk S1 M1 _ _ hR1 hw) (fun z => absurd rfl z)
set_option maxRecDepth 100000 in
set_option maxHeartbeats 4000000 in
theorem lw_o_leaders (C : lwC p s m c b L i xs G ls) (hf : cells ≤ room_1.cells ∧ slots ≤ room_1.slots) (hk : k < 512) (hR : Rel S M k) (hw : sHw G s S M H locs) (kk : ∀ (S' : sWo) (M' : sOb) (H1 : Heap) (locs1 : List Loc), Rel S' M' (k + 1) → sHw G s S' M' H1 locs1 → W p l e room_1 s m #[Value.ref b] below meth c H1 locs1 cells slots Q (F0 m 1320 ls [])) : W p l e room_1 s m #[Value.ref b] below meth c H locs cells slots Q (F0 m 661 ls []) := by
  obtain ⟨hx, hb, hml, hown, hts, hX, hbl, hbA, hi, hL, hl⟩ := id C
  obtain ⟨v, S1, M1, e1, e2, hR1⟩ := op_leaders hR hk
  refine lv_aload_n hx hb dL_law_661 rfl (lv_at hl 1 rfl) ?_
  refine kV (As := []) (rest := []) (st' := [.int v]) ⟨hx, hb, hml, hown, hts⟩ (kX4_leaders l G e1) (cwV 0 hts gL_law_X4_leaders rfl rfl rfl qqX4_leaders ⟨Nat.le_of_ble_eq_true rfl, Nat.le_of_ble_eq_true rfl⟩) hw (rvOw hw) rfl hl.1 rfl (Nat.le_of_ble_eq_true rfl) dL_law_662 hf rfl (fun H locs hw => ?_)
  refine lv_aload_n hx hb dL_law_665 rfl (lv_at hl 2 rfl) ?_
  refine kV (As := []) (rest := [.int v]) (st' := [.int v, .int v]) ⟨hx, hb, hml, hown, hts⟩ (kX5_leaders l G e2) (cwV 0 hts gL_law_X5_leaders rfl rfl rfl qqX5_leaders ⟨Nat.le_of_ble_eq_true rfl, Nat.le_of_ble_eq_true rfl⟩) hw (rvMd hw) rfl hl.1 rfl (Nat.le_of_ble_eq_true rfl) dL_law_666 hf rfl (fun H locs hw => ?_)
  exact lv_icmp_eq (tgt := 1320) hx hb dL_law_669 (by decide) (fun _ => kk S1 M1 _ _ hR1 hw) (fun z => absurd rfl z)
end LAW
