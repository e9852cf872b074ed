/-! THE LAW'S OPERATIONS (printed by wip/whole/law.py) -/
def wv (xs : Nat → Int32) (i : Nat) : Int64 := ((xs (i + 3)).toInt64 <<< ((32 : Int32).toInt64 &&& 63)) ||| ((xs (i + 4)).toInt64 &&& 4294967295)
theorem lw_cmp (v : Int64) : lg_cmp v v = 0 := by
  unfold lg_cmp
  simp
section LAW
variable {p : Program} {l : Launch} {e : Env} {s : State} {m : MethodId} {below : List Frame} {meth : Method} {c : Code} {H : Heap} {locs : List Loc} {cells slots : Nat} {Q : State → Prop} {b L i k : Nat} {xs : Nat → Int32} {G : sGl} {ls : Array Slot} {S : sWo} {M : sOb}
set_option maxRecDepth 100000 in
set_option maxHeartbeats 4000000 in
theorem lw_o_odds (C : lwC p s m c b L i xs G ls) (hf : cells ≤ room_1.cells ∧ slots ≤ room_1.slots) (hk : k < 512) (hR : Rel S M k) (hw : sHw G s S M H locs) (kk : ∀ (S' : sWo) (M' : sOb) (H1 : Heap) (locs1 : List Loc), Rel S' M' (k + 1) → sHw G s S' M' H1 locs1 → W p l e room_1 s m #[Value.ref b] below meth c H1 locs1 cells slots Q (F0 m 1320 ls [])) : W p l e room_1 s m #[Value.ref b] below meth c H locs cells slots Q (F0 m 861 ls []) := by
  obtain ⟨hx, hb, hml, hown, hts, hX, hbl, hbA, hi, hL, hl⟩ := id C
  obtain ⟨v, S1, M1, e1, e2, hR1⟩ := op_odds hR hk (xs (i + 1)) (xs (i + 2)) (xs (i + 3))
  refine lv_aload_n hx hb dL_law_861 rfl (lv_at hl 1 rfl) ?_
  refine lw_arg 1 (z := 1) C hw (by decide) (by decide) dL_law_862 dL_law_863 dL_law_864 dL_law_865 dL_law_866 ?_
  refine lw_arg 2 (z := 2) C hw (by decide) (by decide) dL_law_867 dL_law_868 dL_law_869 dL_law_870 dL_law_871 ?_
  refine lw_arg 3 (z := 3) C hw (by decide) (by decide) dL_law_872 dL_law_873 dL_law_874 dL_law_875 dL_law_876 ?_
  refine kV (As := [.int (xs (i + 1)), .int (xs (i + 2)), .int (xs (i + 3))]) (rest := []) (st' := [.int v]) ⟨hx, hb, hml, hown, hts⟩ (kX4_odds l G e1) (cwV 3 hts gL_law_X4_odds rfl rfl rfl qqX4_odds ⟨Nat.le_of_ble_eq_true rfl, Nat.le_of_ble_eq_true rfl⟩) hw (rvOw hw) rfl hl.1 rfl (Nat.le_of_ble_eq_true rfl) dL_law_877 hf rfl (fun H locs hw => ?_)
  refine lv_aload_n hx hb dL_law_880 rfl (lv_at hl 2 rfl) ?_
  refine lw_arg 1 (z := 1) C hw (by decide) (by decide) dL_law_881 dL_law_882 dL_law_883 dL_law_884 dL_law_885 ?_
  refine lw_arg 2 (z := 2) C hw (by decide) (by decide) dL_law_886 dL_law_887 dL_law_888 dL_law_889 dL_law_890 ?_
  refine lw_arg 3 (z := 3) C hw (by decide) (by decide) dL_law_891 dL_law_892 dL_law_893 dL_law_894 dL_law_895 ?_
  refine kV (As := [.int (xs (i + 1)), .int (xs (i + 2)), .int (xs (i + 3))]) (rest := [.int v]) (st' := [.int v, .int v]) ⟨hx, hb, hml, hown, hts⟩ (kX5_odds l G e2) (cwV 3 hts gL_law_X5_odds rfl rfl rfl qqX5_odds ⟨Nat.le_of_ble_eq_true rfl, Nat.le_of_ble_eq_true rfl⟩) hw (rvMd hw) rfl hl.1 rfl (Nat.le_of_ble_eq_true rfl) dL_law_896 hf rfl (fun H locs hw => ?_)
  exact lv_icmp_eq (tgt := 1320) hx hb dL_law_899 (by decide) (fun _ => kk S1 M1 _ _ hR1 hw) (fun z => absurd rfl z)
set_option maxRecDepth 100000 in
set_option maxHeartbeats 4000000 in
theorem lw_o_unwilling (C : lwC p s m c b L i xs G ls) (hf : cells ≤ room_1.cells ∧ slots ≤ room_1.slots) (hk : k < 512) (hR : Rel S M k) (hw : sHw G s S M H locs) (kk : ∀ (S' : sWo) (M' : sOb) (H1 : Heap) (locs1 : List Loc), Rel S' M' (k + 1) → sHw G s S' M' H1 locs1 → W p l e room_1 s m #[Value.ref b] below meth c H1 locs1 cells slots Q (F0 m 1320 ls [])) : W p l e room_1 s m #[Value.ref b] below meth c H locs cells slots Q (F0 m 904 ls []) := by
  obtain ⟨hx, hb, hml, hown, hts, hX, hbl, hbA, hi, hL, hl⟩ := id C
  obtain ⟨v, S1, M1, e1, e2, hR1⟩ := op_unwilling hR hk
  refine lv_aload_n hx hb dL_law_904 rfl (lv_at hl 1 rfl) ?_
  refine kV (As := []) (rest := []) (st' := [.int v]) ⟨hx, hb, hml, hown, hts⟩ (kX4_unwilling l G e1) (cwV 0 hts gL_law_X4_unwilling rfl rfl rfl qqX4_unwilling ⟨Nat.le_of_ble_eq_true rfl, Nat.le_of_ble_eq_true rfl⟩) hw (rvOw hw) rfl hl.1 rfl (Nat.le_of_ble_eq_true rfl) dL_law_905 hf rfl (fun H locs hw => ?_)
  refine lv_aload_n hx hb dL_law_908 rfl (lv_at hl 2 rfl) ?_
  refine kV (As := []) (rest := [.int v]) (st' := [.int v, .int v]) ⟨hx, hb, hml, hown, hts⟩ (kX5_unwilling l G e2) (cwV 0 hts gL_law_X5_unwilling rfl rfl rfl qqX5_unwilling ⟨Nat.le_of_ble_eq_true rfl, Nat.le_of_ble_eq_true rfl⟩) hw (rvMd hw) rfl hl.1 rfl (Nat.le_of_ble_eq_true rfl) dL_law_909 hf rfl (fun H locs hw => ?_)
  exact lv_icmp_eq (tgt := 1320) hx hb dL_law_912 (by decide) (fun _ => kk S1 M1 _ _ hR1 hw) (fun z => absurd rfl z)
set_option maxRecDepth 100000 in
set_option maxHeartbeats 4000000 in
theorem lw_o_feed (C : lwC p s m c b L i xs G ls) (hf : cells ≤ room_1.cells ∧ slots ≤ room_1.slots) (hk : k < 512) (hR : Rel S M k) (hw : sHw G s S M H locs) (kk : ∀ (S' : sWo) (M' : sOb) (H1 : Heap) (locs1 : List Loc), Rel S' M' (k + 1) → sHw G s S' M' H1 locs1 → W p l e room_1 s m #[Value.ref b] below meth c H1 locs1 cells slots Q (F0 m 1320 ls [])) : W p l e room_1 s m #[Value.ref b] below meth c H locs cells slots Q (F0 m 917 ls []) := by
  obtain ⟨hx, hb, hml, hown, hts, hX, hbl, hbA, hi, hL, hl⟩ := id C
  obtain ⟨v, S1, M1, e1, e2, hR1⟩ := op_feed hR hk (xs (i + 1)) (xs (i + 2))
  refine lv_aload_n hx hb dL_law_917 rfl (lv_at hl 1 rfl) ?_
  refine lw_arg 1 (z := 1) C hw (by decide) (by decide) dL_law_918 dL_law_919 dL_law_920 dL_law_921 dL_law_922 ?_
  refine lw_arg 2 (z := 2) C hw (by decide) (by decide) dL_law_923 dL_law_924 dL_law_925 dL_law_926 dL_law_927 ?_
  refine kV (As := [.int (xs (i + 1)), .int (xs (i + 2))]) (rest := []) (st' := [.int v]) ⟨hx, hb, hml, hown, hts⟩ (kX4_feed l G e1) (cwV 2 hts gL_law_X4_feed rfl rfl rfl qqX4_feed ⟨Nat.le_of_ble_eq_true rfl, Nat.le_of_ble_eq_true rfl⟩) hw (rvOw hw) rfl hl.1 rfl (Nat.le_of_ble_eq_true rfl) dL_law_928 hf rfl (fun H locs hw => ?_)
  refine lv_aload_n hx hb dL_law_931 rfl (lv_at hl 2 rfl) ?_
  refine lw_arg 1 (z := 1) C hw (by decide) (by decide) dL_law_932 dL_law_933 dL_law_934 dL_law_935 dL_law_936 ?_
  refine lw_arg 2 (z := 2) C hw (by decide) (by decide) dL_law_937 dL_law_938 dL_law_939 dL_law_940 dL_law_941 ?_
  refine kV (As := [.int (xs (i + 1)), .int (xs (i + 2))]) (rest := [.int v]) (st' := [.int v, .int v]) ⟨hx, hb, hml, hown, hts⟩ (kX5_feed l G e2) (cwV 2 hts gL_law_X5_feed rfl rfl rfl qqX5_feed ⟨Nat.le_of_ble_eq_true rfl, Nat.le_of_ble_eq_true rfl⟩) hw (rvMd hw) rfl hl.1 rfl (Nat.le_of_ble_eq_true rfl) dL_law_942 hf rfl (fun H locs hw => ?_)
  exact lv_icmp_eq (tgt := 1320) hx hb dL_law_945 (by decide) (fun _ => kk S1 M1 _ _ hR1 hw) (fun z => absurd rfl z)
set_option maxRecDepth 100000 in
set_option maxHeartbeats 4000000 in
theorem lw_o_wipe (C : lwC p s m c b L i xs G ls) (hf : cells ≤ room_1.cells ∧ slots ≤ room_1.slots) (hk : k < 512) (hR : Rel S M k) (hw : sHw G s S M H locs) (kk : ∀ (S' : sWo) (M' : sOb) (H1 : Heap) (locs1 : List Loc), Rel S' M' (k + 1) → sHw G s S' M' H1 locs1 → W p l e room_1 s m #[Value.ref b] below meth c H1 locs1 cells slots Q (F0 m 1320 ls [])) : W p l e room_1 s m #[Value.ref b] below meth c H locs cells slots Q (F0 m 950 ls []) := by
  obtain ⟨hx, hb, hml, hown, hts, hX, hbl, hbA, hi, hL, hl⟩ := id C
  obtain ⟨v, S1, M1, e1, e2, hR1⟩ := op_wipe hR hk
  refine lv_aload_n hx hb dL_law_950 rfl (lv_at hl 1 rfl) ?_
  refine kV (As := []) (rest := []) (st' := [.int v]) ⟨hx, hb, hml, hown, hts⟩ (kX4_wipe l G e1) (cwV 0 hts gL_law_X4_wipe rfl rfl rfl qqX4_wipe ⟨Nat.le_of_ble_eq_true rfl, Nat.le_of_ble_eq_true rfl⟩) hw (rvOw hw) rfl hl.1 rfl (Nat.le_of_ble_eq_true rfl) dL_law_951 hf rfl (fun H locs hw => ?_)
  refine lv_aload_n hx hb dL_law_954 rfl (lv_at hl 2 rfl) ?_
  refine kV (As := []) (rest := [.int v]) (st' := [.int v, .int v]) ⟨hx, hb, hml, hown, hts⟩ (kX5_wipe l G e2) (cwV 0 hts gL_law_X5_wipe rfl rfl rfl qqX5_wipe ⟨Nat.le_of_ble_eq_true rfl, Nat.le_of_ble_eq_true rfl⟩) hw (rvMd hw) rfl hl.1 rfl (Nat.le_of_ble_eq_true rfl) dL_law_955 hf rfl (fun H locs hw => ?_)
  exact lv_icmp_eq (tgt := 1320) hx hb dL_law_958 (by decide) (fun _ => kk S1 M1 _ _ hR1 hw) (fun z => absurd rfl z)
set_option maxRecDepth 100000 in
set_option maxHeartbeats 4000000 in
theorem lw_o_text (C : lwC p s m c b L i xs G ls) (hf : cells ≤ room_1.cells ∧ slots ≤ room_1.slots) (hk : k < 512) (hR : Rel S M k) (hw : sHw G s S M H locs) (kk : ∀ (S' : sWo) (M' : sOb) (H1 : Heap) (locs1 : List Loc), Rel S' M' (k + 1) → sHw G s S' M' H1 locs1 → W p l e room_1 s m #[Value.ref b] below meth c H1 locs1 cells slots Q (F0 m 1320 ls [])) : W p l e room_1 s m #[Value.ref b] below meth c H locs cells slots Q (F0 m 963 ls []) := by
  obtain ⟨hx, hb, hml, hown, hts, hX, hbl, hbA, hi, hL, hl⟩ := id C
  obtain ⟨v, S1, M1, e1, e2, hR1⟩ := op_text hR hk
  refine lv_aload_n hx hb dL_law_963 rfl (lv_at hl 1 rfl) ?_
  refine kV (As := []) (rest := []) (st' := [.int v]) ⟨hx, hb, hml, hown, hts⟩ (kX4_text l G e1) (cwV 0 hts gL_law_X4_text rfl rfl rfl qqX4_text ⟨Nat.le_of_ble_eq_true rfl, Nat.le_of_ble_eq_true rfl⟩) hw (rvOw hw) rfl hl.1 rfl (Nat.le_of_ble_eq_true rfl) dL_law_964 hf rfl (fun H locs hw => ?_)
  refine lv_aload_n hx hb dL_law_967 rfl (lv_at hl 2 rfl) ?_
  refine kV (As := []) (rest := [.int v]) (st' := [.int v, .int v]) ⟨hx, hb, hml, hown, hts⟩ (kX5_text l G e2) (cwV 0 hts gL_law_X5_text rfl rfl rfl qqX5_text ⟨Nat.le_of_ble_eq_true rfl, Nat.le_of_ble_eq_true rfl⟩) hw (rvMd hw) rfl hl.1 rfl (Nat.le_of_ble_eq_true rfl) dL_law_968 hf rfl (fun H locs hw => ?_)
  exact lv_icmp_eq (tgt := 1320) hx hb dL_law_971 (by decide) (fun _ => kk S1 M1 _ _ hR1 hw) (fun z => absurd rfl z)
set_option maxRecDepth 100000 in
set_option maxHeartbeats 4000000 in
theorem lw_o_sheet (C : lwC p s m c b L i xs G ls) (hf : cells ≤ room_1.cells ∧ slots ≤ room_1.slots) (hk : k < 512) (hR : Rel S M k) (hw : sHw G s S M H locs) (kk : ∀ (S' : sWo) (M' : sOb) (H1 : Heap) (locs1 : List Loc), Rel S' M' (k + 1) → sHw G s S' M' H1 locs1 → W p l e room_1 s m #[Value.ref b] below meth c H1 locs1 cells slots Q (F0 m 1320 ls [])) : W p l e room_1 s m #[Value.ref b] below meth c H locs cells slots Q (F0 m 976 ls []) := by
  obtain ⟨hx, hb, hml, hown, hts, hX, hbl, hbA, hi, hL, hl⟩ := id C
  obtain ⟨v, S1, M1, e1, e2, hR1⟩ := op_sheet hR hk (xs (i + 1)) (xs (i + 2)) (xs (i + 3))
  refine lv_aload_n hx hb dL_law_976 rfl (lv_at hl 1 rfl) ?_
  refine lw_arg 1 (z := 1) C hw (by decide) (by decide) dL_law_977 dL_law_978 dL_law_979 dL_law_980 dL_law_981 ?_
  refine lw_arg 2 (z := 2) C hw (by decide) (by decide) dL_law_982 dL_law_983 dL_law_984 dL_law_985 dL_law_986 ?_
  refine lw_arg 3 (z := 3) C hw (by decide) (by decide) dL_law_987 dL_law_988 dL_law_989 dL_law_990 dL_law_991 ?_
  refine kV (As := [.int (xs (i + 1)), .int (xs (i + 2)), .int (xs (i + 3))]) (rest := []) (st' := [.int v]) ⟨hx, hb, hml, hown, hts⟩ (kX4_sheet l G e1) (cwV 3 hts gL_law_X4_sheet rfl rfl rfl qqX4_sheet ⟨Nat.le_of_ble_eq_true rfl, Nat.le_of_ble_eq_true rfl⟩) hw (rvOw hw) rfl hl.1 rfl (Nat.le_of_ble_eq_true rfl) dL_law_992 hf rfl (fun H locs hw => ?_)
  refine lv_aload_n hx hb dL_law_995 rfl (lv_at hl 2 rfl) ?_
  refine lw_arg 1 (z := 1) C hw (by decide) (by decide) dL_law_996 dL_law_997 dL_law_998 dL_law_999 dL_law_1000 ?_
  refine lw_arg 2 (z := 2) C hw (by decide) (by decide) dL_law_1001 dL_law_1002 dL_law_1003 dL_law_1004 dL_law_1005 ?_
  refine lw_arg 3 (z := 3) C hw (by decide) (by decide) dL_law_1006 dL_law_1007 dL_law_1008 dL_law_1009 dL_law_1010 ?_
  refine kV (As := [.int (xs (i + 1)), .int (xs (i + 2)), .int (xs (i + 3))]) (rest := [.int v]) (st' := [.int v, .int v]) ⟨hx, hb, hml, hown, hts⟩ (kX5_sheet l G e2) (cwV 3 hts gL_law_X5_sheet rfl rfl rfl qqX5_sheet ⟨Nat.le_of_ble_eq_true rfl, Nat.le_of_ble_eq_true rfl⟩) hw (rvMd hw) rfl hl.1 rfl (Nat.le_of_ble_eq_true rfl) dL_law_1011 hf rfl (fun H locs hw => ?_)
  exact lv_icmp_eq (tgt := 1320) hx hb dL_law_1014 (by decide) (fun _ => kk S1 M1 _ _ hR1 hw) (fun z => absurd rfl z)
set_option maxRecDepth 100000 in
set_option maxHeartbeats 4000000 in
theorem lw_o_write (C : lwC p s m c b L i xs G ls) (hf : cells ≤ room_1.cells ∧ slots ≤ room_1.slots) (hk : k < 512) (hR : Rel S M k) (hw : sHw G s S M H locs) (kk : ∀ (S' : sWo) (M' : sOb) (H1 : Heap) (locs1 : List Loc), Rel S' M' (k + 1) → sHw G s S' M' H1 locs1 → W p l e room_1 s m #[Value.ref b] below meth c H1 locs1 cells slots Q (F0 m 1320 ls [])) : W p l e room_1 s m #[Value.ref b] below meth c H locs cells slots Q (F0 m 1019 ls []) := by
  obtain ⟨hx, hb, hml, hown, hts, hX, hbl, hbA, hi, hL, hl⟩ := id C
  obtain ⟨v, S1, M1, e1, e2, hR1⟩ := op_write hR hk (xs (i + 1)) (xs (i + 2)) (wv xs i)
  refine lv_aload_n hx hb dL_law_1019 rfl (lv_at hl 1 rfl) ?_
  refine lw_arg 1 (z := 1) C hw (by decide) (by decide) dL_law_1020 dL_law_1021 dL_law_1022 dL_law_1023 dL_law_1024 ?_
  refine lw_arg 2 (z := 2) C hw (by decide) (by decide) dL_law_1025 dL_law_1026 dL_law_1027 dL_law_1028 dL_law_1029 ?_
  refine lw_arg 3 (z := 3) C hw (by decide) (by decide) dL_law_1030 dL_law_1031 dL_law_1032 dL_law_1033 dL_law_1034 ?_
  refine lv_i2l hx hb dL_law_1035 rfl ?_
  refine lv_bipush (v := 32) hx hb dL_law_1036 (by decide) ?_
  refine lv_lshl hx hb dL_law_1038 rfl ?_
  refine lw_arg 4 (z := 4) C hw (by decide) (by decide) dL_law_1039 dL_law_1040 dL_law_1041 dL_law_1042 dL_law_1043 ?_
  refine lv_i2l hx hb dL_law_1044 rfl ?_
  refine lv_ldc2 (v := 4294967295) hx hb hown (hts (.constantLong RL 149 (4294967295)) (by decide +kernel)) dL_law_1045 ?_
  refine lv_land hx hb dL_law_1048 ?_
  refine lv_lor hx hb dL_law_1049 ?_
  refine kV (As := [.int (xs (i + 1)), .int (xs (i + 2)), .long (wv xs i)]) (rest := []) (st' := [.long v]) ⟨hx, hb, hml, hown, hts⟩ (kX4_write l G e1) (cwV 3 hts gL_law_X4_write rfl rfl rfl qqX4_write ⟨Nat.le_of_ble_eq_true rfl, Nat.le_of_ble_eq_true rfl⟩) hw (rvOw hw) rfl hl.1 rfl (Nat.le_of_ble_eq_true rfl) dL_law_1050 hf rfl (fun H locs hw => ?_)
  refine lv_aload_n hx hb dL_law_1053 rfl (lv_at hl 2 rfl) ?_
  refine lw_arg 1 (z := 1) C hw (by decide) (by decide) dL_law_1054 dL_law_1055 dL_law_1056 dL_law_1057 dL_law_1058 ?_
  refine lw_arg 2 (z := 2) C hw (by decide) (by decide) dL_law_1059 dL_law_1060 dL_law_1061 dL_law_1062 dL_law_1063 ?_
  refine lw_arg 3 (z := 3) C hw (by decide) (by decide) dL_law_1064 dL_law_1065 dL_law_1066 dL_law_1067 dL_law_1068 ?_
  refine lv_i2l hx hb dL_law_1069 rfl ?_
  refine lv_bipush (v := 32) hx hb dL_law_1070 (by decide) ?_
  refine lv_lshl hx hb dL_law_1072 rfl ?_
  refine lw_arg 4 (z := 4) C hw (by decide) (by decide) dL_law_1073 dL_law_1074 dL_law_1075 dL_law_1076 dL_law_1077 ?_
  refine lv_i2l hx hb dL_law_1078 rfl ?_
  refine lv_ldc2 (v := 4294967295) hx hb hown (hts (.constantLong RL 149 (4294967295)) (by decide +kernel)) dL_law_1079 ?_
  refine lv_land hx hb dL_law_1082 ?_
  refine lv_lor hx hb dL_law_1083 ?_
  refine kV (As := [.int (xs (i + 1)), .int (xs (i + 2)), .long (wv xs i)]) (rest := [.long v]) (st' := [.long v, .long v]) ⟨hx, hb, hml, hown, hts⟩ (kX5_write l G e2) (cwV 3 hts gL_law_X5_write rfl rfl rfl qqX5_write ⟨Nat.le_of_ble_eq_true rfl, Nat.le_of_ble_eq_true rfl⟩) hw (rvMd hw) rfl hl.1 rfl (Nat.le_of_ble_eq_true rfl) dL_law_1084 hf rfl (fun H locs hw => ?_)
  refine W.lcmp hx hb dL_law_1087 ?_
  exact lv_if_eq (tgt := 1320) hx hb dL_law_1088 (by decide) (fun _ => kk S1 M1 _ _ hR1 hw) (fun z => absurd (lw_cmp v) z)
set_option maxRecDepth 100000 in
set_option maxHeartbeats 4000000 in
theorem lw_o_copy (C : lwC p s m c b L i xs G ls) (hf : cells ≤ room_1.cells ∧ slots ≤ room_1.slots) (hk : k < 512) (hR : Rel S M k) (hw : sHw G s S M H locs) (kk : ∀ (S' : sWo) (M' : sOb) (H1 : Heap) (locs1 : List Loc), Rel S' M' (k + 1) → sHw G s S' M' H1 locs1 → W p l e room_1 s m #[Value.ref b] below meth c H1 locs1 cells slots Q (F0 m 1320 ls [])) : W p l e room_1 s m #[Value.ref b] below meth c H locs cells slots Q (F0 m 1093 ls []) := by
  obtain ⟨hx, hb, hml, hown, hts, hX, hbl, hbA, hi, hL, hl⟩ := id C
  obtain ⟨v, S1, M1, e1, e2, hR1⟩ := op_copy hR hk (xs (i + 1)) (xs (i + 2)) (xs (i + 3)) (xs (i + 4)) (xs (i + 5))
  refine lv_aload_n hx hb dL_law_1093 rfl (lv_at hl 1 rfl) ?_
  refine lw_arg 1 (z := 1) C hw (by decide) (by decide) dL_law_1094 dL_law_1095 dL_law_1096 dL_law_1097 dL_law_1098 ?_
  refine lw_arg 2 (z := 2) C hw (by decide) (by decide) dL_law_1099 dL_law_1100 dL_law_1101 dL_law_1102 dL_law_1103 ?_
  refine lw_arg 3 (z := 3) C hw (by decide) (by decide) dL_law_1104 dL_law_1105 dL_law_1106 dL_law_1107 dL_law_1108 ?_
  refine lw_arg 4 (z := 4) C hw (by decide) (by decide) dL_law_1109 dL_law_1110 dL_law_1111 dL_law_1112 dL_law_1113 ?_
  refine lw_arg 5 (z := 5) C hw (by decide) (by decide) dL_law_1114 dL_law_1115 dL_law_1116 dL_law_1117 dL_law_1118 ?_
  refine kV (As := [.int (xs (i + 1)), .int (xs (i + 2)), .int (xs (i + 3)), .int (xs (i + 4)), .int (xs (i + 5))]) (rest := []) (st' := [.int v]) ⟨hx, hb, hml, hown, hts⟩ (kX4_copy l G e1) (cwV 5 hts gL_law_X4_copy rfl rfl rfl qqX4_copy ⟨Nat.le_of_ble_eq_true rfl, Nat.le_of_ble_eq_true rfl⟩) hw (rvOw hw) rfl hl.1 rfl (Nat.le_of_ble_eq_true rfl) dL_law_1119 hf rfl (fun H locs hw => ?_)
  refine lv_aload_n hx hb dL_law_1122 rfl (lv_at hl 2 rfl) ?_
  refine lw_arg 1 (z := 1) C hw (by decide) (by decide) dL_law_1123 dL_law_1124 dL_law_1125 dL_law_1126 dL_law_1127 ?_
  refine lw_arg 2 (z := 2) C hw (by decide) (by decide) dL_law_1128 dL_law_1129 dL_law_1130 dL_law_1131 dL_law_1132 ?_
  refine lw_arg 3 (z := 3) C hw (by decide) (by decide) dL_law_1133 dL_law_1134 dL_law_1135 dL_law_1136 dL_law_1137 ?_
  refine lw_arg 4 (z := 4) C hw (by decide) (by decide) dL_law_1138 dL_law_1139 dL_law_1140 dL_law_1141 dL_law_1142 ?_
  refine lw_arg 5 (z := 5) C hw (by decide) (by decide) dL_law_1143 dL_law_1144 dL_law_1145 dL_law_1146 dL_law_1147 ?_
  refine kV (As := [.int (xs (i + 1)), .int (xs (i + 2)), .int (xs (i + 3)), .int (xs (i + 4)), .int (xs (i + 5))]) (rest := [.int v]) (st' := [.int v, .int v]) ⟨hx, hb, hml, hown, hts⟩ (kX5_copy l G e2) (cwV 5 hts gL_law_X5_copy rfl rfl rfl qqX5_copy ⟨Nat.le_of_ble_eq_true rfl, Nat.le_of_ble_eq_true rfl⟩) hw (rvMd hw) rfl hl.1 rfl (Nat.le_of_ble_eq_true rfl) dL_law_1148 hf rfl (fun H locs hw => ?_)
  exact lv_icmp_eq (tgt := 1320) hx hb dL_law_1151 (by decide) (fun _ => kk S1 M1 _ _ hR1 hw) (fun z => absurd rfl z)
set_option maxRecDepth 100000 in
set_option maxHeartbeats 4000000 in
theorem lw_o_lays (C : lwC p s m c b L i xs G ls) (hf : cells ≤ room_1.cells ∧ slots ≤ room_1.slots) (hk : k < 512) (hR : Rel S M k) (hw : sHw G s S M H locs) (kk : ∀ (S' : sWo) (M' : sOb) (H1 : Heap) (locs1 : List Loc), Rel S' M' (k + 1) → sHw G s S' M' H1 locs1 → W p l e room_1 s m #[Value.ref b] below meth c H1 locs1 cells slots Q (F0 m 1320 ls [])) : W p l e room_1 s m #[Value.ref b] below meth c H locs cells slots Q (F0 m 1156 ls []) := by
  obtain ⟨hx, hb, hml, hown, hts, hX, hbl, hbA, hi, hL, hl⟩ := id C
  obtain ⟨v, S1, M1, e1, e2, hR1⟩ := op_lays hR hk (xs (i + 1))
  refine lv_aload_n hx hb dL_law_1156 rfl (lv_at hl 1 rfl) ?_
  refine lw_arg 1 (z := 1) C hw (by decide) (by decide) dL_law_1157 dL_law_1158 dL_law_1159 dL_law_1160 dL_law_1161 ?_
  refine kV (As := [.int (xs (i + 1))]) (rest := []) (st' := [.int v]) ⟨hx, hb, hml, hown, hts⟩ (kX4_lays l G e1) (cwV 1 hts gL_law_X4_lays rfl rfl rfl qqX4_lays ⟨Nat.le_of_ble_eq_true rfl, Nat.le_of_ble_eq_true rfl⟩) hw (rvOw hw) rfl hl.1 rfl (Nat.le_of_ble_eq_true rfl) dL_law_1162 hf rfl (fun H locs hw => ?_)
  refine lv_aload_n hx hb dL_law_1165 rfl (lv_at hl 2 rfl) ?_
  refine lw_arg 1 (z := 1) C hw (by decide) (by decide) dL_law_1166 dL_law_1167 dL_law_1168 dL_law_1169 dL_law_1170 ?_
  refine kV (As := [.int (xs (i + 1))]) (rest := [.int v]) (st' := [.int v, .int v]) ⟨hx, hb, hml, hown, hts⟩ (kX5_lays l G e2) (cwV 1 hts gL_law_X5_lays rfl rfl rfl qqX5_lays ⟨Nat.le_of_ble_eq_true rfl, Nat.le_of_ble_eq_true rfl⟩) hw (rvMd hw) rfl hl.1 rfl (Nat.le_of_ble_eq_true rfl) dL_law_1171 hf rfl (fun H locs hw => ?_)
  exact lv_icmp_eq (tgt := 1320) hx hb dL_law_1174 (by decide) (fun _ => kk S1 M1 _ _ hR1 hw) (fun z => absurd rfl z)
end LAW
