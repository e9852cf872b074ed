/-! THE LAW'S OPERATIONS (printed by wip/whole/law.py) -/
section LAW
variable {p : Program} {l : Launch} {e : Env} {s : State} {m : MethodId} {below : List Frame} {meth : Method} {c : Code} {H : Heap} {locs : List Loc} {cells slots : Nat} {Q : State → Prop} {b L i k : Nat} {xs : Nat → Int32} {G : sGl} {ls : Array Slot} {S : sWo} {M : sOb}
set_option maxRecDepth 100000 in
set_option maxHeartbeats 4000000 in
theorem lw_o_film (C : lwC p s m c b L i xs G ls) (hf : cells ≤ room_1.cells ∧ slots ≤ room_1.slots) (hk : k < 512) (hR : Rel S M k) (hw : sHw G s S M H locs) (kk : ∀ (S' : sWo) (M' : sOb) (H1 : Heap) (locs1 : List Loc), Rel S' M' (k + 1) → sHw G s S' M' H1 locs1 → W p l e room_1 s m #[Value.ref b] below meth c H1 locs1 cells slots Q (F0 m 1320 ls [])) : W p l e room_1 s m #[Value.ref b] below meth c H locs cells slots Q (F0 m 1179 ls []) := by
  obtain ⟨hx, hb, hml, hown, hts, hX, hbl, hbA, hi, hL, hl⟩ := id C
  obtain ⟨v, S1, M1, e1, e2, hR1⟩ := op_film hR hk (xs (i + 1)) (xs (i + 2))
  refine lv_aload_n hx hb dL_law_1179 rfl (lv_at hl 1 rfl) ?_
  refine lw_arg 1 (z := 1) C hw (by decide) (by decide) dL_law_1180 dL_law_1181 dL_law_1182 dL_law_1183 dL_law_1184 ?_
  refine lw_arg 2 (z := 2) C hw (by decide) (by decide) dL_law_1185 dL_law_1186 dL_law_1187 dL_law_1188 dL_law_1189 ?_
  refine kV (As := [.int (xs (i + 1)), .int (xs (i + 2))]) (rest := []) (st' := [.int v]) ⟨hx, hb, hml, hown, hts⟩ (kX4_film l G e1) (cwV 2 hts gL_law_X4_film rfl rfl rfl qqX4_film ⟨Nat.le_of_ble_eq_true rfl, Nat.le_of_ble_eq_true rfl⟩) hw (rvOw hw) rfl hl.1 rfl (Nat.le_of_ble_eq_true rfl) dL_law_1190 hf rfl (fun H locs hw => ?_)
  refine lv_aload_n hx hb dL_law_1193 rfl (lv_at hl 2 rfl) ?_
  refine lw_arg 1 (z := 1) C hw (by decide) (by decide) dL_law_1194 dL_law_1195 dL_law_1196 dL_law_1197 dL_law_1198 ?_
  refine lw_arg 2 (z := 2) C hw (by decide) (by decide) dL_law_1199 dL_law_1200 dL_law_1201 dL_law_1202 dL_law_1203 ?_
  refine kV (As := [.int (xs (i + 1)), .int (xs (i + 2))]) (rest := [.int v]) (st' := [.int v, .int v]) ⟨hx, hb, hml, hown, hts⟩ (kX5_film l G e2) (cwV 2 hts gL_law_X5_film rfl rfl rfl qqX5_film ⟨Nat.le_of_ble_eq_true rfl, Nat.le_of_ble_eq_true rfl⟩) hw (rvMd hw) rfl hl.1 rfl (Nat.le_of_ble_eq_true rfl) dL_law_1204 hf rfl (fun H locs hw => ?_)
  exact lv_icmp_eq (tgt := 1320) hx hb dL_law_1207 (by decide) (fun _ => kk S1 M1 _ _ hR1 hw) (fun z => absurd rfl z)
set_option maxRecDepth 100000 in
set_option maxHeartbeats 4000000 in
theorem lw_o_read (C : lwC p s m c b L i xs G ls) (hf : cells ≤ room_1.cells ∧ slots ≤ room_1.slots) (hk : k < 512) (hR : Rel S M k) (hw : sHw G s S M H locs) (kk : ∀ (S' : sWo) (M' : sOb) (H1 : Heap) (locs1 : List Loc), Rel S' M' (k + 1) → sHw G s S' M' H1 locs1 → W p l e room_1 s m #[Value.ref b] below meth c H1 locs1 cells slots Q (F0 m 1320 ls [])) : W p l e room_1 s m #[Value.ref b] below meth c H locs cells slots Q (F0 m 1212 ls []) := by
  obtain ⟨hx, hb, hml, hown, hts, hX, hbl, hbA, hi, hL, hl⟩ := id C
  obtain ⟨v, S1, M1, e1, e2, hR1⟩ := op_read hR hk (xs (i + 1))
  refine lv_aload_n hx hb dL_law_1212 rfl (lv_at hl 1 rfl) ?_
  refine lw_arg 1 (z := 1) C hw (by decide) (by decide) dL_law_1213 dL_law_1214 dL_law_1215 dL_law_1216 dL_law_1217 ?_
  refine kV (As := [.int (xs (i + 1))]) (rest := []) (st' := [.int v]) ⟨hx, hb, hml, hown, hts⟩ (kX4_read l G e1) (cwV 1 hts gL_law_X4_read rfl rfl rfl qqX4_read ⟨Nat.le_of_ble_eq_true rfl, Nat.le_of_ble_eq_true rfl⟩) hw (rvOw hw) rfl hl.1 rfl (Nat.le_of_ble_eq_true rfl) dL_law_1218 hf rfl (fun H locs hw => ?_)
  refine lv_aload_n hx hb dL_law_1221 rfl (lv_at hl 2 rfl) ?_
  refine lw_arg 1 (z := 1) C hw (by decide) (by decide) dL_law_1222 dL_law_1223 dL_law_1224 dL_law_1225 dL_law_1226 ?_
  refine kV (As := [.int (xs (i + 1))]) (rest := [.int v]) (st' := [.int v, .int v]) ⟨hx, hb, hml, hown, hts⟩ (kX5_read l G e2) (cwV 1 hts gL_law_X5_read rfl rfl rfl qqX5_read ⟨Nat.le_of_ble_eq_true rfl, Nat.le_of_ble_eq_true rfl⟩) hw (rvMd hw) rfl hl.1 rfl (Nat.le_of_ble_eq_true rfl) dL_law_1227 hf rfl (fun H locs hw => ?_)
  exact lv_icmp_eq (tgt := 1320) hx hb dL_law_1230 (by decide) (fun _ => kk S1 M1 _ _ hR1 hw) (fun z => absurd rfl z)
set_option maxRecDepth 100000 in
set_option maxHeartbeats 4000000 in
theorem lw_o_image (C : lwC p s m c b L i xs G ls) (hf : cells ≤ room_1.cells ∧ slots ≤ room_1.slots) (hk : k < 512) (hR : Rel S M k) (hw : sHw G s S M H locs) (kk : ∀ (S' : sWo) (M' : sOb) (H1 : Heap) (locs1 : List Loc), Rel S' M' (k + 1) → sHw G s S' M' H1 locs1 → W p l e room_1 s m #[Value.ref b] below meth c H1 locs1 cells slots Q (F0 m 1320 ls [])) : W p l e room_1 s m #[Value.ref b] below meth c H locs cells slots Q (F0 m 1235 ls []) := by
  obtain ⟨hx, hb, hml, hown, hts, hX, hbl, hbA, hi, hL, hl⟩ := id C
  obtain ⟨v, S1, M1, e1, e2, hR1⟩ := op_image hR hk
  refine lv_aload_n hx hb dL_law_1235 rfl (lv_at hl 1 rfl) ?_
  refine kV (As := []) (rest := []) (st' := [.int v]) ⟨hx, hb, hml, hown, hts⟩ (kX4_image l G e1) (cwV 0 hts gL_law_X4_image rfl rfl rfl qqX4_image ⟨Nat.le_of_ble_eq_true rfl, Nat.le_of_ble_eq_true rfl⟩) hw (rvOw hw) rfl hl.1 rfl (Nat.le_of_ble_eq_true rfl) dL_law_1236 hf rfl (fun H locs hw => ?_)
  refine lv_aload_n hx hb dL_law_1239 rfl (lv_at hl 2 rfl) ?_
  refine kV (As := []) (rest := [.int v]) (st' := [.int v, .int v]) ⟨hx, hb, hml, hown, hts⟩ (kX5_image l G e2) (cwV 0 hts gL_law_X5_image rfl rfl rfl qqX5_image ⟨Nat.le_of_ble_eq_true rfl, Nat.le_of_ble_eq_true rfl⟩) hw (rvMd hw) rfl hl.1 rfl (Nat.le_of_ble_eq_true rfl) dL_law_1240 hf rfl (fun H locs hw => ?_)
  exact lv_icmp_eq (tgt := 1320) hx hb dL_law_1243 (by decide) (fun _ => kk S1 M1 _ _ hR1 hw) (fun z => absurd rfl z)
set_option maxRecDepth 100000 in
set_option maxHeartbeats 4000000 in
theorem lw_o_undo (C : lwC p s m c b L i xs G ls) (hf : cells ≤ room_1.cells ∧ slots ≤ room_1.slots) (hk : k < 512) (hR : Rel S M k) (hw : sHw G s S M H locs) (kk : ∀ (S' : sWo) (M' : sOb) (H1 : Heap) (locs1 : List Loc), Rel S' M' (k + 1) → sHw G s S' M' H1 locs1 → W p l e room_1 s m #[Value.ref b] below meth c H1 locs1 cells slots Q (F0 m 1320 ls [])) : W p l e room_1 s m #[Value.ref b] below meth c H locs cells slots Q (F0 m 1248 ls []) := by
  obtain ⟨hx, hb, hml, hown, hts, hX, hbl, hbA, hi, hL, hl⟩ := id C
  obtain ⟨v, S1, M1, e1, e2, hR1⟩ := op_undo hR hk
  refine lv_aload_n hx hb dL_law_1248 rfl (lv_at hl 1 rfl) ?_
  refine kV (As := []) (rest := []) (st' := [.int v]) ⟨hx, hb, hml, hown, hts⟩ (kX4_undo l G e1) (cwV 0 hts gL_law_X4_undo rfl rfl rfl qqX4_undo ⟨Nat.le_of_ble_eq_true rfl, Nat.le_of_ble_eq_true rfl⟩) hw (rvOw hw) rfl hl.1 rfl (Nat.le_of_ble_eq_true rfl) dL_law_1249 hf rfl (fun H locs hw => ?_)
  refine lv_aload_n hx hb dL_law_1252 rfl (lv_at hl 2 rfl) ?_
  refine kV (As := []) (rest := [.int v]) (st' := [.int v, .int v]) ⟨hx, hb, hml, hown, hts⟩ (kX5_undo l G e2) (cwV 0 hts gL_law_X5_undo rfl rfl rfl qqX5_undo ⟨Nat.le_of_ble_eq_true rfl, Nat.le_of_ble_eq_true rfl⟩) hw (rvMd hw) rfl hl.1 rfl (Nat.le_of_ble_eq_true rfl) dL_law_1253 hf rfl (fun H locs hw => ?_)
  exact lv_icmp_eq (tgt := 1320) hx hb dL_law_1256 (by decide) (fun _ => kk S1 M1 _ _ hR1 hw) (fun z => absurd rfl z)
set_option maxRecDepth 100000 in
set_option maxHeartbeats 4000000 in
theorem lw_o_tear (C : lwC p s m c b L i xs G ls) (hf : cells ≤ room_1.cells ∧ slots ≤ room_1.slots) (hk : k < 512) (hR : Rel S M k) (hw : sHw G s S M H locs) (kk : ∀ (S' : sWo) (M' : sOb) (H1 : Heap) (locs1 : List Loc), Rel S' M' (k + 1) → sHw G s S' M' H1 locs1 → W p l e room_1 s m #[Value.ref b] below meth c H1 locs1 cells slots Q (F0 m 1320 ls [])) : W p l e room_1 s m #[Value.ref b] below meth c H locs cells slots Q (F0 m 1261 ls []) := by
  obtain ⟨hx, hb, hml, hown, hts, hX, hbl, hbA, hi, hL, hl⟩ := id C
  obtain ⟨v, S1, M1, e1, e2, hR1⟩ := op_tear hR hk
  refine lv_aload_n hx hb dL_law_1261 rfl (lv_at hl 1 rfl) ?_
  refine kV (As := []) (rest := []) (st' := [.int v]) ⟨hx, hb, hml, hown, hts⟩ (kX4_tear l G e1) (cwV 0 hts gL_law_X4_tear rfl rfl rfl qqX4_tear ⟨Nat.le_of_ble_eq_true rfl, Nat.le_of_ble_eq_true rfl⟩) hw (rvOw hw) rfl hl.1 rfl (Nat.le_of_ble_eq_true rfl) dL_law_1262 hf rfl (fun H locs hw => ?_)
  refine lv_aload_n hx hb dL_law_1265 rfl (lv_at hl 2 rfl) ?_
  refine kV (As := []) (rest := [.int v]) (st' := [.int v, .int v]) ⟨hx, hb, hml, hown, hts⟩ (kX5_tear l G e2) (cwV 0 hts gL_law_X5_tear rfl rfl rfl qqX5_tear ⟨Nat.le_of_ble_eq_true rfl, Nat.le_of_ble_eq_true rfl⟩) hw (rvMd hw) rfl hl.1 rfl (Nat.le_of_ble_eq_true rfl) dL_law_1266 hf rfl (fun H locs hw => ?_)
  exact lv_icmp_eq (tgt := 1320) hx hb dL_law_1269 (by decide) (fun _ => kk S1 M1 _ _ hR1 hw) (fun z => absurd rfl z)
set_option maxRecDepth 100000 in
set_option maxHeartbeats 4000000 in
theorem lw_o_count (C : lwC p s m c b L i xs G ls) (hf : cells ≤ room_1.cells ∧ slots ≤ room_1.slots) (hk : k < 512) (hR : Rel S M k) (hw : sHw G s S M H locs) (kk : ∀ (S' : sWo) (M' : sOb) (H1 : Heap) (locs1 : List Loc), Rel S' M' (k + 1) → sHw G s S' M' H1 locs1 → W p l e room_1 s m #[Value.ref b] below meth c H1 locs1 cells slots Q (F0 m 1320 ls [])) : W p l e room_1 s m #[Value.ref b] below meth c H locs cells slots Q (F0 m 1274 ls []) := by
  obtain ⟨hx, hb, hml, hown, hts, hX, hbl, hbA, hi, hL, hl⟩ := id C
  obtain ⟨v, S1, M1, e1, e2, hR1⟩ := op_count hR hk (xs (i + 1))
  refine lv_aload_n hx hb dL_law_1274 rfl (lv_at hl 1 rfl) ?_
  refine lw_arg 1 (z := 1) C hw (by decide) (by decide) dL_law_1275 dL_law_1276 dL_law_1277 dL_law_1278 dL_law_1279 ?_
  refine kV (As := [.int (xs (i + 1))]) (rest := []) (st' := [.int v]) ⟨hx, hb, hml, hown, hts⟩ (kX4_count l G e1) (cwV 1 hts gL_law_X4_count rfl rfl rfl qqX4_count ⟨Nat.le_of_ble_eq_true rfl, Nat.le_of_ble_eq_true rfl⟩) hw (rvOw hw) rfl hl.1 rfl (Nat.le_of_ble_eq_true rfl) dL_law_1280 hf rfl (fun H locs hw => ?_)
  refine lv_aload_n hx hb dL_law_1283 rfl (lv_at hl 2 rfl) ?_
  refine lw_arg 1 (z := 1) C hw (by decide) (by decide) dL_law_1284 dL_law_1285 dL_law_1286 dL_law_1287 dL_law_1288 ?_
  refine kV (As := [.int (xs (i + 1))]) (rest := [.int v]) (st' := [.int v, .int v]) ⟨hx, hb, hml, hown, hts⟩ (kX5_count l G e2) (cwV 1 hts gL_law_X5_count rfl rfl rfl qqX5_count ⟨Nat.le_of_ble_eq_true rfl, Nat.le_of_ble_eq_true rfl⟩) hw (rvMd hw) rfl hl.1 rfl (Nat.le_of_ble_eq_true rfl) dL_law_1289 hf rfl (fun H locs hw => ?_)
  exact lv_icmp_eq (tgt := 1320) hx hb dL_law_1292 (by decide) (fun _ => kk S1 M1 _ _ hR1 hw) (fun z => absurd rfl z)
set_option maxRecDepth 100000 in
set_option maxHeartbeats 4000000 in
theorem lw_o_status (C : lwC p s m c b L i xs G ls) (hf : cells ≤ room_1.cells ∧ slots ≤ room_1.slots) (hk : k < 512) (hR : Rel S M k) (hw : sHw G s S M H locs) (kk : ∀ (S' : sWo) (M' : sOb) (H1 : Heap) (locs1 : List Loc), Rel S' M' (k + 1) → sHw G s S' M' H1 locs1 → W p l e room_1 s m #[Value.ref b] below meth c H1 locs1 cells slots Q (F0 m 1320 ls [])) : W p l e room_1 s m #[Value.ref b] below meth c H locs cells slots Q (F0 m 1297 ls []) := by
  obtain ⟨hx, hb, hml, hown, hts, hX, hbl, hbA, hi, hL, hl⟩ := id C
  obtain ⟨v, S1, M1, e1, e2, hR1⟩ := op_status hR hk (xs (i + 1))
  refine lv_aload_n hx hb dL_law_1297 rfl (lv_at hl 1 rfl) ?_
  refine lw_arg 1 (z := 1) C hw (by decide) (by decide) dL_law_1298 dL_law_1299 dL_law_1300 dL_law_1301 dL_law_1302 ?_
  refine kV (As := [.int (xs (i + 1))]) (rest := []) (st' := [.int v]) ⟨hx, hb, hml, hown, hts⟩ (kX4_status l G e1) (cwV 1 hts gL_law_X4_status rfl rfl rfl qqX4_status ⟨Nat.le_of_ble_eq_true rfl, Nat.le_of_ble_eq_true rfl⟩) hw (rvOw hw) rfl hl.1 rfl (Nat.le_of_ble_eq_true rfl) dL_law_1303 hf rfl (fun H locs hw => ?_)
  refine lv_aload_n hx hb dL_law_1306 rfl (lv_at hl 2 rfl) ?_
  refine lw_arg 1 (z := 1) C hw (by decide) (by decide) dL_law_1307 dL_law_1308 dL_law_1309 dL_law_1310 dL_law_1311 ?_
  refine kV (As := [.int (xs (i + 1))]) (rest := [.int v]) (st' := [.int v, .int v]) ⟨hx, hb, hml, hown, hts⟩ (kX5_status l G e2) (cwV 1 hts gL_law_X5_status rfl rfl rfl qqX5_status ⟨Nat.le_of_ble_eq_true rfl, Nat.le_of_ble_eq_true rfl⟩) hw (rvMd hw) rfl hl.1 rfl (Nat.le_of_ble_eq_true rfl) dL_law_1312 hf rfl (fun H locs hw => ?_)
  exact lv_icmp_eq (tgt := 1320) hx hb dL_law_1315 (by decide) (fun _ => kk S1 M1 _ _ hR1 hw) (fun z => absurd rfl z)
end LAW
