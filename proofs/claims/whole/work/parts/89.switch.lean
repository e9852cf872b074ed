/-! THE LAW'S SWITCH (printed by wip/whole/law.py) -/
section LAW
variable {p : Program} {l : Launch} {e : Env} {s : State} {m : MethodId} {below : List Frame} {meth : Method} {c : Code} {H : Heap} {locs : List Loc} {cells slots : Nat} {Q : State → Prop} {b L i k : Nat} {xs : Nat → Int32} {G : sGl} {ls : Array Slot} {S : sWo} {M : sOb}
set_option maxRecDepth 100000 in
set_option maxHeartbeats 8000000 in
theorem lw_sw (C : lwC p s m c b L i xs G ls) (hf : cells ≤ room_1.cells ∧ slots ≤ room_1.slots) (hk : k < 512) (hR : Rel S M k) (hw : sHw G s S M H locs) (kk : ∀ (S' : sWo) (M' : sOb) (H1 : Heap) (locs1 : List Loc), Rel S' M' (k + 1) → sHw G s S' M' H1 locs1 → W p l e room_1 s m #[Value.ref b] below meth c H1 locs1 cells slots Q (F0 m 1320 ls [])) : W p l e room_1 s m #[Value.ref b] below meth c H locs cells slots Q (F0 m 27 ls []) := by
  obtain ⟨hx, hb, hml, hown, hts, hX, hbl, hbA, hi, hL, hl⟩ := id C
  refine lv_aload_n hx hb dL_law_27 rfl (lv_at hl 0 rfl) ?_
  refine lv_iload_n hx hb dL_law_28 rfl (lv_at hl 3 rfl) ?_
  refine va_sld hx hb hX hbl hbA hw.2.2.2.1 (vp_in_nI (show i < L by omega) (by omega)) dL_law_29 ?_
  refine lv_bipush (v := 63) hx hb dL_law_30 (by decide) ?_
  refine lv_iand hx hb dL_law_32 ?_
  refine lv_topi (fun z ez => ?_)
  clear ez
  by_cases c0 : z = (0 : Int32)
  · refine lv_tableIn (tgt := 220) hx hb dL_law_33 (by rw [c0]; decide) (by rw [c0]; decide) (by rw [c0]; rfl) (by decide) ?_
    exact lw_o_let C hf hk hR hw kk
  by_cases c1 : z = (1 : Int32)
  · refine lv_tableIn (tgt := 253) hx hb dL_law_33 (by rw [c1]; decide) (by rw [c1]; decide) (by rw [c1]; rfl) (by decide) ?_
    exact lw_o_runner C hf hk hR hw kk
  by_cases c2 : z = (2 : Int32)
  · refine lv_tableIn (tgt := 296) hx hb dL_law_33 (by rw [c2]; decide) (by rw [c2]; decide) (by rw [c2]; rfl) (by decide) ?_
    exact lw_o_of C hf hk hR hw kk
  by_cases c3 : z = (3 : Int32)
  · refine lv_tableIn (tgt := 329) hx hb dL_law_33 (by rw [c3]; decide) (by rw [c3]; decide) (by rw [c3]; rfl) (by decide) ?_
    exact lw_o_set C hf hk hR hw kk
  by_cases c4 : z = (4 : Int32)
  · refine lv_tableIn (tgt := 372) hx hb dL_law_33 (by rw [c4]; decide) (by rw [c4]; decide) (by rw [c4]; rfl) (by decide) ?_
    exact lw_o_turn C hf hk hR hw kk
  by_cases c5 : z = (5 : Int32)
  · refine lv_tableIn (tgt := 405) hx hb dL_law_33 (by rw [c5]; decide) (by rw [c5]; decide) (by rw [c5]; rfl) (by decide) ?_
    exact lw_o_as C hf hk hR hw kk
  by_cases c6 : z = (6 : Int32)
  · refine lv_tableIn (tgt := 438) hx hb dL_law_33 (by rw [c6]; decide) (by rw [c6]; decide) (by rw [c6]; rfl) (by decide) ?_
    exact lw_o_wish C hf hk hR hw kk
  by_cases c7 : z = (7 : Int32)
  · refine lv_tableIn (tgt := 461) hx hb dL_law_33 (by rw [c7]; decide) (by rw [c7]; decide) (by rw [c7]; rfl) (by decide) ?_
    exact lw_o_line C hf hk hR hw kk
  by_cases c8 : z = (8 : Int32)
  · refine lv_tableIn (tgt := 474) hx hb dL_law_33 (by rw [c8]; decide) (by rw [c8]; decide) (by rw [c8]; rfl) (by decide) ?_
    exact lw_o_seconds C hf hk hR hw kk
  by_cases c9 : z = (9 : Int32)
  · refine lv_tableIn (tgt := 497) hx hb dL_law_33 (by rw [c9]; decide) (by rw [c9]; decide) (by rw [c9]; rfl) (by decide) ?_
    exact lw_o_now C hf hk hR hw kk
  by_cases c10 : z = (10 : Int32)
  · refine lv_tableIn (tgt := 520) hx hb dL_law_33 (by rw [c10]; decide) (by rw [c10]; decide) (by rw [c10]; rfl) (by decide) ?_
    exact lw_o_place C hf hk hR hw kk
  by_cases c11 : z = (11 : Int32)
  · refine lv_tableIn (tgt := 543) hx hb dL_law_33 (by rw [c11]; decide) (by rw [c11]; decide) (by rw [c11]; rfl) (by decide) ?_
    exact lw_o_prize C hf hk hR hw kk
  by_cases c12 : z = (12 : Int32)
  · refine lv_tableIn (tgt := 556) hx hb dL_law_33 (by rw [c12]; decide) (by rw [c12]; decide) (by rw [c12]; rfl) (by decide) ?_
    exact lw_o_score C hf hk hR hw kk
  by_cases c13 : z = (13 : Int32)
  · refine lv_tableIn (tgt := 569) hx hb dL_law_33 (by rw [c13]; decide) (by rw [c13]; decide) (by rw [c13]; rfl) (by decide) ?_
    exact lw_o_leads C hf hk hR hw kk
  by_cases c14 : z = (14 : Int32)
  · refine lv_tableIn (tgt := 582) hx hb dL_law_33 (by rw [c14]; decide) (by rw [c14]; decide) (by rw [c14]; rfl) (by decide) ?_
    exact lw_o_on C hf hk hR hw kk
  by_cases c15 : z = (15 : Int32)
  · refine lv_tableIn (tgt := 615) hx hb dL_law_33 (by rw [c15]; decide) (by rw [c15]; decide) (by rw [c15]; rfl) (by decide) ?_
    exact lw_o_home C hf hk hR hw kk
  by_cases c16 : z = (16 : Int32)
  · refine lv_tableIn (tgt := 638) hx hb dL_law_33 (by rw [c16]; decide) (by rw [c16]; decide) (by rw [c16]; rfl) (by decide) ?_
    exact lw_o_prizeBy C hf hk hR hw kk
  by_cases c17 : z = (17 : Int32)
  · refine lv_tableIn (tgt := 661) hx hb dL_law_33 (by rw [c17]; decide) (by rw [c17]; decide) (by rw [c17]; rfl) (by decide) ?_
    exact lw_o_leaders C hf hk hR hw kk
  by_cases c18 : z = (18 : Int32)
  · refine lv_tableIn (tgt := 674) hx hb dL_law_33 (by rw [c18]; decide) (by rw [c18]; decide) (by rw [c18]; rfl) (by decide) ?_
    exact lw_o_passes C hf hk hR hw kk
  by_cases c19 : z = (19 : Int32)
  · refine lv_tableIn (tgt := 707) hx hb dL_law_33 (by rw [c19]; decide) (by rw [c19]; decide) (by rw [c19]; rfl) (by decide) ?_
    exact lw_o_race C hf hk hR hw kk
  by_cases c20 : z = (20 : Int32)
  · refine lv_tableIn (tgt := 720) hx hb dL_law_33 (by rw [c20]; decide) (by rw [c20]; decide) (by rw [c20]; rfl) (by decide) ?_
    exact lw_o_pace C hf hk hR hw kk
  by_cases c21 : z = (21 : Int32)
  · refine lv_tableIn (tgt := 743) hx hb dL_law_33 (by rw [c21]; decide) (by rw [c21]; decide) (by rw [c21]; rfl) (by decide) ?_
    exact lw_o_kind C hf hk hR hw kk
  by_cases c22 : z = (22 : Int32)
  · refine lv_tableIn (tgt := 766) hx hb dL_law_33 (by rw [c22]; decide) (by rw [c22]; decide) (by rw [c22]; rfl) (by decide) ?_
    exact lw_o_start C hf hk hR hw kk
  by_cases c23 : z = (23 : Int32)
  · refine lv_tableIn (tgt := 789) hx hb dL_law_33 (by rw [c23]; decide) (by rw [c23]; decide) (by rw [c23]; rfl) (by decide) ?_
    exact lw_o_favours C hf hk hR hw kk
  by_cases c24 : z = (24 : Int32)
  · refine lv_tableIn (tgt := 812) hx hb dL_law_33 (by rw [c24]; decide) (by rw [c24]; decide) (by rw [c24]; rfl) (by decide) ?_
    exact lw_o_friend C hf hk hR hw kk
  by_cases c25 : z = (25 : Int32)
  · refine lv_tableIn (tgt := 835) hx hb dL_law_33 (by rw [c25]; decide) (by rw [c25]; decide) (by rw [c25]; rfl) (by decide) ?_
    exact lw_o_deal C hf hk hR hw kk
  by_cases c26 : z = (26 : Int32)
  · refine lv_tableIn (tgt := 848) hx hb dL_law_33 (by rw [c26]; decide) (by rw [c26]; decide) (by rw [c26]; rfl) (by decide) ?_
    exact lw_o_fair C hf hk hR hw kk
  by_cases c27 : z = (27 : Int32)
  · refine lv_tableIn (tgt := 861) hx hb dL_law_33 (by rw [c27]; decide) (by rw [c27]; decide) (by rw [c27]; rfl) (by decide) ?_
    exact lw_o_odds C hf hk hR hw kk
  by_cases c28 : z = (28 : Int32)
  · refine lv_tableIn (tgt := 904) hx hb dL_law_33 (by rw [c28]; decide) (by rw [c28]; decide) (by rw [c28]; rfl) (by decide) ?_
    exact lw_o_unwilling C hf hk hR hw kk
  by_cases c29 : z = (29 : Int32)
  · refine lv_tableIn (tgt := 917) hx hb dL_law_33 (by rw [c29]; decide) (by rw [c29]; decide) (by rw [c29]; rfl) (by decide) ?_
    exact lw_o_feed C hf hk hR hw kk
  by_cases c30 : z = (30 : Int32)
  · refine lv_tableIn (tgt := 950) hx hb dL_law_33 (by rw [c30]; decide) (by rw [c30]; decide) (by rw [c30]; rfl) (by decide) ?_
    exact lw_o_wipe C hf hk hR hw kk
  by_cases c31 : z = (31 : Int32)
  · refine lv_tableIn (tgt := 963) hx hb dL_law_33 (by rw [c31]; decide) (by rw [c31]; decide) (by rw [c31]; rfl) (by decide) ?_
    exact lw_o_text C hf hk hR hw kk
  by_cases c32 : z = (32 : Int32)
  · refine lv_tableIn (tgt := 976) hx hb dL_law_33 (by rw [c32]; decide) (by rw [c32]; decide) (by rw [c32]; rfl) (by decide) ?_
    exact lw_o_sheet C hf hk hR hw kk
  by_cases c33 : z = (33 : Int32)
  · refine lv_tableIn (tgt := 1019) hx hb dL_law_33 (by rw [c33]; decide) (by rw [c33]; decide) (by rw [c33]; rfl) (by decide) ?_
    exact lw_o_write C hf hk hR hw kk
  by_cases c34 : z = (34 : Int32)
  · refine lv_tableIn (tgt := 1093) hx hb dL_law_33 (by rw [c34]; decide) (by rw [c34]; decide) (by rw [c34]; rfl) (by decide) ?_
    exact lw_o_copy C hf hk hR hw kk
  by_cases c35 : z = (35 : Int32)
  · refine lv_tableIn (tgt := 1156) hx hb dL_law_33 (by rw [c35]; decide) (by rw [c35]; decide) (by rw [c35]; rfl) (by decide) ?_
    exact lw_o_lays C hf hk hR hw kk
  by_cases c36 : z = (36 : Int32)
  · refine lv_tableIn (tgt := 1179) hx hb dL_law_33 (by rw [c36]; decide) (by rw [c36]; decide) (by rw [c36]; rfl) (by decide) ?_
    exact lw_o_film C hf hk hR hw kk
  by_cases c37 : z = (37 : Int32)
  · refine lv_tableIn (tgt := 1212) hx hb dL_law_33 (by rw [c37]; decide) (by rw [c37]; decide) (by rw [c37]; rfl) (by decide) ?_
    exact lw_o_read C hf hk hR hw kk
  by_cases c38 : z = (38 : Int32)
  · refine lv_tableIn (tgt := 1235) hx hb dL_law_33 (by rw [c38]; decide) (by rw [c38]; decide) (by rw [c38]; rfl) (by decide) ?_
    exact lw_o_image C hf hk hR hw kk
  by_cases c39 : z = (39 : Int32)
  · refine lv_tableIn (tgt := 1248) hx hb dL_law_33 (by rw [c39]; decide) (by rw [c39]; decide) (by rw [c39]; rfl) (by decide) ?_
    exact lw_o_undo C hf hk hR hw kk
  by_cases c40 : z = (40 : Int32)
  · refine lv_tableIn (tgt := 1261) hx hb dL_law_33 (by rw [c40]; decide) (by rw [c40]; decide) (by rw [c40]; rfl) (by decide) ?_
    exact lw_o_tear C hf hk hR hw kk
  by_cases c41 : z = (41 : Int32)
  · refine lv_tableIn (tgt := 1274) hx hb dL_law_33 (by rw [c41]; decide) (by rw [c41]; decide) (by rw [c41]; rfl) (by decide) ?_
    exact lw_o_count C hf hk hR hw kk
  by_cases c42 : z = (42 : Int32)
  · refine lv_tableIn (tgt := 1297) hx hb dL_law_33 (by rw [c42]; decide) (by rw [c42]; decide) (by rw [c42]; rfl) (by decide) ?_
    exact lw_o_status C hf hk hR hw kk
  have sw : z.toInt < 0 ∨ 42 < z.toInt := by
    have z0 := sw_ne c0
    rw [show ((0 : Int32)).toInt = 0 from rfl] at z0
    have z1 := sw_ne c1
    rw [show ((1 : Int32)).toInt = 1 from rfl] at z1
    have z2 := sw_ne c2
    rw [show ((2 : Int32)).toInt = 2 from rfl] at z2
    have z3 := sw_ne c3
    rw [show ((3 : Int32)).toInt = 3 from rfl] at z3
    have z4 := sw_ne c4
    rw [show ((4 : Int32)).toInt = 4 from rfl] at z4
    have z5 := sw_ne c5
    rw [show ((5 : Int32)).toInt = 5 from rfl] at z5
    have z6 := sw_ne c6
    rw [show ((6 : Int32)).toInt = 6 from rfl] at z6
    have z7 := sw_ne c7
    rw [show ((7 : Int32)).toInt = 7 from rfl] at z7
    have z8 := sw_ne c8
    rw [show ((8 : Int32)).toInt = 8 from rfl] at z8
    have z9 := sw_ne c9
    rw [show ((9 : Int32)).toInt = 9 from rfl] at z9
    have z10 := sw_ne c10
    rw [show ((10 : Int32)).toInt = 10 from rfl] at z10
    have z11 := sw_ne c11
    rw [show ((11 : Int32)).toInt = 11 from rfl] at z11
    have z12 := sw_ne c12
    rw [show ((12 : Int32)).toInt = 12 from rfl] at z12
    have z13 := sw_ne c13
    rw [show ((13 : Int32)).toInt = 13 from rfl] at z13
    have z14 := sw_ne c14
    rw [show ((14 : Int32)).toInt = 14 from rfl] at z14
    have z15 := sw_ne c15
    rw [show ((15 : Int32)).toInt = 15 from rfl] at z15
    have z16 := sw_ne c16
    rw [show ((16 : Int32)).toInt = 16 from rfl] at z16
    have z17 := sw_ne c17
    rw [show ((17 : Int32)).toInt = 17 from rfl] at z17
    have z18 := sw_ne c18
    rw [show ((18 : Int32)).toInt = 18 from rfl] at z18
    have z19 := sw_ne c19
    rw [show ((19 : Int32)).toInt = 19 from rfl] at z19
    have z20 := sw_ne c20
    rw [show ((20 : Int32)).toInt = 20 from rfl] at z20
    have z21 := sw_ne c21
    rw [show ((21 : Int32)).toInt = 21 from rfl] at z21
    have z22 := sw_ne c22
    rw [show ((22 : Int32)).toInt = 22 from rfl] at z22
    have z23 := sw_ne c23
    rw [show ((23 : Int32)).toInt = 23 from rfl] at z23
    have z24 := sw_ne c24
    rw [show ((24 : Int32)).toInt = 24 from rfl] at z24
    have z25 := sw_ne c25
    rw [show ((25 : Int32)).toInt = 25 from rfl] at z25
    have z26 := sw_ne c26
    rw [show ((26 : Int32)).toInt = 26 from rfl] at z26
    have z27 := sw_ne c27
    rw [show ((27 : Int32)).toInt = 27 from rfl] at z27
    have z28 := sw_ne c28
    rw [show ((28 : Int32)).toInt = 28 from rfl] at z28
    have z29 := sw_ne c29
    rw [show ((29 : Int32)).toInt = 29 from rfl] at z29
    have z30 := sw_ne c30
    rw [show ((30 : Int32)).toInt = 30 from rfl] at z30
    have z31 := sw_ne c31
    rw [show ((31 : Int32)).toInt = 31 from rfl] at z31
    have z32 := sw_ne c32
    rw [show ((32 : Int32)).toInt = 32 from rfl] at z32
    have z33 := sw_ne c33
    rw [show ((33 : Int32)).toInt = 33 from rfl] at z33
    have z34 := sw_ne c34
    rw [show ((34 : Int32)).toInt = 34 from rfl] at z34
    have z35 := sw_ne c35
    rw [show ((35 : Int32)).toInt = 35 from rfl] at z35
    have z36 := sw_ne c36
    rw [show ((36 : Int32)).toInt = 36 from rfl] at z36
    have z37 := sw_ne c37
    rw [show ((37 : Int32)).toInt = 37 from rfl] at z37
    have z38 := sw_ne c38
    rw [show ((38 : Int32)).toInt = 38 from rfl] at z38
    have z39 := sw_ne c39
    rw [show ((39 : Int32)).toInt = 39 from rfl] at z39
    have z40 := sw_ne c40
    rw [show ((40 : Int32)).toInt = 40 from rfl] at z40
    have z41 := sw_ne c41
    rw [show ((41 : Int32)).toInt = 41 from rfl] at z41
    have z42 := sw_ne c42
    rw [show ((42 : Int32)).toInt = 42 from rfl] at z42
    omega
  refine lv_tableOut (tgt := 1320) hx hb dL_law_33 sw (by decide) ?_
  exact kk S M _ _ (hR.mono (by omega) (by omega)) hw
end LAW
