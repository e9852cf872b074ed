/-! THE START: the two objects' worlds as one, and the relation at its beginning -/
def gStart (D : va_G) (cI cB cS cL : ClassId) (a : Nat → Nat → Nat) (a9 : Nat → Nat) (A : Nat → Prop) (X : Nat → Nat) : sGl := (D, fun j => if j = 0 then cI else if j = 1 then cB else if j = 2 then cL else cS, fun o => if o = 9 then a9 else a o, A, X)
def sSt : sWo := fun o => if o = 1 ∨ o = 2 ∨ o = 3 then sT0 else sZ
theorem P_set {D : va_G} {cl : List vw_C} {ws : va_W} {H : Heap} (k0 : Nat) {x y : Nat × va_E} (hP : va_P D cl (ws.set k0 y) H) (hx : ws[k0]? = some x) (hc : va_at D cl y H → va_at D cl x H) : va_P D cl ws H := by
  intro k q hk
  by_cases h : k0 = k
  · subst h
    rw [hx] at hk
    cases hk
    have hlt : k0 < ws.length := (List.getElem?_eq_some_iff.mp hx).1
    exact hc (hP k0 y (by rw [List.getElem?_set_self hlt]))
  · exact hP k q (by rw [List.getElem?_set_ne h]; exact hk)
theorem arrV_c {cI : ClassId} {n : Nat} {f g : Nat → Value} (h : ∀ j, j < n → f j = g j) : arrV cI n f = arrV cI n g := by
  unfold arrV
  congr 2
  funext j
  exact h j.val j.isLt
theorem owF_c (D : va_G) (cI cB cS cL : ClassId) (a : Nat → Nat → Nat) (a9 : Nat → Nat) (A : Nat → Prop) (X : Nat → Nat) (c : ClassId) : vp_cell c (4, .inr (.inr (.inr (.inr (owF a))))) = vp_cell c (4, .inr (.inr (.inr (.inr (fun j => some (sA (gStart D cI cB cS cL a a9 A X) (5 + j) 0)))))) := by
  rw [vp_cell_q, vp_cell_q]
  refine arrV_c (fun j hj => ?_)
  rcases (show j = 0 ∨ j = 1 ∨ j = 2 ∨ j = 3 by omega) with rfl | rfl | rfl | rfl <;> rfl
set_option maxRecDepth 100000 in
set_option maxHeartbeats 4000000 in
theorem st_P {D : va_G} {cI cB cS cL : ClassId} {a : Nat → Nat → Nat} {a9 : Nat → Nat} {A : Nat → Prop} {X : Nat → Nat} {H : Heap} (hP : va_P D vwCl (owW cI cB cS cL a ++ mdW cI cL a9 sM0) H) : va_P D vwCl (sCw (gStart D cI cB cS cL a a9 A X) sSt sM0) H := by
  have h1 := hP.sub (ws' := (sCw (gStart D cI cB cS cL a a9 A X) sSt sM0).set 2 (a 0 2, .inl (cS, 4, .inr (.inr (.inr (.inr (owF a))))))) [0, 34, 33, 1, 2, 3, 4, 5, 6, 7, 8, 9, 10, 11, 12, 13, 14, 15, 16, 17, 18, 19, 20, 21, 22, 23, 24, 25, 26, 27, 28, 29, 30, 31, 32, 35, 36, 37, 38, 39, 40, 41, 42, 43, 44, 45, 46, 47, 48, 49, 50, 51, 52] rfl
  refine P_set 2 (x := (sA (gStart D cI cB cS cL a a9 A X) 0 2, .inl (cS, 4, .inr (.inr (.inr (.inr (fun j => some (sA (gStart D cI cB cS cL a a9 A X) (5 + j) 0)))))))) h1 rfl (fun h => ?_)
  show H[a 0 2]? = some (vp_cell cS (4, .inr (.inr (.inr (.inr (fun j => some (sA (gStart D cI cB cS cL a a9 A X) (5 + j) 0)))))))
  rw [← owF_c]
  exact h
set_option maxRecDepth 100000 in
set_option maxHeartbeats 4000000 in
theorem st_D {D : va_G} {cI cB cS cL : ClassId} {a : Nat → Nat → Nat} {a9 : Nat → Nat} {A : Nat → Prop} {X : Nat → Nat} (hD : va_D A (owW cI cB cS cL a ++ mdW cI cL a9 sM0)) : va_D A (sCw (gStart D cI cB cS cL a a9 A X) sSt sM0) := by
  have h1 := hD.sub (ws' := (sCw (gStart D cI cB cS cL a a9 A X) sSt sM0).set 2 (a 0 2, .inl (cS, 4, .inr (.inr (.inr (.inr (owF a))))))) [0, 34, 33, 1, 2, 3, 4, 5, 6, 7, 8, 9, 10, 11, 12, 13, 14, 15, 16, 17, 18, 19, 20, 21, 22, 23, 24, 25, 26, 27, 28, 29, 30, 31, 32, 35, 36, 37, 38, 39, 40, 41, 42, 43, 44, 45, 46, 47, 48, 49, 50, 51, 52] (by decide) rfl
  refine va_D_congr ?_ h1
  rfl
theorem rel0 : Rel sSt sM0 0 := by
  refine ⟨⟨0, Nat.zero_le _, rfl, ⟨by decide, by decide⟩, ⟨by decide, by decide⟩, ⟨by decide, by decide⟩, ⟨by decide, by decide⟩, rfl, fun r hr => absurd hr (Nat.not_lt_zero r)⟩, ⟨rfl, rfl, rfl, rfl, rfl, fun r hr k hk => ?_⟩, ⟨rfl, Or.inl rfl⟩, ⟨fun j hj => rfl, by decide⟩, ⟨0, Nat.zero_le _, rfl, rfl, fun i hi => absurd hi (Nat.not_lt_zero i)⟩, fun j hj => ?_⟩
  · show upd (upd (upd (fun _ => 0) 1 200) 2 1) 3 1 (5 + 8 * r + k) = 0
    rw [upd_n (by omega), upd_n (by omega), upd_n (by omega)]
  · rcases (show j = 0 ∨ j = 1 ∨ j = 2 ∨ j = 3 by omega) with rfl | rfl | rfl | rfl <;> exact ⟨by decide, Or.inl rfl, rfl, ⟨by decide, by decide⟩, fun i hi => rfl⟩
