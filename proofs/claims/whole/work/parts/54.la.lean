/-! the start: what the constructors leave -/
noncomputable def sg_of (T : ab_H) : sg_S := (fun k j => match ab_nth T k with
  | some c => ab_vI ((ab_nth c.2 j).getD .null)
  | none => 0, fun k j => match ab_nth T k with
  | some c => ab_vL ((ab_nth c.2 j).getD .null)
  | none => 0)
theorem sg_mk_of (T : ab_H) : sg_mk T (sg_of T) = T := by
  apply List.ext_getElem?
  intro k
  cases hT : T[k]? with
  | none => simp [sg_mk, List.getElem?_mapIdx, hT]
  | some c =>
    obtain ⟨t, vs⟩ := c
    rw [sg_mk_get hT]
    congr 2
    apply List.ext_getElem?
    intro j
    rw [List.getElem?_mapIdx]
    cases hj : vs[j]? with
    | none => rfl
    | some v =>
      have e1 : (sg_of T).1 k j = ab_vI v := by
        show (match ab_nth T k with | some c => ab_vI ((ab_nth c.2 j).getD .null) | none => 0) = _
        rw [ab_nth_eq, hT]
        show ab_vI ((ab_nth vs j).getD .null) = _
        rw [ab_nth_eq, hj]
        rfl
      have e2 : (sg_of T).2 k j = ab_vL v := by
        show (match ab_nth T k with | some c => ab_vL ((ab_nth c.2 j).getD .null) | none => 0) = _
        rw [ab_nth_eq, hT]
        show ab_vL ((ab_nth vs j).getD .null) = _
        rw [ab_nth_eq, hj]
        rfl
      cases v <;> simp [sg_pv, e1, e2, ab_vI, ab_vL]
noncomputable def st_x : sg_S := sg_of tx_H
noncomputable def st_m : sg_S := sg_of tm_H
set_option maxRecDepth 100000 in
theorem st_xT : tx_Tab st_x := by unfold tx_Tab; decide +kernel
set_option maxRecDepth 100000 in
theorem st_mT : tm_Tab st_m := by unfold tm_Tab; decide +kernel
theorem st_N : rl_N st_x st_m := ⟨⟨1, by omega, by omega, by decide +kernel⟩, by decide +kernel, by decide +kernel, by decide +kernel, by decide +kernel⟩
theorem st_I : ∀ a, a < 2 → st_m.1 18 a = st_x.1 157 a ∧ st_x.1 157 a = 0 := by decide +kernel
theorem st_Rel : Rel st_x st_m :=
  ⟨st_xT, st_mT, ⟨fun _ => 0, 0, ⟨by decide +kernel, by omega, fun i hi => absurd hi (Nat.not_lt_zero _)⟩, ⟨by decide +kernel, by omega, fun i hi => absurd hi (Nat.not_lt_zero _)⟩⟩, st_N,
   ⟨0, 0, ⟨by decide +kernel, by omega, by decide +kernel, by omega⟩, by decide +kernel, fun i hi => absurd hi (Nat.not_lt_zero _)⟩, fun a ha => ⟨(st_I a ha).1, fun h => absurd (st_I a ha).2 h⟩,
   ⟨0, by omega, by decide +kernel, by decide +kernel, fun i hi => absurd hi (Nat.not_lt_zero _)⟩, ⟨0, 0, 0, by decide +kernel, by decide +kernel, by decide +kernel, by omega⟩⟩
theorem st_x_mk : sg_mk tx_H st_x = tx_H := sg_mk_of tx_H
theorem st_m_mk : sg_mk tm_H st_m = tm_H := sg_mk_of tm_H
theorem sg_mk_sz (T : ab_H) (σ : sg_S) : ab_sz (sg_mk T σ) = ab_sz T := by
  unfold ab_sz
  congr 1
  apply List.ext_getElem?
  intro k
  rw [List.getElem?_map, List.getElem?_map]
  cases hT : T[k]? with
  | none => simp [sg_mk, List.getElem?_mapIdx, hT]
  | some c =>
    obtain ⟨t, vs⟩ := c
    rw [sg_mk_get hT]
    simp
