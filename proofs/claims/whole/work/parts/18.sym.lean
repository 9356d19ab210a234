/-! runs as a relation; fuel -/
theorem ab_exec_fuel {al : Bool} : ∀ (n k mid : Nat) (cd : ab_CD) (pc : Nat) (L st : List Value) (h : ab_H) (z : Option Value × ab_H), ab_exec al n mid cd pc L st h = some z → ab_exec al (n + k) mid cd pc L st h = some z
  | 0, _, _, _, _, _, _, _, _, hs => by simp [ab_exec] at hs
  | n + 1, k, mid, cd, pc, L, st, h, z, hs => by
    rw [show n + 1 + k = (n + k) + 1 by omega]
    cases hft : ab_ft cd pc with
    | none => simp [ab_exec, hft] at hs
    | some e =>
      obtain ⟨i, x, q⟩ := e
      simp only [ab_exec, hft] at hs ⊢
      cases hst : ab_stp i al mid pc L st h with
      | none => rw [hst] at hs; cases hs
      | some y =>
        rw [hst] at hs
        rcases y with ⟨pc1, L1, st1, h1⟩ | r | ⟨mid', av, st1⟩
        · exact ab_exec_fuel n k _ _ _ _ _ _ _ hs
        · exact hs
        · simp only at hs ⊢
          cases hc : ab_exec al n mid' (ab_CM mid') 0 (ab_ent (ab_MR mid').2.2.2.1 av) [] h with
          | none => rw [hc] at hs; cases hs
          | some w =>
            rw [hc] at hs
            rw [ab_exec_fuel n k _ _ _ _ _ _ _ hc]
            exact ab_exec_fuel n k _ _ _ _ _ _ _ hs
def ab_X (al : Bool) (mid pc : Nat) (L st : List Value) (h : ab_H) (r : Option Value) (h' : ab_H) : Prop := ∃ n, ab_exec al n mid (ab_CM mid) pc L st h = some (r, h')
section AbX
variable {al : Bool} {mid pc : Nat} {L st : List Value} {h h' : ab_H} {r : Option Value}
theorem ab_X.step {i : Instr} {x q pc1 : Nat} {L1 st1 : List Value} {h1 : ab_H} (hf : ab_ft (ab_CM mid) pc = some (i, x, q)) (hs : ab_stp i al mid pc L st h = some (.inl (pc1, L1, st1, h1))) (k : ab_X al mid pc1 L1 st1 h1 r h') : ab_X al mid pc L st h r h' := by
  obtain ⟨n, hn⟩ := k
  exact ⟨n + 1, by rw [ab_exec]; simp only [hf, hs]; exact hn⟩
theorem ab_X.ret {i : Instr} {x q : Nat} (hf : ab_ft (ab_CM mid) pc = some (i, x, q)) (hs : ab_stp i al mid pc L st h = some (.inr (.inl r))) : ab_X al mid pc L st h r h :=
  ⟨1, by rw [ab_exec]; simp only [hf, hs]⟩
theorem ab_X.call {i : Instr} {x q mid' : Nat} {av st1 : List Value} {rv : Option Value} {h1 : ab_H} (hf : ab_ft (ab_CM mid) pc = some (i, x, q)) (hs : ab_stp i al mid pc L st h = some (.inr (.inr (mid', av, st1)))) (hc : ab_X al mid' 0 (ab_ent (ab_MR mid').2.2.2.1 av) [] h rv h1) (k : ab_X al mid (pc + 3) L (rv.toList ++ st1) h1 r h') : ab_X al mid pc L st h r h' := by
  obtain ⟨a, ha⟩ := hc
  obtain ⟨b, hb⟩ := k
  refine ⟨a + b + 1, ?_⟩
  rw [ab_exec]
  simp only [hf, hs]
  rw [ab_exec_fuel a b _ _ _ _ _ _ _ ha]
  have := ab_exec_fuel b a _ _ _ _ _ _ _ hb
  rw [Nat.add_comm] at this
  exact this
end AbX
/-! a heap as a template and two functions: the ints and the longs of each cell -/
abbrev sg_S : Type := (Nat → Nat → Int32) × (Nat → Nat → Int64)
def sg_pv (σ : sg_S) (k j : Nat) : Value → Value
  | .int _ => .int (σ.1 k j)
  | .long _ => .long (σ.2 k j)
  | v => v
def sg_mk (T : ab_H) (σ : sg_S) : ab_H := T.mapIdx (fun k c => (c.1, c.2.mapIdx (fun j v => sg_pv σ k j v)))
/-- a row of ints, of longs, laid anew -/
def sg_r1 (σ : sg_S) (a : Nat) (f : Nat → Int32) : sg_S := (fun k => if k = a then f else σ.1 k, σ.2)
def sg_r2 (σ : sg_S) (a : Nat) (f : Nat → Int64) : sg_S := (σ.1, fun k => if k = a then f else σ.2 k)
theorem sg_mk_get {T : ab_H} {σ : sg_S} {k t : Nat} {vs : List Value} (h : T[k]? = some (t, vs)) : (sg_mk T σ)[k]? = some (t, vs.mapIdx (fun j v => sg_pv σ k j v)) := by
  simp [sg_mk, List.getElem?_mapIdx, h]
theorem sg_mk_len (T : ab_H) (σ : sg_S) : (sg_mk T σ).length = T.length := by simp [sg_mk]
theorem sg_mk_set1 {T : ab_H} {σ : sg_S} {k j t : Nat} {vs : List Value} {v0 x : Int32} (h : T[k]? = some (t, vs)) (hj : vs[j]? = some (.int v0)) : (sg_mk T σ).set k (t, (vs.mapIdx (fun j v => sg_pv σ k j v)).set j (.int x)) = sg_mk T (sg_r1 σ k (upd (σ.1 k) j x)) := by
  apply List.ext_getElem?
  intro i
  rw [List.getElem?_set, sg_mk_len]
  by_cases hi : k = i
  · subst hi
    simp only [(List.getElem?_eq_some_iff.mp h).1, if_true]
    rw [sg_mk_get h]
    congr 2
    apply List.ext_getElem?
    intro q
    rw [List.getElem?_set, List.getElem?_mapIdx, List.getElem?_mapIdx, List.length_mapIdx]
    by_cases hq : j = q
    · subst hq
      have h9 := List.getElem?_eq_some_iff.mp hj
      simp [h9.1, h9.2, sg_pv, sg_r1, upd]
    · have hq' : ¬ q = j := fun e => hq e.symm
      simp only [hq, if_false]
      cases vs[q]? with
      | none => rfl
      | some v => cases v <;> simp [sg_pv, sg_r1, upd, hq']
  · rw [if_neg hi]
    have hi' : ¬ i = k := fun e => hi e.symm
    simp only [sg_mk, List.getElem?_mapIdx]
    cases T[i]? with
    | none => rfl
    | some c =>
      simp only [Option.map_some, sg_r1, Option.some.injEq, Prod.mk.injEq, true_and]
      apply List.ext_getElem?
      intro q
      simp only [List.getElem?_mapIdx]
      cases c.2[q]? with
      | none => rfl
      | some v => cases v <;> simp [sg_pv, hi']
theorem sg_mk_set2 {T : ab_H} {σ : sg_S} {k j t : Nat} {vs : List Value} {v0 x : Int64} (h : T[k]? = some (t, vs)) (hj : vs[j]? = some (.long v0)) : (sg_mk T σ).set k (t, (vs.mapIdx (fun j v => sg_pv σ k j v)).set j (.long x)) = sg_mk T (sg_r2 σ k (vp_updL (σ.2 k) j x)) := by
  apply List.ext_getElem?
  intro i
  rw [List.getElem?_set, sg_mk_len]
  by_cases hi : k = i
  · subst hi
    simp only [(List.getElem?_eq_some_iff.mp h).1, if_true]
    rw [sg_mk_get h]
    congr 2
    apply List.ext_getElem?
    intro q
    rw [List.getElem?_set, List.getElem?_mapIdx, List.getElem?_mapIdx, List.length_mapIdx]
    by_cases hq : j = q
    · subst hq
      have h9 := List.getElem?_eq_some_iff.mp hj
      simp [h9.1, h9.2, sg_pv, sg_r2, vp_updL]
    · have hq' : ¬ q = j := fun e => hq e.symm
      simp only [hq, if_false]
      cases vs[q]? with
      | none => rfl
      | some v => cases v <;> simp [sg_pv, sg_r2, vp_updL, hq']
  · rw [if_neg hi]
    have hi' : ¬ i = k := fun e => hi e.symm
    simp only [sg_mk, List.getElem?_mapIdx]
    cases T[i]? with
    | none => rfl
    | some c =>
      simp only [Option.map_some, sg_r2, Option.some.injEq, Prod.mk.injEq, true_and]
      apply List.ext_getElem?
      intro q
      simp only [List.getElem?_mapIdx]
      cases c.2[q]? with
      | none => rfl
      | some v => cases v <;> simp [sg_pv, hi']
/-- every array of the template holds what its kind says -/
def sg_okc (c : Nat × List Value) : Bool := if c.1 = 20 ∨ c.1 = 22 then c.2.all (fun v => match v with | .int _ => true | _ => false) else if c.1 = 21 then c.2.all (fun v => match v with | .long _ => true | _ => false) else true
def sg_okT (T : ab_H) : Prop := T.all sg_okc = true ∧ T.length ≤ 950
/-- an array's kind and length -/
def sg_shp (T : ab_H) (a t n : Nat) : Prop := ∃ vs, T[a]? = some (t, vs) ∧ vs.length = n
theorem sg_shp_i {T : ab_H} (hT : sg_okT T) {a n j : Nat} (h : sg_shp T a 20 n) (hj : j < n) : ∃ vs v, T[a]? = some (20, vs) ∧ vs[j]? = some (.int v) := by
  obtain ⟨vs, h1, h2⟩ := h
  subst h2
  have h3 := List.all_eq_true.mp hT.1 _ (List.mem_of_getElem? h1)
  simp only [sg_okc, true_or, if_true] at h3
  have h4 := List.all_eq_true.mp h3 _ (List.getElem_mem hj)
  cases hv : vs[j] with
  | int v => exact ⟨vs, v, h1, by rw [List.getElem?_eq_getElem hj, hv]⟩
  | _ => rw [hv] at h4; cases h4
theorem sg_shp_z {T : ab_H} (hT : sg_okT T) {a n j : Nat} (h : sg_shp T a 22 n) (hj : j < n) : ∃ vs v, T[a]? = some (22, vs) ∧ vs[j]? = some (.int v) := by
  obtain ⟨vs, h1, h2⟩ := h
  subst h2
  have h3 := List.all_eq_true.mp hT.1 _ (List.mem_of_getElem? h1)
  simp only [sg_okc, or_true, if_true] at h3
  have h4 := List.all_eq_true.mp h3 _ (List.getElem_mem hj)
  cases hv : vs[j] with
  | int v => exact ⟨vs, v, h1, by rw [List.getElem?_eq_getElem hj, hv]⟩
  | _ => rw [hv] at h4; cases h4
theorem sg_shp_l {T : ab_H} (hT : sg_okT T) {a n j : Nat} (h : sg_shp T a 21 n) (hj : j < n) : ∃ vs v, T[a]? = some (21, vs) ∧ vs[j]? = some (.long v) := by
  obtain ⟨vs, h1, h2⟩ := h
  subst h2
  have h3 := List.all_eq_true.mp hT.1 _ (List.mem_of_getElem? h1)
  have e1 : ¬ (21 = 20 ∨ 21 = 22) := by decide
  simp only [sg_okc, e1, if_false, if_true] at h3
  have h4 := List.all_eq_true.mp h3 _ (List.getElem_mem hj)
  cases hv : vs[j] with
  | long v => exact ⟨vs, v, h1, by rw [List.getElem?_eq_getElem hj, hv]⟩
  | _ => rw [hv] at h4; cases h4
theorem ab_ix_nI {k : Nat} (h : k < 2 ^ 31) : ab_ix (nI k) = some k := by
  unfold ab_ix
  rw [if_neg (nI_pos h), nI_clamp h]
