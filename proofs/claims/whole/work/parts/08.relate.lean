/-! how the abstract machine's heap, stack and locals stand in the machine's own -/
def ab_rl (ad : Nat → Nat) : Value → Value
  | .ref k => .ref (ad k)
  | v => v
def ab_vI : Value → Int32
  | .int x => x
  | _ => 0
def ab_vL : Value → Int64
  | .long x => x
  | _ => 0
def ab_vR (ad : Nat → Nat) : Value → Option Nat
  | .ref k => some (ad k)
  | _ => none
def ab_cz (ad : Nat → Nat) (aC : Nat → ClassId) (c : Nat × List Value) : va_E :=
  if c.1 < 20 then .inr (c.1, c.2.map (ab_rl ad))
  else if c.1 = 21 then .inl (aC 1, c.2.length, .inr (.inl (fun j => ab_vL (c.2.getD j .null))))
  else if c.1 ≤ 22 then .inl (aC (c.1 - 20), c.2.length, .inl (fun j => ab_vI (c.2.getD j .null)))
  else .inl (aC (c.1 - 20), c.2.length, .inr (.inr (.inr (.inr (fun j => ab_vR ad (c.2.getD j .null))))))
def ab_wd (ad : Nat → Nat) (aC : Nat → ClassId) (h : ab_H) : va_W := h.mapIdx (fun k c => (ad k, ab_cz ad aC c))
theorem ab_wd_get (ad : Nat → Nat) (aC : Nat → ClassId) (h : ab_H) (k : Nat) : (ab_wd ad aC h)[k]? = (h[k]?).map (fun c => (ad k, ab_cz ad aC c)) := by
  simp [ab_wd, List.getElem?_mapIdx]
theorem ab_wd_at {ad : Nat → Nat} {aC : Nat → ClassId} {h : ab_H} {k : Nat} {c : Nat × List Value} (hk : h[k]? = some c) : (ab_wd ad aC h)[k]? = some (ad k, ab_cz ad aC c) := by
  rw [ab_wd_get, hk]; rfl
theorem ab_wd_set (ad : Nat → Nat) (aC : Nat → ClassId) (h : ab_H) (k : Nat) (c : Nat × List Value) : ab_wd ad aC (h.set k c) = (ab_wd ad aC h).set k (ad k, ab_cz ad aC c) := by
  apply List.ext_getElem?
  intro j
  rw [ab_wd_get, List.getElem?_set, List.getElem?_set, ab_wd_get]
  by_cases hj : k = j
  · subst hj
    by_cases hl : k < h.length
    · simp [hl, ab_wd]
    · simp [hl, ab_wd]
  · simp [hj]
def ab_sz (h : ab_H) : Nat := (h.map fun c => c.2.length).sum
theorem ab_sz_app (h g : ab_H) : ab_sz (h ++ g) = ab_sz h + ab_sz g := by simp [ab_sz]
theorem ab_sz_set {h : ab_H} {k : Nat} {c c' : Nat × List Value} (hk : h[k]? = some c) (hl : c'.2.length = c.2.length) : ab_sz (h.set k c') = ab_sz h := by
  unfold ab_sz
  congr 1
  rw [List.map_set]
  apply List.ext_getElem?
  intro j
  rw [List.getElem?_set]
  by_cases hj : k = j
  · subst hj
    have h9 := List.getElem?_eq_some_iff.mp hk
    simp [hl, h9.1, h9.2]
  · simp [hj]
def ab_tys (aC : Nat → ClassId) : List (ClassId × FieldType) := [(aC 0, .int), (aC 1, .long), (aC 2, .boolean), (aC 3, .array .int), (aC 4, .array .long), (aC 5, .object "RootedCuts$State")]
def ab_isN : Cond → Bool
  | .methodLinkNest .. => true
  | .arrayOver _ => true
  | _ => false
theorem ab_isN_moved {w : Cond} (hw : ab_isN w = true) {s U : State} (hW : s.WarmedH U.vm) (h : va_Nw w s) : va_Nw w U := by
  cases w <;> simp [ab_isN] at hw
  case methodLinkNest => exact va_Nw.warmM hW h
  case arrayOver ty =>
    have h2 : (Cond.arrayOver ty).before #[] (s.setVm U.vm) = true := by
      rw [Cond.arrayOver_setVmC hW.alike]
      exact h
    exact h2
theorem ab_NW_isN : ab_NW.all ab_isN = true := rfl
/-- what stands as it is throughout: classes, static tables -/
def ab_Stc (D : va_G) (aC : Nat → ClassId) (ad : Nat → Nat) (A : Nat → Prop) (U : State) (H : Heap) : Prop :=
  va_K D ab_cl (ab_tys aC) U ∧ (∀ w ∈ ab_NW, va_Nw w U) ∧
  (U.vm.findClass "[I" = some (aC 0) ∧ U.vm.findClass "[J" = some (aC 1) ∧ U.vm.findClass "[Z" = some (aC 2) ∧ U.vm.findClass "[[I" = some (aC 3) ∧ U.vm.findClass "[[J" = some (aC 4) ∧ U.vm.findClass "[LRootedCuts$State;" = some (aC 5)) ∧
  ∀ j, j < 3 → va_Z RX9 (ab_sn j) "[I" (.ref (ad (1000 + j))) A U H ∧ va_T .int (ad (1000 + j)) (ab_ST j).length (fun k => .int ((ab_ST j).getD k 0)) A U H
theorem ab_Stc.moved {D : va_G} {aC : Nat → ClassId} {ad : Nat → Nat} {A : Nat → Prop} {s U : State} {H H1 : Heap} (h : ab_Stc D aC ad A s H) (hW : s.WarmedH U.vm) (hk : ∀ a : Nat, a < H.size → ¬ A a → H1[a]? = H[a]?) : ab_Stc D aC ad A U H1 := by
  obtain ⟨h1, h2, h3, h4⟩ := h
  refine ⟨va_K.moved hW.alike h1, fun w hw => ab_isN_moved (List.all_eq_true.mp ab_NW_isN w hw) hW (h2 w hw), ?_, fun j hj => ⟨((h4 j hj).1.moved hW.alike).kept hk, ((h4 j hj).2.moved hW.alike).kept hk⟩⟩
  simp only [hW.alike.findClass]
  exact h3
theorem ab_Stc.narrow {D : va_G} {aC : Nat → ClassId} {ad : Nat → Nat} {A B : Nat → Prop} {s : State} {H : Heap} (h : ab_Stc D aC ad A s H) (hAB : ∀ q, B q → A q) : ab_Stc D aC ad B s H := by
  obtain ⟨h1, h2, h3, h4⟩ := h
  exact ⟨h1, h2, h3, fun j hj => ⟨(h4 j hj).1.narrow hAB, (h4 j hj).2.narrow hAB⟩⟩
/-! locals -/
def ab_okv : Value → Bool
  | .int _ => true
  | .long _ => true
  | .ref _ => true
  | _ => false
def ab_LR (ad : Nat → Nat) (ls : Array Slot) (n : Nat) (L : List Value) : Prop := L.length = n ∧ ∃ l, lv_has ls n l ∧ ∀ k v, L[k]? = some v → ab_okv v = true → (k, ab_rl ad v) ∈ l
theorem ab_LR.at {ad : Nat → Nat} {ls : Array Slot} {n : Nat} {L : List Value} (h : ab_LR ad ls n L) {k : Nat} {v : Value} (hk : L[k]? = some v) (hv : ab_okv v = true) : ls[k]? = some (.val (ab_rl ad v)) := by
  obtain ⟨-, l, h1, h2⟩ := h
  exact h1.2.2 _ (h2 k v hk hv)
theorem ab_LR.size {ad : Nat → Nat} {ls : Array Slot} {n : Nat} {L : List Value} (h : ab_LR ad ls n L) : ls.size = n := h.2.choose_spec.1.1
theorem ab_inv_len (L : List Value) (k : Nat) : (ab_inv L k).length = L.length := by
  cases k with
  | zero => rfl
  | succ j =>
    simp only [ab_inv]
    split
    · rw [ab_set_eq, List.length_set]
    · rfl
theorem ab_inv_get {L : List Value} {k j : Nat} {v : Value} (h : (ab_inv L k)[j]? = some v) (hv : ab_okv v = true) : L[j]? = some v ∧ ¬ (j + 1 = k ∧ v.category = 2) := by
  cases k with
  | zero => exact ⟨h, fun q => by omega⟩
  | succ i =>
    simp only [ab_inv, ab_nth_eq] at h
    split at h
    · rename_i x hx
      rw [ab_set_eq, List.getElem?_set] at h
      by_cases hj : i = j
      · subst hj
        have := (List.getElem?_eq_some_iff.mp hx).1
        simp [this] at h
        rw [← h] at hv
        exact absurd hv (by decide)
      · simp [hj] at h
        exact ⟨h, fun q => hj (by omega)⟩
    · rename_i hx
      refine ⟨h, fun q => ?_⟩
      have hji : j = i := by omega
      subst hji
      cases v <;> simp [ab_okv] at hv
      case int => exact absurd q.2 (by simp [Value.category])
      case long x => exact hx x h
      case ref => exact absurd q.2 (by simp [Value.category])
theorem ab_rl_cat (ad : Nat → Nat) (v : Value) : (ab_rl ad v).category = v.category := by cases v <;> rfl
theorem ab_LR.st1 {ad : Nat → Nat} {ls' : Array Slot} {n k : Nat} {L L' : List Value} {l : List (Nat × Value)} {v : Value} (hn : L.length = n) (hl : ∀ k v, L[k]? = some v → ab_okv v = true → (k, ab_rl ad v) ∈ l) (hs : ab_st1 L k v = some L')
    (h : lv_has ls' n ((k, ab_rl ad v) :: l.filter (fun q => !(q.1 == k) && !(q.1 + 1 == k && q.2.category == 2)))) : ab_LR ad ls' n L' := by
  unfold ab_st1 at hs
  rw [ab_nth_eq] at hs
  split at hs
  · rename_i w hw
    cases hs
    have hkl : k < L.length := (List.getElem?_eq_some_iff.mp hw).1
    refine ⟨by rw [ab_set_eq, List.length_set, ab_inv_len, hn], _, h, fun j u hj hu => ?_⟩
    rw [ab_set_eq, List.getElem?_set] at hj
    by_cases e : k = j
    · subst e
      simp [ab_inv_len, hkl] at hj
      rw [hj]
      exact List.mem_cons_self
    · simp only [e, if_false] at hj
      obtain ⟨a, b⟩ := ab_inv_get hj hu
      refine List.mem_cons_of_mem _ (List.mem_filter.mpr ⟨hl j u a hu, ?_⟩)
      simp only [Bool.and_eq_true, Bool.not_eq_true', beq_eq_false_iff_ne, ne_eq, Bool.and_eq_false_iff]
      refine ⟨fun q => e q.symm, ?_⟩
      by_cases q : j + 1 = k
      · exact Or.inr (fun z => b ⟨q, by rw [← ab_rl_cat ad u]; exact z⟩)
      · exact Or.inl q
  · cases hs
theorem ab_LR.st2 {ad : Nat → Nat} {ls' : Array Slot} {n k : Nat} {L L' : List Value} {l : List (Nat × Value)} {v : Value} (hn : L.length = n) (hl : ∀ k v, L[k]? = some v → ab_okv v = true → (k, ab_rl ad v) ∈ l) (hs : ab_st2 L k v = some L')
    (h : lv_has ls' n ((k, ab_rl ad v) :: l.filter (fun q => !(q.1 == k) && (!(q.1 == k + 1) && !(q.1 + 1 == k && q.2.category == 2))))) : ab_LR ad ls' n L' := by
  unfold ab_st2 at hs
  rw [ab_nth_eq] at hs
  split at hs
  · rename_i w hw
    cases hs
    have hkl : k + 1 < L.length := (List.getElem?_eq_some_iff.mp hw).1
    refine ⟨by simp only [ab_set_eq, List.length_set, ab_inv_len, hn], _, h, fun j u hj hu => ?_⟩
    simp only [ab_set_eq, List.getElem?_set, List.length_set, ab_inv_len] at hj
    by_cases e1 : k + 1 = j
    · subst e1
      simp [hkl] at hj
      rw [← hj] at hu
      exact absurd hu (by decide)
    · simp only [e1, if_false] at hj
      by_cases e : k = j
      · subst e
        simp [show k < L.length by omega] at hj
        rw [hj]
        exact List.mem_cons_self
      · simp only [e, if_false] at hj
        obtain ⟨a, b⟩ := ab_inv_get hj hu
        refine List.mem_cons_of_mem _ (List.mem_filter.mpr ⟨hl j u a hu, ?_⟩)
        simp only [Bool.and_eq_true, Bool.not_eq_true', beq_eq_false_iff_ne, ne_eq, Bool.and_eq_false_iff]
        refine ⟨fun q => e q.symm, fun q => e1 q.symm, ?_⟩
        by_cases q : j + 1 = k
        · exact Or.inr (fun z => b ⟨q, by rw [← ab_rl_cat ad u]; exact z⟩)
        · exact Or.inl q
  · cases hs
theorem ab_st1_lt {L L' : List Value} {k : Nat} {v : Value} (h : ab_st1 L k v = some L') : k < L.length := by
  unfold ab_st1 at h
  rw [ab_nth_eq] at h
  split at h
  · rename_i w hw; exact (List.getElem?_eq_some_iff.mp hw).1
  · cases h
theorem ab_st2_lt {L L' : List Value} {k : Nat} {v : Value} (h : ab_st2 L k v = some L') : k + 1 < L.length := by
  unfold ab_st2 at h
  rw [ab_nth_eq] at h
  split at h
  · rename_i w hw; exact (List.getElem?_eq_some_iff.mp hw).1
  · cases h
theorem ab_ix_spec {i : Int32} {k : Nat} (h : ab_ix i = some k) : ¬ i < 0 ∧ i.toNatClampNeg = k := by
  unfold ab_ix at h
  split at h
  · cases h
  · rename_i hn; exact ⟨hn, Option.some.inj h⟩
theorem ab_ix_in {i : Int32} {k n : Nat} (h : ab_ix i = some k) (hk : k < n) : vp_in i n := by
  obtain ⟨h1, h2⟩ := ab_ix_spec h
  rintro (q | q)
  · exact h1 q
  · omega
/-! the invariant at a point of a walk -/
def ab_I (D : va_G) (aC : Nat → ClassId) (ad : Nat → Nat) (A : Nat → Prop) (H0 : Heap) (h : ab_H) (H : Heap) (locs : List Loc) : Prop :=
  va_P D ab_cl (ab_wd ad aC h) H ∧ va_D A (ab_wd ad aC h) ∧ va_S A H0 H locs
theorem ab_I.set {D : va_G} {aC : Nat → ClassId} {ad : Nat → Nat} {A : Nat → Prop} {H0 : Heap} {h : ab_H} {H1 : Heap} {locs1 : List Loc} {k : Nat} {c : Nat × List Value}
    (hP : va_P D ab_cl ((ab_wd ad aC h).set k (ad k, ab_cz ad aC c)) H1) (hD : va_D A ((ab_wd ad aC h).set k (ad k, ab_cz ad aC c))) (hS : va_S A H0 H1 locs1) : ab_I D aC ad A H0 (h.set k c) H1 locs1 :=
  ⟨by rw [ab_wd_set]; exact hP, by rw [ab_wd_set]; exact hD, hS⟩
theorem ab_I.app {D : va_G} {aC : Nat → ClassId} {ad : Nat → Nat} {A : Nat → Prop} {H0 : Heap} {h cs : ab_H} {H H1 : Heap} {locs : List Loc} (hI : ab_I D aC ad A H0 h H locs) (hs0 : H.size = ad h.length) (had : ∀ j, j < cs.length → ad (h.length + j) = ad h.length + j)
    (hz : H.size ≤ H1.size) (ho : ∀ q, q < H.size → H1[q]? = H[q]?) (hA : ∀ q, H0.size ≤ q → A q) (hc : ∀ j c, cs[j]? = some c → va_at D ab_cl (ad (h.length + j), ab_cz ad aC c) H1) : ab_I D aC ad A H0 (h ++ cs) H1 locs := by
  obtain ⟨hP, hD, hS⟩ := hI
  have key : ∀ (k : Nat) (q : Nat × va_E), (ab_wd ad aC (h ++ cs))[k]? = some q → ((ab_wd ad aC h)[k]? = some q ∧ k < h.length) ∨ ∃ j c, k = h.length + j ∧ cs[j]? = some c ∧ q = (ad (h.length + j), ab_cz ad aC c) := by
    intro k q hk
    rw [ab_wd_get] at hk
    by_cases hl : k < h.length
    · rw [List.getElem?_append_left hl] at hk
      exact Or.inl ⟨by rw [ab_wd_get]; exact hk, hl⟩
    · rw [List.getElem?_append_right (by omega)] at hk
      cases hcs : cs[k - h.length]? with
      | none => rw [hcs] at hk; cases hk
      | some c =>
        rw [hcs] at hk
        have e : h.length + (k - h.length) = k := by omega
        refine Or.inr ⟨k - h.length, c, by omega, hcs, ?_⟩
        rw [e]
        exact (Option.some.inj hk).symm
  have hnew : ∀ (j : Nat) (c : Nat × List Value), cs[j]? = some c → ad (h.length + j) = H.size + j := fun j c hj => by
    rw [had j (List.getElem?_eq_some_iff.mp hj).1, hs0]
  refine ⟨fun k q hk => ?_, ⟨fun i j x y hi hj hxy => ?_, fun k q hk => ?_⟩, ⟨Nat.le_trans hS.1 (by omega), fun q h1 h2 => (ho q (Nat.lt_of_lt_of_le h1 hS.1)).trans (hS.2.1 q h1 h2), hS.2.2⟩⟩
  · rcases key k q hk with ⟨h1, -⟩ | ⟨j, c, -, h2, rfl⟩
    · exact (hP k q h1).kept (ho q.1 ((hP k q h1).lt))
    · exact hc j c h2
  · rcases key i x hi with ⟨h1, -⟩ | ⟨a, c, e1, h2, rfl⟩ <;> rcases key j y hj with ⟨h3, -⟩ | ⟨b, d, e2, h4, rfl⟩
    · exact hD.1 i j x y h1 h3 hxy
    · have := (hP i x h1).lt
      have := hnew b d h4
      have hxy : x.1 = ad (h.length + b) := hxy
      omega
    · have := (hP j y h3).lt
      have := hnew a c h2
      have hxy : ad (h.length + a) = y.1 := hxy
      omega
    · have := hnew a c h2
      have := hnew b d h4
      have hxy : ad (h.length + a) = ad (h.length + b) := hxy
      omega
  · rcases key k q hk with ⟨h1, -⟩ | ⟨j, c, -, h2, rfl⟩
    · exact hD.2 k q h1
    · show A (ad (h.length + j))
      rw [hnew j c h2]
      exact hA _ (Nat.le_trans hS.1 (by omega))
