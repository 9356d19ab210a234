/-! what the words say of classes and methods -/
def ab_mok (mid : Nat) : Bool := match ab_PL.getD mid (0, 0, 0, 0) with
  | (p1, p2, p3, p4) => decide (lw_tbl[p1]? = some (.code (ab_YM mid) (ab_BM mid) (ab_MT.getD mid (0, 0, 0, 0, 0, 0, 0)).2.2.2.1 (ab_RT (ab_MT.getD mid (0, 0, 0, 0, 0, 0, 0)).2.2.2.2.1)))
    && (match (ab_MT.getD mid (0, 0, 0, 0, 0, 0, 0)).2.1 with
      | 0 => decide (lw_tbl[p2]? = some (.instanceMethod (ab_YM mid))) && decide (lw_tbl[p3]? = some (.selects (ab_YM mid).cls (ab_YM mid) (ab_YM mid)))
      | 1 => decide (lw_tbl[p2]? = some (.static (ab_YM mid)))
      | _ => decide (lw_tbl[p2]? = some (.instanceMethod (ab_YM mid))) && decide ((ab_YM mid).name = "<init>"))
    && decide (lw_tbl[p4]? = some (.initialized (ab_YM mid).cls)) && decide ((ab_YM mid).cls = ab_RC (ab_MT.getD mid (0, 0, 0, 0, 0, 0, 0)).1) && plainName (ab_YM mid).cls
    && decide ((ab_YM mid).cls ≠ "java/lang/invoke/MethodHandle") && decide ((ab_YM mid).cls ≠ "java/lang/invoke/VarHandle")
    && decide ((parseMethodDescriptor (ab_YM mid).desc).map (fun d => d.parameters.length) = some (ab_MT.getD mid (0, 0, 0, 0, 0, 0, 0)).2.2.1)
set_option maxRecDepth 100000 in
theorem mk_0 : ((List.range 16).all fun k => ab_mok (0 + k)) = true := by decide +kernel
set_option maxRecDepth 100000 in
theorem mk_1 : ((List.range 16).all fun k => ab_mok (16 + k)) = true := by decide +kernel
set_option maxRecDepth 100000 in
theorem mk_2 : ((List.range 16).all fun k => ab_mok (32 + k)) = true := by decide +kernel
set_option maxRecDepth 100000 in
theorem mk_3 : ((List.range 16).all fun k => ab_mok (48 + k)) = true := by decide +kernel
set_option maxRecDepth 100000 in
theorem mk_4 : ((List.range 16).all fun k => ab_mok (64 + k)) = true := by decide +kernel
set_option maxRecDepth 100000 in
theorem mk_5 : ((List.range 16).all fun k => ab_mok (80 + k)) = true := by decide +kernel
set_option maxRecDepth 100000 in
theorem mk_6 : ((List.range 16).all fun k => ab_mok (96 + k)) = true := by decide +kernel
set_option maxRecDepth 100000 in
theorem mk_7 : ((List.range 16).all fun k => ab_mok (112 + k)) = true := by decide +kernel
set_option maxRecDepth 100000 in
theorem mk_8 : ((List.range 16).all fun k => ab_mok (128 + k)) = true := by decide +kernel
set_option maxRecDepth 100000 in
theorem mk_9 : ((List.range 13).all fun k => ab_mok (144 + k)) = true := by decide +kernel
theorem ab_MR_eq (mid : Nat) : ab_MR mid = ab_MT.getD mid (0, 0, 0, 0, 0, 0, 0) := by
  unfold ab_MR
  rw [ab_nth_eq, List.getD_eq_getElem?_getD]
  cases ab_MT[mid]? <;> rfl
theorem ab_mk {mid : Nat} (h : mid < 157) : ab_mok mid = true := by
  have key : ∀ (a n : Nat), ((List.range n).all fun k => ab_mok (a + k)) = true → a ≤ mid → mid < a + n → ab_mok mid = true := by
    intro a n h1 h2 h3
    have := List.all_eq_true.mp h1 (mid - a) (List.mem_range.mpr (by omega))
    rwa [show a + (mid - a) = mid by omega] at this
  by_cases h0 : mid < 16
  · exact key 0 16 mk_0 (by omega) (by omega)
  by_cases h1 : mid < 32
  · exact key 16 16 mk_1 (by omega) (by omega)
  by_cases h2 : mid < 48
  · exact key 32 16 mk_2 (by omega) (by omega)
  by_cases h3 : mid < 64
  · exact key 48 16 mk_3 (by omega) (by omega)
  by_cases h4 : mid < 80
  · exact key 64 16 mk_4 (by omega) (by omega)
  by_cases h5 : mid < 96
  · exact key 80 16 mk_5 (by omega) (by omega)
  by_cases h6 : mid < 112
  · exact key 96 16 mk_6 (by omega) (by omega)
  by_cases h7 : mid < 128
  · exact key 112 16 mk_7 (by omega) (by omega)
  by_cases h8 : mid < 144
  · exact key 128 16 mk_8 (by omega) (by omega)
  by_cases h9 : mid < 157
  · exact key 144 13 mk_9 (by omega) (by omega)
  omega
theorem ab_in {p : Nat} {w : Cond} (h : lw_tbl[p]? = some w) (hg : goodWord w = true) : w ∈ ab_TG := List.mem_filter.mpr ⟨List.mem_of_getElem? h, hg⟩
/-- the facts of a method -/
theorem ab_mf {mid : Nat} (h : mid < 157) : Cond.code (ab_YM mid) (ab_BM mid) (ab_MR mid).2.2.2.1 (ab_RT (ab_MR mid).2.2.2.2.1) ∈ ab_TG ∧ Cond.initialized (ab_YM mid).cls ∈ ab_TG ∧ (ab_YM mid).cls = ab_RC (ab_MR mid).1 ∧ plainName (ab_YM mid).cls = true ∧ ((ab_YM mid).cls ≠ "java/lang/invoke/MethodHandle" ∧ (ab_YM mid).cls ≠ "java/lang/invoke/VarHandle" ∧ (parseMethodDescriptor (ab_YM mid).desc).map (fun d => d.parameters.length) = some (ab_MR mid).2.2.1) ∧
    ((ab_MR mid).2.1 = 0 → Cond.instanceMethod (ab_YM mid) ∈ ab_TG ∧ Cond.selects (ab_YM mid).cls (ab_YM mid) (ab_YM mid) ∈ ab_TG) ∧ ((ab_MR mid).2.1 = 1 → Cond.static (ab_YM mid) ∈ ab_TG) ∧ ((ab_MR mid).2.1 = 2 → Cond.instanceMethod (ab_YM mid) ∈ ab_TG ∧ (ab_YM mid).name = "<init>") := by
  have hk := ab_mk h
  rw [ab_MR_eq]
  unfold ab_mok at hk
  split at hk
  simp only [Bool.and_eq_true, decide_eq_true_eq] at hk
  obtain ⟨⟨⟨⟨⟨⟨⟨h1, h2⟩, h3⟩, h4⟩, h5⟩, h6⟩, h7⟩, h8⟩ := hk
  refine ⟨ab_in h1 rfl, ab_in h3 rfl, h4, h5, ⟨h6, h7, h8⟩, fun e => ?_, fun e => ?_, fun e => ?_⟩
  · rw [e] at h2
    simp only [Bool.and_eq_true, decide_eq_true_eq] at h2
    exact ⟨ab_in h2.1 rfl, ab_in h2.2 rfl⟩
  · rw [e] at h2
    simp only [decide_eq_true_eq] at h2
    exact ab_in h2 rfl
  · rw [e] at h2
    simp only [Bool.and_eq_true, decide_eq_true_eq] at h2
    exact ⟨ab_in h2.1 rfl, h2.2⟩
/-! classes -/
def ab_clp (C : String) (T : u_T) (N ci : Nat) (ty : Nat → FieldType) : Prop := (∀ w ∈ u_ws C T N, w ∈ ab_TG) ∧ (∀ k, k < N → parseFieldDescriptor (T k).2.2.1 = some (ty k)) ∧ (∀ a, a < N → ∀ b, b < N → a ≠ b → (T a).2.1 ≠ (T b).2.1) ∧ (∀ k, k < N → (T k).1 = C) ∧ C = ab_RC ci ∧ Cond.instantiable C N ∈ ab_TG ∧ Cond.initialized C ∈ ab_TG ∧
  (∀ fs, ab_DF[ci]? = some fs → fs.length = N ∧ ∀ j, j < N → defaultValue (ty j) = fs.getD j .null)
theorem ab_ws_in {C : String} {T : u_T} {N : Nat} (ps : List Nat) (h : u_ws C T N = ps.filterMap (fun i => lw_tbl[i]?)) (hg : (u_ws C T N).all goodWord = true) : ∀ w ∈ u_ws C T N, w ∈ ab_TG := by
  intro w hw
  have h1 := List.all_eq_true.mp hg w hw
  rw [h] at hw
  obtain ⟨i, -, hi⟩ := List.mem_filterMap.mp hw
  exact ab_in hi h1
set_option maxRecDepth 100000 in
theorem cp_0 : ab_clp RX0 TX0 5 0 tyX0 := ⟨ab_ws_in [186, 188, 190, 192, 194] (by decide +kernel) (by decide +kernel), tyX0_ok, nmX0, by decide +kernel, by decide +kernel, ab_in (p := 154) (by decide +kernel) rfl, ab_in (p := 51) (by decide +kernel) rfl, fun fs h => by cases h; exact ⟨rfl, by decide +kernel⟩⟩
set_option maxRecDepth 100000 in
theorem cp_1 : ab_clp RX1 TX1 5 1 tyX1 := ⟨ab_ws_in [306, 308, 310, 312, 314] (by decide +kernel) (by decide +kernel), tyX1_ok, nmX1, by decide +kernel, by decide +kernel, ab_in (p := 251) (by decide +kernel) rfl, ab_in (p := 55) (by decide +kernel) rfl, fun fs h => by cases h; exact ⟨rfl, by decide +kernel⟩⟩
set_option maxRecDepth 100000 in
theorem cp_2 : ab_clp RX2 TX2 3 2 tyX2 := ⟨ab_ws_in [348, 350, 352] (by decide +kernel) (by decide +kernel), tyX2_ok, nmX2, by decide +kernel, by decide +kernel, ab_in (p := 336) (by decide +kernel) rfl, ab_in (p := 59) (by decide +kernel) rfl, fun fs h => by cases h; exact ⟨rfl, by decide +kernel⟩⟩
set_option maxRecDepth 100000 in
theorem cp_3 : ab_clp RX3 TX3 3 3 tyX3 := ⟨ab_ws_in [365, 367, 369] (by decide +kernel) (by decide +kernel), tyX3_ok, nmX3, by decide +kernel, by decide +kernel, ab_in (p := 356) (by decide +kernel) rfl, ab_in (p := 60) (by decide +kernel) rfl, fun fs h => by cases h; exact ⟨rfl, by decide +kernel⟩⟩
set_option maxRecDepth 100000 in
theorem cp_4 : ab_clp RX4 TX4 2 4 tyX4 := ⟨ab_ws_in [330, 332] (by decide +kernel) (by decide +kernel), tyX4_ok, nmX4, by decide +kernel, by decide +kernel, ab_in (p := 318) (by decide +kernel) rfl, ab_in (p := 58) (by decide +kernel) rfl, fun fs h => by cases h; exact ⟨rfl, by decide +kernel⟩⟩
set_option maxRecDepth 100000 in
theorem cp_5 : ab_clp RX5 TX5 3 5 tyX5 := ⟨ab_ws_in [268, 270, 272] (by decide +kernel) (by decide +kernel), tyX5_ok, nmX5, by decide +kernel, by decide +kernel, ab_in (p := 257) (by decide +kernel) rfl, ab_in (p := 56) (by decide +kernel) rfl, fun fs h => by cases h; exact ⟨rfl, by decide +kernel⟩⟩
set_option maxRecDepth 100000 in
theorem cp_6 : ab_clp RX6 TX6 2 6 tyX6 := ⟨ab_ws_in [223, 225] (by decide +kernel) (by decide +kernel), tyX6_ok, nmX6, by decide +kernel, by decide +kernel, ab_in (p := 213) (by decide +kernel) rfl, ab_in (p := 53) (by decide +kernel) rfl, fun fs h => by cases h; exact ⟨rfl, by decide +kernel⟩⟩
set_option maxRecDepth 100000 in
theorem cp_7 : ab_clp RX7 TX7 5 7 tyX7 := ⟨ab_ws_in [289, 291, 293, 295, 297] (by decide +kernel) (by decide +kernel), tyX7_ok, nmX7, by decide +kernel, by decide +kernel, ab_in (p := 276) (by decide +kernel) rfl, ab_in (p := 57) (by decide +kernel) rfl, fun fs h => by cases h; exact ⟨rfl, by decide +kernel⟩⟩
set_option maxRecDepth 100000 in
theorem cp_8 : ab_clp RX8 TX8 5 8 tyX8 := ⟨ab_ws_in [239, 241, 243, 245, 247] (by decide +kernel) (by decide +kernel), tyX8_ok, nmX8, by decide +kernel, by decide +kernel, ab_in (p := 229) (by decide +kernel) rfl, ab_in (p := 54) (by decide +kernel) rfl, fun fs h => by cases h; exact ⟨rfl, by decide +kernel⟩⟩
set_option maxRecDepth 100000 in
theorem cp_9 : ab_clp RX9 TX9 8 9 tyX9 := ⟨ab_ws_in [134, 136, 138, 140, 142, 144, 146, 148] (by decide +kernel) (by decide +kernel), tyX9_ok, nmX9, by decide +kernel, by decide +kernel, ab_in (p := 72) (by decide +kernel) rfl, ab_in (p := 48) (by decide +kernel) rfl, fun fs h => by cases h; exact ⟨rfl, by decide +kernel⟩⟩
set_option maxRecDepth 100000 in
theorem cp_10 : ab_clp RX10 TX10 2 10 tyX10 := ⟨ab_ws_in [207, 209] (by decide +kernel) (by decide +kernel), tyX10_ok, nmX10, by decide +kernel, by decide +kernel, ab_in (p := 198) (by decide +kernel) rfl, ab_in (p := 52) (by decide +kernel) rfl, fun fs h => by cases h; exact ⟨rfl, by decide +kernel⟩⟩
set_option maxRecDepth 100000 in
theorem cp_11 : ab_clp RX11 TX11 12 11 tyX11 := ⟨ab_ws_in [385, 387, 389, 391, 393, 395, 397, 399, 401, 403, 405, 407] (by decide +kernel) (by decide +kernel), tyX11_ok, nmX11, by decide +kernel, by decide +kernel, ab_in (p := 64) (by decide +kernel) rfl, ab_in (p := 47) (by decide +kernel) rfl, fun fs h => by cases h; exact ⟨rfl, by decide +kernel⟩⟩
set_option maxRecDepth 100000 in
theorem cp_12 : ab_clp RX12 TX12 36 12 tyX12 := ⟨ab_ws_in [795, 797, 799, 801, 803, 805, 807, 809, 811, 813, 815, 817, 819, 821, 823, 825, 827, 829, 831, 833, 835, 837, 839, 841, 843, 845, 847, 849, 851, 853, 855, 857, 859, 861, 863, 865] (by decide +kernel) (by decide +kernel), tyX12_ok, nmX12, by decide +kernel, by decide +kernel, ab_in (p := 730) (by decide +kernel) rfl, ab_in (p := 61) (by decide +kernel) rfl, fun fs h => by cases h; exact ⟨rfl, by decide +kernel⟩⟩
theorem ab_cp {ci N : Nat} {C : String} {T : u_T} (h : ab_cl[ci]? = some (C, T, N)) : ∃ ty, ab_clp C T N ci ty := by
  match ci, h with
  | 0, h => cases h; exact ⟨_, cp_0⟩
  | 1, h => cases h; exact ⟨_, cp_1⟩
  | 2, h => cases h; exact ⟨_, cp_2⟩
  | 3, h => cases h; exact ⟨_, cp_3⟩
  | 4, h => cases h; exact ⟨_, cp_4⟩
  | 5, h => cases h; exact ⟨_, cp_5⟩
  | 6, h => cases h; exact ⟨_, cp_6⟩
  | 7, h => cases h; exact ⟨_, cp_7⟩
  | 8, h => cases h; exact ⟨_, cp_8⟩
  | 9, h => cases h; exact ⟨_, cp_9⟩
  | 10, h => cases h; exact ⟨_, cp_10⟩
  | 11, h => cases h; exact ⟨_, cp_11⟩
  | 12, h => cases h; exact ⟨_, cp_12⟩
  | n + 13, h => simp [ab_cl] at h
