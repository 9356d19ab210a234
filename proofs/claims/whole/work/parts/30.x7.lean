/-! weights: the numbers -/
def t_sm (f g : Nat → Int64) : Nat → Nat → Int64 → Int64
  | 0, _, acc => acc
  | n + 1, k, acc => t_sm f g n (k + 1) (acc + f k * g k)
theorem t_sm_congr {f f' g g' : Nat → Int64} : ∀ (n k : Nat) (acc : Int64), (∀ i, k ≤ i → i < k + n → f i = f' i ∧ g i = g' i) → t_sm f g n k acc = t_sm f' g' n k acc
  | 0, _, _, _ => rfl
  | n + 1, k, acc, h => by
    rw [t_sm, t_sm, (h k (Nat.le_refl _) (by omega)).1, (h k (Nat.le_refl _) (by omega)).2]
    exact t_sm_congr n (k + 1) _ (fun i h1 h2 => h i (by omega) (by omega))
/-- the weight of a stage, of a tree -/
def t_w (A : Nat → Nat → Int64) (s : Nat) : Nat → Nat → Nat → Int64
  | 0, _, _ => 1
  | n + 1, j, t => if t = 0 then 1 else t_sm (A j) (fun k => t_w A s n k (t_fi t)) s 0 0 * t_w A s n j (t_re t)
theorem t_w_fuel {A : Nat → Nat → Int64} {s : Nat} : ∀ (n m j t : Nat), t < 17 → t ≤ n → t ≤ m → t_w A s n j t = t_w A s m j t
  | 0, m, j, t, _, h1, _ => by
    obtain rfl : t = 0 := by omega
    cases m with
    | zero => rfl
    | succ m => rw [t_w, t_w, if_pos rfl]
  | n + 1, 0, j, t, _, _, h2 => by
    obtain rfl : t = 0 := by omega
    rw [t_w, t_w, if_pos rfl]
  | n + 1, m + 1, j, t, ht, h1, h2 => by
    rw [t_w, t_w]
    by_cases h0 : t = 0
    · rw [if_pos h0, if_pos h0]
    · rw [if_neg h0, if_neg h0]
      have hr := tb_re t ht (by omega)
      rw [t_w_fuel n m j (t_re t) (by omega) (by omega) (by omega)]
      congr 1
      exact t_sm_congr _ _ _ (fun i _ _ => ⟨rfl, t_w_fuel n m i (t_fi t) (by omega) (by omega) (by omega)⟩)
def t_W (A : Nat → Nat → Int64) (s j t : Nat) : Int64 := t_w A s 17 j t
/-- what a tree gives to a stage as a child -/
def t_S (A : Nat → Nat → Int64) (s j t : Nat) : Int64 := t_sm (A j) (fun k => t_W A s k t) s 0 0
theorem t_W_0 {A : Nat → Nat → Int64} {s j : Nat} : t_W A s j 0 = 1 := by
  unfold t_W
  rw [t_w, if_pos rfl]
theorem t_W_s' {A : Nat → Nat → Int64} {s n j t : Nat} (ht : t < 17) (h0 : 0 < t) (hn : t ≤ n) : t_w A s (n + 1) j t = t_sm (A j) (fun k => t_w A s (n + 1) k (t_fi t)) s 0 0 * t_w A s (n + 1) j (t_re t) := by
  have hr := tb_re t ht h0
  rw [← t_w_fuel n (n + 1) j (t_re t) (by omega) (by omega) (by omega)]
  rw [t_sm_congr (f := A j) (f' := A j) (g := fun k => t_w A s (n + 1) k (t_fi t)) (g' := fun k => t_w A s n k (t_fi t)) s 0 0 (fun i _ _ => ⟨rfl, (t_w_fuel n (n + 1) i (t_fi t) (by omega) (by omega) (by omega)).symm⟩)]
  exact (t_w.eq_2 A s j t n).trans (if_neg (by omega))
theorem t_W_s {A : Nat → Nat → Int64} {s j t : Nat} (ht : t < 17) (h0 : 0 < t) : t_W A s j t = t_S A s j (t_fi t) * t_W A s j (t_re t) := t_W_s' ht h0 (by omega : t ≤ 16)
/-! the class: giveAsChild, weigh -/
theorem sx_el_w : ∀ j, j < 4 → sg_el tx_H 36 j = some (.ref (37 + j)) ∧ sg_sh tx_H (37 + j) = some (21, 17) ∧ sg_el tx_H 41 j = some (.ref (42 + j)) ∧ sg_sh tx_H (42 + j) = some (21, 17) := by decide +kernel
def sx_A (σ : sg_S) (j k : Nat) : Int64 := (σ.1 57 (j * 4 + k)).toInt64
def sx_B (σ : sg_S) (j : Nat) : Int64 := (σ.1 58 j).toInt64
theorem sx_64_k {σ σ' : sg_S} {r : Option Value} {s j t : Nat} (hs : σ.1 56 0 = nI s) (hs4 : s ≤ 4) (hj : j < s) (ht : t < 17) : ∀ n k : Nat, k + n = s → ∀ acc : Int64, sg_D tx_H 64 54 [.ref 35, .ref 56, .int (nI t), .int (nI j), .long (t_sm (sx_A σ j) (fun k => σ.2 (37 + k) t) n k acc), ab_u, .int (nI s)] [] σ r σ' → sg_D tx_H 64 16 [.ref 35, .ref 56, .int (nI t), .int (nI j), .long acc, ab_u, .int (nI k)] [] σ r σ'
  | 0, k, hk, acc, kk => by
    obtain rfl : k = s := by omega
    refine sg_iload f_64_16 rfl ?_
    refine sg_aload_n f_64_18 rfl ?_
    refine sg_getf_k f_64_19 fd_x_56_320 hs ?_
    first | refine sg_ncmp_ge 54 (by omega) (by omega) f_64_22 rfl (fun c22 => ?_) (fun c22 => ?_) | refine sg_icmp_ge 54 f_64_22 rfl (fun c22 => ?_) (fun c22 => ?_)
    · exact kk
    · omega
  | n + 1, k, hk, acc, kk => by
    have hk4 : k < 4 := by omega
    refine sg_iload f_64_16 rfl ?_
    refine sg_aload_n f_64_18 rfl ?_
    refine sg_getf_k f_64_19 fd_x_56_320 hs ?_
    first | refine sg_ncmp_ge 54 (by omega) (by omega) f_64_22 rfl (fun c22 => ?_) (fun c22 => ?_) | refine sg_icmp_ge 54 f_64_22 rfl (fun c22 => ?_) (fun c22 => ?_)
    · omega
    · refine sg_lload f_64_25 rfl ?_
      refine sg_aload_n f_64_27 rfl ?_
      refine sg_iload_n f_64_28 rfl ?_
      refine sg_iload f_64_29 rfl ?_
      refine sg_callv_i f_64_31 my_64_34 mr_34 rfl (Nat.le_of_ble_eq_true rfl) (Nat.le_of_ble_eq_true rfl) sh_x_56 (by decide) rfl (sx_34_a sx_SM_56 hs hs4 hj (show k < s by omega)) ?_
      refine sg_i2l _ f_64_34 rfl ?_
      refine sg_aload_n f_64_35 rfl ?_
      refine sg_getf_r f_64_36 fd_x_35_640 ?_
      refine sg_iload f_64_39 rfl ?_
      refine sg_aaload k f_64_41 rfl (sx_el_w k hk4).1 (by omega) ?_
      refine sg_iload_n f_64_42 rfl ?_
      refine sg_laload _ ok_x f_64_43 (sx_el_w k hk4).2.1 rfl (by omega) ?_
      refine sg_lmul _ f_64_44 rfl ?_
      refine sg_ladd _ f_64_45 rfl ?_
      refine sg_lstore [_, _, _, _, _, _, _] f_64_46 rfl ?_
      first | refine sg_iinc _ [_, _, _, _, _, _, _] f_64_48 rfl (sg_inc1 _) rfl ?_ | refine sg_iinc _ [_, _, _, _, _, _, _] f_64_48 rfl rfl rfl ?_
      refine sg_goto 16 f_64_51 rfl ?_
      exact sx_64_k hs hs4 hj ht n (k + 1) (by omega) _ kk
theorem sx_64_l {s t : Nat} (hs4 : s ≤ 4) (ht : t < 17) : ∀ (n j : Nat), j + n = s → ∀ (σ : sg_S) (l4 l5 l6 : Value), σ.1 56 0 = nI s → ∃ σ' : sg_S, sg_D tx_H 64 2 [.ref 35, .ref 56, .int (nI t), .int (nI j), l4, l5, l6] [] σ none σ' ∧ σ'.1 = σ.1 ∧ (∀ k, k < 42 + j ∨ 42 + s ≤ k → σ'.2 k = σ.2 k) ∧ ∀ i, j ≤ i → i < s → σ'.2 (42 + i) = vp_updL (σ.2 (42 + i)) t (t_sm (sx_A σ i) (fun k => σ.2 (37 + k) t) s 0 0)
  | 0, j, hj, σ, l4, l5, l6, hs => by
    obtain rfl : j = s := by omega
    refine ⟨σ, ?_, rfl, fun _ _ => rfl, fun i h1 h2 => by omega⟩
    refine sg_iload_n f_64_2 rfl ?_
    refine sg_aload_n f_64_3 rfl ?_
    refine sg_getf_k f_64_4 fd_x_56_320 hs ?_
    first | refine sg_ncmp_ge 70 (by omega) (by omega) f_64_7 rfl (fun c7 => ?_) (fun c7 => ?_) | refine sg_icmp_ge 70 f_64_7 rfl (fun c7 => ?_) (fun c7 => ?_)
    · exact (sg_vret f_64_70 rk_64)
    · omega
  | n + 1, j, hj, σ, l4, l5, l6, hs => by
    have hj4 : j < 4 := by omega
    generalize hv : t_sm (sx_A σ j) (fun k => σ.2 (37 + k) t) s 0 0 = v
    obtain ⟨σ', h1, h2, h3, h4⟩ := sx_64_l hs4 ht n (j + 1) (by omega) (sg_r2 σ (42 + j) (vp_updL (σ.2 (42 + j)) t v)) (.long v) ab_u (.int (nI s)) hs
    have k54 : sg_D tx_H 64 54 [.ref 35, .ref 56, .int (nI t), .int (nI j), .long v, ab_u, .int (nI s)] [] σ none σ' := by
      refine sg_aload_n f_64_54 rfl ?_
      refine sg_getf_r f_64_55 fd_x_35_641 ?_
      refine sg_iload_n f_64_58 rfl ?_
      refine sg_aaload j f_64_59 rfl (sx_el_w j hj4).2.2.1 (by omega) ?_
      refine sg_iload_n f_64_60 rfl ?_
      refine sg_lload f_64_61 rfl ?_
      refine sg_lastore _ ok_x f_64_63 (sx_el_w j hj4).2.2.2 rfl (by omega) ?_
      first | refine sg_iinc _ [_, _, _, _, _, _, _] f_64_64 rfl (sg_inc1 _) rfl ?_ | refine sg_iinc _ [_, _, _, _, _, _, _] f_64_64 rfl rfl rfl ?_
      refine sg_goto 2 f_64_67 rfl ?_
      exact h1
    refine ⟨σ', ?_, h2, fun k hk => ?_, fun i hi1 hi2 => ?_⟩
    · skip
      refine sg_iload_n f_64_2 rfl ?_
      refine sg_aload_n f_64_3 rfl ?_
      refine sg_getf_k f_64_4 fd_x_56_320 hs ?_
      first | refine sg_ncmp_ge 70 (by omega) (by omega) f_64_7 rfl (fun c7 => ?_) (fun c7 => ?_) | refine sg_icmp_ge 70 f_64_7 rfl (fun c7 => ?_) (fun c7 => ?_)
      · omega
      · refine sg_lconst 0 f_64_10 rfl ?_
        refine sg_lstore [_, _, _, _, _, _, _] f_64_11 rfl ?_
        refine sg_iconst (nI 0) f_64_13 ki_0 ?_
        refine sg_istore [_, _, _, _, _, _, _] f_64_14 rfl ?_
        refine sx_64_k hs hs4 (show j < s by omega) ht s 0 (by omega) 0 ?_
        rw [hv]
        exact k54
    · rw [h3 k (by omega), sg_r2_ne (by omega)]
    · rcases Nat.eq_or_lt_of_le hi1 with e | hi1
      · subst e
        rw [h3 _ (by omega), sg_r2_eq, hv]
      · rw [h4 i hi1 hi2, sg_r2_ne (by omega)]
        congr 1
        refine t_sm_congr _ _ _ (fun k _ hk => ⟨rfl, ?_⟩)
        show (sg_r2 σ (42 + j) _).2 (37 + k) t = _
        rw [sg_r2_ne (by omega)]
theorem sx_64 {σ : sg_S} {s t : Nat} (hs : σ.1 56 0 = nI s) (hs4 : s ≤ 4) (ht : t < 17) : ∃ σ' : sg_S, sg_D tx_H 64 0 [.ref 35, .ref 56, .int (nI t), ab_u, ab_u, ab_u, ab_u] [] σ none σ' ∧ σ'.1 = σ.1 ∧ (∀ k, k < 42 ∨ 42 + s ≤ k → σ'.2 k = σ.2 k) ∧ ∀ i, i < s → σ'.2 (42 + i) = vp_updL (σ.2 (42 + i)) t (t_sm (sx_A σ i) (fun k => σ.2 (37 + k) t) s 0 0) := by
  obtain ⟨σ', h1, h2, h3, h4⟩ := sx_64_l hs4 ht s 0 (by omega) σ ab_u ab_u ab_u hs
  refine ⟨σ', ?_, h2, h3, fun i hi => h4 i (Nat.zero_le _) hi⟩
  refine sg_iconst (nI 0) f_64_0 ki_0 ?_
  refine sg_istore_n [_, _, _, _, _, _, _] f_64_1 rfl ?_
  exact h1
theorem sx_ST0 : ∀ t, t < 17 → 0 < t → (ab_ST 0)[t]? = some (nI (t_fi t)) ∧ (ab_ST 1)[t]? = some (nI (t_re t)) := by decide +kernel
/-- what stands while the weights are made -/
def sx_wI (σ0 σ : sg_S) (s t : Nat) : Prop := σ.1 = σ0.1 ∧ (∀ k, k < 37 ∨ 46 ≤ k ∧ k ≠ 161 → σ.2 k = σ0.2 k) ∧ (∀ j u, j < s → u < t → σ.2 (37 + j) u = t_W (sx_A σ0) s j u ∧ σ.2 (42 + j) u = t_S (sx_A σ0) s j u) ∧ ∀ u, u < t → σ.2 161 u = t_sm (sx_B σ0) (fun j => t_W (sx_A σ0) s j u) s 0 0
theorem sx_vl_eq {f : Nat → Int64} {t : Nat} {v : Int64} : vp_updL f t v t = v := by simp [vp_updL]
theorem sx_vl_ne {f : Nat → Int64} {t u : Nat} {v : Int64} (h : u ≠ t) : vp_updL f t v u = f u := by simp [vp_updL, h]
theorem sx_63_v {σ0 σ : sg_S} {s t j : Nat} {v w : Int64} (hI : sx_wI σ0 σ s t) (hjs : j < s) (ht : t < 17) (hv : t_W (sx_A σ0) s j t = v) (h : t = 0 ∧ w = 1 ∨ 0 < t ∧ w = σ.2 (42 + j) (t_fi t) * σ.2 (37 + j) (t_re t)) : w = v := by
  rcases h with ⟨h0, hw⟩ | ⟨h0, hw⟩
  · subst h0; rw [hw, ← hv, t_W_0]
  · have hr := tb_re t ht h0
    rw [hw, ← hv, t_W_s ht h0, (hI.2.2.1 j (t_fi t) hjs (by omega)).2, (hI.2.2.1 j (t_re t) hjs (by omega)).1]
theorem sx_63_j {σ0 : sg_S} {s t : Nat} (hs : σ0.1 56 0 = nI s) (hs4 : s ≤ 4) (ht : t < 17) : ∀ (n j : Nat), j + n = s → ∀ (σ : sg_S) (acc : Int64), sx_wI σ0 σ s t → (∀ i, i < j → σ.2 (37 + i) t = t_W (sx_A σ0) s i t) → ∃ σ1 : sg_S, sx_wI σ0 σ1 s t ∧ (∀ i, i < s → σ1.2 (37 + i) t = t_W (sx_A σ0) s i t) ∧ ∀ r σ', sg_D tx_H 63 96 [.ref 35, .ref 56, .ref 161, .int (nI t), .long (t_sm (sx_B σ0) (fun i => t_W (sx_A σ0) s i t) n j acc), ab_u, .int (nI s)] [] σ1 r σ' → sg_D tx_H 63 14 [.ref 35, .ref 56, .ref 161, .int (nI t), .long acc, ab_u, .int (nI j)] [] σ r σ'
  | 0, j, hj, σ, acc, hI, hw => by
    obtain rfl : j = s := by omega
    have hs' : σ.1 56 0 = nI j := by rw [hI.1]; exact hs
    refine ⟨σ, hI, hw, fun r σ' kk => ?_⟩
    refine sg_iload f_63_14 rfl ?_
    refine sg_aload_n f_63_16 rfl ?_
    refine sg_getf_k f_63_17 fd_x_56_320 hs' ?_
    first | refine sg_ncmp_ge 96 (by omega) (by omega) f_63_20 rfl (fun c20 => ?_) (fun c20 => ?_) | refine sg_icmp_ge 96 f_63_20 rfl (fun c20 => ?_) (fun c20 => ?_)
    · exact kk
    · omega
  | n + 1, j, hj, σ, acc, hI, hw => by
    have hj4 : j < 4 := by omega
    have hjs : j < s := by omega
    have hs' : σ.1 56 0 = nI s := by rw [hI.1]; exact hs
    generalize hv : t_W (sx_A σ0) s j t = v
    have hI' : sx_wI σ0 (sg_r2 σ (37 + j) (vp_updL (σ.2 (37 + j)) t v)) s t := by
      refine ⟨hI.1, fun k hk => ?_, fun i u hi hu => ⟨?_, ?_⟩, fun u hu => ?_⟩
      · rw [sg_r2_ne (by omega)]; exact hI.2.1 k hk
      · by_cases e : i = j
        · subst e; rw [sg_r2_eq, sx_vl_ne (by omega)]; exact (hI.2.2.1 i u hi hu).1
        · rw [sg_r2_ne (by omega)]; exact (hI.2.2.1 i u hi hu).1
      · rw [sg_r2_ne (by omega)]; exact (hI.2.2.1 i u hi hu).2
      · rw [sg_r2_ne (by omega)]; exact hI.2.2.2 u hu
    have hw' : ∀ i, i < j + 1 → (sg_r2 σ (37 + j) (vp_updL (σ.2 (37 + j)) t v)).2 (37 + i) t = t_W (sx_A σ0) s i t := by
      intro i hi
      by_cases e : i = j
      · subst e; rw [sg_r2_eq, sx_vl_eq, hv]
      · rw [sg_r2_ne (by omega)]; exact hw i (by omega)
    obtain ⟨σ1, g1, g2, g3⟩ := sx_63_j hs hs4 ht n (j + 1) (by omega) (sg_r2 σ (37 + j) (vp_updL (σ.2 (37 + j)) t v)) (acc + sx_B σ0 j * v) hI' hw'
    refine ⟨σ1, g1, g2, fun r σ' kk => ?_⟩
    have k66' : ∀ w, w = v → sg_D tx_H 63 66 [.ref 35, .ref 56, .ref 161, .int (nI t), .long acc, ab_u, .int (nI j)] [.long w, .int (nI t), .ref (37 + j)] σ r σ' := by
      intro w hwv
      rw [hwv]
      have e1 : ((sg_r2 σ (37 + j) (vp_updL (σ.2 (37 + j)) t v)).1 (56 + 2) j).toInt64 = sx_B σ0 j := by rw [sg_r2_1]; unfold sx_B; rw [hI.1]
      have e2 : (sg_r2 σ (37 + j) (vp_updL (σ.2 (37 + j)) t v)).2 (37 + j) t = v := by rw [sg_r2_eq, sx_vl_eq]
      rw [t_sm, hv] at kk
      refine sg_lastore _ ok_x f_63_66 (sx_el_w j hj4).2.1 rfl (by omega) ?_
      refine sg_lload f_63_67 rfl ?_
      refine sg_aload_n f_63_69 rfl ?_
      refine sg_iload f_63_70 rfl ?_
      refine sg_iconst (-1) f_63_72 ki_m1 ?_
      refine sg_callv_i f_63_73 my_63_34 mr_34 rfl (Nat.le_of_ble_eq_true rfl) (Nat.le_of_ble_eq_true rfl) sh_x_56 (by decide) rfl (sx_34_b sx_SM_56 hs' hs4 hjs) ?_
      refine sg_i2l _ f_63_76 rfl ?_
      refine sg_aload_n f_63_77 rfl ?_
      refine sg_getf_r f_63_78 fd_x_35_640 ?_
      refine sg_iload f_63_81 rfl ?_
      refine sg_aaload j f_63_83 rfl (sx_el_w j hj4).1 (by omega) ?_
      refine sg_iload_n f_63_84 rfl ?_
      refine sg_laload _ ok_x f_63_85 (sx_el_w j hj4).2.1 rfl (by omega) ?_
      refine sg_lmul _ f_63_86 rfl ?_
      refine sg_ladd _ f_63_87 rfl ?_
      refine sg_lstore [_, _, _, _, _, _, _] f_63_88 rfl ?_
      first | refine sg_iinc _ [_, _, _, _, _, _, _] f_63_90 rfl (sg_inc1 _) rfl ?_ | refine sg_iinc _ [_, _, _, _, _, _, _] f_63_90 rfl rfl rfl ?_
      refine sg_goto 14 f_63_93 rfl ?_
      rw [e2, e1]
      exact g3 r σ' kk
    refine sg_iload f_63_14 rfl ?_
    refine sg_aload_n f_63_16 rfl ?_
    refine sg_getf_k f_63_17 fd_x_56_320 hs' ?_
    first | refine sg_ncmp_ge 96 (by omega) (by omega) f_63_20 rfl (fun c20 => ?_) (fun c20 => ?_) | refine sg_icmp_ge 96 f_63_20 rfl (fun c20 => ?_) (fun c20 => ?_)
    · omega
    · refine sg_aload_n f_63_23 rfl ?_
      refine sg_getf_r f_63_24 fd_x_35_640 ?_
      refine sg_iload f_63_27 rfl ?_
      refine sg_aaload j f_63_29 rfl (sx_el_w j hj4).1 (by omega) ?_
      refine sg_iload_n f_63_30 rfl ?_
      refine sg_iload_n f_63_31 rfl ?_
      refine sg_if_ne 39 f_63_32 rfl (fun c32 => ?_) (fun c32 => ?_)
      · have ht0 : 0 < t := Nat.pos_of_ne_zero (fun e => c32 (by rw [e]; rfl))
        refine sg_aload_n f_63_39 rfl ?_
        refine sg_getf_r f_63_40 fd_x_35_641 ?_
        refine sg_iload f_63_43 rfl ?_
        refine sg_aaload j f_63_45 rfl (sx_el_w j hj4).2.2.1 (by omega) ?_
        refine sg_getstatic f_63_46 (by decide) ?_
        refine sg_iload_n f_63_49 rfl ?_
        refine sg_taload t f_63_50 (by decide) rfl (by omega) (sx_ST0 t ht ht0).1 ?_
        refine sg_laload (t_fi t) ok_x f_63_51 (sx_el_w j hj4).2.2.2 rfl (by have := tb_re t ht ht0; omega) ?_
        refine sg_aload_n f_63_52 rfl ?_
        refine sg_getf_r f_63_53 fd_x_35_640 ?_
        refine sg_iload f_63_56 rfl ?_
        refine sg_aaload j f_63_58 rfl (sx_el_w j hj4).1 (by omega) ?_
        refine sg_getstatic f_63_59 (by decide) ?_
        refine sg_iload_n f_63_62 rfl ?_
        refine sg_taload t f_63_63 (by decide) rfl (by omega) (sx_ST0 t ht ht0).2 ?_
        refine sg_laload (t_re t) ok_x f_63_64 (sx_el_w j hj4).2.1 rfl (by have := tb_re t ht ht0; omega) ?_
        refine sg_lmul _ f_63_65 rfl ?_
        exact k66' _ (sx_63_v hI hjs ht hv (by first | exact Or.inl ⟨ht0, rfl⟩ | exact Or.inr ⟨ht0, rfl⟩))
      · have ht0 : t = 0 := (nI_eq (show t < 2 ^ 31 by omega) (show 0 < 2 ^ 31 by omega)).mp c32
        refine sg_lconst 1 f_63_35 rfl ?_
        refine sg_goto 66 f_63_36 rfl ?_
        exact k66' _ (sx_63_v hI hjs ht hv (by first | exact Or.inl ⟨ht0, rfl⟩ | exact Or.inr ⟨ht0, rfl⟩))
theorem sx_63_t {σ0 : sg_S} {s : Nat} (hs : σ0.1 56 0 = nI s) (hs4 : s ≤ 4) : ∀ (n t : Nat), t + n = 17 → ∀ (σ : sg_S) (l4 l5 l6 : Value), sx_wI σ0 σ s t → ∃ σ' : sg_S, sx_wI σ0 σ' s 17 ∧ sg_D tx_H 63 2 [.ref 35, .ref 56, .ref 161, .int (nI t), l4, l5, l6] [] σ none σ'
  | 0, t, hn, σ, l4, l5, l6, hI => by
    obtain rfl : t = 17 := by omega
    refine ⟨σ, hI, ?_⟩
    refine sg_iload_n f_63_2 rfl ?_
    refine sg_bipush (nI 17) f_63_3 kb_17 ?_
    first | refine sg_ncmp_ge 113 (by omega) (by omega) f_63_5 rfl (fun c5 => ?_) (fun c5 => ?_) | refine sg_icmp_ge 113 f_63_5 rfl (fun c5 => ?_) (fun c5 => ?_)
    · exact (sg_vret f_63_113 rk_63)
    · omega
  | n + 1, t, hn, σ, l4, l5, l6, hI => by
    have ht : t < 17 := by omega
    obtain ⟨σ1, hI1, hw1, k1⟩ := sx_63_j hs hs4 ht s 0 (by omega) σ 0 hI (fun i hi => absurd hi (Nat.not_lt_zero _))
    generalize hv : t_sm (sx_B σ0) (fun i => t_W (sx_A σ0) s i t) s 0 0 = v at k1
    have hs1 : (sg_r2 σ1 161 (vp_updL (σ1.2 161) t v)).1 56 0 = nI s := by rw [sg_r2_1, hI1.1]; exact hs
    obtain ⟨σ2, k2, e1, e2, e3⟩ := sx_64 hs1 hs4 ht
    have hA : ∀ i, sx_A (sg_r2 σ1 161 (vp_updL (σ1.2 161) t v)) i = sx_A σ0 i := by
      intro i; funext k; unfold sx_A; rw [sg_r2_1, hI1.1]
    have hI2 : sx_wI σ0 σ2 s (t + 1) := by
      refine ⟨by rw [e1, sg_r2_1]; exact hI1.1, fun k hk => ?_, fun i u hi hu => ⟨?_, ?_⟩, fun u hu => ?_⟩
      · rw [e2 k (by omega), sg_r2_ne (by omega)]; exact hI1.2.1 k hk
      · rw [e2 _ (by omega), sg_r2_ne (by omega)]
        by_cases e : u = t
        · subst e; exact hw1 i hi
        · exact (hI1.2.2.1 i u hi (by omega)).1
      · rw [e3 i hi]
        by_cases e : u = t
        · subst e
          rw [sx_vl_eq, hA]
          unfold t_S
          refine t_sm_congr _ _ _ (fun k _ hk => ⟨rfl, ?_⟩)
          show (sg_r2 σ1 161 _).2 (37 + k) u = _
          rw [sg_r2_ne (by omega)]
          exact hw1 k (by omega)
        · rw [sx_vl_ne e, sg_r2_ne (by omega)]
          exact (hI1.2.2.1 i u hi (by omega)).2
      · rw [e2 _ (by omega), sg_r2_eq]
        by_cases e : u = t
        · subst e; rw [sx_vl_eq, hv]
        · rw [sx_vl_ne e]; exact hI1.2.2.2 u (by omega)
    obtain ⟨σ', hI', k3⟩ := sx_63_t hs hs4 n (t + 1) (by omega) σ2 (.long v) ab_u (.int (nI s)) hI2
    refine ⟨σ', hI', ?_⟩
    have k96 : sg_D tx_H 63 96 [.ref 35, .ref 56, .ref 161, .int (nI t), .long v, ab_u, .int (nI s)] [] σ1 none σ' := by
      refine sg_aload_n f_63_96 rfl ?_
      refine sg_iload_n f_63_97 rfl ?_
      refine sg_lload f_63_98 rfl ?_
      refine sg_lastore _ ok_x f_63_100 sh_x_161 rfl (by omega) ?_
      refine sg_aload_n f_63_101 rfl ?_
      refine sg_aload_n f_63_102 rfl ?_
      refine sg_iload_n f_63_103 rfl ?_
      refine sg_callv_v f_63_104 my_63_64 mr_64 rfl (Nat.le_of_ble_eq_true rfl) (Nat.le_of_ble_eq_true rfl) sh_x_35 (by decide) rfl k2 ?_
      first | refine sg_iinc _ [_, _, _, _, _, _, _] f_63_107 rfl (sg_inc1 _) rfl ?_ | refine sg_iinc _ [_, _, _, _, _, _, _] f_63_107 rfl rfl rfl ?_
      refine sg_goto 2 f_63_110 rfl ?_
      exact k3
    refine sg_iload_n f_63_2 rfl ?_
    refine sg_bipush (nI 17) f_63_3 kb_17 ?_
    first | refine sg_ncmp_ge 113 (by omega) (by omega) f_63_5 rfl (fun c5 => ?_) (fun c5 => ?_) | refine sg_icmp_ge 113 f_63_5 rfl (fun c5 => ?_) (fun c5 => ?_)
    · omega
    · refine sg_lconst 0 f_63_8 rfl ?_
      refine sg_lstore [_, _, _, _, _, _, _] f_63_9 rfl ?_
      refine sg_iconst (nI 0) f_63_11 ki_0 ?_
      refine sg_istore [_, _, _, _, _, _, _] f_63_12 rfl ?_
      exact k1 _ _ k96
theorem sx_63 {σ : sg_S} {s : Nat} (hs : σ.1 56 0 = nI s) (hs4 : s ≤ 4) : ∃ σ' : sg_S, sx_wI σ σ' s 17 ∧ sg_D tx_H 63 0 [.ref 35, .ref 56, .ref 161, ab_u, ab_u, ab_u, ab_u] [] σ none σ' := by
  obtain ⟨σ', h1, h2⟩ := sx_63_t hs hs4 17 0 (by omega) σ ab_u ab_u ab_u ⟨rfl, fun _ _ => rfl, fun _ _ _ h => absurd h (Nat.not_lt_zero _), fun _ h => absurd h (Nat.not_lt_zero _)⟩
  refine ⟨σ', h1, ?_⟩
  refine sg_iconst (nI 0) f_63_0 ki_0 ?_
  refine sg_istore_n [_, _, _, _, _, _, _] f_63_1 rfl ?_
  exact h2
