/-! weights: the numbers -/
def t_sm (f g : Nat → Int64) : Nat → Nat → Int64 → Int64
  | 0, _, acc => acc
  | n + 1, k, acc => t_sm f g n (k + 1) (acc + f k * g k)
theorem t_sm_congr {f f' g g' : Nat → Int64} : ∀ (n k : Nat) (acc : Int64), (∀ i, k ≤ i → i < k + n → f i = f' i ∧ g i = g' i) → t_sm f g n k acc = t_sm f' g' n k acc
  | 0, _, _, _ => rfl
  | n + 1, k, acc, h => by
    rw [t_sm, t_sm, (h k (Nat.le_refl _) (by omega)).1, (h k (Nat.le_refl _) (by omega)).2]
    exact t_sm_congr n (k + 1) _ (fun i h1 h2 => h i (by omega) (by omega))
/-- the weight of a stage, of a tree -/
def t_w (A : Nat → Nat → Int64) (s : Nat) : Nat → Nat → Nat → Int64
  | 0, _, _ => 1
  | n + 1, j, t => if t = 0 then 1 else t_sm (A j) (fun k => t_w A s n k (t_fi t)) s 0 0 * t_w A s n j (t_re t)
theorem t_w_fuel {A : Nat → Nat → Int64} {s : Nat} : ∀ (n m j t : Nat), t < 17 → t ≤ n → t ≤ m → t_w A s n j t = t_w A s m j t
  | 0, m, j, t, _, h1, _ => by
    obtain rfl : t = 0 := by omega
    cases m with
    | zero => rfl
    | succ m => rw [t_w, t_w, if_pos rfl]
  | n + 1, 0, j, t, _, _, h2 => by
    obtain rfl : t = 0 := by omega
    rw [t_w, t_w, if_pos rfl]
  | n + 1, m + 1, j, t, ht, h1, h2 => by
    rw [t_w, t_w]
    by_cases h0 : t = 0
    · rw [if_pos h0, if_pos h0]
    · rw [if_neg h0, if_neg h0]
      have hr := tb_re t ht (by omega)
      rw [t_w_fuel n m j (t_re t) (by omega) (by omega) (by omega)]
      congr 1
      exact t_sm_congr _ _ _ (fun i _ _ => ⟨rfl, t_w_fuel n m i (t_fi t) (by omega) (by omega) (by omega)⟩)
def t_W (A : Nat → Nat → Int64) (s j t : Nat) : Int64 := t_w A s 17 j t
/-- what a tree gives to a stage as a child -/
def t_S (A : Nat → Nat → Int64) (s j t : Nat) : Int64 := t_sm (A j) (fun k => t_W A s k t) s 0 0
theorem t_W_0 {A : Nat → Nat → Int64} {s j : Nat} : t_W A s j 0 = 1 := by
  unfold t_W
  rw [t_w, if_pos rfl]
theorem t_W_s' {A : Nat → Nat → Int64} {s n j t : Nat} (ht : t < 17) (h0 : 0 < t) (hn : t ≤ n) : t_w A s (n + 1) j t = t_sm (A j) (fun k => t_w A s (n + 1) k (t_fi t)) s 0 0 * t_w A s (n + 1) j (t_re t) := by
  have hr := tb_re t ht h0
  rw [← t_w_fuel n (n + 1) j (t_re t) (by omega) (by omega) (by omega)]
  rw [t_sm_congr (f := A j) (f' := A j) (g := fun k => t_w A s (n + 1) k (t_fi t)) (g' := fun k => t_w A s n k (t_fi t)) s 0 0 (fun i _ _ => ⟨rfl, (t_w_fuel n (n + 1) i (t_fi t) (by omega) (by omega) (by omega)).symm⟩)]
  exact (t_w.eq_2 A s j t n).trans (if_neg (by omega))
theorem t_W_s {A : Nat → Nat → Int64} {s j t : Nat} (ht : t < 17) (h0 : 0 < t) : t_W A s j t = t_S A s j (t_fi t) * t_W A s j (t_re t) := t_W_s' ht h0 (by omega : t ≤ 16)
/-! the class: giveAsChild, weigh -/
theorem sx_el_w : ∀ j, j < 4 → sg_el tx_H 36 j = some (.ref (37 + j)) ∧ sg_sh tx_H (37 + j) = some (21, 17) ∧ sg_el tx_H 41 j = some (.ref (42 + j)) ∧ sg_sh tx_H (42 + j) = some (21, 17) := by decide +kernel
def sx_A (σ : sg_S) (j k : Nat) : Int64 := (σ.1 57 (j * 4 + k)).toInt64
def sx_B (σ : sg_S) (j : Nat) : Int64 := (σ.1 58 j).toInt64
theorem sx_64_k {σ σ' : sg_S} {r : Option Value} {s j t : Nat} (hs : σ.1 56 0 = nI s) (hs4 : s ≤ 4) (hj : j < s) (ht : t < 17) : ∀ n k : Nat, k + n = s → ∀ acc : Int64, sg_D tx_H 64 54 [.ref 35, .ref 56, .int (nI t), .int (nI j), .long (t_sm (sx_A σ j) (fun k => σ.2 (37 + k) t) n k acc), ab_u, .int (nI s)] [] σ r σ' → sg_D tx_H 64 16 [.ref 35, .ref 56, .int (nI t), .int (nI j), .long acc, ab_u, .int (nI k)] [] σ r σ'
  | 0, k, hk, acc, kk => by
    obtain rfl : k = s := by omega
    refine sg_iload f_64_16 rfl ?_
    refine sg_aload_n f_64_18 rfl ?_
    refine sg_getf_k f_64_19 fd_x_56_320 hs ?_
    first | refine sg_ncmp_ge 54 (by omega) (by omega) f_64_22 rfl (fun c22 => ?_) (fun c22 => ?_) | refine sg_icmp_ge 54 f_64_22 rfl (fun c22 => ?_) (fun c22 => ?_)
    · exact kk
    · omega
  | n + 1, k, hk, acc, kk => by
    have hk4 : k < 4 := by omega
    refine sg_iload f_64_16 rfl ?_
    refine sg_aload_n f_64_18 rfl ?_
    refine sg_getf_k f_64_19 fd_x_56_320 hs ?_
    first | refine sg_ncmp_ge 54 (by omega) (by omega) f_64_22 rfl (fun c22 => ?_) (fun c22 => ?_) | refine sg_icmp_ge 54 f_64_22 rfl (fun c22 => ?_) (fun c22 => ?_)
    · omega
    · refine sg_lload f_64_25 rfl ?_
      refine sg_aload_n f_64_27 rfl ?_
      refine sg_iload_n f_64_28 rfl ?_
      refine sg_iload f_64_29 rfl ?_
      refine sg_callv_i f_64_31 my_64_34 mr_34 rfl (Nat.le_of_ble_eq_true rfl) (Nat.le_of_ble_eq_true rfl) sh_x_56 (by decide) rfl (sx_34_a sx_SM_56 hs hs4 hj (show k < s by omega)) ?_
      refine sg_i2l _ f_64_34 rfl ?_
      refine sg_aload_n f_64_35 rfl ?_
      refine sg_getf_r f_64_36 fd_x_35_640 ?_
      refine sg_iload f_64_39 rfl ?_
      refine sg_aaload k f_64_41 rfl (sx_el_w k hk4).1 (by omega) ?_
      refine sg_iload_n f_64_42 rfl ?_
      refine sg_laload _ ok_x f_64_43 (sx_el_w k hk4).2.1 rfl (by omega) ?_
      refine sg_lmul _ f_64_44 rfl ?_
      refine sg_ladd _ f_64_45 rfl ?_
      refine sg_lstore [_, _, _, _, _, _, _] f_64_46 rfl ?_
      first | refine sg_iinc _ [_, _, _, _, _, _, _] f_64_48 rfl (sg_inc1 _) rfl ?_ | refine sg_iinc _ [_, _, _, _, _, _, _] f_64_48 rfl rfl rfl ?_
      refine sg_goto 16 f_64_51 rfl ?_
      exact sx_64_k hs hs4 hj ht n (k + 1) (by omega) _ kk
theorem sx_64_l {s t : Nat} (hs4 : s ≤ 4) (ht : t < 17) : ∀ (n j : Nat), j + n = s → ∀ (σ : sg_S) (l4 l5 l6 : Value), σ.1 56 0 = nI s → ∃ σ' : sg_S, sg_D tx_H 64 2 [.ref 35, .ref 56, .int (nI t), .int (nI j), l4, l5, l6] [] σ none σ' ∧ σ'.1 = σ.1 ∧ (∀ k, k < 42 + j ∨ 42 + s ≤ k → σ'.2 k = σ.2 k) ∧ ∀ i, j ≤ i → i < s → σ'.2 (42 + i) = vp_updL (σ.2 (42 + i)) t (t_sm (sx_A σ i) (fun k => σ.2 (37 + k) t) s 0 0)
  | 0, j, hj, σ, l4, l5, l6, hs => by
    obtain rfl : j = s := by omega
    refine ⟨σ, ?_, rfl, fun _ _ => rfl, fun i h1 h2 => by omega⟩
    refine sg_iload_n f_64_2 rfl ?_
    refine sg_aload_n f_64_3 rfl ?_
    refine sg_getf_k f_64_4 fd_x_56_320 hs ?_
    first | refine sg_ncmp_ge 70 (by omega) (by omega) f_64_7 rfl (fun c7 => ?_) (fun c7 => ?_) | refine sg_icmp_ge 70 f_64_7 rfl (fun c7 => ?_) (fun c7 => ?_)
    · exact (sg_vret f_64_70 rk_64)
    · omega
  | n + 1, j, hj, σ, l4, l5, l6, hs => by
    have hj4 : j < 4 := by omega
    generalize hv : t_sm (sx_A σ j) (fun k => σ.2 (37 + k) t) s 0 0 = v
    obtain ⟨σ', h1, h2, h3, h4⟩ := sx_64_l hs4 ht n (j + 1) (by omega) (sg_r2 σ (42 + j) (vp_updL (σ.2 (42 + j)) t v)) (.long v) ab_u (.int (nI s)) hs
    have k54 : sg_D tx_H 64 54 [.ref 35, .ref 56, .int (nI t), .int (nI j), .long v, ab_u, .int (nI s)] [] σ none σ' := by
      refine sg_aload_n f_64_54 rfl ?_
      refine sg_getf_r f_64_55 fd_x_35_641 ?_
      refine sg_iload_n f_64_58 rfl ?_
      refine sg_aaload j f_64_59 rfl (sx_el_w j hj4).2.2.1 (by omega) ?_
      refine sg_iload_n f_64_60 rfl ?_
      refine sg_lload f_64_61 rfl ?_
      refine sg_lastore _ ok_x f_64_63 (sx_el_w j hj4).2.2.2 rfl (by omega) ?_
      first | refine sg_iinc _ [_, _, _, _, _, _, _] f_64_64 rfl (sg_inc1 _) rfl ?_ | refine sg_iinc _ [_, _, _, _, _, _, _] f_64_64 rfl rfl rfl ?_
      refine sg_goto 2 f_64_67 rfl ?_
      exact h1
    refine ⟨σ', ?_, h2, fun k hk => ?_, fun i hi1 hi2 => ?_⟩
    · skip
      refine sg_iload_n f_64_2 rfl ?_
      refine sg_aload_n f_64_3 rfl ?_
      refine sg_getf_k f_64_4 fd_x_56_320 hs ?_
      first | refine sg_ncmp_ge 70 (by omega) (by omega) f_64_7 rfl (fun c7 => ?_) (fun c7 => ?_) | refine sg_icmp_ge 70 f_64_7 rfl (fun c7 => ?_) (fun c7 => ?_)
      · omega
      · refine sg_lconst 0 f_64_10 rfl ?_
        refine sg_lstore [_, _, _, _, _, _, _] f_64_11 rfl ?_
        refine sg_iconst (nI 0) f_64_13 ki_0 ?_
        refine sg_istore [_, _, _, _, _, _, _] f_64_14 rfl ?_
        refine sx_64_k hs hs4 (show j < s by omega) ht s 0 (by omega) 0 ?_
        rw [hv]
        exact k54
    · rw [h3 k (by omega), sg_r2_ne (by omega)]
    · rcases Nat.eq_or_lt_of_le hi1 with e | hi1
      · subst e
        rw [h3 _ (by omega), sg_r2_eq, hv]
      · rw [h4 i hi1 hi2, sg_r2_ne (by omega)]
        congr 1
        refine t_sm_congr _ _ _ (fun k _ hk => ⟨rfl, ?_⟩)
        show (sg_r2 σ (42 + j) _).2 (37 + k) t = _
        rw [sg_r2_ne (by omega)]
