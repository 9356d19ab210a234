/-! the class: Trees, Cuts -/
theorem sx_61_l {σ : sg_S} {b : Int64} {n : Nat} (hn : n ≤ 1000) : ∀ m i : Nat, i + m = n → ∀ acc : Int64, sg_D tx_H 61 5 [.long b, ab_u, .int (nI n), .long acc, ab_u, .int (nI i)] [] σ (some (.long (acc * b ^ m))) σ
  | 0, i, hi, acc => by
    refine sg_iload f_61_5 rfl ?_
    refine sg_iload_n f_61_7 rfl ?_
    first | refine sg_ncmp_ge 21 (by omega) (by omega) f_61_8 rfl (fun c8 => ?_) (fun c8 => ?_) | refine sg_icmp_ge 21 f_61_8 rfl (fun c8 => ?_) (fun c8 => ?_)
    · refine sg_lload_n f_61_21 rfl ?_
      refine sg_to (sg_lret f_61_22 rk_61) ?_ rfl
      simp
    · omega
  | m + 1, i, hi, acc => by
    refine sg_iload f_61_5 rfl ?_
    refine sg_iload_n f_61_7 rfl ?_
    first | refine sg_ncmp_ge 21 (by omega) (by omega) f_61_8 rfl (fun c8 => ?_) (fun c8 => ?_) | refine sg_icmp_ge 21 f_61_8 rfl (fun c8 => ?_) (fun c8 => ?_)
    · omega
    · refine sg_lload_n f_61_11 rfl ?_
      refine sg_lload_n f_61_12 rfl ?_
      refine sg_lmul _ f_61_13 rfl ?_
      refine sg_lstore_n [_, _, _, _, _, _] f_61_14 rfl ?_
      first | refine sg_iinc _ [_, _, _, _, _, _] f_61_15 rfl (sg_inc1 _) rfl ?_ | refine sg_iinc _ [_, _, _, _, _, _] f_61_15 rfl rfl rfl ?_
      refine sg_goto 5 f_61_18 rfl ?_
      refine sg_to (sx_61_l hn m (i + 1) (by omega) (acc * b)) ?_ rfl
      rw [Int64.pow_succ, Int64.mul_assoc, Int64.mul_comm b]
theorem sx_61 {σ : sg_S} {b : Int64} {n : Nat} (hn : n ≤ 1000) : sg_D tx_H 61 0 [.long b, ab_u, .int (nI n), ab_u, ab_u, ab_u] [] σ (some (.long (b ^ n))) σ := by
  refine sg_lconst 1 f_61_0 rfl ?_
  refine sg_lstore_n [_, _, _, _, _, _] f_61_1 rfl ?_
  refine sg_iconst (nI 0) f_61_2 ki_0 ?_
  refine sg_istore [_, _, _, _, _, _] f_61_3 rfl ?_
  refine sg_to (sx_61_l hn n 0 (by omega) 1) ?_ rfl
  rw [Int64.one_mul]
/-- the first place of unlike numbers -/
def sx_fu (P Q : Nat → Int64) : Nat → Nat → Int32
  | 0, _ => -9
  | n + 1, t => if P t = Q t then sx_fu P Q n (t + 1) else nI t
theorem sx_58_l {σ : sg_S} {a b : Nat} (ha : sg_sh tx_H a = some (21, 17)) (hb : sg_sh tx_H b = some (21, 17)) : ∀ n t : Nat, t + n = 17 → sg_D tx_H 58 2 [.ref 1, .ref a, .ref b, .int (nI t)] [] σ (some (.int (sx_fu (σ.2 a) (σ.2 b) n t))) σ
  | 0, t, ht => by
    refine sg_iload_n f_58_2 rfl ?_
    refine sg_bipush (nI 17) f_58_3 kb_17 ?_
    first | refine sg_ncmp_ge 26 (by omega) (by omega) f_58_5 rfl (fun c5 => ?_) (fun c5 => ?_) | refine sg_icmp_ge 26 f_58_5 rfl (fun c5 => ?_) (fun c5 => ?_)
    · refine sg_bipush (-9) f_58_26 kb_m9 ?_
      exact (sg_iret f_58_28 rk_58)
    · omega
  | n + 1, t, ht => by
    refine sg_iload_n f_58_2 rfl ?_
    refine sg_bipush (nI 17) f_58_3 kb_17 ?_
    first | refine sg_ncmp_ge 26 (by omega) (by omega) f_58_5 rfl (fun c5 => ?_) (fun c5 => ?_) | refine sg_icmp_ge 26 f_58_5 rfl (fun c5 => ?_) (fun c5 => ?_)
    · omega
    · refine sg_aload_n f_58_8 rfl ?_
      refine sg_iload_n f_58_9 rfl ?_
      refine sg_laload _ ok_x f_58_10 (by assumption) rfl (by omega) ?_
      refine sg_aload_n f_58_11 rfl ?_
      refine sg_iload_n f_58_12 rfl ?_
      refine sg_laload _ ok_x f_58_13 (by assumption) rfl (by omega) ?_
      refine sg_lcmp f_58_14 ?_
      refine sg_if_eq 20 f_58_15 rfl (fun c15 => ?_) (fun c15 => ?_)
      · rw [sx_fu, if_pos (sg_cmp_eq.mp c15)]
        first | refine sg_iinc _ [_, _, _, _] f_58_20 rfl (sg_inc1 _) rfl ?_ | refine sg_iinc _ [_, _, _, _] f_58_20 rfl rfl rfl ?_
        refine sg_goto 2 f_58_23 rfl ?_
        exact sx_58_l ha hb n (t + 1) (by omega)
      · rw [sx_fu, if_neg (fun e => c15 (sg_cmp_eq.mpr e))]
        refine sg_iload_n f_58_18 rfl ?_
        exact (sg_iret f_58_19 rk_58)
theorem sx_58 {σ : sg_S} {a b : Nat} (ha : sg_sh tx_H a = some (21, 17)) (hb : sg_sh tx_H b = some (21, 17)) : sg_D tx_H 58 0 [.ref 1, .ref a, .ref b, ab_u] [] σ (some (.int (sx_fu (σ.2 a) (σ.2 b) 17 0))) σ := by
  refine sg_iconst (nI 0) f_58_0 ki_0 ?_
  refine sg_istore_n [_, _, _, _] f_58_1 rfl ?_
  exact sx_58_l ha hb 17 0 rfl
theorem sx_fu_cases (P Q : Nat → Int64) : ∀ n t : Nat, (sx_fu P Q n t = -9 ∧ ∀ j, t ≤ j → j < t + n → P j = Q j) ∨ ∃ j, t ≤ j ∧ j < t + n ∧ sx_fu P Q n t = nI j ∧ P j ≠ Q j ∧ ∀ i, t ≤ i → i < j → P i = Q i
  | 0, t => Or.inl ⟨rfl, fun j h1 h2 => by omega⟩
  | n + 1, t => by
    by_cases h : P t = Q t
    · rw [show sx_fu P Q (n + 1) t = sx_fu P Q n (t + 1) by rw [sx_fu, if_pos h]]
      rcases sx_fu_cases P Q n (t + 1) with ⟨h1, h2⟩ | ⟨j, h1, h2, h3, h4, h5⟩
      · refine Or.inl ⟨h1, fun j h3 h4 => ?_⟩
        rcases Nat.eq_or_lt_of_le h3 with rfl | h3
        · exact h
        · exact h2 j h3 (by omega)
      · refine Or.inr ⟨j, by omega, by omega, h3, h4, fun i h6 h7 => ?_⟩
        rcases Nat.eq_or_lt_of_le h6 with rfl | h6
        · exact h
        · exact h5 i h6 h7
    · exact Or.inr ⟨t, Nat.le_refl _, by omega, by rw [sx_fu, if_neg h], h, fun i h1 h2 => by omega⟩
/-- how far they are alike -/
def sx_lk (P Q : Nat → Int64) : Nat → Nat → Nat
  | 0, _ => 5
  | n + 1, t => if P t = Q t then sx_lk P Q n (t + 1) else t_nd t - 1
theorem sx_lk_fu (P Q : Nat → Int64) : ∀ n t : Nat, (t + n ≤ 1000 → sx_fu P Q n t = -9 → sx_lk P Q n t = 5) ∧ ∀ j, t + n ≤ 1000 → j < 1000 → sx_fu P Q n t = nI j → sx_lk P Q n t = t_nd j - 1
  | 0, t => ⟨fun _ _ => rfl, fun j _ hj h => absurd h.symm (fun e => absurd (congrArg Int32.toInt e) (by rw [nI_toInt (by omega)]; show ¬ (j : Int) = -9; omega))⟩
  | n + 1, t => by
    by_cases h : P t = Q t
    · rw [show sx_fu P Q (n + 1) t = sx_fu P Q n (t + 1) by rw [sx_fu, if_pos h], show sx_lk P Q (n + 1) t = sx_lk P Q n (t + 1) by rw [sx_lk, if_pos h]]
      exact ⟨fun h0 => (sx_lk_fu P Q n (t + 1)).1 (by omega), fun j h1 h2 h3 => (sx_lk_fu P Q n (t + 1)).2 j (by omega) h2 h3⟩
    · rw [show sx_fu P Q (n + 1) t = nI t by rw [sx_fu, if_neg h], show sx_lk P Q (n + 1) t = t_nd t - 1 by rw [sx_lk, if_neg h]]
      refine ⟨fun h0 e => ?_, fun j h1 h2 h3 => ?_⟩
      · exact absurd (congrArg Int32.toInt e) (by rw [nI_toInt (by omega)]; show ¬ (t : Int) = -9; omega)
      · rw [(nI_eq (by omega) (by omega)).mp h3]
theorem sx_59 {σ : sg_S} {a b : Nat} (hT : tx_Tab σ) (ha : sg_sh tx_H a = some (21, 17)) (hb : sg_sh tx_H b = some (21, 17)) : sg_D tx_H 59 0 [.ref 1, .ref a, .ref b, ab_u] [] σ (some (.int (nI (sx_lk (σ.2 a) (σ.2 b) 17 0)))) σ := by
  have hl := sx_lk_fu (σ.2 a) (σ.2 b) 17 0
  rcases sx_fu_cases (σ.2 a) (σ.2 b) 17 0 with ⟨h1, -⟩ | ⟨j, -, h2, h1, -⟩
  · rw [hl.1 (by omega) h1]
    have h58 := sx_58 (σ := σ) ha hb
    rw [h1] at h58
    refine sg_aload_n f_59_0 rfl ?_
    refine sg_aload_n f_59_1 rfl ?_
    refine sg_aload_n f_59_2 rfl ?_
    refine sg_callv_i f_59_3 my_59_58 mr_58 rfl (Nat.le_of_ble_eq_true rfl) (Nat.le_of_ble_eq_true rfl) sh_x_1 (by decide) rfl h58 ?_
    refine sg_istore_n [_, _, _, _] f_59_6 rfl ?_
    refine sg_iload_n f_59_7 rfl ?_
    refine sg_bipush (-9) f_59_8 kb_m9 ?_
    refine sg_icmp_ne 17 f_59_10 rfl (fun c10 => ?_) (fun c10 => ?_)
    · exact absurd rfl c10
    · refine sg_iconst (nI 5) f_59_13 ki_5 ?_
      refine sg_goto 25 f_59_14 rfl ?_
      exact (sg_iret f_59_25 rk_59)
  · rw [hl.2 j (by omega) (by omega) h1]
    have h58 := sx_58 (σ := σ) ha hb
    rw [h1] at h58
    have hj := tb_nd1 j (by omega)
    refine sg_aload_n f_59_0 rfl ?_
    refine sg_aload_n f_59_1 rfl ?_
    refine sg_aload_n f_59_2 rfl ?_
    refine sg_callv_i f_59_3 my_59_58 mr_58 rfl (Nat.le_of_ble_eq_true rfl) (Nat.le_of_ble_eq_true rfl) sh_x_1 (by decide) rfl h58 ?_
    refine sg_istore_n [_, _, _, _] f_59_6 rfl ?_
    refine sg_iload_n f_59_7 rfl ?_
    refine sg_bipush (-9) f_59_8 kb_m9 ?_
    refine sg_icmp_ne 17 f_59_10 rfl (fun c10 => ?_) (fun c10 => ?_)
    · refine sg_aload_n f_59_17 rfl ?_
      refine sg_getf_r f_59_18 fd_x_1_576 ?_
      refine sg_iload_n f_59_21 rfl ?_
      refine sg_iaload_k j ok_x f_59_22 sh_x_2 rfl (by omega) (hT.1 j (by omega)).1 ?_
      refine sg_iconst (nI 1) f_59_23 ki_1 ?_
      refine sg_isub (nI (t_nd j - 1)) f_59_24 (pk_sub hj.1) ?_
      exact (sg_iret f_59_25 rk_59)
    · exact absurd (congrArg Int32.toInt c10) (by rw [nI_toInt (by omega)]; show ¬ (j : Int) = -9; omega)
/-- stretched by h, t trees of it -/
def sx_str (P : Nat → Int64) (h : Int64) (M : Nat → Int64) (t : Nat) : Nat → Int64 := fun k => if k < t then P k * h ^ t_nd k else M k
theorem sx_57_l {σ : sg_S} {a b : Nat} {h : Int32} (hT : tx_Tab σ) (ha : sg_sh tx_H a = some (21, 17)) (hb : sg_sh tx_H b = some (21, 17)) : ∀ n t : Nat, t + n = 17 → sg_D tx_H 57 3 [.ref 1, .ref a, .int h, .ref b, .int (nI t)] [] (sg_r2 σ b (sx_str (σ.2 a) h.toInt64 (σ.2 b) t)) none (sg_r2 σ b (sx_str (σ.2 a) h.toInt64 (σ.2 b) 17))
  | 0, t, ht => by
    obtain rfl : t = 17 := by omega
    refine sg_iload f_57_3 rfl ?_
    refine sg_bipush (nI 17) f_57_5 kb_17 ?_
    first | refine sg_ncmp_ge 37 (by omega) (by omega) f_57_7 rfl (fun c7 => ?_) (fun c7 => ?_) | refine sg_icmp_ge 37 f_57_7 rfl (fun c7 => ?_) (fun c7 => ?_)
    · exact (sg_vret f_57_37 rk_57)
    · omega
  | n + 1, t, ht => by
    have ht17 : t < 17 := by omega
    have hn := tb_nd1 t ht17
    have ea : (sg_r2 σ b (sx_str (σ.2 a) h.toInt64 (σ.2 b) t)).2 a t = σ.2 a t := by
      by_cases e : a = b
      · subst e
        rw [sg_r2_eq]
        simp [sx_str]
      · rw [sg_r2_ne e]
    refine sg_iload f_57_3 rfl ?_
    refine sg_bipush (nI 17) f_57_5 kb_17 ?_
    first | refine sg_ncmp_ge 37 (by omega) (by omega) f_57_7 rfl (fun c7 => ?_) (fun c7 => ?_) | refine sg_icmp_ge 37 f_57_7 rfl (fun c7 => ?_) (fun c7 => ?_)
    · omega
    · refine sg_aload_n f_57_10 rfl ?_
      refine sg_iload f_57_11 rfl ?_
      refine sg_aload_n f_57_13 rfl ?_
      refine sg_iload f_57_14 rfl ?_
      refine sg_laload_k t ok_x f_57_16 (by assumption) rfl (by omega) ea ?_
      refine sg_iload_n f_57_17 rfl ?_
      refine sg_i2l _ f_57_18 rfl ?_
      refine sg_aload_n f_57_19 rfl ?_
      refine sg_getf_r f_57_20 fd_x_1_576 ?_
      refine sg_iload f_57_23 rfl ?_
      refine sg_iaload_k t ok_x f_57_25 sh_x_2 rfl (by omega) (show (sg_r2 σ b _).1 2 t = _ from (hT.1 t ht17).1) ?_
      refine sg_calls_l f_57_26 my_57_61 mr_61 (by decide) rfl (Nat.le_of_ble_eq_true rfl) (Nat.le_of_ble_eq_true rfl) rfl (sx_61 (by omega)) ?_
      refine sg_lmul _ f_57_29 rfl ?_
      refine sg_lastore _ ok_x f_57_30 (by assumption) rfl (by omega) ?_
      first | refine sg_iinc _ [_, _, _, _, _] f_57_31 rfl (sg_inc1 _) rfl ?_ | refine sg_iinc _ [_, _, _, _, _] f_57_31 rfl rfl rfl ?_
      refine sg_goto 3 f_57_34 rfl ?_
      refine sg_from ?_ (sx_57_l hT ha hb n (t + 1) (by omega))
      rw [sg_r2_eq]
      unfold sg_r2
      refine congrArg (fun z => (σ.1, z)) (funext fun k => ?_)
      by_cases hk : k = b
      · simp only [hk, if_true]
        funext j
        unfold vp_updL sx_str
        by_cases hj : j = t
        · subst hj
          simp
        · by_cases h1 : j < t
          · simp [hj, h1, show j < t + 1 by omega]
          · simp [hj, h1, show ¬ j < t + 1 by omega]
      · simp [hk]
theorem sx_57 {σ : sg_S} {a b : Nat} {h : Int32} (hT : tx_Tab σ) (ha : sg_sh tx_H a = some (21, 17)) (hb : sg_sh tx_H b = some (21, 17)) : sg_D tx_H 57 0 [.ref 1, .ref a, .int h, .ref b, ab_u] [] σ none (sg_r2 σ b (sx_str (σ.2 a) h.toInt64 (σ.2 b) 17)) := by
  refine sg_iconst (nI 0) f_57_0 ki_0 ?_
  refine sg_istore [_, _, _, _, _] f_57_1 rfl ?_
  refine sg_from ?_ (sx_57_l hT ha hb 17 0 rfl)
  unfold sg_r2
  refine Prod.ext rfl (funext fun k => ?_)
  by_cases hk : k = b
  · simp only [hk, if_true]
    funext j
    simp [sx_str]
  · simp [hk]
/-! cuts: the product over a forest, the sum over the cuts -/
def t_of (P : Nat → Int64) (c : Nat) : Nat → Nat → Int64 → Int64
  | 0, _, acc => acc
  | n + 1, i, acc => t_of P c n (i + 1) (acc * P (t_fo (c * 4 + i)))
def t_tg (P Q : Nat → Int64) (s : Nat) : Nat → Nat → Int64 → Int64
  | 0, _, acc => acc
  | n + 1, k, acc => t_tg P Q s n (k + 1) (acc + t_of P (s + k) (t_pr (s + k)) 0 1 * Q (t_lf (s + k)))
theorem sx_7_l {σ : sg_S} {a c : Nat} (hT : tx_Tab σ) (ha : sg_sh tx_H a = some (21, 17)) (hc : c < 115) : ∀ n i : Nat, i + n = t_pr c → ∀ acc : Int64, sg_D tx_H 7 5 [.ref 29, .ref a, .int (nI c), .long acc, ab_u, .int (nI i)] [] σ (some (.long (t_of (σ.2 a) c n i acc))) σ
  | 0, i, hi, acc => by
    have hp := tb_lf1 c hc
    refine sg_iload f_7_5 rfl ?_
    refine sg_aload_n f_7_7 rfl ?_
    refine sg_getf_r f_7_8 fd_x_29_3 ?_
    refine sg_iload_n f_7_11 rfl ?_
    refine sg_iaload_k c ok_x f_7_12 sh_x_33 rfl (by omega) (hT.2.2.1 c hc).2 ?_
    first | refine sg_ncmp_ge 38 (by omega) (by omega) f_7_13 rfl (fun c13 => ?_) (fun c13 => ?_) | refine sg_icmp_ge 38 f_7_13 rfl (fun c13 => ?_) (fun c13 => ?_)
    · refine sg_lload_n f_7_38 rfl ?_
      exact (sg_lret f_7_39 rk_7)
    · omega
  | n + 1, i, hi, acc => by
    have hp := tb_lf1 c hc
    have hf := tb_fo1 (c * 4 + i) (by omega)
    refine sg_iload f_7_5 rfl ?_
    refine sg_aload_n f_7_7 rfl ?_
    refine sg_getf_r f_7_8 fd_x_29_3 ?_
    refine sg_iload_n f_7_11 rfl ?_
    refine sg_iaload_k c ok_x f_7_12 sh_x_33 rfl (by omega) (hT.2.2.1 c hc).2 ?_
    first | refine sg_ncmp_ge 38 (by omega) (by omega) f_7_13 rfl (fun c13 => ?_) (fun c13 => ?_) | refine sg_icmp_ge 38 f_7_13 rfl (fun c13 => ?_) (fun c13 => ?_)
    · omega
    · refine sg_lload_n f_7_16 rfl ?_
      refine sg_aload_n f_7_17 rfl ?_
      refine sg_aload_n f_7_18 rfl ?_
      refine sg_getf_r f_7_19 fd_x_29_4 ?_
      refine sg_iload_n f_7_22 rfl ?_
      refine sg_iconst (nI 4) f_7_23 ki_4 ?_
      first | refine sg_imul _ f_7_24 (pk_mul _ _) ?_ | refine sg_imul _ f_7_24 rfl ?_
      refine sg_iload f_7_25 rfl ?_
      first | refine sg_iadd _ f_7_27 (nI_add _ _) ?_ | refine sg_iadd _ f_7_27 rfl ?_
      refine sg_iaload_k (c * 4 + i) ok_x f_7_28 sh_x_34 rfl (by omega) (hT.2.2.2 (c * 4 + i) (by omega)) ?_
      refine sg_laload _ ok_x f_7_29 (by assumption) rfl hf ?_
      refine sg_lmul _ f_7_30 rfl ?_
      refine sg_lstore_n [_, _, _, _, _, _] f_7_31 rfl ?_
      first | refine sg_iinc _ [_, _, _, _, _, _] f_7_32 rfl (sg_inc1 _) rfl ?_ | refine sg_iinc _ [_, _, _, _, _, _] f_7_32 rfl rfl rfl ?_
      refine sg_goto 5 f_7_35 rfl ?_
      exact sx_7_l hT ha hc n (i + 1) (by omega) _
theorem sx_7 {σ : sg_S} {a c : Nat} (hT : tx_Tab σ) (ha : sg_sh tx_H a = some (21, 17)) (hc : c < 115) : sg_D tx_H 7 0 [.ref 29, .ref a, .int (nI c), ab_u, ab_u, ab_u] [] σ (some (.long (t_of (σ.2 a) c (t_pr c) 0 1))) σ := by
  refine sg_lconst 1 f_7_0 rfl ?_
  refine sg_lstore_n [_, _, _, _, _, _] f_7_1 rfl ?_
  refine sg_iconst (nI 0) f_7_2 ki_0 ?_
  refine sg_istore [_, _, _, _, _, _] f_7_3 rfl ?_
  exact sx_7_l hT ha hc (t_pr c) 0 (by omega) 1
theorem sx_8_l {σ : sg_S} {a b t m : Nat} {u : Value} (hT : tx_Tab σ) (ha : sg_sh tx_H a = some (21, 17)) (hb : sg_sh tx_H b = some (21, 17)) (ht : t < 17) (hm : m ≤ t_mn t) : ∀ n k : Nat, k + n = m → ∀ (acc : Int64) (u : Value), sg_D tx_H 8 8 [.ref 29, .ref a, .ref b, .int (nI t), .int (nI m), .long acc, ab_u, .int (nI k), u] [] σ (some (.long (t_tg (σ.2 a) (σ.2 b) (t_st t) n k acc))) σ
  | 0, k, hk, acc, u => by
    have hs := tb_st1 t ht
    refine sg_iload f_8_8 rfl ?_
    refine sg_iload f_8_10 rfl ?_
    first | refine sg_ncmp_ge 54 (by omega) (by omega) f_8_12 rfl (fun c12 => ?_) (fun c12 => ?_) | refine sg_icmp_ge 54 f_8_12 rfl (fun c12 => ?_) (fun c12 => ?_)
    · refine sg_lload f_8_54 rfl ?_
      exact (sg_lret f_8_56 rk_8)
    · omega
  | n + 1, k, hk, acc, u => by
    have hs := tb_st1 t ht
    have hl := tb_lf1 (t_st t + k) (by omega)
    refine sg_iload f_8_8 rfl ?_
    refine sg_iload f_8_10 rfl ?_
    first | refine sg_ncmp_ge 54 (by omega) (by omega) f_8_12 rfl (fun c12 => ?_) (fun c12 => ?_) | refine sg_icmp_ge 54 f_8_12 rfl (fun c12 => ?_) (fun c12 => ?_)
    · omega
    · refine sg_aload_n f_8_15 rfl ?_
      refine sg_getf_r f_8_16 fd_x_29_0 ?_
      refine sg_iload_n f_8_19 rfl ?_
      refine sg_iaload_k t ok_x f_8_20 sh_x_30 rfl (by omega) (hT.1 t ht).2.2.2.2.2.2.2.1 ?_
      refine sg_iload f_8_21 rfl ?_
      first | refine sg_iadd _ f_8_23 (nI_add _ _) ?_ | refine sg_iadd _ f_8_23 rfl ?_
      refine sg_istore [_, _, _, _, _, _, _, _, _] f_8_24 rfl ?_
      refine sg_lload f_8_26 rfl ?_
      refine sg_aload_n f_8_28 rfl ?_
      refine sg_aload_n f_8_29 rfl ?_
      refine sg_iload f_8_30 rfl ?_
      refine sg_callv_l f_8_32 my_8_7 mr_7 rfl (Nat.le_of_ble_eq_true rfl) (Nat.le_of_ble_eq_true rfl) sh_x_29 (by decide) rfl (sx_7 hT ha (by omega)) ?_
      refine sg_aload_n f_8_35 rfl ?_
      refine sg_aload_n f_8_36 rfl ?_
      refine sg_getf_r f_8_37 fd_x_29_2 ?_
      refine sg_iload f_8_40 rfl ?_
      refine sg_iaload_k (t_st t + k) ok_x f_8_42 sh_x_32 rfl (by omega) (hT.2.2.1 (t_st t + k) (by omega)).1 ?_
      refine sg_laload _ ok_x f_8_43 (by assumption) rfl hl.1 ?_
      refine sg_lmul _ f_8_44 rfl ?_
      refine sg_ladd _ f_8_45 rfl ?_
      refine sg_lstore [_, _, _, _, _, _, _, _, _] f_8_46 rfl ?_
      first | refine sg_iinc _ [_, _, _, _, _, _, _, _, _] f_8_48 rfl (sg_inc1 _) rfl ?_ | refine sg_iinc _ [_, _, _, _, _, _, _, _, _] f_8_48 rfl rfl rfl ?_
      refine sg_goto 8 f_8_51 rfl ?_
      exact sx_8_l (u := u) hT ha hb ht hm n (k + 1) (by omega) _ _
theorem sx_8 {σ : sg_S} {a b t m : Nat} (hT : tx_Tab σ) (ha : sg_sh tx_H a = some (21, 17)) (hb : sg_sh tx_H b = some (21, 17)) (ht : t < 17) (hm : m ≤ t_mn t) : sg_D tx_H 8 0 [.ref 29, .ref a, .ref b, .int (nI t), .int (nI m), ab_u, ab_u, ab_u, ab_u] [] σ (some (.long (t_tg (σ.2 a) (σ.2 b) (t_st t) m 0 (σ.2 a t)))) σ := by
  refine sg_aload_n f_8_0 rfl ?_
  refine sg_iload_n f_8_1 rfl ?_
  refine sg_laload _ ok_x f_8_2 (by assumption) rfl (by omega) ?_
  refine sg_lstore [_, _, _, _, _, _, _, _, _] f_8_3 rfl ?_
  refine sg_iconst (nI 0) f_8_5 ki_0 ?_
  refine sg_istore [_, _, _, _, _, _, _, _, _] f_8_6 rfl ?_
  exact sx_8_l (u := ab_u) hT ha hb ht hm m 0 (by omega) _ _
