/-! the model: powers, the flow, orders -/
theorem sm_128_l {μ : sg_S} {b : Int64} {n : Nat} (hn : n ≤ 1000) : ∀ m i : Nat, i + m = n → ∀ acc : Int64, sg_D tm_H 128 5 [.long b, ab_u, .int (nI n), .long acc, ab_u, .int (nI i)] [] μ (some (.long (acc * b ^ m))) μ
  | 0, i, hi, acc => by
    refine sg_iload f_128_5 rfl ?_
    refine sg_iload_n f_128_7 rfl ?_
    first | refine sg_ncmp_ge 21 (by omega) (by omega) f_128_8 rfl (fun c8 => ?_) (fun c8 => ?_) | refine sg_icmp_ge 21 f_128_8 rfl (fun c8 => ?_) (fun c8 => ?_)
    · refine sg_lload_n f_128_21 rfl ?_
      refine sg_to (sg_lret f_128_22 rk_128) ?_ rfl
      simp
    · omega
  | m + 1, i, hi, acc => by
    refine sg_iload f_128_5 rfl ?_
    refine sg_iload_n f_128_7 rfl ?_
    first | refine sg_ncmp_ge 21 (by omega) (by omega) f_128_8 rfl (fun c8 => ?_) (fun c8 => ?_) | refine sg_icmp_ge 21 f_128_8 rfl (fun c8 => ?_) (fun c8 => ?_)
    · omega
    · refine sg_lload_n f_128_11 rfl ?_
      refine sg_lload_n f_128_12 rfl ?_
      refine sg_lmul _ f_128_13 rfl ?_
      refine sg_lstore_n [_, _, _, _, _, _] f_128_14 rfl ?_
      first | refine sg_iinc _ [_, _, _, _, _, _] f_128_15 rfl (sg_inc1 _) rfl ?_ | refine sg_iinc _ [_, _, _, _, _, _] f_128_15 rfl rfl rfl ?_
      refine sg_goto 5 f_128_18 rfl ?_
      refine sg_to (sm_128_l hn m (i + 1) (by omega) (acc * b)) ?_ rfl
      rw [Int64.pow_succ, Int64.mul_assoc, Int64.mul_comm b]
theorem sm_128 {μ : sg_S} {b : Int64} {n : Nat} (hn : n ≤ 1000) : sg_D tm_H 128 0 [.long b, ab_u, .int (nI n), ab_u, ab_u, ab_u] [] μ (some (.long (b ^ n))) μ := by
  refine sg_lconst 1 f_128_0 rfl ?_
  refine sg_lstore_n [_, _, _, _, _, _] f_128_1 rfl ?_
  refine sg_iconst (nI 0) f_128_2 ki_0 ?_
  refine sg_istore [_, _, _, _, _, _] f_128_3 rfl ?_
  refine sg_to (sm_128_l hn n 0 (by omega) 1) ?_ rfl
  rw [Int64.one_mul]
theorem tb_fl : ∀ t, t < 17 → (60 : Int64) ^ t_nd t / (nI (t_dn t)).toInt64 = lN (t_fl t) ∧ ¬ (nI (t_dn t)).toInt64 = 0 := by decide +kernel
def t_fw (t : Nat) : Int64 := lN (t_fl t)
theorem sm_129 {μ : sg_S} {t : Nat} (hT : tm_Tab μ) (ht : t < 17) : sg_D tm_H 129 0 [.ref 0, .int (nI t)] [] μ (some (.long (t_fw t))) μ := by
  have hn := tb_nd1 t ht
  have hf := tb_fl t ht
  refine sg_ldc2_w (60) f_129_0 rfl ?_
  refine sg_aload_n f_129_3 rfl ?_
  refine sg_getf_r f_129_4 fd_m_0_770 ?_
  refine sg_iload_n f_129_7 rfl ?_
  refine sg_iaload_k t ok_m f_129_8 sh_m_3 rfl (by omega) (hT.1 t ht).2.1 ?_
  refine sg_calls_l f_129_9 my_129_128 mr_128 (by decide) rfl (Nat.le_of_ble_eq_true rfl) (Nat.le_of_ble_eq_true rfl) rfl (sm_128 (by omega)) ?_
  refine sg_aload_n f_129_12 rfl ?_
  refine sg_getf_r f_129_13 fd_m_0_771 ?_
  refine sg_iload_n f_129_16 rfl ?_
  refine sg_iaload_k t ok_m f_129_17 sh_m_4 rfl (by omega) (hT.1 t ht).2.2.1 ?_
  refine sg_i2l _ f_129_18 rfl ?_
  refine sg_ldiv (t_fw t) f_129_19 hf.2 hf.1 ?_
  exact (sg_lret f_129_20 rk_129)
/-- the register's numbers -/
def sm_h (μ : sg_S) (r : Nat) : Nat → Int64 := fun t => μ.2 13 (17 * r + t)
theorem sx_lk_s {P Q : Nat → Int64} {t : Nat} (ht : t < 17) : sx_lk P Q (17 - t) t = if P t = Q t then sx_lk P Q (17 - (t + 1)) (t + 1) else t_nd t - 1 := by
  rw [show 17 - t = (17 - (t + 1)) + 1 by omega, sx_lk]
theorem sg_dec {t : Nat} : nI t + Int32.ofInt (-1) = if t = 0 then -1 else nI (t - 1) := by
  cases t with
  | zero => decide
  | succ t => rw [if_neg (by omega), Nat.add_sub_cancel]; exact sg_dec1 t
theorem sm_136_l {μ : sg_S} {r : Nat} (hT : tm_Tab μ) (hr : r < 6) : ∀ t : Nat, t ≤ 17 → ∀ w : Int32, w = (if t = 0 then -1 else nI (t - 1)) → sg_D tm_H 136 5 [.ref 0, .int (nI r), .int (nI (sx_lk (sm_h μ r) t_fw (17 - t) t)), .int w] [] μ (some (.int (nI (sx_lk (sm_h μ r) t_fw 17 0)))) μ := by
  intro t
  induction t with
  | zero =>
    intro _ w hw
    rw [if_pos rfl] at hw
    subst hw
    refine sg_iload_n f_136_5 rfl ?_
    refine sg_if_lt 48 f_136_6 rfl (fun c6 => ?_) (fun c6 => ?_)
    · refine sg_iload_n f_136_48 rfl ?_
      exact (sg_iret f_136_49 rk_136)
    · exact absurd (by decide) c6
  | succ t ih =>
    intro ht w hw
    rw [if_neg (by omega), Nat.add_sub_cancel] at hw
    subst hw
    have k5 := ih (by omega) _ rfl
    rw [sx_lk_s (by omega)] at k5
    have hn := tb_nd1 t (by omega)
    refine sg_iload_n f_136_5 rfl ?_
    refine sg_if_lt 48 f_136_6 rfl (fun c6 => ?_) (fun c6 => ?_)
    · exact absurd c6 (sg_nneg (by omega))
    · refine sg_aload_n f_136_9 rfl ?_
      refine sg_getf_r f_136_10 fd_m_0_782 ?_
      refine sg_bipush (nI 17) f_136_13 kb_17 ?_
      refine sg_iload_n f_136_15 rfl ?_
      first | refine sg_imul _ f_136_16 (pk_mul _ _) ?_ | refine sg_imul _ f_136_16 rfl ?_
      refine sg_iload_n f_136_17 rfl ?_
      first | refine sg_iadd _ f_136_18 (nI_add _ _) ?_ | refine sg_iadd _ f_136_18 rfl ?_
      refine sg_laload_k (17 * r + t) ok_m f_136_19 sh_m_13 rfl (by omega) (show _ = sm_h μ r t from rfl) ?_
      refine sg_aload_n f_136_20 rfl ?_
      refine sg_iload_n f_136_21 rfl ?_
      refine sg_callv_l f_136_22 my_136_129 mr_129 rfl (Nat.le_of_ble_eq_true rfl) (Nat.le_of_ble_eq_true rfl) sh_m_0 (by decide) rfl (sm_129 hT (by omega)) ?_
      refine sg_lcmp f_136_25 ?_
      refine sg_if_ne 33 f_136_26 rfl (fun c26 => ?_) (fun c26 => ?_)
      · rw [if_neg (fun e => c26 (sg_cmp_eq.mpr e))] at k5
        refine sg_aload_n f_136_33 rfl ?_
        refine sg_getf_r f_136_34 fd_m_0_770 ?_
        refine sg_iload_n f_136_37 rfl ?_
        refine sg_iaload_k t ok_m f_136_38 sh_m_3 rfl (by omega) (hT.1 t (by omega)).2.1 ?_
        refine sg_iconst (nI 1) f_136_39 ki_1 ?_
        refine sg_isub (nI (t_nd t - 1)) f_136_40 (pk_sub hn.1) ?_
        refine sg_istore_n [_, _, _, _] f_136_41 rfl ?_
        refine sg_iinc (if t = 0 then -1 else nI (t - 1)) [_, _, _, _] f_136_42 rfl sg_dec rfl ?_
        refine sg_goto 5 f_136_45 rfl ?_
        exact k5
      · rw [if_pos (sg_cmp_eq.mp c26)] at k5
        refine sg_iload_n f_136_29 rfl ?_
        refine sg_goto 41 f_136_30 rfl ?_
        refine sg_istore_n [_, _, _, _] f_136_41 rfl ?_
        refine sg_iinc (if t = 0 then -1 else nI (t - 1)) [_, _, _, _] f_136_42 rfl sg_dec rfl ?_
        refine sg_goto 5 f_136_45 rfl ?_
        exact k5
theorem sm_136 {μ : sg_S} {r : Nat} (hT : tm_Tab μ) (hr : r < 6) : sg_D tm_H 136 0 [.ref 0, .int (nI r), ab_u, ab_u] [] μ (some (.int (nI (sx_lk (sm_h μ r) t_fw 17 0)))) μ := by
  refine sg_iconst (nI 5) f_136_0 ki_5 ?_
  refine sg_istore_n [_, _, _, _] f_136_1 rfl ?_
  refine sg_bipush (nI 16) f_136_2 kb_16 ?_
  refine sg_istore_n [_, _, _, _] f_136_4 rfl ?_
  exact sm_136_l hT hr 17 (by omega) _ rfl
theorem sm_149_l {μ : sg_S} {a b : Nat} (hT : tm_Tab μ) (ha : a < 6) (hb : b < 6) : ∀ t : Nat, t ≤ 17 → ∀ w : Int32, w = (if t = 0 then -1 else nI (t - 1)) → sg_D tm_H 149 22 [.ref 0, .int (nI a), .int (nI b), .int (nI (sx_lk (sm_h μ a) (sm_h μ b) (17 - t) t)), .int w] [] μ (some (.int (nI (sx_lk (sm_h μ a) (sm_h μ b) 17 0)))) μ := by
  intro t
  induction t with
  | zero =>
    intro _ w hw
    rw [if_pos rfl] at hw
    subst hw
    refine sg_iload f_149_22 rfl ?_
    refine sg_if_lt 75 f_149_24 rfl (fun c24 => ?_) (fun c24 => ?_)
    · refine sg_iload_n f_149_75 rfl ?_
      exact (sg_iret f_149_76 rk_149)
    · exact absurd (by decide) c24
  | succ t ih =>
    intro ht w hw
    rw [if_neg (by omega), Nat.add_sub_cancel] at hw
    subst hw
    have k5 := ih (by omega) _ rfl
    rw [sx_lk_s (by omega)] at k5
    have hn := tb_nd1 t (by omega)
    refine sg_iload f_149_22 rfl ?_
    refine sg_if_lt 75 f_149_24 rfl (fun c24 => ?_) (fun c24 => ?_)
    · exact absurd c24 (sg_nneg (by omega))
    · refine sg_aload_n f_149_27 rfl ?_
      refine sg_getf_r f_149_28 fd_m_0_782 ?_
      refine sg_bipush (nI 17) f_149_31 kb_17 ?_
      refine sg_iload_n f_149_33 rfl ?_
      first | refine sg_imul _ f_149_34 (pk_mul _ _) ?_ | refine sg_imul _ f_149_34 rfl ?_
      refine sg_iload f_149_35 rfl ?_
      first | refine sg_iadd _ f_149_37 (nI_add _ _) ?_ | refine sg_iadd _ f_149_37 rfl ?_
      refine sg_laload_k (17 * a + t) ok_m f_149_38 sh_m_13 rfl (by omega) (show _ = sm_h μ a t from rfl) ?_
      refine sg_aload_n f_149_39 rfl ?_
      refine sg_getf_r f_149_40 fd_m_0_782 ?_
      refine sg_bipush (nI 17) f_149_43 kb_17 ?_
      refine sg_iload_n f_149_45 rfl ?_
      first | refine sg_imul _ f_149_46 (pk_mul _ _) ?_ | refine sg_imul _ f_149_46 rfl ?_
      refine sg_iload f_149_47 rfl ?_
      first | refine sg_iadd _ f_149_49 (nI_add _ _) ?_ | refine sg_iadd _ f_149_49 rfl ?_
      refine sg_laload_k (17 * b + t) ok_m f_149_50 sh_m_13 rfl (by omega) (show _ = sm_h μ b t from rfl) ?_
      refine sg_lcmp f_149_51 ?_
      refine sg_if_ne 59 f_149_52 rfl (fun c52 => ?_) (fun c52 => ?_)
      · rw [if_neg (fun e => c52 (sg_cmp_eq.mpr e))] at k5
        refine sg_aload_n f_149_59 rfl ?_
        refine sg_getf_r f_149_60 fd_m_0_770 ?_
        refine sg_iload f_149_63 rfl ?_
        refine sg_iaload_k t ok_m f_149_65 sh_m_3 rfl (by omega) (hT.1 t (by omega)).2.1 ?_
        refine sg_iconst (nI 1) f_149_66 ki_1 ?_
        refine sg_isub (nI (t_nd t - 1)) f_149_67 (pk_sub hn.1) ?_
        refine sg_istore_n [_, _, _, _, _] f_149_68 rfl ?_
        refine sg_iinc (if t = 0 then -1 else nI (t - 1)) [_, _, _, _, _] f_149_69 rfl sg_dec rfl ?_
        refine sg_goto 22 f_149_72 rfl ?_
        exact k5
      · rw [if_pos (sg_cmp_eq.mp c52)] at k5
        refine sg_iload_n f_149_55 rfl ?_
        refine sg_goto 68 f_149_56 rfl ?_
        refine sg_istore_n [_, _, _, _, _] f_149_68 rfl ?_
        refine sg_iinc (if t = 0 then -1 else nI (t - 1)) [_, _, _, _, _] f_149_69 rfl sg_dec rfl ?_
        refine sg_goto 22 f_149_72 rfl ?_
        exact k5
theorem sm_149 {μ : sg_S} {a b : Nat} (hT : tm_Tab μ) (ha : a < 6) (hb : b < 6) : sg_D tm_H 149 0 [.ref 0, .int (nI a), .int (nI b), ab_u, ab_u] [] μ (some (.int (nI (sx_lk (sm_h μ a) (sm_h μ b) 17 0)))) μ := by
  refine sg_iload_n f_149_0 rfl ?_
  refine sg_calls_i f_149_1 my_149_101 mr_101 (by decide) rfl (Nat.le_of_ble_eq_true rfl) (Nat.le_of_ble_eq_true rfl) rfl (sm_101_1 ha) ?_
  refine sg_if_eq 14 f_149_4 rfl (fun c4 => ?_) (fun c4 => ?_)
  · exact absurd c4 (by decide)
  · refine sg_iload_n f_149_7 rfl ?_
    refine sg_calls_i f_149_8 my_149_101 mr_101 (by decide) rfl (Nat.le_of_ble_eq_true rfl) (Nat.le_of_ble_eq_true rfl) rfl (sm_101_1 hb) ?_
    refine sg_if_ne 16 f_149_11 rfl (fun c11 => ?_) (fun c11 => ?_)
    · refine sg_iconst (nI 5) f_149_16 ki_5 ?_
      refine sg_istore_n [_, _, _, _, _] f_149_17 rfl ?_
      refine sg_bipush (nI 16) f_149_18 kb_16 ?_
      refine sg_istore [_, _, _, _, _] f_149_20 rfl ?_
      exact sm_149_l hT ha hb 17 (by omega) _ rfl
    · exact absurd c11 (by decide)
theorem sm_143_l {μ μ' : sg_S} {rr : Option Value} {a b : Nat} (hT : tm_Tab μ) (hb : b < 6) : ∀ t : Nat, t ≤ 17 → ∀ w : Int32, w = (if t = 0 then -1 else nI (t - 1)) → sg_D tm_H 143 82 [.ref 0, .int (nI a), .int (nI b), .int (nI (sx_lk (μ.2 25) (sm_h μ b) 17 0)), .int (-1)] [] μ rr μ' → sg_D tm_H 143 34 [.ref 0, .int (nI a), .int (nI b), .int (nI (sx_lk (μ.2 25) (sm_h μ b) (17 - t) t)), .int w] [] μ rr μ' := by
  intro t
  induction t with
  | zero =>
    intro _ w hw kk
    rw [if_pos rfl] at hw
    subst hw
    refine sg_iload f_143_34 rfl ?_
    refine sg_if_lt 82 f_143_36 rfl (fun c36 => ?_) (fun c36 => ?_)
    · exact kk
    · exact absurd (by decide) c36
  | succ t ih =>
    intro ht w hw kk
    rw [if_neg (by omega), Nat.add_sub_cancel] at hw
    subst hw
    have k5 := ih (by omega) _ rfl kk
    rw [sx_lk_s (by omega)] at k5
    have hn := tb_nd1 t (by omega)
    refine sg_iload f_143_34 rfl ?_
    refine sg_if_lt 82 f_143_36 rfl (fun c36 => ?_) (fun c36 => ?_)
    · exact absurd c36 (sg_nneg (by omega))
    · refine sg_aload_n f_143_39 rfl ?_
      refine sg_getf_r f_143_40 fd_m_0_802 ?_
      refine sg_iload f_143_43 rfl ?_
      refine sg_laload _ ok_m f_143_45 sh_m_25 rfl (by omega) ?_
      refine sg_aload_n f_143_46 rfl ?_
      refine sg_getf_r f_143_47 fd_m_0_782 ?_
      refine sg_bipush (nI 17) f_143_50 kb_17 ?_
      refine sg_iload_n f_143_52 rfl ?_
      first | refine sg_imul _ f_143_53 (pk_mul _ _) ?_ | refine sg_imul _ f_143_53 rfl ?_
      refine sg_iload f_143_54 rfl ?_
      first | refine sg_iadd _ f_143_56 (nI_add _ _) ?_ | refine sg_iadd _ f_143_56 rfl ?_
      refine sg_laload_k (17 * b + t) ok_m f_143_57 sh_m_13 rfl (by omega) (show _ = sm_h μ b t from rfl) ?_
      refine sg_lcmp f_143_58 ?_
      refine sg_if_ne 66 f_143_59 rfl (fun c59 => ?_) (fun c59 => ?_)
      · rw [if_neg (fun e => c59 (sg_cmp_eq.mpr e))] at k5
        refine sg_aload_n f_143_66 rfl ?_
        refine sg_getf_r f_143_67 fd_m_0_770 ?_
        refine sg_iload f_143_70 rfl ?_
        refine sg_iaload_k t ok_m f_143_72 sh_m_3 rfl (by omega) (hT.1 t (by omega)).2.1 ?_
        refine sg_iconst (nI 1) f_143_73 ki_1 ?_
        refine sg_isub (nI (t_nd t - 1)) f_143_74 (pk_sub hn.1) ?_
        refine sg_istore_n [_, _, _, _, _] f_143_75 rfl ?_
        refine sg_iinc (if t = 0 then -1 else nI (t - 1)) [_, _, _, _, _] f_143_76 rfl sg_dec rfl ?_
        refine sg_goto 34 f_143_79 rfl ?_
        exact k5
      · rw [if_pos (sg_cmp_eq.mp c59)] at k5
        refine sg_iload_n f_143_62 rfl ?_
        refine sg_goto 75 f_143_63 rfl ?_
        refine sg_istore_n [_, _, _, _, _] f_143_75 rfl ?_
        refine sg_iinc (if t = 0 then -1 else nI (t - 1)) [_, _, _, _, _] f_143_76 rfl sg_dec rfl ?_
        refine sg_goto 34 f_143_79 rfl ?_
        exact k5
theorem sm_146_l {μ : sg_S} {r : Nat} (hT : tm_Tab μ) (hr : r < 6) : ∀ n t : Nat, t + n = 17 → sg_D tm_H 146 2 [.ref 0, .int (nI r), .int (nI t)] [] μ (some (.int (sx_fu (sm_h μ r) t_fw n t))) μ := by
  intro n
  induction n with
  | zero =>
    intro t ht
    rw [sx_fu]
    refine sg_iload_n f_146_2 rfl ?_
    refine sg_bipush (nI 17) f_146_3 kb_17 ?_
    first | refine sg_ncmp_ge 36 (by omega) (by omega) f_146_5 rfl (fun c5 => ?_) (fun c5 => ?_) | refine sg_icmp_ge 36 f_146_5 rfl (fun c5 => ?_) (fun c5 => ?_)
    · refine sg_bipush (-9) f_146_36 kb_m9 ?_
      exact (sg_iret f_146_38 rk_146)
    · omega
  | succ n ih =>
    intro t ht
    rw [sx_fu]
    refine sg_iload_n f_146_2 rfl ?_
    refine sg_bipush (nI 17) f_146_3 kb_17 ?_
    first | refine sg_ncmp_ge 36 (by omega) (by omega) f_146_5 rfl (fun c5 => ?_) (fun c5 => ?_) | refine sg_icmp_ge 36 f_146_5 rfl (fun c5 => ?_) (fun c5 => ?_)
    · omega
    · refine sg_aload_n f_146_8 rfl ?_
      refine sg_getf_r f_146_9 fd_m_0_782 ?_
      refine sg_bipush (nI 17) f_146_12 kb_17 ?_
      refine sg_iload_n f_146_14 rfl ?_
      first | refine sg_imul _ f_146_15 (pk_mul _ _) ?_ | refine sg_imul _ f_146_15 rfl ?_
      refine sg_iload_n f_146_16 rfl ?_
      first | refine sg_iadd _ f_146_17 (nI_add _ _) ?_ | refine sg_iadd _ f_146_17 rfl ?_
      refine sg_laload_k (17 * r + t) ok_m f_146_18 sh_m_13 rfl (by omega) (show _ = sm_h μ r t from rfl) ?_
      refine sg_aload_n f_146_19 rfl ?_
      refine sg_iload_n f_146_20 rfl ?_
      refine sg_callv_l f_146_21 my_146_129 mr_129 rfl (Nat.le_of_ble_eq_true rfl) (Nat.le_of_ble_eq_true rfl) sh_m_0 (by decide) rfl (sm_129 hT (by omega)) ?_
      refine sg_lcmp f_146_24 ?_
      refine sg_if_eq 30 f_146_25 rfl (fun c25 => ?_) (fun c25 => ?_)
      · rw [if_pos (sg_cmp_eq.mp c25)]
        first | refine sg_iinc _ [_, _, _] f_146_30 rfl (sg_inc1 _) rfl ?_ | refine sg_iinc _ [_, _, _] f_146_30 rfl rfl rfl ?_
        refine sg_goto 2 f_146_33 rfl ?_
        exact ih (t + 1) (by omega)
      · rw [if_neg (fun e => c25 (sg_cmp_eq.mpr e))]
        refine sg_iload_n f_146_28 rfl ?_
        exact (sg_iret f_146_29 rk_146)
theorem sm_146 {μ : sg_S} {r : Nat} (hT : tm_Tab μ) (hr : r < 6) : sg_D tm_H 146 0 [.ref 0, .int (nI r), ab_u] [] μ (some (.int (sx_fu (sm_h μ r) t_fw 17 0))) μ := by
  refine sg_iconst (nI 0) f_146_0 ki_0 ?_
  refine sg_istore_n [_, _, _] f_146_1 rfl ?_
  exact sm_146_l hT hr 17 0 rfl
theorem tb_gs : ∀ u, u < 17 → ∀ v, v < 17 → t_gr (17 * u + v) = 17 → t_gr (17 * v + u) = 17 := by decide +kernel
theorem sm_h_fr {μ μ' : sg_S} {r : Nat} (h : sm_fr μ μ') : sm_h μ' r = sm_h μ r := by unfold sm_h; rw [h.1]
theorem sm_147_v {μ0 : sg_S} {r n u v : Nat} {P : Nat → Int64} (hu : u < 17) (hv : v < 17) (hn : 17 * u + v + (n + 1) = 289) (ih : ∀ (u v : Nat), u < 17 → v < 17 → 17 * u + v + n = 289 → ∀ (μ : sg_S) (l4 l5 : Value), sm_fr μ0 μ → ∃ μ' : sg_S, sm_fr μ0 μ' ∧ sg_D tm_H 147 10 [.ref 0, .int (nI r), .int (nI u), .int (nI v), l4, l5] [] μ (some (.int (t_fb P n u v))) μ') {μ : sg_S} {l4 l5 : Value} (hF : sm_fr μ0 μ) : ∃ μ' : sg_S, sm_fr μ0 μ' ∧ sg_D tm_H 147 98 [.ref 0, .int (nI r), .int (nI u), .int (nI v), l4, l5] [] μ (some (.int (if v + 1 < 17 then t_fb P n u (v + 1) else t_fb P n (u + 1) 0))) μ' := by
  by_cases h1 : v + 1 < 17
  · rw [if_pos h1]
    obtain ⟨μ', hF', k⟩ := ih u (v + 1) hu h1 (by omega) μ l4 l5 hF
    refine ⟨μ', hF', ?_⟩
    first | refine sg_iinc _ [_, _, _, _, _, _] f_147_98 rfl (sg_inc1 _) rfl ?_ | refine sg_iinc _ [_, _, _, _, _, _] f_147_98 rfl rfl rfl ?_
    refine sg_goto 10 f_147_101 rfl ?_
    exact k
  · rw [if_neg h1]
    obtain rfl : v = 16 := by omega
    by_cases h2 : u + 1 < 17
    · obtain ⟨μ', hF', k⟩ := ih (u + 1) 0 h2 (by omega) (by omega) μ l4 l5 hF
      refine ⟨μ', hF', ?_⟩
      have k1 : sg_D tm_H 147 10 [.ref 0, .int (nI r), .int (nI u), .int (nI 17), l4, l5] [] μ (some (.int (t_fb P n (u + 1) 0))) μ' := by
        refine sg_iload_n f_147_10 rfl ?_
        refine sg_bipush (nI 17) f_147_11 kb_17 ?_
        first | refine sg_ncmp_ge 104 (by omega) (by omega) f_147_13 rfl (fun c13 => ?_) (fun c13 => ?_) | refine sg_icmp_ge 104 f_147_13 rfl (fun c13 => ?_) (fun c13 => ?_)
        · first | refine sg_iinc _ [_, _, _, _, _, _] f_147_104 rfl (sg_inc1 _) rfl ?_ | refine sg_iinc _ [_, _, _, _, _, _] f_147_104 rfl rfl rfl ?_
          refine sg_goto 2 f_147_107 rfl ?_
          refine sg_iload_n f_147_2 rfl ?_
          refine sg_bipush (nI 17) f_147_3 kb_17 ?_
          first | refine sg_ncmp_ge 110 (by omega) (by omega) f_147_5 rfl (fun c5 => ?_) (fun c5 => ?_) | refine sg_icmp_ge 110 f_147_5 rfl (fun c5 => ?_) (fun c5 => ?_)
          · omega
          · refine sg_iconst (nI 0) f_147_8 ki_0 ?_
            refine sg_istore_n [_, _, _, _, _, _] f_147_9 rfl ?_
            exact k
        · omega
      first | refine sg_iinc _ [_, _, _, _, _, _] f_147_98 rfl (sg_inc1 _) rfl ?_ | refine sg_iinc _ [_, _, _, _, _, _] f_147_98 rfl rfl rfl ?_
      refine sg_goto 10 f_147_101 rfl ?_
      exact k1
    · obtain rfl : u = 16 := by omega
      obtain rfl : n = 0 := by omega
      refine ⟨μ, hF, ?_⟩
      have k1 : sg_D tm_H 147 10 [.ref 0, .int (nI r), .int (nI 16), .int (nI 17), l4, l5] [] μ (some (.int (t_fb P 0 (16 + 1) 0))) μ := by
        refine sg_iload_n f_147_10 rfl ?_
        refine sg_bipush (nI 17) f_147_11 kb_17 ?_
        first | refine sg_ncmp_ge 104 (by omega) (by omega) f_147_13 rfl (fun c13 => ?_) (fun c13 => ?_) | refine sg_icmp_ge 104 f_147_13 rfl (fun c13 => ?_) (fun c13 => ?_)
        · first | refine sg_iinc _ [_, _, _, _, _, _] f_147_104 rfl (sg_inc1 _) rfl ?_ | refine sg_iinc _ [_, _, _, _, _, _] f_147_104 rfl rfl rfl ?_
          refine sg_goto 2 f_147_107 rfl ?_
          refine sg_iload_n f_147_2 rfl ?_
          refine sg_bipush (nI 17) f_147_3 kb_17 ?_
          first | refine sg_ncmp_ge 110 (by omega) (by omega) f_147_5 rfl (fun c5 => ?_) (fun c5 => ?_) | refine sg_icmp_ge 110 f_147_5 rfl (fun c5 => ?_) (fun c5 => ?_)
          · refine sg_bipush (-9) f_147_110 kb_m9 ?_
            exact (sg_iret f_147_112 rk_147)
          · omega
        · omega
      first | refine sg_iinc _ [_, _, _, _, _, _] f_147_98 rfl (sg_inc1 _) rfl ?_ | refine sg_iinc _ [_, _, _, _, _, _] f_147_98 rfl rfl rfl ?_
      refine sg_goto 10 f_147_101 rfl ?_
      exact k1
theorem sm_147_l {μ0 : sg_S} {r : Nat} (hT : tm_Tab μ0) (hr : r < 6) : ∀ (n u v : Nat), u < 17 → v < 17 → 17 * u + v + n = 289 → ∀ (μ : sg_S) (l4 l5 : Value), sm_fr μ0 μ → ∃ μ' : sg_S, sm_fr μ0 μ' ∧ sg_D tm_H 147 10 [.ref 0, .int (nI r), .int (nI u), .int (nI v), l4, l5] [] μ (some (.int (t_fb (sm_h μ0 r) n u v))) μ' := by
  intro n
  induction n with
  | zero => intro u v hu hv hn; exact absurd hn (by omega)
  | succ n ih =>
    intro u v hu hv hn μ l4 l5 hF
    obtain ⟨μ1, k1, hF1⟩ := sm_108 (tm_Tab_fr hT hF) hu hv
    obtain ⟨μ2, k2, hF2⟩ := sm_108 (tm_Tab_fr hT (sm_fr_tr hF hF1)) hv hu
    have hF12 := sm_fr_tr (sm_fr_tr hF hF1) hF2
    have hh : ∀ q, μ2.2 13 (17 * r + q) = sm_h μ0 r q := fun q => by rw [hF12.1]; rfl
    have b1 := tb_gr1 (17 * u + v) (by omega)
    have b2 := tb_gr1 (17 * v + u) (by omega)
    by_cases e1 : t_gr (17 * u + v) = 17
    · rw [t_fb, if_pos (Or.inl e1)]
      rw [t_gi_17 e1] at k1
      obtain ⟨μ', hF', k⟩ := sm_147_v (P := sm_h μ0 r) (l4 := .int (-9)) (l5 := .int (t_gi v u)) hu hv hn ih hF12
      refine ⟨μ', hF', ?_⟩
      refine sg_iload_n f_147_10 rfl ?_
      refine sg_bipush (nI 17) f_147_11 kb_17 ?_
      first | refine sg_ncmp_ge 104 (by omega) (by omega) f_147_13 rfl (fun c13 => ?_) (fun c13 => ?_) | refine sg_icmp_ge 104 f_147_13 rfl (fun c13 => ?_) (fun c13 => ?_)
      · omega
      · refine sg_aload_n f_147_16 rfl ?_
        refine sg_iload_n f_147_17 rfl ?_
        refine sg_iload_n f_147_18 rfl ?_
        refine sg_callv_i f_147_19 my_147_108 mr_108 rfl (Nat.le_of_ble_eq_true rfl) (Nat.le_of_ble_eq_true rfl) sh_m_0 (by decide) rfl k1 ?_
        refine sg_istore [_, _, _, _, _, _] f_147_22 rfl ?_
        refine sg_aload_n f_147_24 rfl ?_
        refine sg_iload_n f_147_25 rfl ?_
        refine sg_iload_n f_147_26 rfl ?_
        refine sg_callv_i f_147_27 my_147_108 mr_108 rfl (Nat.le_of_ble_eq_true rfl) (Nat.le_of_ble_eq_true rfl) sh_m_0 (by decide) rfl k2 ?_
        refine sg_istore [_, _, _, _, _, _] f_147_30 rfl ?_
        refine sg_iload f_147_32 rfl ?_
        refine sg_bipush (-9) f_147_34 kb_m9 ?_
        refine sg_icmp_eq 98 f_147_36 rfl (fun c36 => ?_) (fun c36 => ?_)
        · exact k
        · exact absurd rfl c36
    · have e2 : ¬ t_gr (17 * v + u) = 17 := fun z => e1 (tb_gs v hv u hu z)
      rw [t_gi_n e1] at k1
      rw [t_gi_n e2] at k2
      by_cases e3 : sm_h μ0 r (t_gr (17 * u + v)) + sm_h μ0 r (t_gr (17 * v + u)) = sm_h μ0 r u * sm_h μ0 r v
      · rw [t_fb, if_pos (Or.inr (Or.inr e3))]
        obtain ⟨μ', hF', k⟩ := sm_147_v (P := sm_h μ0 r) (l4 := .int (nI (t_gr (17 * u + v)))) (l5 := .int (nI (t_gr (17 * v + u)))) hu hv hn ih hF12
        refine ⟨μ', hF', ?_⟩
        refine sg_iload_n f_147_10 rfl ?_
        refine sg_bipush (nI 17) f_147_11 kb_17 ?_
        first | refine sg_ncmp_ge 104 (by omega) (by omega) f_147_13 rfl (fun c13 => ?_) (fun c13 => ?_) | refine sg_icmp_ge 104 f_147_13 rfl (fun c13 => ?_) (fun c13 => ?_)
        · omega
        · refine sg_aload_n f_147_16 rfl ?_
          refine sg_iload_n f_147_17 rfl ?_
          refine sg_iload_n f_147_18 rfl ?_
          refine sg_callv_i f_147_19 my_147_108 mr_108 rfl (Nat.le_of_ble_eq_true rfl) (Nat.le_of_ble_eq_true rfl) sh_m_0 (by decide) rfl k1 ?_
          refine sg_istore [_, _, _, _, _, _] f_147_22 rfl ?_
          refine sg_aload_n f_147_24 rfl ?_
          refine sg_iload_n f_147_25 rfl ?_
          refine sg_iload_n f_147_26 rfl ?_
          refine sg_callv_i f_147_27 my_147_108 mr_108 rfl (Nat.le_of_ble_eq_true rfl) (Nat.le_of_ble_eq_true rfl) sh_m_0 (by decide) rfl k2 ?_
          refine sg_istore [_, _, _, _, _, _] f_147_30 rfl ?_
          refine sg_iload f_147_32 rfl ?_
          refine sg_bipush (-9) f_147_34 kb_m9 ?_
          refine sg_icmp_eq 98 f_147_36 rfl (fun c36 => ?_) (fun c36 => ?_)
          · exact absurd c36 (sg_ne_m9 (by omega))
          · refine sg_aload_n f_147_39 rfl ?_
            refine sg_getf_r f_147_40 fd_m_0_782 ?_
            refine sg_bipush (nI 17) f_147_43 kb_17 ?_
            refine sg_iload_n f_147_45 rfl ?_
            first | refine sg_imul _ f_147_46 (pk_mul _ _) ?_ | refine sg_imul _ f_147_46 rfl ?_
            refine sg_iload f_147_47 rfl ?_
            first | refine sg_iadd _ f_147_49 (nI_add _ _) ?_ | refine sg_iadd _ f_147_49 rfl ?_
            refine sg_laload_k (17 * r + t_gr (17 * u + v)) ok_m f_147_50 sh_m_13 rfl (by omega) (hh _) ?_
            refine sg_aload_n f_147_51 rfl ?_
            refine sg_getf_r f_147_52 fd_m_0_782 ?_
            refine sg_bipush (nI 17) f_147_55 kb_17 ?_
            refine sg_iload_n f_147_57 rfl ?_
            first | refine sg_imul _ f_147_58 (pk_mul _ _) ?_ | refine sg_imul _ f_147_58 rfl ?_
            refine sg_iload f_147_59 rfl ?_
            first | refine sg_iadd _ f_147_61 (nI_add _ _) ?_ | refine sg_iadd _ f_147_61 rfl ?_
            refine sg_laload_k (17 * r + t_gr (17 * v + u)) ok_m f_147_62 sh_m_13 rfl (by omega) (hh _) ?_
            refine sg_ladd _ f_147_63 rfl ?_
            refine sg_aload_n f_147_64 rfl ?_
            refine sg_getf_r f_147_65 fd_m_0_782 ?_
            refine sg_bipush (nI 17) f_147_68 kb_17 ?_
            refine sg_iload_n f_147_70 rfl ?_
            first | refine sg_imul _ f_147_71 (pk_mul _ _) ?_ | refine sg_imul _ f_147_71 rfl ?_
            refine sg_iload_n f_147_72 rfl ?_
            first | refine sg_iadd _ f_147_73 (nI_add _ _) ?_ | refine sg_iadd _ f_147_73 rfl ?_
            refine sg_laload_k (17 * r + u) ok_m f_147_74 sh_m_13 rfl (by omega) (hh _) ?_
            refine sg_aload_n f_147_75 rfl ?_
            refine sg_getf_r f_147_76 fd_m_0_782 ?_
            refine sg_bipush (nI 17) f_147_79 kb_17 ?_
            refine sg_iload_n f_147_81 rfl ?_
            first | refine sg_imul _ f_147_82 (pk_mul _ _) ?_ | refine sg_imul _ f_147_82 rfl ?_
            refine sg_iload_n f_147_83 rfl ?_
            first | refine sg_iadd _ f_147_84 (nI_add _ _) ?_ | refine sg_iadd _ f_147_84 rfl ?_
            refine sg_laload_k (17 * r + v) ok_m f_147_85 sh_m_13 rfl (by omega) (hh _) ?_
            refine sg_lmul _ f_147_86 rfl ?_
            refine sg_lcmp f_147_87 ?_
            refine sg_if_eq 98 f_147_88 rfl (fun c88 => ?_) (fun c88 => ?_)
            · exact k
            · exact absurd (sg_cmp_eq.mpr e3) c88
      · rw [t_fb, if_neg (by rintro (z | z | z); exact e1 z; exact e2 z; exact e3 z)]
        refine ⟨μ2, hF12, ?_⟩
        refine sg_iload_n f_147_10 rfl ?_
        refine sg_bipush (nI 17) f_147_11 kb_17 ?_
        first | refine sg_ncmp_ge 104 (by omega) (by omega) f_147_13 rfl (fun c13 => ?_) (fun c13 => ?_) | refine sg_icmp_ge 104 f_147_13 rfl (fun c13 => ?_) (fun c13 => ?_)
        · omega
        · refine sg_aload_n f_147_16 rfl ?_
          refine sg_iload_n f_147_17 rfl ?_
          refine sg_iload_n f_147_18 rfl ?_
          refine sg_callv_i f_147_19 my_147_108 mr_108 rfl (Nat.le_of_ble_eq_true rfl) (Nat.le_of_ble_eq_true rfl) sh_m_0 (by decide) rfl k1 ?_
          refine sg_istore [_, _, _, _, _, _] f_147_22 rfl ?_
          refine sg_aload_n f_147_24 rfl ?_
          refine sg_iload_n f_147_25 rfl ?_
          refine sg_iload_n f_147_26 rfl ?_
          refine sg_callv_i f_147_27 my_147_108 mr_108 rfl (Nat.le_of_ble_eq_true rfl) (Nat.le_of_ble_eq_true rfl) sh_m_0 (by decide) rfl k2 ?_
          refine sg_istore [_, _, _, _, _, _] f_147_30 rfl ?_
          refine sg_iload f_147_32 rfl ?_
          refine sg_bipush (-9) f_147_34 kb_m9 ?_
          refine sg_icmp_eq 98 f_147_36 rfl (fun c36 => ?_) (fun c36 => ?_)
          · exact absurd c36 (sg_ne_m9 (by omega))
          · refine sg_aload_n f_147_39 rfl ?_
            refine sg_getf_r f_147_40 fd_m_0_782 ?_
            refine sg_bipush (nI 17) f_147_43 kb_17 ?_
            refine sg_iload_n f_147_45 rfl ?_
            first | refine sg_imul _ f_147_46 (pk_mul _ _) ?_ | refine sg_imul _ f_147_46 rfl ?_
            refine sg_iload f_147_47 rfl ?_
            first | refine sg_iadd _ f_147_49 (nI_add _ _) ?_ | refine sg_iadd _ f_147_49 rfl ?_
            refine sg_laload_k (17 * r + t_gr (17 * u + v)) ok_m f_147_50 sh_m_13 rfl (by omega) (hh _) ?_
            refine sg_aload_n f_147_51 rfl ?_
            refine sg_getf_r f_147_52 fd_m_0_782 ?_
            refine sg_bipush (nI 17) f_147_55 kb_17 ?_
            refine sg_iload_n f_147_57 rfl ?_
            first | refine sg_imul _ f_147_58 (pk_mul _ _) ?_ | refine sg_imul _ f_147_58 rfl ?_
            refine sg_iload f_147_59 rfl ?_
            first | refine sg_iadd _ f_147_61 (nI_add _ _) ?_ | refine sg_iadd _ f_147_61 rfl ?_
            refine sg_laload_k (17 * r + t_gr (17 * v + u)) ok_m f_147_62 sh_m_13 rfl (by omega) (hh _) ?_
            refine sg_ladd _ f_147_63 rfl ?_
            refine sg_aload_n f_147_64 rfl ?_
            refine sg_getf_r f_147_65 fd_m_0_782 ?_
            refine sg_bipush (nI 17) f_147_68 kb_17 ?_
            refine sg_iload_n f_147_70 rfl ?_
            first | refine sg_imul _ f_147_71 (pk_mul _ _) ?_ | refine sg_imul _ f_147_71 rfl ?_
            refine sg_iload_n f_147_72 rfl ?_
            first | refine sg_iadd _ f_147_73 (nI_add _ _) ?_ | refine sg_iadd _ f_147_73 rfl ?_
            refine sg_laload_k (17 * r + u) ok_m f_147_74 sh_m_13 rfl (by omega) (hh _) ?_
            refine sg_aload_n f_147_75 rfl ?_
            refine sg_getf_r f_147_76 fd_m_0_782 ?_
            refine sg_bipush (nI 17) f_147_79 kb_17 ?_
            refine sg_iload_n f_147_81 rfl ?_
            first | refine sg_imul _ f_147_82 (pk_mul _ _) ?_ | refine sg_imul _ f_147_82 rfl ?_
            refine sg_iload_n f_147_83 rfl ?_
            first | refine sg_iadd _ f_147_84 (nI_add _ _) ?_ | refine sg_iadd _ f_147_84 rfl ?_
            refine sg_laload_k (17 * r + v) ok_m f_147_85 sh_m_13 rfl (by omega) (hh _) ?_
            refine sg_lmul _ f_147_86 rfl ?_
            refine sg_lcmp f_147_87 ?_
            refine sg_if_eq 98 f_147_88 rfl (fun c88 => ?_) (fun c88 => ?_)
            · exact absurd (sg_cmp_eq.mp c88) e3
            · refine sg_bipush (nI 17) f_147_91 kb_17 ?_
              refine sg_iload_n f_147_93 rfl ?_
              first | refine sg_imul _ f_147_94 (pk_mul _ _) ?_ | refine sg_imul _ f_147_94 rfl ?_
              refine sg_iload_n f_147_95 rfl ?_
              first | refine sg_iadd _ f_147_96 (nI_add _ _) ?_ | refine sg_iadd _ f_147_96 rfl ?_
              exact (sg_iret f_147_97 rk_147)
theorem sm_147 {μ : sg_S} {r : Nat} (hT : tm_Tab μ) (hr : r < 6) : ∃ μ' : sg_S, sm_fr μ μ' ∧ sg_D tm_H 147 0 [.ref 0, .int (nI r), ab_u, ab_u, ab_u, ab_u] [] μ (some (.int (t_fb (sm_h μ r) 289 0 0))) μ' := by
  obtain ⟨μ', h, k⟩ := sm_147_l hT hr 289 0 0 (by omega) (by omega) (by omega) μ ab_u ab_u sm_fr_rfl
  refine ⟨μ', h, ?_⟩
  refine sg_iconst (nI 0) f_147_0 ki_0 ?_
  refine sg_istore_n [_, _, _, _, _, _] f_147_1 rfl ?_
  refine sg_iload_n f_147_2 rfl ?_
  refine sg_bipush (nI 17) f_147_3 kb_17 ?_
  first | refine sg_ncmp_ge 110 (by omega) (by omega) f_147_5 rfl (fun c5 => ?_) (fun c5 => ?_) | refine sg_icmp_ge 110 f_147_5 rfl (fun c5 => ?_) (fun c5 => ?_)
  · omega
  · refine sg_iconst (nI 0) f_147_8 ki_0 ?_
    refine sg_istore_n [_, _, _, _, _, _] f_147_9 rfl ?_
    exact k
theorem sm_148_out {μ : sg_S} {a : Nat} {k : Int32} (ha : a < 6) (hk : sg_out k 3) : sg_D tm_H 148 0 [.ref 0, .int (nI a), .int k] [] μ (some (.int (-1))) μ := by
  refine sg_iload_n f_148_0 rfl ?_
  refine sg_calls_i f_148_1 my_148_101 mr_101 (by decide) rfl (Nat.le_of_ble_eq_true rfl) (Nat.le_of_ble_eq_true rfl) rfl (sm_101_1 ha) ?_
  refine sg_if_eq 19 f_148_4 rfl (fun c4 => ?_) (fun c4 => ?_)
  · exact absurd c4 (by decide)
  · refine sg_iload_n f_148_7 rfl ?_
    refine sg_i2l _ f_148_8 rfl ?_
    refine sg_lconst 0 f_148_9 rfl ?_
    refine sg_ldc2_w (2) f_148_10 rfl ?_
    refine sg_calls_i f_148_13 my_148_99 mr_99 (by decide) rfl (Nat.le_of_ble_eq_true rfl) (Nat.le_of_ble_eq_true rfl) rfl (sm_99_0 (sm_n_out (m := 2) rfl rfl rfl (by omega) hk)) ?_
    refine sg_if_ne 21 f_148_16 rfl (fun c16 => ?_) (fun c16 => ?_)
    · exact absurd rfl c16
    · refine sg_iconst (-1) f_148_19 ki_m1 ?_
      exact (sg_iret f_148_20 rk_148)
theorem sm_148_0 {μ : sg_S} {a : Nat} (hT : tm_Tab μ) (ha : a < 6) : sg_D tm_H 148 0 [.ref 0, .int (nI a), .int (nI 0)] [] μ (some (.int (nI (sx_lk (sm_h μ a) t_fw 17 0)))) μ := by
  refine sg_iload_n f_148_0 rfl ?_
  refine sg_calls_i f_148_1 my_148_101 mr_101 (by decide) rfl (Nat.le_of_ble_eq_true rfl) (Nat.le_of_ble_eq_true rfl) rfl (sm_101_1 ha) ?_
  refine sg_if_eq 19 f_148_4 rfl (fun c4 => ?_) (fun c4 => ?_)
  · exact absurd c4 (by decide)
  · refine sg_iload_n f_148_7 rfl ?_
    refine sg_i2l _ f_148_8 rfl ?_
    refine sg_lconst 0 f_148_9 rfl ?_
    refine sg_ldc2_w (2) f_148_10 rfl ?_
    refine sg_calls_i f_148_13 my_148_99 mr_99 (by decide) rfl (Nat.le_of_ble_eq_true rfl) (Nat.le_of_ble_eq_true rfl) rfl (sm_99_1 (sm_n_in (m := 2) rfl rfl (by omega) (by omega))) ?_
    refine sg_if_ne 21 f_148_16 rfl (fun c16 => ?_) (fun c16 => ?_)
    · refine sg_iload_n f_148_21 rfl ?_
      refine sg_if_ne 33 f_148_22 rfl (fun c22 => ?_) (fun c22 => ?_)
      · exact absurd rfl c22
      · refine sg_aload_n f_148_25 rfl ?_
        refine sg_iload_n f_148_26 rfl ?_
        refine sg_callv_i f_148_27 my_148_136 mr_136 rfl (Nat.le_of_ble_eq_true rfl) (Nat.le_of_ble_eq_true rfl) sh_m_0 (by decide) rfl (sm_136 hT ha) ?_
        refine sg_goto 51 f_148_30 rfl ?_
        exact (sg_iret f_148_51 rk_148)
    · exact absurd c16 (by decide)
theorem sm_148_1 {μ : sg_S} {a : Nat} (hT : tm_Tab μ) (ha : a < 6) : sg_D tm_H 148 0 [.ref 0, .int (nI a), .int (nI 1)] [] μ (some (.int (sx_fu (sm_h μ a) t_fw 17 0))) μ := by
  refine sg_iload_n f_148_0 rfl ?_
  refine sg_calls_i f_148_1 my_148_101 mr_101 (by decide) rfl (Nat.le_of_ble_eq_true rfl) (Nat.le_of_ble_eq_true rfl) rfl (sm_101_1 ha) ?_
  refine sg_if_eq 19 f_148_4 rfl (fun c4 => ?_) (fun c4 => ?_)
  · exact absurd c4 (by decide)
  · refine sg_iload_n f_148_7 rfl ?_
    refine sg_i2l _ f_148_8 rfl ?_
    refine sg_lconst 0 f_148_9 rfl ?_
    refine sg_ldc2_w (2) f_148_10 rfl ?_
    refine sg_calls_i f_148_13 my_148_99 mr_99 (by decide) rfl (Nat.le_of_ble_eq_true rfl) (Nat.le_of_ble_eq_true rfl) rfl (sm_99_1 (sm_n_in (m := 2) rfl rfl (by omega) (by omega))) ?_
    refine sg_if_ne 21 f_148_16 rfl (fun c16 => ?_) (fun c16 => ?_)
    · refine sg_iload_n f_148_21 rfl ?_
      refine sg_if_ne 33 f_148_22 rfl (fun c22 => ?_) (fun c22 => ?_)
      · refine sg_iload_n f_148_33 rfl ?_
        refine sg_iconst (nI 1) f_148_34 ki_1 ?_
        refine sg_icmp_ne 46 f_148_35 rfl (fun c35 => ?_) (fun c35 => ?_)
        · exact absurd rfl c35
        · refine sg_aload_n f_148_38 rfl ?_
          refine sg_iload_n f_148_39 rfl ?_
          refine sg_callv_i f_148_40 my_148_146 mr_146 rfl (Nat.le_of_ble_eq_true rfl) (Nat.le_of_ble_eq_true rfl) sh_m_0 (by decide) rfl (sm_146 hT ha) ?_
          refine sg_goto 51 f_148_43 rfl ?_
          exact (sg_iret f_148_51 rk_148)
      · exact absurd c22 (by decide)
    · exact absurd c16 (by decide)
theorem sm_148_2 {μ : sg_S} {a : Nat} (hT : tm_Tab μ) (ha : a < 6) : ∃ μ' : sg_S, sm_fr μ μ' ∧ sg_D tm_H 148 0 [.ref 0, .int (nI a), .int (nI 2)] [] μ (some (.int (t_fb (sm_h μ a) 289 0 0))) μ' := by
  obtain ⟨μ', h, k⟩ := sm_147 hT ha
  refine ⟨μ', h, ?_⟩
  refine sg_iload_n f_148_0 rfl ?_
  refine sg_calls_i f_148_1 my_148_101 mr_101 (by decide) rfl (Nat.le_of_ble_eq_true rfl) (Nat.le_of_ble_eq_true rfl) rfl (sm_101_1 ha) ?_
  refine sg_if_eq 19 f_148_4 rfl (fun c4 => ?_) (fun c4 => ?_)
  · exact absurd c4 (by decide)
  · refine sg_iload_n f_148_7 rfl ?_
    refine sg_i2l _ f_148_8 rfl ?_
    refine sg_lconst 0 f_148_9 rfl ?_
    refine sg_ldc2_w (2) f_148_10 rfl ?_
    refine sg_calls_i f_148_13 my_148_99 mr_99 (by decide) rfl (Nat.le_of_ble_eq_true rfl) (Nat.le_of_ble_eq_true rfl) rfl (sm_99_1 (sm_n_in (m := 2) rfl rfl (by omega) (by omega))) ?_
    refine sg_if_ne 21 f_148_16 rfl (fun c16 => ?_) (fun c16 => ?_)
    · refine sg_iload_n f_148_21 rfl ?_
      refine sg_if_ne 33 f_148_22 rfl (fun c22 => ?_) (fun c22 => ?_)
      · refine sg_iload_n f_148_33 rfl ?_
        refine sg_iconst (nI 1) f_148_34 ki_1 ?_
        refine sg_icmp_ne 46 f_148_35 rfl (fun c35 => ?_) (fun c35 => ?_)
        · refine sg_aload_n f_148_46 rfl ?_
          refine sg_iload_n f_148_47 rfl ?_
          refine sg_callv_i f_148_48 my_148_147 mr_147 rfl (Nat.le_of_ble_eq_true rfl) (Nat.le_of_ble_eq_true rfl) sh_m_0 (by decide) rfl k ?_
          exact (sg_iret f_148_51 rk_148)
        · exact absurd c35 (by decide)
      · exact absurd c22 (by decide)
    · exact absurd c16 (by decide)
