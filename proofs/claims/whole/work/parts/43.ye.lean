/-! the model: products, inverses, stretched -/
theorem sm_131_l {μ : sg_S} {p c : Nat} (hT : tm_Tab μ) (hp : p < 6) (hc : c < 115) : ∀ n i : Nat, i + n = t_pr c → ∀ acc : Int64, sg_D tm_H 131 5 [.ref 0, .int (nI p), .int (nI c), .long acc, ab_u, .int (nI i)] [] μ (some (.long (t_of (sm_h μ p) c n i acc))) μ := by
  have hl := tb_lf1 c hc
  intro n
  induction n with
  | zero =>
    intro i hi acc
    rw [t_of]
    refine sg_iload f_131_5 rfl ?_
    refine sg_aload_n f_131_7 rfl ?_
    refine sg_getf_r f_131_8 fd_m_0_778 ?_
    refine sg_iload_n f_131_11 rfl ?_
    refine sg_iaload_k c ok_m f_131_12 sh_m_10 rfl (by omega) (hT.2.2.2.1 c hc).2 ?_
    first | refine sg_ncmp_ge 46 (by omega) (by omega) f_131_13 rfl (fun c13 => ?_) (fun c13 => ?_) | refine sg_icmp_ge 46 f_131_13 rfl (fun c13 => ?_) (fun c13 => ?_)
    · refine sg_lload_n f_131_46 rfl ?_
      exact (sg_lret f_131_47 rk_131)
    · omega
  | succ n ih =>
    intro i hi acc
    have hf := tb_fo1 (c * 4 + i) (by omega)
    rw [t_of]
    refine sg_iload f_131_5 rfl ?_
    refine sg_aload_n f_131_7 rfl ?_
    refine sg_getf_r f_131_8 fd_m_0_778 ?_
    refine sg_iload_n f_131_11 rfl ?_
    refine sg_iaload_k c ok_m f_131_12 sh_m_10 rfl (by omega) (hT.2.2.2.1 c hc).2 ?_
    first | refine sg_ncmp_ge 46 (by omega) (by omega) f_131_13 rfl (fun c13 => ?_) (fun c13 => ?_) | refine sg_icmp_ge 46 f_131_13 rfl (fun c13 => ?_) (fun c13 => ?_)
    · omega
    · refine sg_lload_n f_131_16 rfl ?_
      refine sg_aload_n f_131_17 rfl ?_
      refine sg_getf_r f_131_18 fd_m_0_782 ?_
      refine sg_bipush (nI 17) f_131_21 kb_17 ?_
      refine sg_iload_n f_131_23 rfl ?_
      first | refine sg_imul _ f_131_24 (pk_mul _ _) ?_ | refine sg_imul _ f_131_24 rfl ?_
      refine sg_aload_n f_131_25 rfl ?_
      refine sg_getf_r f_131_26 fd_m_0_777 ?_
      refine sg_iconst (nI 4) f_131_29 ki_4 ?_
      refine sg_iload_n f_131_30 rfl ?_
      refine sg_imul (nI (c * 4)) f_131_31 (by rw [pk_mul, Nat.mul_comm]) ?_
      refine sg_iload f_131_32 rfl ?_
      first | refine sg_iadd _ f_131_34 (nI_add _ _) ?_ | refine sg_iadd _ f_131_34 rfl ?_
      refine sg_iaload_k (c * 4 + i) ok_m f_131_35 sh_m_9 rfl (by omega) (hT.2.2.2.2 (c * 4 + i) (by omega)) ?_
      first | refine sg_iadd _ f_131_36 (nI_add _ _) ?_ | refine sg_iadd _ f_131_36 rfl ?_
      refine sg_laload_k (17 * p + t_fo (c * 4 + i)) ok_m f_131_37 sh_m_13 rfl (by omega) (show _ = sm_h μ p (t_fo (c * 4 + i)) from rfl) ?_
      refine sg_lmul _ f_131_38 rfl ?_
      refine sg_lstore_n [_, _, _, _, _, _] f_131_39 rfl ?_
      first | refine sg_iinc _ [_, _, _, _, _, _] f_131_40 rfl (sg_inc1 _) rfl ?_ | refine sg_iinc _ [_, _, _, _, _, _] f_131_40 rfl rfl rfl ?_
      refine sg_goto 5 f_131_43 rfl ?_
      exact ih (i + 1) (by omega) _
theorem sm_131 {μ : sg_S} {p c : Nat} (hT : tm_Tab μ) (hp : p < 6) (hc : c < 115) : sg_D tm_H 131 0 [.ref 0, .int (nI p), .int (nI c), ab_u, ab_u, ab_u] [] μ (some (.long (t_of (sm_h μ p) c (t_pr c) 0 1))) μ := by
  refine sg_lconst 1 f_131_0 rfl ?_
  refine sg_lstore_n [_, _, _, _, _, _] f_131_1 rfl ?_
  refine sg_iconst (nI 0) f_131_2 ki_0 ?_
  refine sg_istore [_, _, _, _, _, _] f_131_3 rfl ?_
  exact sm_131_l hT hp hc (t_pr c) 0 (by omega) 1
theorem sm_132_k {μ μ' : sg_S} {rr : Option Value} {p q t : Nat} (hT : tm_Tab μ) (hp : p < 6) (hq : q < 6) (ht : t < 17) : ∀ n k : Nat, k + n = t_mn t → ∀ acc : Int64, sg_D tm_H 132 78 [.ref 0, .int (nI p), .int (nI q), .int (nI t), .long (t_tg (sm_h μ p) (sm_h μ q) (t_st t) n k acc), ab_u, .int (nI (t_st t + t_mn t))] [] μ rr μ' → sg_D tm_H 132 29 [.ref 0, .int (nI p), .int (nI q), .int (nI t), .long acc, ab_u, .int (nI (t_st t + k))] [] μ rr μ' := by
  have hs := tb_st1 t ht
  intro n
  induction n with
  | zero =>
    intro k hk acc kk
    obtain rfl : k = t_mn t := by omega
    rw [t_tg] at kk
    refine sg_iload f_132_29 rfl ?_
    refine sg_aload_n f_132_31 rfl ?_
    refine sg_getf_r f_132_32 fd_m_0_775 ?_
    refine sg_iload_n f_132_35 rfl ?_
    refine sg_iconst (nI 1) f_132_36 ki_1 ?_
    first | refine sg_iadd _ f_132_37 (nI_add _ _) ?_ | refine sg_iadd _ f_132_37 rfl ?_
    refine sg_iaload_k (t + 1) ok_m f_132_38 sh_m_7 rfl (by omega) (hT.2.2.1 (t + 1) (by omega)) ?_
    refine sg_ncmp_ge 78 (by omega) (by omega) f_132_39 rfl (fun c39 => ?_) (fun c39 => ?_)
    · exact kk
    · omega
  | succ n ih =>
    intro k hk acc kk
    have hl := tb_lf1 (t_st t + k) (by omega)
    rw [t_tg] at kk
    refine sg_iload f_132_29 rfl ?_
    refine sg_aload_n f_132_31 rfl ?_
    refine sg_getf_r f_132_32 fd_m_0_775 ?_
    refine sg_iload_n f_132_35 rfl ?_
    refine sg_iconst (nI 1) f_132_36 ki_1 ?_
    first | refine sg_iadd _ f_132_37 (nI_add _ _) ?_ | refine sg_iadd _ f_132_37 rfl ?_
    refine sg_iaload_k (t + 1) ok_m f_132_38 sh_m_7 rfl (by omega) (hT.2.2.1 (t + 1) (by omega)) ?_
    refine sg_ncmp_ge 78 (by omega) (by omega) f_132_39 rfl (fun c39 => ?_) (fun c39 => ?_)
    · omega
    · refine sg_lload f_132_42 rfl ?_
      refine sg_aload_n f_132_44 rfl ?_
      refine sg_iload_n f_132_45 rfl ?_
      refine sg_iload f_132_46 rfl ?_
      refine sg_callv_l f_132_48 my_132_131 mr_131 rfl (Nat.le_of_ble_eq_true rfl) (Nat.le_of_ble_eq_true rfl) sh_m_0 (by decide) rfl (sm_131 hT hp (by omega)) ?_
      refine sg_aload_n f_132_51 rfl ?_
      refine sg_getf_r f_132_52 fd_m_0_782 ?_
      refine sg_bipush (nI 17) f_132_55 kb_17 ?_
      refine sg_iload_n f_132_57 rfl ?_
      first | refine sg_imul _ f_132_58 (pk_mul _ _) ?_ | refine sg_imul _ f_132_58 rfl ?_
      refine sg_aload_n f_132_59 rfl ?_
      refine sg_getf_r f_132_60 fd_m_0_776 ?_
      refine sg_iload f_132_63 rfl ?_
      refine sg_iaload_k (t_st t + k) ok_m f_132_65 sh_m_8 rfl (by omega) (hT.2.2.2.1 (t_st t + k) (by omega)).1 ?_
      first | refine sg_iadd _ f_132_66 (nI_add _ _) ?_ | refine sg_iadd _ f_132_66 rfl ?_
      refine sg_laload_k (17 * q + t_lf (t_st t + k)) ok_m f_132_67 sh_m_13 rfl (by omega) (show _ = sm_h μ q (t_lf (t_st t + k)) from rfl) ?_
      refine sg_lmul _ f_132_68 rfl ?_
      refine sg_ladd _ f_132_69 rfl ?_
      refine sg_lstore [_, _, _, _, _, _, _] f_132_70 rfl ?_
      first | refine sg_iinc _ [_, _, _, _, _, _, _] f_132_72 rfl (sg_inc1 _) rfl ?_ | refine sg_iinc _ [_, _, _, _, _, _, _] f_132_72 rfl rfl rfl ?_
      refine sg_goto 29 f_132_75 rfl ?_
      exact ih (k + 1) (by omega) _ kk
theorem tm_Tab_r2 {μ : sg_S} {b : Nat} {f : Nat → Int64} (h : tm_Tab μ) : tm_Tab (sg_r2 μ b f) := h
theorem sm_132_l {μ : sg_S} {p q : Nat} (hT : tm_Tab μ) (hp : p < 6) (hq : q < 6) : ∀ n t : Nat, t + n = 17 → ∀ l4 l5 l6 : Value, sg_D tm_H 132 2 [.ref 0, .int (nI p), .int (nI q), .int (nI t), l4, l5, l6] [] (sg_r2 μ 25 (sx_mul (sm_h μ p) (sm_h μ q) (μ.2 25) t)) none (sg_r2 μ 25 (sx_mul (sm_h μ p) (sm_h μ q) (μ.2 25) 17)) := by
  intro n
  induction n with
  | zero =>
    intro t ht l4 l5 l6
    obtain rfl : t = 17 := by omega
    refine sg_iload_n f_132_2 rfl ?_
    refine sg_bipush (nI 17) f_132_3 kb_17 ?_
    first | refine sg_ncmp_ge 92 (by omega) (by omega) f_132_5 rfl (fun c5 => ?_) (fun c5 => ?_) | refine sg_icmp_ge 92 f_132_5 rfl (fun c5 => ?_) (fun c5 => ?_)
    · exact (sg_vret f_132_92 rk_132)
    · omega
  | succ n ih =>
    intro t ht l4 l5 l6
    have ht17 : t < 17 := by omega
    have hs := tb_st1 t ht17
    have k78 : sg_D tm_H 132 78 [.ref 0, .int (nI p), .int (nI q), .int (nI t), .long (t_tg (sm_h μ p) (sm_h μ q) (t_st t) (t_mn t) 0 (sm_h μ p t)), ab_u, .int (nI (t_st t + t_mn t))] [] (sg_r2 μ 25 (sx_mul (sm_h μ p) (sm_h μ q) (μ.2 25) t)) none (sg_r2 μ 25 (sx_mul (sm_h μ p) (sm_h μ q) (μ.2 25) 17)) := by
      refine sg_aload_n f_132_78 rfl ?_
      refine sg_getf_r f_132_79 fd_m_0_802 ?_
      refine sg_iload_n f_132_82 rfl ?_
      refine sg_lload f_132_83 rfl ?_
      refine sg_lastore _ ok_m f_132_85 sh_m_25 rfl (by omega) ?_
      first | refine sg_iinc _ [_, _, _, _, _, _, _] f_132_86 rfl (sg_inc1 _) rfl ?_ | refine sg_iinc _ [_, _, _, _, _, _, _] f_132_86 rfl rfl rfl ?_
      refine sg_goto 2 f_132_89 rfl ?_
      refine sg_from ?_ (ih (t + 1) (by omega) _ _ _)
      rw [sg_r2_r2, sg_r2_eq]
      unfold sx_mul
      rw [sx_upd_lt rfl]
    refine sg_iload_n f_132_2 rfl ?_
    refine sg_bipush (nI 17) f_132_3 kb_17 ?_
    first | refine sg_ncmp_ge 92 (by omega) (by omega) f_132_5 rfl (fun c5 => ?_) (fun c5 => ?_) | refine sg_icmp_ge 92 f_132_5 rfl (fun c5 => ?_) (fun c5 => ?_)
    · omega
    · refine sg_aload_n f_132_8 rfl ?_
      refine sg_getf_r f_132_9 fd_m_0_782 ?_
      refine sg_bipush (nI 17) f_132_12 kb_17 ?_
      refine sg_iload_n f_132_14 rfl ?_
      first | refine sg_imul _ f_132_15 (pk_mul _ _) ?_ | refine sg_imul _ f_132_15 rfl ?_
      refine sg_iload_n f_132_16 rfl ?_
      first | refine sg_iadd _ f_132_17 (nI_add _ _) ?_ | refine sg_iadd _ f_132_17 rfl ?_
      refine sg_laload_k (17 * p + t) ok_m f_132_18 sh_m_13 rfl (by omega) (show _ = sm_h μ p t from rfl) ?_
      refine sg_lstore [_, _, _, _, _, _, _] f_132_19 rfl ?_
      refine sg_aload_n f_132_21 rfl ?_
      refine sg_getf_r f_132_22 fd_m_0_775 ?_
      refine sg_iload_n f_132_25 rfl ?_
      refine sg_iaload_k t ok_m f_132_26 sh_m_7 rfl (by omega) ((hT.2.2.1 t (by omega)).trans (show _ = nI (t_st t + 0) by rw [hs.2.2.2.1]; rfl)) ?_
      refine sg_istore [_, _, _, _, _, _, _] f_132_27 rfl ?_
      exact sm_132_k (tm_Tab_r2 hT) hp hq ht17 (t_mn t) 0 (by omega) _ k78
theorem sm_132 {μ : sg_S} {p q : Nat} (hT : tm_Tab μ) (hp : p < 6) (hq : q < 6) : sg_D tm_H 132 0 [.ref 0, .int (nI p), .int (nI q), ab_u, ab_u, ab_u, ab_u] [] μ none (sg_r2 μ 25 (sx_mul (sm_h μ p) (sm_h μ q) (μ.2 25) 17)) := by
  refine sg_iconst (nI 0) f_132_0 ki_0 ?_
  refine sg_istore_n [_, _, _, _, _, _, _] f_132_1 rfl ?_
  refine sg_from ?_ (sm_132_l hT hp hq 17 0 rfl _ _ _)
  exact (sg_r2_self (by funext k; simp [sx_mul])).symm
/-! the inverse -/
theorem sm_133_z {μ μ' : sg_S} {rr : Option Value} {p t : Nat} {acc : Int64} (hT : tm_Tab μ) (ht : t < 17) (kk : sg_D tm_H 133 84 [.ref 0, .int (nI p), .int (nI t), .long acc, ab_u, .int (nI (t_st t + t_mn t))] [] μ rr μ') : sg_D tm_H 133 28 [.ref 0, .int (nI p), .int (nI t), .long acc, ab_u, .int (nI (t_st t + (t_mn t - 1)))] [] μ rr μ' := by
  have hs := tb_st1 t ht
  have hc := tb_cut2 t ht
  have e : acc + 0 = acc := Int64.add_zero acc
  have k28 : sg_D tm_H 133 28 [.ref 0, .int (nI p), .int (nI t), .long acc, ab_u, .int (nI (t_st t + t_mn t))] [] μ rr μ' := by
    refine sg_iload f_133_28 rfl ?_
    refine sg_aload_n f_133_30 rfl ?_
    refine sg_getf_r f_133_31 fd_m_0_775 ?_
    refine sg_iload_n f_133_34 rfl ?_
    refine sg_iconst (nI 1) f_133_35 ki_1 ?_
    first | refine sg_iadd _ f_133_36 (nI_add _ _) ?_ | refine sg_iadd _ f_133_36 rfl ?_
    refine sg_iaload_k (t + 1) ok_m f_133_37 sh_m_7 rfl (by omega) (hT.2.2.1 (t + 1) (by omega)) ?_
    refine sg_ncmp_ge 84 (by omega) (by omega) f_133_38 rfl (fun c38 => ?_) (fun c38 => ?_)
    · exact kk
    · omega
  rw [show t_st t + t_mn t = t_st t + (t_mn t - 1) + 1 by omega] at k28
  refine sg_iload f_133_28 rfl ?_
  refine sg_aload_n f_133_30 rfl ?_
  refine sg_getf_r f_133_31 fd_m_0_775 ?_
  refine sg_iload_n f_133_34 rfl ?_
  refine sg_iconst (nI 1) f_133_35 ki_1 ?_
  first | refine sg_iadd _ f_133_36 (nI_add _ _) ?_ | refine sg_iadd _ f_133_36 rfl ?_
  refine sg_iaload_k (t + 1) ok_m f_133_37 sh_m_7 rfl (by omega) (hT.2.2.1 (t + 1) (by omega)) ?_
  refine sg_ncmp_ge 84 (by omega) (by omega) f_133_38 rfl (fun c38 => ?_) (fun c38 => ?_)
  · omega
  · refine sg_lload_n f_133_41 rfl ?_
    refine sg_aload_n f_133_42 rfl ?_
    refine sg_getf_r f_133_43 fd_m_0_778 ?_
    refine sg_iload f_133_46 rfl ?_
    refine sg_iaload_k (t_st t + (t_mn t - 1)) ok_m f_133_48 sh_m_10 rfl (by omega) ((hT.2.2.2.1 (t_st t + (t_mn t - 1)) (by omega)).2.trans (by rw [hc.2])) ?_
    refine sg_if_ne 56 f_133_49 rfl (fun c49 => ?_) (fun c49 => ?_)
    · exact absurd nI_0 c49
    · refine sg_lconst 0 f_133_52 rfl ?_
      refine sg_goto 76 f_133_53 rfl ?_
      refine sg_ladd _ f_133_76 rfl ?_
      rw [show acc + (0 : Int64) = acc from e]
      refine sg_lstore_n [_, _, _, _, _, _] f_133_77 rfl ?_
      first | refine sg_iinc _ [_, _, _, _, _, _] f_133_78 rfl (sg_inc1 _) rfl ?_ | refine sg_iinc _ [_, _, _, _, _, _] f_133_78 rfl rfl rfl ?_
      refine sg_goto 28 f_133_81 rfl ?_
      exact k28
theorem sm_133_k {μ μ' : sg_S} {rr : Option Value} {p t : Nat} (hT : tm_Tab μ) (hp : p < 6) (ht : t < 17) : ∀ n k : Nat, k + n = t_mn t - 1 → ∀ acc : Int64, sg_D tm_H 133 84 [.ref 0, .int (nI p), .int (nI t), .long (t_tg (sm_h μ p) (μ.2 25) (t_st t) n k acc), ab_u, .int (nI (t_st t + t_mn t))] [] μ rr μ' → sg_D tm_H 133 28 [.ref 0, .int (nI p), .int (nI t), .long acc, ab_u, .int (nI (t_st t + k))] [] μ rr μ' := by
  have hs := tb_st1 t ht
  intro n
  induction n with
  | zero =>
    intro k hk acc kk
    obtain rfl : k = t_mn t - 1 := by omega
    rw [t_tg] at kk
    exact sm_133_z hT ht kk
  | succ n ih =>
    intro k hk acc kk
    have hl := tb_lf1 (t_st t + k) (by omega)
    have hc := tb_cut1 t ht k (by omega)
    rw [t_tg] at kk
    refine sg_iload f_133_28 rfl ?_
    refine sg_aload_n f_133_30 rfl ?_
    refine sg_getf_r f_133_31 fd_m_0_775 ?_
    refine sg_iload_n f_133_34 rfl ?_
    refine sg_iconst (nI 1) f_133_35 ki_1 ?_
    first | refine sg_iadd _ f_133_36 (nI_add _ _) ?_ | refine sg_iadd _ f_133_36 rfl ?_
    refine sg_iaload_k (t + 1) ok_m f_133_37 sh_m_7 rfl (by omega) (hT.2.2.1 (t + 1) (by omega)) ?_
    refine sg_ncmp_ge 84 (by omega) (by omega) f_133_38 rfl (fun c38 => ?_) (fun c38 => ?_)
    · omega
    · refine sg_lload_n f_133_41 rfl ?_
      refine sg_aload_n f_133_42 rfl ?_
      refine sg_getf_r f_133_43 fd_m_0_778 ?_
      refine sg_iload f_133_46 rfl ?_
      refine sg_iaload_k (t_st t + k) ok_m f_133_48 sh_m_10 rfl (by omega) (hT.2.2.2.1 (t_st t + k) (by omega)).2 ?_
      refine sg_if_ne 56 f_133_49 rfl (fun c49 => ?_) (fun c49 => ?_)
      · refine sg_aload_n f_133_56 rfl ?_
        refine sg_iload_n f_133_57 rfl ?_
        refine sg_iload f_133_58 rfl ?_
        refine sg_callv_l f_133_60 my_133_131 mr_131 rfl (Nat.le_of_ble_eq_true rfl) (Nat.le_of_ble_eq_true rfl) sh_m_0 (by decide) rfl (sm_131 hT hp (by omega)) ?_
        refine sg_aload_n f_133_63 rfl ?_
        refine sg_getf_r f_133_64 fd_m_0_802 ?_
        refine sg_aload_n f_133_67 rfl ?_
        refine sg_getf_r f_133_68 fd_m_0_776 ?_
        refine sg_iload f_133_71 rfl ?_
        refine sg_iaload_k (t_st t + k) ok_m f_133_73 sh_m_8 rfl (by omega) (hT.2.2.2.1 (t_st t + k) (by omega)).1 ?_
        refine sg_laload (t_lf (t_st t + k)) ok_m f_133_74 sh_m_25 rfl (by omega) ?_
        refine sg_lmul _ f_133_75 rfl ?_
        refine sg_ladd _ f_133_76 rfl ?_
        refine sg_lstore_n [_, _, _, _, _, _] f_133_77 rfl ?_
        first | refine sg_iinc _ [_, _, _, _, _, _] f_133_78 rfl (sg_inc1 _) rfl ?_ | refine sg_iinc _ [_, _, _, _, _, _] f_133_78 rfl rfl rfl ?_
        refine sg_goto 28 f_133_81 rfl ?_
        exact ih (k + 1) (by omega) _ kk
      · exact absurd c49 (nI_ne0 (by omega) (by omega))
theorem sm_133_l {μ : sg_S} {p : Nat} (hT : tm_Tab μ) (hp : p < 6) : ∀ n t : Nat, t + n = 17 → ∀ l4 l5 l6 : Value, sg_D tm_H 133 2 [.ref 0, .int (nI p), .int (nI t), l4, l5, l6] [] (sg_r2 μ 25 (t_iv (sm_h μ p) (μ.2 25) t)) none (sg_r2 μ 25 (t_iv (sm_h μ p) (μ.2 25) 17)) := by
  intro n
  induction n with
  | zero =>
    intro t ht l4 l5 l6
    obtain rfl : t = 17 := by omega
    refine sg_iload_n f_133_2 rfl ?_
    refine sg_bipush (nI 17) f_133_3 kb_17 ?_
    first | refine sg_ncmp_ge 98 (by omega) (by omega) f_133_5 rfl (fun c5 => ?_) (fun c5 => ?_) | refine sg_icmp_ge 98 f_133_5 rfl (fun c5 => ?_) (fun c5 => ?_)
    · exact (sg_vret f_133_98 rk_133)
    · omega
  | succ n ih =>
    intro t ht l4 l5 l6
    have ht17 : t < 17 := by omega
    have hs := tb_st1 t ht17
    have k84 : sg_D tm_H 133 84 [.ref 0, .int (nI p), .int (nI t), .long (t_tg (sm_h μ p) (t_iv (sm_h μ p) (μ.2 25) t) (t_st t) (t_mn t - 1) 0 (sm_h μ p t)), ab_u, .int (nI (t_st t + t_mn t))] [] (sg_r2 μ 25 (t_iv (sm_h μ p) (μ.2 25) t)) none (sg_r2 μ 25 (t_iv (sm_h μ p) (μ.2 25) 17)) := by
      refine sg_aload_n f_133_84 rfl ?_
      refine sg_getf_r f_133_85 fd_m_0_802 ?_
      refine sg_iload_n f_133_88 rfl ?_
      refine sg_lload_n f_133_89 rfl ?_
      refine sg_lneg _ f_133_90 rfl ?_
      refine sg_lastore _ ok_m f_133_91 sh_m_25 rfl (by omega) ?_
      first | refine sg_iinc _ [_, _, _, _, _, _] f_133_92 rfl (sg_inc1 _) rfl ?_ | refine sg_iinc _ [_, _, _, _, _, _] f_133_92 rfl rfl rfl ?_
      refine sg_goto 2 f_133_95 rfl ?_
      refine sg_from ?_ (ih (t + 1) (by omega) _ _ _)
      rw [sg_r2_r2, sg_r2_eq]
      rfl
    have k28 := sm_133_k (μ := sg_r2 μ 25 (t_iv (sm_h μ p) (μ.2 25) t)) (rr := none) (μ' := sg_r2 μ 25 (t_iv (sm_h μ p) (μ.2 25) 17)) (tm_Tab_r2 hT) hp ht17 (t_mn t - 1) 0 (by omega) (sm_h μ p t)
    rw [sg_r2_eq] at k28
    refine sg_iload_n f_133_2 rfl ?_
    refine sg_bipush (nI 17) f_133_3 kb_17 ?_
    first | refine sg_ncmp_ge 98 (by omega) (by omega) f_133_5 rfl (fun c5 => ?_) (fun c5 => ?_) | refine sg_icmp_ge 98 f_133_5 rfl (fun c5 => ?_) (fun c5 => ?_)
    · omega
    · refine sg_aload_n f_133_8 rfl ?_
      refine sg_getf_r f_133_9 fd_m_0_782 ?_
      refine sg_bipush (nI 17) f_133_12 kb_17 ?_
      refine sg_iload_n f_133_14 rfl ?_
      first | refine sg_imul _ f_133_15 (pk_mul _ _) ?_ | refine sg_imul _ f_133_15 rfl ?_
      refine sg_iload_n f_133_16 rfl ?_
      first | refine sg_iadd _ f_133_17 (nI_add _ _) ?_ | refine sg_iadd _ f_133_17 rfl ?_
      refine sg_laload_k (17 * p + t) ok_m f_133_18 sh_m_13 rfl (by omega) (show _ = sm_h μ p t from rfl) ?_
      refine sg_lstore_n [_, _, _, _, _, _] f_133_19 rfl ?_
      refine sg_aload_n f_133_20 rfl ?_
      refine sg_getf_r f_133_21 fd_m_0_775 ?_
      refine sg_iload_n f_133_24 rfl ?_
      refine sg_iaload_k t ok_m f_133_25 sh_m_7 rfl (by omega) ((hT.2.2.1 t (by omega)).trans (show _ = nI (t_st t + 0) by rw [hs.2.2.2.1]; rfl)) ?_
      refine sg_istore [_, _, _, _, _, _] f_133_26 rfl ?_
      exact k28 k84
theorem sm_133 {μ : sg_S} {p : Nat} (hT : tm_Tab μ) (hp : p < 6) : sg_D tm_H 133 0 [.ref 0, .int (nI p), ab_u, ab_u, ab_u, ab_u] [] μ none (sg_r2 μ 25 (t_iv (sm_h μ p) (μ.2 25) 17)) := by
  refine sg_iconst (nI 0) f_133_0 ki_0 ?_
  refine sg_istore_n [_, _, _, _, _, _] f_133_1 rfl ?_
  refine sg_from ?_ (sm_133_l hT hp 17 0 rfl _ _ _)
  exact (sg_r2_self rfl).symm
theorem sm_134_l {μ : sg_S} {h : Int64} (hT : tm_Tab μ) : ∀ n t : Nat, t + n = 17 → sg_D tm_H 134 2 [.ref 0, .long h, ab_u, .int (nI t)] [] (sg_r2 μ 25 (sx_str (μ.2 25) h (μ.2 25) t)) none (sg_r2 μ 25 (sx_str (μ.2 25) h (μ.2 25) 17)) := by
  intro n
  induction n with
  | zero =>
    intro t ht
    obtain rfl : t = 17 := by omega
    refine sg_iload_n f_134_2 rfl ?_
    refine sg_bipush (nI 17) f_134_3 kb_17 ?_
    first | refine sg_ncmp_ge 33 (by omega) (by omega) f_134_5 rfl (fun c5 => ?_) (fun c5 => ?_) | refine sg_icmp_ge 33 f_134_5 rfl (fun c5 => ?_) (fun c5 => ?_)
    · exact (sg_vret f_134_33 rk_134)
    · omega
  | succ n ih =>
    intro t ht
    have ht17 : t < 17 := by omega
    have hn := tb_nd1 t ht17
    refine sg_iload_n f_134_2 rfl ?_
    refine sg_bipush (nI 17) f_134_3 kb_17 ?_
    first | refine sg_ncmp_ge 33 (by omega) (by omega) f_134_5 rfl (fun c5 => ?_) (fun c5 => ?_) | refine sg_icmp_ge 33 f_134_5 rfl (fun c5 => ?_) (fun c5 => ?_)
    · omega
    · refine sg_aload_n f_134_8 rfl ?_
      refine sg_getf_r f_134_9 fd_m_0_802 ?_
      refine sg_iload_n f_134_12 rfl ?_
      refine sg_dup2 f_134_13 ?_
      refine sg_laload_k t ok_m f_134_14 sh_m_25 rfl (by omega) (show _ = μ.2 25 t by rw [sg_r2_eq]; unfold sx_str; rw [if_neg (by omega)]) ?_
      refine sg_lload_n f_134_15 rfl ?_
      refine sg_aload_n f_134_16 rfl ?_
      refine sg_getf_r f_134_17 fd_m_0_770 ?_
      refine sg_iload_n f_134_20 rfl ?_
      refine sg_iaload_k t ok_m f_134_21 sh_m_3 rfl (by omega) (show _ = nI (t_nd t) from (hT.1 t ht17).2.1) ?_
      refine sg_calls_l f_134_22 my_134_128 mr_128 (by decide) rfl (Nat.le_of_ble_eq_true rfl) (Nat.le_of_ble_eq_true rfl) rfl (sm_128 (by omega)) ?_
      refine sg_lmul _ f_134_25 rfl ?_
      refine sg_lastore _ ok_m f_134_26 sh_m_25 rfl (by omega) ?_
      first | refine sg_iinc _ [_, _, _, _] f_134_27 rfl (sg_inc1 _) rfl ?_ | refine sg_iinc _ [_, _, _, _] f_134_27 rfl rfl rfl ?_
      refine sg_goto 2 f_134_30 rfl ?_
      refine sg_from ?_ (ih (t + 1) (by omega))
      rw [sg_r2_r2, sg_r2_eq]
      unfold sx_str
      rw [sx_upd_lt rfl]
theorem sm_134 {μ : sg_S} {h : Int64} (hT : tm_Tab μ) : sg_D tm_H 134 0 [.ref 0, .long h, ab_u, ab_u] [] μ none (sg_r2 μ 25 (sx_str (μ.2 25) h (μ.2 25) 17)) := by
  refine sg_iconst (nI 0) f_134_0 ki_0 ?_
  refine sg_istore_n [_, _, _, _] f_134_1 rfl ?_
  refine sg_from ?_ (sm_134_l hT 17 0 rfl)
  exact (sg_r2_self (by funext k; simp [sx_str])).symm
theorem sm_135 {μ : sg_S} {a : Nat} (ha : a < 6) : sg_D tm_H 135 0 [.ref 0, .int (nI a), ab_u] [] μ none (sg_r2 μ 25 (sg_c2 (μ.2 25) 0 17 (fun k => μ.2 13 (17 * a + k)))) := by
  have k31 : sg_D tm_H 135 31 [.ref 0, .int (nI a), .int (nI 17)] [] (sg_r2 μ 25 (sg_c2 (μ.2 25) 0 17 (fun k => μ.2 13 (17 * a + k)))) none (sg_r2 μ 25 (sg_c2 (μ.2 25) 0 17 (fun k => μ.2 13 (17 * a + k)))) := by
    exact (sg_vret f_135_31 rk_135)
  refine sg_iconst (nI 0) f_135_0 ki_0 ?_
  refine sg_istore_n [_, _, _] f_135_1 rfl ?_
  exact sm_135_a_0 ha k31
/-! what was made goes into a register -/
theorem sx_lk_congr {P P' Q Q' : Nat → Int64} : ∀ n t : Nat, (∀ k, t ≤ k → k < t + n → P k = P' k ∧ Q k = Q' k) → sx_lk P Q n t = sx_lk P' Q' n t
  | 0, _, _ => rfl
  | n + 1, t, h => by
    rw [sx_lk, sx_lk, (h t (Nat.le_refl _) (by omega)).1, (h t (Nat.le_refl _) (by omega)).2, sx_lk_congr n (t + 1) (fun k h1 h2 => h k (by omega) (by omega))]
theorem sm_137 {μ : sg_S} {z r : Nat} (hT : tm_Tab μ) (hz : μ.1 0 17 = nI z) (hz6 : z ≤ 6) (hr : r < 6) : ∃ μ1 : sg_S, sm_N μ μ1 z ∧ sg_D tm_H 137 0 [.ref 0, .int (nI r), ab_u] [] μ (some (.int (nI (sx_lk (μ.2 25) t_fw 17 0)))) (sg_r2 μ1 13 (sg_c2 (μ.2 13) (17 * r) 17 (μ.2 25))) := by
  obtain ⟨μ1, k1, h1⟩ := sm_123 hz hz6
  have hT1 : tm_Tab μ1 := tm_Tab_of hT (fun a h2 h3 => h1.1 a (by omega) (by omega))
  have k136 := sm_136 (μ := sg_r2 μ1 13 (sg_c2 (μ.2 13) (17 * r) 17 (μ.2 25))) (tm_Tab_r2 hT1) hr
  have e : sx_lk (sm_h (sg_r2 μ1 13 (sg_c2 (μ.2 13) (17 * r) 17 (μ.2 25))) r) t_fw 17 0 = sx_lk (μ.2 25) t_fw 17 0 := by
    refine sx_lk_congr 17 0 (fun k _ hk => ⟨?_, rfl⟩)
    unfold sm_h
    rw [sg_r2_eq]
    exact sg_c2_in (by omega)
  rw [e] at k136
  have k35 : sg_D tm_H 137 35 [.ref 0, .int (nI r), .int (nI 17)] [] (sg_r2 μ1 13 (sg_c2 (μ1.2 13) (17 * r) 17 (fun k => μ1.2 25 k))) (some (.int (nI (sx_lk (μ.2 25) t_fw 17 0)))) (sg_r2 μ1 13 (sg_c2 (μ.2 13) (17 * r) 17 (μ.2 25))) := by
    rw [h1.2.1 13 (by omega), h1.2.1 25 (by omega)]
    refine sg_aload_n f_137_35 rfl ?_
    refine sg_iload_n f_137_36 rfl ?_
    refine sg_callv_i f_137_37 my_137_136 mr_136 rfl (Nat.le_of_ble_eq_true rfl) (Nat.le_of_ble_eq_true rfl) sh_m_0 (by decide) rfl k136 ?_
    exact (sg_iret f_137_40 rk_137)
  refine ⟨μ1, h1, ?_⟩
  refine sg_aload_n f_137_0 rfl ?_
  refine sg_callv_v f_137_1 my_137_123 mr_123 rfl (Nat.le_of_ble_eq_true rfl) (Nat.le_of_ble_eq_true rfl) sh_m_0 (by decide) rfl k1 ?_
  refine sg_iconst (nI 0) f_137_4 ki_0 ?_
  refine sg_istore_n [_, _, _] f_137_5 rfl ?_
  exact sm_137_a_0 hr k35
/-! calls that make a register -/
theorem sm_140 {μ : sg_S} {z r p q : Nat} (hT : tm_Tab μ) (hz : μ.1 0 17 = nI z) (hz6 : z ≤ 6) (hr : r < 6) (hp : p < 6) (hq : q < 6) {g : Nat → Int64} (hg : g = sx_mul (sm_h μ p) (sm_h μ q) (μ.2 25) 17) : ∃ μ1 : sg_S, sm_N (sg_r2 μ 25 g) μ1 z ∧ sg_D tm_H 140 0 [.ref 0, .int (nI r), .int (nI p), .int (nI q)] [] μ (some (.int (nI (sx_lk g t_fw 17 0)))) (sg_r2 μ1 13 (sg_c2 (μ.2 13) (17 * r) 17 g)) := by
  have k1 := sm_132 hT hp hq
  rw [← hg] at k1
  obtain ⟨μ1, h1, k2⟩ := sm_137 (μ := sg_r2 μ 25 g) (tm_Tab_r2 hT) hz hz6 hr
  rw [sg_r2_eq, sg_r2_ne (by omega)] at k2
  refine ⟨μ1, h1, ?_⟩
  refine sg_iload_n f_140_0 rfl ?_
  refine sg_calls_i f_140_1 my_140_101 mr_101 (by decide) rfl (Nat.le_of_ble_eq_true rfl) (Nat.le_of_ble_eq_true rfl) rfl (sm_101_1 hr) ?_
  refine sg_if_eq 21 f_140_4 rfl (fun c4 => ?_) (fun c4 => ?_)
  · exact absurd c4 (by decide)
  · refine sg_iload_n f_140_7 rfl ?_
    refine sg_calls_i f_140_8 my_140_101 mr_101 (by decide) rfl (Nat.le_of_ble_eq_true rfl) (Nat.le_of_ble_eq_true rfl) rfl (sm_101_1 hp) ?_
    refine sg_if_eq 21 f_140_11 rfl (fun c11 => ?_) (fun c11 => ?_)
    · exact absurd c11 (by decide)
    · refine sg_iload_n f_140_14 rfl ?_
      refine sg_calls_i f_140_15 my_140_101 mr_101 (by decide) rfl (Nat.le_of_ble_eq_true rfl) (Nat.le_of_ble_eq_true rfl) rfl (sm_101_1 hq) ?_
      refine sg_if_ne 23 f_140_18 rfl (fun c18 => ?_) (fun c18 => ?_)
      · refine sg_aload_n f_140_23 rfl ?_
        refine sg_iload_n f_140_24 rfl ?_
        refine sg_iload_n f_140_25 rfl ?_
        refine sg_callv_v f_140_26 my_140_132 mr_132 rfl (Nat.le_of_ble_eq_true rfl) (Nat.le_of_ble_eq_true rfl) sh_m_0 (by decide) rfl k1 ?_
        refine sg_aload_n f_140_29 rfl ?_
        refine sg_iload_n f_140_30 rfl ?_
        refine sg_callv_i f_140_31 my_140_137 mr_137 rfl (Nat.le_of_ble_eq_true rfl) (Nat.le_of_ble_eq_true rfl) sh_m_0 (by decide) rfl k2 ?_
        exact (sg_iret f_140_34 rk_140)
      · exact absurd c18 (by decide)
theorem sm_141 {μ : sg_S} {z r p : Nat} (hT : tm_Tab μ) (hz : μ.1 0 17 = nI z) (hz6 : z ≤ 6) (hr : r < 6) (hp : p < 6) {g : Nat → Int64} (hg : g = t_iv (sm_h μ p) (μ.2 25) 17) : ∃ μ1 : sg_S, sm_N (sg_r2 μ 25 g) μ1 z ∧ sg_D tm_H 141 0 [.ref 0, .int (nI r), .int (nI p)] [] μ (some (.int (nI (sx_lk g t_fw 17 0)))) (sg_r2 μ1 13 (sg_c2 (μ.2 13) (17 * r) 17 g)) := by
  have k1 := sm_133 hT hp
  rw [← hg] at k1
  obtain ⟨μ1, h1, k2⟩ := sm_137 (μ := sg_r2 μ 25 g) (tm_Tab_r2 hT) hz hz6 hr
  rw [sg_r2_eq, sg_r2_ne (by omega)] at k2
  refine ⟨μ1, h1, ?_⟩
  refine sg_iload_n f_141_0 rfl ?_
  refine sg_calls_i f_141_1 my_141_101 mr_101 (by decide) rfl (Nat.le_of_ble_eq_true rfl) (Nat.le_of_ble_eq_true rfl) rfl (sm_101_1 hr) ?_
  refine sg_if_eq 14 f_141_4 rfl (fun c4 => ?_) (fun c4 => ?_)
  · exact absurd c4 (by decide)
  · refine sg_iload_n f_141_7 rfl ?_
    refine sg_calls_i f_141_8 my_141_101 mr_101 (by decide) rfl (Nat.le_of_ble_eq_true rfl) (Nat.le_of_ble_eq_true rfl) rfl (sm_101_1 hp) ?_
    refine sg_if_ne 16 f_141_11 rfl (fun c11 => ?_) (fun c11 => ?_)
    · refine sg_aload_n f_141_16 rfl ?_
      refine sg_iload_n f_141_17 rfl ?_
      refine sg_callv_v f_141_18 my_141_133 mr_133 rfl (Nat.le_of_ble_eq_true rfl) (Nat.le_of_ble_eq_true rfl) sh_m_0 (by decide) rfl k1 ?_
      refine sg_aload_n f_141_21 rfl ?_
      refine sg_iload_n f_141_22 rfl ?_
      refine sg_callv_i f_141_23 my_141_137 mr_137 rfl (Nat.le_of_ble_eq_true rfl) (Nat.le_of_ble_eq_true rfl) sh_m_0 (by decide) rfl k2 ?_
      exact (sg_iret f_141_26 rk_141)
    · exact absurd c11 (by decide)
theorem sm_142_bad2 {μ : sg_S} {r p : Nat} {h : Int32} (hr : r < 6) (hp : p < 6) (hh : h < -3 ∨ ¬ h ≤ nI 3) : sg_D tm_H 142 0 [.ref 0, .int (nI r), .int (nI p), .int h] [] μ (some (.int (-1))) μ := by
  have hh' : h.toInt < (-3 : Int64).toInt ∨ (3 : Int64).toInt < h.toInt := by
    rcases hh with hh | hh
    · exact Or.inl (Int32.lt_iff_toInt_lt.mp hh)
    · exact Or.inr (Int32.lt_iff_toInt_lt.mp (Int32.not_le.mp hh))
  refine sg_iload_n f_142_0 rfl ?_
  refine sg_calls_i f_142_1 my_142_101 mr_101 (by decide) rfl (Nat.le_of_ble_eq_true rfl) (Nat.le_of_ble_eq_true rfl) rfl (sm_101_1 hr) ?_
  refine sg_if_eq 28 f_142_4 rfl (fun c4 => ?_) (fun c4 => ?_)
  · exact absurd c4 (by decide)
  · refine sg_iload_n f_142_7 rfl ?_
    refine sg_calls_i f_142_8 my_142_101 mr_101 (by decide) rfl (Nat.le_of_ble_eq_true rfl) (Nat.le_of_ble_eq_true rfl) rfl (sm_101_1 hp) ?_
    refine sg_if_eq 28 f_142_11 rfl (fun c11 => ?_) (fun c11 => ?_)
    · exact absurd c11 (by decide)
    · refine sg_iload_n f_142_14 rfl ?_
      refine sg_i2l _ f_142_15 rfl ?_
      refine sg_ldc2_w (-3) f_142_16 rfl ?_
      refine sg_ldc2_w (3) f_142_19 rfl ?_
      refine sg_calls_i f_142_22 my_142_99 mr_99 (by decide) rfl (Nat.le_of_ble_eq_true rfl) (Nat.le_of_ble_eq_true rfl) rfl (sm_99_0 hh') ?_
      refine sg_if_ne 30 f_142_25 rfl (fun c25 => ?_) (fun c25 => ?_)
      · exact absurd rfl c25
      · refine sg_iconst (-1) f_142_28 ki_m1 ?_
        exact (sg_iret f_142_29 rk_142)
theorem sm_142 {μ : sg_S} {z r p : Nat} {h : Int32} (hT : tm_Tab μ) (hz : μ.1 0 17 = nI z) (hz6 : z ≤ 6) (hr : r < 6) (hp : p < 6) (hh1 : ¬ h < -3) (hh2 : h ≤ nI 3) {f g : Nat → Int64} (hf : f = sg_c2 (μ.2 25) 0 17 (fun k => μ.2 13 (17 * p + k))) (hg : g = sx_str f h.toInt64 f 17) : ∃ μ1 : sg_S, sm_N (sg_r2 μ 25 g) μ1 z ∧ sg_D tm_H 142 0 [.ref 0, .int (nI r), .int (nI p), .int h] [] μ (some (.int (nI (sx_lk g t_fw 17 0)))) (sg_r2 μ1 13 (sg_c2 (μ.2 13) (17 * r) 17 g)) := by
  have hh' : (-3 : Int64).toInt ≤ h.toInt ∧ h.toInt ≤ (3 : Int64).toInt := ⟨Int32.le_iff_toInt_le.mp (Int32.not_lt.mp hh1), Int32.le_iff_toInt_le.mp hh2⟩
  have k0 := sm_135 (μ := μ) hp
  rw [← hf] at k0
  have k1 := sm_134 (μ := sg_r2 μ 25 f) (h := h.toInt64) (tm_Tab_r2 hT)
  rw [sg_r2_eq, sg_r2_r2, ← hg] at k1
  obtain ⟨μ1, h1, k2⟩ := sm_137 (μ := sg_r2 μ 25 g) (tm_Tab_r2 hT) hz hz6 hr
  rw [sg_r2_eq, sg_r2_ne (by omega)] at k2
  refine ⟨μ1, h1, ?_⟩
  refine sg_iload_n f_142_0 rfl ?_
  refine sg_calls_i f_142_1 my_142_101 mr_101 (by decide) rfl (Nat.le_of_ble_eq_true rfl) (Nat.le_of_ble_eq_true rfl) rfl (sm_101_1 hr) ?_
  refine sg_if_eq 28 f_142_4 rfl (fun c4 => ?_) (fun c4 => ?_)
  · exact absurd c4 (by decide)
  · refine sg_iload_n f_142_7 rfl ?_
    refine sg_calls_i f_142_8 my_142_101 mr_101 (by decide) rfl (Nat.le_of_ble_eq_true rfl) (Nat.le_of_ble_eq_true rfl) rfl (sm_101_1 hp) ?_
    refine sg_if_eq 28 f_142_11 rfl (fun c11 => ?_) (fun c11 => ?_)
    · exact absurd c11 (by decide)
    · refine sg_iload_n f_142_14 rfl ?_
      refine sg_i2l _ f_142_15 rfl ?_
      refine sg_ldc2_w (-3) f_142_16 rfl ?_
      refine sg_ldc2_w (3) f_142_19 rfl ?_
      refine sg_calls_i f_142_22 my_142_99 mr_99 (by decide) rfl (Nat.le_of_ble_eq_true rfl) (Nat.le_of_ble_eq_true rfl) rfl (sm_99_1 hh') ?_
      refine sg_if_ne 30 f_142_25 rfl (fun c25 => ?_) (fun c25 => ?_)
      · refine sg_aload_n f_142_30 rfl ?_
        refine sg_iload_n f_142_31 rfl ?_
        refine sg_callv_v f_142_32 my_142_135 mr_135 rfl (Nat.le_of_ble_eq_true rfl) (Nat.le_of_ble_eq_true rfl) sh_m_0 (by decide) rfl k0 ?_
        refine sg_aload_n f_142_35 rfl ?_
        refine sg_iload_n f_142_36 rfl ?_
        refine sg_i2l _ f_142_37 rfl ?_
        refine sg_callv_v f_142_38 my_142_134 mr_134 rfl (Nat.le_of_ble_eq_true rfl) (Nat.le_of_ble_eq_true rfl) sh_m_0 (by decide) rfl k1 ?_
        refine sg_aload_n f_142_41 rfl ?_
        refine sg_iload_n f_142_42 rfl ?_
        refine sg_callv_i f_142_43 my_142_137 mr_137 rfl (Nat.le_of_ble_eq_true rfl) (Nat.le_of_ble_eq_true rfl) sh_m_0 (by decide) rfl k2 ?_
        exact (sg_iret f_142_46 rk_142)
      · exact absurd c25 (by decide)
theorem sm_143 {μ : sg_S} {z r p : Nat} (hT : tm_Tab μ) (hz : μ.1 0 17 = nI z) (hz6 : z ≤ 6) (hr : r < 6) (hp : p < 6) {f g : Nat → Int64} (hf : f = t_iv (sm_h μ p) (μ.2 25) 17) (hg : g = sx_str f (-1) f 17) : ∃ μ1 : sg_S, sm_N (sg_r2 μ 25 g) μ1 z ∧ sg_D tm_H 143 0 [.ref 0, .int (nI r), .int (nI p), ab_u, ab_u] [] μ (some (.int (nI (sx_lk g (sm_h μ p) 17 0)))) (sg_r2 μ1 13 (sg_c2 (μ.2 13) (17 * r) 17 g)) := by
  have k0 := sm_133 hT hp
  rw [← hf] at k0
  have k1 := sm_134 (μ := sg_r2 μ 25 f) (h := -1) (tm_Tab_r2 hT)
  rw [sg_r2_eq, sg_r2_r2, ← hg] at k1
  obtain ⟨μ1, h1, k2⟩ := sm_137 (μ := sg_r2 μ 25 g) (tm_Tab_r2 hT) hz hz6 hr
  rw [sg_r2_eq, sg_r2_ne (show (13 : Nat) ≠ 25 by omega)] at k2
  have k34 := sm_143_l (μ := sg_r2 μ 25 g) (a := r) (b := p) (rr := some (.int (nI (sx_lk g (sm_h μ p) 17 0)))) (μ' := sg_r2 μ1 13 (sg_c2 (μ.2 13) (17 * r) 17 g)) (tm_Tab_r2 hT) hp 17 (by omega) _ rfl
  rw [sg_r2_eq, show sm_h (sg_r2 μ 25 g) p = sm_h μ p from rfl] at k34
  refine ⟨μ1, h1, ?_⟩
  have k82 : sg_D tm_H 143 82 [.ref 0, .int (nI r), .int (nI p), .int (nI (sx_lk g (sm_h μ p) 17 0)), .int (-1)] [] (sg_r2 μ 25 g) (some (.int (nI (sx_lk g (sm_h μ p) 17 0)))) (sg_r2 μ1 13 (sg_c2 (μ.2 13) (17 * r) 17 g)) := by
    refine sg_aload_n f_143_82 rfl ?_
    refine sg_iload_n f_143_83 rfl ?_
    refine sg_callv_i f_143_84 my_143_137 mr_137 rfl (Nat.le_of_ble_eq_true rfl) (Nat.le_of_ble_eq_true rfl) sh_m_0 (by decide) rfl k2 ?_
    refine sg_istore [_, _, _, _, _] f_143_87 rfl ?_
    refine sg_iload_n f_143_89 rfl ?_
    exact (sg_iret f_143_90 rk_143)
  refine sg_iload_n f_143_0 rfl ?_
  refine sg_calls_i f_143_1 my_143_101 mr_101 (by decide) rfl (Nat.le_of_ble_eq_true rfl) (Nat.le_of_ble_eq_true rfl) rfl (sm_101_1 hr) ?_
  refine sg_if_eq 14 f_143_4 rfl (fun c4 => ?_) (fun c4 => ?_)
  · exact absurd c4 (by decide)
  · refine sg_iload_n f_143_7 rfl ?_
    refine sg_calls_i f_143_8 my_143_101 mr_101 (by decide) rfl (Nat.le_of_ble_eq_true rfl) (Nat.le_of_ble_eq_true rfl) rfl (sm_101_1 hp) ?_
    refine sg_if_ne 16 f_143_11 rfl (fun c11 => ?_) (fun c11 => ?_)
    · refine sg_aload_n f_143_16 rfl ?_
      refine sg_iload_n f_143_17 rfl ?_
      refine sg_callv_v f_143_18 my_143_133 mr_133 rfl (Nat.le_of_ble_eq_true rfl) (Nat.le_of_ble_eq_true rfl) sh_m_0 (by decide) rfl k0 ?_
      refine sg_aload_n f_143_21 rfl ?_
      refine sg_ldc2_w (-1) f_143_22 rfl ?_
      refine sg_callv_v f_143_25 my_143_134 mr_134 rfl (Nat.le_of_ble_eq_true rfl) (Nat.le_of_ble_eq_true rfl) sh_m_0 (by decide) rfl k1 ?_
      refine sg_iconst (nI 5) f_143_28 ki_5 ?_
      refine sg_istore_n [_, _, _, _, _] f_143_29 rfl ?_
      refine sg_bipush (nI 16) f_143_30 kb_16 ?_
      refine sg_istore [_, _, _, _, _] f_143_32 rfl ?_
      exact k34 k82
    · exact absurd c11 (by decide)
theorem sm_144_st {μ : sg_S} {r t : Nat} {v : Int32} (hr : r < 6) (ht : t < 17) (h : μ.2 13 (17 * r + t) = v.toInt64) : sg_D tm_H 144 0 [.ref 0, .int (nI r), .int (nI t), .int v] [] μ (some (.int (-2))) μ := by
  refine sg_iload_n f_144_0 rfl ?_
  refine sg_calls_i f_144_1 my_144_101 mr_101 (by decide) rfl (Nat.le_of_ble_eq_true rfl) (Nat.le_of_ble_eq_true rfl) rfl (sm_101_1 hr) ?_
  refine sg_if_eq 14 f_144_4 rfl (fun c4 => ?_) (fun c4 => ?_)
  · exact absurd c4 (by decide)
  · refine sg_iload_n f_144_7 rfl ?_
    refine sg_calls_i f_144_8 my_144_100 mr_100 (by decide) rfl (Nat.le_of_ble_eq_true rfl) (Nat.le_of_ble_eq_true rfl) rfl (sm_100_1 ht) ?_
    refine sg_if_ne 16 f_144_11 rfl (fun c11 => ?_) (fun c11 => ?_)
    · refine sg_aload_n f_144_16 rfl ?_
      refine sg_getf_r f_144_17 fd_m_0_782 ?_
      refine sg_bipush (nI 17) f_144_20 kb_17 ?_
      refine sg_iload_n f_144_22 rfl ?_
      first | refine sg_imul _ f_144_23 (pk_mul _ _) ?_ | refine sg_imul _ f_144_23 rfl ?_
      refine sg_iload_n f_144_24 rfl ?_
      first | refine sg_iadd _ f_144_25 (nI_add _ _) ?_ | refine sg_iadd _ f_144_25 rfl ?_
      refine sg_laload_k (17 * r + t) ok_m f_144_26 sh_m_13 rfl (by omega) h ?_
      refine sg_iload_n f_144_27 rfl ?_
      refine sg_i2l _ f_144_28 rfl ?_
      refine sg_lcmp f_144_29 ?_
      refine sg_if_ne 36 f_144_30 rfl (fun c30 => ?_) (fun c30 => ?_)
      · exact absurd (sg_cmp_eq.mpr rfl) c30
      · refine sg_bipush (-2) f_144_33 kb_m2 ?_
        exact (sg_iret f_144_35 rk_144)
    · exact absurd c11 (by decide)
theorem sm_144 {μ : sg_S} {z r t : Nat} {v : Int32} (hz : μ.1 0 17 = nI z) (hz6 : z ≤ 6) (hr : r < 6) (ht : t < 17) (h : μ.2 13 (17 * r + t) ≠ v.toInt64) : ∃ μ1 : sg_S, sm_N μ μ1 z ∧ sg_D tm_H 144 0 [.ref 0, .int (nI r), .int (nI t), .int v] [] μ (some (.int (nI 1))) (sg_r2 μ1 13 (vp_updL (μ.2 13) (17 * r + t) v.toInt64)) := by
  obtain ⟨μ1, k1, h1⟩ := sm_123 hz hz6
  refine ⟨μ1, h1, ?_⟩
  rw [← h1.2.1 13 (by omega)]
  refine sg_iload_n f_144_0 rfl ?_
  refine sg_calls_i f_144_1 my_144_101 mr_101 (by decide) rfl (Nat.le_of_ble_eq_true rfl) (Nat.le_of_ble_eq_true rfl) rfl (sm_101_1 hr) ?_
  refine sg_if_eq 14 f_144_4 rfl (fun c4 => ?_) (fun c4 => ?_)
  · exact absurd c4 (by decide)
  · refine sg_iload_n f_144_7 rfl ?_
    refine sg_calls_i f_144_8 my_144_100 mr_100 (by decide) rfl (Nat.le_of_ble_eq_true rfl) (Nat.le_of_ble_eq_true rfl) rfl (sm_100_1 ht) ?_
    refine sg_if_ne 16 f_144_11 rfl (fun c11 => ?_) (fun c11 => ?_)
    · refine sg_aload_n f_144_16 rfl ?_
      refine sg_getf_r f_144_17 fd_m_0_782 ?_
      refine sg_bipush (nI 17) f_144_20 kb_17 ?_
      refine sg_iload_n f_144_22 rfl ?_
      first | refine sg_imul _ f_144_23 (pk_mul _ _) ?_ | refine sg_imul _ f_144_23 rfl ?_
      refine sg_iload_n f_144_24 rfl ?_
      first | refine sg_iadd _ f_144_25 (nI_add _ _) ?_ | refine sg_iadd _ f_144_25 rfl ?_
      refine sg_laload_k (17 * r + t) ok_m f_144_26 sh_m_13 rfl (by omega) rfl ?_
      refine sg_iload_n f_144_27 rfl ?_
      refine sg_i2l _ f_144_28 rfl ?_
      refine sg_lcmp f_144_29 ?_
      refine sg_if_ne 36 f_144_30 rfl (fun c30 => ?_) (fun c30 => ?_)
      · refine sg_aload_n f_144_36 rfl ?_
        refine sg_callv_v f_144_37 my_144_123 mr_123 rfl (Nat.le_of_ble_eq_true rfl) (Nat.le_of_ble_eq_true rfl) sh_m_0 (by decide) rfl k1 ?_
        refine sg_aload_n f_144_40 rfl ?_
        refine sg_getf_r f_144_41 fd_m_0_782 ?_
        refine sg_bipush (nI 17) f_144_44 kb_17 ?_
        refine sg_iload_n f_144_46 rfl ?_
        first | refine sg_imul _ f_144_47 (pk_mul _ _) ?_ | refine sg_imul _ f_144_47 rfl ?_
        refine sg_iload_n f_144_48 rfl ?_
        first | refine sg_iadd _ f_144_49 (nI_add _ _) ?_ | refine sg_iadd _ f_144_49 rfl ?_
        refine sg_iload_n f_144_50 rfl ?_
        refine sg_i2l _ f_144_51 rfl ?_
        refine sg_lastore _ ok_m f_144_52 sh_m_13 rfl (by omega) ?_
        refine sg_iconst (nI 1) f_144_53 ki_1 ?_
        exact (sg_iret f_144_54 rk_144)
      · exact absurd (sg_cmp_eq.mp c30) h
    · exact absurd c11 (by decide)
theorem sm_139_st {μ : sg_S} {r : Nat} (hT : tm_Tab μ) (hr : r < 6) (h : sx_lk (sm_h μ r) t_fw 17 0 = 5) : sg_D tm_H 139 0 [.ref 0, .int (nI r), ab_u] [] μ (some (.int (-2))) μ := by
  have k := sm_136 hT hr
  rw [h] at k
  refine sg_iload_n f_139_0 rfl ?_
  refine sg_calls_i f_139_1 my_139_101 mr_101 (by decide) rfl (Nat.le_of_ble_eq_true rfl) (Nat.le_of_ble_eq_true rfl) rfl (sm_101_1 hr) ?_
  refine sg_if_ne 9 f_139_4 rfl (fun c4 => ?_) (fun c4 => ?_)
  · refine sg_aload_n f_139_9 rfl ?_
    refine sg_iload_n f_139_10 rfl ?_
    refine sg_callv_i f_139_11 my_139_136 mr_136 rfl (Nat.le_of_ble_eq_true rfl) (Nat.le_of_ble_eq_true rfl) sh_m_0 (by decide) rfl k ?_
    refine sg_iconst (nI 5) f_139_14 ki_5 ?_
    refine sg_icmp_ne 21 f_139_15 rfl (fun c15 => ?_) (fun c15 => ?_)
    · exact absurd rfl c15
    · refine sg_bipush (-2) f_139_18 kb_m2 ?_
      exact (sg_iret f_139_20 rk_139)
  · exact absurd c4 (by decide)
theorem sm_139_l {μ μ' : sg_S} {rr : Option Value} {r : Nat} (hT : tm_Tab μ) : ∀ m i : Nat, i + m = 17 → sg_D tm_H 139 46 [.ref 0, .int (nI r), .int (nI 17)] [] (sg_r2 μ 25 (sg_c2 (μ.2 25) 0 17 t_fw)) rr μ' → sg_D tm_H 139 23 [.ref 0, .int (nI r), .int (nI i)] [] (sg_r2 μ 25 (sg_c2 (μ.2 25) 0 i t_fw)) rr μ' := by
  intro m
  induction m with
  | zero =>
    intro i hi kk
    obtain rfl : i = 17 := by omega
    refine sg_iload_n f_139_23 rfl ?_
    refine sg_bipush (nI 17) f_139_24 kb_17 ?_
    first | refine sg_ncmp_ge 46 (by omega) (by omega) f_139_26 rfl (fun c26 => ?_) (fun c26 => ?_) | refine sg_icmp_ge 46 f_139_26 rfl (fun c26 => ?_) (fun c26 => ?_)
    · exact kk
    · omega
  | succ m ih =>
    intro i hi kk
    refine sg_iload_n f_139_23 rfl ?_
    refine sg_bipush (nI 17) f_139_24 kb_17 ?_
    first | refine sg_ncmp_ge 46 (by omega) (by omega) f_139_26 rfl (fun c26 => ?_) (fun c26 => ?_) | refine sg_icmp_ge 46 f_139_26 rfl (fun c26 => ?_) (fun c26 => ?_)
    · omega
    · refine sg_aload_n f_139_29 rfl ?_
      refine sg_getf_r f_139_30 fd_m_0_802 ?_
      refine sg_iload_n f_139_33 rfl ?_
      refine sg_aload_n f_139_34 rfl ?_
      refine sg_iload_n f_139_35 rfl ?_
      refine sg_callv_l f_139_36 my_139_129 mr_129 rfl (Nat.le_of_ble_eq_true rfl) (Nat.le_of_ble_eq_true rfl) sh_m_0 (by decide) rfl (sm_129 (tm_Tab_r2 hT) (by omega)) ?_
      refine sg_lastore _ ok_m f_139_39 sh_m_25 rfl (by omega) ?_
      first | refine sg_iinc _ [_, _, _] f_139_40 rfl (sg_inc1 _) rfl ?_ | refine sg_iinc _ [_, _, _] f_139_40 rfl rfl rfl ?_
      refine sg_goto 23 f_139_43 rfl ?_
      refine sg_from ?_ (ih (i + 1) (by omega) kk)
      rw [sg_r2_r2, sg_r2_eq]
      exact congrArg (sg_r2 μ 25) (sg_c2_s (by omega) rfl)
theorem sm_139 {μ : sg_S} {z r : Nat} (hT : tm_Tab μ) (hz : μ.1 0 17 = nI z) (hz6 : z ≤ 6) (hr : r < 6) (h : sx_lk (sm_h μ r) t_fw 17 0 ≠ 5) (hl : sx_lk (sm_h μ r) t_fw 17 0 ≤ 5) {g : Nat → Int64} (hg : g = sg_c2 (μ.2 25) 0 17 t_fw) : ∃ μ1 : sg_S, sm_N (sg_r2 μ 25 g) μ1 z ∧ sg_D tm_H 139 0 [.ref 0, .int (nI r), ab_u] [] μ (some (.int (nI 1))) (sg_r2 μ1 13 (sg_c2 (μ.2 13) (17 * r) 17 g)) := by
  have k := sm_136 hT hr
  obtain ⟨μ1, h1, k2⟩ := sm_137 (μ := sg_r2 μ 25 g) (tm_Tab_r2 hT) hz hz6 hr
  rw [sg_r2_eq, sg_r2_ne (by omega)] at k2
  refine ⟨μ1, h1, ?_⟩
  have k46 : sg_D tm_H 139 46 [.ref 0, .int (nI r), .int (nI 17)] [] (sg_r2 μ 25 g) (some (.int (nI 1))) (sg_r2 μ1 13 (sg_c2 (μ.2 13) (17 * r) 17 g)) := by
    refine sg_aload_n f_139_46 rfl ?_
    refine sg_iload_n f_139_47 rfl ?_
    refine sg_callv_i f_139_48 my_139_137 mr_137 rfl (Nat.le_of_ble_eq_true rfl) (Nat.le_of_ble_eq_true rfl) sh_m_0 (by decide) rfl k2 ?_
    refine sg_istore_n [_, _, _] f_139_51 rfl ?_
    refine sg_iconst (nI 1) f_139_52 ki_1 ?_
    exact (sg_iret f_139_53 rk_139)
  rw [hg] at k46
  have k23 := sm_139_l (r := r) hT 17 0 (by omega) k46
  rw [sg_c2_0, sg_r2_self rfl, ← hg] at k23
  revert k h hl
  generalize sx_lk (sm_h μ r) t_fw 17 0 = w
  intro h hl k
  refine sg_iload_n f_139_0 rfl ?_
  refine sg_calls_i f_139_1 my_139_101 mr_101 (by decide) rfl (Nat.le_of_ble_eq_true rfl) (Nat.le_of_ble_eq_true rfl) rfl (sm_101_1 hr) ?_
  refine sg_if_ne 9 f_139_4 rfl (fun c4 => ?_) (fun c4 => ?_)
  · refine sg_aload_n f_139_9 rfl ?_
    refine sg_iload_n f_139_10 rfl ?_
    refine sg_callv_i f_139_11 my_139_136 mr_136 rfl (Nat.le_of_ble_eq_true rfl) (Nat.le_of_ble_eq_true rfl) sh_m_0 (by decide) rfl k ?_
    refine sg_iconst (nI 5) f_139_14 ki_5 ?_
    refine sg_ncmp_ne 21 (by omega) (by omega) f_139_15 rfl (fun c15 => ?_) (fun c15 => ?_)
    · refine sg_iconst (nI 0) f_139_21 ki_0 ?_
      refine sg_istore_n [_, _, _] f_139_22 rfl ?_
      exact k23
    · exact absurd c15 h
  · exact absurd c4 (by decide)
