/-! the class: childAt, firstBreak -/
def t_f0 (r : Nat) : Int32 := if r = 0 then -9 else nI (t_fi r)
def t_cc : Nat → Nat → Int32
  | r, 0 => t_f0 r
  | r, m + 1 => if r = 0 then -9 else t_cc (t_re r) m
theorem tb_fi : ∀ r, r < 17 → (ab_ST 0)[r]? = some (t_f0 r) := by decide +kernel
theorem tb_re : ∀ r, r < 17 → 0 < r → (ab_ST 1)[r]? = some (nI (t_re r)) ∧ t_re r < r ∧ t_fi r < r := by decide +kernel
theorem sx_56_l {σ : sg_S} {t k : Nat} (hk : k < 2 ^ 31) : ∀ m i : Nat, i + m = k → ∀ r : Nat, r < 17 → sg_D tx_H 56 5 [.ref 1, .int (nI t), .int (nI k), .int (nI r), .int (nI i)] [] σ (some (.int (t_cc r m))) σ
  | 0, i, hi, r, hr => by
    refine sg_iload f_56_5 rfl ?_
    refine sg_iload_n f_56_7 rfl ?_
    first | refine sg_ncmp_ge 27 (by omega) (by omega) f_56_8 rfl (fun c8 => ?_) (fun c8 => ?_) | refine sg_icmp_ge 27 f_56_8 rfl (fun c8 => ?_) (fun c8 => ?_)
    · refine sg_getstatic f_56_27 (by decide) ?_
      refine sg_iload_n f_56_30 rfl ?_
      refine sg_taload r f_56_31 (by decide) rfl (by omega) (tb_fi r hr) ?_
      exact (sg_iret f_56_32 rk_56)
    · omega
  | m + 1, i, hi, r, hr => by
    rcases Nat.eq_zero_or_pos r with h0 | h0
    · subst h0
      refine sg_iload f_56_5 rfl ?_
      refine sg_iload_n f_56_7 rfl ?_
      first | refine sg_ncmp_ge 27 (by omega) (by omega) f_56_8 rfl (fun c8 => ?_) (fun c8 => ?_) | refine sg_icmp_ge 27 f_56_8 rfl (fun c8 => ?_) (fun c8 => ?_)
      · omega
      · refine sg_iload_n f_56_11 rfl ?_
        refine sg_if_le 27 f_56_12 rfl (fun c12 => ?_) (fun c12 => ?_)
        · refine sg_getstatic f_56_27 (by decide) ?_
          refine sg_iload_n f_56_30 rfl ?_
          refine sg_taload 0 f_56_31 (by decide) rfl (by omega) (tb_fi 0 hr) ?_
          exact (sg_iret f_56_32 rk_56)
        · exact absurd (by decide) c12
    · have hre := tb_re r hr h0
      rw [t_cc, if_neg (by omega)]
      refine sg_iload f_56_5 rfl ?_
      refine sg_iload_n f_56_7 rfl ?_
      first | refine sg_ncmp_ge 27 (by omega) (by omega) f_56_8 rfl (fun c8 => ?_) (fun c8 => ?_) | refine sg_icmp_ge 27 f_56_8 rfl (fun c8 => ?_) (fun c8 => ?_)
      · omega
      · refine sg_iload_n f_56_11 rfl ?_
        refine sg_if_le 27 f_56_12 rfl (fun c12 => ?_) (fun c12 => ?_)
        · exact absurd c12 (nI_nle h0 (by omega))
        · refine sg_getstatic f_56_15 (by decide) ?_
          refine sg_iload_n f_56_18 rfl ?_
          refine sg_taload r f_56_19 (by decide) rfl (by omega) hre.1 ?_
          refine sg_istore_n [_, _, _, _, _] f_56_20 rfl ?_
          first | refine sg_iinc _ [_, _, _, _, _] f_56_21 rfl (sg_inc1 _) rfl ?_ | refine sg_iinc _ [_, _, _, _, _] f_56_21 rfl rfl rfl ?_
          refine sg_goto 5 f_56_24 rfl ?_
          exact sx_56_l hk m (i + 1) (by omega) (t_re r) (by omega)
theorem sx_56 {σ : sg_S} {t k : Nat} (ht : t < 17) (hk : k < 2 ^ 31) : sg_D tx_H 56 0 [.ref 1, .int (nI t), .int (nI k), ab_u, ab_u] [] σ (some (.int (t_cc t k))) σ := by
  refine sg_iload_n f_56_0 rfl ?_
  refine sg_istore_n [_, _, _, _, _] f_56_1 rfl ?_
  refine sg_iconst (nI 0) f_56_2 ki_0 ?_
  refine sg_istore [_, _, _, _, _] f_56_3 rfl ?_
  exact sx_56_l hk k 0 (by omega) t ht
/-- the first pair that breaks -/
def t_fb (P : Nat → Int64) : Nat → Nat → Nat → Int32
  | 0, _, _ => -9
  | n + 1, u, v => if t_gr (17 * u + v) = 17 ∨ t_gr (17 * v + u) = 17 ∨ P (t_gr (17 * u + v)) + P (t_gr (17 * v + u)) = P u * P v then (if v + 1 < 17 then t_fb P n u (v + 1) else t_fb P n (u + 1) 0) else nI (17 * u + v)
theorem t_gi_17 {u v : Nat} (h : t_gr (17 * u + v) = 17) : t_gi u v = -9 := by unfold t_gi; rw [if_pos h]
theorem t_gi_n {u v : Nat} (h : ¬ t_gr (17 * u + v) = 17) : t_gi u v = nI (t_gr (17 * u + v)) := by unfold t_gi; rw [if_neg h]
theorem sg_ne_m9 {j : Nat} (hj : j < 2 ^ 31) : ¬ nI j = -9 := fun h => by
  have h1 := congrArg Int32.toInt h
  rw [nI_toInt hj, show (-9 : Int32).toInt = -9 from rfl] at h1
  omega
theorem sx_60_v {σ : sg_S} {a n u v : Nat} {l4 l5 : Value} (hu : u < 17) (hv : v < 17) (hn : 17 * u + v + (n + 1) = 289) (ih : ∀ u v, u < 17 → v < 17 → 17 * u + v + n = 289 → ∀ l4 l5 : Value, sg_D tx_H 60 10 [.ref 1, .ref a, .int (nI u), .int (nI v), l4, l5] [] σ (some (.int (t_fb (σ.2 a) n u v))) σ) : sg_D tx_H 60 77 [.ref 1, .ref a, .int (nI u), .int (nI v), l4, l5] [] σ (some (.int (if v + 1 < 17 then t_fb (σ.2 a) n u (v + 1) else t_fb (σ.2 a) n (u + 1) 0))) σ := by
  by_cases h1 : v + 1 < 17
  · rw [if_pos h1]
    first | refine sg_iinc _ [_, _, _, _, _, _] f_60_77 rfl (sg_inc1 _) rfl ?_ | refine sg_iinc _ [_, _, _, _, _, _] f_60_77 rfl rfl rfl ?_
    refine sg_goto 10 f_60_80 rfl ?_
    exact ih u (v + 1) hu h1 (by omega) _ _
  · rw [if_neg h1]
    obtain rfl : v = 16 := by omega
    by_cases h2 : u + 1 < 17
    · have k1 : sg_D tx_H 60 10 [.ref 1, .ref a, .int (nI u), .int (nI 17), l4, l5] [] σ (some (.int (t_fb (σ.2 a) n (u + 1) 0))) σ := by
        refine sg_iload_n f_60_10 rfl ?_
        refine sg_bipush (nI 17) f_60_11 kb_17 ?_
        first | refine sg_ncmp_ge 83 (by omega) (by omega) f_60_13 rfl (fun c13 => ?_) (fun c13 => ?_) | refine sg_icmp_ge 83 f_60_13 rfl (fun c13 => ?_) (fun c13 => ?_)
        · first | refine sg_iinc _ [_, _, _, _, _, _] f_60_83 rfl (sg_inc1 _) rfl ?_ | refine sg_iinc _ [_, _, _, _, _, _] f_60_83 rfl rfl rfl ?_
          refine sg_goto 2 f_60_86 rfl ?_
          refine sg_iload_n f_60_2 rfl ?_
          refine sg_bipush (nI 17) f_60_3 kb_17 ?_
          first | refine sg_ncmp_ge 89 (by omega) (by omega) f_60_5 rfl (fun c5 => ?_) (fun c5 => ?_) | refine sg_icmp_ge 89 f_60_5 rfl (fun c5 => ?_) (fun c5 => ?_)
          · omega
          · refine sg_iconst (nI 0) f_60_8 ki_0 ?_
            refine sg_istore_n [_, _, _, _, _, _] f_60_9 rfl ?_
            exact ih (u + 1) 0 h2 (by omega) (by omega) _ _
        · omega
      first | refine sg_iinc _ [_, _, _, _, _, _] f_60_77 rfl (sg_inc1 _) rfl ?_ | refine sg_iinc _ [_, _, _, _, _, _] f_60_77 rfl rfl rfl ?_
      refine sg_goto 10 f_60_80 rfl ?_
      exact k1
    · obtain rfl : u = 16 := by omega
      obtain rfl : n = 0 := by omega
      have k1 : sg_D tx_H 60 10 [.ref 1, .ref a, .int (nI 16), .int (nI 17), l4, l5] [] σ (some (.int (t_fb (σ.2 a) 0 (16 + 1) 0))) σ := by
        refine sg_iload_n f_60_10 rfl ?_
        refine sg_bipush (nI 17) f_60_11 kb_17 ?_
        first | refine sg_ncmp_ge 83 (by omega) (by omega) f_60_13 rfl (fun c13 => ?_) (fun c13 => ?_) | refine sg_icmp_ge 83 f_60_13 rfl (fun c13 => ?_) (fun c13 => ?_)
        · first | refine sg_iinc _ [_, _, _, _, _, _] f_60_83 rfl (sg_inc1 _) rfl ?_ | refine sg_iinc _ [_, _, _, _, _, _] f_60_83 rfl rfl rfl ?_
          refine sg_goto 2 f_60_86 rfl ?_
          refine sg_iload_n f_60_2 rfl ?_
          refine sg_bipush (nI 17) f_60_3 kb_17 ?_
          first | refine sg_ncmp_ge 89 (by omega) (by omega) f_60_5 rfl (fun c5 => ?_) (fun c5 => ?_) | refine sg_icmp_ge 89 f_60_5 rfl (fun c5 => ?_) (fun c5 => ?_)
          · refine sg_bipush (-9) f_60_89 kb_m9 ?_
            exact (sg_iret f_60_91 rk_60)
          · omega
        · omega
      first | refine sg_iinc _ [_, _, _, _, _, _] f_60_77 rfl (sg_inc1 _) rfl ?_ | refine sg_iinc _ [_, _, _, _, _, _] f_60_77 rfl rfl rfl ?_
      refine sg_goto 10 f_60_80 rfl ?_
      exact k1
theorem sx_60_l {σ : sg_S} {a : Nat} (hT : tx_Tab σ) (ha : sg_sh tx_H a = some (21, 17)) : ∀ n u v : Nat, u < 17 → v < 17 → 17 * u + v + n = 289 → ∀ l4 l5 : Value, sg_D tx_H 60 10 [.ref 1, .ref a, .int (nI u), .int (nI v), l4, l5] [] σ (some (.int (t_fb (σ.2 a) n u v))) σ
  | 0, u, v, hu, hv, hn, l4, l5 => absurd hn (by omega)
  | n + 1, u, v, hu, hv, hn, l4, l5 => by
    have ih := sx_60_l hT ha n
    have g1 := hT.2.1 u hu v hv
    have g2 := hT.2.1 v hv u hu
    have b1 := tb_gr1 (17 * u + v) (by omega)
    have b2 := tb_gr1 (17 * v + u) (by omega)
    by_cases e1 : t_gr (17 * u + v) = 17
    · rw [if_pos e1] at g1
      rw [t_fb, if_pos (Or.inl e1)]
      refine sg_iload_n f_60_10 rfl ?_
      refine sg_bipush (nI 17) f_60_11 kb_17 ?_
      first | refine sg_ncmp_ge 83 (by omega) (by omega) f_60_13 rfl (fun c13 => ?_) (fun c13 => ?_) | refine sg_icmp_ge 83 f_60_13 rfl (fun c13 => ?_) (fun c13 => ?_)
      · omega
      · refine sg_aload_n f_60_16 rfl ?_
        refine sg_getf_r f_60_17 fd_x_1_583 ?_
        refine sg_iload_n f_60_20 rfl ?_
        refine sg_aaload u f_60_21 rfl (sx_el_g u hu).1 (by omega) ?_
        refine sg_iload_n f_60_22 rfl ?_
        refine sg_iaload_k v ok_x f_60_23 (sx_el_g u hu).2 rfl (by omega) g1 ?_ (by decide) (by omega)
        refine sg_istore [_, _, _, _, _, _] f_60_24 rfl ?_
        refine sg_aload_n f_60_26 rfl ?_
        refine sg_getf_r f_60_27 fd_x_1_583 ?_
        refine sg_iload_n f_60_30 rfl ?_
        refine sg_aaload v f_60_31 rfl (sx_el_g v hv).1 (by omega) ?_
        refine sg_iload_n f_60_32 rfl ?_
        refine sg_iaload _ ok_x f_60_33 (sx_el_g v hv).2 rfl (by omega) ?_ (by decide) (by omega)
        refine sg_istore [_, _, _, _, _, _] f_60_34 rfl ?_
        refine sg_iload f_60_36 rfl ?_
        refine sg_bipush (-9) f_60_38 kb_m9 ?_
        refine sg_icmp_eq 77 f_60_40 rfl (fun c40 => ?_) (fun c40 => ?_)
        · exact sx_60_v hu hv hn ih
        · exact absurd rfl c40
    · rw [if_neg e1] at g1
      by_cases e2 : t_gr (17 * v + u) = 17
      · rw [if_pos e2] at g2
        rw [t_fb, if_pos (Or.inr (Or.inl e2))]
        refine sg_iload_n f_60_10 rfl ?_
        refine sg_bipush (nI 17) f_60_11 kb_17 ?_
        first | refine sg_ncmp_ge 83 (by omega) (by omega) f_60_13 rfl (fun c13 => ?_) (fun c13 => ?_) | refine sg_icmp_ge 83 f_60_13 rfl (fun c13 => ?_) (fun c13 => ?_)
        · omega
        · refine sg_aload_n f_60_16 rfl ?_
          refine sg_getf_r f_60_17 fd_x_1_583 ?_
          refine sg_iload_n f_60_20 rfl ?_
          refine sg_aaload u f_60_21 rfl (sx_el_g u hu).1 (by omega) ?_
          refine sg_iload_n f_60_22 rfl ?_
          refine sg_iaload_k v ok_x f_60_23 (sx_el_g u hu).2 rfl (by omega) g1 ?_ (by decide) (by omega)
          refine sg_istore [_, _, _, _, _, _] f_60_24 rfl ?_
          refine sg_aload_n f_60_26 rfl ?_
          refine sg_getf_r f_60_27 fd_x_1_583 ?_
          refine sg_iload_n f_60_30 rfl ?_
          refine sg_aaload v f_60_31 rfl (sx_el_g v hv).1 (by omega) ?_
          refine sg_iload_n f_60_32 rfl ?_
          refine sg_iaload_k u ok_x f_60_33 (sx_el_g v hv).2 rfl (by omega) g2 ?_ (by decide) (by omega)
          refine sg_istore [_, _, _, _, _, _] f_60_34 rfl ?_
          refine sg_iload f_60_36 rfl ?_
          refine sg_bipush (-9) f_60_38 kb_m9 ?_
          refine sg_icmp_eq 77 f_60_40 rfl (fun c40 => ?_) (fun c40 => ?_)
          · exact absurd c40 (sg_ne_m9 (by omega))
          · refine sg_iload f_60_43 rfl ?_
            refine sg_bipush (-9) f_60_45 kb_m9 ?_
            refine sg_icmp_eq 77 f_60_47 rfl (fun c47 => ?_) (fun c47 => ?_)
            · exact sx_60_v hu hv hn ih
            · exact absurd rfl c47
      · rw [if_neg e2] at g2
        refine sg_iload_n f_60_10 rfl ?_
        refine sg_bipush (nI 17) f_60_11 kb_17 ?_
        first | refine sg_ncmp_ge 83 (by omega) (by omega) f_60_13 rfl (fun c13 => ?_) (fun c13 => ?_) | refine sg_icmp_ge 83 f_60_13 rfl (fun c13 => ?_) (fun c13 => ?_)
        · omega
        · refine sg_aload_n f_60_16 rfl ?_
          refine sg_getf_r f_60_17 fd_x_1_583 ?_
          refine sg_iload_n f_60_20 rfl ?_
          refine sg_aaload u f_60_21 rfl (sx_el_g u hu).1 (by omega) ?_
          refine sg_iload_n f_60_22 rfl ?_
          refine sg_iaload_k v ok_x f_60_23 (sx_el_g u hu).2 rfl (by omega) g1 ?_ (by decide) (by omega)
          refine sg_istore [_, _, _, _, _, _] f_60_24 rfl ?_
          refine sg_aload_n f_60_26 rfl ?_
          refine sg_getf_r f_60_27 fd_x_1_583 ?_
          refine sg_iload_n f_60_30 rfl ?_
          refine sg_aaload v f_60_31 rfl (sx_el_g v hv).1 (by omega) ?_
          refine sg_iload_n f_60_32 rfl ?_
          refine sg_iaload_k u ok_x f_60_33 (sx_el_g v hv).2 rfl (by omega) g2 ?_ (by decide) (by omega)
          refine sg_istore [_, _, _, _, _, _] f_60_34 rfl ?_
          refine sg_iload f_60_36 rfl ?_
          refine sg_bipush (-9) f_60_38 kb_m9 ?_
          refine sg_icmp_eq 77 f_60_40 rfl (fun c40 => ?_) (fun c40 => ?_)
          · exact absurd c40 (sg_ne_m9 (by omega))
          · refine sg_iload f_60_43 rfl ?_
            refine sg_bipush (-9) f_60_45 kb_m9 ?_
            refine sg_icmp_eq 77 f_60_47 rfl (fun c47 => ?_) (fun c47 => ?_)
            · exact absurd c47 (sg_ne_m9 (by omega))
            · refine sg_aload_n f_60_50 rfl ?_
              refine sg_iload f_60_51 rfl ?_
              refine sg_laload _ ok_x f_60_53 (by assumption) rfl (by omega) ?_
              refine sg_aload_n f_60_54 rfl ?_
              refine sg_iload f_60_55 rfl ?_
              refine sg_laload _ ok_x f_60_57 (by assumption) rfl (by omega) ?_
              refine sg_ladd _ f_60_58 rfl ?_
              refine sg_aload_n f_60_59 rfl ?_
              refine sg_iload_n f_60_60 rfl ?_
              refine sg_laload _ ok_x f_60_61 (by assumption) rfl (by omega) ?_
              refine sg_aload_n f_60_62 rfl ?_
              refine sg_iload_n f_60_63 rfl ?_
              refine sg_laload _ ok_x f_60_64 (by assumption) rfl (by omega) ?_
              refine sg_lmul _ f_60_65 rfl ?_
              refine sg_lcmp f_60_66 ?_
              refine sg_if_eq 77 f_60_67 rfl (fun c67 => ?_) (fun c67 => ?_)
              · rw [t_fb, if_pos (Or.inr (Or.inr (sg_cmp_eq.mp c67)))]
                exact sx_60_v hu hv hn ih
              · rw [t_fb, if_neg (by rintro (z | z | z); exact e1 z; exact e2 z; exact c67 (sg_cmp_eq.mpr z))]
                refine sg_bipush (nI 17) f_60_70 kb_17 ?_
                refine sg_iload_n f_60_72 rfl ?_
                first | refine sg_imul _ f_60_73 (pk_mul _ _) ?_ | refine sg_imul _ f_60_73 rfl ?_
                refine sg_iload_n f_60_74 rfl ?_
                first | refine sg_iadd _ f_60_75 (nI_add _ _) ?_ | refine sg_iadd _ f_60_75 rfl ?_
                exact (sg_iret f_60_76 rk_60)
theorem sx_60 {σ : sg_S} {a : Nat} (hT : tx_Tab σ) (ha : sg_sh tx_H a = some (21, 17)) : sg_D tx_H 60 0 [.ref 1, .ref a, ab_u, ab_u, ab_u, ab_u] [] σ (some (.int (t_fb (σ.2 a) 289 0 0))) σ := by
  refine sg_iconst (nI 0) f_60_0 ki_0 ?_
  refine sg_istore_n [_, _, _, _, _, _] f_60_1 rfl ?_
  refine sg_iload_n f_60_2 rfl ?_
  refine sg_bipush (nI 17) f_60_3 kb_17 ?_
  first | refine sg_ncmp_ge 89 (by omega) (by omega) f_60_5 rfl (fun c5 => ?_) (fun c5 => ?_) | refine sg_icmp_ge 89 f_60_5 rfl (fun c5 => ?_) (fun c5 => ?_)
  · omega
  · refine sg_iconst (nI 0) f_60_8 ki_0 ?_
    refine sg_istore_n [_, _, _, _, _, _] f_60_9 rfl ?_
    exact sx_60_l hT ha 289 0 0 (by omega) (by omega) rfl _ _
