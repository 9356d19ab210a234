/-! the model: weights -/
def sm_A (μ : sg_S) (j k : Nat) : Int64 := (μ.1 12 (1 + 4 * j + k)).toInt64
def sm_B (μ : sg_S) (j : Nat) : Int64 := (μ.1 12 (17 + j)).toInt64
def t_pd (S : Nat → Int64) (t : Nat) : Nat → Nat → Int64 → Int64
  | 0, _, acc => acc
  | m + 1, i, acc => t_pd S t m (i + 1) (acc * S (t_ca (4 * t + i)))
theorem tb_ch : ∀ r, r < 17 → 0 < r → t_wd r = t_wd (t_re r) + 1 ∧ t_ca (4 * r) = t_fi r ∧ ∀ q, q < t_wd (t_re r) → t_ca (4 * r + (1 + q)) = t_ca (4 * t_re r + q) := by decide +kernel
theorem t_pd_W {A : Nat → Nat → Int64} {s j t : Nat} : ∀ (m r : Nat), r ≤ m → r < 17 → ∀ (i : Nat) (acc : Int64), (∀ q, q < t_wd r → t_ca (4 * t + (i + q)) = t_ca (4 * r + q)) → t_pd (t_S A s j) t (t_wd r) i acc = acc * t_W A s j r := by
  intro m
  induction m with
  | zero =>
    intro r hr _ i acc _
    obtain rfl : r = 0 := by omega
    rw [show t_wd 0 = 0 from rfl, t_pd, t_W_0, Int64.mul_one]
  | succ m ih =>
    intro r hr hr17 i acc h
    rcases Nat.eq_zero_or_pos r with h0 | h0
    · subst h0
      rw [show t_wd 0 = 0 from rfl, t_pd, t_W_0, Int64.mul_one]
    · obtain ⟨e1, e2, e3⟩ := tb_ch r hr17 h0
      have hre := tb_re r hr17 h0
      have h1 := h 0 (by omega)
      rw [Nat.add_zero, Nat.add_zero, e2] at h1
      rw [e1, t_pd, h1, ih (t_re r) (by omega) (by omega) (i + 1) _ (fun q hq => by
        rw [← e3 q hq, ← h (1 + q) (by omega), Nat.add_assoc]), t_W_s hr17 h0, Int64.mul_assoc]
/-- what stands while the weights are made: t trees are done -/
def sm_wI (μ0 μ : sg_S) (s t : Nat) : Prop := μ.1 = μ0.1 ∧ (∀ k, k ≠ 25 → k ≠ 26 → μ.2 k = μ0.2 k) ∧ (∀ j u, j < s → u < t → μ.2 26 (4 * u + j) = t_W (sm_A μ0) s j u) ∧ ∀ u, u < t → μ.2 25 u = t_sm (sm_B μ0) (fun j => t_W (sm_A μ0) s j u) s 0 0
theorem sm_130_k {μ0 μ μ' : sg_S} {rr : Option Value} {s t j i c : Nat} {pr : Int64} (hs : μ0.1 12 0 = nI s) (hs4 : s ≤ 4) (hI : sm_wI μ0 μ s t) (hj : j < s) (ht : t < 17) (hc : c < t) : ∀ n k : Nat, k + n = s → ∀ acc : Int64, sg_D tm_H 130 111 [.ref 0, .int (nI t), .int (nI j), .long pr, ab_u, .int (nI i), .int (nI c), .long (t_sm (sm_A μ0 j) (fun k => t_W (sm_A μ0) s k c) n k acc), ab_u, .int (nI s)] [] μ rr μ' → sg_D tm_H 130 62 [.ref 0, .int (nI t), .int (nI j), .long pr, ab_u, .int (nI i), .int (nI c), .long acc, ab_u, .int (nI k)] [] μ rr μ' := by
  have hs' : μ.1 12 0 = nI s := by rw [hI.1]; exact hs
  intro n
  induction n with
  | zero =>
    intro k hk acc kk
    obtain rfl : k = s := by omega
    rw [t_sm] at kk
    refine sg_iload f_130_62 rfl ?_
    refine sg_aload_n f_130_64 rfl ?_
    refine sg_getf_r f_130_65 fd_m_0_781 ?_
    refine sg_iconst (nI 0) f_130_68 ki_0 ?_
    refine sg_iaload_k 0 ok_m f_130_69 sh_m_12 rfl (by omega) hs' ?_
    first | refine sg_ncmp_ge 111 (by omega) (by omega) f_130_70 rfl (fun c70 => ?_) (fun c70 => ?_) | refine sg_icmp_ge 111 f_130_70 rfl (fun c70 => ?_) (fun c70 => ?_)
    · exact kk
    · omega
  | succ n ih =>
    intro k hk acc kk
    rw [t_sm] at kk
    have e1 : (μ.1 12 (1 + 4 * j + k)).toInt64 = sm_A μ0 j k := by rw [hI.1]; rfl
    have e2 := hI.2.2.1 k c (by omega) hc
    refine sg_iload f_130_62 rfl ?_
    refine sg_aload_n f_130_64 rfl ?_
    refine sg_getf_r f_130_65 fd_m_0_781 ?_
    refine sg_iconst (nI 0) f_130_68 ki_0 ?_
    refine sg_iaload_k 0 ok_m f_130_69 sh_m_12 rfl (by omega) hs' ?_
    first | refine sg_ncmp_ge 111 (by omega) (by omega) f_130_70 rfl (fun c70 => ?_) (fun c70 => ?_) | refine sg_icmp_ge 111 f_130_70 rfl (fun c70 => ?_) (fun c70 => ?_)
    · omega
    · refine sg_lload f_130_73 rfl ?_
      refine sg_aload_n f_130_75 rfl ?_
      refine sg_getf_r f_130_76 fd_m_0_781 ?_
      refine sg_iconst (nI 1) f_130_79 ki_1 ?_
      refine sg_iconst (nI 4) f_130_80 ki_4 ?_
      refine sg_iload_n f_130_81 rfl ?_
      first | refine sg_imul _ f_130_82 (pk_mul _ _) ?_ | refine sg_imul _ f_130_82 rfl ?_
      first | refine sg_iadd _ f_130_83 (nI_add _ _) ?_ | refine sg_iadd _ f_130_83 rfl ?_
      refine sg_iload f_130_84 rfl ?_
      first | refine sg_iadd _ f_130_86 (nI_add _ _) ?_ | refine sg_iadd _ f_130_86 rfl ?_
      refine sg_iaload (1 + 4 * j + k) ok_m f_130_87 sh_m_12 rfl (by omega) ?_
      refine sg_i2l (sm_A μ0 j k) f_130_88 e1 ?_
      refine sg_aload_n f_130_89 rfl ?_
      refine sg_getf_r f_130_90 fd_m_0_803 ?_
      refine sg_iconst (nI 4) f_130_93 ki_4 ?_
      refine sg_iload f_130_94 rfl ?_
      first | refine sg_imul _ f_130_96 (pk_mul _ _) ?_ | refine sg_imul _ f_130_96 rfl ?_
      refine sg_iload f_130_97 rfl ?_
      first | refine sg_iadd _ f_130_99 (nI_add _ _) ?_ | refine sg_iadd _ f_130_99 rfl ?_
      refine sg_laload_k (4 * c + k) ok_m f_130_100 sh_m_26 rfl (by omega) e2 ?_
      refine sg_lmul _ f_130_101 rfl ?_
      refine sg_ladd _ f_130_102 rfl ?_
      refine sg_lstore [_, _, _, _, _, _, _, _, _, _] f_130_103 rfl ?_
      first | refine sg_iinc _ [_, _, _, _, _, _, _, _, _, _] f_130_105 rfl (sg_inc1 _) rfl ?_ | refine sg_iinc _ [_, _, _, _, _, _, _, _, _, _] f_130_105 rfl rfl rfl ?_
      refine sg_goto 62 f_130_108 rfl ?_
      exact ih (k + 1) (by omega) _ kk
theorem tb_cl : ∀ t, t < 17 → ∀ i, i < t_wd t → t_ca (4 * t + i) < t := by decide +kernel
theorem sm_130_i {μ0 μ μ' : sg_S} {rr : Option Value} {s t j : Nat} (hT : tm_Tab μ) (hs : μ0.1 12 0 = nI s) (hs4 : s ≤ 4) (hI : sm_wI μ0 μ s t) (hj : j < s) (ht : t < 17) : ∀ n i : Nat, i + n = t_wd t → ∀ (acc : Int64) (l6 l7 l8 l9 : Value), (∀ l6 l7 l8 l9 : Value, sg_D tm_H 130 122 [.ref 0, .int (nI t), .int (nI j), .long (t_pd (t_S (sm_A μ0) s j) t n i acc), ab_u, .int (nI (t_wd t)), l6, l7, l8, l9] [] μ rr μ') → sg_D tm_H 130 32 [.ref 0, .int (nI t), .int (nI j), .long acc, ab_u, .int (nI i), l6, l7, l8, l9] [] μ rr μ' := by
  have hw := tb_wd t ht
  intro n
  induction n with
  | zero =>
    intro i hi acc l6 l7 l8 l9 kk
    obtain rfl : i = t_wd t := by omega
    rw [t_pd] at kk
    refine sg_iload f_130_32 rfl ?_
    refine sg_aload_n f_130_34 rfl ?_
    refine sg_getf_r f_130_35 fd_m_0_769 ?_
    refine sg_iload_n f_130_38 rfl ?_
    refine sg_iaload_k t ok_m f_130_39 sh_m_2 rfl (by omega) (hT.1 t ht).1 ?_
    first | refine sg_ncmp_ge 122 (by omega) (by omega) f_130_40 rfl (fun c40 => ?_) (fun c40 => ?_) | refine sg_icmp_ge 122 f_130_40 rfl (fun c40 => ?_) (fun c40 => ?_)
    · exact kk _ _ _ _
    · omega
  | succ n ih =>
    intro i hi acc l6 l7 l8 l9 kk
    have hc := tb_cl t ht i (by omega)
    rw [t_pd] at kk
    have k32 := ih (i + 1) (by omega) (acc * t_S (sm_A μ0) s j (t_ca (4 * t + i))) (.int (nI (t_ca (4 * t + i)))) (.long (t_S (sm_A μ0) s j (t_ca (4 * t + i)))) ab_u (.int (nI s)) kk
    have k111 : sg_D tm_H 130 111 [.ref 0, .int (nI t), .int (nI j), .long acc, ab_u, .int (nI i), .int (nI (t_ca (4 * t + i))), .long (t_S (sm_A μ0) s j (t_ca (4 * t + i))), ab_u, .int (nI s)] [] μ rr μ' := by
      refine sg_lload_n f_130_111 rfl ?_
      refine sg_lload f_130_112 rfl ?_
      refine sg_lmul _ f_130_114 rfl ?_
      refine sg_lstore_n [_, _, _, _, _, _, _, _, _, _] f_130_115 rfl ?_
      first | refine sg_iinc _ [_, _, _, _, _, _, _, _, _, _] f_130_116 rfl (sg_inc1 _) rfl ?_ | refine sg_iinc _ [_, _, _, _, _, _, _, _, _, _] f_130_116 rfl rfl rfl ?_
      refine sg_goto 32 f_130_119 rfl ?_
      exact k32
    refine sg_iload f_130_32 rfl ?_
    refine sg_aload_n f_130_34 rfl ?_
    refine sg_getf_r f_130_35 fd_m_0_769 ?_
    refine sg_iload_n f_130_38 rfl ?_
    refine sg_iaload_k t ok_m f_130_39 sh_m_2 rfl (by omega) (hT.1 t ht).1 ?_
    first | refine sg_ncmp_ge 122 (by omega) (by omega) f_130_40 rfl (fun c40 => ?_) (fun c40 => ?_) | refine sg_icmp_ge 122 f_130_40 rfl (fun c40 => ?_) (fun c40 => ?_)
    · omega
    · refine sg_aload_n f_130_43 rfl ?_
      refine sg_getf_r f_130_44 fd_m_0_768 ?_
      refine sg_iconst (nI 4) f_130_47 ki_4 ?_
      refine sg_iload_n f_130_48 rfl ?_
      first | refine sg_imul _ f_130_49 (pk_mul _ _) ?_ | refine sg_imul _ f_130_49 rfl ?_
      refine sg_iload f_130_50 rfl ?_
      first | refine sg_iadd _ f_130_52 (nI_add _ _) ?_ | refine sg_iadd _ f_130_52 rfl ?_
      refine sg_iaload_k (4 * t + i) ok_m f_130_53 sh_m_1 rfl (by omega) (hT.2.1 (4 * t + i) (by omega)) ?_
      refine sg_istore [_, _, _, _, _, _, _, _, _, _] f_130_54 rfl ?_
      refine sg_lconst 0 f_130_56 rfl ?_
      refine sg_lstore [_, _, _, _, _, _, _, _, _, _] f_130_57 rfl ?_
      refine sg_iconst (nI 0) f_130_59 ki_0 ?_
      refine sg_istore [_, _, _, _, _, _, _, _, _, _] f_130_60 rfl ?_
      exact sm_130_k hs hs4 hI hj ht hc s 0 (by omega) 0 k111
theorem sm_wI_T {μ0 μ : sg_S} {s t : Nat} (hT : tm_Tab μ0) (hI : sm_wI μ0 μ s t) : tm_Tab μ := tm_Tab_of hT (fun a _ _ => by rw [hI.1])
theorem sm_130_j {μ0 : sg_S} {s t : Nat} (hT : tm_Tab μ0) (hs : μ0.1 12 0 = nI s) (hs4 : s ≤ 4) (ht : t < 17) : ∀ n j : Nat, j + n = s → ∀ (μ : sg_S) (acc : Int64), sm_wI μ0 μ s t → (∀ i, i < j → μ.2 26 (4 * t + i) = t_W (sm_A μ0) s i t) → μ.2 25 t = acc → ∃ μ1 : sg_S, sm_wI μ0 μ1 s t ∧ (∀ i, i < s → μ1.2 26 (4 * t + i) = t_W (sm_A μ0) s i t) ∧ μ1.2 25 t = t_sm (sm_B μ0) (fun i => t_W (sm_A μ0) s i t) n j acc ∧ ∀ rr μ', (∀ l3 l4 l5 l6 l7 l8 l9 : Value, sg_D tm_H 130 160 [.ref 0, .int (nI t), .int (nI s), l3, l4, l5, l6, l7, l8, l9] [] μ1 rr μ') → ∀ l3 l4 l5 l6 l7 l8 l9 : Value, sg_D tm_H 130 17 [.ref 0, .int (nI t), .int (nI j), l3, l4, l5, l6, l7, l8, l9] [] μ rr μ' := by
  intro n
  induction n with
  | zero =>
    intro j hj μ acc hI hw ha
    obtain rfl : j = s := by omega
    have hs' : μ.1 12 0 = nI j := by rw [hI.1]; exact hs
    refine ⟨μ, hI, hw, by rw [t_sm]; exact ha, fun rr μ' kk l3 l4 l5 l6 l7 l8 l9 => ?_⟩
    refine sg_iload_n f_130_17 rfl ?_
    refine sg_aload_n f_130_18 rfl ?_
    refine sg_getf_r f_130_19 fd_m_0_781 ?_
    refine sg_iconst (nI 0) f_130_22 ki_0 ?_
    refine sg_iaload_k 0 ok_m f_130_23 sh_m_12 rfl (by omega) hs' ?_
    first | refine sg_ncmp_ge 160 (by omega) (by omega) f_130_24 rfl (fun c24 => ?_) (fun c24 => ?_) | refine sg_icmp_ge 160 f_130_24 rfl (fun c24 => ?_) (fun c24 => ?_)
    · exact kk _ _ _ _ _ _ _
    · omega
  | succ n ih =>
    intro j hj μ acc hI hw ha
    have hjs : j < s := by omega
    have hs' : μ.1 12 0 = nI s := by rw [hI.1]; exact hs
    generalize hv : t_W (sm_A μ0) s j t = v
    generalize hb : sg_r2 (sg_r2 μ 26 (vp_updL (μ.2 26) (4 * t + j) v)) 25 (vp_updL (μ.2 25) t (acc + sm_B μ0 j * v)) = μb
    have b25 : μb.2 25 = vp_updL (μ.2 25) t (acc + sm_B μ0 j * v) := by rw [← hb, sg_r2_eq]
    have b26 : μb.2 26 = vp_updL (μ.2 26) (4 * t + j) v := by rw [← hb, sg_r2_ne (by omega), sg_r2_eq]
    have hIb : sm_wI μ0 μb s t := by
      refine ⟨by rw [← hb]; exact hI.1, fun k h1 h2 => ?_, fun i u hi hu => ?_, fun u hu => ?_⟩
      · rw [← hb, sg_r2_ne h1, sg_r2_ne h2]; exact hI.2.1 k h1 h2
      · rw [b26, sx_vl_ne (by omega)]; exact hI.2.2.1 i u hi hu
      · rw [b25, sx_vl_ne (by omega)]; exact hI.2.2.2 u hu
    have hwb : ∀ i, i < j + 1 → μb.2 26 (4 * t + i) = t_W (sm_A μ0) s i t := by
      intro i hi
      rw [b26]
      by_cases e : i = j
      · subst e; rw [sx_vl_eq, hv]
      · rw [sx_vl_ne (by omega)]; exact hw i (by omega)
    obtain ⟨μ1, g1, g2, g3, g4⟩ := ih (j + 1) (by omega) μb (acc + sm_B μ0 j * v) hIb hwb (by rw [b25, sx_vl_eq])
    refine ⟨μ1, g1, g2, by rw [t_sm, hv]; exact g3, fun rr μ' kk l3 l4 l5 l6 l7 l8 l9 => ?_⟩
    have ep : t_pd (t_S (sm_A μ0) s j) t (t_wd t) 0 1 = v := by
      rw [t_pd_W (m := t) t (Nat.le_refl _) ht 0 1 (fun q _ => by rw [Nat.zero_add]), hv, Int64.one_mul]
    have eB : (μ.1 12 (17 + j)).toInt64 = sm_B μ0 j := by rw [hI.1]; rfl
    have k122 : ∀ l6 l7 l8 l9 : Value, sg_D tm_H 130 122 [.ref 0, .int (nI t), .int (nI j), .long (t_pd (t_S (sm_A μ0) s j) t (t_wd t) 0 1), ab_u, .int (nI (t_wd t)), l6, l7, l8, l9] [] μ rr μ' := by
      intro l6 l7 l8 l9
      rw [ep]
      refine sg_aload_n f_130_122 rfl ?_
      refine sg_getf_r f_130_123 fd_m_0_803 ?_
      refine sg_iconst (nI 4) f_130_126 ki_4 ?_
      refine sg_iload_n f_130_127 rfl ?_
      first | refine sg_imul _ f_130_128 (pk_mul _ _) ?_ | refine sg_imul _ f_130_128 rfl ?_
      refine sg_iload_n f_130_129 rfl ?_
      first | refine sg_iadd _ f_130_130 (nI_add _ _) ?_ | refine sg_iadd _ f_130_130 rfl ?_
      refine sg_lload_n f_130_131 rfl ?_
      refine sg_lastore _ ok_m f_130_132 sh_m_26 rfl (by omega) ?_
      refine sg_aload_n f_130_133 rfl ?_
      refine sg_getf_r f_130_134 fd_m_0_802 ?_
      refine sg_iload_n f_130_137 rfl ?_
      refine sg_dup2 f_130_138 ?_
      refine sg_laload_k t ok_m f_130_139 sh_m_25 rfl (by omega) (show _ = acc from ha) ?_
      refine sg_aload_n f_130_140 rfl ?_
      refine sg_getf_r f_130_141 fd_m_0_781 ?_
      refine sg_bipush (nI 17) f_130_144 kb_17 ?_
      refine sg_iload_n f_130_146 rfl ?_
      first | refine sg_iadd _ f_130_147 (nI_add _ _) ?_ | refine sg_iadd _ f_130_147 rfl ?_
      refine sg_iaload (17 + j) ok_m f_130_148 sh_m_12 rfl (by omega) ?_
      refine sg_i2l (sm_B μ0 j) f_130_149 eB ?_
      refine sg_lload_n f_130_150 rfl ?_
      refine sg_lmul _ f_130_151 rfl ?_
      refine sg_ladd _ f_130_152 rfl ?_
      refine sg_lastore _ ok_m f_130_153 sh_m_25 rfl (by omega) ?_
      refine sg_from hb ?_
      first | refine sg_iinc _ [_, _, _, _, _, _, _, _, _, _] f_130_154 rfl (sg_inc1 _) rfl ?_ | refine sg_iinc _ [_, _, _, _, _, _, _, _, _, _] f_130_154 rfl rfl rfl ?_
      refine sg_goto 17 f_130_157 rfl ?_
      exact g4 rr μ' kk _ _ _ _ _ _ _
    refine sg_iload_n f_130_17 rfl ?_
    refine sg_aload_n f_130_18 rfl ?_
    refine sg_getf_r f_130_19 fd_m_0_781 ?_
    refine sg_iconst (nI 0) f_130_22 ki_0 ?_
    refine sg_iaload_k 0 ok_m f_130_23 sh_m_12 rfl (by omega) hs' ?_
    first | refine sg_ncmp_ge 160 (by omega) (by omega) f_130_24 rfl (fun c24 => ?_) (fun c24 => ?_) | refine sg_icmp_ge 160 f_130_24 rfl (fun c24 => ?_) (fun c24 => ?_)
    · omega
    · refine sg_lconst 1 f_130_27 rfl ?_
      refine sg_lstore_n [_, _, _, _, _, _, _, _, _, _] f_130_28 rfl ?_
      refine sg_iconst (nI 0) f_130_29 ki_0 ?_
      refine sg_istore [_, _, _, _, _, _, _, _, _, _] f_130_30 rfl ?_
      exact sm_130_i (sm_wI_T hT hI) hs hs4 hI hjs ht (t_wd t) 0 (by omega) 1 _ _ _ _ k122
theorem sm_130_t {μ0 : sg_S} {s : Nat} (hT : tm_Tab μ0) (hs : μ0.1 12 0 = nI s) (hs4 : s ≤ 4) : ∀ n t : Nat, t + n = 17 → ∀ (μ : sg_S), sm_wI μ0 μ s t → ∃ μ' : sg_S, sm_wI μ0 μ' s 17 ∧ ∀ l2 l3 l4 l5 l6 l7 l8 l9 : Value, sg_D tm_H 130 2 [.ref 0, .int (nI t), l2, l3, l4, l5, l6, l7, l8, l9] [] μ none μ' := by
  intro n
  induction n with
  | zero =>
    intro t ht μ hI
    obtain rfl : t = 17 := by omega
    refine ⟨μ, hI, fun l2 l3 l4 l5 l6 l7 l8 l9 => ?_⟩
    refine sg_iload_n f_130_2 rfl ?_
    refine sg_bipush (nI 17) f_130_3 kb_17 ?_
    first | refine sg_ncmp_ge 166 (by omega) (by omega) f_130_5 rfl (fun c5 => ?_) (fun c5 => ?_) | refine sg_icmp_ge 166 f_130_5 rfl (fun c5 => ?_) (fun c5 => ?_)
    · exact (sg_vret f_130_166 rk_130)
    · omega
  | succ n ih =>
    intro t ht μ hI
    have ht17 : t < 17 := by omega
    generalize hb : sg_r2 μ 25 (vp_updL (μ.2 25) t 0) = μb
    have hIb : sm_wI μ0 μb s t := by
      refine ⟨by rw [← hb]; exact hI.1, fun k h1 h2 => ?_, fun i u hi hu => ?_, fun u hu => ?_⟩
      · rw [← hb, sg_r2_ne h1]; exact hI.2.1 k h1 h2
      · rw [← hb, sg_r2_ne (by omega)]; exact hI.2.2.1 i u hi hu
      · rw [← hb, sg_r2_eq, sx_vl_ne (by omega)]; exact hI.2.2.2 u hu
    obtain ⟨μ1, g1, g2, g3, g4⟩ := sm_130_j hT hs hs4 ht17 s 0 (by omega) μb 0 hIb (fun i hi => absurd hi (Nat.not_lt_zero _)) (by rw [← hb, sg_r2_eq, sx_vl_eq])
    have hI1 : sm_wI μ0 μ1 s (t + 1) := by
      refine ⟨g1.1, g1.2.1, fun i u hi hu => ?_, fun u hu => ?_⟩
      · by_cases e : u = t
        · subst e; exact g2 i hi
        · exact g1.2.2.1 i u hi (by omega)
      · by_cases e : u = t
        · subst e; exact g3
        · exact g1.2.2.2 u (by omega)
    obtain ⟨μ', h', k'⟩ := ih (t + 1) (by omega) μ1 hI1
    refine ⟨μ', h', fun l2 l3 l4 l5 l6 l7 l8 l9 => ?_⟩
    have k160 : ∀ l3 l4 l5 l6 l7 l8 l9 : Value, sg_D tm_H 130 160 [.ref 0, .int (nI t), .int (nI s), l3, l4, l5, l6, l7, l8, l9] [] μ1 none μ' := by
      intro l3 l4 l5 l6 l7 l8 l9
      first | refine sg_iinc _ [_, _, _, _, _, _, _, _, _, _] f_130_160 rfl (sg_inc1 _) rfl ?_ | refine sg_iinc _ [_, _, _, _, _, _, _, _, _, _] f_130_160 rfl rfl rfl ?_
      refine sg_goto 2 f_130_163 rfl ?_
      exact k' _ _ _ _ _ _ _ _
    refine sg_iload_n f_130_2 rfl ?_
    refine sg_bipush (nI 17) f_130_3 kb_17 ?_
    first | refine sg_ncmp_ge 166 (by omega) (by omega) f_130_5 rfl (fun c5 => ?_) (fun c5 => ?_) | refine sg_icmp_ge 166 f_130_5 rfl (fun c5 => ?_) (fun c5 => ?_)
    · omega
    · refine sg_aload_n f_130_8 rfl ?_
      refine sg_getf_r f_130_9 fd_m_0_802 ?_
      refine sg_iload_n f_130_12 rfl ?_
      refine sg_lconst 0 f_130_13 rfl ?_
      refine sg_lastore _ ok_m f_130_14 sh_m_25 rfl (by omega) ?_
      refine sg_from hb ?_
      refine sg_iconst (nI 0) f_130_15 ki_0 ?_
      refine sg_istore_n [_, _, _, _, _, _, _, _, _, _] f_130_16 rfl ?_
      exact g4 none μ' k160 _ _ _ _ _ _ _
theorem sm_130 {μ : sg_S} {s : Nat} (hT : tm_Tab μ) (hs : μ.1 12 0 = nI s) (hs4 : s ≤ 4) : ∃ μ' : sg_S, sm_wI μ μ' s 17 ∧ sg_D tm_H 130 0 [.ref 0, ab_u, ab_u, ab_u, ab_u, ab_u, ab_u, ab_u, ab_u, ab_u] [] μ none μ' := by
  obtain ⟨μ', h, k⟩ := sm_130_t hT hs hs4 17 0 (by omega) μ ⟨rfl, fun _ _ _ => rfl, fun _ _ _ h => absurd h (Nat.not_lt_zero _), fun _ h => absurd h (Nat.not_lt_zero _)⟩
  refine ⟨μ', h, ?_⟩
  refine sg_iconst (nI 0) f_130_0 ki_0 ?_
  refine sg_istore_n [_, _, _, _, _, _, _, _, _, _] f_130_1 rfl ?_
  exact k _ _ _ _ _ _ _ _
theorem sm_138 {μ : sg_S} {z r s : Nat} (hT : tm_Tab μ) (hz : μ.1 0 17 = nI z) (hz6 : z ≤ 6) (hr : r < 6) (hs : μ.1 12 0 = nI s) (hs4 : s ≤ 4) : ∃ μa μ1 : sg_S, sm_wI μ μa s 17 ∧ sm_N μa μ1 z ∧ sg_D tm_H 138 0 [.ref 0, .int (nI r)] [] μ (some (.int (nI (sx_lk (μa.2 25) t_fw 17 0)))) (sg_r2 μ1 13 (sg_c2 (μ.2 13) (17 * r) 17 (μa.2 25))) := by
  obtain ⟨μa, hI, ka⟩ := sm_130 hT hs hs4
  obtain ⟨μ1, h1, k2⟩ := sm_137 (μ := μa) (sm_wI_T hT hI) (by rw [hI.1]; exact hz) hz6 hr
  rw [hI.2.1 13 (by omega) (by omega)] at k2
  refine ⟨μa, μ1, hI, h1, ?_⟩
  refine sg_iload_n f_138_0 rfl ?_
  refine sg_calls_i f_138_1 my_138_101 mr_101 (by decide) rfl (Nat.le_of_ble_eq_true rfl) (Nat.le_of_ble_eq_true rfl) rfl (sm_101_1 hr) ?_
  refine sg_if_ne 9 f_138_4 rfl (fun c4 => ?_) (fun c4 => ?_)
  · refine sg_aload_n f_138_9 rfl ?_
    refine sg_callv_v f_138_10 my_138_130 mr_130 rfl (Nat.le_of_ble_eq_true rfl) (Nat.le_of_ble_eq_true rfl) sh_m_0 (by decide) rfl ka ?_
    refine sg_aload_n f_138_13 rfl ?_
    refine sg_iload_n f_138_14 rfl ?_
    refine sg_callv_i f_138_15 my_138_137 mr_137 rfl (Nat.le_of_ble_eq_true rfl) (Nat.le_of_ble_eq_true rfl) sh_m_0 (by decide) rfl k2 ?_
    exact (sg_iret f_138_18 rk_138)
  · exact absurd c4 (by decide)
/-! the model: which -/
theorem sm_152_z {μ μ' : sg_S} {rr : Option Value} {z r : Nat} {acc : Int32} (hz : μ.1 0 23 = nI z) (hz6 : z ≤ 6) (kk : sg_D tm_H 152 68 [.ref 0, .int acc, .int (nI r), .int (nI 0), .int (nI z)] [] μ rr μ') : ∀ n k : Nat, k + n = z → sg_D tm_H 152 15 [.ref 0, .int acc, .int (nI r), .int (nI 0), .int (nI k)] [] μ rr μ' := by
  intro n
  induction n with
  | zero =>
    intro k hk
    obtain rfl : k = z := by omega
    refine sg_iload f_152_15 rfl ?_
    refine sg_aload_n f_152_17 rfl ?_
    refine sg_getf_k f_152_18 fd_m_0_791 hz ?_
    first | refine sg_ncmp_ge 68 (by omega) (by omega) f_152_21 rfl (fun c21 => ?_) (fun c21 => ?_) | refine sg_icmp_ge 68 f_152_21 rfl (fun c21 => ?_) (fun c21 => ?_)
    · exact kk
    · omega
  | succ n ih =>
    intro k hk
    refine sg_iload f_152_15 rfl ?_
    refine sg_aload_n f_152_17 rfl ?_
    refine sg_getf_k f_152_18 fd_m_0_791 hz ?_
    first | refine sg_ncmp_ge 68 (by omega) (by omega) f_152_21 rfl (fun c21 => ?_) (fun c21 => ?_) | refine sg_icmp_ge 68 f_152_21 rfl (fun c21 => ?_) (fun c21 => ?_)
    · omega
    · refine sg_iload_n f_152_24 rfl ?_
      refine sg_if_eq 60 f_152_25 rfl (fun c25 => ?_) (fun c25 => ?_)
      · refine sg_iconst (nI 0) f_152_60 ki_0 ?_
        refine sg_istore_n [_, _, _, _, _] f_152_61 rfl ?_
        first | refine sg_iinc _ [_, _, _, _, _] f_152_62 rfl (sg_inc1 _) rfl ?_ | refine sg_iinc _ [_, _, _, _, _] f_152_62 rfl rfl rfl ?_
        refine sg_goto 15 f_152_65 rfl ?_
        exact ih (k + 1) (by omega)
      · exact absurd rfl c25
theorem sm_152_k {μ μ' : sg_S} {rr : Option Value} {z r : Nat} {acc : Int32} (hz : μ.1 0 23 = nI z) (hz6 : z ≤ 6) (hr : r < 6) (ht : ∀ i, i < z → ∃ k, k < 17 ∧ μ.1 19 i = nI k) : ∀ n k : Nat, k + n = z → sg_D tm_H 152 68 [.ref 0, .int acc, .int (nI r), .int (sx_fit (μ.1 19) (μ.2 20) (sm_h μ r) n k), .int (nI z)] [] μ rr μ' → sg_D tm_H 152 15 [.ref 0, .int acc, .int (nI r), .int (nI 1), .int (nI k)] [] μ rr μ' := by
  intro n
  induction n with
  | zero =>
    intro k hk kk
    obtain rfl : k = z := by omega
    rw [sx_fit] at kk
    refine sg_iload f_152_15 rfl ?_
    refine sg_aload_n f_152_17 rfl ?_
    refine sg_getf_k f_152_18 fd_m_0_791 hz ?_
    first | refine sg_ncmp_ge 68 (by omega) (by omega) f_152_21 rfl (fun c21 => ?_) (fun c21 => ?_) | refine sg_icmp_ge 68 f_152_21 rfl (fun c21 => ?_) (fun c21 => ?_)
    · exact kk
    · omega
  | succ n ih =>
    intro k hk kk
    obtain ⟨q, hq, hq2⟩ := ht k (by omega)
    rw [sx_fit, hq2, nI_clamp (by omega)] at kk
    refine sg_iload f_152_15 rfl ?_
    refine sg_aload_n f_152_17 rfl ?_
    refine sg_getf_k f_152_18 fd_m_0_791 hz ?_
    first | refine sg_ncmp_ge 68 (by omega) (by omega) f_152_21 rfl (fun c21 => ?_) (fun c21 => ?_) | refine sg_icmp_ge 68 f_152_21 rfl (fun c21 => ?_) (fun c21 => ?_)
    · omega
    · refine sg_iload_n f_152_24 rfl ?_
      refine sg_if_eq 60 f_152_25 rfl (fun c25 => ?_) (fun c25 => ?_)
      · exact absurd c25 (by decide)
      · refine sg_aload_n f_152_28 rfl ?_
        refine sg_getf_r f_152_29 fd_m_0_782 ?_
        refine sg_bipush (nI 17) f_152_32 kb_17 ?_
        refine sg_iload_n f_152_34 rfl ?_
        first | refine sg_imul _ f_152_35 (pk_mul _ _) ?_ | refine sg_imul _ f_152_35 rfl ?_
        refine sg_aload_n f_152_36 rfl ?_
        refine sg_getf_r f_152_37 fd_m_0_789 ?_
        refine sg_iload f_152_40 rfl ?_
        refine sg_iaload_k k ok_m f_152_42 sh_m_19 rfl (by omega) hq2 ?_
        first | refine sg_iadd _ f_152_43 (nI_add _ _) ?_ | refine sg_iadd _ f_152_43 rfl ?_
        refine sg_laload_k (17 * r + q) ok_m f_152_44 sh_m_13 rfl (by omega) (show _ = sm_h μ r q from rfl) ?_
        refine sg_aload_n f_152_45 rfl ?_
        refine sg_getf_r f_152_46 fd_m_0_790 ?_
        refine sg_iload f_152_49 rfl ?_
        refine sg_laload _ ok_m f_152_51 sh_m_20 rfl (by omega) ?_
        refine sg_lcmp f_152_52 ?_
        refine sg_if_ne 60 f_152_53 rfl (fun c53 => ?_) (fun c53 => ?_)
        · rw [if_neg (fun e => c53 (sg_cmp_eq.mpr e))] at kk
          refine sg_iconst (nI 0) f_152_60 ki_0 ?_
          refine sg_istore_n [_, _, _, _, _] f_152_61 rfl ?_
          first | refine sg_iinc _ [_, _, _, _, _] f_152_62 rfl (sg_inc1 _) rfl ?_ | refine sg_iinc _ [_, _, _, _, _] f_152_62 rfl rfl rfl ?_
          refine sg_goto 15 f_152_65 rfl ?_
          first | exact ih (k + 1) (by omega) kk | exact sm_152_z hz hz6 kk n (k + 1) (by omega)
        · rw [if_pos (sg_cmp_eq.mp c53)] at kk
          refine sg_iconst (nI 1) f_152_56 ki_1 ?_
          refine sg_goto 61 f_152_57 rfl ?_
          refine sg_istore_n [_, _, _, _, _] f_152_61 rfl ?_
          first | refine sg_iinc _ [_, _, _, _, _] f_152_62 rfl (sg_inc1 _) rfl ?_ | refine sg_iinc _ [_, _, _, _, _] f_152_62 rfl rfl rfl ?_
          refine sg_goto 15 f_152_65 rfl ?_
          first | exact ih (k + 1) (by omega) kk | exact sm_152_z hz hz6 kk n (k + 1) (by omega)
theorem sx_fit_01 {T : Nat → Int32} {V P : Nat → Int64} : ∀ n i, sx_fit T V P n i = nI 0 ∨ sx_fit T V P n i = nI 1
  | 0, _ => Or.inr rfl
  | n + 1, i => by
    rw [sx_fit]
    split
    · exact sx_fit_01 n (i + 1)
    · exact Or.inl rfl
theorem sm_152_l {μ : sg_S} {z : Nat} (hz : μ.1 0 23 = nI z) (hz6 : z ≤ 6) (ht : ∀ i, i < z → ∃ k, k < 17 ∧ μ.1 19 i = nI k) : ∀ n r acc, r + n = 6 → ∀ l3 l4 : Value, sg_D tm_H 152 4 [.ref 0, .int acc, .int (nI r), l3, l4] [] μ (some (.int (t_wh (fun r => sx_fit (μ.1 19) (μ.2 20) (sm_h μ r) z 0) n r acc))) μ := by
  intro n
  induction n with
  | zero =>
    intro r acc hr l3 l4
    rw [t_wh]
    refine sg_iload_n f_152_4 rfl ?_
    refine sg_bipush (nI 6) f_152_5 kb_6 ?_
    first | refine sg_ncmp_ge 88 (by omega) (by omega) f_152_7 rfl (fun c7 => ?_) (fun c7 => ?_) | refine sg_icmp_ge 88 f_152_7 rfl (fun c7 => ?_) (fun c7 => ?_)
    · refine sg_iload_n f_152_88 rfl ?_
      exact (sg_iret f_152_89 rk_152)
    · omega
  | succ n ih =>
    intro r acc hr l3 l4
    rw [t_wh]
    have h01 := sx_fit_01 (T := μ.1 19) (V := μ.2 20) (P := sm_h μ r) z 0
    have k68 : ∀ F : Int32, F = nI 0 ∨ F = nI 1 → sg_D tm_H 152 68 [.ref 0, .int acc, .int (nI r), .int F, .int (nI z)] [] μ (some (.int (t_wh (fun r => sx_fit (μ.1 19) (μ.2 20) (sm_h μ r) z 0) n (r + 1) (if F = 0 then acc else acc ||| (nI 1 <<< (nI r &&& 31)))))) μ := by
      intro F hF
      rcases hF with hF | hF
      · subst hF
        have e0 : acc ||| nI 0 = acc := by rw [nI_0, Int32.or_zero]
        rw [if_pos nI_0]
        refine sg_iload_n f_152_68 rfl ?_
        refine sg_iload_n f_152_69 rfl ?_
        refine sg_if_eq 79 f_152_70 rfl (fun c70 => ?_) (fun c70 => ?_)
        · refine sg_iconst (nI 0) f_152_79 ki_0 ?_
          refine sg_ior acc f_152_80 e0 ?_
          refine sg_istore_n [_, _, _, _, _] f_152_81 rfl ?_
          first | refine sg_iinc _ [_, _, _, _, _] f_152_82 rfl (sg_inc1 _) rfl ?_ | refine sg_iinc _ [_, _, _, _, _] f_152_82 rfl rfl rfl ?_
          refine sg_goto 4 f_152_85 rfl ?_
          exact ih (r + 1) acc (by omega) _ _
        · exact absurd rfl c70
      · subst hF
        rw [if_neg (by decide)]
        refine sg_iload_n f_152_68 rfl ?_
        refine sg_iload_n f_152_69 rfl ?_
        refine sg_if_eq 79 f_152_70 rfl (fun c70 => ?_) (fun c70 => ?_)
        · exact absurd c70 (by decide)
        · refine sg_iconst (nI 1) f_152_73 ki_1 ?_
          refine sg_iload_n f_152_74 rfl ?_
          refine sg_ishl _ f_152_75 rfl ?_
          refine sg_goto 80 f_152_76 rfl ?_
          refine sg_ior _ f_152_80 rfl ?_
          refine sg_istore_n [_, _, _, _, _] f_152_81 rfl ?_
          first | refine sg_iinc _ [_, _, _, _, _] f_152_82 rfl (sg_inc1 _) rfl ?_ | refine sg_iinc _ [_, _, _, _, _] f_152_82 rfl rfl rfl ?_
          refine sg_goto 4 f_152_85 rfl ?_
          exact ih (r + 1) _ (by omega) _ _
    refine sg_iload_n f_152_4 rfl ?_
    refine sg_bipush (nI 6) f_152_5 kb_6 ?_
    first | refine sg_ncmp_ge 88 (by omega) (by omega) f_152_7 rfl (fun c7 => ?_) (fun c7 => ?_) | refine sg_icmp_ge 88 f_152_7 rfl (fun c7 => ?_) (fun c7 => ?_)
    · omega
    · refine sg_iconst (nI 1) f_152_10 ki_1 ?_
      refine sg_istore_n [_, _, _, _, _] f_152_11 rfl ?_
      refine sg_iconst (nI 0) f_152_12 ki_0 ?_
      refine sg_istore [_, _, _, _, _] f_152_13 rfl ?_
      exact sm_152_k hz hz6 (by omega) ht z 0 (by omega) (k68 _ h01)
theorem sm_152 {μ : sg_S} {z : Nat} (hz : μ.1 0 23 = nI z) (hz6 : z ≤ 6) (ht : ∀ i, i < z → ∃ k, k < 17 ∧ μ.1 19 i = nI k) : sg_D tm_H 152 0 [.ref 0, ab_u, ab_u, ab_u, ab_u] [] μ (some (.int (t_wh (fun r => sx_fit (μ.1 19) (μ.2 20) (sm_h μ r) z 0) 6 0 (nI 0)))) μ := by
  refine sg_iconst (nI 0) f_152_0 ki_0 ?_
  refine sg_istore_n [_, _, _, _, _] f_152_1 rfl ?_
  refine sg_iconst (nI 0) f_152_2 ki_0 ?_
  refine sg_istore_n [_, _, _, _, _] f_152_3 rfl ?_
  exact sm_152_l hz hz6 ht 6 0 (nI 0) (by omega) _ _
/-! the model: a number's place; number, tells -/
theorem sm_s1 {s : Nat} (hs : 1 ≤ s) (hs4 : s ≤ 4) : ((nI (s - 1)).toInt64).toInt = (s : Int) - 1 := by
  rw [Int32.toInt_toInt64, nI_toInt (by omega)]; omega
theorem sm_125_a {μ : sg_S} {s i j : Nat} (hs : μ.1 12 0 = nI s) (hs1 : 1 ≤ s) (hs4 : s ≤ 4) (hi : i < s) (hj : j < s) : sg_D tm_H 125 0 [.ref 0, .int (nI i), .int (nI j)] [] μ (some (.int (nI (1 + 4 * i + j)))) μ := by
  have e := sm_s1 hs1 hs4
  have ei := nI_toInt (show i < 2 ^ 31 by omega)
  have ej := nI_toInt (show j < 2 ^ 31 by omega)
  have z0 : (0 : Int64).toInt = 0 := rfl
  have z1 : (-1 : Int64).toInt = -1 := rfl
  refine sg_iload_n f_125_0 rfl ?_
  refine sg_i2l _ f_125_1 rfl ?_
  refine sg_lconst 0 f_125_2 rfl ?_
  refine sg_aload_n f_125_3 rfl ?_
  refine sg_getf_r f_125_4 fd_m_0_781 ?_
  refine sg_iconst (nI 0) f_125_7 ki_0 ?_
  refine sg_iaload_k 0 ok_m f_125_8 sh_m_12 rfl (by omega) hs ?_
  refine sg_iconst (nI 1) f_125_9 ki_1 ?_
  refine sg_isub (nI (s - 1)) f_125_10 (pk_sub hs1) ?_
  refine sg_i2l _ f_125_11 rfl ?_
  refine sg_calls_i f_125_12 my_125_99 mr_99 (by decide) rfl (Nat.le_of_ble_eq_true rfl) (Nat.le_of_ble_eq_true rfl) rfl (sm_99_1 (by constructor <;> omega)) ?_
  refine sg_if_eq 38 f_125_15 rfl (fun c15 => ?_) (fun c15 => ?_)
  · exact absurd c15 (by decide)
  · refine sg_iload_n f_125_18 rfl ?_
    refine sg_i2l _ f_125_19 rfl ?_
    refine sg_ldc2_w (-1) f_125_20 rfl ?_
    refine sg_aload_n f_125_23 rfl ?_
    refine sg_getf_r f_125_24 fd_m_0_781 ?_
    refine sg_iconst (nI 0) f_125_27 ki_0 ?_
    refine sg_iaload_k 0 ok_m f_125_28 sh_m_12 rfl (by omega) hs ?_
    refine sg_iconst (nI 1) f_125_29 ki_1 ?_
    refine sg_isub (nI (s - 1)) f_125_30 (pk_sub hs1) ?_
    refine sg_i2l _ f_125_31 rfl ?_
    refine sg_calls_i f_125_32 my_125_99 mr_99 (by decide) rfl (Nat.le_of_ble_eq_true rfl) (Nat.le_of_ble_eq_true rfl) rfl (sm_99_1 (by constructor <;> omega)) ?_
    refine sg_if_ne 41 f_125_35 rfl (fun c35 => ?_) (fun c35 => ?_)
    · refine sg_iload_n f_125_41 rfl ?_
      refine sg_iconst (-1) f_125_42 ki_m1 ?_
      refine sg_icmp_ne 53 f_125_43 rfl (fun c43 => ?_) (fun c43 => ?_)
      · refine sg_iconst (nI 1) f_125_53 ki_1 ?_
        refine sg_iconst (nI 4) f_125_54 ki_4 ?_
        refine sg_iload_n f_125_55 rfl ?_
        first | refine sg_imul _ f_125_56 (pk_mul _ _) ?_ | refine sg_imul _ f_125_56 rfl ?_
        first | refine sg_iadd _ f_125_57 (nI_add _ _) ?_ | refine sg_iadd _ f_125_57 rfl ?_
        refine sg_iload_n f_125_58 rfl ?_
        first | refine sg_iadd _ f_125_59 (nI_add _ _) ?_ | refine sg_iadd _ f_125_59 rfl ?_
        exact (sg_iret f_125_60 rk_125)
      · exact absurd c43 (sg_ne_m1 (by omega))
    · exact absurd c35 (by decide)
theorem sm_125_b {μ : sg_S} {s i : Nat} (hs : μ.1 12 0 = nI s) (hs1 : 1 ≤ s) (hs4 : s ≤ 4) (hi : i < s) : sg_D tm_H 125 0 [.ref 0, .int (nI i), .int (-1)] [] μ (some (.int (nI (17 + i)))) μ := by
  have e := sm_s1 hs1 hs4
  have ei := nI_toInt (show i < 2 ^ 31 by omega)
  have z0 : (0 : Int64).toInt = 0 := rfl
  have z1 : (-1 : Int64).toInt = -1 := rfl
  have z2 : (-1 : Int32).toInt = -1 := rfl
  refine sg_iload_n f_125_0 rfl ?_
  refine sg_i2l _ f_125_1 rfl ?_
  refine sg_lconst 0 f_125_2 rfl ?_
  refine sg_aload_n f_125_3 rfl ?_
  refine sg_getf_r f_125_4 fd_m_0_781 ?_
  refine sg_iconst (nI 0) f_125_7 ki_0 ?_
  refine sg_iaload_k 0 ok_m f_125_8 sh_m_12 rfl (by omega) hs ?_
  refine sg_iconst (nI 1) f_125_9 ki_1 ?_
  refine sg_isub (nI (s - 1)) f_125_10 (pk_sub hs1) ?_
  refine sg_i2l _ f_125_11 rfl ?_
  refine sg_calls_i f_125_12 my_125_99 mr_99 (by decide) rfl (Nat.le_of_ble_eq_true rfl) (Nat.le_of_ble_eq_true rfl) rfl (sm_99_1 (by constructor <;> omega)) ?_
  refine sg_if_eq 38 f_125_15 rfl (fun c15 => ?_) (fun c15 => ?_)
  · exact absurd c15 (by decide)
  · refine sg_iload_n f_125_18 rfl ?_
    refine sg_i2l _ f_125_19 rfl ?_
    refine sg_ldc2_w (-1) f_125_20 rfl ?_
    refine sg_aload_n f_125_23 rfl ?_
    refine sg_getf_r f_125_24 fd_m_0_781 ?_
    refine sg_iconst (nI 0) f_125_27 ki_0 ?_
    refine sg_iaload_k 0 ok_m f_125_28 sh_m_12 rfl (by omega) hs ?_
    refine sg_iconst (nI 1) f_125_29 ki_1 ?_
    refine sg_isub (nI (s - 1)) f_125_30 (pk_sub hs1) ?_
    refine sg_i2l _ f_125_31 rfl ?_
    refine sg_calls_i f_125_32 my_125_99 mr_99 (by decide) rfl (Nat.le_of_ble_eq_true rfl) (Nat.le_of_ble_eq_true rfl) rfl (sm_99_1 (by constructor <;> omega)) ?_
    refine sg_if_ne 41 f_125_35 rfl (fun c35 => ?_) (fun c35 => ?_)
    · refine sg_iload_n f_125_41 rfl ?_
      refine sg_iconst (-1) f_125_42 ki_m1 ?_
      refine sg_icmp_ne 53 f_125_43 rfl (fun c43 => ?_) (fun c43 => ?_)
      · exact absurd rfl c43
      · refine sg_bipush (nI 17) f_125_46 kb_17 ?_
        refine sg_iload_n f_125_48 rfl ?_
        first | refine sg_iadd _ f_125_49 (nI_add _ _) ?_ | refine sg_iadd _ f_125_49 rfl ?_
        refine sg_goto 60 f_125_50 rfl ?_
        exact (sg_iret f_125_60 rk_125)
    · exact absurd c35 (by decide)
theorem sm_125_bad {μ : sg_S} {s : Nat} {i j : Int32} (hs : μ.1 12 0 = nI s) (hs1 : 1 ≤ s) (hs4 : s ≤ 4) (h : ¬ sx_has (nI s) i j) : sg_D tm_H 125 0 [.ref 0, .int i, .int j] [] μ (some (.int (-9))) μ := by
  have e := sm_s1 hs1 hs4
  have es := nI_toInt (show s < 2 ^ 31 by omega)
  have z0 : (0 : Int64).toInt = 0 := rfl
  have z1 : (-1 : Int64).toInt = -1 := rfl
  have h' : ¬ (0 ≤ i.toInt ∧ i.toInt < s ∧ -1 ≤ j.toInt ∧ j.toInt < s) := by
    rintro ⟨a1, a2, a3, a4⟩
    refine h ⟨fun z => ?_, fun z => ?_, fun z => ?_, fun z => ?_⟩
    · have := Int32.lt_iff_toInt_lt.mp z
      have z3 : (0 : Int32).toInt = 0 := rfl
      omega
    · have := Int32.le_iff_toInt_le.mp z
      omega
    · have := Int32.lt_iff_toInt_lt.mp z
      have z3 : (-1 : Int32).toInt = -1 := rfl
      omega
    · have := Int32.le_iff_toInt_le.mp z
      omega
  by_cases hi : 0 ≤ i.toInt ∧ i.toInt < s
  · skip
    refine sg_iload_n f_125_0 rfl ?_
    refine sg_i2l _ f_125_1 rfl ?_
    refine sg_lconst 0 f_125_2 rfl ?_
    refine sg_aload_n f_125_3 rfl ?_
    refine sg_getf_r f_125_4 fd_m_0_781 ?_
    refine sg_iconst (nI 0) f_125_7 ki_0 ?_
    refine sg_iaload_k 0 ok_m f_125_8 sh_m_12 rfl (by omega) hs ?_
    refine sg_iconst (nI 1) f_125_9 ki_1 ?_
    refine sg_isub (nI (s - 1)) f_125_10 (pk_sub hs1) ?_
    refine sg_i2l _ f_125_11 rfl ?_
    refine sg_calls_i f_125_12 my_125_99 mr_99 (by decide) rfl (Nat.le_of_ble_eq_true rfl) (Nat.le_of_ble_eq_true rfl) rfl (sm_99_1 (by constructor <;> omega)) ?_
    refine sg_if_eq 38 f_125_15 rfl (fun c15 => ?_) (fun c15 => ?_)
    · exact absurd c15 (by decide)
    · refine sg_iload_n f_125_18 rfl ?_
      refine sg_i2l _ f_125_19 rfl ?_
      refine sg_ldc2_w (-1) f_125_20 rfl ?_
      refine sg_aload_n f_125_23 rfl ?_
      refine sg_getf_r f_125_24 fd_m_0_781 ?_
      refine sg_iconst (nI 0) f_125_27 ki_0 ?_
      refine sg_iaload_k 0 ok_m f_125_28 sh_m_12 rfl (by omega) hs ?_
      refine sg_iconst (nI 1) f_125_29 ki_1 ?_
      refine sg_isub (nI (s - 1)) f_125_30 (pk_sub hs1) ?_
      refine sg_i2l _ f_125_31 rfl ?_
      refine sg_calls_i f_125_32 my_125_99 mr_99 (by decide) rfl (Nat.le_of_ble_eq_true rfl) (Nat.le_of_ble_eq_true rfl) rfl (sm_99_0 (by omega)) ?_
      refine sg_if_ne 41 f_125_35 rfl (fun c35 => ?_) (fun c35 => ?_)
      · exact absurd rfl c35
      · refine sg_bipush (-9) f_125_38 kb_m9 ?_
        exact (sg_iret f_125_40 rk_125)
  · skip
    refine sg_iload_n f_125_0 rfl ?_
    refine sg_i2l _ f_125_1 rfl ?_
    refine sg_lconst 0 f_125_2 rfl ?_
    refine sg_aload_n f_125_3 rfl ?_
    refine sg_getf_r f_125_4 fd_m_0_781 ?_
    refine sg_iconst (nI 0) f_125_7 ki_0 ?_
    refine sg_iaload_k 0 ok_m f_125_8 sh_m_12 rfl (by omega) hs ?_
    refine sg_iconst (nI 1) f_125_9 ki_1 ?_
    refine sg_isub (nI (s - 1)) f_125_10 (pk_sub hs1) ?_
    refine sg_i2l _ f_125_11 rfl ?_
    refine sg_calls_i f_125_12 my_125_99 mr_99 (by decide) rfl (Nat.le_of_ble_eq_true rfl) (Nat.le_of_ble_eq_true rfl) rfl (sm_99_0 (by omega)) ?_
    refine sg_if_eq 38 f_125_15 rfl (fun c15 => ?_) (fun c15 => ?_)
    · refine sg_bipush (-9) f_125_38 kb_m9 ?_
      exact (sg_iret f_125_40 rk_125)
    · exact absurd rfl c15
theorem sm_127_bad {μ : sg_S} {i j : Int32} (h : sg_D tm_H 125 0 [.ref 0, .int i, .int j] [] μ (some (.int (-9))) μ) : sg_D tm_H 127 0 [.ref 0, .int i, .int j, ab_u] [] μ (some (.int (-1001))) μ := by
  refine sg_aload_n f_127_0 rfl ?_
  refine sg_iload_n f_127_1 rfl ?_
  refine sg_iload_n f_127_2 rfl ?_
  refine sg_callv_i f_127_3 my_127_125 mr_125 rfl (Nat.le_of_ble_eq_true rfl) (Nat.le_of_ble_eq_true rfl) sh_m_0 (by decide) rfl h ?_
  refine sg_istore_n [_, _, _, _] f_127_6 rfl ?_
  refine sg_iload_n f_127_7 rfl ?_
  refine sg_bipush (-9) f_127_8 kb_m9 ?_
  refine sg_icmp_ne 19 f_127_10 rfl (fun c10 => ?_) (fun c10 => ?_)
  · exact absurd rfl c10
  · refine sg_sipush (-1001) f_127_13 ks_m1001 ?_
    refine sg_goto 25 f_127_16 rfl ?_
    exact (sg_iret f_127_25 rk_127)
theorem sm_127 {μ : sg_S} {i j : Int32} {k : Nat} (hk : k < 21) (h : sg_D tm_H 125 0 [.ref 0, .int i, .int j] [] μ (some (.int (nI k))) μ) : sg_D tm_H 127 0 [.ref 0, .int i, .int j, ab_u] [] μ (some (.int (μ.1 12 k))) μ := by
  refine sg_aload_n f_127_0 rfl ?_
  refine sg_iload_n f_127_1 rfl ?_
  refine sg_iload_n f_127_2 rfl ?_
  refine sg_callv_i f_127_3 my_127_125 mr_125 rfl (Nat.le_of_ble_eq_true rfl) (Nat.le_of_ble_eq_true rfl) sh_m_0 (by decide) rfl h ?_
  refine sg_istore_n [_, _, _, _] f_127_6 rfl ?_
  refine sg_iload_n f_127_7 rfl ?_
  refine sg_bipush (-9) f_127_8 kb_m9 ?_
  refine sg_icmp_ne 19 f_127_10 rfl (fun c10 => ?_) (fun c10 => ?_)
  · refine sg_aload_n f_127_19 rfl ?_
    refine sg_getf_r f_127_20 fd_m_0_781 ?_
    refine sg_iload_n f_127_23 rfl ?_
    refine sg_iaload _ ok_m f_127_24 sh_m_12 rfl (by omega) ?_
    exact (sg_iret f_127_25 rk_127)
  · exact absurd c10 (sg_ne_m9 (by omega))
theorem sm_126_bad0 {μ : sg_S} {i j v : Int32} (h : sg_D tm_H 125 0 [.ref 0, .int i, .int j] [] μ (some (.int (-9))) μ) : sg_D tm_H 126 0 [.ref 0, .int i, .int j, .int v, ab_u, ab_u] [] μ (some (.int (-1001))) μ := by
  refine sg_aload_n f_126_0 rfl ?_
  refine sg_iload_n f_126_1 rfl ?_
  refine sg_iload_n f_126_2 rfl ?_
  refine sg_callv_i f_126_3 my_126_125 mr_125 rfl (Nat.le_of_ble_eq_true rfl) (Nat.le_of_ble_eq_true rfl) sh_m_0 (by decide) rfl h ?_
  refine sg_istore [_, _, _, _, _, _] f_126_6 rfl ?_
  refine sg_iload f_126_8 rfl ?_
  refine sg_bipush (-9) f_126_10 kb_m9 ?_
  refine sg_icmp_eq 29 f_126_12 rfl (fun c12 => ?_) (fun c12 => ?_)
  · refine sg_sipush (-1001) f_126_29 ks_m1001 ?_
    exact (sg_iret f_126_32 rk_126)
  · exact absurd rfl c12
theorem sm_126_bad1 {μ : sg_S} {i j v : Int32} {k : Nat} (hk : k < 21) (h : sg_D tm_H 125 0 [.ref 0, .int i, .int j] [] μ (some (.int (nI k))) μ) (hv : v < -600 ∨ ¬ v ≤ nI 600) : sg_D tm_H 126 0 [.ref 0, .int i, .int j, .int v, ab_u, ab_u] [] μ (some (.int (-1001))) μ := by
  have hv' : v.toInt < (-600 : Int64).toInt ∨ (600 : Int64).toInt < v.toInt := by
    rcases hv with hv | hv
    · exact Or.inl (Int32.lt_iff_toInt_lt.mp hv)
    · exact Or.inr (Int32.lt_iff_toInt_lt.mp (Int32.not_le.mp hv))
  refine sg_aload_n f_126_0 rfl ?_
  refine sg_iload_n f_126_1 rfl ?_
  refine sg_iload_n f_126_2 rfl ?_
  refine sg_callv_i f_126_3 my_126_125 mr_125 rfl (Nat.le_of_ble_eq_true rfl) (Nat.le_of_ble_eq_true rfl) sh_m_0 (by decide) rfl h ?_
  refine sg_istore [_, _, _, _, _, _] f_126_6 rfl ?_
  refine sg_iload f_126_8 rfl ?_
  refine sg_bipush (-9) f_126_10 kb_m9 ?_
  refine sg_icmp_eq 29 f_126_12 rfl (fun c12 => ?_) (fun c12 => ?_)
  · exact absurd c12 (sg_ne_m9 (by omega))
  · refine sg_iload_n f_126_15 rfl ?_
    refine sg_i2l _ f_126_16 rfl ?_
    refine sg_ldc2_w (-600) f_126_17 rfl ?_
    refine sg_ldc2_w (600) f_126_20 rfl ?_
    refine sg_calls_i f_126_23 my_126_99 mr_99 (by decide) rfl (Nat.le_of_ble_eq_true rfl) (Nat.le_of_ble_eq_true rfl) rfl (sm_99_0 hv') ?_
    refine sg_if_ne 33 f_126_26 rfl (fun c26 => ?_) (fun c26 => ?_)
    · exact absurd rfl c26
    · refine sg_sipush (-1001) f_126_29 ks_m1001 ?_
      exact (sg_iret f_126_32 rk_126)
theorem sm_126_st {μ : sg_S} {i j v : Int32} {k : Nat} (hk : k < 21) (h : sg_D tm_H 125 0 [.ref 0, .int i, .int j] [] μ (some (.int (nI k))) μ) (h1 : ¬ v < -600) (h2 : v ≤ nI 600) (he : μ.1 12 k = v) : sg_D tm_H 126 0 [.ref 0, .int i, .int j, .int v, ab_u, ab_u] [] μ (some (.int (-1002))) μ := by
  have hv' : (-600 : Int64).toInt ≤ v.toInt ∧ v.toInt ≤ (600 : Int64).toInt := ⟨Int32.le_iff_toInt_le.mp (Int32.not_lt.mp h1), Int32.le_iff_toInt_le.mp h2⟩
  refine sg_aload_n f_126_0 rfl ?_
  refine sg_iload_n f_126_1 rfl ?_
  refine sg_iload_n f_126_2 rfl ?_
  refine sg_callv_i f_126_3 my_126_125 mr_125 rfl (Nat.le_of_ble_eq_true rfl) (Nat.le_of_ble_eq_true rfl) sh_m_0 (by decide) rfl h ?_
  refine sg_istore [_, _, _, _, _, _] f_126_6 rfl ?_
  refine sg_iload f_126_8 rfl ?_
  refine sg_bipush (-9) f_126_10 kb_m9 ?_
  refine sg_icmp_eq 29 f_126_12 rfl (fun c12 => ?_) (fun c12 => ?_)
  · exact absurd c12 (sg_ne_m9 (by omega))
  · refine sg_iload_n f_126_15 rfl ?_
    refine sg_i2l _ f_126_16 rfl ?_
    refine sg_ldc2_w (-600) f_126_17 rfl ?_
    refine sg_ldc2_w (600) f_126_20 rfl ?_
    refine sg_calls_i f_126_23 my_126_99 mr_99 (by decide) rfl (Nat.le_of_ble_eq_true rfl) (Nat.le_of_ble_eq_true rfl) rfl (sm_99_1 hv') ?_
    refine sg_if_ne 33 f_126_26 rfl (fun c26 => ?_) (fun c26 => ?_)
    · refine sg_aload_n f_126_33 rfl ?_
      refine sg_getf_r f_126_34 fd_m_0_781 ?_
      refine sg_iload f_126_37 rfl ?_
      refine sg_iaload _ ok_m f_126_39 sh_m_12 rfl (by omega) ?_
      refine sg_iload_n f_126_40 rfl ?_
      refine sg_icmp_ne 48 f_126_41 rfl (fun c41 => ?_) (fun c41 => ?_)
      · exact absurd he c41
      · refine sg_sipush (-1002) f_126_44 ks_m1002 ?_
        exact (sg_iret f_126_47 rk_126)
    · exact absurd c26 (by decide)
theorem sm_126 {μ : sg_S} {i j v : Int32} {k z : Nat} (hz : μ.1 0 17 = nI z) (hz6 : z ≤ 6) (hk : k < 21) (h : sg_D tm_H 125 0 [.ref 0, .int i, .int j] [] μ (some (.int (nI k))) μ) (h1 : ¬ v < -600) (h2 : v ≤ nI 600) (he : μ.1 12 k ≠ v) : ∃ μ1 : sg_S, sm_N μ μ1 z ∧ sg_D tm_H 126 0 [.ref 0, .int i, .int j, .int v, ab_u, ab_u] [] μ (some (.int (μ.1 12 k))) (sg_r1 μ1 12 (upd (μ.1 12) k v)) := by
  have hv' : (-600 : Int64).toInt ≤ v.toInt ∧ v.toInt ≤ (600 : Int64).toInt := ⟨Int32.le_iff_toInt_le.mp (Int32.not_lt.mp h1), Int32.le_iff_toInt_le.mp h2⟩
  obtain ⟨μ1, k1, hN⟩ := sm_123 hz hz6
  refine ⟨μ1, hN, ?_⟩
  have e12 := hN.1 12 (by omega) (by omega)
  rw [← e12]
  rw [← e12] at he
  refine sg_aload_n f_126_0 rfl ?_
  refine sg_iload_n f_126_1 rfl ?_
  refine sg_iload_n f_126_2 rfl ?_
  refine sg_callv_i f_126_3 my_126_125 mr_125 rfl (Nat.le_of_ble_eq_true rfl) (Nat.le_of_ble_eq_true rfl) sh_m_0 (by decide) rfl h ?_
  refine sg_istore [_, _, _, _, _, _] f_126_6 rfl ?_
  refine sg_iload f_126_8 rfl ?_
  refine sg_bipush (-9) f_126_10 kb_m9 ?_
  refine sg_icmp_eq 29 f_126_12 rfl (fun c12 => ?_) (fun c12 => ?_)
  · exact absurd c12 (sg_ne_m9 (by omega))
  · refine sg_iload_n f_126_15 rfl ?_
    refine sg_i2l _ f_126_16 rfl ?_
    refine sg_ldc2_w (-600) f_126_17 rfl ?_
    refine sg_ldc2_w (600) f_126_20 rfl ?_
    refine sg_calls_i f_126_23 my_126_99 mr_99 (by decide) rfl (Nat.le_of_ble_eq_true rfl) (Nat.le_of_ble_eq_true rfl) rfl (sm_99_1 hv') ?_
    refine sg_if_ne 33 f_126_26 rfl (fun c26 => ?_) (fun c26 => ?_)
    · refine sg_aload_n f_126_33 rfl ?_
      refine sg_getf_r f_126_34 fd_m_0_781 ?_
      refine sg_iload f_126_37 rfl ?_
      refine sg_iaload_k k ok_m f_126_39 sh_m_12 rfl (by omega) (show _ = μ1.1 12 k by rw [e12]) ?_
      refine sg_iload_n f_126_40 rfl ?_
      refine sg_icmp_ne 48 f_126_41 rfl (fun c41 => ?_) (fun c41 => ?_)
      · refine sg_aload_n f_126_48 rfl ?_
        refine sg_callv_v f_126_49 my_126_123 mr_123 rfl (Nat.le_of_ble_eq_true rfl) (Nat.le_of_ble_eq_true rfl) sh_m_0 (by decide) rfl k1 ?_
        refine sg_aload_n f_126_52 rfl ?_
        refine sg_getf_r f_126_53 fd_m_0_781 ?_
        refine sg_iload f_126_56 rfl ?_
        refine sg_iaload _ ok_m f_126_58 sh_m_12 rfl (by omega) ?_
        refine sg_istore [_, _, _, _, _, _] f_126_59 rfl ?_
        refine sg_aload_n f_126_61 rfl ?_
        refine sg_getf_r f_126_62 fd_m_0_781 ?_
        refine sg_iload f_126_65 rfl ?_
        refine sg_iload_n f_126_67 rfl ?_
        refine sg_iastore _ ok_m f_126_68 sh_m_12 rfl (by omega) ?_
        refine sg_iload f_126_69 rfl ?_
        exact (sg_iret f_126_71 rk_126)
      · exact absurd c41 he
    · exact absurd c26 (by decide)
