/-! the model: rows copied in loops -/
def sg_c1 (f : Nat → Int32) (o n : Nat) (g : Nat → Int32) : Nat → Int32 := fun k => if o ≤ k ∧ k < o + n then g (k - o) else f k
def sg_c2 (f : Nat → Int64) (o n : Nat) (g : Nat → Int64) : Nat → Int64 := fun k => if o ≤ k ∧ k < o + n then g (k - o) else f k
theorem sg_c1_0 {f g : Nat → Int32} {o : Nat} : sg_c1 f o 0 g = f := by
  funext k; unfold sg_c1; rw [if_neg (by omega)]
theorem sg_c2_0 {f g : Nat → Int64} {o : Nat} : sg_c2 f o 0 g = f := by
  funext k; unfold sg_c2; rw [if_neg (by omega)]
theorem sg_c1_s {f g : Nat → Int32} {o i k : Nat} {v : Int32} (hk : k = o + i) (hv : v = g i) : upd (sg_c1 f o i g) k v = sg_c1 f o (i + 1) g := by
  subst hk; subst hv
  funext j
  unfold upd sg_c1
  by_cases h : j = o + i
  · subst h; rw [if_pos rfl, if_pos (by omega), Nat.add_sub_cancel_left]
  · rw [if_neg h]
    by_cases h2 : o ≤ j ∧ j < o + i
    · rw [if_pos h2, if_pos (by omega)]
    · rw [if_neg h2, if_neg (by omega)]
theorem sg_c2_s {f g : Nat → Int64} {o i k : Nat} {v : Int64} (hk : k = o + i) (hv : v = g i) : vp_updL (sg_c2 f o i g) k v = sg_c2 f o (i + 1) g := by
  subst hk; subst hv
  funext j
  unfold vp_updL sg_c2
  by_cases h : j = o + i
  · subst h; rw [if_pos rfl, if_pos (by omega), Nat.add_sub_cancel_left]
  · rw [if_neg h]
    by_cases h2 : o ≤ j ∧ j < o + i
    · rw [if_pos h2, if_pos (by omega)]
    · rw [if_neg h2, if_neg (by omega)]
theorem sg_c1_in {f g : Nat → Int32} {o n k : Nat} (h : k < n) : sg_c1 f o n g (o + k) = g k := by
  unfold sg_c1; rw [if_pos (by omega), Nat.add_sub_cancel_left]
theorem sg_c2_in {f g : Nat → Int64} {o n k : Nat} (h : k < n) : sg_c2 f o n g (o + k) = g k := by
  unfold sg_c2; rw [if_pos (by omega), Nat.add_sub_cancel_left]
theorem sg_c1_out {f g : Nat → Int32} {o n k : Nat} (h : k < o ∨ o + n ≤ k) : sg_c1 f o n g k = f k := by
  unfold sg_c1; rw [if_neg (by omega)]
theorem sg_c2_out {f g : Nat → Int64} {o n k : Nat} (h : k < o ∨ o + n ≤ k) : sg_c2 f o n g k = f k := by
  unfold sg_c2; rw [if_neg (by omega)]
theorem sm_123_a {μ μ' : sg_S} {rr : Option Value}  : ∀ m i : Nat, i + m = 105 → sg_D tm_H 123 38 [.ref 0, .int (nI 105)] [] (sg_r1 μ 14 (sg_c1 (μ.1 14) (0) 105 (fun k => μ.1 14 (k + 21)))) rr μ' → sg_D tm_H 123 11 [.ref 0, .int (nI i)] [] (sg_r1 μ 14 (sg_c1 (μ.1 14) (0) i (fun k => μ.1 14 (k + 21)))) rr μ' := by
  intro m
  induction m with
  | zero =>
    intro i hi kk
    obtain rfl : i = 105 := by omega
    refine sg_iload_n f_123_11 rfl ?_
    refine sg_bipush (nI 105) f_123_12 kb_105 ?_
    first | refine sg_ncmp_ge 38 (by omega) (by omega) f_123_14 rfl (fun c14 => ?_) (fun c14 => ?_) | refine sg_icmp_ge 38 f_123_14 rfl (fun c14 => ?_) (fun c14 => ?_)
    · exact kk
    · omega
  | succ m ih =>
    intro i hi kk
    refine sg_iload_n f_123_11 rfl ?_
    refine sg_bipush (nI 105) f_123_12 kb_105 ?_
    first | refine sg_ncmp_ge 38 (by omega) (by omega) f_123_14 rfl (fun c14 => ?_) (fun c14 => ?_) | refine sg_icmp_ge 38 f_123_14 rfl (fun c14 => ?_) (fun c14 => ?_)
    · omega
    · refine sg_aload_n f_123_17 rfl ?_
      refine sg_getf_r f_123_18 fd_m_0_783 ?_
      refine sg_iload_n f_123_21 rfl ?_
      refine sg_aload_n f_123_22 rfl ?_
      refine sg_getf_r f_123_23 fd_m_0_783 ?_
      refine sg_iload_n f_123_26 rfl ?_
      refine sg_bipush (nI 21) f_123_27 kb_21 ?_
      first | refine sg_iadd _ f_123_29 (nI_add _ _) ?_ | refine sg_iadd _ f_123_29 rfl ?_
      refine sg_iaload_k (i + 21) ok_m f_123_30 sh_m_14 rfl (by omega) (show _ = μ.1 14 (i + 21) by rw [sg_r1_eq]; exact sg_c1_out (by omega)) ?_
      refine sg_iastore _ ok_m f_123_31 sh_m_14 rfl (by omega) ?_
      first | refine sg_iinc _ [_, _] f_123_32 rfl (sg_inc1 _) rfl ?_ | refine sg_iinc _ [_, _] f_123_32 rfl rfl rfl ?_
      refine sg_goto 11 f_123_35 rfl ?_
      refine sg_from ?_ (ih (i + 1) (by omega) kk)
      rw [sg_r1_r1, sg_r1_eq]
      exact congrArg (sg_r1 μ 14) (sg_c1_s (by omega) rfl)
theorem sm_123_a_0 {μ μ' : sg_S} {rr : Option Value}  (kk : sg_D tm_H 123 38 [.ref 0, .int (nI 105)] [] (sg_r1 μ 14 (sg_c1 (μ.1 14) (0) 105 (fun k => μ.1 14 (k + 21)))) rr μ') : sg_D tm_H 123 11 [.ref 0, .int (nI 0)] [] μ rr μ' := by
  have h := sm_123_a  105 0 (by omega) kk
  rw [sg_c1_0, sg_r1_self rfl] at h
  exact h
theorem sm_123_b {μ μ' : sg_S} {rr : Option Value}  : ∀ m i : Nat, i + m = 510 → sg_D tm_H 123 68 [.ref 0, .int (nI 510)] [] (sg_r2 μ 15 (sg_c2 (μ.2 15) (0) 510 (fun k => μ.2 15 (k + 102)))) rr μ' → sg_D tm_H 123 40 [.ref 0, .int (nI i)] [] (sg_r2 μ 15 (sg_c2 (μ.2 15) (0) i (fun k => μ.2 15 (k + 102)))) rr μ' := by
  intro m
  induction m with
  | zero =>
    intro i hi kk
    obtain rfl : i = 510 := by omega
    refine sg_iload_n f_123_40 rfl ?_
    refine sg_sipush (nI 510) f_123_41 ks_510 ?_
    first | refine sg_ncmp_ge 68 (by omega) (by omega) f_123_44 rfl (fun c44 => ?_) (fun c44 => ?_) | refine sg_icmp_ge 68 f_123_44 rfl (fun c44 => ?_) (fun c44 => ?_)
    · exact kk
    · omega
  | succ m ih =>
    intro i hi kk
    refine sg_iload_n f_123_40 rfl ?_
    refine sg_sipush (nI 510) f_123_41 ks_510 ?_
    first | refine sg_ncmp_ge 68 (by omega) (by omega) f_123_44 rfl (fun c44 => ?_) (fun c44 => ?_) | refine sg_icmp_ge 68 f_123_44 rfl (fun c44 => ?_) (fun c44 => ?_)
    · omega
    · refine sg_aload_n f_123_47 rfl ?_
      refine sg_getf_r f_123_48 fd_m_0_784 ?_
      refine sg_iload_n f_123_51 rfl ?_
      refine sg_aload_n f_123_52 rfl ?_
      refine sg_getf_r f_123_53 fd_m_0_784 ?_
      refine sg_iload_n f_123_56 rfl ?_
      refine sg_bipush (nI 102) f_123_57 kb_102 ?_
      first | refine sg_iadd _ f_123_59 (nI_add _ _) ?_ | refine sg_iadd _ f_123_59 rfl ?_
      refine sg_laload_k (i + 102) ok_m f_123_60 sh_m_15 rfl (by omega) (show _ = μ.2 15 (i + 102) by rw [sg_r2_eq]; exact sg_c2_out (by omega)) ?_
      refine sg_lastore _ ok_m f_123_61 sh_m_15 rfl (by omega) ?_
      first | refine sg_iinc _ [_, _] f_123_62 rfl (sg_inc1 _) rfl ?_ | refine sg_iinc _ [_, _] f_123_62 rfl rfl rfl ?_
      refine sg_goto 40 f_123_65 rfl ?_
      refine sg_from ?_ (ih (i + 1) (by omega) kk)
      rw [sg_r2_r2, sg_r2_eq]
      exact congrArg (sg_r2 μ 15) (sg_c2_s (by omega) rfl)
theorem sm_123_b_0 {μ μ' : sg_S} {rr : Option Value}  (kk : sg_D tm_H 123 68 [.ref 0, .int (nI 510)] [] (sg_r2 μ 15 (sg_c2 (μ.2 15) (0) 510 (fun k => μ.2 15 (k + 102)))) rr μ') : sg_D tm_H 123 40 [.ref 0, .int (nI 0)] [] μ rr μ' := by
  have h := sm_123_b  510 0 (by omega) kk
  rw [sg_c2_0, sg_r2_self rfl] at h
  exact h
theorem sm_123_c {μ μ' : sg_S} {rr : Option Value} {z : Nat} (hz : μ.1 0 17 = nI z) (hz5 : z ≤ 5) : ∀ m i : Nat, i + m = 21 → sg_D tm_H 123 112 [.ref 0, .int (nI 21)] [] (sg_r1 μ 14 (sg_c1 (μ.1 14) (21 * z) 21 (fun k => μ.1 12 k))) rr μ' → sg_D tm_H 123 80 [.ref 0, .int (nI i)] [] (sg_r1 μ 14 (sg_c1 (μ.1 14) (21 * z) i (fun k => μ.1 12 k))) rr μ' := by
  intro m
  induction m with
  | zero =>
    intro i hi kk
    obtain rfl : i = 21 := by omega
    refine sg_iload_n f_123_80 rfl ?_
    refine sg_bipush (nI 21) f_123_81 kb_21 ?_
    first | refine sg_ncmp_ge 112 (by omega) (by omega) f_123_83 rfl (fun c83 => ?_) (fun c83 => ?_) | refine sg_icmp_ge 112 f_123_83 rfl (fun c83 => ?_) (fun c83 => ?_)
    · exact kk
    · omega
  | succ m ih =>
    intro i hi kk
    refine sg_iload_n f_123_80 rfl ?_
    refine sg_bipush (nI 21) f_123_81 kb_21 ?_
    first | refine sg_ncmp_ge 112 (by omega) (by omega) f_123_83 rfl (fun c83 => ?_) (fun c83 => ?_) | refine sg_icmp_ge 112 f_123_83 rfl (fun c83 => ?_) (fun c83 => ?_)
    · omega
    · refine sg_aload_n f_123_86 rfl ?_
      refine sg_getf_r f_123_87 fd_m_0_783 ?_
      refine sg_bipush (nI 21) f_123_90 kb_21 ?_
      refine sg_aload_n f_123_92 rfl ?_
      refine sg_getf_k f_123_93 fd_m_0_785 (show (sg_r1 μ 14 _).1 0 17 = nI z from hz) ?_
      first | refine sg_imul _ f_123_96 (pk_mul _ _) ?_ | refine sg_imul _ f_123_96 rfl ?_
      refine sg_iload_n f_123_97 rfl ?_
      first | refine sg_iadd _ f_123_98 (nI_add _ _) ?_ | refine sg_iadd _ f_123_98 rfl ?_
      refine sg_aload_n f_123_99 rfl ?_
      refine sg_getf_r f_123_100 fd_m_0_781 ?_
      refine sg_iload_n f_123_103 rfl ?_
      refine sg_iaload_k i ok_m f_123_104 sh_m_12 rfl (by omega) (show _ = μ.1 12 i from rfl) ?_
      refine sg_iastore _ ok_m f_123_105 sh_m_14 rfl (by omega) ?_
      first | refine sg_iinc _ [_, _] f_123_106 rfl (sg_inc1 _) rfl ?_ | refine sg_iinc _ [_, _] f_123_106 rfl rfl rfl ?_
      refine sg_goto 80 f_123_109 rfl ?_
      refine sg_from ?_ (ih (i + 1) (by omega) kk)
      rw [sg_r1_r1, sg_r1_eq]
      exact congrArg (sg_r1 μ 14) (sg_c1_s (by omega) rfl)
theorem sm_123_c_0 {μ μ' : sg_S} {rr : Option Value} {z : Nat} (hz : μ.1 0 17 = nI z) (hz5 : z ≤ 5) (kk : sg_D tm_H 123 112 [.ref 0, .int (nI 21)] [] (sg_r1 μ 14 (sg_c1 (μ.1 14) (21 * z) 21 (fun k => μ.1 12 k))) rr μ') : sg_D tm_H 123 80 [.ref 0, .int (nI 0)] [] μ rr μ' := by
  have h := sm_123_c hz hz5 21 0 (by omega) kk
  rw [sg_c1_0, sg_r1_self rfl] at h
  exact h
theorem sm_123_d {μ μ' : sg_S} {rr : Option Value} {z : Nat} (hz : μ.1 0 17 = nI z) (hz5 : z ≤ 5) : ∀ m i : Nat, i + m = 102 → sg_D tm_H 123 146 [.ref 0, .int (nI 102)] [] (sg_r2 μ 15 (sg_c2 (μ.2 15) (102 * z) 102 (fun k => μ.2 13 k))) rr μ' → sg_D tm_H 123 114 [.ref 0, .int (nI i)] [] (sg_r2 μ 15 (sg_c2 (μ.2 15) (102 * z) i (fun k => μ.2 13 k))) rr μ' := by
  intro m
  induction m with
  | zero =>
    intro i hi kk
    obtain rfl : i = 102 := by omega
    refine sg_iload_n f_123_114 rfl ?_
    refine sg_bipush (nI 102) f_123_115 kb_102 ?_
    first | refine sg_ncmp_ge 146 (by omega) (by omega) f_123_117 rfl (fun c117 => ?_) (fun c117 => ?_) | refine sg_icmp_ge 146 f_123_117 rfl (fun c117 => ?_) (fun c117 => ?_)
    · exact kk
    · omega
  | succ m ih =>
    intro i hi kk
    refine sg_iload_n f_123_114 rfl ?_
    refine sg_bipush (nI 102) f_123_115 kb_102 ?_
    first | refine sg_ncmp_ge 146 (by omega) (by omega) f_123_117 rfl (fun c117 => ?_) (fun c117 => ?_) | refine sg_icmp_ge 146 f_123_117 rfl (fun c117 => ?_) (fun c117 => ?_)
    · omega
    · refine sg_aload_n f_123_120 rfl ?_
      refine sg_getf_r f_123_121 fd_m_0_784 ?_
      refine sg_bipush (nI 102) f_123_124 kb_102 ?_
      refine sg_aload_n f_123_126 rfl ?_
      refine sg_getf_k f_123_127 fd_m_0_785 (show (sg_r2 μ 15 _).1 0 17 = nI z from hz) ?_
      first | refine sg_imul _ f_123_130 (pk_mul _ _) ?_ | refine sg_imul _ f_123_130 rfl ?_
      refine sg_iload_n f_123_131 rfl ?_
      first | refine sg_iadd _ f_123_132 (nI_add _ _) ?_ | refine sg_iadd _ f_123_132 rfl ?_
      refine sg_aload_n f_123_133 rfl ?_
      refine sg_getf_r f_123_134 fd_m_0_782 ?_
      refine sg_iload_n f_123_137 rfl ?_
      refine sg_laload_k i ok_m f_123_138 sh_m_13 rfl (by omega) (show _ = μ.2 13 i from rfl) ?_
      refine sg_lastore _ ok_m f_123_139 sh_m_15 rfl (by omega) ?_
      first | refine sg_iinc _ [_, _] f_123_140 rfl (sg_inc1 _) rfl ?_ | refine sg_iinc _ [_, _] f_123_140 rfl rfl rfl ?_
      refine sg_goto 114 f_123_143 rfl ?_
      refine sg_from ?_ (ih (i + 1) (by omega) kk)
      rw [sg_r2_r2, sg_r2_eq]
      exact congrArg (sg_r2 μ 15) (sg_c2_s (by omega) rfl)
theorem sm_123_d_0 {μ μ' : sg_S} {rr : Option Value} {z : Nat} (hz : μ.1 0 17 = nI z) (hz5 : z ≤ 5) (kk : sg_D tm_H 123 146 [.ref 0, .int (nI 102)] [] (sg_r2 μ 15 (sg_c2 (μ.2 15) (102 * z) 102 (fun k => μ.2 13 k))) rr μ') : sg_D tm_H 123 114 [.ref 0, .int (nI 0)] [] μ rr μ' := by
  have h := sm_123_d hz hz5 102 0 (by omega) kk
  rw [sg_c2_0, sg_r2_self rfl] at h
  exact h
theorem sm_124_a {μ μ' : sg_S} {rr : Option Value} {z : Nat} (hz : μ.1 0 17 = nI z) (hz5 : z ≤ 5) : ∀ m i : Nat, i + m = 21 → sg_D tm_H 124 54 [.ref 0, .int (nI 21)] [] (sg_r1 μ 12 (sg_c1 (μ.1 12) (0) 21 (fun k => μ.1 14 (21 * z + k)))) rr μ' → sg_D tm_H 124 22 [.ref 0, .int (nI i)] [] (sg_r1 μ 12 (sg_c1 (μ.1 12) (0) i (fun k => μ.1 14 (21 * z + k)))) rr μ' := by
  intro m
  induction m with
  | zero =>
    intro i hi kk
    obtain rfl : i = 21 := by omega
    refine sg_iload_n f_124_22 rfl ?_
    refine sg_bipush (nI 21) f_124_23 kb_21 ?_
    first | refine sg_ncmp_ge 54 (by omega) (by omega) f_124_25 rfl (fun c25 => ?_) (fun c25 => ?_) | refine sg_icmp_ge 54 f_124_25 rfl (fun c25 => ?_) (fun c25 => ?_)
    · exact kk
    · omega
  | succ m ih =>
    intro i hi kk
    refine sg_iload_n f_124_22 rfl ?_
    refine sg_bipush (nI 21) f_124_23 kb_21 ?_
    first | refine sg_ncmp_ge 54 (by omega) (by omega) f_124_25 rfl (fun c25 => ?_) (fun c25 => ?_) | refine sg_icmp_ge 54 f_124_25 rfl (fun c25 => ?_) (fun c25 => ?_)
    · omega
    · refine sg_aload_n f_124_28 rfl ?_
      refine sg_getf_r f_124_29 fd_m_0_781 ?_
      refine sg_iload_n f_124_32 rfl ?_
      refine sg_aload_n f_124_33 rfl ?_
      refine sg_getf_r f_124_34 fd_m_0_783 ?_
      refine sg_bipush (nI 21) f_124_37 kb_21 ?_
      refine sg_aload_n f_124_39 rfl ?_
      refine sg_getf_k f_124_40 fd_m_0_785 (show (sg_r1 μ 12 _).1 0 17 = nI z from hz) ?_
      first | refine sg_imul _ f_124_43 (pk_mul _ _) ?_ | refine sg_imul _ f_124_43 rfl ?_
      refine sg_iload_n f_124_44 rfl ?_
      first | refine sg_iadd _ f_124_45 (nI_add _ _) ?_ | refine sg_iadd _ f_124_45 rfl ?_
      refine sg_iaload_k (21 * z + i) ok_m f_124_46 sh_m_14 rfl (by omega) (show _ = μ.1 14 (21 * z + i) from rfl) ?_
      refine sg_iastore _ ok_m f_124_47 sh_m_12 rfl (by omega) ?_
      first | refine sg_iinc _ [_, _] f_124_48 rfl (sg_inc1 _) rfl ?_ | refine sg_iinc _ [_, _] f_124_48 rfl rfl rfl ?_
      refine sg_goto 22 f_124_51 rfl ?_
      refine sg_from ?_ (ih (i + 1) (by omega) kk)
      rw [sg_r1_r1, sg_r1_eq]
      exact congrArg (sg_r1 μ 12) (sg_c1_s (by omega) rfl)
theorem sm_124_a_0 {μ μ' : sg_S} {rr : Option Value} {z : Nat} (hz : μ.1 0 17 = nI z) (hz5 : z ≤ 5) (kk : sg_D tm_H 124 54 [.ref 0, .int (nI 21)] [] (sg_r1 μ 12 (sg_c1 (μ.1 12) (0) 21 (fun k => μ.1 14 (21 * z + k)))) rr μ') : sg_D tm_H 124 22 [.ref 0, .int (nI 0)] [] μ rr μ' := by
  have h := sm_124_a hz hz5 21 0 (by omega) kk
  rw [sg_c1_0, sg_r1_self rfl] at h
  exact h
theorem sm_124_b {μ μ' : sg_S} {rr : Option Value} {z : Nat} (hz : μ.1 0 17 = nI z) (hz5 : z ≤ 5) : ∀ m i : Nat, i + m = 102 → sg_D tm_H 124 88 [.ref 0, .int (nI 102)] [] (sg_r2 μ 13 (sg_c2 (μ.2 13) (0) 102 (fun k => μ.2 15 (102 * z + k)))) rr μ' → sg_D tm_H 124 56 [.ref 0, .int (nI i)] [] (sg_r2 μ 13 (sg_c2 (μ.2 13) (0) i (fun k => μ.2 15 (102 * z + k)))) rr μ' := by
  intro m
  induction m with
  | zero =>
    intro i hi kk
    obtain rfl : i = 102 := by omega
    refine sg_iload_n f_124_56 rfl ?_
    refine sg_bipush (nI 102) f_124_57 kb_102 ?_
    first | refine sg_ncmp_ge 88 (by omega) (by omega) f_124_59 rfl (fun c59 => ?_) (fun c59 => ?_) | refine sg_icmp_ge 88 f_124_59 rfl (fun c59 => ?_) (fun c59 => ?_)
    · exact kk
    · omega
  | succ m ih =>
    intro i hi kk
    refine sg_iload_n f_124_56 rfl ?_
    refine sg_bipush (nI 102) f_124_57 kb_102 ?_
    first | refine sg_ncmp_ge 88 (by omega) (by omega) f_124_59 rfl (fun c59 => ?_) (fun c59 => ?_) | refine sg_icmp_ge 88 f_124_59 rfl (fun c59 => ?_) (fun c59 => ?_)
    · omega
    · refine sg_aload_n f_124_62 rfl ?_
      refine sg_getf_r f_124_63 fd_m_0_782 ?_
      refine sg_iload_n f_124_66 rfl ?_
      refine sg_aload_n f_124_67 rfl ?_
      refine sg_getf_r f_124_68 fd_m_0_784 ?_
      refine sg_bipush (nI 102) f_124_71 kb_102 ?_
      refine sg_aload_n f_124_73 rfl ?_
      refine sg_getf_k f_124_74 fd_m_0_785 (show (sg_r2 μ 13 _).1 0 17 = nI z from hz) ?_
      first | refine sg_imul _ f_124_77 (pk_mul _ _) ?_ | refine sg_imul _ f_124_77 rfl ?_
      refine sg_iload_n f_124_78 rfl ?_
      first | refine sg_iadd _ f_124_79 (nI_add _ _) ?_ | refine sg_iadd _ f_124_79 rfl ?_
      refine sg_laload_k (102 * z + i) ok_m f_124_80 sh_m_15 rfl (by omega) (show _ = μ.2 15 (102 * z + i) from rfl) ?_
      refine sg_lastore _ ok_m f_124_81 sh_m_13 rfl (by omega) ?_
      first | refine sg_iinc _ [_, _] f_124_82 rfl (sg_inc1 _) rfl ?_ | refine sg_iinc _ [_, _] f_124_82 rfl rfl rfl ?_
      refine sg_goto 56 f_124_85 rfl ?_
      refine sg_from ?_ (ih (i + 1) (by omega) kk)
      rw [sg_r2_r2, sg_r2_eq]
      exact congrArg (sg_r2 μ 13) (sg_c2_s (by omega) rfl)
theorem sm_124_b_0 {μ μ' : sg_S} {rr : Option Value} {z : Nat} (hz : μ.1 0 17 = nI z) (hz5 : z ≤ 5) (kk : sg_D tm_H 124 88 [.ref 0, .int (nI 102)] [] (sg_r2 μ 13 (sg_c2 (μ.2 13) (0) 102 (fun k => μ.2 15 (102 * z + k)))) rr μ') : sg_D tm_H 124 56 [.ref 0, .int (nI 0)] [] μ rr μ' := by
  have h := sm_124_b hz hz5 102 0 (by omega) kk
  rw [sg_c2_0, sg_r2_self rfl] at h
  exact h
theorem sm_153_a {μ μ' : sg_S} {rr : Option Value} {a : Nat} (ha : a < 2) : ∀ m i : Nat, i + m = 21 → sg_D tm_H 153 43 [.ref 0, .int (nI a), .int (nI 21)] [] (sg_r1 μ 16 (sg_c1 (μ.1 16) (21 * a) 21 (fun k => μ.1 12 k))) rr μ' → sg_D tm_H 153 14 [.ref 0, .int (nI a), .int (nI i)] [] (sg_r1 μ 16 (sg_c1 (μ.1 16) (21 * a) i (fun k => μ.1 12 k))) rr μ' := by
  intro m
  induction m with
  | zero =>
    intro i hi kk
    obtain rfl : i = 21 := by omega
    refine sg_iload_n f_153_14 rfl ?_
    refine sg_bipush (nI 21) f_153_15 kb_21 ?_
    first | refine sg_ncmp_ge 43 (by omega) (by omega) f_153_17 rfl (fun c17 => ?_) (fun c17 => ?_) | refine sg_icmp_ge 43 f_153_17 rfl (fun c17 => ?_) (fun c17 => ?_)
    · exact kk
    · omega
  | succ m ih =>
    intro i hi kk
    refine sg_iload_n f_153_14 rfl ?_
    refine sg_bipush (nI 21) f_153_15 kb_21 ?_
    first | refine sg_ncmp_ge 43 (by omega) (by omega) f_153_17 rfl (fun c17 => ?_) (fun c17 => ?_) | refine sg_icmp_ge 43 f_153_17 rfl (fun c17 => ?_) (fun c17 => ?_)
    · omega
    · refine sg_aload_n f_153_20 rfl ?_
      refine sg_getf_r f_153_21 fd_m_0_786 ?_
      refine sg_bipush (nI 21) f_153_24 kb_21 ?_
      refine sg_iload_n f_153_26 rfl ?_
      first | refine sg_imul _ f_153_27 (pk_mul _ _) ?_ | refine sg_imul _ f_153_27 rfl ?_
      refine sg_iload_n f_153_28 rfl ?_
      first | refine sg_iadd _ f_153_29 (nI_add _ _) ?_ | refine sg_iadd _ f_153_29 rfl ?_
      refine sg_aload_n f_153_30 rfl ?_
      refine sg_getf_r f_153_31 fd_m_0_781 ?_
      refine sg_iload_n f_153_34 rfl ?_
      refine sg_iaload_k i ok_m f_153_35 sh_m_12 rfl (by omega) (show _ = μ.1 12 i from rfl) ?_
      refine sg_iastore _ ok_m f_153_36 sh_m_16 rfl (by omega) ?_
      first | refine sg_iinc _ [_, _, _] f_153_37 rfl (sg_inc1 _) rfl ?_ | refine sg_iinc _ [_, _, _] f_153_37 rfl rfl rfl ?_
      refine sg_goto 14 f_153_40 rfl ?_
      refine sg_from ?_ (ih (i + 1) (by omega) kk)
      rw [sg_r1_r1, sg_r1_eq]
      exact congrArg (sg_r1 μ 16) (sg_c1_s (by omega) rfl)
theorem sm_153_a_0 {μ μ' : sg_S} {rr : Option Value} {a : Nat} (ha : a < 2) (kk : sg_D tm_H 153 43 [.ref 0, .int (nI a), .int (nI 21)] [] (sg_r1 μ 16 (sg_c1 (μ.1 16) (21 * a) 21 (fun k => μ.1 12 k))) rr μ') : sg_D tm_H 153 14 [.ref 0, .int (nI a), .int (nI 0)] [] μ rr μ' := by
  have h := sm_153_a ha 21 0 (by omega) kk
  rw [sg_c1_0, sg_r1_self rfl] at h
  exact h
theorem sm_153_b {μ μ' : sg_S} {rr : Option Value} {a : Nat} (ha : a < 2) : ∀ m i : Nat, i + m = 102 → sg_D tm_H 153 74 [.ref 0, .int (nI a), .int (nI 102)] [] (sg_r2 μ 17 (sg_c2 (μ.2 17) (102 * a) 102 (fun k => μ.2 13 k))) rr μ' → sg_D tm_H 153 45 [.ref 0, .int (nI a), .int (nI i)] [] (sg_r2 μ 17 (sg_c2 (μ.2 17) (102 * a) i (fun k => μ.2 13 k))) rr μ' := by
  intro m
  induction m with
  | zero =>
    intro i hi kk
    obtain rfl : i = 102 := by omega
    refine sg_iload_n f_153_45 rfl ?_
    refine sg_bipush (nI 102) f_153_46 kb_102 ?_
    first | refine sg_ncmp_ge 74 (by omega) (by omega) f_153_48 rfl (fun c48 => ?_) (fun c48 => ?_) | refine sg_icmp_ge 74 f_153_48 rfl (fun c48 => ?_) (fun c48 => ?_)
    · exact kk
    · omega
  | succ m ih =>
    intro i hi kk
    refine sg_iload_n f_153_45 rfl ?_
    refine sg_bipush (nI 102) f_153_46 kb_102 ?_
    first | refine sg_ncmp_ge 74 (by omega) (by omega) f_153_48 rfl (fun c48 => ?_) (fun c48 => ?_) | refine sg_icmp_ge 74 f_153_48 rfl (fun c48 => ?_) (fun c48 => ?_)
    · omega
    · refine sg_aload_n f_153_51 rfl ?_
      refine sg_getf_r f_153_52 fd_m_0_787 ?_
      refine sg_bipush (nI 102) f_153_55 kb_102 ?_
      refine sg_iload_n f_153_57 rfl ?_
      first | refine sg_imul _ f_153_58 (pk_mul _ _) ?_ | refine sg_imul _ f_153_58 rfl ?_
      refine sg_iload_n f_153_59 rfl ?_
      first | refine sg_iadd _ f_153_60 (nI_add _ _) ?_ | refine sg_iadd _ f_153_60 rfl ?_
      refine sg_aload_n f_153_61 rfl ?_
      refine sg_getf_r f_153_62 fd_m_0_782 ?_
      refine sg_iload_n f_153_65 rfl ?_
      refine sg_laload_k i ok_m f_153_66 sh_m_13 rfl (by omega) (show _ = μ.2 13 i from rfl) ?_
      refine sg_lastore _ ok_m f_153_67 sh_m_17 rfl (by omega) ?_
      first | refine sg_iinc _ [_, _, _] f_153_68 rfl (sg_inc1 _) rfl ?_ | refine sg_iinc _ [_, _, _] f_153_68 rfl rfl rfl ?_
      refine sg_goto 45 f_153_71 rfl ?_
      refine sg_from ?_ (ih (i + 1) (by omega) kk)
      rw [sg_r2_r2, sg_r2_eq]
      exact congrArg (sg_r2 μ 17) (sg_c2_s (by omega) rfl)
theorem sm_153_b_0 {μ μ' : sg_S} {rr : Option Value} {a : Nat} (ha : a < 2) (kk : sg_D tm_H 153 74 [.ref 0, .int (nI a), .int (nI 102)] [] (sg_r2 μ 17 (sg_c2 (μ.2 17) (102 * a) 102 (fun k => μ.2 13 k))) rr μ') : sg_D tm_H 153 45 [.ref 0, .int (nI a), .int (nI 0)] [] μ rr μ' := by
  have h := sm_153_b ha 102 0 (by omega) kk
  rw [sg_c2_0, sg_r2_self rfl] at h
  exact h
theorem sm_154_a {μ μ' : sg_S} {rr : Option Value} {a : Nat} (ha : a < 2) : ∀ m i : Nat, i + m = 21 → sg_D tm_H 154 55 [.ref 0, .int (nI a), .int (nI 21)] [] (sg_r1 μ 12 (sg_c1 (μ.1 12) (0) 21 (fun k => μ.1 16 (21 * a + k)))) rr μ' → sg_D tm_H 154 26 [.ref 0, .int (nI a), .int (nI i)] [] (sg_r1 μ 12 (sg_c1 (μ.1 12) (0) i (fun k => μ.1 16 (21 * a + k)))) rr μ' := by
  intro m
  induction m with
  | zero =>
    intro i hi kk
    obtain rfl : i = 21 := by omega
    refine sg_iload_n f_154_26 rfl ?_
    refine sg_bipush (nI 21) f_154_27 kb_21 ?_
    first | refine sg_ncmp_ge 55 (by omega) (by omega) f_154_29 rfl (fun c29 => ?_) (fun c29 => ?_) | refine sg_icmp_ge 55 f_154_29 rfl (fun c29 => ?_) (fun c29 => ?_)
    · exact kk
    · omega
  | succ m ih =>
    intro i hi kk
    refine sg_iload_n f_154_26 rfl ?_
    refine sg_bipush (nI 21) f_154_27 kb_21 ?_
    first | refine sg_ncmp_ge 55 (by omega) (by omega) f_154_29 rfl (fun c29 => ?_) (fun c29 => ?_) | refine sg_icmp_ge 55 f_154_29 rfl (fun c29 => ?_) (fun c29 => ?_)
    · omega
    · refine sg_aload_n f_154_32 rfl ?_
      refine sg_getf_r f_154_33 fd_m_0_781 ?_
      refine sg_iload_n f_154_36 rfl ?_
      refine sg_aload_n f_154_37 rfl ?_
      refine sg_getf_r f_154_38 fd_m_0_786 ?_
      refine sg_bipush (nI 21) f_154_41 kb_21 ?_
      refine sg_iload_n f_154_43 rfl ?_
      first | refine sg_imul _ f_154_44 (pk_mul _ _) ?_ | refine sg_imul _ f_154_44 rfl ?_
      refine sg_iload_n f_154_45 rfl ?_
      first | refine sg_iadd _ f_154_46 (nI_add _ _) ?_ | refine sg_iadd _ f_154_46 rfl ?_
      refine sg_iaload_k (21 * a + i) ok_m f_154_47 sh_m_16 rfl (by omega) (show _ = μ.1 16 (21 * a + i) from rfl) ?_
      refine sg_iastore _ ok_m f_154_48 sh_m_12 rfl (by omega) ?_
      first | refine sg_iinc _ [_, _, _] f_154_49 rfl (sg_inc1 _) rfl ?_ | refine sg_iinc _ [_, _, _] f_154_49 rfl rfl rfl ?_
      refine sg_goto 26 f_154_52 rfl ?_
      refine sg_from ?_ (ih (i + 1) (by omega) kk)
      rw [sg_r1_r1, sg_r1_eq]
      exact congrArg (sg_r1 μ 12) (sg_c1_s (by omega) rfl)
theorem sm_154_a_0 {μ μ' : sg_S} {rr : Option Value} {a : Nat} (ha : a < 2) (kk : sg_D tm_H 154 55 [.ref 0, .int (nI a), .int (nI 21)] [] (sg_r1 μ 12 (sg_c1 (μ.1 12) (0) 21 (fun k => μ.1 16 (21 * a + k)))) rr μ') : sg_D tm_H 154 26 [.ref 0, .int (nI a), .int (nI 0)] [] μ rr μ' := by
  have h := sm_154_a ha 21 0 (by omega) kk
  rw [sg_c1_0, sg_r1_self rfl] at h
  exact h
theorem sm_154_b {μ μ' : sg_S} {rr : Option Value} {a : Nat} (ha : a < 2) : ∀ m i : Nat, i + m = 102 → sg_D tm_H 154 86 [.ref 0, .int (nI a), .int (nI 102)] [] (sg_r2 μ 13 (sg_c2 (μ.2 13) (0) 102 (fun k => μ.2 17 (102 * a + k)))) rr μ' → sg_D tm_H 154 57 [.ref 0, .int (nI a), .int (nI i)] [] (sg_r2 μ 13 (sg_c2 (μ.2 13) (0) i (fun k => μ.2 17 (102 * a + k)))) rr μ' := by
  intro m
  induction m with
  | zero =>
    intro i hi kk
    obtain rfl : i = 102 := by omega
    refine sg_iload_n f_154_57 rfl ?_
    refine sg_bipush (nI 102) f_154_58 kb_102 ?_
    first | refine sg_ncmp_ge 86 (by omega) (by omega) f_154_60 rfl (fun c60 => ?_) (fun c60 => ?_) | refine sg_icmp_ge 86 f_154_60 rfl (fun c60 => ?_) (fun c60 => ?_)
    · exact kk
    · omega
  | succ m ih =>
    intro i hi kk
    refine sg_iload_n f_154_57 rfl ?_
    refine sg_bipush (nI 102) f_154_58 kb_102 ?_
    first | refine sg_ncmp_ge 86 (by omega) (by omega) f_154_60 rfl (fun c60 => ?_) (fun c60 => ?_) | refine sg_icmp_ge 86 f_154_60 rfl (fun c60 => ?_) (fun c60 => ?_)
    · omega
    · refine sg_aload_n f_154_63 rfl ?_
      refine sg_getf_r f_154_64 fd_m_0_782 ?_
      refine sg_iload_n f_154_67 rfl ?_
      refine sg_aload_n f_154_68 rfl ?_
      refine sg_getf_r f_154_69 fd_m_0_787 ?_
      refine sg_bipush (nI 102) f_154_72 kb_102 ?_
      refine sg_iload_n f_154_74 rfl ?_
      first | refine sg_imul _ f_154_75 (pk_mul _ _) ?_ | refine sg_imul _ f_154_75 rfl ?_
      refine sg_iload_n f_154_76 rfl ?_
      first | refine sg_iadd _ f_154_77 (nI_add _ _) ?_ | refine sg_iadd _ f_154_77 rfl ?_
      refine sg_laload_k (102 * a + i) ok_m f_154_78 sh_m_17 rfl (by omega) (show _ = μ.2 17 (102 * a + i) from rfl) ?_
      refine sg_lastore _ ok_m f_154_79 sh_m_13 rfl (by omega) ?_
      first | refine sg_iinc _ [_, _, _] f_154_80 rfl (sg_inc1 _) rfl ?_ | refine sg_iinc _ [_, _, _] f_154_80 rfl rfl rfl ?_
      refine sg_goto 57 f_154_83 rfl ?_
      refine sg_from ?_ (ih (i + 1) (by omega) kk)
      rw [sg_r2_r2, sg_r2_eq]
      exact congrArg (sg_r2 μ 13) (sg_c2_s (by omega) rfl)
theorem sm_154_b_0 {μ μ' : sg_S} {rr : Option Value} {a : Nat} (ha : a < 2) (kk : sg_D tm_H 154 86 [.ref 0, .int (nI a), .int (nI 102)] [] (sg_r2 μ 13 (sg_c2 (μ.2 13) (0) 102 (fun k => μ.2 17 (102 * a + k)))) rr μ') : sg_D tm_H 154 57 [.ref 0, .int (nI a), .int (nI 0)] [] μ rr μ' := by
  have h := sm_154_b ha 102 0 (by omega) kk
  rw [sg_c2_0, sg_r2_self rfl] at h
  exact h
theorem sm_122_a {μ μ' : sg_S} {rr : Option Value} {l1 : Int32} : ∀ m i : Nat, i + m = 21 → sg_D tm_H 122 46 [.ref 0, .int l1, .int (nI 21)] [] (sg_r1 μ 12 (sg_c1 (μ.1 12) (0) 21 (fun k => μ.1 24 k))) rr μ' → sg_D tm_H 122 22 [.ref 0, .int l1, .int (nI i)] [] (sg_r1 μ 12 (sg_c1 (μ.1 12) (0) i (fun k => μ.1 24 k))) rr μ' := by
  intro m
  induction m with
  | zero =>
    intro i hi kk
    obtain rfl : i = 21 := by omega
    refine sg_iload_n f_122_22 rfl ?_
    refine sg_bipush (nI 21) f_122_23 kb_21 ?_
    first | refine sg_ncmp_ge 46 (by omega) (by omega) f_122_25 rfl (fun c25 => ?_) (fun c25 => ?_) | refine sg_icmp_ge 46 f_122_25 rfl (fun c25 => ?_) (fun c25 => ?_)
    · exact kk
    · omega
  | succ m ih =>
    intro i hi kk
    refine sg_iload_n f_122_22 rfl ?_
    refine sg_bipush (nI 21) f_122_23 kb_21 ?_
    first | refine sg_ncmp_ge 46 (by omega) (by omega) f_122_25 rfl (fun c25 => ?_) (fun c25 => ?_) | refine sg_icmp_ge 46 f_122_25 rfl (fun c25 => ?_) (fun c25 => ?_)
    · omega
    · refine sg_aload_n f_122_28 rfl ?_
      refine sg_getf_r f_122_29 fd_m_0_781 ?_
      refine sg_iload_n f_122_32 rfl ?_
      refine sg_aload_n f_122_33 rfl ?_
      refine sg_getf_r f_122_34 fd_m_0_800 ?_
      refine sg_iload_n f_122_37 rfl ?_
      refine sg_iaload_k i ok_m f_122_38 sh_m_24 rfl (by omega) (show _ = μ.1 24 i from rfl) ?_
      refine sg_iastore _ ok_m f_122_39 sh_m_12 rfl (by omega) ?_
      first | refine sg_iinc _ [_, _, _] f_122_40 rfl (sg_inc1 _) rfl ?_ | refine sg_iinc _ [_, _, _] f_122_40 rfl rfl rfl ?_
      refine sg_goto 22 f_122_43 rfl ?_
      refine sg_from ?_ (ih (i + 1) (by omega) kk)
      rw [sg_r1_r1, sg_r1_eq]
      exact congrArg (sg_r1 μ 12) (sg_c1_s (by omega) rfl)
theorem sm_122_a_0 {μ μ' : sg_S} {rr : Option Value} {l1 : Int32} (kk : sg_D tm_H 122 46 [.ref 0, .int l1, .int (nI 21)] [] (sg_r1 μ 12 (sg_c1 (μ.1 12) (0) 21 (fun k => μ.1 24 k))) rr μ') : sg_D tm_H 122 22 [.ref 0, .int l1, .int (nI 0)] [] μ rr μ' := by
  have h := sm_122_a  21 0 (by omega) kk
  rw [sg_c1_0, sg_r1_self rfl] at h
  exact h
theorem sm_135_a {μ μ' : sg_S} {rr : Option Value} {a : Nat} (ha : a < 6) : ∀ m i : Nat, i + m = 17 → sg_D tm_H 135 31 [.ref 0, .int (nI a), .int (nI 17)] [] (sg_r2 μ 25 (sg_c2 (μ.2 25) (0) 17 (fun k => μ.2 13 (17 * a + k)))) rr μ' → sg_D tm_H 135 2 [.ref 0, .int (nI a), .int (nI i)] [] (sg_r2 μ 25 (sg_c2 (μ.2 25) (0) i (fun k => μ.2 13 (17 * a + k)))) rr μ' := by
  intro m
  induction m with
  | zero =>
    intro i hi kk
    obtain rfl : i = 17 := by omega
    refine sg_iload_n f_135_2 rfl ?_
    refine sg_bipush (nI 17) f_135_3 kb_17 ?_
    first | refine sg_ncmp_ge 31 (by omega) (by omega) f_135_5 rfl (fun c5 => ?_) (fun c5 => ?_) | refine sg_icmp_ge 31 f_135_5 rfl (fun c5 => ?_) (fun c5 => ?_)
    · exact kk
    · omega
  | succ m ih =>
    intro i hi kk
    refine sg_iload_n f_135_2 rfl ?_
    refine sg_bipush (nI 17) f_135_3 kb_17 ?_
    first | refine sg_ncmp_ge 31 (by omega) (by omega) f_135_5 rfl (fun c5 => ?_) (fun c5 => ?_) | refine sg_icmp_ge 31 f_135_5 rfl (fun c5 => ?_) (fun c5 => ?_)
    · omega
    · refine sg_aload_n f_135_8 rfl ?_
      refine sg_getf_r f_135_9 fd_m_0_802 ?_
      refine sg_iload_n f_135_12 rfl ?_
      refine sg_aload_n f_135_13 rfl ?_
      refine sg_getf_r f_135_14 fd_m_0_782 ?_
      refine sg_bipush (nI 17) f_135_17 kb_17 ?_
      refine sg_iload_n f_135_19 rfl ?_
      first | refine sg_imul _ f_135_20 (pk_mul _ _) ?_ | refine sg_imul _ f_135_20 rfl ?_
      refine sg_iload_n f_135_21 rfl ?_
      first | refine sg_iadd _ f_135_22 (nI_add _ _) ?_ | refine sg_iadd _ f_135_22 rfl ?_
      refine sg_laload_k (17 * a + i) ok_m f_135_23 sh_m_13 rfl (by omega) (show _ = μ.2 13 (17 * a + i) from rfl) ?_
      refine sg_lastore _ ok_m f_135_24 sh_m_25 rfl (by omega) ?_
      first | refine sg_iinc _ [_, _, _] f_135_25 rfl (sg_inc1 _) rfl ?_ | refine sg_iinc _ [_, _, _] f_135_25 rfl rfl rfl ?_
      refine sg_goto 2 f_135_28 rfl ?_
      refine sg_from ?_ (ih (i + 1) (by omega) kk)
      rw [sg_r2_r2, sg_r2_eq]
      exact congrArg (sg_r2 μ 25) (sg_c2_s (by omega) rfl)
theorem sm_135_a_0 {μ μ' : sg_S} {rr : Option Value} {a : Nat} (ha : a < 6) (kk : sg_D tm_H 135 31 [.ref 0, .int (nI a), .int (nI 17)] [] (sg_r2 μ 25 (sg_c2 (μ.2 25) (0) 17 (fun k => μ.2 13 (17 * a + k)))) rr μ') : sg_D tm_H 135 2 [.ref 0, .int (nI a), .int (nI 0)] [] μ rr μ' := by
  have h := sm_135_a ha 17 0 (by omega) kk
  rw [sg_c2_0, sg_r2_self rfl] at h
  exact h
theorem sm_137_a {μ μ' : sg_S} {rr : Option Value} {a : Nat} (ha : a < 6) : ∀ m i : Nat, i + m = 17 → sg_D tm_H 137 35 [.ref 0, .int (nI a), .int (nI 17)] [] (sg_r2 μ 13 (sg_c2 (μ.2 13) (17 * a) 17 (fun k => μ.2 25 k))) rr μ' → sg_D tm_H 137 6 [.ref 0, .int (nI a), .int (nI i)] [] (sg_r2 μ 13 (sg_c2 (μ.2 13) (17 * a) i (fun k => μ.2 25 k))) rr μ' := by
  intro m
  induction m with
  | zero =>
    intro i hi kk
    obtain rfl : i = 17 := by omega
    refine sg_iload_n f_137_6 rfl ?_
    refine sg_bipush (nI 17) f_137_7 kb_17 ?_
    first | refine sg_ncmp_ge 35 (by omega) (by omega) f_137_9 rfl (fun c9 => ?_) (fun c9 => ?_) | refine sg_icmp_ge 35 f_137_9 rfl (fun c9 => ?_) (fun c9 => ?_)
    · exact kk
    · omega
  | succ m ih =>
    intro i hi kk
    refine sg_iload_n f_137_6 rfl ?_
    refine sg_bipush (nI 17) f_137_7 kb_17 ?_
    first | refine sg_ncmp_ge 35 (by omega) (by omega) f_137_9 rfl (fun c9 => ?_) (fun c9 => ?_) | refine sg_icmp_ge 35 f_137_9 rfl (fun c9 => ?_) (fun c9 => ?_)
    · omega
    · refine sg_aload_n f_137_12 rfl ?_
      refine sg_getf_r f_137_13 fd_m_0_782 ?_
      refine sg_bipush (nI 17) f_137_16 kb_17 ?_
      refine sg_iload_n f_137_18 rfl ?_
      first | refine sg_imul _ f_137_19 (pk_mul _ _) ?_ | refine sg_imul _ f_137_19 rfl ?_
      refine sg_iload_n f_137_20 rfl ?_
      first | refine sg_iadd _ f_137_21 (nI_add _ _) ?_ | refine sg_iadd _ f_137_21 rfl ?_
      refine sg_aload_n f_137_22 rfl ?_
      refine sg_getf_r f_137_23 fd_m_0_802 ?_
      refine sg_iload_n f_137_26 rfl ?_
      refine sg_laload_k i ok_m f_137_27 sh_m_25 rfl (by omega) (show _ = μ.2 25 i from rfl) ?_
      refine sg_lastore _ ok_m f_137_28 sh_m_13 rfl (by omega) ?_
      first | refine sg_iinc _ [_, _, _] f_137_29 rfl (sg_inc1 _) rfl ?_ | refine sg_iinc _ [_, _, _] f_137_29 rfl rfl rfl ?_
      refine sg_goto 6 f_137_32 rfl ?_
      refine sg_from ?_ (ih (i + 1) (by omega) kk)
      rw [sg_r2_r2, sg_r2_eq]
      exact congrArg (sg_r2 μ 13) (sg_c2_s (by omega) rfl)
theorem sm_137_a_0 {μ μ' : sg_S} {rr : Option Value} {a : Nat} (ha : a < 6) (kk : sg_D tm_H 137 35 [.ref 0, .int (nI a), .int (nI 17)] [] (sg_r2 μ 13 (sg_c2 (μ.2 13) (17 * a) 17 (fun k => μ.2 25 k))) rr μ') : sg_D tm_H 137 6 [.ref 0, .int (nI a), .int (nI 0)] [] μ rr μ' := by
  have h := sm_137_a ha 17 0 (by omega) kk
  rw [sg_c2_0, sg_r2_self rfl] at h
  exact h
/-! the model: note -/
def sm_nt (μ : sg_S) (z : Nat) : sg_S := sg_r1 (sg_r2 (sg_r1 μ 14 (sg_c1 (μ.1 14) (21 * z) 21 (fun k => μ.1 12 k))) 15 (sg_c2 (μ.2 15) (102 * z) 102 (fun k => μ.2 13 k))) 0 (upd (μ.1 0) 17 (nI (z + 1)))
theorem sm_123_e {μ : sg_S} {z : Nat} {l1 : Value} (hz : μ.1 0 17 = nI z) (hz5 : z ≤ 5) : sg_D tm_H 123 78 [.ref 0, l1] [] μ none (sm_nt μ z) := by
  refine sg_iconst (nI 0) f_123_78 ki_0 ?_
  refine sg_istore_n [_, _] f_123_79 rfl ?_
  refine sm_123_c_0 hz hz5 ?_
  refine sg_iconst (nI 0) f_123_112 ki_0 ?_
  refine sg_istore_n [_, _] f_123_113 rfl ?_
  refine sm_123_d_0 hz hz5 ?_
  refine sg_aload_n f_123_146 rfl ?_
  refine sg_dup f_123_147 rfl ?_
  refine sg_getf_k f_123_148 fd_m_0_785 (show _ = nI z from hz) ?_
  refine sg_iconst (nI 1) f_123_151 ki_1 ?_
  first | refine sg_iadd _ f_123_152 (nI_add _ _) ?_ | refine sg_iadd _ f_123_152 rfl ?_
  refine sg_putf_j 17 f_123_153 (by decide) fd_m_0_785 rfl ?_
  exact (sg_vret f_123_156 rk_123)
/-- the past, one further on -/
def sm_N (μ μ' : sg_S) (z : Nat) : Prop := (∀ k, k ≠ 14 → k ≠ 0 → μ'.1 k = μ.1 k) ∧ (∀ k, k ≠ 15 → μ'.2 k = μ.2 k) ∧ (∀ j, j ≠ 17 → μ'.1 0 j = μ.1 0 j) ∧ μ'.1 0 17 = nI (sx_sz z) ∧
  (∀ i, i + 1 < sx_sz z → (∀ k, k < 21 → μ'.1 14 (21 * i + k) = μ.1 14 (21 * (i + (z + 1 - sx_sz z)) + k)) ∧ ∀ k, k < 102 → μ'.2 15 (102 * i + k) = μ.2 15 (102 * (i + (z + 1 - sx_sz z)) + k)) ∧
  (∀ k, k < 21 → μ'.1 14 (21 * (sx_sz z - 1) + k) = μ.1 12 k) ∧ ∀ k, k < 102 → μ'.2 15 (102 * (sx_sz z - 1) + k) = μ.2 13 k
theorem sm_nt_1 {μ : sg_S} {z k : Nat} (h14 : k ≠ 14) (h0 : k ≠ 0) : (sm_nt μ z).1 k = μ.1 k := by
  unfold sm_nt; rw [sg_r1_ne h0, sg_r2_1, sg_r1_ne h14]
theorem sm_nt_2 {μ : sg_S} {z k : Nat} (h15 : k ≠ 15) : (sm_nt μ z).2 k = μ.2 k := by
  unfold sm_nt; rw [sg_r1_2, sg_r2_ne h15, sg_r1_2]
theorem sm_nt_0 {μ : sg_S} {z : Nat} : (sm_nt μ z).1 0 = upd (μ.1 0) 17 (nI (z + 1)) := by
  unfold sm_nt; rw [sg_r1_eq]
theorem sm_nt_14 {μ : sg_S} {z : Nat} : (sm_nt μ z).1 14 = sg_c1 (μ.1 14) (21 * z) 21 (fun k => μ.1 12 k) := by
  unfold sm_nt; rw [sg_r1_ne (by omega), sg_r2_1, sg_r1_eq]
theorem sm_nt_15 {μ : sg_S} {z : Nat} : (sm_nt μ z).2 15 = sg_c2 (μ.2 15) (102 * z) 102 (fun k => μ.2 13 k) := by
  unfold sm_nt; rw [sg_r1_2, sg_r2_eq]
theorem sm_123 {μ : sg_S} {z : Nat} (hz : μ.1 0 17 = nI z) (hz6 : z ≤ 6) : ∃ μ' : sg_S, sg_D tm_H 123 0 [.ref 0, ab_u] [] μ none μ' ∧ sm_N μ μ' z := by
  rcases (show z ≤ 5 ∨ z = 6 by omega) with h5 | h6
  · refine ⟨sm_nt μ z, ?_, fun k h1 h2 => sm_nt_1 h1 h2, fun k h => sm_nt_2 h, fun j hj => ?_, ?_, fun i hi => ⟨fun k hk => ?_, fun k hk => ?_⟩, fun k hk => ?_, fun k hk => ?_⟩
    · skip
      refine sg_aload_n f_123_0 rfl ?_
      refine sg_getf_k f_123_1 fd_m_0_785 hz ?_
      refine sg_bipush (nI 6) f_123_4 kb_6 ?_
      first | refine sg_ncmp_ne 78 (by omega) (by omega) f_123_6 rfl (fun c6 => ?_) (fun c6 => ?_) | refine sg_icmp_ne 78 f_123_6 rfl (fun c6 => ?_) (fun c6 => ?_)
      · exact sm_123_e hz h5
      · omega
    · rw [sm_nt_0, pk_un hj]
    · rw [sm_nt_0, pk_us]; unfold sx_sz; rw [if_pos (by omega)]
    · unfold sx_sz at hi ⊢
      rw [if_pos (show z < 6 by omega)] at hi ⊢
      rw [sm_nt_14, sg_c1_out (by omega), show i + (z + 1 - (z + 1)) = i by omega]
    · unfold sx_sz at hi ⊢
      rw [if_pos (show z < 6 by omega)] at hi ⊢
      rw [sm_nt_15, sg_c2_out (by omega), show i + (z + 1 - (z + 1)) = i by omega]
    · unfold sx_sz
      rw [if_pos (show z < 6 by omega), sm_nt_14, Nat.add_sub_cancel, sg_c1_in hk]
    · unfold sx_sz
      rw [if_pos (show z < 6 by omega), sm_nt_15, Nat.add_sub_cancel, sg_c2_in hk]
  · subst h6
    generalize hs : sg_r1 (sg_r2 (sg_r1 μ 14 (sg_c1 (μ.1 14) 0 105 (fun k => μ.1 14 (k + 21)))) 15 (sg_c2 (μ.2 15) 0 510 (fun k => μ.2 15 (k + 102)))) 0 (upd (μ.1 0) 17 (nI 5)) = μs
    have e1 : ∀ k, k ≠ 14 → k ≠ 0 → μs.1 k = μ.1 k := by
      intro k h1 h2; rw [← hs, sg_r1_ne h2, sg_r2_1, sg_r1_ne h1]
    have e2 : ∀ k, k ≠ 15 → μs.2 k = μ.2 k := by
      intro k h1; rw [← hs, sg_r1_2, sg_r2_ne h1, sg_r1_2]
    have e0 : μs.1 0 = upd (μ.1 0) 17 (nI 5) := by rw [← hs, sg_r1_eq]
    have e14 : μs.1 14 = sg_c1 (μ.1 14) 0 105 (fun k => μ.1 14 (k + 21)) := by rw [← hs, sg_r1_ne (by omega), sg_r2_1, sg_r1_eq]
    have e15 : μs.2 15 = sg_c2 (μ.2 15) 0 510 (fun k => μ.2 15 (k + 102)) := by rw [← hs, sg_r1_2, sg_r2_eq]
    have hz5 : μs.1 0 17 = nI 5 := by rw [e0, pk_us]
    have s6 : sx_sz 6 = 6 := rfl
    refine ⟨sm_nt μs 5, ?_, fun k h1 h2 => (sm_nt_1 h1 h2).trans (e1 k h1 h2), fun k h => (sm_nt_2 h).trans (e2 k h), fun j hj => ?_, ?_, fun i hi => ⟨fun k hk => ?_, fun k hk => ?_⟩, fun k hk => ?_, fun k hk => ?_⟩
    · have k68 : sg_D tm_H 123 68 [.ref 0, .int (nI 510)] [] (sg_r2 (sg_r1 μ 14 (sg_c1 (μ.1 14) 0 105 (fun k => μ.1 14 (k + 21)))) 15 (sg_c2 (μ.2 15) 0 510 (fun k => μ.2 15 (k + 102)))) none (sm_nt μs 5) := by
        refine sg_aload_n f_123_68 rfl ?_
        refine sg_dup f_123_69 rfl ?_
        refine sg_getf_k f_123_70 fd_m_0_785 (show _ = nI 6 from hz) ?_
        refine sg_iconst (nI 1) f_123_73 ki_1 ?_
        refine sg_isub (nI 5) f_123_74 rfl ?_
        refine sg_putf_j 17 f_123_75 (by decide) fd_m_0_785 rfl ?_
        refine sg_from hs ?_
        exact sm_123_e hz5 (by omega)
      have k38 : sg_D tm_H 123 38 [.ref 0, .int (nI 105)] [] (sg_r1 μ 14 (sg_c1 (μ.1 14) 0 105 (fun k => μ.1 14 (k + 21)))) none (sm_nt μs 5) := by
        refine sg_iconst (nI 0) f_123_38 ki_0 ?_
        refine sg_istore_n [_, _] f_123_39 rfl ?_
        exact sm_123_b_0 k68
      refine sg_aload_n f_123_0 rfl ?_
      refine sg_getf_k f_123_1 fd_m_0_785 hz ?_
      refine sg_bipush (nI 6) f_123_4 kb_6 ?_
      first | refine sg_ncmp_ne 78 (by omega) (by omega) f_123_6 rfl (fun c6 => ?_) (fun c6 => ?_) | refine sg_icmp_ne 78 f_123_6 rfl (fun c6 => ?_) (fun c6 => ?_)
      · exact absurd rfl c6
      · refine sg_iconst (nI 0) f_123_9 ki_0 ?_
        refine sg_istore_n [_, _] f_123_10 rfl ?_
        exact sm_123_a_0 k38
    · rw [sm_nt_0, pk_un hj, e0, pk_un hj]
    · rw [sm_nt_0, pk_us, s6]
    · rw [s6] at hi ⊢
      rw [sm_nt_14, sg_c1_out (by omega), e14]
      exact (congrArg (sg_c1 _ 0 105 _) (show 21 * i + k = 0 + (21 * i + k) by omega)).trans ((sg_c1_in (by omega)).trans (congrArg (μ.1 14) (show 21 * i + k + 21 = _ by omega)))
    · rw [s6] at hi ⊢
      rw [sm_nt_15, sg_c2_out (by omega), e15]
      exact (congrArg (sg_c2 _ 0 510 _) (show 102 * i + k = 0 + (102 * i + k) by omega)).trans ((sg_c2_in (by omega)).trans (congrArg (μ.2 15) (show 102 * i + k + 102 = _ by omega)))
    · rw [s6, sm_nt_14, sg_c1_in hk, e1 12 (by omega) (by omega)]
    · rw [s6, sm_nt_15, sg_c2_in hk, e2 13 (by omega)]
/-! the model: undo -/
theorem sm_124_0 {μ : sg_S} (hz : μ.1 0 17 = nI 0) : sg_D tm_H 124 0 [.ref 0, ab_u] [] μ (some (.int (-2))) μ := by
  refine sg_aload_n f_124_0 rfl ?_
  refine sg_getf_k f_124_1 fd_m_0_785 hz ?_
  refine sg_if_ne 10 f_124_4 rfl (fun c4 => ?_) (fun c4 => ?_)
  · exact absurd nI_0 c4
  · refine sg_bipush (-2) f_124_7 kb_m2 ?_
    exact (sg_iret f_124_9 rk_124)
def sm_un (μ : sg_S) (z : Nat) : sg_S := sg_r2 (sg_r1 (sg_r1 μ 0 (upd (μ.1 0) 17 (nI z))) 12 (sg_c1 (μ.1 12) 0 21 (fun k => μ.1 14 (21 * z + k)))) 13 (sg_c2 (μ.2 13) 0 102 (fun k => μ.2 15 (102 * z + k)))
theorem sm_124 {μ : sg_S} {z : Nat} (hz : μ.1 0 17 = nI (z + 1)) (hz5 : z ≤ 5) : sg_D tm_H 124 0 [.ref 0, ab_u] [] μ (some (.int (nI z))) (sm_un μ z) := by
  have h1 : (sg_r1 μ 0 (upd (μ.1 0) 17 (nI z))).1 0 17 = nI z := by rw [sg_r1_eq, pk_us]
  have k88 : sg_D tm_H 124 88 [.ref 0, .int (nI 102)] [] (sm_un μ z) (some (.int (nI z))) (sm_un μ z) := by
    refine sg_aload_n f_124_88 rfl ?_
    refine sg_getf_k f_124_89 fd_m_0_785 (show _ = nI z from h1) ?_
    exact (sg_iret f_124_92 rk_124)
  have k54 : sg_D tm_H 124 54 [.ref 0, .int (nI 21)] [] (sg_r1 (sg_r1 μ 0 (upd (μ.1 0) 17 (nI z))) 12 (sg_c1 (μ.1 12) 0 21 (fun k => μ.1 14 (21 * z + k)))) (some (.int (nI z))) (sm_un μ z) := by
    refine sg_iconst (nI 0) f_124_54 ki_0 ?_
    refine sg_istore_n [_, _] f_124_55 rfl ?_
    exact sm_124_b_0 (show _ = nI z from h1) hz5 k88
  refine sg_aload_n f_124_0 rfl ?_
  refine sg_getf_k f_124_1 fd_m_0_785 hz ?_
  refine sg_if_ne 10 f_124_4 rfl (fun c4 => ?_) (fun c4 => ?_)
  · refine sg_aload_n f_124_10 rfl ?_
    refine sg_dup f_124_11 rfl ?_
    refine sg_getf_k f_124_12 fd_m_0_785 hz ?_
    refine sg_iconst (nI 1) f_124_15 ki_1 ?_
    refine sg_isub (nI z) f_124_16 (nI_pred z) ?_
    refine sg_putf_j 17 f_124_17 (by decide) fd_m_0_785 rfl ?_
    refine sg_iconst (nI 0) f_124_20 ki_0 ?_
    refine sg_istore_n [_, _] f_124_21 rfl ?_
    exact sm_124_a_0 h1 hz5 k54
  · exact absurd c4 (nI_ne0 (by omega) (by omega))
/-! the model: keep, back -/
theorem sm_153_bad {μ : sg_S} {a : Int32} (h : sg_out a 2) : sg_D tm_H 153 0 [.ref 0, .int a, ab_u] [] μ (some (.int (-1))) μ := by
  refine sg_iload_n f_153_0 rfl ?_
  refine sg_i2l _ f_153_1 rfl ?_
  refine sg_lconst 0 f_153_2 rfl ?_
  refine sg_lconst 1 f_153_3 rfl ?_
  refine sg_calls_i f_153_4 my_153_99 mr_99 (by decide) rfl (Nat.le_of_ble_eq_true rfl) (Nat.le_of_ble_eq_true rfl) rfl (sm_99_0 (sm_n_out (m := 1) rfl rfl rfl (by omega) h)) ?_
  refine sg_if_ne 12 f_153_7 rfl (fun c7 => ?_) (fun c7 => ?_)
  · exact absurd rfl c7
  · refine sg_iconst (-1) f_153_10 ki_m1 ?_
    exact (sg_iret f_153_11 rk_153)
theorem sm_154_bad {μ : sg_S} {a : Int32} (h : sg_out a 2) : sg_D tm_H 154 0 [.ref 0, .int a, ab_u] [] μ (some (.int (-1))) μ := by
  refine sg_iload_n f_154_0 rfl ?_
  refine sg_i2l _ f_154_1 rfl ?_
  refine sg_lconst 0 f_154_2 rfl ?_
  refine sg_lconst 1 f_154_3 rfl ?_
  refine sg_calls_i f_154_4 my_154_99 mr_99 (by decide) rfl (Nat.le_of_ble_eq_true rfl) (Nat.le_of_ble_eq_true rfl) rfl (sm_99_0 (sm_n_out (m := 1) rfl rfl rfl (by omega) h)) ?_
  refine sg_if_ne 12 f_154_7 rfl (fun c7 => ?_) (fun c7 => ?_)
  · exact absurd rfl c7
  · refine sg_iconst (-1) f_154_10 ki_m1 ?_
    exact (sg_iret f_154_11 rk_154)
def sm_kp (μ : sg_S) (a : Nat) : sg_S := sg_r1 (sg_r2 (sg_r1 μ 16 (sg_c1 (μ.1 16) (21 * a) 21 (fun k => μ.1 12 k))) 17 (sg_c2 (μ.2 17) (102 * a) 102 (fun k => μ.2 13 k))) 18 (upd (μ.1 18) a (nI 1))
theorem sm_153 {μ : sg_S} {a : Nat} (ha : a < 2) : sg_D tm_H 153 0 [.ref 0, .int (nI a), ab_u] [] μ (some (.int (μ.1 12 0))) (sm_kp μ a) := by
  have k74 : sg_D tm_H 153 74 [.ref 0, .int (nI a), .int (nI 102)] [] (sg_r2 (sg_r1 μ 16 (sg_c1 (μ.1 16) (21 * a) 21 (fun k => μ.1 12 k))) 17 (sg_c2 (μ.2 17) (102 * a) 102 (fun k => μ.2 13 k))) (some (.int (μ.1 12 0))) (sm_kp μ a) := by
    refine sg_aload_n f_153_74 rfl ?_
    refine sg_getf_r f_153_75 fd_m_0_788 ?_
    refine sg_iload_n f_153_78 rfl ?_
    refine sg_iconst (nI 1) f_153_79 ki_1 ?_
    refine sg_bastore a ok_m f_153_80 sh_m_18 rfl (by omega) (Or.inr rfl) ?_
    refine sg_aload_n f_153_81 rfl ?_
    refine sg_getf_r f_153_82 fd_m_0_781 ?_
    refine sg_iconst (nI 0) f_153_85 ki_0 ?_
    refine sg_iaload_k 0 ok_m f_153_86 sh_m_12 rfl (by omega) (show _ = μ.1 12 0 from rfl) ?_
    exact (sg_iret f_153_87 rk_153)
  have k43 : sg_D tm_H 153 43 [.ref 0, .int (nI a), .int (nI 21)] [] (sg_r1 μ 16 (sg_c1 (μ.1 16) (21 * a) 21 (fun k => μ.1 12 k))) (some (.int (μ.1 12 0))) (sm_kp μ a) := by
    refine sg_iconst (nI 0) f_153_43 ki_0 ?_
    refine sg_istore_n [_, _, _] f_153_44 rfl ?_
    exact sm_153_b_0 ha k74
  refine sg_iload_n f_153_0 rfl ?_
  refine sg_i2l _ f_153_1 rfl ?_
  refine sg_lconst 0 f_153_2 rfl ?_
  refine sg_lconst 1 f_153_3 rfl ?_
  refine sg_calls_i f_153_4 my_153_99 mr_99 (by decide) rfl (Nat.le_of_ble_eq_true rfl) (Nat.le_of_ble_eq_true rfl) rfl (sm_99_1 (sm_n_in (m := 1) rfl rfl (by omega) (by omega))) ?_
  refine sg_if_ne 12 f_153_7 rfl (fun c7 => ?_) (fun c7 => ?_)
  · refine sg_iconst (nI 0) f_153_12 ki_0 ?_
    refine sg_istore_n [_, _, _] f_153_13 rfl ?_
    exact sm_153_a_0 ha k43
  · exact absurd c7 (by decide)
theorem sm_154_st {μ : sg_S} {a : Nat} (ha : a < 2) (h : μ.1 18 a = 0) : sg_D tm_H 154 0 [.ref 0, .int (nI a), ab_u] [] μ (some (.int (-2))) μ := by
  refine sg_iload_n f_154_0 rfl ?_
  refine sg_i2l _ f_154_1 rfl ?_
  refine sg_lconst 0 f_154_2 rfl ?_
  refine sg_lconst 1 f_154_3 rfl ?_
  refine sg_calls_i f_154_4 my_154_99 mr_99 (by decide) rfl (Nat.le_of_ble_eq_true rfl) (Nat.le_of_ble_eq_true rfl) rfl (sm_99_1 (sm_n_in (m := 1) rfl rfl (by omega) (by omega))) ?_
  refine sg_if_ne 12 f_154_7 rfl (fun c7 => ?_) (fun c7 => ?_)
  · refine sg_aload_n f_154_12 rfl ?_
    refine sg_getf_r f_154_13 fd_m_0_788 ?_
    refine sg_iload_n f_154_16 rfl ?_
    refine sg_baload _ ok_m f_154_17 sh_m_18 rfl (by omega) ?_
    refine sg_if_ne 24 f_154_18 rfl (fun c18 => ?_) (fun c18 => ?_)
    · exact absurd h c18
    · refine sg_bipush (-2) f_154_21 kb_m2 ?_
      exact (sg_iret f_154_23 rk_154)
  · exact absurd c7 (by decide)
def sm_bk (μ : sg_S) (a : Nat) : sg_S := sg_r1 (sg_r2 (sg_r1 μ 12 (sg_c1 (μ.1 12) 0 21 (fun k => μ.1 16 (21 * a + k)))) 13 (sg_c2 (μ.2 13) 0 102 (fun k => μ.2 17 (102 * a + k)))) 0 (upd (μ.1 0) 17 (nI 0))
theorem sm_154 {μ : sg_S} {a : Nat} (ha : a < 2) (h : μ.1 18 a ≠ 0) : sg_D tm_H 154 0 [.ref 0, .int (nI a), ab_u] [] μ (some (.int (μ.1 16 (21 * a)))) (sm_bk μ a) := by
  have e : (sm_bk μ a).1 12 0 = μ.1 16 (21 * a) := by
    unfold sm_bk
    rw [sg_r1_ne (by omega), sg_r2_1, sg_r1_eq]
    exact sg_c1_in (o := 0) (k := 0) (by omega)
  have k86 : sg_D tm_H 154 86 [.ref 0, .int (nI a), .int (nI 102)] [] (sg_r2 (sg_r1 μ 12 (sg_c1 (μ.1 12) 0 21 (fun k => μ.1 16 (21 * a + k)))) 13 (sg_c2 (μ.2 13) 0 102 (fun k => μ.2 17 (102 * a + k)))) (some (.int (μ.1 16 (21 * a)))) (sm_bk μ a) := by
    refine sg_aload_n f_154_86 rfl ?_
    refine sg_iconst (nI 0) f_154_87 ki_0 ?_
    refine sg_putf_j 17 f_154_88 (by decide) fd_m_0_785 rfl ?_
    refine sg_aload_n f_154_91 rfl ?_
    refine sg_getf_r f_154_92 fd_m_0_781 ?_
    refine sg_iconst (nI 0) f_154_95 ki_0 ?_
    refine sg_iaload_k 0 ok_m f_154_96 sh_m_12 rfl (by omega) e ?_
    exact (sg_iret f_154_97 rk_154)
  have k55 : sg_D tm_H 154 55 [.ref 0, .int (nI a), .int (nI 21)] [] (sg_r1 μ 12 (sg_c1 (μ.1 12) 0 21 (fun k => μ.1 16 (21 * a + k)))) (some (.int (μ.1 16 (21 * a)))) (sm_bk μ a) := by
    refine sg_iconst (nI 0) f_154_55 ki_0 ?_
    refine sg_istore_n [_, _, _] f_154_56 rfl ?_
    exact sm_154_b_0 ha k86
  refine sg_iload_n f_154_0 rfl ?_
  refine sg_i2l _ f_154_1 rfl ?_
  refine sg_lconst 0 f_154_2 rfl ?_
  refine sg_lconst 1 f_154_3 rfl ?_
  refine sg_calls_i f_154_4 my_154_99 mr_99 (by decide) rfl (Nat.le_of_ble_eq_true rfl) (Nat.le_of_ble_eq_true rfl) rfl (sm_99_1 (sm_n_in (m := 1) rfl rfl (by omega) (by omega))) ?_
  refine sg_if_ne 12 f_154_7 rfl (fun c7 => ?_) (fun c7 => ?_)
  · refine sg_aload_n f_154_12 rfl ?_
    refine sg_getf_r f_154_13 fd_m_0_788 ?_
    refine sg_iload_n f_154_16 rfl ?_
    refine sg_baload _ ok_m f_154_17 sh_m_18 rfl (by omega) ?_
    refine sg_if_ne 24 f_154_18 rfl (fun c18 => ?_) (fun c18 => ?_)
    · refine sg_iconst (nI 0) f_154_24 ki_0 ?_
      refine sg_istore_n [_, _, _] f_154_25 rfl ?_
      exact sm_154_a_0 ha k55
    · exact absurd c18 h
  · exact absurd c7 (by decide)
