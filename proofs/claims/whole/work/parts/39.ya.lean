/-! the model: in, isTree, isRegister, and its calls where an argument is out of range -/
theorem sg_cmp_lt {a b : Int64} : lg_cmp a b < 0 ↔ a < b := by
  unfold lg_cmp
  by_cases h1 : a > b
  · rw [if_pos h1]
    exact ⟨fun h => absurd h (by decide), fun h => absurd (Int64.lt_trans h h1) (fun z => Int64.lt_irrefl z)⟩
  · rw [if_neg h1]
    by_cases h2 : a = b
    · rw [if_pos h2]
      exact ⟨fun h => absurd h (by decide), fun h => absurd (h2 ▸ h) (fun z => Int64.lt_irrefl z)⟩
    · rw [if_neg h2]
      refine ⟨fun _ => ?_, fun _ => by decide⟩
      rw [gt_iff_lt, Int64.lt_iff_toInt_lt] at h1
      rw [← Int64.toInt_inj] at h2
      rw [Int64.lt_iff_toInt_lt]
      omega
theorem sg_cmp_gt {a b : Int64} : 0 < lg_cmp a b ↔ b < a := by
  unfold lg_cmp
  by_cases h1 : a > b
  · rw [if_pos h1]
    exact ⟨fun _ => h1, fun _ => by decide⟩
  · rw [if_neg h1]
    refine ⟨fun h => ?_, fun h => absurd h h1⟩
    by_cases h2 : a = b
    · rw [if_pos h2] at h; exact absurd h (by decide)
    · rw [if_neg h2] at h; exact absurd h (by decide)
theorem sm_99_1 {μ : sg_S} {t : Int32} {lo hi : Int64} (h : lo.toInt ≤ t.toInt ∧ t.toInt ≤ hi.toInt) : sg_D tm_H 99 0 [.long t.toInt64, ab_u, .long lo, ab_u, .long hi, ab_u] [] μ (some (.int (nI 1))) μ := by
  have e := Int32.toInt_toInt64 t
  refine sg_lload_n f_99_0 rfl ?_
  refine sg_lload_n f_99_1 rfl ?_
  refine sg_lcmp f_99_2 ?_
  refine sg_if_lt 17 f_99_3 rfl (fun c3 => ?_) (fun c3 => ?_)
  · exact absurd (Int64.lt_iff_toInt_lt.mp (sg_cmp_lt.mp c3)) (by omega)
  · refine sg_lload_n f_99_6 rfl ?_
    refine sg_lload f_99_7 rfl ?_
    refine sg_lcmp f_99_9 ?_
    refine sg_if_gt 17 f_99_10 rfl (fun c10 => ?_) (fun c10 => ?_)
    · exact absurd (Int64.lt_iff_toInt_lt.mp (sg_cmp_gt.mp c10)) (by omega)
    · refine sg_iconst (nI 1) f_99_13 ki_1 ?_
      refine sg_goto 18 f_99_14 rfl ?_
      exact (sg_zret f_99_18 rk_99 (by first | exact Or.inl rfl | exact Or.inr rfl | assumption))
theorem sm_99_0 {μ : sg_S} {t : Int32} {lo hi : Int64} (h : t.toInt < lo.toInt ∨ hi.toInt < t.toInt) : sg_D tm_H 99 0 [.long t.toInt64, ab_u, .long lo, ab_u, .long hi, ab_u] [] μ (some (.int (nI 0))) μ := by
  have e := Int32.toInt_toInt64 t
  refine sg_lload_n f_99_0 rfl ?_
  refine sg_lload_n f_99_1 rfl ?_
  refine sg_lcmp f_99_2 ?_
  refine sg_if_lt 17 f_99_3 rfl (fun c3 => ?_) (fun c3 => ?_)
  · refine sg_iconst (nI 0) f_99_17 ki_0 ?_
    exact (sg_zret f_99_18 rk_99 (by first | exact Or.inl rfl | exact Or.inr rfl | assumption))
  · refine sg_lload_n f_99_6 rfl ?_
    refine sg_lload f_99_7 rfl ?_
    refine sg_lcmp f_99_9 ?_
    refine sg_if_gt 17 f_99_10 rfl (fun c10 => ?_) (fun c10 => ?_)
    · refine sg_iconst (nI 0) f_99_17 ki_0 ?_
      exact (sg_zret f_99_18 rk_99 (by first | exact Or.inl rfl | exact Or.inr rfl | assumption))
    · exact absurd h (fun z => z.elim (fun z => c3 (sg_cmp_lt.mpr (Int64.lt_iff_toInt_lt.mpr (by omega)))) (fun z => c10 (sg_cmp_gt.mpr (Int64.lt_iff_toInt_lt.mpr (by omega)))))
theorem sm_n_in {j m : Nat} {lo hi : Int64} (hl : lo.toInt = 0) (hm : hi.toInt = m) (hj : j ≤ m) (h : j < 2 ^ 31) : lo.toInt ≤ (nI j).toInt ∧ (nI j).toInt ≤ hi.toInt := by
  rw [nI_toInt h, hl, hm]; omega
theorem sm_n_out {t : Int32} {n m : Nat} {lo hi : Int64} (hl : lo.toInt = 0) (hm : hi.toInt = m) (hn : m + 1 = n) (hn2 : n < 2 ^ 31) (h : sg_out t n) : t.toInt < lo.toInt ∨ hi.toInt < t.toInt := by
  rw [hl, hm]; exact sg_out_i h hn hn2
theorem sm_100_1 {μ : sg_S} {j : Nat} (hj : j < 17) : sg_D tm_H 100 0 [.int (nI j)] [] μ (some (.int (nI 1))) μ := by
  refine sg_iload_n f_100_0 rfl ?_
  refine sg_i2l _ f_100_1 rfl ?_
  refine sg_lconst 0 f_100_2 rfl ?_
  refine sg_ldc2_w (16) f_100_3 rfl ?_
  refine sg_calls_i f_100_6 my_100_99 mr_99 (by decide) rfl (Nat.le_of_ble_eq_true rfl) (Nat.le_of_ble_eq_true rfl) rfl (sm_99_1 (sm_n_in (m := 16) rfl rfl (by omega) (by omega))) ?_
  exact (sg_zret f_100_9 rk_100 (by first | exact Or.inl rfl | exact Or.inr rfl | assumption))
theorem sm_100_0 {μ : sg_S} {t : Int32} (h : sg_out t 17) : sg_D tm_H 100 0 [.int t] [] μ (some (.int (nI 0))) μ := by
  refine sg_iload_n f_100_0 rfl ?_
  refine sg_i2l _ f_100_1 rfl ?_
  refine sg_lconst 0 f_100_2 rfl ?_
  refine sg_ldc2_w (16) f_100_3 rfl ?_
  refine sg_calls_i f_100_6 my_100_99 mr_99 (by decide) rfl (Nat.le_of_ble_eq_true rfl) (Nat.le_of_ble_eq_true rfl) rfl (sm_99_0 (sm_n_out (m := 16) rfl rfl rfl (by omega) h)) ?_
  exact (sg_zret f_100_9 rk_100 (by first | exact Or.inl rfl | exact Or.inr rfl | assumption))
theorem sm_101_1 {μ : sg_S} {j : Nat} (hj : j < 6) : sg_D tm_H 101 0 [.int (nI j)] [] μ (some (.int (nI 1))) μ := by
  refine sg_iload_n f_101_0 rfl ?_
  refine sg_i2l _ f_101_1 rfl ?_
  refine sg_lconst 0 f_101_2 rfl ?_
  refine sg_ldc2_w (5) f_101_3 rfl ?_
  refine sg_calls_i f_101_6 my_101_99 mr_99 (by decide) rfl (Nat.le_of_ble_eq_true rfl) (Nat.le_of_ble_eq_true rfl) rfl (sm_99_1 (sm_n_in (m := 5) rfl rfl (by omega) (by omega))) ?_
  exact (sg_zret f_101_9 rk_101 (by first | exact Or.inl rfl | exact Or.inr rfl | assumption))
theorem sm_101_0 {μ : sg_S} {t : Int32} (h : sg_out t 6) : sg_D tm_H 101 0 [.int t] [] μ (some (.int (nI 0))) μ := by
  refine sg_iload_n f_101_0 rfl ?_
  refine sg_i2l _ f_101_1 rfl ?_
  refine sg_lconst 0 f_101_2 rfl ?_
  refine sg_ldc2_w (5) f_101_3 rfl ?_
  refine sg_calls_i f_101_6 my_101_99 mr_99 (by decide) rfl (Nat.le_of_ble_eq_true rfl) (Nat.le_of_ble_eq_true rfl) rfl (sm_99_0 (sm_n_out (m := 5) rfl rfl rfl (by omega) h)) ?_
  exact (sg_zret f_101_9 rk_101 (by first | exact Or.inl rfl | exact Or.inr rfl | assumption))
theorem sm_138_bad0 {μ : sg_S} {a : Int32} (ha : sg_out a 6) : sg_D tm_H 138 0 [.ref 0, .int a] [] μ (some (.int (-1))) μ := by
  refine sg_iload_n f_138_0 rfl ?_
  refine sg_calls_i f_138_1 my_138_101 mr_101 (by decide) rfl (Nat.le_of_ble_eq_true rfl) (Nat.le_of_ble_eq_true rfl) rfl (sm_101_0 ha) ?_
  refine sg_if_ne 9 f_138_4 rfl (fun c4 => ?_) (fun c4 => ?_)
  · exact absurd rfl c4
  · refine sg_iconst (-1) f_138_7 ki_m1 ?_
    exact (sg_iret f_138_8 rk_138)
theorem sm_139_bad0 {μ : sg_S} {a : Int32} (ha : sg_out a 6) : sg_D tm_H 139 0 [.ref 0, .int a, ab_u] [] μ (some (.int (-1))) μ := by
  refine sg_iload_n f_139_0 rfl ?_
  refine sg_calls_i f_139_1 my_139_101 mr_101 (by decide) rfl (Nat.le_of_ble_eq_true rfl) (Nat.le_of_ble_eq_true rfl) rfl (sm_101_0 ha) ?_
  refine sg_if_ne 9 f_139_4 rfl (fun c4 => ?_) (fun c4 => ?_)
  · exact absurd rfl c4
  · refine sg_iconst (-1) f_139_7 ki_m1 ?_
    exact (sg_iret f_139_8 rk_139)
theorem sm_140_bad0 {μ : sg_S} {a : Int32} (ha : sg_out a 6) {b : Int32} {c : Int32} : sg_D tm_H 140 0 [.ref 0, .int a, .int b, .int c] [] μ (some (.int (-1))) μ := by
  refine sg_iload_n f_140_0 rfl ?_
  refine sg_calls_i f_140_1 my_140_101 mr_101 (by decide) rfl (Nat.le_of_ble_eq_true rfl) (Nat.le_of_ble_eq_true rfl) rfl (sm_101_0 ha) ?_
  refine sg_if_eq 21 f_140_4 rfl (fun c4 => ?_) (fun c4 => ?_)
  · refine sg_iconst (-1) f_140_21 ki_m1 ?_
    exact (sg_iret f_140_22 rk_140)
  · exact absurd rfl c4
theorem sm_140_bad1 {μ : sg_S} {a : Nat} (ha : a < 6) {b : Int32} (hb : sg_out b 6) {c : Int32} : sg_D tm_H 140 0 [.ref 0, .int (nI a), .int b, .int c] [] μ (some (.int (-1))) μ := by
  refine sg_iload_n f_140_0 rfl ?_
  refine sg_calls_i f_140_1 my_140_101 mr_101 (by decide) rfl (Nat.le_of_ble_eq_true rfl) (Nat.le_of_ble_eq_true rfl) rfl (sm_101_1 ha) ?_
  refine sg_if_eq 21 f_140_4 rfl (fun c4 => ?_) (fun c4 => ?_)
  · exact absurd c4 (by decide)
  · refine sg_iload_n f_140_7 rfl ?_
    refine sg_calls_i f_140_8 my_140_101 mr_101 (by decide) rfl (Nat.le_of_ble_eq_true rfl) (Nat.le_of_ble_eq_true rfl) rfl (sm_101_0 hb) ?_
    refine sg_if_eq 21 f_140_11 rfl (fun c11 => ?_) (fun c11 => ?_)
    · refine sg_iconst (-1) f_140_21 ki_m1 ?_
      exact (sg_iret f_140_22 rk_140)
    · exact absurd rfl c11
theorem sm_140_bad2 {μ : sg_S} {a : Nat} (ha : a < 6) {b : Nat} (hb : b < 6) {c : Int32} (hc : sg_out c 6) : sg_D tm_H 140 0 [.ref 0, .int (nI a), .int (nI b), .int c] [] μ (some (.int (-1))) μ := by
  refine sg_iload_n f_140_0 rfl ?_
  refine sg_calls_i f_140_1 my_140_101 mr_101 (by decide) rfl (Nat.le_of_ble_eq_true rfl) (Nat.le_of_ble_eq_true rfl) rfl (sm_101_1 ha) ?_
  refine sg_if_eq 21 f_140_4 rfl (fun c4 => ?_) (fun c4 => ?_)
  · exact absurd c4 (by decide)
  · refine sg_iload_n f_140_7 rfl ?_
    refine sg_calls_i f_140_8 my_140_101 mr_101 (by decide) rfl (Nat.le_of_ble_eq_true rfl) (Nat.le_of_ble_eq_true rfl) rfl (sm_101_1 hb) ?_
    refine sg_if_eq 21 f_140_11 rfl (fun c11 => ?_) (fun c11 => ?_)
    · exact absurd c11 (by decide)
    · refine sg_iload_n f_140_14 rfl ?_
      refine sg_calls_i f_140_15 my_140_101 mr_101 (by decide) rfl (Nat.le_of_ble_eq_true rfl) (Nat.le_of_ble_eq_true rfl) rfl (sm_101_0 hc) ?_
      refine sg_if_ne 23 f_140_18 rfl (fun c18 => ?_) (fun c18 => ?_)
      · exact absurd rfl c18
      · refine sg_iconst (-1) f_140_21 ki_m1 ?_
        exact (sg_iret f_140_22 rk_140)
theorem sm_141_bad0 {μ : sg_S} {a : Int32} (ha : sg_out a 6) {b : Int32} : sg_D tm_H 141 0 [.ref 0, .int a, .int b] [] μ (some (.int (-1))) μ := by
  refine sg_iload_n f_141_0 rfl ?_
  refine sg_calls_i f_141_1 my_141_101 mr_101 (by decide) rfl (Nat.le_of_ble_eq_true rfl) (Nat.le_of_ble_eq_true rfl) rfl (sm_101_0 ha) ?_
  refine sg_if_eq 14 f_141_4 rfl (fun c4 => ?_) (fun c4 => ?_)
  · refine sg_iconst (-1) f_141_14 ki_m1 ?_
    exact (sg_iret f_141_15 rk_141)
  · exact absurd rfl c4
theorem sm_141_bad1 {μ : sg_S} {a : Nat} (ha : a < 6) {b : Int32} (hb : sg_out b 6) : sg_D tm_H 141 0 [.ref 0, .int (nI a), .int b] [] μ (some (.int (-1))) μ := by
  refine sg_iload_n f_141_0 rfl ?_
  refine sg_calls_i f_141_1 my_141_101 mr_101 (by decide) rfl (Nat.le_of_ble_eq_true rfl) (Nat.le_of_ble_eq_true rfl) rfl (sm_101_1 ha) ?_
  refine sg_if_eq 14 f_141_4 rfl (fun c4 => ?_) (fun c4 => ?_)
  · exact absurd c4 (by decide)
  · refine sg_iload_n f_141_7 rfl ?_
    refine sg_calls_i f_141_8 my_141_101 mr_101 (by decide) rfl (Nat.le_of_ble_eq_true rfl) (Nat.le_of_ble_eq_true rfl) rfl (sm_101_0 hb) ?_
    refine sg_if_ne 16 f_141_11 rfl (fun c11 => ?_) (fun c11 => ?_)
    · exact absurd rfl c11
    · refine sg_iconst (-1) f_141_14 ki_m1 ?_
      exact (sg_iret f_141_15 rk_141)
theorem sm_142_bad0 {μ : sg_S} {a : Int32} (ha : sg_out a 6) {b : Int32} {c : Int32} : sg_D tm_H 142 0 [.ref 0, .int a, .int b, .int c] [] μ (some (.int (-1))) μ := by
  refine sg_iload_n f_142_0 rfl ?_
  refine sg_calls_i f_142_1 my_142_101 mr_101 (by decide) rfl (Nat.le_of_ble_eq_true rfl) (Nat.le_of_ble_eq_true rfl) rfl (sm_101_0 ha) ?_
  refine sg_if_eq 28 f_142_4 rfl (fun c4 => ?_) (fun c4 => ?_)
  · refine sg_iconst (-1) f_142_28 ki_m1 ?_
    exact (sg_iret f_142_29 rk_142)
  · exact absurd rfl c4
theorem sm_142_bad1 {μ : sg_S} {a : Nat} (ha : a < 6) {b : Int32} (hb : sg_out b 6) {c : Int32} : sg_D tm_H 142 0 [.ref 0, .int (nI a), .int b, .int c] [] μ (some (.int (-1))) μ := by
  refine sg_iload_n f_142_0 rfl ?_
  refine sg_calls_i f_142_1 my_142_101 mr_101 (by decide) rfl (Nat.le_of_ble_eq_true rfl) (Nat.le_of_ble_eq_true rfl) rfl (sm_101_1 ha) ?_
  refine sg_if_eq 28 f_142_4 rfl (fun c4 => ?_) (fun c4 => ?_)
  · exact absurd c4 (by decide)
  · refine sg_iload_n f_142_7 rfl ?_
    refine sg_calls_i f_142_8 my_142_101 mr_101 (by decide) rfl (Nat.le_of_ble_eq_true rfl) (Nat.le_of_ble_eq_true rfl) rfl (sm_101_0 hb) ?_
    refine sg_if_eq 28 f_142_11 rfl (fun c11 => ?_) (fun c11 => ?_)
    · refine sg_iconst (-1) f_142_28 ki_m1 ?_
      exact (sg_iret f_142_29 rk_142)
    · exact absurd rfl c11
theorem sm_143_bad0 {μ : sg_S} {a : Int32} (ha : sg_out a 6) {b : Int32} : sg_D tm_H 143 0 [.ref 0, .int a, .int b, ab_u, ab_u] [] μ (some (.int (-1))) μ := by
  refine sg_iload_n f_143_0 rfl ?_
  refine sg_calls_i f_143_1 my_143_101 mr_101 (by decide) rfl (Nat.le_of_ble_eq_true rfl) (Nat.le_of_ble_eq_true rfl) rfl (sm_101_0 ha) ?_
  refine sg_if_eq 14 f_143_4 rfl (fun c4 => ?_) (fun c4 => ?_)
  · refine sg_iconst (-1) f_143_14 ki_m1 ?_
    exact (sg_iret f_143_15 rk_143)
  · exact absurd rfl c4
theorem sm_143_bad1 {μ : sg_S} {a : Nat} (ha : a < 6) {b : Int32} (hb : sg_out b 6) : sg_D tm_H 143 0 [.ref 0, .int (nI a), .int b, ab_u, ab_u] [] μ (some (.int (-1))) μ := by
  refine sg_iload_n f_143_0 rfl ?_
  refine sg_calls_i f_143_1 my_143_101 mr_101 (by decide) rfl (Nat.le_of_ble_eq_true rfl) (Nat.le_of_ble_eq_true rfl) rfl (sm_101_1 ha) ?_
  refine sg_if_eq 14 f_143_4 rfl (fun c4 => ?_) (fun c4 => ?_)
  · exact absurd c4 (by decide)
  · refine sg_iload_n f_143_7 rfl ?_
    refine sg_calls_i f_143_8 my_143_101 mr_101 (by decide) rfl (Nat.le_of_ble_eq_true rfl) (Nat.le_of_ble_eq_true rfl) rfl (sm_101_0 hb) ?_
    refine sg_if_ne 16 f_143_11 rfl (fun c11 => ?_) (fun c11 => ?_)
    · exact absurd rfl c11
    · refine sg_iconst (-1) f_143_14 ki_m1 ?_
      exact (sg_iret f_143_15 rk_143)
theorem sm_144_bad0 {μ : sg_S} {a : Int32} (ha : sg_out a 6) {b : Int32} {c : Int32} : sg_D tm_H 144 0 [.ref 0, .int a, .int b, .int c] [] μ (some (.int (-1))) μ := by
  refine sg_iload_n f_144_0 rfl ?_
  refine sg_calls_i f_144_1 my_144_101 mr_101 (by decide) rfl (Nat.le_of_ble_eq_true rfl) (Nat.le_of_ble_eq_true rfl) rfl (sm_101_0 ha) ?_
  refine sg_if_eq 14 f_144_4 rfl (fun c4 => ?_) (fun c4 => ?_)
  · refine sg_iconst (-1) f_144_14 ki_m1 ?_
    exact (sg_iret f_144_15 rk_144)
  · exact absurd rfl c4
theorem sm_144_bad1 {μ : sg_S} {a : Nat} (ha : a < 6) {b : Int32} (hb : sg_out b 17) {c : Int32} : sg_D tm_H 144 0 [.ref 0, .int (nI a), .int b, .int c] [] μ (some (.int (-1))) μ := by
  refine sg_iload_n f_144_0 rfl ?_
  refine sg_calls_i f_144_1 my_144_101 mr_101 (by decide) rfl (Nat.le_of_ble_eq_true rfl) (Nat.le_of_ble_eq_true rfl) rfl (sm_101_1 ha) ?_
  refine sg_if_eq 14 f_144_4 rfl (fun c4 => ?_) (fun c4 => ?_)
  · exact absurd c4 (by decide)
  · refine sg_iload_n f_144_7 rfl ?_
    refine sg_calls_i f_144_8 my_144_100 mr_100 (by decide) rfl (Nat.le_of_ble_eq_true rfl) (Nat.le_of_ble_eq_true rfl) rfl (sm_100_0 hb) ?_
    refine sg_if_ne 16 f_144_11 rfl (fun c11 => ?_) (fun c11 => ?_)
    · exact absurd rfl c11
    · refine sg_iconst (-1) f_144_14 ki_m1 ?_
      exact (sg_iret f_144_15 rk_144)
theorem sm_145_bad0 {μ : sg_S} {a : Int32} (ha : sg_out a 6) {b : Int32} : sg_D tm_H 145 0 [.ref 0, .int a, .int b] [] μ (some (.long (-9000000000000000000))) μ := by
  refine sg_iload_n f_145_0 rfl ?_
  refine sg_calls_i f_145_1 my_145_101 mr_101 (by decide) rfl (Nat.le_of_ble_eq_true rfl) (Nat.le_of_ble_eq_true rfl) rfl (sm_101_0 ha) ?_
  refine sg_if_eq 28 f_145_4 rfl (fun c4 => ?_) (fun c4 => ?_)
  · refine sg_ldc2_w (-9000000000000000000) f_145_28 rfl ?_
    exact (sg_lret f_145_31 rk_145)
  · exact absurd rfl c4
theorem sm_145_bad1 {μ : sg_S} {a : Nat} (ha : a < 6) {b : Int32} (hb : sg_out b 17) : sg_D tm_H 145 0 [.ref 0, .int (nI a), .int b] [] μ (some (.long (-9000000000000000000))) μ := by
  refine sg_iload_n f_145_0 rfl ?_
  refine sg_calls_i f_145_1 my_145_101 mr_101 (by decide) rfl (Nat.le_of_ble_eq_true rfl) (Nat.le_of_ble_eq_true rfl) rfl (sm_101_1 ha) ?_
  refine sg_if_eq 28 f_145_4 rfl (fun c4 => ?_) (fun c4 => ?_)
  · exact absurd c4 (by decide)
  · refine sg_iload_n f_145_7 rfl ?_
    refine sg_calls_i f_145_8 my_145_100 mr_100 (by decide) rfl (Nat.le_of_ble_eq_true rfl) (Nat.le_of_ble_eq_true rfl) rfl (sm_100_0 hb) ?_
    refine sg_if_eq 28 f_145_11 rfl (fun c11 => ?_) (fun c11 => ?_)
    · refine sg_ldc2_w (-9000000000000000000) f_145_28 rfl ?_
      exact (sg_lret f_145_31 rk_145)
    · exact absurd rfl c11
theorem sm_110_bad0 {μ : sg_S} {a : Int32} (ha : sg_out a 17) {b : Int32} : sg_D tm_H 110 0 [.ref 0, .int a, .int b] [] μ (some (.int (-1))) μ := by
  refine sg_iload_n f_110_0 rfl ?_
  refine sg_calls_i f_110_1 my_110_100 mr_100 (by decide) rfl (Nat.le_of_ble_eq_true rfl) (Nat.le_of_ble_eq_true rfl) rfl (sm_100_0 ha) ?_
  refine sg_if_ne 9 f_110_4 rfl (fun c4 => ?_) (fun c4 => ?_)
  · exact absurd rfl c4
  · refine sg_iconst (-1) f_110_7 ki_m1 ?_
    exact (sg_iret f_110_8 rk_110)
theorem sm_111_bad0 {μ : sg_S} {a : Int32} (ha : sg_out a 17) {b : Int32} : sg_D tm_H 111 0 [.ref 0, .int a, .int b] [] μ (some (.int (-1))) μ := by
  refine sg_iload_n f_111_0 rfl ?_
  refine sg_calls_i f_111_1 my_111_100 mr_100 (by decide) rfl (Nat.le_of_ble_eq_true rfl) (Nat.le_of_ble_eq_true rfl) rfl (sm_100_0 ha) ?_
  refine sg_if_eq 11 f_111_4 rfl (fun c4 => ?_) (fun c4 => ?_)
  · refine sg_iconst (-1) f_111_11 ki_m1 ?_
    exact (sg_iret f_111_12 rk_111)
  · exact absurd rfl c4
theorem sm_112_bad0 {μ : sg_S} {a : Int32} (ha : sg_out a 17) {b : Int32} {c : Int32} : sg_D tm_H 112 0 [.ref 0, .int a, .int b, .int c, ab_u] [] μ (some (.int (-1))) μ := by
  refine sg_iload_n f_112_0 rfl ?_
  refine sg_calls_i f_112_1 my_112_100 mr_100 (by decide) rfl (Nat.le_of_ble_eq_true rfl) (Nat.le_of_ble_eq_true rfl) rfl (sm_100_0 ha) ?_
  refine sg_if_eq 16 f_112_4 rfl (fun c4 => ?_) (fun c4 => ?_)
  · refine sg_iconst (-1) f_112_16 ki_m1 ?_
    exact (sg_iret f_112_17 rk_112)
  · exact absurd rfl c4
theorem sm_113_bad0 {μ : sg_S} {a : Int32} (ha : sg_out a 17) {b : Int32} : sg_D tm_H 113 0 [.ref 0, .int a, .int b] [] μ (some (.int (-1))) μ := by
  refine sg_iload_n f_113_0 rfl ?_
  refine sg_calls_i f_113_1 my_113_100 mr_100 (by decide) rfl (Nat.le_of_ble_eq_true rfl) (Nat.le_of_ble_eq_true rfl) rfl (sm_100_0 ha) ?_
  refine sg_if_eq 23 f_113_4 rfl (fun c4 => ?_) (fun c4 => ?_)
  · refine sg_iconst (-1) f_113_23 ki_m1 ?_
    exact (sg_iret f_113_24 rk_113)
  · exact absurd rfl c4
theorem sm_113_bad1 {μ : sg_S} {a : Nat} (ha : a < 17) {b : Int32} (hb : sg_out b 17) : sg_D tm_H 113 0 [.ref 0, .int (nI a), .int b] [] μ (some (.int (-1))) μ := by
  refine sg_iload_n f_113_0 rfl ?_
  refine sg_calls_i f_113_1 my_113_100 mr_100 (by decide) rfl (Nat.le_of_ble_eq_true rfl) (Nat.le_of_ble_eq_true rfl) rfl (sm_100_1 ha) ?_
  refine sg_if_eq 23 f_113_4 rfl (fun c4 => ?_) (fun c4 => ?_)
  · exact absurd c4 (by decide)
  · refine sg_iload_n f_113_7 rfl ?_
    refine sg_calls_i f_113_8 my_113_100 mr_100 (by decide) rfl (Nat.le_of_ble_eq_true rfl) (Nat.le_of_ble_eq_true rfl) rfl (sm_100_0 hb) ?_
    refine sg_if_eq 23 f_113_11 rfl (fun c11 => ?_) (fun c11 => ?_)
    · refine sg_iconst (-1) f_113_23 ki_m1 ?_
      exact (sg_iret f_113_24 rk_113)
    · exact absurd rfl c11
theorem sm_114_bad0 {μ : sg_S} {a : Int32} (ha : sg_out a 17) {b : Int32} : sg_D tm_H 114 0 [.ref 0, .int a, .int b, ab_u, ab_u] [] μ (some (.int (-1))) μ := by
  refine sg_iload_n f_114_0 rfl ?_
  refine sg_calls_i f_114_1 my_114_100 mr_100 (by decide) rfl (Nat.le_of_ble_eq_true rfl) (Nat.le_of_ble_eq_true rfl) rfl (sm_100_0 ha) ?_
  refine sg_if_eq 14 f_114_4 rfl (fun c4 => ?_) (fun c4 => ?_)
  · refine sg_iconst (-1) f_114_14 ki_m1 ?_
    exact (sg_iret f_114_15 rk_114)
  · exact absurd rfl c4
theorem sm_114_bad1 {μ : sg_S} {a : Nat} (ha : a < 17) {b : Int32} (hb : sg_out b 17) : sg_D tm_H 114 0 [.ref 0, .int (nI a), .int b, ab_u, ab_u] [] μ (some (.int (-1))) μ := by
  refine sg_iload_n f_114_0 rfl ?_
  refine sg_calls_i f_114_1 my_114_100 mr_100 (by decide) rfl (Nat.le_of_ble_eq_true rfl) (Nat.le_of_ble_eq_true rfl) rfl (sm_100_1 ha) ?_
  refine sg_if_eq 14 f_114_4 rfl (fun c4 => ?_) (fun c4 => ?_)
  · exact absurd c4 (by decide)
  · refine sg_iload_n f_114_7 rfl ?_
    refine sg_calls_i f_114_8 my_114_100 mr_100 (by decide) rfl (Nat.le_of_ble_eq_true rfl) (Nat.le_of_ble_eq_true rfl) rfl (sm_100_0 hb) ?_
    refine sg_if_ne 16 f_114_11 rfl (fun c11 => ?_) (fun c11 => ?_)
    · exact absurd rfl c11
    · refine sg_iconst (-1) f_114_14 ki_m1 ?_
      exact (sg_iret f_114_15 rk_114)
theorem sm_148_bad0 {μ : sg_S} {a : Int32} (ha : sg_out a 6) {b : Int32} : sg_D tm_H 148 0 [.ref 0, .int a, .int b] [] μ (some (.int (-1))) μ := by
  refine sg_iload_n f_148_0 rfl ?_
  refine sg_calls_i f_148_1 my_148_101 mr_101 (by decide) rfl (Nat.le_of_ble_eq_true rfl) (Nat.le_of_ble_eq_true rfl) rfl (sm_101_0 ha) ?_
  refine sg_if_eq 19 f_148_4 rfl (fun c4 => ?_) (fun c4 => ?_)
  · refine sg_iconst (-1) f_148_19 ki_m1 ?_
    exact (sg_iret f_148_20 rk_148)
  · exact absurd rfl c4
theorem sm_149_bad0 {μ : sg_S} {a : Int32} (ha : sg_out a 6) {b : Int32} : sg_D tm_H 149 0 [.ref 0, .int a, .int b, ab_u, ab_u] [] μ (some (.int (-1))) μ := by
  refine sg_iload_n f_149_0 rfl ?_
  refine sg_calls_i f_149_1 my_149_101 mr_101 (by decide) rfl (Nat.le_of_ble_eq_true rfl) (Nat.le_of_ble_eq_true rfl) rfl (sm_101_0 ha) ?_
  refine sg_if_eq 14 f_149_4 rfl (fun c4 => ?_) (fun c4 => ?_)
  · refine sg_iconst (-1) f_149_14 ki_m1 ?_
    exact (sg_iret f_149_15 rk_149)
  · exact absurd rfl c4
theorem sm_149_bad1 {μ : sg_S} {a : Nat} (ha : a < 6) {b : Int32} (hb : sg_out b 6) : sg_D tm_H 149 0 [.ref 0, .int (nI a), .int b, ab_u, ab_u] [] μ (some (.int (-1))) μ := by
  refine sg_iload_n f_149_0 rfl ?_
  refine sg_calls_i f_149_1 my_149_101 mr_101 (by decide) rfl (Nat.le_of_ble_eq_true rfl) (Nat.le_of_ble_eq_true rfl) rfl (sm_101_1 ha) ?_
  refine sg_if_eq 14 f_149_4 rfl (fun c4 => ?_) (fun c4 => ?_)
  · exact absurd c4 (by decide)
  · refine sg_iload_n f_149_7 rfl ?_
    refine sg_calls_i f_149_8 my_149_101 mr_101 (by decide) rfl (Nat.le_of_ble_eq_true rfl) (Nat.le_of_ble_eq_true rfl) rfl (sm_101_0 hb) ?_
    refine sg_if_ne 16 f_149_11 rfl (fun c11 => ?_) (fun c11 => ?_)
    · exact absurd rfl c11
    · refine sg_iconst (-1) f_149_14 ki_m1 ?_
      exact (sg_iret f_149_15 rk_149)
theorem sm_150_bad0 {μ : sg_S} {a : Int32} (ha : sg_out a 17) {b : Int64} : sg_D tm_H 150 0 [.ref 0, .int a, .long b, ab_u] [] μ (some (.int (-1))) μ := by
  refine sg_iload_n f_150_0 rfl ?_
  refine sg_calls_i f_150_1 my_150_100 mr_100 (by decide) rfl (Nat.le_of_ble_eq_true rfl) (Nat.le_of_ble_eq_true rfl) rfl (sm_100_0 ha) ?_
  refine sg_if_ne 9 f_150_4 rfl (fun c4 => ?_) (fun c4 => ?_)
  · exact absurd rfl c4
  · refine sg_iconst (-1) f_150_7 ki_m1 ?_
    exact (sg_iret f_150_8 rk_150)
/-! the model: calls that read the tables -/
theorem sm_105 {μ : sg_S} {t : Nat} (hT : tm_Tab μ) (ht : t < 17) : sg_D tm_H 105 0 [.ref 0, .int (nI t)] [] μ (some (.int (nI (t_mn t)))) μ := by
  have hs := tb_st1 t ht
  refine sg_aload_n f_105_0 rfl ?_
  refine sg_getf_r f_105_1 fd_m_0_775 ?_
  refine sg_iload_n f_105_4 rfl ?_
  refine sg_iconst (nI 1) f_105_5 ki_1 ?_
  first | refine sg_iadd _ f_105_6 (nI_add _ _) ?_ | refine sg_iadd _ f_105_6 rfl ?_
  refine sg_iaload_k (t + 1) ok_m f_105_7 sh_m_7 rfl (by omega) (hT.2.2.1 (t + 1) (by omega)) ?_
  refine sg_aload_n f_105_8 rfl ?_
  refine sg_getf_r f_105_9 fd_m_0_775 ?_
  refine sg_iload_n f_105_12 rfl ?_
  refine sg_iaload_k t ok_m f_105_13 sh_m_7 rfl (by omega) (hT.2.2.1 t (by omega)) ?_
  refine sg_isub (nI (t_mn t)) f_105_14 (by rw [sg_nsub (by omega)]; congr 1; omega) ?_
  exact (sg_iret f_105_15 rk_105)
def t_fc : Nat → Nat → Nat → Nat
  | 0, _, acc => acc
  | m + 1, k, acc => t_fc m (k + 1) (acc * k)
theorem sm_109_l2 {μ : sg_S} {n : Nat} (hn : n ≤ 5) : ∀ m k acc : Nat, k + m = n + 1 → sg_D tm_H 109 4 [.int (nI n), .int (nI acc), .int (nI k)] [] μ (some (.int (nI (t_fc m k acc)))) μ := by
  intro m
  induction m with
  | zero =>
    intro k acc hk
    rw [t_fc]
    refine sg_iload_n f_109_4 rfl ?_
    refine sg_iload_n f_109_5 rfl ?_
    first | refine sg_ncmp_gt 19 (by omega) (by omega) f_109_6 rfl (fun c6 => ?_) (fun c6 => ?_) | refine sg_icmp_gt 19 f_109_6 rfl (fun c6 => ?_) (fun c6 => ?_)
    · refine sg_iload_n f_109_19 rfl ?_
      exact (sg_iret f_109_20 rk_109)
    · omega
  | succ m ih =>
    intro k acc hk
    rw [t_fc]
    refine sg_iload_n f_109_4 rfl ?_
    refine sg_iload_n f_109_5 rfl ?_
    first | refine sg_ncmp_gt 19 (by omega) (by omega) f_109_6 rfl (fun c6 => ?_) (fun c6 => ?_) | refine sg_icmp_gt 19 f_109_6 rfl (fun c6 => ?_) (fun c6 => ?_)
    · omega
    · refine sg_iload_n f_109_9 rfl ?_
      refine sg_iload_n f_109_10 rfl ?_
      first | refine sg_imul _ f_109_11 (pk_mul _ _) ?_ | refine sg_imul _ f_109_11 rfl ?_
      refine sg_istore_n [_, _, _] f_109_12 rfl ?_
      first | refine sg_iinc _ [_, _, _] f_109_13 rfl (sg_inc1 _) rfl ?_ | refine sg_iinc _ [_, _, _] f_109_13 rfl rfl rfl ?_
      refine sg_goto 4 f_109_16 rfl ?_
      exact ih (k + 1) (acc * k) (by omega)
theorem sm_109 {μ : sg_S} {n : Nat} (hn : n ≤ 5) (h1 : 1 ≤ n) : sg_D tm_H 109 0 [.int (nI n), ab_u, ab_u] [] μ (some (.int (nI (t_fc (n - 1) 2 1)))) μ := by
  refine sg_iconst (nI 1) f_109_0 ki_1 ?_
  refine sg_istore_n [_, _, _] f_109_1 rfl ?_
  refine sg_iconst (nI 2) f_109_2 ki_2 ?_
  refine sg_istore_n [_, _, _] f_109_3 rfl ?_
  exact sm_109_l2 hn (n - 1) 2 1 (by omega)
theorem sm_110_0 {μ : sg_S} {a : Nat} (hT : tm_Tab μ) (ha : a < 17) : sg_D tm_H 110 0 [.ref 0, .int (nI a), .int (nI 0)] [] μ (some (.int (nI (t_nd a)))) μ := by
  refine sg_iload_n f_110_0 rfl ?_
  refine sg_calls_i f_110_1 my_110_100 mr_100 (by decide) rfl (Nat.le_of_ble_eq_true rfl) (Nat.le_of_ble_eq_true rfl) rfl (sm_100_1 ha) ?_
  refine sg_if_ne 9 f_110_4 rfl (fun c4 => ?_) (fun c4 => ?_)
  · refine sg_iload_n f_110_9 rfl ?_
    refine sg_tsw_in 52 0 f_110_10 rfl (by omega) (by omega) rfl rfl ?_
    · refine sg_aload_n f_110_52 rfl ?_
      refine sg_getf_r f_110_53 fd_m_0_770 ?_
      refine sg_iload_n f_110_56 rfl ?_
      refine sg_iaload_k a ok_m f_110_57 sh_m_3 rfl (by omega) (hT.1 a ha).2.1 ?_
      exact (sg_iret f_110_58 rk_110)
  · exact absurd c4 (by decide)
theorem sm_110_1 {μ : sg_S} {a : Nat} (hT : tm_Tab μ) (ha : a < 17) : sg_D tm_H 110 0 [.ref 0, .int (nI a), .int (nI 1)] [] μ (some (.int (nI (t_wd a)))) μ := by
  refine sg_iload_n f_110_0 rfl ?_
  refine sg_calls_i f_110_1 my_110_100 mr_100 (by decide) rfl (Nat.le_of_ble_eq_true rfl) (Nat.le_of_ble_eq_true rfl) rfl (sm_100_1 ha) ?_
  refine sg_if_ne 9 f_110_4 rfl (fun c4 => ?_) (fun c4 => ?_)
  · refine sg_iload_n f_110_9 rfl ?_
    refine sg_tsw_in 59 1 f_110_10 rfl (by omega) (by omega) rfl rfl ?_
    · refine sg_aload_n f_110_59 rfl ?_
      refine sg_getf_r f_110_60 fd_m_0_769 ?_
      refine sg_iload_n f_110_63 rfl ?_
      refine sg_iaload_k a ok_m f_110_64 sh_m_2 rfl (by omega) (hT.1 a ha).1 ?_
      exact (sg_iret f_110_65 rk_110)
  · exact absurd c4 (by decide)
theorem sm_110_2 {μ : sg_S} {a : Nat} (hT : tm_Tab μ) (ha : a < 17) : sg_D tm_H 110 0 [.ref 0, .int (nI a), .int (nI 2)] [] μ (some (.int (nI (t_dn a)))) μ := by
  refine sg_iload_n f_110_0 rfl ?_
  refine sg_calls_i f_110_1 my_110_100 mr_100 (by decide) rfl (Nat.le_of_ble_eq_true rfl) (Nat.le_of_ble_eq_true rfl) rfl (sm_100_1 ha) ?_
  refine sg_if_ne 9 f_110_4 rfl (fun c4 => ?_) (fun c4 => ?_)
  · refine sg_iload_n f_110_9 rfl ?_
    refine sg_tsw_in 66 2 f_110_10 rfl (by omega) (by omega) rfl rfl ?_
    · refine sg_aload_n f_110_66 rfl ?_
      refine sg_getf_r f_110_67 fd_m_0_771 ?_
      refine sg_iload_n f_110_70 rfl ?_
      refine sg_iaload_k a ok_m f_110_71 sh_m_4 rfl (by omega) (hT.1 a ha).2.2.1 ?_
      exact (sg_iret f_110_72 rk_110)
  · exact absurd c4 (by decide)
theorem sm_110_3 {μ : sg_S} {a : Nat} (hT : tm_Tab μ) (ha : a < 17) : sg_D tm_H 110 0 [.ref 0, .int (nI a), .int (nI 3)] [] μ (some (.int (nI (t_sy a)))) μ := by
  refine sg_iload_n f_110_0 rfl ?_
  refine sg_calls_i f_110_1 my_110_100 mr_100 (by decide) rfl (Nat.le_of_ble_eq_true rfl) (Nat.le_of_ble_eq_true rfl) rfl (sm_100_1 ha) ?_
  refine sg_if_ne 9 f_110_4 rfl (fun c4 => ?_) (fun c4 => ?_)
  · refine sg_iload_n f_110_9 rfl ?_
    refine sg_tsw_in 73 3 f_110_10 rfl (by omega) (by omega) rfl rfl ?_
    · refine sg_aload_n f_110_73 rfl ?_
      refine sg_getf_r f_110_74 fd_m_0_772 ?_
      refine sg_iload_n f_110_77 rfl ?_
      refine sg_iaload_k a ok_m f_110_78 sh_m_5 rfl (by omega) (hT.1 a ha).2.2.2.1 ?_
      exact (sg_iret f_110_79 rk_110)
  · exact absurd c4 (by decide)
theorem sm_110_4 {μ : sg_S} {a : Nat} (hT : tm_Tab μ) (ha : a < 17) : sg_D tm_H 110 0 [.ref 0, .int (nI a), .int (nI 4)] [] μ (some (.int (nI (t_hg a)))) μ := by
  refine sg_iload_n f_110_0 rfl ?_
  refine sg_calls_i f_110_1 my_110_100 mr_100 (by decide) rfl (Nat.le_of_ble_eq_true rfl) (Nat.le_of_ble_eq_true rfl) rfl (sm_100_1 ha) ?_
  refine sg_if_ne 9 f_110_4 rfl (fun c4 => ?_) (fun c4 => ?_)
  · refine sg_iload_n f_110_9 rfl ?_
    refine sg_tsw_in 80 4 f_110_10 rfl (by omega) (by omega) rfl rfl ?_
    · refine sg_aload_n f_110_80 rfl ?_
      refine sg_getf_r f_110_81 fd_m_0_773 ?_
      refine sg_iload_n f_110_84 rfl ?_
      refine sg_iaload_k a ok_m f_110_85 sh_m_6 rfl (by omega) (hT.1 a ha).2.2.2.2 ?_
      exact (sg_iret f_110_86 rk_110)
  · exact absurd c4 (by decide)
theorem sm_110_5 {μ : sg_S} {a : Nat} (hT : tm_Tab μ) (ha : a < 17) : sg_D tm_H 110 0 [.ref 0, .int (nI a), .int (nI 5)] [] μ (some (.int (nI (t_mn a)))) μ := by
  refine sg_iload_n f_110_0 rfl ?_
  refine sg_calls_i f_110_1 my_110_100 mr_100 (by decide) rfl (Nat.le_of_ble_eq_true rfl) (Nat.le_of_ble_eq_true rfl) rfl (sm_100_1 ha) ?_
  refine sg_if_ne 9 f_110_4 rfl (fun c4 => ?_) (fun c4 => ?_)
  · refine sg_iload_n f_110_9 rfl ?_
    refine sg_tsw_in 87 5 f_110_10 rfl (by omega) (by omega) rfl rfl ?_
    · refine sg_aload_n f_110_87 rfl ?_
      refine sg_iload_n f_110_88 rfl ?_
      refine sg_callv_i f_110_89 my_110_105 mr_105 rfl (Nat.le_of_ble_eq_true rfl) (Nat.le_of_ble_eq_true rfl) sh_m_0 (by decide) rfl (sm_105 hT ha) ?_
      exact (sg_iret f_110_92 rk_110)
  · exact absurd c4 (by decide)
theorem tb_wy : ∀ a, a < 17 → nI (t_fc (t_nd a - 1) 2 1) / nI (t_dn a) = nI (t_wy a) ∧ ¬ nI (t_dn a) = 0 := by decide +kernel
theorem sm_110_6 {μ : sg_S} {a : Nat} (hT : tm_Tab μ) (ha : a < 17) : sg_D tm_H 110 0 [.ref 0, .int (nI a), .int (nI 6)] [] μ (some (.int (nI (t_wy a)))) μ := by
  have hn := tb_nd1 a ha
  have hw := tb_wy a ha
  refine sg_iload_n f_110_0 rfl ?_
  refine sg_calls_i f_110_1 my_110_100 mr_100 (by decide) rfl (Nat.le_of_ble_eq_true rfl) (Nat.le_of_ble_eq_true rfl) rfl (sm_100_1 ha) ?_
  refine sg_if_ne 9 f_110_4 rfl (fun c4 => ?_) (fun c4 => ?_)
  · refine sg_iload_n f_110_9 rfl ?_
    refine sg_tsw_in 93 6 f_110_10 rfl (by omega) (by omega) rfl rfl ?_
    · refine sg_aload_n f_110_93 rfl ?_
      refine sg_getf_r f_110_94 fd_m_0_770 ?_
      refine sg_iload_n f_110_97 rfl ?_
      refine sg_iaload_k a ok_m f_110_98 sh_m_3 rfl (by omega) (hT.1 a ha).2.1 ?_
      refine sg_calls_i f_110_99 my_110_109 mr_109 (by decide) rfl (Nat.le_of_ble_eq_true rfl) (Nat.le_of_ble_eq_true rfl) rfl (sm_109 hn.2 hn.1) ?_
      refine sg_aload_n f_110_102 rfl ?_
      refine sg_getf_r f_110_103 fd_m_0_771 ?_
      refine sg_iload_n f_110_106 rfl ?_
      refine sg_iaload_k a ok_m f_110_107 sh_m_4 rfl (by omega) (hT.1 a ha).2.2.1 ?_
      refine sg_idiv (nI (t_wy a)) f_110_108 hw.2 hw.1 ?_
      exact (sg_iret f_110_109 rk_110)
  · exact absurd c4 (by decide)
theorem sm_110_out {μ : sg_S} {a : Nat} {k : Int32} (ha : a < 17) (hk : sg_out k 7) : sg_D tm_H 110 0 [.ref 0, .int (nI a), .int k] [] μ (some (.int (-1))) μ := by
  refine sg_iload_n f_110_0 rfl ?_
  refine sg_calls_i f_110_1 my_110_100 mr_100 (by decide) rfl (Nat.le_of_ble_eq_true rfl) (Nat.le_of_ble_eq_true rfl) rfl (sm_100_1 ha) ?_
  refine sg_if_ne 9 f_110_4 rfl (fun c4 => ?_) (fun c4 => ?_)
  · refine sg_iload_n f_110_9 rfl ?_
    refine sg_tsw_out 110 f_110_10 (sg_out_i hk rfl (by omega)) rfl ?_
    · refine sg_iconst (-1) f_110_110 ki_m1 ?_
      exact (sg_iret f_110_111 rk_110)
  · exact absurd c4 (by decide)
theorem sm_111_neg {μ : sg_S} {a : Nat} {k : Int32} (ha : a < 17) (hk : k < 0) : sg_D tm_H 111 0 [.ref 0, .int (nI a), .int k] [] μ (some (.int (-1))) μ := by
  refine sg_iload_n f_111_0 rfl ?_
  refine sg_calls_i f_111_1 my_111_100 mr_100 (by decide) rfl (Nat.le_of_ble_eq_true rfl) (Nat.le_of_ble_eq_true rfl) rfl (sm_100_1 ha) ?_
  refine sg_if_eq 11 f_111_4 rfl (fun c4 => ?_) (fun c4 => ?_)
  · exact absurd c4 (by decide)
  · refine sg_iload_n f_111_7 rfl ?_
    refine sg_if_ge 13 f_111_8 rfl (fun c8 => ?_) (fun c8 => ?_)
    · exact absurd hk (Int32.not_lt.mpr c8)
    · refine sg_iconst (-1) f_111_11 ki_m1 ?_
      exact (sg_iret f_111_12 rk_111)
theorem tb_wd : ∀ a, a < 17 → t_wd a ≤ 4 := by decide +kernel
theorem sm_111 {μ : sg_S} {a k : Nat} (hT : tm_Tab μ) (ha : a < 17) (hk : k < 2 ^ 31) : sg_D tm_H 111 0 [.ref 0, .int (nI a), .int (nI k)] [] μ (some (.int (if k < t_wd a then nI (t_ca (4 * a + k)) else -9))) μ := by
  have hw := tb_wd a ha
  refine sg_iload_n f_111_0 rfl ?_
  refine sg_calls_i f_111_1 my_111_100 mr_100 (by decide) rfl (Nat.le_of_ble_eq_true rfl) (Nat.le_of_ble_eq_true rfl) rfl (sm_100_1 ha) ?_
  refine sg_if_eq 11 f_111_4 rfl (fun c4 => ?_) (fun c4 => ?_)
  · exact absurd c4 (by decide)
  · refine sg_iload_n f_111_7 rfl ?_
    refine sg_if_ge 13 f_111_8 rfl (fun c8 => ?_) (fun c8 => ?_)
    · refine sg_iload_n f_111_13 rfl ?_
      refine sg_aload_n f_111_14 rfl ?_
      refine sg_getf_r f_111_15 fd_m_0_769 ?_
      refine sg_iload_n f_111_18 rfl ?_
      refine sg_iaload_k a ok_m f_111_19 sh_m_2 rfl (by omega) (hT.1 a ha).1 ?_
      first | refine sg_ncmp_ge 36 (by omega) (by omega) f_111_20 rfl (fun c20 => ?_) (fun c20 => ?_) | refine sg_icmp_ge 36 f_111_20 rfl (fun c20 => ?_) (fun c20 => ?_)
      · rw [if_neg (by omega)]
        refine sg_bipush (-9) f_111_36 kb_m9 ?_
        exact (sg_iret f_111_38 rk_111)
      · rw [if_pos (by omega)]
        refine sg_aload_n f_111_23 rfl ?_
        refine sg_getf_r f_111_24 fd_m_0_768 ?_
        refine sg_iconst (nI 4) f_111_27 ki_4 ?_
        refine sg_iload_n f_111_28 rfl ?_
        first | refine sg_imul _ f_111_29 (pk_mul _ _) ?_ | refine sg_imul _ f_111_29 rfl ?_
        refine sg_iload_n f_111_30 rfl ?_
        first | refine sg_iadd _ f_111_31 (nI_add _ _) ?_ | refine sg_iadd _ f_111_31 rfl ?_
        refine sg_iaload_k (4 * a + k) ok_m f_111_32 sh_m_1 rfl (by omega) (hT.2.1 (4 * a + k) (by omega)) ?_
        refine sg_goto 38 f_111_33 rfl ?_
        exact (sg_iret f_111_38 rk_111)
    · exact absurd (nI_pos' hk) c8
theorem sm_112_bad1 {μ : sg_S} {t : Nat} {k i : Int32} (ht : t < 17) (hk : k < 0) : sg_D tm_H 112 0 [.ref 0, .int (nI t), .int k, .int i, ab_u] [] μ (some (.int (-1))) μ := by
  refine sg_iload_n f_112_0 rfl ?_
  refine sg_calls_i f_112_1 my_112_100 mr_100 (by decide) rfl (Nat.le_of_ble_eq_true rfl) (Nat.le_of_ble_eq_true rfl) rfl (sm_100_1 ht) ?_
  refine sg_if_eq 16 f_112_4 rfl (fun c4 => ?_) (fun c4 => ?_)
  · exact absurd c4 (by decide)
  · refine sg_iload_n f_112_7 rfl ?_
    refine sg_if_lt 16 f_112_8 rfl (fun c8 => ?_) (fun c8 => ?_)
    · refine sg_iconst (-1) f_112_16 ki_m1 ?_
      exact (sg_iret f_112_17 rk_112)
    · exact absurd hk c8
theorem sm_112_bad2 {μ : sg_S} {t : Nat} {k i : Int32} (ht : t < 17) (hk : ¬ k < 0) (hi : i < -1) : sg_D tm_H 112 0 [.ref 0, .int (nI t), .int k, .int i, ab_u] [] μ (some (.int (-1))) μ := by
  refine sg_iload_n f_112_0 rfl ?_
  refine sg_calls_i f_112_1 my_112_100 mr_100 (by decide) rfl (Nat.le_of_ble_eq_true rfl) (Nat.le_of_ble_eq_true rfl) rfl (sm_100_1 ht) ?_
  refine sg_if_eq 16 f_112_4 rfl (fun c4 => ?_) (fun c4 => ?_)
  · exact absurd c4 (by decide)
  · refine sg_iload_n f_112_7 rfl ?_
    refine sg_if_lt 16 f_112_8 rfl (fun c8 => ?_) (fun c8 => ?_)
    · exact absurd c8 hk
    · refine sg_iload_n f_112_11 rfl ?_
      refine sg_iconst (-1) f_112_12 ki_m1 ?_
      refine sg_icmp_ge 18 f_112_13 rfl (fun c13 => ?_) (fun c13 => ?_)
      · exact absurd hi (Int32.not_lt.mpr c13)
      · refine sg_iconst (-1) f_112_16 ki_m1 ?_
        exact (sg_iret f_112_17 rk_112)
theorem sm_112_none {μ : sg_S} {t : Nat} {k i : Int32} (hT : tm_Tab μ) (ht : t < 17) (hk : ¬ k < 0) (hi : ¬ i < -1) (h : nI (t_mn t) ≤ k) : sg_D tm_H 112 0 [.ref 0, .int (nI t), .int k, .int i, ab_u] [] μ (some (.int (-9))) μ := by
  refine sg_iload_n f_112_0 rfl ?_
  refine sg_calls_i f_112_1 my_112_100 mr_100 (by decide) rfl (Nat.le_of_ble_eq_true rfl) (Nat.le_of_ble_eq_true rfl) rfl (sm_100_1 ht) ?_
  refine sg_if_eq 16 f_112_4 rfl (fun c4 => ?_) (fun c4 => ?_)
  · exact absurd c4 (by decide)
  · refine sg_iload_n f_112_7 rfl ?_
    refine sg_if_lt 16 f_112_8 rfl (fun c8 => ?_) (fun c8 => ?_)
    · exact absurd c8 hk
    · refine sg_iload_n f_112_11 rfl ?_
      refine sg_iconst (-1) f_112_12 ki_m1 ?_
      refine sg_icmp_ge 18 f_112_13 rfl (fun c13 => ?_) (fun c13 => ?_)
      · refine sg_iload_n f_112_18 rfl ?_
        refine sg_aload_n f_112_19 rfl ?_
        refine sg_iload_n f_112_20 rfl ?_
        refine sg_callv_i f_112_21 my_112_105 mr_105 rfl (Nat.le_of_ble_eq_true rfl) (Nat.le_of_ble_eq_true rfl) sh_m_0 (by decide) rfl (sm_105 hT ht) ?_
        refine sg_icmp_lt 30 f_112_24 rfl (fun c24 => ?_) (fun c24 => ?_)
        · exact absurd c24 (Int32.not_lt.mpr h)
        · refine sg_bipush (-9) f_112_27 kb_m9 ?_
          exact (sg_iret f_112_29 rk_112)
      · exact absurd (Int32.not_lt.mp hi) c13
theorem sm_112_left {μ : sg_S} {t k : Nat} (hT : tm_Tab μ) (ht : t < 17) (hk : k < t_mn t) : sg_D tm_H 112 0 [.ref 0, .int (nI t), .int (nI k), .int (-1), ab_u] [] μ (some (.int (nI (t_lf (t_st t + k))))) μ := by
  have hb := tb_st1 t ht
  refine sg_iload_n f_112_0 rfl ?_
  refine sg_calls_i f_112_1 my_112_100 mr_100 (by decide) rfl (Nat.le_of_ble_eq_true rfl) (Nat.le_of_ble_eq_true rfl) rfl (sm_100_1 ht) ?_
  refine sg_if_eq 16 f_112_4 rfl (fun c4 => ?_) (fun c4 => ?_)
  · exact absurd c4 (by decide)
  · refine sg_iload_n f_112_7 rfl ?_
    refine sg_if_lt 16 f_112_8 rfl (fun c8 => ?_) (fun c8 => ?_)
    · exact absurd c8 (sg_nneg (by omega))
    · refine sg_iload_n f_112_11 rfl ?_
      refine sg_iconst (-1) f_112_12 ki_m1 ?_
      refine sg_icmp_ge 18 f_112_13 rfl (fun c13 => ?_) (fun c13 => ?_)
      · refine sg_iload_n f_112_18 rfl ?_
        refine sg_aload_n f_112_19 rfl ?_
        refine sg_iload_n f_112_20 rfl ?_
        refine sg_callv_i f_112_21 my_112_105 mr_105 rfl (Nat.le_of_ble_eq_true rfl) (Nat.le_of_ble_eq_true rfl) sh_m_0 (by decide) rfl (sm_105 hT ht) ?_
        refine sg_ncmp_lt 30 (by omega) (by omega) f_112_24 rfl (fun c24 => ?_) (fun c24 => ?_)
        · refine sg_aload_n f_112_30 rfl ?_
          refine sg_getf_r f_112_31 fd_m_0_775 ?_
          refine sg_iload_n f_112_34 rfl ?_
          refine sg_iaload_k t ok_m f_112_35 sh_m_7 rfl (by omega) (hT.2.2.1 t (by omega)) ?_
          refine sg_iload_n f_112_36 rfl ?_
          refine sg_iadd (nI (t_st t + k)) f_112_37 (by rw [nI_add, hb.2.2.2.1]) ?_
          refine sg_istore [_, _, _, _, _] f_112_38 rfl ?_
          refine sg_iload_n f_112_40 rfl ?_
          refine sg_iconst (-1) f_112_41 ki_m1 ?_
          refine sg_icmp_ne 55 f_112_42 rfl (fun c42 => ?_) (fun c42 => ?_)
          · exact absurd rfl c42
          · refine sg_aload_n f_112_45 rfl ?_
            refine sg_getf_r f_112_46 fd_m_0_776 ?_
            refine sg_iload f_112_49 rfl ?_
            refine sg_iaload_k (t_st t + k) ok_m f_112_51 sh_m_8 rfl (by omega) (hT.2.2.2.1 (t_st t + k) (by omega)).1 ?_
            refine sg_goto 82 f_112_52 rfl ?_
            exact (sg_iret f_112_82 rk_112)
        · omega
      · exact absurd (by decide) c13
theorem sm_112_in {μ : sg_S} {t k i : Nat} (hT : tm_Tab μ) (ht : t < 17) (hk : k < t_mn t) (hi : i < t_pr (t_st t + k)) : sg_D tm_H 112 0 [.ref 0, .int (nI t), .int (nI k), .int (nI i), ab_u] [] μ (some (.int (nI (t_fo ((t_st t + k) * 4 + i))))) μ := by
  have hb := tb_st1 t ht
  have hp := tb_lf1 (t_st t + k) (by omega)
  refine sg_iload_n f_112_0 rfl ?_
  refine sg_calls_i f_112_1 my_112_100 mr_100 (by decide) rfl (Nat.le_of_ble_eq_true rfl) (Nat.le_of_ble_eq_true rfl) rfl (sm_100_1 ht) ?_
  refine sg_if_eq 16 f_112_4 rfl (fun c4 => ?_) (fun c4 => ?_)
  · exact absurd c4 (by decide)
  · refine sg_iload_n f_112_7 rfl ?_
    refine sg_if_lt 16 f_112_8 rfl (fun c8 => ?_) (fun c8 => ?_)
    · exact absurd c8 (sg_nneg (by omega))
    · refine sg_iload_n f_112_11 rfl ?_
      refine sg_iconst (-1) f_112_12 ki_m1 ?_
      refine sg_icmp_ge 18 f_112_13 rfl (fun c13 => ?_) (fun c13 => ?_)
      · refine sg_iload_n f_112_18 rfl ?_
        refine sg_aload_n f_112_19 rfl ?_
        refine sg_iload_n f_112_20 rfl ?_
        refine sg_callv_i f_112_21 my_112_105 mr_105 rfl (Nat.le_of_ble_eq_true rfl) (Nat.le_of_ble_eq_true rfl) sh_m_0 (by decide) rfl (sm_105 hT ht) ?_
        refine sg_ncmp_lt 30 (by omega) (by omega) f_112_24 rfl (fun c24 => ?_) (fun c24 => ?_)
        · refine sg_aload_n f_112_30 rfl ?_
          refine sg_getf_r f_112_31 fd_m_0_775 ?_
          refine sg_iload_n f_112_34 rfl ?_
          refine sg_iaload_k t ok_m f_112_35 sh_m_7 rfl (by omega) (hT.2.2.1 t (by omega)) ?_
          refine sg_iload_n f_112_36 rfl ?_
          refine sg_iadd (nI (t_st t + k)) f_112_37 (by rw [nI_add, hb.2.2.2.1]) ?_
          refine sg_istore [_, _, _, _, _] f_112_38 rfl ?_
          refine sg_iload_n f_112_40 rfl ?_
          refine sg_iconst (-1) f_112_41 ki_m1 ?_
          refine sg_icmp_ne 55 f_112_42 rfl (fun c42 => ?_) (fun c42 => ?_)
          · refine sg_iload_n f_112_55 rfl ?_
            refine sg_aload_n f_112_56 rfl ?_
            refine sg_getf_r f_112_57 fd_m_0_778 ?_
            refine sg_iload f_112_60 rfl ?_
            refine sg_iaload_k (t_st t + k) ok_m f_112_62 sh_m_10 rfl (by omega) (hT.2.2.2.1 (t_st t + k) (by omega)).2 ?_
            refine sg_ncmp_ge 80 (by omega) (by omega) f_112_63 rfl (fun c63 => ?_) (fun c63 => ?_)
            · omega
            · refine sg_aload_n f_112_66 rfl ?_
              refine sg_getf_r f_112_67 fd_m_0_777 ?_
              refine sg_iconst (nI 4) f_112_70 ki_4 ?_
              refine sg_iload f_112_71 rfl ?_
              refine sg_imul (nI ((t_st t + k) * 4)) f_112_73 (by rw [pk_mul, Nat.mul_comm]) ?_
              refine sg_iload_n f_112_74 rfl ?_
              first | refine sg_iadd _ f_112_75 (nI_add _ _) ?_ | refine sg_iadd _ f_112_75 rfl ?_
              refine sg_iaload_k ((t_st t + k) * 4 + i) ok_m f_112_76 sh_m_9 rfl (by omega) (hT.2.2.2.2 ((t_st t + k) * 4 + i) (by omega)) ?_
              refine sg_goto 82 f_112_77 rfl ?_
              exact (sg_iret f_112_82 rk_112)
          · exact absurd c42 (sg_ne_m1 (by omega))
        · omega
      · exact absurd (Int32.le_trans (by decide) (nI_pos' (by omega))) c13
theorem sm_112_out {μ : sg_S} {t k : Nat} {i : Int32} (hT : tm_Tab μ) (ht : t < 17) (hk : k < t_mn t) (hi0 : ¬ i < 0) (hi : nI (t_pr (t_st t + k)) ≤ i) : sg_D tm_H 112 0 [.ref 0, .int (nI t), .int (nI k), .int i, ab_u] [] μ (some (.int (-9))) μ := by
  have hb := tb_st1 t ht
  have h0 : (0 : Int32) ≤ i := Int32.not_lt.mp hi0
  refine sg_iload_n f_112_0 rfl ?_
  refine sg_calls_i f_112_1 my_112_100 mr_100 (by decide) rfl (Nat.le_of_ble_eq_true rfl) (Nat.le_of_ble_eq_true rfl) rfl (sm_100_1 ht) ?_
  refine sg_if_eq 16 f_112_4 rfl (fun c4 => ?_) (fun c4 => ?_)
  · exact absurd c4 (by decide)
  · refine sg_iload_n f_112_7 rfl ?_
    refine sg_if_lt 16 f_112_8 rfl (fun c8 => ?_) (fun c8 => ?_)
    · exact absurd c8 (sg_nneg (by omega))
    · refine sg_iload_n f_112_11 rfl ?_
      refine sg_iconst (-1) f_112_12 ki_m1 ?_
      refine sg_icmp_ge 18 f_112_13 rfl (fun c13 => ?_) (fun c13 => ?_)
      · refine sg_iload_n f_112_18 rfl ?_
        refine sg_aload_n f_112_19 rfl ?_
        refine sg_iload_n f_112_20 rfl ?_
        refine sg_callv_i f_112_21 my_112_105 mr_105 rfl (Nat.le_of_ble_eq_true rfl) (Nat.le_of_ble_eq_true rfl) sh_m_0 (by decide) rfl (sm_105 hT ht) ?_
        refine sg_ncmp_lt 30 (by omega) (by omega) f_112_24 rfl (fun c24 => ?_) (fun c24 => ?_)
        · refine sg_aload_n f_112_30 rfl ?_
          refine sg_getf_r f_112_31 fd_m_0_775 ?_
          refine sg_iload_n f_112_34 rfl ?_
          refine sg_iaload_k t ok_m f_112_35 sh_m_7 rfl (by omega) (hT.2.2.1 t (by omega)) ?_
          refine sg_iload_n f_112_36 rfl ?_
          refine sg_iadd (nI (t_st t + k)) f_112_37 (by rw [nI_add, hb.2.2.2.1]) ?_
          refine sg_istore [_, _, _, _, _] f_112_38 rfl ?_
          refine sg_iload_n f_112_40 rfl ?_
          refine sg_iconst (-1) f_112_41 ki_m1 ?_
          refine sg_icmp_ne 55 f_112_42 rfl (fun c42 => ?_) (fun c42 => ?_)
          · refine sg_iload_n f_112_55 rfl ?_
            refine sg_aload_n f_112_56 rfl ?_
            refine sg_getf_r f_112_57 fd_m_0_778 ?_
            refine sg_iload f_112_60 rfl ?_
            refine sg_iaload_k (t_st t + k) ok_m f_112_62 sh_m_10 rfl (by omega) (hT.2.2.2.1 (t_st t + k) (by omega)).2 ?_
            refine sg_icmp_ge 80 f_112_63 rfl (fun c63 => ?_) (fun c63 => ?_)
            · refine sg_bipush (-9) f_112_80 kb_m9 ?_
              exact (sg_iret f_112_82 rk_112)
            · exact absurd hi c63
          · exact absurd (c42 ▸ h0) (by decide)
        · omega
      · exact absurd (Int32.le_trans (by decide) h0) c13
theorem sm_114_l {μ : sg_S} {t w : Nat} (hT : tm_Tab μ) (ht : t < 17) (hw : w < 17) : ∀ n k acc : Nat, k + n = t_mn t → sg_D tm_H 114 26 [.ref 0, .int (nI t), .int (nI w), .int (nI acc), .int (nI (t_st t + k))] [] μ (some (.int (nI (t_hm (t_st t) w n k acc)))) μ := by
  have hb := tb_st1 t ht
  intro n
  induction n with
  | zero =>
    intro k acc hk
    rw [t_hm]
    refine sg_iload f_114_26 rfl ?_
    refine sg_aload_n f_114_28 rfl ?_
    refine sg_getf_r f_114_29 fd_m_0_775 ?_
    refine sg_iload_n f_114_32 rfl ?_
    refine sg_iconst (nI 1) f_114_33 ki_1 ?_
    first | refine sg_iadd _ f_114_34 (nI_add _ _) ?_ | refine sg_iadd _ f_114_34 rfl ?_
    refine sg_iaload_k (t + 1) ok_m f_114_35 sh_m_7 rfl (by omega) (hT.2.2.1 (t + 1) (by omega)) ?_
    refine sg_ncmp_ge 64 (by omega) (by omega) f_114_36 rfl (fun c36 => ?_) (fun c36 => ?_)
    · refine sg_iload_n f_114_64 rfl ?_
      exact (sg_iret f_114_65 rk_114)
    · omega
  | succ n ih =>
    intro k acc hk
    rw [t_hm]
    have hl := tb_lf1 (t_st t + k) (by omega)
    refine sg_iload f_114_26 rfl ?_
    refine sg_aload_n f_114_28 rfl ?_
    refine sg_getf_r f_114_29 fd_m_0_775 ?_
    refine sg_iload_n f_114_32 rfl ?_
    refine sg_iconst (nI 1) f_114_33 ki_1 ?_
    first | refine sg_iadd _ f_114_34 (nI_add _ _) ?_ | refine sg_iadd _ f_114_34 rfl ?_
    refine sg_iaload_k (t + 1) ok_m f_114_35 sh_m_7 rfl (by omega) (hT.2.2.1 (t + 1) (by omega)) ?_
    refine sg_ncmp_ge 64 (by omega) (by omega) f_114_36 rfl (fun c36 => ?_) (fun c36 => ?_)
    · omega
    · refine sg_iload_n f_114_39 rfl ?_
      refine sg_aload_n f_114_40 rfl ?_
      refine sg_getf_r f_114_41 fd_m_0_776 ?_
      refine sg_iload f_114_44 rfl ?_
      refine sg_iaload_k (t_st t + k) ok_m f_114_46 sh_m_8 rfl (by omega) (hT.2.2.2.1 (t_st t + k) (by omega)).1 ?_
      refine sg_iload_n f_114_47 rfl ?_
      refine sg_ncmp_ne 55 (by omega) (by omega) f_114_48 rfl (fun c48 => ?_) (fun c48 => ?_)
      · rw [if_neg c48]
        refine sg_iconst (nI 0) f_114_55 ki_0 ?_
        first | refine sg_iadd _ f_114_56 (nI_add _ _) ?_ | refine sg_iadd _ f_114_56 rfl ?_
        refine sg_istore_n [_, _, _, _, _] f_114_57 rfl ?_
        first | refine sg_iinc _ [_, _, _, _, _] f_114_58 rfl (sg_inc1 _) rfl ?_ | refine sg_iinc _ [_, _, _, _, _] f_114_58 rfl rfl rfl ?_
        refine sg_goto 26 f_114_61 rfl ?_
        exact ih (k + 1) _ (by omega)
      · rw [if_pos c48]
        refine sg_iconst (nI 1) f_114_51 ki_1 ?_
        refine sg_goto 56 f_114_52 rfl ?_
        first | refine sg_iadd _ f_114_56 (nI_add _ _) ?_ | refine sg_iadd _ f_114_56 rfl ?_
        refine sg_istore_n [_, _, _, _, _] f_114_57 rfl ?_
        first | refine sg_iinc _ [_, _, _, _, _] f_114_58 rfl (sg_inc1 _) rfl ?_ | refine sg_iinc _ [_, _, _, _, _] f_114_58 rfl rfl rfl ?_
        refine sg_goto 26 f_114_61 rfl ?_
        exact ih (k + 1) _ (by omega)
theorem sm_114 {μ : sg_S} {t w : Nat} (hT : tm_Tab μ) (ht : t < 17) (hw : w < 17) : sg_D tm_H 114 0 [.ref 0, .int (nI t), .int (nI w), ab_u, ab_u] [] μ (some (.int (nI (t_hm (t_st t) w (t_mn t) 0 0)))) μ := by
  have hb := tb_st1 t ht
  refine sg_iload_n f_114_0 rfl ?_
  refine sg_calls_i f_114_1 my_114_100 mr_100 (by decide) rfl (Nat.le_of_ble_eq_true rfl) (Nat.le_of_ble_eq_true rfl) rfl (sm_100_1 ht) ?_
  refine sg_if_eq 14 f_114_4 rfl (fun c4 => ?_) (fun c4 => ?_)
  · exact absurd c4 (by decide)
  · refine sg_iload_n f_114_7 rfl ?_
    refine sg_calls_i f_114_8 my_114_100 mr_100 (by decide) rfl (Nat.le_of_ble_eq_true rfl) (Nat.le_of_ble_eq_true rfl) rfl (sm_100_1 hw) ?_
    refine sg_if_ne 16 f_114_11 rfl (fun c11 => ?_) (fun c11 => ?_)
    · refine sg_iconst (nI 0) f_114_16 ki_0 ?_
      refine sg_istore_n [_, _, _, _, _] f_114_17 rfl ?_
      refine sg_aload_n f_114_18 rfl ?_
      refine sg_getf_r f_114_19 fd_m_0_775 ?_
      refine sg_iload_n f_114_22 rfl ?_
      refine sg_iaload_k t ok_m f_114_23 sh_m_7 rfl (by omega) ((hT.2.2.1 t (by omega)).trans (by rw [hb.2.2.2.1])) ?_
      refine sg_istore [_, _, _, _, _] f_114_24 rfl ?_
      exact sm_114_l hT ht hw (t_mn t) 0 0 (by omega)
    · exact absurd c11 (by decide)
/-! the model: type, clear, sees, forget, count, value -/
theorem sm_115_bad {μ : sg_S} {c : Int32} (h : sg_out c 256) : sg_D tm_H 115 0 [.ref 0, .int c] [] μ (some (.int (-1))) μ := by
  refine sg_iload_n f_115_0 rfl ?_
  refine sg_i2l _ f_115_1 rfl ?_
  refine sg_lconst 0 f_115_2 rfl ?_
  refine sg_ldc2_w (255) f_115_3 rfl ?_
  refine sg_calls_i f_115_6 my_115_99 mr_99 (by decide) rfl (Nat.le_of_ble_eq_true rfl) (Nat.le_of_ble_eq_true rfl) rfl (sm_99_0 (sm_n_out (m := 255) rfl rfl rfl (by omega) h)) ?_
  refine sg_if_ne 14 f_115_9 rfl (fun c9 => ?_) (fun c9 => ?_)
  · exact absurd rfl c9
  · refine sg_iconst (-1) f_115_12 ki_m1 ?_
    exact (sg_iret f_115_13 rk_115)
theorem sm_115_full {μ : sg_S} {c : Nat} (hc : c < 256) (hn : μ.1 0 12 = nI 160) : sg_D tm_H 115 0 [.ref 0, .int (nI c)] [] μ (some (.int (-3))) μ := by
  refine sg_iload_n f_115_0 rfl ?_
  refine sg_i2l _ f_115_1 rfl ?_
  refine sg_lconst 0 f_115_2 rfl ?_
  refine sg_ldc2_w (255) f_115_3 rfl ?_
  refine sg_calls_i f_115_6 my_115_99 mr_99 (by decide) rfl (Nat.le_of_ble_eq_true rfl) (Nat.le_of_ble_eq_true rfl) rfl (sm_99_1 (sm_n_in (m := 255) rfl rfl (by omega) (by omega))) ?_
  refine sg_if_ne 14 f_115_9 rfl (fun c9 => ?_) (fun c9 => ?_)
  · refine sg_aload_n f_115_14 rfl ?_
    refine sg_getf_k f_115_15 fd_m_0_780 hn ?_
    refine sg_sipush (nI 160) f_115_18 ks_160 ?_
    first | refine sg_ncmp_ne 27 (by omega) (by omega) f_115_21 rfl (fun c21 => ?_) (fun c21 => ?_) | refine sg_icmp_ne 27 f_115_21 rfl (fun c21 => ?_) (fun c21 => ?_)
    · exact absurd rfl c21
    · refine sg_bipush (-3) f_115_24 kb_m3 ?_
      exact (sg_iret f_115_26 rk_115)
  · exact absurd c9 (by decide)
theorem sm_115 {μ : sg_S} {c n : Nat} (hc : c < 256) (hn : μ.1 0 12 = nI n) (hn2 : n < 160) : sg_D tm_H 115 0 [.ref 0, .int (nI c)] [] μ (some (.int (nI (n + 1)))) (sg_r1 (sg_r1 μ 11 (upd (μ.1 11) n (nI c))) 0 (upd (μ.1 0) 12 (nI (n + 1)))) := by
  have e : (sg_r1 μ 11 (upd (μ.1 11) n (nI c))).1 0 = μ.1 0 := sg_r1_ne (by omega)
  have e2 : (sg_r1 (sg_r1 μ 11 (upd (μ.1 11) n (nI c))) 0 (upd (μ.1 0) 12 (nI (n + 1)))).1 0 12 = nI (n + 1) := by rw [sg_r1_eq]; simp [upd]
  refine sg_iload_n f_115_0 rfl ?_
  refine sg_i2l _ f_115_1 rfl ?_
  refine sg_lconst 0 f_115_2 rfl ?_
  refine sg_ldc2_w (255) f_115_3 rfl ?_
  refine sg_calls_i f_115_6 my_115_99 mr_99 (by decide) rfl (Nat.le_of_ble_eq_true rfl) (Nat.le_of_ble_eq_true rfl) rfl (sm_99_1 (sm_n_in (m := 255) rfl rfl (by omega) (by omega))) ?_
  refine sg_if_ne 14 f_115_9 rfl (fun c9 => ?_) (fun c9 => ?_)
  · refine sg_aload_n f_115_14 rfl ?_
    refine sg_getf_k f_115_15 fd_m_0_780 hn ?_
    refine sg_sipush (nI 160) f_115_18 ks_160 ?_
    first | refine sg_ncmp_ne 27 (by omega) (by omega) f_115_21 rfl (fun c21 => ?_) (fun c21 => ?_) | refine sg_icmp_ne 27 f_115_21 rfl (fun c21 => ?_) (fun c21 => ?_)
    · refine sg_aload_n f_115_27 rfl ?_
      refine sg_getf_r f_115_28 fd_m_0_779 ?_
      refine sg_aload_n f_115_31 rfl ?_
      refine sg_getf_k f_115_32 fd_m_0_780 hn ?_
      refine sg_iload_n f_115_35 rfl ?_
      refine sg_iastore _ ok_m f_115_36 sh_m_11 rfl (by omega) ?_
      refine sg_aload_n f_115_37 rfl ?_
      refine sg_dup f_115_38 rfl ?_
      refine sg_getf_k f_115_39 fd_m_0_780 (show (sg_r1 μ 11 (upd (μ.1 11) n (nI c))).1 0 12 = nI n by rw [e]; exact hn) ?_
      refine sg_iconst (nI 1) f_115_42 ki_1 ?_
      first | refine sg_iadd _ f_115_43 (nI_add _ _) ?_ | refine sg_iadd _ f_115_43 rfl ?_
      refine sg_putf_j 12 f_115_44 (by decide) fd_m_0_780 rfl ?_
      rw [e]
      refine sg_aload_n f_115_47 rfl ?_
      refine sg_getf_k f_115_48 fd_m_0_780 e2 ?_
      exact (sg_iret f_115_51 rk_115)
    · omega
  · exact absurd c9 (by decide)
theorem sm_116 {μ : sg_S} : sg_D tm_H 116 0 [.ref 0, ab_u] [] μ (some (.int (μ.1 0 12))) (sg_r1 μ 0 (upd (μ.1 0) 12 (nI 0))) := by
  refine sg_aload_n f_116_0 rfl ?_
  refine sg_getf_j 12 f_116_1 fd_m_0_780 rfl ?_
  refine sg_istore_n [_, _] f_116_4 rfl ?_
  refine sg_aload_n f_116_5 rfl ?_
  refine sg_iconst (nI 0) f_116_6 ki_0 ?_
  refine sg_putf_j 12 f_116_7 (by decide) fd_m_0_780 rfl ?_
  refine sg_iload_n f_116_10 rfl ?_
  exact (sg_iret f_116_11 rk_116)
theorem sm_151 {μ : sg_S} : sg_D tm_H 151 0 [.ref 0, ab_u] [] μ (some (.int (μ.1 0 23))) (sg_r1 μ 0 (upd (μ.1 0) 23 (nI 0))) := by
  refine sg_aload_n f_151_0 rfl ?_
  refine sg_getf_j 23 f_151_1 fd_m_0_791 rfl ?_
  refine sg_istore_n [_, _] f_151_4 rfl ?_
  refine sg_aload_n f_151_5 rfl ?_
  refine sg_iconst (nI 0) f_151_6 ki_0 ?_
  refine sg_putf_j 23 f_151_7 (by decide) fd_m_0_791 rfl ?_
  refine sg_iload_n f_151_10 rfl ?_
  exact (sg_iret f_151_11 rk_151)
theorem sm_150_full {μ : sg_S} {a : Nat} {v : Int64} (ha : a < 17) (hz : μ.1 0 23 = nI 6) : sg_D tm_H 150 0 [.ref 0, .int (nI a), .long v, ab_u] [] μ (some (.int (-3))) μ := by
  refine sg_iload_n f_150_0 rfl ?_
  refine sg_calls_i f_150_1 my_150_100 mr_100 (by decide) rfl (Nat.le_of_ble_eq_true rfl) (Nat.le_of_ble_eq_true rfl) rfl (sm_100_1 ha) ?_
  refine sg_if_ne 9 f_150_4 rfl (fun c4 => ?_) (fun c4 => ?_)
  · refine sg_aload_n f_150_9 rfl ?_
    refine sg_getf_k f_150_10 fd_m_0_791 hz ?_
    refine sg_bipush (nI 6) f_150_13 kb_6 ?_
    first | refine sg_ncmp_ne 21 (by omega) (by omega) f_150_15 rfl (fun c15 => ?_) (fun c15 => ?_) | refine sg_icmp_ne 21 f_150_15 rfl (fun c15 => ?_) (fun c15 => ?_)
    · exact absurd rfl c15
    · refine sg_bipush (-3) f_150_18 kb_m3 ?_
      exact (sg_iret f_150_20 rk_150)
  · exact absurd c4 (by decide)
def sm_see (μ : sg_S) (z : Nat) (t : Int32) (v : Int64) : sg_S := sg_r1 (sg_r2 (sg_r1 μ 19 (upd (μ.1 19) z t)) 20 (vp_updL (μ.2 20) z v)) 0 (upd (μ.1 0) 23 (nI (z + 1)))
theorem sm_150 {μ : sg_S} {a z : Nat} {v : Int64} (ha : a < 17) (hz : μ.1 0 23 = nI z) (hz6 : z < 6) : sg_D tm_H 150 0 [.ref 0, .int (nI a), .long v, ab_u] [] μ (some (.int (nI (z + 1)))) (sm_see μ z (nI a) v) := by
  have e2 : (sm_see μ z (nI a) v).1 0 23 = nI (z + 1) := by unfold sm_see; rw [sg_r1_eq]; simp [upd]
  refine sg_iload_n f_150_0 rfl ?_
  refine sg_calls_i f_150_1 my_150_100 mr_100 (by decide) rfl (Nat.le_of_ble_eq_true rfl) (Nat.le_of_ble_eq_true rfl) rfl (sm_100_1 ha) ?_
  refine sg_if_ne 9 f_150_4 rfl (fun c4 => ?_) (fun c4 => ?_)
  · refine sg_aload_n f_150_9 rfl ?_
    refine sg_getf_k f_150_10 fd_m_0_791 hz ?_
    refine sg_bipush (nI 6) f_150_13 kb_6 ?_
    first | refine sg_ncmp_ne 21 (by omega) (by omega) f_150_15 rfl (fun c15 => ?_) (fun c15 => ?_) | refine sg_icmp_ne 21 f_150_15 rfl (fun c15 => ?_) (fun c15 => ?_)
    · refine sg_aload_n f_150_21 rfl ?_
      refine sg_getf_r f_150_22 fd_m_0_789 ?_
      refine sg_aload_n f_150_25 rfl ?_
      refine sg_getf_k f_150_26 fd_m_0_791 hz ?_
      refine sg_iload_n f_150_29 rfl ?_
      refine sg_iastore _ ok_m f_150_30 sh_m_19 rfl (by omega) ?_
      refine sg_aload_n f_150_31 rfl ?_
      refine sg_getf_r f_150_32 fd_m_0_790 ?_
      refine sg_aload_n f_150_35 rfl ?_
      refine sg_getf_k f_150_36 fd_m_0_791 (show (sg_r1 μ 19 (upd (μ.1 19) z (nI a))).1 0 23 = nI z from hz) ?_
      refine sg_lload_n f_150_39 rfl ?_
      refine sg_lastore _ ok_m f_150_40 sh_m_20 rfl (by omega) ?_
      refine sg_aload_n f_150_41 rfl ?_
      refine sg_dup f_150_42 rfl ?_
      refine sg_getf_k f_150_43 fd_m_0_791 (show (sg_r2 (sg_r1 μ 19 (upd (μ.1 19) z (nI a))) 20 (vp_updL (μ.2 20) z v)).1 0 23 = nI z from hz) ?_
      refine sg_iconst (nI 1) f_150_46 ki_1 ?_
      first | refine sg_iadd _ f_150_47 (nI_add _ _) ?_ | refine sg_iadd _ f_150_47 rfl ?_
      refine sg_putf_j 23 f_150_48 (by decide) fd_m_0_791 rfl ?_
      refine sg_aload_n f_150_51 rfl ?_
      refine sg_getf_k f_150_52 fd_m_0_791 e2 ?_
      exact (sg_iret f_150_55 rk_150)
    · omega
  · exact absurd c4 (by decide)
theorem sm_155_out {μ : sg_S} {k : Int32} (hk : sg_out k 4) : sg_D tm_H 155 0 [.ref 0, .int k] [] μ (some (.int (-1))) μ := by
  refine sg_iload_n f_155_0 rfl ?_
  refine sg_tsw_out 54 f_155_1 (sg_out_i hk rfl (by omega)) rfl ?_
  · refine sg_iconst (-1) f_155_54 ki_m1 ?_
    exact (sg_iret f_155_55 rk_155)
theorem sm_155_0 {μ : sg_S} : sg_D tm_H 155 0 [.ref 0, .int (nI 0)] [] μ (some (.int (μ.1 12 0))) μ := by
  refine sg_iload_n f_155_0 rfl ?_
  refine sg_tsw_in 32 0 f_155_1 rfl (by omega) (by omega) rfl rfl ?_
  · refine sg_aload_n f_155_32 rfl ?_
    refine sg_getf_r f_155_33 fd_m_0_781 ?_
    refine sg_iconst (nI 0) f_155_36 ki_0 ?_
    refine sg_iaload _ ok_m f_155_37 sh_m_12 rfl (by omega) ?_
    exact (sg_iret f_155_38 rk_155)
theorem sm_155_1 {μ : sg_S} : sg_D tm_H 155 0 [.ref 0, .int (nI 1)] [] μ (some (.int (μ.1 0 23))) μ := by
  refine sg_iload_n f_155_0 rfl ?_
  refine sg_tsw_in 39 1 f_155_1 rfl (by omega) (by omega) rfl rfl ?_
  · refine sg_aload_n f_155_39 rfl ?_
    refine sg_getf_j 23 f_155_40 fd_m_0_791 rfl ?_
    exact (sg_iret f_155_43 rk_155)
theorem sm_155_2 {μ : sg_S} : sg_D tm_H 155 0 [.ref 0, .int (nI 2)] [] μ (some (.int (μ.1 0 12))) μ := by
  refine sg_iload_n f_155_0 rfl ?_
  refine sg_tsw_in 44 2 f_155_1 rfl (by omega) (by omega) rfl rfl ?_
  · refine sg_aload_n f_155_44 rfl ?_
    refine sg_getf_j 12 f_155_45 fd_m_0_780 rfl ?_
    exact (sg_iret f_155_48 rk_155)
theorem sm_155_3 {μ : sg_S} : sg_D tm_H 155 0 [.ref 0, .int (nI 3)] [] μ (some (.int (μ.1 0 17))) μ := by
  refine sg_iload_n f_155_0 rfl ?_
  refine sg_tsw_in 49 3 f_155_1 rfl (by omega) (by omega) rfl rfl ?_
  · refine sg_aload_n f_155_49 rfl ?_
    refine sg_getf_j 17 f_155_50 fd_m_0_785 rfl ?_
    exact (sg_iret f_155_53 rk_155)
theorem sm_145 {μ : sg_S} {r t : Nat} (hr : r < 6) (ht : t < 17) : sg_D tm_H 145 0 [.ref 0, .int (nI r), .int (nI t)] [] μ (some (.long (μ.2 13 (17 * r + t)))) μ := by
  refine sg_iload_n f_145_0 rfl ?_
  refine sg_calls_i f_145_1 my_145_101 mr_101 (by decide) rfl (Nat.le_of_ble_eq_true rfl) (Nat.le_of_ble_eq_true rfl) rfl (sm_101_1 hr) ?_
  refine sg_if_eq 28 f_145_4 rfl (fun c4 => ?_) (fun c4 => ?_)
  · exact absurd c4 (by decide)
  · refine sg_iload_n f_145_7 rfl ?_
    refine sg_calls_i f_145_8 my_145_100 mr_100 (by decide) rfl (Nat.le_of_ble_eq_true rfl) (Nat.le_of_ble_eq_true rfl) rfl (sm_100_1 ht) ?_
    refine sg_if_eq 28 f_145_11 rfl (fun c11 => ?_) (fun c11 => ?_)
    · exact absurd c11 (by decide)
    · refine sg_aload_n f_145_14 rfl ?_
      refine sg_getf_r f_145_15 fd_m_0_782 ?_
      refine sg_bipush (nI 17) f_145_18 kb_17 ?_
      refine sg_iload_n f_145_20 rfl ?_
      first | refine sg_imul _ f_145_21 (pk_mul _ _) ?_ | refine sg_imul _ f_145_21 rfl ?_
      refine sg_iload_n f_145_22 rfl ?_
      first | refine sg_iadd _ f_145_23 (nI_add _ _) ?_ | refine sg_iadd _ f_145_23 rfl ?_
      refine sg_laload _ ok_m f_145_24 sh_m_13 rfl (by omega) ?_
      refine sg_goto 31 f_145_25 rfl ?_
      exact (sg_lret f_145_31 rk_145)
