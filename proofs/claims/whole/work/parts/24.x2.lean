/-! the class: methods of StepMethod, State, Past, Sights -/
theorem sg_r1_ne {σ : sg_S} {a k : Nat} {f : Nat → Int32} (h : k ≠ a) : (sg_r1 σ a f).1 k = σ.1 k := by simp [sg_r1, h]
theorem sg_r1_eq {σ : sg_S} {a : Nat} {f : Nat → Int32} : (sg_r1 σ a f).1 a = f := by simp [sg_r1]
theorem sg_r1_2 {σ : sg_S} {a : Nat} {f : Nat → Int32} : (sg_r1 σ a f).2 = σ.2 := rfl
theorem sg_r2_ne {σ : sg_S} {a k : Nat} {f : Nat → Int64} (h : k ≠ a) : (sg_r2 σ a f).2 k = σ.2 k := by simp [sg_r2, h]
theorem sg_r2_eq {σ : sg_S} {a : Nat} {f : Nat → Int64} : (sg_r2 σ a f).2 a = f := by simp [sg_r2]
theorem sg_r2_1 {σ : sg_S} {a : Nat} {f : Nat → Int64} : (sg_r2 σ a f).1 = σ.1 := rfl
theorem sg_r1_r1 {σ : sg_S} {a : Nat} {f g : Nat → Int32} : sg_r1 (sg_r1 σ a f) a g = sg_r1 σ a g := by
  unfold sg_r1
  congr 1
  funext k
  by_cases h : k = a <;> simp [h]
theorem sg_ne_m1 {j : Nat} (hj : j < 2 ^ 31) : ¬ nI j = -1 := fun h => by
  have h1 := congrArg Int32.toInt h
  rw [nI_toInt hj, show (-1 : Int32).toInt = -1 from rfl] at h1
  omega
theorem sg_nlt_m1 {j : Nat} (hj : j < 2 ^ 31) : ¬ nI j < -1 := by
  rw [Int32.lt_iff_toInt_lt, nI_toInt hj, show (-1 : Int32).toInt = -1 from rfl]
  omega
theorem sg_nle_m1 {j : Nat} (hj : j < 2 ^ 31) : ¬ nI j ≤ -1 := by
  rw [Int32.le_iff_toInt_le, nI_toInt hj, show (-1 : Int32).toInt = -1 from rfl]
  omega
def sx_SM (a : Nat) : Prop := sg_sh tx_H a = some (5, 3) ∧ sg_fld tx_H a 320 = some (.int 1) ∧ sg_fld tx_H a 321 = some (.ref (a + 1)) ∧ sg_fld tx_H a 322 = some (.ref (a + 2)) ∧ sg_sh tx_H (a + 1) = some (20, 16) ∧ sg_sh tx_H (a + 2) = some (20, 4) ∧ a + 2 < 1000
def sx_ST (d : Nat) : Prop := sx_SM (d + 1) ∧ sg_sh tx_H d = some (4, 2) ∧ sg_fld tx_H d 256 = some (.ref (d + 1)) ∧ sg_fld tx_H d 257 = some (.ref (d + 4)) ∧ ∀ r, r < 6 → sg_el tx_H (d + 4) r = some (.ref (d + 5 + r)) ∧ sg_sh tx_H (d + 5 + r) = some (21, 17)
theorem sx_SM_51 : sx_SM 51 := by unfold sx_SM; decide +kernel
theorem sx_ST_55 : sx_ST 55 := by unfold sx_ST sx_SM; decide +kernel
theorem sx_SM_56 : sx_SM 56 := sx_ST_55.1
theorem sx_ST_k : ∀ p, p < 6 → sx_ST (68 + 11 * p) := by unfold sx_ST sx_SM; decide +kernel
theorem sx_ST_i : ∀ p, p < 2 → sx_ST (135 + 11 * p) := by unfold sx_ST sx_SM; decide +kernel
theorem sx_el_k : ∀ p, p < 6 → sg_el tx_H 67 p = some (.ref (68 + 11 * p)) := by decide +kernel
theorem sx_el_i : ∀ p, p < 2 → sg_el tx_H 134 p = some (.ref (135 + 11 * p)) := by decide +kernel
/-- has -/
theorem sx_33 {σ : sg_S} {a : Nat} (h : sx_SM a) {i j : Int32} : sg_D tx_H 33 0 [.ref a, .int i, .int j] [] σ (some (.int (if ¬ i < 0 ∧ ¬ σ.1 a 0 ≤ i ∧ ¬ j < -1 ∧ ¬ σ.1 a 0 ≤ j then nI 1 else nI 0))) σ := by
  refine sg_iload_n f_33_0 rfl ?_
  refine sg_if_lt 29 f_33_1 rfl (fun c1 => ?_) (fun c1 => ?_)
  · refine sg_iconst (nI 0) f_33_29 ki_0 ?_
    first | (rw [if_pos ⟨by assumption, by assumption, by assumption, by assumption⟩]; exact (sg_zret f_33_30 rk_33 (by first | exact Or.inl rfl | exact Or.inr rfl | assumption))) | (rw [if_neg (fun z => by first | exact z.1 c1 | exact z.2.1 c9 | exact z.2.2.1 c14 | exact z.2.2.2 c22)]; exact (sg_zret f_33_30 rk_33 (by first | exact Or.inl rfl | exact Or.inr rfl | assumption)))
  · refine sg_iload_n f_33_4 rfl ?_
    refine sg_aload_n f_33_5 rfl ?_
    refine sg_getf_j 0 f_33_6 h.2.1 rfl ?_
    refine sg_icmp_ge 29 f_33_9 rfl (fun c9 => ?_) (fun c9 => ?_)
    · refine sg_iconst (nI 0) f_33_29 ki_0 ?_
      first | (rw [if_pos ⟨by assumption, by assumption, by assumption, by assumption⟩]; exact (sg_zret f_33_30 rk_33 (by first | exact Or.inl rfl | exact Or.inr rfl | assumption))) | (rw [if_neg (fun z => by first | exact z.1 c1 | exact z.2.1 c9 | exact z.2.2.1 c14 | exact z.2.2.2 c22)]; exact (sg_zret f_33_30 rk_33 (by first | exact Or.inl rfl | exact Or.inr rfl | assumption)))
    · refine sg_iload_n f_33_12 rfl ?_
      refine sg_iconst (-1) f_33_13 ki_m1 ?_
      refine sg_icmp_lt 29 f_33_14 rfl (fun c14 => ?_) (fun c14 => ?_)
      · refine sg_iconst (nI 0) f_33_29 ki_0 ?_
        first | (rw [if_pos ⟨by assumption, by assumption, by assumption, by assumption⟩]; exact (sg_zret f_33_30 rk_33 (by first | exact Or.inl rfl | exact Or.inr rfl | assumption))) | (rw [if_neg (fun z => by first | exact z.1 c1 | exact z.2.1 c9 | exact z.2.2.1 c14 | exact z.2.2.2 c22)]; exact (sg_zret f_33_30 rk_33 (by first | exact Or.inl rfl | exact Or.inr rfl | assumption)))
      · refine sg_iload_n f_33_17 rfl ?_
        refine sg_aload_n f_33_18 rfl ?_
        refine sg_getf_j 0 f_33_19 h.2.1 rfl ?_
        refine sg_icmp_ge 29 f_33_22 rfl (fun c22 => ?_) (fun c22 => ?_)
        · refine sg_iconst (nI 0) f_33_29 ki_0 ?_
          first | (rw [if_pos ⟨by assumption, by assumption, by assumption, by assumption⟩]; exact (sg_zret f_33_30 rk_33 (by first | exact Or.inl rfl | exact Or.inr rfl | assumption))) | (rw [if_neg (fun z => by first | exact z.1 c1 | exact z.2.1 c9 | exact z.2.2.1 c14 | exact z.2.2.2 c22)]; exact (sg_zret f_33_30 rk_33 (by first | exact Or.inl rfl | exact Or.inr rfl | assumption)))
        · refine sg_iconst (nI 1) f_33_25 ki_1 ?_
          refine sg_goto 30 f_33_26 rfl ?_
          first | (rw [if_pos ⟨by assumption, by assumption, by assumption, by assumption⟩]; exact (sg_zret f_33_30 rk_33 (by first | exact Or.inl rfl | exact Or.inr rfl | assumption))) | (rw [if_neg (fun z => by first | exact z.1 c1 | exact z.2.1 c9 | exact z.2.2.1 c14 | exact z.2.2.2 c22)]; exact (sg_zret f_33_30 rk_33 (by first | exact Or.inl rfl | exact Or.inr rfl | assumption)))
theorem sx_33_b {σ : sg_S} {a s i : Nat} (h : sx_SM a) (hs : σ.1 a 0 = nI s) (hs2 : s ≤ 4) (hi : i < s) : sg_D tx_H 33 0 [.ref a, .int (nI i), .int (-1)] [] σ (some (.int (nI 1))) σ := by
  have h1 := sx_33 (σ := σ) h (i := nI i) (j := -1)
  rw [if_pos ⟨sg_nneg (by omega), by rw [hs]; exact nI_ge hi (by omega), by decide, by rw [hs]; exact sg_nle_m1 (by omega)⟩] at h1
  exact h1
theorem sx_33_a {σ : sg_S} {a s i j : Nat} (h : sx_SM a) (hs : σ.1 a 0 = nI s) (hs2 : s ≤ 4) (hi : i < s) (hj : j < s) : sg_D tx_H 33 0 [.ref a, .int (nI i), .int (nI j)] [] σ (some (.int (nI 1))) σ := by
  have h1 := sx_33 (σ := σ) h (i := nI i) (j := nI j)
  rw [if_pos ⟨sg_nneg (by omega), by rw [hs]; exact nI_ge hi (by omega), sg_nlt_m1 (by omega), by rw [hs]; exact nI_ge hj (by omega)⟩] at h1
  exact h1
/-- get -/
theorem sx_34_b {σ : sg_S} {a s i : Nat} (h : sx_SM a) (hs : σ.1 a 0 = nI s) (hs2 : s ≤ 4) (hi : i < s) : sg_D tx_H 34 0 [.ref a, .int (nI i), .int (-1)] [] σ (some (.int (σ.1 (a + 2) i))) σ := by
  refine sg_aload_n f_34_0 rfl ?_
  refine sg_iload_n f_34_1 rfl ?_
  refine sg_iload_n f_34_2 rfl ?_
  refine sg_callv_i f_34_3 my_34_33 mr_33 rfl (Nat.le_of_ble_eq_true rfl) (Nat.le_of_ble_eq_true rfl) h.1 (by decide) rfl (sx_33_b h hs hs2 hi) ?_
  refine sg_if_ne 11 f_34_6 rfl (fun c6 => ?_) (fun c6 => ?_)
  · refine sg_iload_n f_34_11 rfl ?_
    refine sg_iconst (-1) f_34_12 ki_m1 ?_
    refine sg_icmp_ne 25 f_34_13 rfl (fun c13 => ?_) (fun c13 => ?_)
    · exact absurd rfl c13
    · refine sg_aload_n f_34_16 rfl ?_
      refine sg_getf_r f_34_17 h.2.2.2.1 ?_
      refine sg_iload_n f_34_20 rfl ?_
      refine sg_iaload _ ok_x f_34_21 h.2.2.2.2.2.1 rfl (by omega) ?_ (by decide) h.2.2.2.2.2.2
      refine sg_goto 35 f_34_22 rfl ?_
      exact (sg_iret f_34_35 rk_34)
  · exact absurd c6 (by decide)
theorem sx_34_a {σ : sg_S} {a s i j : Nat} (h : sx_SM a) (hs : σ.1 a 0 = nI s) (hs2 : s ≤ 4) (hi : i < s) (hj : j < s) : sg_D tx_H 34 0 [.ref a, .int (nI i), .int (nI j)] [] σ (some (.int (σ.1 (a + 1) (i * 4 + j)))) σ := by
  refine sg_aload_n f_34_0 rfl ?_
  refine sg_iload_n f_34_1 rfl ?_
  refine sg_iload_n f_34_2 rfl ?_
  refine sg_callv_i f_34_3 my_34_33 mr_33 rfl (Nat.le_of_ble_eq_true rfl) (Nat.le_of_ble_eq_true rfl) h.1 (by decide) rfl (sx_33_a h hs hs2 hi hj) ?_
  refine sg_if_ne 11 f_34_6 rfl (fun c6 => ?_) (fun c6 => ?_)
  · refine sg_iload_n f_34_11 rfl ?_
    refine sg_iconst (-1) f_34_12 ki_m1 ?_
    refine sg_icmp_ne 25 f_34_13 rfl (fun c13 => ?_) (fun c13 => ?_)
    · refine sg_aload_n f_34_25 rfl ?_
      refine sg_getf_r f_34_26 h.2.2.1 ?_
      refine sg_iload_n f_34_29 rfl ?_
      refine sg_iconst (nI 4) f_34_30 ki_4 ?_
      first | refine sg_imul _ f_34_31 (pk_mul _ _) ?_ | refine sg_imul _ f_34_31 rfl ?_
      refine sg_iload_n f_34_32 rfl ?_
      first | refine sg_iadd _ f_34_33 (nI_add _ _) ?_ | refine sg_iadd _ f_34_33 rfl ?_
      refine sg_iaload _ ok_x f_34_34 h.2.2.2.2.1 rfl (by omega) ?_ (by decide) (Nat.lt_of_succ_lt h.2.2.2.2.2.2)
      exact (sg_iret f_34_35 rk_34)
    · exact absurd c13 (sg_ne_m1 (by omega))
  · exact absurd c6 (by decide)
/-- set -/
theorem sx_35_b {σ : sg_S} {a s i : Nat} {v : Int32} (h : sx_SM a) (hs : σ.1 a 0 = nI s) (hs2 : s ≤ 4) (hi : i < s) : sg_D tx_H 35 0 [.ref a, .int (nI i), .int (-1), .int v] [] σ none (sg_r1 σ (a + 2) (upd (σ.1 (a + 2)) i v)) := by
  refine sg_aload_n f_35_0 rfl ?_
  refine sg_iload_n f_35_1 rfl ?_
  refine sg_iload_n f_35_2 rfl ?_
  refine sg_callv_i f_35_3 my_35_33 mr_33 rfl (Nat.le_of_ble_eq_true rfl) (Nat.le_of_ble_eq_true rfl) h.1 (by decide) rfl (sx_33_b h hs hs2 hi) ?_
  refine sg_if_ne 10 f_35_6 rfl (fun c6 => ?_) (fun c6 => ?_)
  · refine sg_iload_n f_35_10 rfl ?_
    refine sg_iconst (-1) f_35_11 ki_m1 ?_
    refine sg_icmp_ne 25 f_35_12 rfl (fun c12 => ?_) (fun c12 => ?_)
    · exact absurd rfl c12
    · refine sg_aload_n f_35_15 rfl ?_
      refine sg_getf_r f_35_16 h.2.2.2.1 ?_
      refine sg_iload_n f_35_19 rfl ?_
      refine sg_iload_n f_35_20 rfl ?_
      refine sg_iastore _ ok_x f_35_21 h.2.2.2.2.2.1 rfl (by omega) ?_
      refine sg_goto 36 f_35_22 rfl ?_
      exact (sg_vret f_35_36 rk_35)
  · exact absurd c6 (by decide)
theorem sx_35_a {σ : sg_S} {a s i j : Nat} {v : Int32} (h : sx_SM a) (hs : σ.1 a 0 = nI s) (hs2 : s ≤ 4) (hi : i < s) (hj : j < s) : sg_D tx_H 35 0 [.ref a, .int (nI i), .int (nI j), .int v] [] σ none (sg_r1 σ (a + 1) (upd (σ.1 (a + 1)) (i * 4 + j) v)) := by
  refine sg_aload_n f_35_0 rfl ?_
  refine sg_iload_n f_35_1 rfl ?_
  refine sg_iload_n f_35_2 rfl ?_
  refine sg_callv_i f_35_3 my_35_33 mr_33 rfl (Nat.le_of_ble_eq_true rfl) (Nat.le_of_ble_eq_true rfl) h.1 (by decide) rfl (sx_33_a h hs hs2 hi hj) ?_
  refine sg_if_ne 10 f_35_6 rfl (fun c6 => ?_) (fun c6 => ?_)
  · refine sg_iload_n f_35_10 rfl ?_
    refine sg_iconst (-1) f_35_11 ki_m1 ?_
    refine sg_icmp_ne 25 f_35_12 rfl (fun c12 => ?_) (fun c12 => ?_)
    · refine sg_aload_n f_35_25 rfl ?_
      refine sg_getf_r f_35_26 h.2.2.1 ?_
      refine sg_iload_n f_35_29 rfl ?_
      refine sg_iconst (nI 4) f_35_30 ki_4 ?_
      first | refine sg_imul _ f_35_31 (pk_mul _ _) ?_ | refine sg_imul _ f_35_31 rfl ?_
      refine sg_iload_n f_35_32 rfl ?_
      first | refine sg_iadd _ f_35_33 (nI_add _ _) ?_ | refine sg_iadd _ f_35_33 rfl ?_
      refine sg_iload_n f_35_34 rfl ?_
      refine sg_iastore _ ok_x f_35_35 h.2.2.2.2.1 rfl (by omega) ?_
      exact (sg_vret f_35_36 rk_35)
    · exact absurd c12 (sg_ne_m1 (by omega))
  · exact absurd c6 (by decide)
/-- become, of a StepMethod -/
def sx_cpM (σ : sg_S) (a b : Nat) : sg_S := sg_r1 (sg_r1 (sg_r1 σ a (upd (σ.1 a) 0 (σ.1 b 0))) (a + 1) (σ.1 (b + 1))) (a + 2) (σ.1 (b + 2))
theorem sx_cpM_eq {σ : sg_S} {a b : Nat} (hd : a + 2 < b ∨ b + 2 < a) : sx_cpM σ a b = sg_r1 (sg_r1 (sg_r1 σ a (upd (σ.1 a) 0 (σ.1 b 0))) (a + 1) ((sg_r1 σ a (upd (σ.1 a) 0 (σ.1 b 0))).1 (b + 1))) (a + 2) ((sg_r1 (sg_r1 σ a (upd (σ.1 a) 0 (σ.1 b 0))) (a + 1) ((sg_r1 σ a (upd (σ.1 a) 0 (σ.1 b 0))).1 (b + 1))).1 (b + 2)) := by
  rw [sg_r1_ne (show b + 2 ≠ a + 1 by omega), sg_r1_ne (show b + 2 ≠ a by omega), sg_r1_ne (show b + 1 ≠ a by omega)]
  rfl
theorem sx_32 {σ : sg_S} {a b : Nat} (ha : sx_SM a) (hb : sx_SM b) (hd : a + 2 < b ∨ b + 2 < a) : sg_D tx_H 32 0 [.ref a, .ref b] [] σ none (sx_cpM σ a b) := by
  refine sg_aload_n f_32_0 rfl ?_
  refine sg_aload_n f_32_1 rfl ?_
  refine sg_getf_j 0 f_32_2 hb.2.1 rfl ?_
  refine sg_putf_j 0 f_32_5 (by decide) ha.2.1 rfl ?_
  refine sg_aload_n f_32_8 rfl ?_
  refine sg_getf_r f_32_9 hb.2.2.1 ?_
  refine sg_iconst (nI 0) f_32_12 ki_0 ?_
  refine sg_aload_n f_32_13 rfl ?_
  refine sg_getf_r f_32_14 ha.2.2.1 ?_
  refine sg_iconst (nI 0) f_32_17 ki_0 ?_
  refine sg_aload_n f_32_18 rfl ?_
  refine sg_getf_r f_32_19 ha.2.2.1 ?_
  refine sg_alen f_32_22 ha.2.2.2.2.1 (by decide) ?_
  refine sg_copy1 ok_x f_32_23 hb.2.2.2.2.1 ha.2.2.2.2.1 (Nat.le_of_ble_eq_true rfl) ra_32 ?_
  refine sg_aload_n f_32_26 rfl ?_
  refine sg_getf_r f_32_27 hb.2.2.2.1 ?_
  refine sg_iconst (nI 0) f_32_30 ki_0 ?_
  refine sg_aload_n f_32_31 rfl ?_
  refine sg_getf_r f_32_32 ha.2.2.2.1 ?_
  refine sg_iconst (nI 0) f_32_35 ki_0 ?_
  refine sg_aload_n f_32_36 rfl ?_
  refine sg_getf_r f_32_37 ha.2.2.2.1 ?_
  refine sg_alen f_32_40 ha.2.2.2.2.2.1 (by decide) ?_
  refine sg_copy1 ok_x f_32_41 hb.2.2.2.2.2.1 ha.2.2.2.2.2.1 (Nat.le_of_ble_eq_true rfl) ra_32 ?_
  rw [sx_cpM_eq hd]
  exact (sg_vret f_32_44 rk_32)
/-- become, of a State -/
def sx_cpS (σ : sg_S) (d e : Nat) : sg_S := ((sx_cpM σ (d + 1) (e + 1)).1, fun k => if d + 5 ≤ k ∧ k < d + 11 then σ.2 (e + (k - d)) else σ.2 k)
theorem sx_29_l {σ : sg_S} {d e : Nat} (hd : sx_ST d) (he : sx_ST e) (ha : d + 10 < e ∨ e + 10 < d) (f : Nat → Nat → Int32) : ∀ n r : Nat, r + n = 6 → sg_D tx_H 29 13 [.ref d, .ref e, .int (nI r)] [] (f, fun k => if d + 5 ≤ k ∧ k < d + 5 + r then σ.2 (e + (k - d)) else σ.2 k) none (f, fun k => if d + 5 ≤ k ∧ k < d + 11 then σ.2 (e + (k - d)) else σ.2 k)
  | 0, r, hr => by
    obtain rfl : r = 6 := by omega
    refine sg_iload_n f_29_13 rfl ?_
    refine sg_bipush (nI 6) f_29_14 kb_6 ?_
    first | refine sg_ncmp_ge 44 (by omega) (by omega) f_29_16 rfl (fun c16 => ?_) (fun c16 => ?_) | refine sg_icmp_ge 44 f_29_16 rfl (fun c16 => ?_) (fun c16 => ?_)
    · exact (sg_vret f_29_44 rk_29)
    · omega
  | n + 1, r, hr => by
    have hr6 : r < 6 := by omega
    refine sg_iload_n f_29_13 rfl ?_
    refine sg_bipush (nI 6) f_29_14 kb_6 ?_
    first | refine sg_ncmp_ge 44 (by omega) (by omega) f_29_16 rfl (fun c16 => ?_) (fun c16 => ?_) | refine sg_icmp_ge 44 f_29_16 rfl (fun c16 => ?_) (fun c16 => ?_)
    · omega
    · refine sg_aload_n f_29_19 rfl ?_
      refine sg_getf_r f_29_20 he.2.2.2.1 ?_
      refine sg_iload_n f_29_23 rfl ?_
      refine sg_aaload r f_29_24 rfl (he.2.2.2.2 r hr6).1 (by omega) ?_
      refine sg_iconst (nI 0) f_29_25 ki_0 ?_
      refine sg_aload_n f_29_26 rfl ?_
      refine sg_getf_r f_29_27 hd.2.2.2.1 ?_
      refine sg_iload_n f_29_30 rfl ?_
      refine sg_aaload r f_29_31 rfl (hd.2.2.2.2 r hr6).1 (by omega) ?_
      refine sg_iconst (nI 0) f_29_32 ki_0 ?_
      refine sg_bipush (nI 17) f_29_33 kb_17 ?_
      refine sg_copy2 ok_x f_29_35 (he.2.2.2.2 r hr6).2 (hd.2.2.2.2 r hr6).2 (Nat.le_of_ble_eq_true rfl) ra_29 ?_
      first | refine sg_iinc _ [_, _, _] f_29_38 rfl (sg_inc1 _) rfl ?_ | refine sg_iinc _ [_, _, _] f_29_38 rfl rfl rfl ?_
      refine sg_goto 13 f_29_41 rfl ?_
      refine cast (congrArg (fun z => sg_D tx_H 29 13 [.ref d, .ref e, .int (nI (r + 1))] [] z none _) ?_) (sx_29_l hd he ha f n (r + 1) (by omega))
      unfold sg_r2
      refine congrArg (fun z => (f, z)) (funext fun k => ?_)
      by_cases hk : k = d + 5 + r
      · subst hk
        have e1 : ¬ (d + 5 ≤ e + 5 + r ∧ e + 5 + r < d + 5 + r) := by omega
        rw [if_pos ⟨by omega, by omega⟩, if_pos rfl]
        show _ = (if d + 5 ≤ e + 5 + r ∧ e + 5 + r < d + 5 + r then _ else _)
        rw [if_neg e1, show e + (d + 5 + r - d) = e + 5 + r by omega]
      · by_cases h1 : d + 5 ≤ k ∧ k < d + 5 + r
        · simp [hk, h1, show k < d + 5 + (r + 1) by omega]
        · have : ¬ (d + 5 ≤ k ∧ k < d + 5 + (r + 1)) := by omega
          rw [if_neg this]
          simp only [hk, if_false]
          rw [if_neg h1]
theorem sx_29 {σ : sg_S} {d e : Nat} (hd : sx_ST d) (he : sx_ST e) (ha : d + 10 < e ∨ e + 10 < d) : sg_D tx_H 29 0 [.ref d, .ref e, ab_u] [] σ none (sx_cpS σ d e) := by
  refine sg_aload_n f_29_0 rfl ?_
  refine sg_getf_r f_29_1 hd.2.2.1 ?_
  refine sg_aload_n f_29_4 rfl ?_
  refine sg_getf_r f_29_5 he.2.2.1 ?_
  refine sg_callv_v f_29_8 my_29_32 mr_32 rfl (Nat.le_of_ble_eq_true rfl) (Nat.le_of_ble_eq_true rfl) hd.1.1 (by decide) rfl (sx_32 hd.1 he.1 (by omega)) ?_
  refine sg_iconst (nI 0) f_29_11 ki_0 ?_
  refine sg_istore_n [_, _, _] f_29_12 rfl ?_
  refine cast (congrArg (fun z => sg_D tx_H 29 13 [.ref d, .ref e, .int (nI 0)] [] z none _) ?_) (sx_29_l (σ := σ) hd he ha (sx_cpM σ (d + 1) (e + 1)).1 6 0 rfl)
  refine Prod.ext rfl (funext fun k => ?_)
  show (if d + 5 ≤ k ∧ k < d + 5 + 0 then _ else _) = _
  rw [if_neg (by omega)]
  rfl
