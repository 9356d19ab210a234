/-! the class: Past, Sights -/
theorem sg_to {T : ab_H} {mid pc : Nat} {L st : List Value} {σ σ1 σ2 : sg_S} {r r2 : Option Value} (h : sg_D T mid pc L st σ r σ1) (hr : r = r2) (hs : σ1 = σ2) : sg_D T mid pc L st σ r2 σ2 := by
  subst hr; subst hs; exact h
theorem sg_from {T : ab_H} {mid pc : Nat} {L st : List Value} {σ σ0 σ1 : sg_S} {r : Option Value} (hs : σ0 = σ) (h : sg_D T mid pc L st σ r σ1) : sg_D T mid pc L st σ0 r σ1 := by
  subst hs; exact h
theorem sx_cpS_1 {σ : sg_S} {d e k : Nat} (h : k < d + 1 ∨ d + 3 < k) : (sx_cpS σ d e).1 k = σ.1 k := by
  show (sx_cpM σ (d + 1) (e + 1)).1 k = _
  unfold sx_cpM
  rw [sg_r1_ne (by omega), sg_r1_ne (by omega), sg_r1_ne (by omega)]
def sx_nx (p : Nat) : Nat := if p + 1 < 6 then p + 1 else 0
def sx_sz (z : Nat) : Nat := if z < 6 then z + 1 else 6
def sx_rem (σ : sg_S) (p z : Nat) : sg_S := sg_r1 (sx_cpS σ (68 + 11 * p) 55) 66 (upd (upd (σ.1 66) 1 (nI (sx_nx p))) 2 (nI (sx_sz z)))
theorem sx_min {z : Nat} (h : z ≤ 6) : (if nI 6 < nI (z + 1) then nI 6 else nI (z + 1)) = nI (sx_sz z) := by
  unfold sx_sz
  rcases (show z < 6 ∨ z = 6 by omega) with h | rfl
  · rw [if_neg (nI_nlt (by omega) (by omega)), if_pos h]
  · decide
theorem sx_21 {σ : sg_S} {p z : Nat} (hp : σ.1 66 1 = nI p) (hp6 : p < 6) (hz : σ.1 66 2 = nI z) (hz6 : z ≤ 6) : sg_D tx_H 21 0 [.ref 66, .ref 55] [] σ none (sx_rem σ p z) := by
  have h66 : (sx_cpS σ (68 + 11 * p) 55).1 66 = σ.1 66 := sx_cpS_1 (by omega)
  refine sg_aload_n f_21_0 rfl ?_
  refine sg_getf_r f_21_1 fd_x_66_128 ?_
  refine sg_aload_n f_21_4 rfl ?_
  refine sg_getf_k f_21_5 fd_x_66_129 hp ?_
  refine sg_aaload p f_21_8 rfl (sx_el_k p hp6) (by omega) ?_
  refine sg_aload_n f_21_9 rfl ?_
  refine sg_callv_v f_21_10 my_21_29 mr_29 rfl (Nat.le_of_ble_eq_true rfl) (Nat.le_of_ble_eq_true rfl) (sx_ST_k p hp6).2.1 (by decide) rfl (sx_29 (sx_ST_k p hp6) sx_ST_55 (by omega)) ?_
  refine sg_aload_n f_21_13 rfl ?_
  refine sg_aload_n f_21_14 rfl ?_
  refine sg_getf_k f_21_15 fd_x_66_129 (show (sx_cpS σ (68 + 11 * p) 55).1 66 1 = nI p by rw [h66]; exact hp) ?_
  refine sg_iconst (nI 1) f_21_18 ki_1 ?_
  first | refine sg_iadd _ f_21_19 (nI_add _ _) ?_ | refine sg_iadd _ f_21_19 rfl ?_
  refine sg_bipush (nI 6) f_21_20 kb_6 ?_
  first | refine sg_ncmp_ge 34 (by omega) (by omega) f_21_22 rfl (fun c22 => ?_) (fun c22 => ?_) | refine sg_icmp_ge 34 f_21_22 rfl (fun c22 => ?_) (fun c22 => ?_)
  · refine sg_iconst (nI 0) f_21_34 ki_0 ?_
    refine sg_putf_j 1 f_21_35 (by decide) fd_x_66_129 rfl ?_
    refine sg_aload_n f_21_38 rfl ?_
    refine sg_aload_n f_21_39 rfl ?_
    refine sg_getf_k f_21_40 fd_x_66_130 (show _ = nI z by rw [sg_r1_eq, pk_un (by decide), h66]; exact hz) ?_
    refine sg_iconst (nI 1) f_21_43 ki_1 ?_
    first | refine sg_iadd _ f_21_44 (nI_add _ _) ?_ | refine sg_iadd _ f_21_44 rfl ?_
    refine sg_bipush (nI 6) f_21_45 kb_6 ?_
    refine sg_min f_21_47 (Nat.le_of_ble_eq_true rfl) rm_21 ?_
    refine sg_putf_j 2 f_21_50 (by decide) fd_x_66_130 rfl ?_
    refine sg_to (sg_vret f_21_53 rk_21) rfl ?_
    unfold sx_rem sx_nx
    rw [sg_r1_r1, sg_r1_eq, h66, sx_min hz6]
    first | rw [if_neg (by omega)] | rw [if_pos (by omega)]
  · refine sg_aload_n f_21_25 rfl ?_
    refine sg_getf_k f_21_26 fd_x_66_129 (show (sx_cpS σ (68 + 11 * p) 55).1 66 1 = nI p by rw [h66]; exact hp) ?_
    refine sg_iconst (nI 1) f_21_29 ki_1 ?_
    first | refine sg_iadd _ f_21_30 (nI_add _ _) ?_ | refine sg_iadd _ f_21_30 rfl ?_
    refine sg_goto 35 f_21_31 rfl ?_
    refine sg_putf_j 1 f_21_35 (by decide) fd_x_66_129 rfl ?_
    refine sg_aload_n f_21_38 rfl ?_
    refine sg_aload_n f_21_39 rfl ?_
    refine sg_getf_k f_21_40 fd_x_66_130 (show _ = nI z by rw [sg_r1_eq, pk_un (by decide), h66]; exact hz) ?_
    refine sg_iconst (nI 1) f_21_43 ki_1 ?_
    first | refine sg_iadd _ f_21_44 (nI_add _ _) ?_ | refine sg_iadd _ f_21_44 rfl ?_
    refine sg_bipush (nI 6) f_21_45 kb_6 ?_
    refine sg_min f_21_47 (Nat.le_of_ble_eq_true rfl) rm_21 ?_
    refine sg_putf_j 2 f_21_50 (by decide) fd_x_66_130 rfl ?_
    refine sg_to (sg_vret f_21_53 rk_21) rfl ?_
    unfold sx_rem sx_nx
    rw [sg_r1_r1, sg_r1_eq, h66, sx_min hz6]
    first | rw [if_neg (by omega)] | rw [if_pos (by omega)]
/-- recall -/
def sx_pv (p : Nat) : Nat := if p = 0 then 5 else p - 1
def sx_rec (σ : sg_S) (p z : Nat) : sg_S := sx_cpS (sg_r1 σ 66 (upd (upd (σ.1 66) 1 (nI (sx_pv p))) 2 (nI (z - 1)))) 55 (68 + 11 * sx_pv p)
theorem sx_22_0 {σ : sg_S} (hz : σ.1 66 2 = nI 0) : sg_D tx_H 22 0 [.ref 66, .ref 55] [] σ (some (.int (nI 0))) σ := by
  refine sg_aload_n f_22_0 rfl ?_
  refine sg_getf_k f_22_1 fd_x_66_130 hz ?_
  refine sg_if_ne 9 f_22_4 rfl (fun c4 => ?_) (fun c4 => ?_)
  · exact absurd nI_0 c4
  · refine sg_iconst (nI 0) f_22_7 ki_0 ?_
    exact (sg_zret f_22_8 rk_22 (by first | exact Or.inl rfl | exact Or.inr rfl | assumption))
theorem sx_22 {σ : sg_S} {p z : Nat} (hp : σ.1 66 1 = nI p) (hp6 : p < 6) (hz : σ.1 66 2 = nI (z + 1)) (hz6 : z + 1 ≤ 6) : sg_D tx_H 22 0 [.ref 66, .ref 55] [] σ (some (.int (nI 1))) (sx_rec σ p (z + 1)) := by
  have hq6 : sx_pv p < 6 := by unfold sx_pv; split <;> omega
  refine sg_aload_n f_22_0 rfl ?_
  refine sg_getf_k f_22_1 fd_x_66_130 hz ?_
  refine sg_if_ne 9 f_22_4 rfl (fun c4 => ?_) (fun c4 => ?_)
  · refine sg_aload_n f_22_9 rfl ?_
    refine sg_aload_n f_22_10 rfl ?_
    refine sg_getf_k f_22_11 fd_x_66_129 hp ?_
    refine sg_if_le 26 f_22_14 rfl (fun c14 => ?_) (fun c14 => ?_)
    · refine sg_iconst (nI 5) f_22_26 ki_5 ?_
      refine sg_putf_j 1 f_22_27 (by decide) fd_x_66_129 rfl ?_
      refine sg_aload_n f_22_30 rfl ?_
      refine sg_dup f_22_31 rfl ?_
      refine sg_getf_k f_22_32 fd_x_66_130 (show _ = nI (z + 1) by rw [sg_r1_eq, pk_un (by decide)]; exact hz) ?_
      refine sg_iconst (nI 1) f_22_35 ki_1 ?_
      refine sg_isub (nI z) f_22_36 (nI_pred z) ?_
      refine sg_putf_j 2 f_22_37 (by decide) fd_x_66_130 rfl ?_
      refine sg_aload_n f_22_40 rfl ?_
      refine sg_aload_n f_22_41 rfl ?_
      refine sg_getf_r f_22_42 fd_x_66_128 ?_
      refine sg_aload_n f_22_45 rfl ?_
      refine sg_getf_k f_22_46 fd_x_66_129 (show _ = nI (sx_pv p) by rw [sg_r1_eq, pk_un (by decide), sg_r1_eq, pk_us]; unfold sx_pv; first | rw [if_pos (by rcases Nat.eq_zero_or_pos p with rfl | h; rfl; exact absurd c14 (nI_nle h (by omega)))] | rw [if_neg (by rintro rfl; exact c14 (by decide))]) ?_
      refine sg_aaload (sx_pv p) f_22_49 rfl (sx_el_k _ hq6) (by omega) ?_
      refine sg_callv_v f_22_50 my_22_29 mr_29 rfl (Nat.le_of_ble_eq_true rfl) (Nat.le_of_ble_eq_true rfl) sh_x_55 (by decide) rfl (sx_29 sx_ST_55 (sx_ST_k _ hq6) (by omega)) ?_
      refine sg_iconst (nI 1) f_22_53 ki_1 ?_
      refine sg_to (sg_zret f_22_54 rk_22 (by first | exact Or.inl rfl | exact Or.inr rfl | assumption)) rfl ?_
      unfold sx_rec
      rw [sg_r1_r1, sg_r1_eq]
      unfold sx_pv
      first | rw [if_pos (by rcases Nat.eq_zero_or_pos p with rfl | h; rfl; exact absurd c14 (nI_nle h (by omega)))]; rfl | rw [if_neg (by rintro rfl; exact c14 (by decide))]; rfl
    · refine sg_aload_n f_22_17 rfl ?_
      refine sg_getf_k f_22_18 fd_x_66_129 hp ?_
      refine sg_iconst (nI 1) f_22_21 ki_1 ?_
      refine sg_isub (nI (p - 1)) f_22_22 (by rw [pk_sub (by rcases Nat.eq_zero_or_pos p with rfl | h; exact absurd (by decide) c14; exact h)]) ?_
      refine sg_goto 27 f_22_23 rfl ?_
      refine sg_putf_j 1 f_22_27 (by decide) fd_x_66_129 rfl ?_
      refine sg_aload_n f_22_30 rfl ?_
      refine sg_dup f_22_31 rfl ?_
      refine sg_getf_k f_22_32 fd_x_66_130 (show _ = nI (z + 1) by rw [sg_r1_eq, pk_un (by decide)]; exact hz) ?_
      refine sg_iconst (nI 1) f_22_35 ki_1 ?_
      refine sg_isub (nI z) f_22_36 (nI_pred z) ?_
      refine sg_putf_j 2 f_22_37 (by decide) fd_x_66_130 rfl ?_
      refine sg_aload_n f_22_40 rfl ?_
      refine sg_aload_n f_22_41 rfl ?_
      refine sg_getf_r f_22_42 fd_x_66_128 ?_
      refine sg_aload_n f_22_45 rfl ?_
      refine sg_getf_k f_22_46 fd_x_66_129 (show _ = nI (sx_pv p) by rw [sg_r1_eq, pk_un (by decide), sg_r1_eq, pk_us]; unfold sx_pv; first | rw [if_pos (by rcases Nat.eq_zero_or_pos p with rfl | h; rfl; exact absurd c14 (nI_nle h (by omega)))] | rw [if_neg (by rintro rfl; exact c14 (by decide))]) ?_
      refine sg_aaload (sx_pv p) f_22_49 rfl (sx_el_k _ hq6) (by omega) ?_
      refine sg_callv_v f_22_50 my_22_29 mr_29 rfl (Nat.le_of_ble_eq_true rfl) (Nat.le_of_ble_eq_true rfl) sh_x_55 (by decide) rfl (sx_29 sx_ST_55 (sx_ST_k _ hq6) (by omega)) ?_
      refine sg_iconst (nI 1) f_22_53 ki_1 ?_
      refine sg_to (sg_zret f_22_54 rk_22 (by first | exact Or.inl rfl | exact Or.inr rfl | assumption)) rfl ?_
      unfold sx_rec
      rw [sg_r1_r1, sg_r1_eq]
      unfold sx_pv
      first | rw [if_pos (by rcases Nat.eq_zero_or_pos p with rfl | h; rfl; exact absurd c14 (nI_nle h (by omega)))]; rfl | rw [if_neg (by rintro rfl; exact c14 (by decide))]; rfl
  · exact absurd c4 (nI_ne0 (by omega) (by omega))
theorem sx_23 {σ : sg_S} : sg_D tx_H 23 0 [.ref 66] [] σ none (sg_r1 σ 66 (upd (σ.1 66) 2 (nI 0))) := by
  refine sg_aload_n f_23_0 rfl ?_
  refine sg_iconst (nI 0) f_23_1 ki_0 ?_
  refine sg_putf_j 2 f_23_2 (by decide) fd_x_66_130 rfl ?_
  exact (sg_vret f_23_5 rk_23)
/-! Sights -/
theorem sx_25_full {σ : sg_S} {t : Int32} {v : Int64} (hz : σ.1 158 2 = nI 6) : sg_D tx_H 25 0 [.ref 158, .int t, .long v, ab_u] [] σ (some (.int (nI 0))) σ := by
  refine sg_aload_n f_25_0 rfl ?_
  refine sg_getf_k f_25_1 fd_x_158_194 hz ?_
  refine sg_bipush (nI 6) f_25_4 kb_6 ?_
  first | refine sg_ncmp_lt 11 (by omega) (by omega) f_25_6 rfl (fun c6 => ?_) (fun c6 => ?_) | refine sg_icmp_lt 11 f_25_6 rfl (fun c6 => ?_) (fun c6 => ?_)
  · omega
  · refine sg_iconst (nI 0) f_25_9 ki_0 ?_
    exact (sg_zret f_25_10 rk_25 (by first | exact Or.inl rfl | exact Or.inr rfl | assumption))
def sx_see (σ : sg_S) (z : Nat) (t : Int32) (v : Int64) : sg_S := sg_r1 (sg_r2 (sg_r1 σ 159 (upd (σ.1 159) z t)) 160 (vp_updL (σ.2 160) z v)) 158 (upd (σ.1 158) 2 (nI (z + 1)))
theorem sx_25 {σ : sg_S} {t : Int32} {v : Int64} {z : Nat} (hz : σ.1 158 2 = nI z) (hz6 : z < 6) : sg_D tx_H 25 0 [.ref 158, .int t, .long v, ab_u] [] σ (some (.int (nI 1))) (sx_see σ z t v) := by
  refine sg_aload_n f_25_0 rfl ?_
  refine sg_getf_k f_25_1 fd_x_158_194 hz ?_
  refine sg_bipush (nI 6) f_25_4 kb_6 ?_
  first | refine sg_ncmp_lt 11 (by omega) (by omega) f_25_6 rfl (fun c6 => ?_) (fun c6 => ?_) | refine sg_icmp_lt 11 f_25_6 rfl (fun c6 => ?_) (fun c6 => ?_)
  · refine sg_aload_n f_25_11 rfl ?_
    refine sg_getf_r f_25_12 fd_x_158_192 ?_
    refine sg_aload_n f_25_15 rfl ?_
    refine sg_getf_k f_25_16 fd_x_158_194 hz ?_
    refine sg_iload_n f_25_19 rfl ?_
    refine sg_iastore _ ok_x f_25_20 sh_x_159 rfl (by omega) ?_
    refine sg_aload_n f_25_21 rfl ?_
    refine sg_getf_r f_25_22 fd_x_158_193 ?_
    refine sg_aload_n f_25_25 rfl ?_
    refine sg_getf_k f_25_26 fd_x_158_194 (show (sg_r1 σ 159 _).1 158 2 = nI z from hz) ?_
    refine sg_lload_n f_25_29 rfl ?_
    refine sg_lastore _ ok_x f_25_30 sh_x_160 rfl (by omega) ?_
    refine sg_aload_n f_25_31 rfl ?_
    refine sg_dup f_25_32 rfl ?_
    refine sg_getf_k f_25_33 fd_x_158_194 (show (sg_r2 (sg_r1 σ 159 _) 160 _).1 158 2 = nI z from hz) ?_
    refine sg_iconst (nI 1) f_25_36 ki_1 ?_
    first | refine sg_iadd _ f_25_37 (nI_add _ _) ?_ | refine sg_iadd _ f_25_37 rfl ?_
    refine sg_putf_j 2 f_25_38 (by decide) fd_x_158_194 rfl ?_
    refine sg_iconst (nI 1) f_25_41 ki_1 ?_
    exact (sg_zret f_25_42 rk_25 (by first | exact Or.inl rfl | exact Or.inr rfl | assumption))
  · omega
theorem sx_26 {σ : sg_S} : sg_D tx_H 26 0 [.ref 158, ab_u] [] σ (some (.int (σ.1 158 2))) (sg_r1 σ 158 (upd (σ.1 158) 2 (nI 0))) := by
  refine sg_aload_n f_26_0 rfl ?_
  refine sg_getf_j 2 f_26_1 fd_x_158_194 rfl ?_
  refine sg_istore_n [_, _] f_26_4 rfl ?_
  refine sg_aload_n f_26_5 rfl ?_
  refine sg_iconst (nI 0) f_26_6 ki_0 ?_
  refine sg_putf_j 2 f_26_7 (by decide) fd_x_158_194 rfl ?_
  refine sg_iload_n f_26_10 rfl ?_
  exact (sg_iret f_26_11 rk_26)
/-- what was seen fits a row -/
def sx_fit (T : Nat → Int32) (V P : Nat → Int64) : Nat → Nat → Int32
  | 0, _ => nI 1
  | n + 1, i => if P (T i).toNatClampNeg = V i then sx_fit T V P n (i + 1) else nI 0
theorem sg_cmp_eq {a b : Int64} : lg_cmp a b = 0 ↔ a = b := by
  unfold lg_cmp
  by_cases h1 : b < a
  · simp only [h1, if_true]
    refine ⟨fun h => absurd h (by decide), fun h => ?_⟩
    subst h
    exact (Int64.lt_irrefl h1).elim
  · simp only [h1, if_false]
    by_cases h2 : a = b
    · simp [h2]
    · simp [h2]
theorem sx_27_l {σ : sg_S} {a z : Nat} (ha : sg_sh tx_H a = some (21, 17)) (hz : σ.1 158 2 = nI z) (hz6 : z ≤ 6) (ht : ∀ i, i < z → ∃ k, k < 17 ∧ σ.1 159 i = nI k) : ∀ n i : Nat, i + n = z → sg_D tx_H 27 2 [.ref 158, .ref a, .int (nI i)] [] σ (some (.int (sx_fit (σ.1 159) (σ.2 160) (σ.2 a) n i))) σ
  | 0, i, hi => by
    refine sg_iload_n f_27_2 rfl ?_
    refine sg_aload_n f_27_3 rfl ?_
    refine sg_getf_k f_27_4 fd_x_158_194 hz ?_
    first | refine sg_ncmp_ge 36 (by omega) (by omega) f_27_7 rfl (fun c7 => ?_) (fun c7 => ?_) | refine sg_icmp_ge 36 f_27_7 rfl (fun c7 => ?_) (fun c7 => ?_)
    · refine sg_iconst (nI 1) f_27_36 ki_1 ?_
      exact (sg_zret f_27_37 rk_27 (by first | exact Or.inl rfl | exact Or.inr rfl | assumption))
    · omega
  | n + 1, i, hi => by
    obtain ⟨k, hk, hk2⟩ := ht i (by omega)
    refine sg_iload_n f_27_2 rfl ?_
    refine sg_aload_n f_27_3 rfl ?_
    refine sg_getf_k f_27_4 fd_x_158_194 hz ?_
    first | refine sg_ncmp_ge 36 (by omega) (by omega) f_27_7 rfl (fun c7 => ?_) (fun c7 => ?_) | refine sg_icmp_ge 36 f_27_7 rfl (fun c7 => ?_) (fun c7 => ?_)
    · omega
    · refine sg_aload_n f_27_10 rfl ?_
      refine sg_aload_n f_27_11 rfl ?_
      refine sg_getf_r f_27_12 fd_x_158_192 ?_
      refine sg_iload_n f_27_15 rfl ?_
      refine sg_iaload_k i ok_x f_27_16 sh_x_159 rfl (by omega) hk2 ?_
      refine sg_laload k ok_x f_27_17 ha rfl hk ?_
      refine sg_aload_n f_27_18 rfl ?_
      refine sg_getf_r f_27_19 fd_x_158_193 ?_
      refine sg_iload_n f_27_22 rfl ?_
      refine sg_laload _ ok_x f_27_23 sh_x_160 rfl (by omega) ?_
      refine sg_lcmp f_27_24 ?_
      refine sg_if_eq 30 f_27_25 rfl (fun c25 => ?_) (fun c25 => ?_)
      · rw [sx_fit, if_pos (by rw [hk2, nI_clamp (by omega)]; exact sg_cmp_eq.mp c25)]
        first | refine sg_iinc _ [_, _, _] f_27_30 rfl (sg_inc1 _) rfl ?_ | refine sg_iinc _ [_, _, _] f_27_30 rfl rfl rfl ?_
        refine sg_goto 2 f_27_33 rfl ?_
        exact sx_27_l ha hz hz6 ht n (i + 1) (by omega)
      · rw [sx_fit, if_neg (by rw [hk2, nI_clamp (by omega)]; exact fun e => c25 (sg_cmp_eq.mpr e))]
        refine sg_iconst (nI 0) f_27_28 ki_0 ?_
        exact (sg_zret f_27_29 rk_27 (by first | exact Or.inl rfl | exact Or.inr rfl | assumption))
theorem sx_27 {σ : sg_S} {a z : Nat} (ha : sg_sh tx_H a = some (21, 17)) (hz : σ.1 158 2 = nI z) (hz6 : z ≤ 6) (ht : ∀ i, i < z → ∃ k, k < 17 ∧ σ.1 159 i = nI k) : sg_D tx_H 27 0 [.ref 158, .ref a, ab_u] [] σ (some (.int (sx_fit (σ.1 159) (σ.2 160) (σ.2 a) z 0))) σ := by
  refine sg_iconst (nI 0) f_27_0 ki_0 ?_
  refine sg_istore_n [_, _, _] f_27_1 rfl ?_
  exact sx_27_l ha hz hz6 ht z 0 (by omega)
