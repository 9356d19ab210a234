/-! the class: number, tells, cut, keep, back -/
def sx_has (s i j : Int32) : Prop := ¬ i < 0 ∧ ¬ s ≤ i ∧ ¬ j < -1 ∧ ¬ s ≤ j
theorem sx_33_0 {σ : sg_S} {i j : Int32} (h : ¬ sx_has (σ.1 56 0) i j) : sg_D tx_H 33 0 [.ref 56, .int i, .int j] [] σ (some (.int (nI 0))) σ :=
  sg_to (sx_33 sx_SM_56) (by unfold sx_has at h; rw [if_neg h]) rfl
theorem sx_80_bad {σ : sg_S} {i j : Int32} (h : ¬ sx_has (σ.1 56 0) i j) : sg_D tx_H 80 0 [.ref 0, .int i, .int j] [] σ (some (.int (-1001))) σ := by
  refine sg_aload_n f_80_0 rfl ?_
  refine sg_getf_r f_80_1 fd_x_0_710 ?_
  refine sg_getf_r f_80_4 fd_x_55_256 ?_
  refine sg_iload_n f_80_7 rfl ?_
  refine sg_iload_n f_80_8 rfl ?_
  refine sg_callv_i f_80_9 my_80_33 mr_33 rfl (Nat.le_of_ble_eq_true rfl) (Nat.le_of_ble_eq_true rfl) sh_x_56 (by decide) rfl (sx_33_0 h) ?_
  refine sg_if_eq 30 f_80_12 rfl (fun c12 => ?_) (fun c12 => ?_)
  · refine sg_sipush (-1001) f_80_30 ks_m1001 ?_
    exact (sg_iret f_80_33 rk_80)
  · exact absurd rfl c12
theorem sx_80_a {σ : sg_S} {s i j : Nat} (hs : σ.1 56 0 = nI s) (hs4 : s ≤ 4) (hi : i < s) (hj : j < s) : sg_D tx_H 80 0 [.ref 0, .int (nI i), .int (nI j)] [] σ (some (.int (σ.1 57 (i * 4 + j)))) σ := by
  refine sg_aload_n f_80_0 rfl ?_
  refine sg_getf_r f_80_1 fd_x_0_710 ?_
  refine sg_getf_r f_80_4 fd_x_55_256 ?_
  refine sg_iload_n f_80_7 rfl ?_
  refine sg_iload_n f_80_8 rfl ?_
  refine sg_callv_i f_80_9 my_80_33 mr_33 rfl (Nat.le_of_ble_eq_true rfl) (Nat.le_of_ble_eq_true rfl) sh_x_56 (by decide) rfl (sx_33_a sx_SM_56 hs hs4 hi hj) ?_
  refine sg_if_eq 30 f_80_12 rfl (fun c12 => ?_) (fun c12 => ?_)
  · exact absurd c12 (by decide)
  · refine sg_aload_n f_80_15 rfl ?_
    refine sg_getf_r f_80_16 fd_x_0_710 ?_
    refine sg_getf_r f_80_19 fd_x_55_256 ?_
    refine sg_iload_n f_80_22 rfl ?_
    refine sg_iload_n f_80_23 rfl ?_
    refine sg_callv_i f_80_24 my_80_34 mr_34 rfl (Nat.le_of_ble_eq_true rfl) (Nat.le_of_ble_eq_true rfl) sh_x_56 (by decide) rfl (sx_34_a sx_SM_56 hs hs4 hi hj) ?_
    refine sg_goto 33 f_80_27 rfl ?_
    exact (sg_iret f_80_33 rk_80)
theorem sx_80_b {σ : sg_S} {s i : Nat} (hs : σ.1 56 0 = nI s) (hs4 : s ≤ 4) (hi : i < s) : sg_D tx_H 80 0 [.ref 0, .int (nI i), .int (-1)] [] σ (some (.int (σ.1 58 i))) σ := by
  refine sg_aload_n f_80_0 rfl ?_
  refine sg_getf_r f_80_1 fd_x_0_710 ?_
  refine sg_getf_r f_80_4 fd_x_55_256 ?_
  refine sg_iload_n f_80_7 rfl ?_
  refine sg_iload_n f_80_8 rfl ?_
  refine sg_callv_i f_80_9 my_80_33 mr_33 rfl (Nat.le_of_ble_eq_true rfl) (Nat.le_of_ble_eq_true rfl) sh_x_56 (by decide) rfl (sx_33_b sx_SM_56 hs hs4 hi) ?_
  refine sg_if_eq 30 f_80_12 rfl (fun c12 => ?_) (fun c12 => ?_)
  · exact absurd c12 (by decide)
  · refine sg_aload_n f_80_15 rfl ?_
    refine sg_getf_r f_80_16 fd_x_0_710 ?_
    refine sg_getf_r f_80_19 fd_x_55_256 ?_
    refine sg_iload_n f_80_22 rfl ?_
    refine sg_iload_n f_80_23 rfl ?_
    refine sg_callv_i f_80_24 my_80_34 mr_34 rfl (Nat.le_of_ble_eq_true rfl) (Nat.le_of_ble_eq_true rfl) sh_x_56 (by decide) rfl (sx_34_b sx_SM_56 hs hs4 hi) ?_
    refine sg_goto 33 f_80_27 rfl ?_
    exact (sg_iret f_80_33 rk_80)
theorem sx_70_bad0 {σ : sg_S} {i j v : Int32} (h : ¬ sx_has (σ.1 56 0) i j) : sg_D tx_H 70 0 [.ref 0, .int i, .int j, .int v, ab_u] [] σ (some (.int (-1001))) σ := by
  refine sg_aload_n f_70_0 rfl ?_
  refine sg_getf_r f_70_1 fd_x_0_710 ?_
  refine sg_getf_r f_70_4 fd_x_55_256 ?_
  refine sg_iload_n f_70_7 rfl ?_
  refine sg_iload_n f_70_8 rfl ?_
  refine sg_callv_i f_70_9 my_70_33 mr_33 rfl (Nat.le_of_ble_eq_true rfl) (Nat.le_of_ble_eq_true rfl) sh_x_56 (by decide) rfl (sx_33_0 h) ?_
  refine sg_if_eq 29 f_70_12 rfl (fun c12 => ?_) (fun c12 => ?_)
  · refine sg_sipush (-1001) f_70_29 ks_m1001 ?_
    exact (sg_iret f_70_32 rk_70)
  · exact absurd rfl c12
theorem sx_70_bad1 {σ : sg_S} {i j v : Int32} (h : sx_has (σ.1 56 0) i j) (hv : v < -600 ∨ ¬ v ≤ nI 600) : sg_D tx_H 70 0 [.ref 0, .int i, .int j, .int v, ab_u] [] σ (some (.int (-1001))) σ := by
  have k33 : sg_D tx_H 33 0 [.ref 56, .int i, .int j] [] σ (some (.int (nI 1))) σ := sg_to (sx_33 sx_SM_56) (by unfold sx_has at h; rw [if_pos h]) rfl
  refine sg_aload_n f_70_0 rfl ?_
  refine sg_getf_r f_70_1 fd_x_0_710 ?_
  refine sg_getf_r f_70_4 fd_x_55_256 ?_
  refine sg_iload_n f_70_7 rfl ?_
  refine sg_iload_n f_70_8 rfl ?_
  refine sg_callv_i f_70_9 my_70_33 mr_33 rfl (Nat.le_of_ble_eq_true rfl) (Nat.le_of_ble_eq_true rfl) sh_x_56 (by decide) rfl k33 ?_
  refine sg_if_eq 29 f_70_12 rfl (fun c12 => ?_) (fun c12 => ?_)
  · exact absurd c12 (by decide)
  · refine sg_iload_n f_70_15 rfl ?_
    refine sg_sipush (-600) f_70_16 ks_m600 ?_
    refine sg_icmp_lt 29 f_70_19 rfl (fun c19 => ?_) (fun c19 => ?_)
    · refine sg_sipush (-1001) f_70_29 ks_m1001 ?_
      exact (sg_iret f_70_32 rk_70)
    · refine sg_iload_n f_70_22 rfl ?_
      refine sg_sipush (nI 600) f_70_23 ks_600 ?_
      refine sg_icmp_le 33 f_70_26 rfl (fun c26 => ?_) (fun c26 => ?_)
      · exact absurd hv (fun z => z.elim c19 (fun z => z c26))
      · refine sg_sipush (-1001) f_70_29 ks_m1001 ?_
        exact (sg_iret f_70_32 rk_70)
theorem sx_70_a_st {σ : sg_S} {s i j : Nat} {v : Int32} (hs : σ.1 56 0 = nI s) (hs4 : s ≤ 4) (hi : i < s) (hj : j < s) (h1 : ¬ v < -600) (h2 : v ≤ nI 600) (h : σ.1 57 (i * 4 + j) = v) : sg_D tx_H 70 0 [.ref 0, .int (nI i), .int (nI j), .int v, ab_u] [] σ (some (.int (-1002))) σ := by
  refine sg_aload_n f_70_0 rfl ?_
  refine sg_getf_r f_70_1 fd_x_0_710 ?_
  refine sg_getf_r f_70_4 fd_x_55_256 ?_
  refine sg_iload_n f_70_7 rfl ?_
  refine sg_iload_n f_70_8 rfl ?_
  refine sg_callv_i f_70_9 my_70_33 mr_33 rfl (Nat.le_of_ble_eq_true rfl) (Nat.le_of_ble_eq_true rfl) sh_x_56 (by decide) rfl (sx_33_a sx_SM_56 hs hs4 hi hj) ?_
  refine sg_if_eq 29 f_70_12 rfl (fun c12 => ?_) (fun c12 => ?_)
  · exact absurd c12 (by decide)
  · refine sg_iload_n f_70_15 rfl ?_
    refine sg_sipush (-600) f_70_16 ks_m600 ?_
    refine sg_icmp_lt 29 f_70_19 rfl (fun c19 => ?_) (fun c19 => ?_)
    · exact absurd c19 h1
    · refine sg_iload_n f_70_22 rfl ?_
      refine sg_sipush (nI 600) f_70_23 ks_600 ?_
      refine sg_icmp_le 33 f_70_26 rfl (fun c26 => ?_) (fun c26 => ?_)
      · refine sg_aload_n f_70_33 rfl ?_
        refine sg_getf_r f_70_34 fd_x_0_710 ?_
        refine sg_getf_r f_70_37 fd_x_55_256 ?_
        refine sg_iload_n f_70_40 rfl ?_
        refine sg_iload_n f_70_41 rfl ?_
        refine sg_callv_i f_70_42 my_70_34 mr_34 rfl (Nat.le_of_ble_eq_true rfl) (Nat.le_of_ble_eq_true rfl) sh_x_56 (by decide) rfl (sx_34_a sx_SM_56 hs hs4 hi hj) ?_
        refine sg_istore [_, _, _, _, _] f_70_45 rfl ?_
        refine sg_iload f_70_47 rfl ?_
        refine sg_iload_n f_70_49 rfl ?_
        refine sg_icmp_ne 57 f_70_50 rfl (fun c50 => ?_) (fun c50 => ?_)
        · exact absurd h c50
        · refine sg_sipush (-1002) f_70_53 ks_m1002 ?_
          exact (sg_iret f_70_56 rk_70)
      · exact absurd h2 c26
theorem sx_70_b_st {σ : sg_S} {s i : Nat} {v : Int32} (hs : σ.1 56 0 = nI s) (hs4 : s ≤ 4) (hi : i < s) (h1 : ¬ v < -600) (h2 : v ≤ nI 600) (h : σ.1 58 i = v) : sg_D tx_H 70 0 [.ref 0, .int (nI i), .int (-1), .int v, ab_u] [] σ (some (.int (-1002))) σ := by
  refine sg_aload_n f_70_0 rfl ?_
  refine sg_getf_r f_70_1 fd_x_0_710 ?_
  refine sg_getf_r f_70_4 fd_x_55_256 ?_
  refine sg_iload_n f_70_7 rfl ?_
  refine sg_iload_n f_70_8 rfl ?_
  refine sg_callv_i f_70_9 my_70_33 mr_33 rfl (Nat.le_of_ble_eq_true rfl) (Nat.le_of_ble_eq_true rfl) sh_x_56 (by decide) rfl (sx_33_b sx_SM_56 hs hs4 hi) ?_
  refine sg_if_eq 29 f_70_12 rfl (fun c12 => ?_) (fun c12 => ?_)
  · exact absurd c12 (by decide)
  · refine sg_iload_n f_70_15 rfl ?_
    refine sg_sipush (-600) f_70_16 ks_m600 ?_
    refine sg_icmp_lt 29 f_70_19 rfl (fun c19 => ?_) (fun c19 => ?_)
    · exact absurd c19 h1
    · refine sg_iload_n f_70_22 rfl ?_
      refine sg_sipush (nI 600) f_70_23 ks_600 ?_
      refine sg_icmp_le 33 f_70_26 rfl (fun c26 => ?_) (fun c26 => ?_)
      · refine sg_aload_n f_70_33 rfl ?_
        refine sg_getf_r f_70_34 fd_x_0_710 ?_
        refine sg_getf_r f_70_37 fd_x_55_256 ?_
        refine sg_iload_n f_70_40 rfl ?_
        refine sg_iload_n f_70_41 rfl ?_
        refine sg_callv_i f_70_42 my_70_34 mr_34 rfl (Nat.le_of_ble_eq_true rfl) (Nat.le_of_ble_eq_true rfl) sh_x_56 (by decide) rfl (sx_34_b sx_SM_56 hs hs4 hi) ?_
        refine sg_istore [_, _, _, _, _] f_70_45 rfl ?_
        refine sg_iload f_70_47 rfl ?_
        refine sg_iload_n f_70_49 rfl ?_
        refine sg_icmp_ne 57 f_70_50 rfl (fun c50 => ?_) (fun c50 => ?_)
        · exact absurd h c50
        · refine sg_sipush (-1002) f_70_53 ks_m1002 ?_
          exact (sg_iret f_70_56 rk_70)
      · exact absurd h2 c26
theorem sx_70_a {σ : sg_S} {p z s i j : Nat} {v : Int32} (hP : sx_P σ p z) (hs : σ.1 56 0 = nI s) (hs4 : s ≤ 4) (hi : i < s) (hj : j < s) (h1 : ¬ v < -600) (h2 : v ≤ nI 600) (h : σ.1 57 (i * 4 + j) ≠ v) : sg_D tx_H 70 0 [.ref 0, .int (nI i), .int (nI j), .int v, ab_u] [] σ (some (.int (σ.1 57 (i * 4 + j)))) (sg_r1 (sx_rem σ p z) 57 (upd (σ.1 57) (i * 4 + j) v)) := by
  have e : (sx_rem σ p z).1 57 = σ.1 57 := sx_rem_1 (by omega) (by omega)
  have e0 : (sx_rem σ p z).1 56 0 = nI s := by rw [sx_rem_1 (by omega) (by omega)]; exact hs
  have k35 := sx_35_a (v := v) sx_SM_56 e0 hs4 hi hj
  rw [e] at k35
  refine sg_aload_n f_70_0 rfl ?_
  refine sg_getf_r f_70_1 fd_x_0_710 ?_
  refine sg_getf_r f_70_4 fd_x_55_256 ?_
  refine sg_iload_n f_70_7 rfl ?_
  refine sg_iload_n f_70_8 rfl ?_
  refine sg_callv_i f_70_9 my_70_33 mr_33 rfl (Nat.le_of_ble_eq_true rfl) (Nat.le_of_ble_eq_true rfl) sh_x_56 (by decide) rfl (sx_33_a sx_SM_56 hs hs4 hi hj) ?_
  refine sg_if_eq 29 f_70_12 rfl (fun c12 => ?_) (fun c12 => ?_)
  · exact absurd c12 (by decide)
  · refine sg_iload_n f_70_15 rfl ?_
    refine sg_sipush (-600) f_70_16 ks_m600 ?_
    refine sg_icmp_lt 29 f_70_19 rfl (fun c19 => ?_) (fun c19 => ?_)
    · exact absurd c19 h1
    · refine sg_iload_n f_70_22 rfl ?_
      refine sg_sipush (nI 600) f_70_23 ks_600 ?_
      refine sg_icmp_le 33 f_70_26 rfl (fun c26 => ?_) (fun c26 => ?_)
      · refine sg_aload_n f_70_33 rfl ?_
        refine sg_getf_r f_70_34 fd_x_0_710 ?_
        refine sg_getf_r f_70_37 fd_x_55_256 ?_
        refine sg_iload_n f_70_40 rfl ?_
        refine sg_iload_n f_70_41 rfl ?_
        refine sg_callv_i f_70_42 my_70_34 mr_34 rfl (Nat.le_of_ble_eq_true rfl) (Nat.le_of_ble_eq_true rfl) sh_x_56 (by decide) rfl (sx_34_a sx_SM_56 hs hs4 hi hj) ?_
        refine sg_istore [_, _, _, _, _] f_70_45 rfl ?_
        refine sg_iload f_70_47 rfl ?_
        refine sg_iload_n f_70_49 rfl ?_
        refine sg_icmp_ne 57 f_70_50 rfl (fun c50 => ?_) (fun c50 => ?_)
        · refine sg_aload_n f_70_57 rfl ?_
          refine sg_getf_r f_70_58 fd_x_0_711 ?_
          refine sg_aload_n f_70_61 rfl ?_
          refine sg_getf_r f_70_62 fd_x_0_710 ?_
          refine sg_callv_v f_70_65 my_70_21 mr_21 rfl (Nat.le_of_ble_eq_true rfl) (Nat.le_of_ble_eq_true rfl) sh_x_66 (by decide) rfl (sx_21 hP.1 hP.2.1 hP.2.2.1 hP.2.2.2) ?_
          refine sg_aload_n f_70_68 rfl ?_
          refine sg_getf_r f_70_69 fd_x_0_710 ?_
          refine sg_getf_r f_70_72 fd_x_55_256 ?_
          refine sg_iload_n f_70_75 rfl ?_
          refine sg_iload_n f_70_76 rfl ?_
          refine sg_iload_n f_70_77 rfl ?_
          refine sg_callv_v f_70_78 my_70_35 mr_35 rfl (Nat.le_of_ble_eq_true rfl) (Nat.le_of_ble_eq_true rfl) sh_x_56 (by decide) rfl k35 ?_
          refine sg_iload f_70_81 rfl ?_
          exact (sg_iret f_70_83 rk_70)
        · exact absurd c50 h
      · exact absurd h2 c26
theorem sx_70_b {σ : sg_S} {p z s i : Nat} {v : Int32} (hP : sx_P σ p z) (hs : σ.1 56 0 = nI s) (hs4 : s ≤ 4) (hi : i < s) (h1 : ¬ v < -600) (h2 : v ≤ nI 600) (h : σ.1 58 i ≠ v) : sg_D tx_H 70 0 [.ref 0, .int (nI i), .int (-1), .int v, ab_u] [] σ (some (.int (σ.1 58 i))) (sg_r1 (sx_rem σ p z) 58 (upd (σ.1 58) i v)) := by
  have e : (sx_rem σ p z).1 58 = σ.1 58 := sx_rem_1 (by omega) (by omega)
  have e0 : (sx_rem σ p z).1 56 0 = nI s := by rw [sx_rem_1 (by omega) (by omega)]; exact hs
  have k35 := sx_35_b (v := v) sx_SM_56 e0 hs4 hi
  rw [e] at k35
  refine sg_aload_n f_70_0 rfl ?_
  refine sg_getf_r f_70_1 fd_x_0_710 ?_
  refine sg_getf_r f_70_4 fd_x_55_256 ?_
  refine sg_iload_n f_70_7 rfl ?_
  refine sg_iload_n f_70_8 rfl ?_
  refine sg_callv_i f_70_9 my_70_33 mr_33 rfl (Nat.le_of_ble_eq_true rfl) (Nat.le_of_ble_eq_true rfl) sh_x_56 (by decide) rfl (sx_33_b sx_SM_56 hs hs4 hi) ?_
  refine sg_if_eq 29 f_70_12 rfl (fun c12 => ?_) (fun c12 => ?_)
  · exact absurd c12 (by decide)
  · refine sg_iload_n f_70_15 rfl ?_
    refine sg_sipush (-600) f_70_16 ks_m600 ?_
    refine sg_icmp_lt 29 f_70_19 rfl (fun c19 => ?_) (fun c19 => ?_)
    · exact absurd c19 h1
    · refine sg_iload_n f_70_22 rfl ?_
      refine sg_sipush (nI 600) f_70_23 ks_600 ?_
      refine sg_icmp_le 33 f_70_26 rfl (fun c26 => ?_) (fun c26 => ?_)
      · refine sg_aload_n f_70_33 rfl ?_
        refine sg_getf_r f_70_34 fd_x_0_710 ?_
        refine sg_getf_r f_70_37 fd_x_55_256 ?_
        refine sg_iload_n f_70_40 rfl ?_
        refine sg_iload_n f_70_41 rfl ?_
        refine sg_callv_i f_70_42 my_70_34 mr_34 rfl (Nat.le_of_ble_eq_true rfl) (Nat.le_of_ble_eq_true rfl) sh_x_56 (by decide) rfl (sx_34_b sx_SM_56 hs hs4 hi) ?_
        refine sg_istore [_, _, _, _, _] f_70_45 rfl ?_
        refine sg_iload f_70_47 rfl ?_
        refine sg_iload_n f_70_49 rfl ?_
        refine sg_icmp_ne 57 f_70_50 rfl (fun c50 => ?_) (fun c50 => ?_)
        · refine sg_aload_n f_70_57 rfl ?_
          refine sg_getf_r f_70_58 fd_x_0_711 ?_
          refine sg_aload_n f_70_61 rfl ?_
          refine sg_getf_r f_70_62 fd_x_0_710 ?_
          refine sg_callv_v f_70_65 my_70_21 mr_21 rfl (Nat.le_of_ble_eq_true rfl) (Nat.le_of_ble_eq_true rfl) sh_x_66 (by decide) rfl (sx_21 hP.1 hP.2.1 hP.2.2.1 hP.2.2.2) ?_
          refine sg_aload_n f_70_68 rfl ?_
          refine sg_getf_r f_70_69 fd_x_0_710 ?_
          refine sg_getf_r f_70_72 fd_x_55_256 ?_
          refine sg_iload_n f_70_75 rfl ?_
          refine sg_iload_n f_70_76 rfl ?_
          refine sg_iload_n f_70_77 rfl ?_
          refine sg_callv_v f_70_78 my_70_35 mr_35 rfl (Nat.le_of_ble_eq_true rfl) (Nat.le_of_ble_eq_true rfl) sh_x_56 (by decide) rfl k35 ?_
          refine sg_iload f_70_81 rfl ?_
          exact (sg_iret f_70_83 rk_70)
        · exact absurd c50 h
      · exact absurd h2 c26
theorem sx_kS : sg_sh tx_H 157 = some (22, 2) := by decide +kernel
theorem sx_91 {σ : sg_S} {k : Nat} (hk : k < 2) : sg_D tx_H 91 0 [.ref 0, .int (nI k)] [] σ (some (.int (σ.1 56 0))) (sg_r1 (sx_cpS σ (135 + 11 * k) 55) 157 (upd (σ.1 157) k (nI 1))) := by
  have e1 : (sx_cpS σ (135 + 11 * k) 55).1 157 = σ.1 157 := sx_cpS_1 (by omega)
  have e2 : (sg_r1 (sx_cpS σ (135 + 11 * k) 55) 157 (upd (σ.1 157) k (nI 1))).1 56 0 = σ.1 56 0 := by rw [sg_r1_ne (by omega), sx_cpS_1 (by omega)]
  refine sg_iload_n f_91_0 rfl ?_
  refine sg_calls_i f_91_1 my_91_96 mr_96 (by decide) rfl (Nat.le_of_ble_eq_true rfl) (Nat.le_of_ble_eq_true rfl) rfl (sx_96_1 hk) ?_
  refine sg_if_ne 9 f_91_4 rfl (fun c4 => ?_) (fun c4 => ?_)
  · refine sg_aload_n f_91_9 rfl ?_
    refine sg_getf_r f_91_10 fd_x_0_712 ?_
    refine sg_iload_n f_91_13 rfl ?_
    refine sg_aaload k f_91_14 rfl (sx_el_i k hk) (by omega) ?_
    refine sg_aload_n f_91_15 rfl ?_
    refine sg_getf_r f_91_16 fd_x_0_710 ?_
    refine sg_callv_v f_91_19 my_91_29 mr_29 rfl (Nat.le_of_ble_eq_true rfl) (Nat.le_of_ble_eq_true rfl) (sx_ST_i k hk).2.1 (by decide) rfl (sx_29 (sx_ST_i k hk) sx_ST_55 (by omega)) ?_
    refine sg_aload_n f_91_22 rfl ?_
    refine sg_getf_r f_91_23 fd_x_0_713 ?_
    refine sg_iload_n f_91_26 rfl ?_
    refine sg_iconst (nI 1) f_91_27 ki_1 ?_
    refine sg_bastore k ok_x f_91_28 sh_x_157 rfl (by omega) (Or.inr rfl) ?_
    rw [e1]
    refine sg_aload_n f_91_29 rfl ?_
    refine sg_getf_r f_91_30 fd_x_0_710 ?_
    refine sg_getf_r f_91_33 fd_x_55_256 ?_
    refine sg_getf_k f_91_36 fd_x_56_320 e2 ?_
    exact (sg_iret f_91_39 rk_91)
  · exact absurd c4 (by decide)
theorem sx_92_st {σ : sg_S} {k : Nat} (hk : k < 2) (h : σ.1 157 k = 0) : sg_D tx_H 92 0 [.ref 0, .int (nI k)] [] σ (some (.int (-2))) σ := by
  refine sg_iload_n f_92_0 rfl ?_
  refine sg_calls_i f_92_1 my_92_96 mr_96 (by decide) rfl (Nat.le_of_ble_eq_true rfl) (Nat.le_of_ble_eq_true rfl) rfl (sx_96_1 hk) ?_
  refine sg_if_ne 9 f_92_4 rfl (fun c4 => ?_) (fun c4 => ?_)
  · refine sg_aload_n f_92_9 rfl ?_
    refine sg_getf_r f_92_10 fd_x_0_713 ?_
    refine sg_iload_n f_92_13 rfl ?_
    refine sg_baload _ ok_x f_92_14 sh_x_157 rfl (by omega) ?_
    refine sg_if_ne 21 f_92_15 rfl (fun c15 => ?_) (fun c15 => ?_)
    · exact absurd h c15
    · refine sg_bipush (-2) f_92_18 kb_m2 ?_
      exact (sg_iret f_92_20 rk_92)
  · exact absurd c4 (by decide)
theorem sx_92_e {σ : sg_S} {k : Nat} (hk : k < 2) : (sg_r1 (sx_cpS σ 55 (135 + 11 * k)) 66 (upd (σ.1 66) 2 (nI 0))).1 56 0 = σ.1 (136 + 11 * k) 0 := by
  rw [sg_r1_ne (by omega)]
  show (sx_cpM σ 56 (135 + 11 * k + 1)).1 56 0 = _
  unfold sx_cpM
  rw [sg_r1_ne (by omega), sg_r1_ne (by omega), sg_r1_eq]
  rw [show 135 + 11 * k + 1 = 136 + 11 * k by omega]
  simp [upd]
theorem sx_92 {σ : sg_S} {k : Nat} (hk : k < 2) (h : σ.1 157 k ≠ 0) : sg_D tx_H 92 0 [.ref 0, .int (nI k)] [] σ (some (.int (σ.1 (136 + 11 * k) 0))) (sg_r1 (sx_cpS σ 55 (135 + 11 * k)) 66 (upd (σ.1 66) 2 (nI 0))) := by
  have e1 : (sx_cpS σ 55 (135 + 11 * k)).1 66 = σ.1 66 := sx_cpS_1 (by omega)
  refine sg_iload_n f_92_0 rfl ?_
  refine sg_calls_i f_92_1 my_92_96 mr_96 (by decide) rfl (Nat.le_of_ble_eq_true rfl) (Nat.le_of_ble_eq_true rfl) rfl (sx_96_1 hk) ?_
  refine sg_if_ne 9 f_92_4 rfl (fun c4 => ?_) (fun c4 => ?_)
  · refine sg_aload_n f_92_9 rfl ?_
    refine sg_getf_r f_92_10 fd_x_0_713 ?_
    refine sg_iload_n f_92_13 rfl ?_
    refine sg_baload _ ok_x f_92_14 sh_x_157 rfl (by omega) ?_
    refine sg_if_ne 21 f_92_15 rfl (fun c15 => ?_) (fun c15 => ?_)
    · refine sg_aload_n f_92_21 rfl ?_
      refine sg_getf_r f_92_22 fd_x_0_710 ?_
      refine sg_aload_n f_92_25 rfl ?_
      refine sg_getf_r f_92_26 fd_x_0_712 ?_
      refine sg_iload_n f_92_29 rfl ?_
      refine sg_aaload k f_92_30 rfl (sx_el_i k hk) (by omega) ?_
      refine sg_callv_v f_92_31 my_92_29 mr_29 rfl (Nat.le_of_ble_eq_true rfl) (Nat.le_of_ble_eq_true rfl) sh_x_55 (by decide) rfl (sx_29 sx_ST_55 (sx_ST_i k hk) (by omega)) ?_
      refine sg_aload_n f_92_34 rfl ?_
      refine sg_getf_r f_92_35 fd_x_0_711 ?_
      refine sg_callv_v f_92_38 my_92_23 mr_23 rfl (Nat.le_of_ble_eq_true rfl) (Nat.le_of_ble_eq_true rfl) sh_x_66 (by decide) rfl sx_23 ?_
      rw [e1]
      refine sg_aload_n f_92_41 rfl ?_
      refine sg_getf_r f_92_42 fd_x_0_710 ?_
      refine sg_getf_r f_92_45 fd_x_55_256 ?_
      refine sg_getf_k f_92_48 fd_x_56_320 (sx_92_e hk) ?_
      exact (sg_iret f_92_51 rk_92)
    · exact absurd c15 h
  · exact absurd c4 (by decide)
theorem sx_83_bad1 {σ : sg_S} {t : Nat} {k i : Int32} (ht : t < 17) (hk : k < 0) : sg_D tx_H 83 0 [.ref 0, .int (nI t), .int k, .int i, ab_u] [] σ (some (.int (-1))) σ := by
  refine sg_iload_n f_83_0 rfl ?_
  refine sg_calls_i f_83_1 my_83_94 mr_94 (by decide) rfl (Nat.le_of_ble_eq_true rfl) (Nat.le_of_ble_eq_true rfl) rfl (sx_94_1 ht) ?_
  refine sg_if_eq 16 f_83_4 rfl (fun c4 => ?_) (fun c4 => ?_)
  · exact absurd c4 (by decide)
  · refine sg_iload_n f_83_7 rfl ?_
    refine sg_if_lt 16 f_83_8 rfl (fun c8 => ?_) (fun c8 => ?_)
    · refine sg_iconst (-1) f_83_16 ki_m1 ?_
      exact (sg_iret f_83_17 rk_83)
    · exact absurd hk c8
theorem sx_83_bad2 {σ : sg_S} {t : Nat} {k i : Int32} (ht : t < 17) (hk : ¬ k < 0) (hi : i < -1) : sg_D tx_H 83 0 [.ref 0, .int (nI t), .int k, .int i, ab_u] [] σ (some (.int (-1))) σ := by
  refine sg_iload_n f_83_0 rfl ?_
  refine sg_calls_i f_83_1 my_83_94 mr_94 (by decide) rfl (Nat.le_of_ble_eq_true rfl) (Nat.le_of_ble_eq_true rfl) rfl (sx_94_1 ht) ?_
  refine sg_if_eq 16 f_83_4 rfl (fun c4 => ?_) (fun c4 => ?_)
  · exact absurd c4 (by decide)
  · refine sg_iload_n f_83_7 rfl ?_
    refine sg_if_lt 16 f_83_8 rfl (fun c8 => ?_) (fun c8 => ?_)
    · exact absurd c8 hk
    · refine sg_iload_n f_83_11 rfl ?_
      refine sg_iconst (-1) f_83_12 ki_m1 ?_
      refine sg_icmp_ge 18 f_83_13 rfl (fun c13 => ?_) (fun c13 => ?_)
      · exact absurd hi (Int32.not_lt.mpr c13)
      · refine sg_iconst (-1) f_83_16 ki_m1 ?_
        exact (sg_iret f_83_17 rk_83)
theorem sx_83_none {σ : sg_S} {t : Nat} {k i : Int32} (hT : tx_Tab σ) (ht : t < 17) (hk : ¬ k < 0) (hi : ¬ i < -1) (h : nI (t_mn t) ≤ k) : sg_D tx_H 83 0 [.ref 0, .int (nI t), .int k, .int i, ab_u] [] σ (some (.int (-9))) σ := by
  refine sg_iload_n f_83_0 rfl ?_
  refine sg_calls_i f_83_1 my_83_94 mr_94 (by decide) rfl (Nat.le_of_ble_eq_true rfl) (Nat.le_of_ble_eq_true rfl) rfl (sx_94_1 ht) ?_
  refine sg_if_eq 16 f_83_4 rfl (fun c4 => ?_) (fun c4 => ?_)
  · exact absurd c4 (by decide)
  · refine sg_iload_n f_83_7 rfl ?_
    refine sg_if_lt 16 f_83_8 rfl (fun c8 => ?_) (fun c8 => ?_)
    · exact absurd c8 hk
    · refine sg_iload_n f_83_11 rfl ?_
      refine sg_iconst (-1) f_83_12 ki_m1 ?_
      refine sg_icmp_ge 18 f_83_13 rfl (fun c13 => ?_) (fun c13 => ?_)
      · refine sg_iload_n f_83_18 rfl ?_
        refine sg_aload_n f_83_19 rfl ?_
        refine sg_getf_r f_83_20 fd_x_0_705 ?_
        refine sg_getf_r f_83_23 fd_x_29_1 ?_
        refine sg_iload_n f_83_26 rfl ?_
        refine sg_iaload_k t ok_x f_83_27 sh_x_31 rfl (by omega) (hT.1 t ht).2.2.2.2.2.2.2.2 ?_
        refine sg_icmp_lt 34 f_83_28 rfl (fun c28 => ?_) (fun c28 => ?_)
        · exact absurd c28 (Int32.not_lt.mpr h)
        · refine sg_bipush (-9) f_83_31 kb_m9 ?_
          exact (sg_iret f_83_33 rk_83)
      · exact absurd (Int32.not_lt.mp hi) c13
theorem sx_83_left {σ : sg_S} {t k : Nat} (hT : tx_Tab σ) (ht : t < 17) (hk : k < t_mn t) : sg_D tx_H 83 0 [.ref 0, .int (nI t), .int (nI k), .int (-1), ab_u] [] σ (some (.int (nI (t_lf (t_st t + k))))) σ := by
  have hb := tb_st1 t ht
  refine sg_iload_n f_83_0 rfl ?_
  refine sg_calls_i f_83_1 my_83_94 mr_94 (by decide) rfl (Nat.le_of_ble_eq_true rfl) (Nat.le_of_ble_eq_true rfl) rfl (sx_94_1 ht) ?_
  refine sg_if_eq 16 f_83_4 rfl (fun c4 => ?_) (fun c4 => ?_)
  · exact absurd c4 (by decide)
  · refine sg_iload_n f_83_7 rfl ?_
    refine sg_if_lt 16 f_83_8 rfl (fun c8 => ?_) (fun c8 => ?_)
    · exact absurd c8 (sg_nneg (by omega))
    · refine sg_iload_n f_83_11 rfl ?_
      refine sg_iconst (-1) f_83_12 ki_m1 ?_
      refine sg_icmp_ge 18 f_83_13 rfl (fun c13 => ?_) (fun c13 => ?_)
      · refine sg_iload_n f_83_18 rfl ?_
        refine sg_aload_n f_83_19 rfl ?_
        refine sg_getf_r f_83_20 fd_x_0_705 ?_
        refine sg_getf_r f_83_23 fd_x_29_1 ?_
        refine sg_iload_n f_83_26 rfl ?_
        refine sg_iaload_k t ok_x f_83_27 sh_x_31 rfl (by omega) (hT.1 t ht).2.2.2.2.2.2.2.2 ?_
        refine sg_ncmp_lt 34 (by omega) (by omega) f_83_28 rfl (fun c28 => ?_) (fun c28 => ?_)
        · refine sg_aload_n f_83_34 rfl ?_
          refine sg_getf_r f_83_35 fd_x_0_705 ?_
          refine sg_getf_r f_83_38 fd_x_29_0 ?_
          refine sg_iload_n f_83_41 rfl ?_
          refine sg_iaload_k t ok_x f_83_42 sh_x_30 rfl (by omega) (hT.1 t ht).2.2.2.2.2.2.2.1 ?_
          refine sg_iload_n f_83_43 rfl ?_
          refine sg_iadd (nI (t_st t + k)) f_83_44 (nI_add _ _) ?_
          refine sg_istore [_, _, _, _, _] f_83_45 rfl ?_
          refine sg_iload_n f_83_47 rfl ?_
          refine sg_iconst (-1) f_83_48 ki_m1 ?_
          refine sg_icmp_ne 65 f_83_49 rfl (fun c49 => ?_) (fun c49 => ?_)
          · exact absurd rfl c49
          · refine sg_aload_n f_83_52 rfl ?_
            refine sg_getf_r f_83_53 fd_x_0_705 ?_
            refine sg_getf_r f_83_56 fd_x_29_2 ?_
            refine sg_iload f_83_59 rfl ?_
            refine sg_iaload_k (t_st t + k) ok_x f_83_61 sh_x_32 rfl (by omega) (hT.2.2.1 (t_st t + k) (by omega)).1 ?_
            refine sg_goto 75 f_83_62 rfl ?_
            exact (sg_iret f_83_75 rk_83)
        · omega
      · exact absurd (by decide) c13
theorem sx_83_i {σ : sg_S} {t k : Nat} {i v : Int32} (hT : tx_Tab σ) (ht : t < 17) (hk : k < t_mn t) (hi : ¬ i < 0) (h5 : sg_D tx_H 5 0 [.ref 29, .int (nI (t_st t + k)), .int i] [] σ (some (.int v)) σ) : sg_D tx_H 83 0 [.ref 0, .int (nI t), .int (nI k), .int i, ab_u] [] σ (some (.int v)) σ := by
  have hb := tb_st1 t ht
  have h0 : (0 : Int32) ≤ i := Int32.not_lt.mp hi
  refine sg_iload_n f_83_0 rfl ?_
  refine sg_calls_i f_83_1 my_83_94 mr_94 (by decide) rfl (Nat.le_of_ble_eq_true rfl) (Nat.le_of_ble_eq_true rfl) rfl (sx_94_1 ht) ?_
  refine sg_if_eq 16 f_83_4 rfl (fun c4 => ?_) (fun c4 => ?_)
  · exact absurd c4 (by decide)
  · refine sg_iload_n f_83_7 rfl ?_
    refine sg_if_lt 16 f_83_8 rfl (fun c8 => ?_) (fun c8 => ?_)
    · exact absurd c8 (sg_nneg (by omega))
    · refine sg_iload_n f_83_11 rfl ?_
      refine sg_iconst (-1) f_83_12 ki_m1 ?_
      refine sg_icmp_ge 18 f_83_13 rfl (fun c13 => ?_) (fun c13 => ?_)
      · refine sg_iload_n f_83_18 rfl ?_
        refine sg_aload_n f_83_19 rfl ?_
        refine sg_getf_r f_83_20 fd_x_0_705 ?_
        refine sg_getf_r f_83_23 fd_x_29_1 ?_
        refine sg_iload_n f_83_26 rfl ?_
        refine sg_iaload_k t ok_x f_83_27 sh_x_31 rfl (by omega) (hT.1 t ht).2.2.2.2.2.2.2.2 ?_
        refine sg_ncmp_lt 34 (by omega) (by omega) f_83_28 rfl (fun c28 => ?_) (fun c28 => ?_)
        · refine sg_aload_n f_83_34 rfl ?_
          refine sg_getf_r f_83_35 fd_x_0_705 ?_
          refine sg_getf_r f_83_38 fd_x_29_0 ?_
          refine sg_iload_n f_83_41 rfl ?_
          refine sg_iaload_k t ok_x f_83_42 sh_x_30 rfl (by omega) (hT.1 t ht).2.2.2.2.2.2.2.1 ?_
          refine sg_iload_n f_83_43 rfl ?_
          refine sg_iadd (nI (t_st t + k)) f_83_44 (nI_add _ _) ?_
          refine sg_istore [_, _, _, _, _] f_83_45 rfl ?_
          refine sg_iload_n f_83_47 rfl ?_
          refine sg_iconst (-1) f_83_48 ki_m1 ?_
          refine sg_icmp_ne 65 f_83_49 rfl (fun c49 => ?_) (fun c49 => ?_)
          · refine sg_aload_n f_83_65 rfl ?_
            refine sg_getf_r f_83_66 fd_x_0_705 ?_
            refine sg_iload f_83_69 rfl ?_
            refine sg_iload_n f_83_71 rfl ?_
            refine sg_callv_i f_83_72 my_83_5 mr_5 rfl (Nat.le_of_ble_eq_true rfl) (Nat.le_of_ble_eq_true rfl) sh_x_29 (by decide) rfl h5 ?_
            exact (sg_iret f_83_75 rk_83)
          · exact absurd (c49 ▸ h0) (by decide)
        · omega
      · exact absurd (Int32.le_trans (by decide) h0) c13
/-! the class: which -/
def t_wh (F : Nat → Int32) : Nat → Nat → Int32 → Int32
  | 0, _, acc => acc
  | n + 1, r, acc => t_wh F n (r + 1) (if F r = 0 then acc else acc ||| (nI 1 <<< (nI r &&& 31)))
theorem sx_90_l {σ : sg_S} {z : Nat} (hz : σ.1 158 2 = nI z) (hz6 : z ≤ 6) (ht : ∀ i, i < z → ∃ k, k < 17 ∧ σ.1 159 i = nI k) : ∀ n r acc, r + n = 6 → sg_D tx_H 90 4 [.ref 0, .int acc, .int (nI r)] [] σ (some (.int (t_wh (fun r => sx_fit (σ.1 159) (σ.2 160) (σ.2 (60 + r)) z 0) n r acc))) σ := by
  intro n
  induction n with
  | zero =>
    intro r acc hr
    rw [t_wh]
    refine sg_iload_n f_90_4 rfl ?_
    refine sg_bipush (nI 6) f_90_5 kb_6 ?_
    first | refine sg_ncmp_ge 41 (by omega) (by omega) f_90_7 rfl (fun c7 => ?_) (fun c7 => ?_) | refine sg_icmp_ge 41 f_90_7 rfl (fun c7 => ?_) (fun c7 => ?_)
    · refine sg_iload_n f_90_41 rfl ?_
      exact (sg_iret f_90_42 rk_90)
    · omega
  | succ n ih =>
    intro r acc hr
    have hr6 : r < 6 := by omega
    rw [t_wh]
    refine sg_iload_n f_90_4 rfl ?_
    refine sg_bipush (nI 6) f_90_5 kb_6 ?_
    first | refine sg_ncmp_ge 41 (by omega) (by omega) f_90_7 rfl (fun c7 => ?_) (fun c7 => ?_) | refine sg_icmp_ge 41 f_90_7 rfl (fun c7 => ?_) (fun c7 => ?_)
    · omega
    · refine sg_aload_n f_90_10 rfl ?_
      refine sg_getf_r f_90_11 fd_x_0_714 ?_
      refine sg_aload_n f_90_14 rfl ?_
      refine sg_getf_r f_90_15 fd_x_0_710 ?_
      refine sg_getf_r f_90_18 fd_x_55_257 ?_
      refine sg_iload_n f_90_21 rfl ?_
      refine sg_aaload r f_90_22 rfl (sx_rs r hr6).1 (by omega) ?_
      refine sg_callv_i f_90_23 my_90_27 mr_27 rfl (Nat.le_of_ble_eq_true rfl) (Nat.le_of_ble_eq_true rfl) sh_x_158 (by decide) rfl (sx_27 (sx_rs r hr6).2 hz hz6 ht) ?_
      refine sg_if_eq 35 f_90_26 rfl (fun c26 => ?_) (fun c26 => ?_)
      · rw [if_pos c26]
        first | refine sg_iinc _ [_, _, _] f_90_35 rfl (sg_inc1 _) rfl ?_ | refine sg_iinc _ [_, _, _] f_90_35 rfl rfl rfl ?_
        refine sg_goto 4 f_90_38 rfl ?_
        exact ih (r + 1) _ (by omega)
      · rw [if_neg c26]
        refine sg_iload_n f_90_29 rfl ?_
        refine sg_iconst (nI 1) f_90_30 ki_1 ?_
        refine sg_iload_n f_90_31 rfl ?_
        refine sg_ishl _ f_90_32 rfl ?_
        refine sg_ior _ f_90_33 rfl ?_
        refine sg_istore_n [_, _, _] f_90_34 rfl ?_
        first | refine sg_iinc _ [_, _, _] f_90_35 rfl (sg_inc1 _) rfl ?_ | refine sg_iinc _ [_, _, _] f_90_35 rfl rfl rfl ?_
        refine sg_goto 4 f_90_38 rfl ?_
        exact ih (r + 1) _ (by omega)
theorem sx_90 {σ : sg_S} {z : Nat} (hz : σ.1 158 2 = nI z) (hz6 : z ≤ 6) (ht : ∀ i, i < z → ∃ k, k < 17 ∧ σ.1 159 i = nI k) : sg_D tx_H 90 0 [.ref 0, ab_u, ab_u] [] σ (some (.int (t_wh (fun r => sx_fit (σ.1 159) (σ.2 160) (σ.2 (60 + r)) z 0) 6 0 (nI 0)))) σ := by
  refine sg_iconst (nI 0) f_90_0 ki_0 ?_
  refine sg_istore_n [_, _, _] f_90_1 rfl ?_
  refine sg_iconst (nI 0) f_90_2 ki_0 ?_
  refine sg_istore_n [_, _, _] f_90_3 rfl ?_
  exact sx_90_l hz hz6 ht 6 0 _ (by omega)
