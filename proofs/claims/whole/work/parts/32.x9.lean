/-! the class: storeMade -/
theorem tx_Tab_of {σ σ' : sg_S} (h : tx_Tab σ) (h1 : ∀ a, a < 35 → σ'.1 a = σ.1 a) (h2 : σ'.2 8 = σ.2 8) : tx_Tab σ' := by
  obtain ⟨a1, a2, a3, a4⟩ := h
  refine ⟨fun t ht => ?_, fun u hu v hv => ?_, fun k hk => ?_, fun k hk => ?_⟩
  · rw [h1 2 (by omega), h1 3 (by omega), h1 4 (by omega), h1 5 (by omega), h1 6 (by omega), h1 7 (by omega), h2, h1 30 (by omega), h1 31 (by omega)]
    exact a1 t ht
  · rw [h1 (10 + u) (by omega)]; exact a2 u hu v hv
  · rw [h1 32 (by omega), h1 33 (by omega)]; exact a3 k hk
  · rw [h1 34 (by omega)]; exact a4 k hk
theorem sx_cpS_2 {σ : sg_S} {d e k : Nat} (h : k < d + 5 ∨ d + 11 ≤ k) : (sx_cpS σ d e).2 k = σ.2 k := by
  show (if d + 5 ≤ k ∧ k < d + 11 then σ.2 (e + (k - d)) else σ.2 k) = _
  rw [if_neg (by omega)]
theorem sx_rem_1 {σ : sg_S} {p z k : Nat} (h : k < 69 + 11 * p ∨ 71 + 11 * p < k) (h2 : k ≠ 66) : (sx_rem σ p z).1 k = σ.1 k := by
  unfold sx_rem
  rw [sg_r1_ne h2]
  exact sx_cpS_1 (by omega)
theorem sx_rem_2 {σ : sg_S} {p z k : Nat} (h : k < 73 + 11 * p ∨ 79 + 11 * p ≤ k) : (sx_rem σ p z).2 k = σ.2 k := by
  unfold sx_rem
  rw [sg_r1_2]
  exact sx_cpS_2 (by omega)
/-- what storeMade leaves -/
def sx_sto (σ : sg_S) (p z r : Nat) : sg_S := sg_r2 (sx_rem σ p z) (60 + r) (σ.2 161)
theorem sx_97 {σ : sg_S} {p z r : Nat} (hT : tx_Tab σ) (hp : σ.1 66 1 = nI p) (hp6 : p < 6) (hz : σ.1 66 2 = nI z) (hz6 : z ≤ 6) (hr : r < 6) : sg_D tx_H 97 0 [.ref 0, .int (nI r)] [] σ (some (.int (nI (sx_lk (σ.2 161) (σ.2 8) 17 0)))) (sx_sto σ p z r) := by
  have e1 : (sx_rem σ p z).2 161 = σ.2 161 := sx_rem_2 (by omega)
  have e2 : (sx_rem σ p z).2 8 = σ.2 8 := sx_rem_2 (by omega)
  have hS : sg_sh tx_H (60 + r) = some (21, 17) := (sx_ST_55.2.2.2.2 r hr).2
  have hT' : tx_Tab (sx_sto σ p z r) := tx_Tab_of hT (fun a ha => by unfold sx_sto; rw [sg_r2_1, sx_rem_1 (by omega) (by omega)]) (by unfold sx_sto; rw [sg_r2_ne (by omega), e2])
  have h59 := sx_59 (a := 161) (b := 8) hT' (by decide +kernel) (by decide +kernel)
  have e3 : (sx_sto σ p z r).2 161 = σ.2 161 := by unfold sx_sto; rw [sg_r2_ne (by omega), e1]
  have e4 : (sx_sto σ p z r).2 8 = σ.2 8 := by unfold sx_sto; rw [sg_r2_ne (by omega), e2]
  rw [e3, e4] at h59
  refine sg_aload_n f_97_0 rfl ?_
  refine sg_getf_r f_97_1 fd_x_0_711 ?_
  refine sg_aload_n f_97_4 rfl ?_
  refine sg_getf_r f_97_5 fd_x_0_710 ?_
  refine sg_callv_v f_97_8 my_97_21 mr_21 rfl (Nat.le_of_ble_eq_true rfl) (Nat.le_of_ble_eq_true rfl) sh_x_66 (by decide) rfl (sx_21 hp hp6 hz hz6) ?_
  refine sg_aload_n f_97_11 rfl ?_
  refine sg_getf_r f_97_12 fd_x_0_715 ?_
  refine sg_iconst (nI 0) f_97_15 ki_0 ?_
  refine sg_aload_n f_97_16 rfl ?_
  refine sg_getf_r f_97_17 fd_x_0_710 ?_
  refine sg_getf_r f_97_20 fd_x_55_257 ?_
  refine sg_iload_n f_97_23 rfl ?_
  refine sg_aaload r f_97_24 rfl (sx_ST_55.2.2.2.2 r hr).1 (by omega) ?_
  refine sg_iconst (nI 0) f_97_25 ki_0 ?_
  refine sg_bipush (nI 17) f_97_26 kb_17 ?_
  refine sg_copy2 ok_x f_97_28 sh_x_161 hS (Nat.le_of_ble_eq_true rfl) ra_97 ?_
  rw [e1]
  refine sg_aload_n f_97_31 rfl ?_
  refine sg_getf_r f_97_32 fd_x_0_704 ?_
  refine sg_aload_n f_97_35 rfl ?_
  refine sg_getf_r f_97_36 fd_x_0_715 ?_
  refine sg_aload_n f_97_39 rfl ?_
  refine sg_getf_r f_97_40 fd_x_0_704 ?_
  refine sg_getf_r f_97_43 fd_x_1_582 ?_
  refine sg_callv_i f_97_46 my_97_59 mr_59 rfl (Nat.le_of_ble_eq_true rfl) (Nat.le_of_ble_eq_true rfl) sh_x_1 (by decide) rfl h59 ?_
  exact (sg_iret f_97_49 rk_97)
/-! the class: its calls -/
def sx_P (σ : sg_S) (p z : Nat) : Prop := σ.1 66 1 = nI p ∧ p < 6 ∧ σ.1 66 2 = nI z ∧ z ≤ 6
theorem sx_rs : ∀ r, r < 6 → sg_el tx_H 59 r = some (.ref (60 + r)) ∧ sg_sh tx_H (60 + r) = some (21, 17) := sx_ST_55.2.2.2.2
theorem sx_mS : sg_sh tx_H 161 = some (21, 17) := by decide +kernel
theorem sx_fS : sg_sh tx_H 8 = some (21, 17) := by decide +kernel
theorem sx_97m {σ : sg_S} {p z r : Nat} {g : Nat → Int64} (hT : tx_Tab σ) (hP : sx_P σ p z) (hr : r < 6) : sg_D tx_H 97 0 [.ref 0, .int (nI r)] [] (sg_r2 σ 161 g) (some (.int (nI (sx_lk g (σ.2 8) 17 0)))) (sx_sto (sg_r2 σ 161 g) p z r) := by
  refine sg_to (sx_97 (tx_Tab_r2 hT (by decide)) hP.1 hP.2.1 hP.2.2.1 hP.2.2.2 hr) ?_ rfl
  rw [sg_r2_eq, sg_r2_ne (by decide)]
theorem sx_67 {σ : sg_S} : sg_D tx_H 67 0 [.ref 0] [] σ (some (.int (σ.1 46 1))) (sg_r1 σ 46 (upd (σ.1 46) 1 (nI 0))) := by
  refine sg_aload_n f_67_0 rfl ?_
  refine sg_getf_r f_67_1 fd_x_0_707 ?_
  refine sg_callv_i f_67_4 my_67_38 mr_38 rfl (Nat.le_of_ble_eq_true rfl) (Nat.le_of_ble_eq_true rfl) sh_x_46 (by decide) rfl sx_38 ?_
  exact (sg_iret f_67_7 rk_67)
theorem sx_66_bad {σ : sg_S} {c : Int32} (h : sg_out c 256) : sg_D tx_H 66 0 [.ref 0, .int c] [] σ (some (.int (-1))) σ := by
  refine sg_iload_n f_66_0 rfl ?_
  refine sg_if_lt 11 f_66_1 rfl (fun c1 => ?_) (fun c1 => ?_)
  · refine sg_iconst (-1) f_66_11 ki_m1 ?_
    exact (sg_iret f_66_12 rk_66)
  · refine sg_iload_n f_66_4 rfl ?_
    refine sg_sipush (nI 255) f_66_5 ks_255 ?_
    refine sg_icmp_le 13 f_66_8 rfl (fun c8 => ?_) (fun c8 => ?_)
    · exact absurd h (fun z => z.elim c1 (fun z => absurd (Int32.le_trans z c8) (by decide)))
    · refine sg_iconst (-1) f_66_11 ki_m1 ?_
      exact (sg_iret f_66_12 rk_66)
theorem sx_66_full {σ : sg_S} {c : Nat} (hc : c < 256) (hn : σ.1 46 1 = nI 160) : sg_D tx_H 66 0 [.ref 0, .int (nI c)] [] σ (some (.int (-3))) σ := by
  refine sg_iload_n f_66_0 rfl ?_
  refine sg_if_lt 11 f_66_1 rfl (fun c1 => ?_) (fun c1 => ?_)
  · exact absurd c1 (sg_nneg (by omega))
  · refine sg_iload_n f_66_4 rfl ?_
    refine sg_sipush (nI 255) f_66_5 ks_255 ?_
    first | refine sg_ncmp_le 13 (by omega) (by omega) f_66_8 rfl (fun c8 => ?_) (fun c8 => ?_) | refine sg_icmp_le 13 f_66_8 rfl (fun c8 => ?_) (fun c8 => ?_)
    · refine sg_aload_n f_66_13 rfl ?_
      refine sg_getf_r f_66_14 fd_x_0_707 ?_
      refine sg_iload_n f_66_17 rfl ?_
      refine sg_callv_i f_66_18 my_66_37 mr_37 rfl (Nat.le_of_ble_eq_true rfl) (Nat.le_of_ble_eq_true rfl) sh_x_46 (by decide) rfl (sx_37_full hn) ?_
      refine sg_if_eq 34 f_66_21 rfl (fun c21 => ?_) (fun c21 => ?_)
      · refine sg_bipush (-3) f_66_34 kb_m3 ?_
        exact (sg_iret f_66_36 rk_66)
      · exact absurd rfl c21
    · omega
theorem sx_66 {σ : sg_S} {c n : Nat} (hc : c < 256) (hn : σ.1 46 1 = nI n) (hn2 : n < 160) : sg_D tx_H 66 0 [.ref 0, .int (nI c)] [] σ (some (.int (nI (n + 1)))) (sg_r1 (sg_r1 σ 47 (upd (σ.1 47) n (nI c))) 46 (upd (σ.1 46) 1 (nI (n + 1)))) := by
  have e : (sg_r1 (sg_r1 σ 47 (upd (σ.1 47) n (nI c))) 46 (upd (σ.1 46) 1 (nI (n + 1)))).1 46 1 = nI (n + 1) := by rw [sg_r1_eq]; simp [upd]
  refine sg_iload_n f_66_0 rfl ?_
  refine sg_if_lt 11 f_66_1 rfl (fun c1 => ?_) (fun c1 => ?_)
  · exact absurd c1 (sg_nneg (by omega))
  · refine sg_iload_n f_66_4 rfl ?_
    refine sg_sipush (nI 255) f_66_5 ks_255 ?_
    first | refine sg_ncmp_le 13 (by omega) (by omega) f_66_8 rfl (fun c8 => ?_) (fun c8 => ?_) | refine sg_icmp_le 13 f_66_8 rfl (fun c8 => ?_) (fun c8 => ?_)
    · refine sg_aload_n f_66_13 rfl ?_
      refine sg_getf_r f_66_14 fd_x_0_707 ?_
      refine sg_iload_n f_66_17 rfl ?_
      refine sg_callv_i f_66_18 my_66_37 mr_37 rfl (Nat.le_of_ble_eq_true rfl) (Nat.le_of_ble_eq_true rfl) sh_x_46 (by decide) rfl (sx_37 hn hn2) ?_
      refine sg_if_eq 34 f_66_21 rfl (fun c21 => ?_) (fun c21 => ?_)
      · exact absurd c21 (by decide)
      · refine sg_aload_n f_66_24 rfl ?_
        refine sg_getf_r f_66_25 fd_x_0_707 ?_
        refine sg_getf_k f_66_28 fd_x_46_385 e ?_
        refine sg_goto 36 f_66_31 rfl ?_
        exact (sg_iret f_66_36 rk_66)
    · omega
theorem sx_71_bad {σ : sg_S} {r : Int32} (h : sg_out r 6) : sg_D tx_H 71 0 [.ref 0, .int r] [] σ (some (.int (-1))) σ := by
  refine sg_iload_n f_71_0 rfl ?_
  refine sg_calls_i f_71_1 my_71_95 mr_95 (by decide) rfl (Nat.le_of_ble_eq_true rfl) (Nat.le_of_ble_eq_true rfl) rfl (sx_95_0 h) ?_
  refine sg_if_ne 9 f_71_4 rfl (fun c4 => ?_) (fun c4 => ?_)
  · exact absurd rfl c4
  · refine sg_iconst (-1) f_71_7 ki_m1 ?_
    exact (sg_iret f_71_8 rk_71)
theorem sx_72_bad {σ : sg_S} {r : Int32} (h : sg_out r 6) : sg_D tx_H 72 0 [.ref 0, .int r] [] σ (some (.int (-1))) σ := by
  refine sg_iload_n f_72_0 rfl ?_
  refine sg_calls_i f_72_1 my_72_95 mr_95 (by decide) rfl (Nat.le_of_ble_eq_true rfl) (Nat.le_of_ble_eq_true rfl) rfl (sx_95_0 h) ?_
  refine sg_if_ne 9 f_72_4 rfl (fun c4 => ?_) (fun c4 => ?_)
  · exact absurd rfl c4
  · refine sg_iconst (-1) f_72_7 ki_m1 ?_
    exact (sg_iret f_72_8 rk_72)
theorem sx_72_st {σ : sg_S} {r : Nat} (hr : r < 6) (h : sx_fu (σ.2 (60 + r)) (σ.2 8) 17 0 = -9) : sg_D tx_H 72 0 [.ref 0, .int (nI r)] [] σ (some (.int (-2))) σ := by
  refine sg_iload_n f_72_0 rfl ?_
  refine sg_calls_i f_72_1 my_72_95 mr_95 (by decide) rfl (Nat.le_of_ble_eq_true rfl) (Nat.le_of_ble_eq_true rfl) rfl (sx_95_1 hr) ?_
  refine sg_if_ne 9 f_72_4 rfl (fun c4 => ?_) (fun c4 => ?_)
  · refine sg_aload_n f_72_9 rfl ?_
    refine sg_getf_r f_72_10 fd_x_0_704 ?_
    refine sg_aload_n f_72_13 rfl ?_
    refine sg_getf_r f_72_14 fd_x_0_710 ?_
    refine sg_getf_r f_72_17 fd_x_55_257 ?_
    refine sg_iload_n f_72_20 rfl ?_
    refine sg_aaload r f_72_21 rfl (sx_rs r hr).1 (by omega) ?_
    refine sg_aload_n f_72_22 rfl ?_
    refine sg_getf_r f_72_23 fd_x_0_704 ?_
    refine sg_getf_r f_72_26 fd_x_1_582 ?_
    refine sg_callv_i f_72_29 my_72_58 mr_58 rfl (Nat.le_of_ble_eq_true rfl) (Nat.le_of_ble_eq_true rfl) sh_x_1 (by decide) rfl (sx_58 (sx_rs r hr).2 sx_fS) ?_
    refine sg_bipush (-9) f_72_32 kb_m9 ?_
    refine sg_icmp_ne 40 f_72_34 rfl (fun c34 => ?_) (fun c34 => ?_)
    · exact absurd h c34
    · refine sg_bipush (-2) f_72_37 kb_m2 ?_
      exact (sg_iret f_72_39 rk_72)
  · exact absurd c4 (by decide)
theorem sx_72 {σ : sg_S} {p z r : Nat} (hT : tx_Tab σ) (hP : sx_P σ p z) (hr : r < 6) (h : sx_fu (σ.2 (60 + r)) (σ.2 8) 17 0 ≠ -9) : sg_D tx_H 72 0 [.ref 0, .int (nI r)] [] σ (some (.int (nI 1))) (sx_sto (sg_r2 σ 161 (σ.2 8)) p z r) := by
  refine sg_iload_n f_72_0 rfl ?_
  refine sg_calls_i f_72_1 my_72_95 mr_95 (by decide) rfl (Nat.le_of_ble_eq_true rfl) (Nat.le_of_ble_eq_true rfl) rfl (sx_95_1 hr) ?_
  refine sg_if_ne 9 f_72_4 rfl (fun c4 => ?_) (fun c4 => ?_)
  · refine sg_aload_n f_72_9 rfl ?_
    refine sg_getf_r f_72_10 fd_x_0_704 ?_
    refine sg_aload_n f_72_13 rfl ?_
    refine sg_getf_r f_72_14 fd_x_0_710 ?_
    refine sg_getf_r f_72_17 fd_x_55_257 ?_
    refine sg_iload_n f_72_20 rfl ?_
    refine sg_aaload r f_72_21 rfl (sx_rs r hr).1 (by omega) ?_
    refine sg_aload_n f_72_22 rfl ?_
    refine sg_getf_r f_72_23 fd_x_0_704 ?_
    refine sg_getf_r f_72_26 fd_x_1_582 ?_
    refine sg_callv_i f_72_29 my_72_58 mr_58 rfl (Nat.le_of_ble_eq_true rfl) (Nat.le_of_ble_eq_true rfl) sh_x_1 (by decide) rfl (sx_58 (sx_rs r hr).2 sx_fS) ?_
    refine sg_bipush (-9) f_72_32 kb_m9 ?_
    refine sg_icmp_ne 40 f_72_34 rfl (fun c34 => ?_) (fun c34 => ?_)
    · refine sg_aload_n f_72_40 rfl ?_
      refine sg_getf_r f_72_41 fd_x_0_704 ?_
      refine sg_getf_r f_72_44 fd_x_1_582 ?_
      refine sg_iconst (nI 0) f_72_47 ki_0 ?_
      refine sg_aload_n f_72_48 rfl ?_
      refine sg_getf_r f_72_49 fd_x_0_715 ?_
      refine sg_iconst (nI 0) f_72_52 ki_0 ?_
      refine sg_bipush (nI 17) f_72_53 kb_17 ?_
      refine sg_copy2 ok_x f_72_55 sh_x_8 sh_x_161 (Nat.le_of_ble_eq_true rfl) ra_72 ?_
      refine sg_aload_n f_72_58 rfl ?_
      refine sg_iload_n f_72_59 rfl ?_
      refine sg_callv_i f_72_60 my_72_97 mr_97 rfl (Nat.le_of_ble_eq_true rfl) (Nat.le_of_ble_eq_true rfl) sh_x_0 (by decide) rfl (sx_97m hT hP hr) ?_
      refine sg_pop f_72_63 ?_
      refine sg_iconst (nI 1) f_72_64 ki_1 ?_
      exact (sg_iret f_72_65 rk_72)
    · exact absurd c34 h
  · exact absurd c4 (by decide)
theorem sx_73 {σ : sg_S} {p z r a b : Nat} (hT : tx_Tab σ) (hP : sx_P σ p z) (hr : r < 6) (ha : a < 6) (hb : b < 6) : sg_D tx_H 73 0 [.ref 0, .int (nI r), .int (nI a), .int (nI b)] [] σ (some (.int (nI (sx_lk (sx_mul (σ.2 (60 + a)) (σ.2 (60 + b)) (σ.2 161) 17) (σ.2 8) 17 0)))) (sx_sto (sg_r2 σ 161 (sx_mul (σ.2 (60 + a)) (σ.2 (60 + b)) (σ.2 161) 17)) p z r) := by
  refine sg_iload_n f_73_0 rfl ?_
  refine sg_calls_i f_73_1 my_73_95 mr_95 (by decide) rfl (Nat.le_of_ble_eq_true rfl) (Nat.le_of_ble_eq_true rfl) rfl (sx_95_1 hr) ?_
  refine sg_if_eq 21 f_73_4 rfl (fun c4 => ?_) (fun c4 => ?_)
  · exact absurd c4 (by decide)
  · refine sg_iload_n f_73_7 rfl ?_
    refine sg_calls_i f_73_8 my_73_95 mr_95 (by decide) rfl (Nat.le_of_ble_eq_true rfl) (Nat.le_of_ble_eq_true rfl) rfl (sx_95_1 ha) ?_
    refine sg_if_eq 21 f_73_11 rfl (fun c11 => ?_) (fun c11 => ?_)
    · exact absurd c11 (by decide)
    · refine sg_iload_n f_73_14 rfl ?_
      refine sg_calls_i f_73_15 my_73_95 mr_95 (by decide) rfl (Nat.le_of_ble_eq_true rfl) (Nat.le_of_ble_eq_true rfl) rfl (sx_95_1 hb) ?_
      refine sg_if_ne 23 f_73_18 rfl (fun c18 => ?_) (fun c18 => ?_)
      · refine sg_aload_n f_73_23 rfl ?_
        refine sg_getf_r f_73_24 fd_x_0_705 ?_
        refine sg_aload_n f_73_27 rfl ?_
        refine sg_getf_r f_73_28 fd_x_0_710 ?_
        refine sg_getf_r f_73_31 fd_x_55_257 ?_
        refine sg_iload_n f_73_34 rfl ?_
        refine sg_aaload a f_73_35 rfl (sx_rs a ha).1 (by omega) ?_
        refine sg_aload_n f_73_36 rfl ?_
        refine sg_getf_r f_73_37 fd_x_0_710 ?_
        refine sg_getf_r f_73_40 fd_x_55_257 ?_
        refine sg_iload_n f_73_43 rfl ?_
        refine sg_aaload b f_73_44 rfl (sx_rs b hb).1 (by omega) ?_
        refine sg_aload_n f_73_45 rfl ?_
        refine sg_getf_r f_73_46 fd_x_0_715 ?_
        refine sg_callv_v f_73_49 my_73_9 mr_9 rfl (Nat.le_of_ble_eq_true rfl) (Nat.le_of_ble_eq_true rfl) sh_x_29 (by decide) rfl (sx_9 hT (sx_rs a ha).2 (sx_rs b hb).2 sx_mS (by omega) (by omega) (by decide)) ?_
        refine sg_aload_n f_73_52 rfl ?_
        refine sg_iload_n f_73_53 rfl ?_
        refine sg_callv_i f_73_54 my_73_97 mr_97 rfl (Nat.le_of_ble_eq_true rfl) (Nat.le_of_ble_eq_true rfl) sh_x_0 (by decide) rfl (sx_97m hT hP hr) ?_
        exact (sg_iret f_73_57 rk_73)
      · exact absurd c18 (by decide)
theorem sx_74 {σ : sg_S} {p z r a : Nat} (hT : tx_Tab σ) (hP : sx_P σ p z) (hr : r < 6) (ha : a < 6) : sg_D tx_H 74 0 [.ref 0, .int (nI r), .int (nI a)] [] σ (some (.int (nI (sx_lk (t_iv (σ.2 (60 + a)) (σ.2 161) 17) (σ.2 8) 17 0)))) (sx_sto (sg_r2 σ 161 (t_iv (σ.2 (60 + a)) (σ.2 161) 17)) p z r) := by
  refine sg_iload_n f_74_0 rfl ?_
  refine sg_calls_i f_74_1 my_74_95 mr_95 (by decide) rfl (Nat.le_of_ble_eq_true rfl) (Nat.le_of_ble_eq_true rfl) rfl (sx_95_1 hr) ?_
  refine sg_if_eq 14 f_74_4 rfl (fun c4 => ?_) (fun c4 => ?_)
  · exact absurd c4 (by decide)
  · refine sg_iload_n f_74_7 rfl ?_
    refine sg_calls_i f_74_8 my_74_95 mr_95 (by decide) rfl (Nat.le_of_ble_eq_true rfl) (Nat.le_of_ble_eq_true rfl) rfl (sx_95_1 ha) ?_
    refine sg_if_ne 16 f_74_11 rfl (fun c11 => ?_) (fun c11 => ?_)
    · refine sg_aload_n f_74_16 rfl ?_
      refine sg_getf_r f_74_17 fd_x_0_705 ?_
      refine sg_aload_n f_74_20 rfl ?_
      refine sg_getf_r f_74_21 fd_x_0_710 ?_
      refine sg_getf_r f_74_24 fd_x_55_257 ?_
      refine sg_iload_n f_74_27 rfl ?_
      refine sg_aaload a f_74_28 rfl (sx_rs a ha).1 (by omega) ?_
      refine sg_aload_n f_74_29 rfl ?_
      refine sg_getf_r f_74_30 fd_x_0_715 ?_
      refine sg_callv_v f_74_33 my_74_10 mr_10 rfl (Nat.le_of_ble_eq_true rfl) (Nat.le_of_ble_eq_true rfl) sh_x_29 (by decide) rfl (sx_10 hT (sx_rs a ha).2 sx_mS (by omega) (by decide)) ?_
      refine sg_aload_n f_74_36 rfl ?_
      refine sg_iload_n f_74_37 rfl ?_
      refine sg_callv_i f_74_38 my_74_97 mr_97 rfl (Nat.le_of_ble_eq_true rfl) (Nat.le_of_ble_eq_true rfl) sh_x_0 (by decide) rfl (sx_97m hT hP hr) ?_
      exact (sg_iret f_74_41 rk_74)
    · exact absurd c11 (by decide)
