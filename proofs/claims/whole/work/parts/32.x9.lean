/-! the class: storeMade -/
theorem tx_Tab_of {σ σ' : sg_S} (h : tx_Tab σ) (h1 : ∀ a, a < 35 → σ'.1 a = σ.1 a) (h2 : σ'.2 8 = σ.2 8) : tx_Tab σ' := by
  obtain ⟨a1, a2, a3, a4⟩ := h
  refine ⟨fun t ht => ?_, fun u hu v hv => ?_, fun k hk => ?_, fun k hk => ?_⟩
  · rw [h1 2 (by omega), h1 3 (by omega), h1 4 (by omega), h1 5 (by omega), h1 6 (by omega), h1 7 (by omega), h2, h1 30 (by omega), h1 31 (by omega)]
    exact a1 t ht
  · rw [h1 (10 + u) (by omega)]; exact a2 u hu v hv
  · rw [h1 32 (by omega), h1 33 (by omega)]; exact a3 k hk
  · rw [h1 34 (by omega)]; exact a4 k hk
theorem sx_cpS_2 {σ : sg_S} {d e k : Nat} (h : k < d + 5 ∨ d + 11 ≤ k) : (sx_cpS σ d e).2 k = σ.2 k := by
  show (if d + 5 ≤ k ∧ k < d + 11 then σ.2 (e + (k - d)) else σ.2 k) = _
  rw [if_neg (by omega)]
theorem sx_rem_1 {σ : sg_S} {p z k : Nat} (h : k < 69 + 11 * p ∨ 71 + 11 * p < k) (h2 : k ≠ 66) : (sx_rem σ p z).1 k = σ.1 k := by
  unfold sx_rem
  rw [sg_r1_ne h2]
  exact sx_cpS_1 (by omega)
theorem sx_rem_2 {σ : sg_S} {p z k : Nat} (h : k < 73 + 11 * p ∨ 79 + 11 * p ≤ k) : (sx_rem σ p z).2 k = σ.2 k := by
  unfold sx_rem
  rw [sg_r1_2]
  exact sx_cpS_2 (by omega)
/-- what storeMade leaves -/
def sx_sto (σ : sg_S) (p z r : Nat) : sg_S := sg_r2 (sx_rem σ p z) (60 + r) (σ.2 161)
theorem sx_97 {σ : sg_S} {p z r : Nat} (hT : tx_Tab σ) (hp : σ.1 66 1 = nI p) (hp6 : p < 6) (hz : σ.1 66 2 = nI z) (hz6 : z ≤ 6) (hr : r < 6) : sg_D tx_H 97 0 [.ref 0, .int (nI r)] [] σ (some (.int (nI (sx_lk (σ.2 161) (σ.2 8) 17 0)))) (sx_sto σ p z r) := by
  have e1 : (sx_rem σ p z).2 161 = σ.2 161 := sx_rem_2 (by omega)
  have e2 : (sx_rem σ p z).2 8 = σ.2 8 := sx_rem_2 (by omega)
  have hS : sg_sh tx_H (60 + r) = some (21, 17) := (sx_ST_55.2.2.2.2 r hr).2
  have hT' : tx_Tab (sx_sto σ p z r) := tx_Tab_of hT (fun a ha => by unfold sx_sto; rw [sg_r2_1, sx_rem_1 (by omega) (by omega)]) (by unfold sx_sto; rw [sg_r2_ne (by omega), e2])
  have h59 := sx_59 (a := 161) (b := 8) hT' (by decide +kernel) (by decide +kernel)
  have e3 : (sx_sto σ p z r).2 161 = σ.2 161 := by unfold sx_sto; rw [sg_r2_ne (by omega), e1]
  have e4 : (sx_sto σ p z r).2 8 = σ.2 8 := by unfold sx_sto; rw [sg_r2_ne (by omega), e2]
  rw [e3, e4] at h59
  refine sg_aload_n f_97_0 rfl ?_
  refine sg_getf_r f_97_1 fd_x_0_711 ?_
  refine sg_aload_n f_97_4 rfl ?_
  refine sg_getf_r f_97_5 fd_x_0_710 ?_
  refine sg_callv_v f_97_8 my_97_21 mr_21 rfl (Nat.le_of_ble_eq_true rfl) (Nat.le_of_ble_eq_true rfl) sh_x_66 (by decide) rfl (sx_21 hp hp6 hz hz6) ?_
  refine sg_aload_n f_97_11 rfl ?_
  refine sg_getf_r f_97_12 fd_x_0_715 ?_
  refine sg_iconst (nI 0) f_97_15 ki_0 ?_
  refine sg_aload_n f_97_16 rfl ?_
  refine sg_getf_r f_97_17 fd_x_0_710 ?_
  refine sg_getf_r f_97_20 fd_x_55_257 ?_
  refine sg_iload_n f_97_23 rfl ?_
  refine sg_aaload r f_97_24 rfl (sx_ST_55.2.2.2.2 r hr).1 (by omega) ?_
  refine sg_iconst (nI 0) f_97_25 ki_0 ?_
  refine sg_bipush (nI 17) f_97_26 kb_17 ?_
  refine sg_copy2 ok_x f_97_28 sh_x_161 hS (Nat.le_of_ble_eq_true rfl) ra_97 ?_
  rw [e1]
  refine sg_aload_n f_97_31 rfl ?_
  refine sg_getf_r f_97_32 fd_x_0_704 ?_
  refine sg_aload_n f_97_35 rfl ?_
  refine sg_getf_r f_97_36 fd_x_0_715 ?_
  refine sg_aload_n f_97_39 rfl ?_
  refine sg_getf_r f_97_40 fd_x_0_704 ?_
  refine sg_getf_r f_97_43 fd_x_1_582 ?_
  refine sg_callv_i f_97_46 my_97_59 mr_59 rfl (Nat.le_of_ble_eq_true rfl) (Nat.le_of_ble_eq_true rfl) sh_x_1 (by decide) rfl h59 ?_
  exact (sg_iret f_97_49 rk_97)
