/-! the class: takesStages -/
theorem sx_14_1 {σ0 σ : sg_S} {T : Nat × Int32 × Nat × Nat} {it s n : Nat} {x : Nat → Nat} {t : Nat → Int32} (h : sx_R σ0 σ T it s t) (hx : sx_tx σ0 x n) (hp : T.1 ≤ n) (hz : T.2.2.2 ≤ 1000) (hb : rd_isb (rd_adv x n T).2.1 (rd_adv x n T).2.2.2 1 4 = true) : ∃ σ' : sg_S, sg_D tx_H 14 0 [.ref 50] [] σ (some (.int (nI 1))) σ' ∧ sx_R σ0 σ' (rd_adv x n T) it (rd_adv x n T).2.2.2 t := by
  obtain ⟨σ1, k, h', e⟩ := sx_R_adv h hx hp
  have hl := rd_adv_le (x := x) hp hz
  have k19 := sx_19 (lo := 1) (hi := 4) h'.2.2.1.2.1 h'.2.2.1.2.2.2 hl.2.1 (by omega) (by omega)
  rw [if_pos hb] at k19
  obtain ⟨h1, h2, h3, h4, h5, h6, h7⟩ := h'
  refine ⟨sg_r1 σ1 51 (upd (σ1.1 51) 0 (nI (rd_adv x n T).2.2.2)), ?_, h1, fun a ha => ?_, ?_, ?_, ?_, fun j hj => ?_, fun j hj => ?_⟩
  · skip
    refine sg_aload_n f_14_0 rfl ?_
    refine sg_getf_r f_14_1 fd_x_50_65 ?_
    refine sg_callv_v f_14_4 my_14_42 mr_42 rfl (Nat.le_of_ble_eq_true rfl) (Nat.le_of_ble_eq_true rfl) sh_x_54 (by decide) rfl k ?_
    refine sg_aload_n f_14_7 rfl ?_
    refine sg_iconst (nI 1) f_14_8 ki_1 ?_
    refine sg_iconst (nI 4) f_14_9 ki_4 ?_
    refine sg_callv_i f_14_10 my_14_19 mr_19 rfl (Nat.le_of_ble_eq_true rfl) (Nat.le_of_ble_eq_true rfl) sh_x_50 (by decide) rfl k19 ?_
    refine sg_if_ne 18 f_14_13 rfl (fun c13 => ?_) (fun c13 => ?_)
    · refine sg_aload_n f_14_18 rfl ?_
      refine sg_getf_r f_14_19 fd_x_50_64 ?_
      refine sg_aload_n f_14_22 rfl ?_
      refine sg_getf_r f_14_23 fd_x_50_65 ?_
      refine sg_getf_k f_14_26 fd_x_54_452 h3.2.2.2 ?_
      refine sg_putf_j 0 f_14_29 (by decide) fd_x_51_320 rfl ?_
      refine sg_iconst (nI 1) f_14_32 ki_1 ?_
      exact (sg_zret f_14_33 rk_14 (by first | exact Or.inl rfl | exact Or.inr rfl | assumption))
    · exact absurd c13 (by decide)
  · rw [sg_r1_ne (by omega)]; exact h2 a ha
  · rw [sg_r1_ne (by omega)]; exact h3
  · rw [sg_r1_ne (by omega)]; exact h4
  · rw [sg_r1_eq]; simp [upd]
  · rw [sg_r1_ne (by omega)]; exact h6 j hj
  · rw [sg_r1_ne (by omega)]; exact h7 j hj
theorem sx_14_0 {σ0 σ : sg_S} {T : Nat × Int32 × Nat × Nat} {it s n : Nat} {x : Nat → Nat} {t : Nat → Int32} (h : sx_R σ0 σ T it s t) (hx : sx_tx σ0 x n) (hp : T.1 ≤ n) (hz : T.2.2.2 ≤ 1000) (hb : ¬ rd_isb (rd_adv x n T).2.1 (rd_adv x n T).2.2.2 1 4 = true) : ∃ σ' : sg_S, sg_D tx_H 14 0 [.ref 50] [] σ (some (.int (nI 0))) σ' ∧ sx_R σ0 σ' (rd_adv x n T) it s t := by
  obtain ⟨σ1, k, h', e⟩ := sx_R_adv h hx hp
  have hl := rd_adv_le (x := x) hp hz
  have k19 := sx_19 (lo := 1) (hi := 4) h'.2.2.1.2.1 h'.2.2.1.2.2.2 hl.2.1 (by omega) (by omega)
  rw [if_neg hb] at k19
  refine ⟨σ1, ?_, h'⟩
  refine sg_aload_n f_14_0 rfl ?_
  refine sg_getf_r f_14_1 fd_x_50_65 ?_
  refine sg_callv_v f_14_4 my_14_42 mr_42 rfl (Nat.le_of_ble_eq_true rfl) (Nat.le_of_ble_eq_true rfl) sh_x_54 (by decide) rfl k ?_
  refine sg_aload_n f_14_7 rfl ?_
  refine sg_iconst (nI 1) f_14_8 ki_1 ?_
  refine sg_iconst (nI 4) f_14_9 ki_4 ?_
  refine sg_callv_i f_14_10 my_14_19 mr_19 rfl (Nat.le_of_ble_eq_true rfl) (Nat.le_of_ble_eq_true rfl) sh_x_50 (by decide) rfl k19 ?_
  refine sg_if_ne 18 f_14_13 rfl (fun c13 => ?_) (fun c13 => ?_)
  · exact absurd rfl c13
  · refine sg_iconst (nI 0) f_14_16 ki_0 ?_
    exact (sg_zret f_14_17 rk_14 (by first | exact Or.inl rfl | exact Or.inr rfl | assumption))
