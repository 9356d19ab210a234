/-- the calls tree, of both -/
theorem tr_all {σ μ : sg_S} {x : Nat → Nat} {n : Nat} (hTx : tx_Tab σ) (hTm : tm_Tab μ) (hx : sx_tx σ x n) (hy : sm_tx μ x n) : ∃ (v : Int32) (σ1 σ' μ' : sg_S), sg_D tx_H 68 0 [.ref 0, ab_u] [] σ (some (.int v)) σ' ∧ sg_D tm_H 117 0 [.ref 0, ab_u, ab_u, ab_u, ab_u, ab_u, ab_u] [] μ (some (.int v)) μ' ∧ sx_tF σ σ1 ∧ ((sm_tG μ μ' ∧ σ' = sg_r1 σ1 46 (upd (σ1.1 46) 1 (nI 0))) ∨ sm_tF μ μ' ∧ σ' = σ1) := by
  generalize hb : sg_r1 σ 48 (upd (upd (σ.1 48) 3 (nI 0)) 4 (nI 0)) = σb
  have hFb : sx_tF σ σb := ⟨by rw [← hb]; rfl, fun a p q => by rw [← hb, sg_r1_ne p]⟩
  have hI : tr_I σ μ σb μ 0 0 (fun _ => 0) (fun _ _ => 0) := ⟨hFb, by rw [← hb, sg_r1_eq, pk_un (by omega), pk_us], by rw [← hb, sg_r1_eq, pk_us], fun i hi => absurd hi (Nat.not_lt_zero _), ⟨rfl, fun _ _ _ => rfl, fun _ _ => rfl⟩, fun i hi => absurd hi (Nat.not_lt_zero _), rfl, by omega, Or.inr rfl⟩
  obtain ⟨v, σ1, μ', a1, a2, a3, a4⟩ := tr_A hTx hTm hx hy n 0 (by omega) σb μ 0 0 _ _ hI
  have k47 : sg_D tx_H 47 0 [.ref 48, ab_u, ab_u] [] σ (some (.int v)) σ1 := by
    refine sg_aload_n f_47_0 rfl ?_
    refine sg_iconst (nI 0) f_47_1 ki_0 ?_
    refine sg_putf_j 3 f_47_2 (by decide) fd_x_48_515 rfl ?_
    refine sg_aload_n f_47_5 rfl ?_
    refine sg_iconst (nI 0) f_47_6 ki_0 ?_
    refine sg_putf_j 4 f_47_7 (by decide) fd_x_48_516 rfl ?_
    rw [sg_r1_r1, sg_r1_eq, hb]
    refine sg_iconst (nI 0) f_47_10 ki_0 ?_
    refine sg_istore_n [_, _, _] f_47_11 rfl ?_
    exact a1 _
  have k117 : sg_D tm_H 117 0 [.ref 0, ab_u, ab_u, ab_u, ab_u, ab_u, ab_u] [] μ (some (.int v)) μ' := by
    refine sg_iconst (nI 0) f_117_0 ki_0 ?_
    refine sg_istore_n [_, _, _, _, _, _, _] f_117_1 rfl ?_
    refine sg_iconst (nI 0) f_117_2 ki_0 ?_
    refine sg_istore_n [_, _, _, _, _, _, _] f_117_3 rfl ?_
    refine sg_bipush (-9) f_117_4 kb_m9 ?_
    refine sg_istore_n [_, _, _, _, _, _, _] f_117_6 rfl ?_
    refine sg_iconst (nI 0) f_117_7 ki_0 ?_
    refine sg_istore [_, _, _, _, _, _, _] f_117_8 rfl ?_
    exact a2 _ _
  rcases a4 with ⟨t, ht, e, hG⟩ | ⟨q, hq, e, hF⟩
  · subst e
    refine ⟨_, σ1, _, μ', ?_, k117, a3, Or.inl ⟨hG, rfl⟩⟩
    refine sg_aload_n f_68_0 rfl ?_
    refine sg_getf_r f_68_1 fd_x_0_708 ?_
    refine sg_callv_i f_68_4 my_68_47 mr_47 rfl (Nat.le_of_ble_eq_true rfl) (Nat.le_of_ble_eq_true rfl) sh_x_48 (by decide) rfl k47 ?_
    refine sg_istore_n [_, _] f_68_7 rfl ?_
    refine sg_iload_n f_68_8 rfl ?_
    refine sg_if_lt 20 f_68_9 rfl (fun c9 => ?_) (fun c9 => ?_)
    · exact absurd c9 (sg_nneg (by omega))
    · refine sg_aload_n f_68_12 rfl ?_
      refine sg_getf_r f_68_13 fd_x_0_707 ?_
      refine sg_callv_i f_68_16 my_68_38 mr_38 rfl (Nat.le_of_ble_eq_true rfl) (Nat.le_of_ble_eq_true rfl) sh_x_46 (by decide) rfl sx_38 ?_
      refine sg_pop f_68_19 ?_
      refine sg_iload_n f_68_20 rfl ?_
      exact (sg_iret f_68_21 rk_68)
  · subst e
    refine ⟨_, σ1, _, μ', ?_, k117, a3, Or.inr ⟨hF, rfl⟩⟩
    refine sg_aload_n f_68_0 rfl ?_
    refine sg_getf_r f_68_1 fd_x_0_708 ?_
    refine sg_callv_i f_68_4 my_68_47 mr_47 rfl (Nat.le_of_ble_eq_true rfl) (Nat.le_of_ble_eq_true rfl) sh_x_48 (by decide) rfl k47 ?_
    refine sg_istore_n [_, _] f_68_7 rfl ?_
    refine sg_iload_n f_68_8 rfl ?_
    refine sg_if_lt 20 f_68_9 rfl (fun c9 => ?_) (fun c9 => ?_)
    · refine sg_iload_n f_68_20 rfl ?_
      exact (sg_iret f_68_21 rk_68)
    · exact absurd (sg_m10 (by omega)) c9
