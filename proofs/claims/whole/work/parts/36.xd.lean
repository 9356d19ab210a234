/-! the class: takesStages -/
theorem sx_14_1 {σ0 σ : sg_S} {T : Nat × Int32 × Nat × Nat} {it s n : Nat} {x : Nat → Nat} {t : Nat → Int32} (h : sx_R σ0 σ T it s t) (hx : sx_tx σ0 x n) (hp : T.1 ≤ n) (hz : T.2.2.2 ≤ 1000) (hb : rd_isb (rd_adv x n T).2.1 (rd_adv x n T).2.2.2 1 4 = true) : ∃ σ' : sg_S, sg_D tx_H 14 0 [.ref 50] [] σ (some (.int (nI 1))) σ' ∧ sx_R σ0 σ' (rd_adv x n T) it (rd_adv x n T).2.2.2 t := by
  obtain ⟨σ1, k, h', e⟩ := sx_R_adv h hx hp
  have hl := rd_adv_le (x := x) hp hz
  have k19 := sx_19 (lo := 1) (hi := 4) h'.2.2.1.2.1 h'.2.2.1.2.2.2 hl.2.1 (by omega) (by omega)
  rw [if_pos hb] at k19
  obtain ⟨h1, h2, h3, h4, h5, h6, h7⟩ := h'
  refine ⟨sg_r1 σ1 51 (upd (σ1.1 51) 0 (nI (rd_adv x n T).2.2.2)), ?_, h1, fun a ha => ?_, ?_, ?_, ?_, fun j hj => ?_, fun j hj => ?_⟩
  · skip
    refine sg_aload_n f_14_0 rfl ?_
    refine sg_getf_r f_14_1 fd_x_50_65 ?_
    refine sg_callv_v f_14_4 my_14_42 mr_42 rfl (Nat.le_of_ble_eq_true rfl) (Nat.le_of_ble_eq_true rfl) sh_x_54 (by decide) rfl k ?_
    refine sg_aload_n f_14_7 rfl ?_
    refine sg_iconst (nI 1) f_14_8 ki_1 ?_
    refine sg_iconst (nI 4) f_14_9 ki_4 ?_
    refine sg_callv_i f_14_10 my_14_19 mr_19 rfl (Nat.le_of_ble_eq_true rfl) (Nat.le_of_ble_eq_true rfl) sh_x_50 (by decide) rfl k19 ?_
    refine sg_if_ne 18 f_14_13 rfl (fun c13 => ?_) (fun c13 => ?_)
    · refine sg_aload_n f_14_18 rfl ?_
      refine sg_getf_r f_14_19 fd_x_50_64 ?_
      refine sg_aload_n f_14_22 rfl ?_
      refine sg_getf_r f_14_23 fd_x_50_65 ?_
      refine sg_getf_k f_14_26 fd_x_54_452 h3.2.2.2 ?_
      refine sg_putf_j 0 f_14_29 (by decide) fd_x_51_320 rfl ?_
      refine sg_iconst (nI 1) f_14_32 ki_1 ?_
      exact (sg_zret f_14_33 rk_14 (by first | exact Or.inl rfl | exact Or.inr rfl | assumption))
    · exact absurd c13 (by decide)
  · rw [sg_r1_ne (by omega)]; exact h2 a ha
  · rw [sg_r1_ne (by omega)]; exact h3
  · rw [sg_r1_ne (by omega)]; exact h4
  · rw [sg_r1_eq]; simp [upd]
  · rw [sg_r1_ne (by omega)]; exact h6 j hj
  · rw [sg_r1_ne (by omega)]; exact h7 j hj
theorem sx_14_0 {σ0 σ : sg_S} {T : Nat × Int32 × Nat × Nat} {it s n : Nat} {x : Nat → Nat} {t : Nat → Int32} (h : sx_R σ0 σ T it s t) (hx : sx_tx σ0 x n) (hp : T.1 ≤ n) (hz : T.2.2.2 ≤ 1000) (hb : ¬ rd_isb (rd_adv x n T).2.1 (rd_adv x n T).2.2.2 1 4 = true) : ∃ σ' : sg_S, sg_D tx_H 14 0 [.ref 50] [] σ (some (.int (nI 0))) σ' ∧ sx_R σ0 σ' (rd_adv x n T) it s t := by
  obtain ⟨σ1, k, h', e⟩ := sx_R_adv h hx hp
  have hl := rd_adv_le (x := x) hp hz
  have k19 := sx_19 (lo := 1) (hi := 4) h'.2.2.1.2.1 h'.2.2.1.2.2.2 hl.2.1 (by omega) (by omega)
  rw [if_neg hb] at k19
  refine ⟨σ1, ?_, h'⟩
  refine sg_aload_n f_14_0 rfl ?_
  refine sg_getf_r f_14_1 fd_x_50_65 ?_
  refine sg_callv_v f_14_4 my_14_42 mr_42 rfl (Nat.le_of_ble_eq_true rfl) (Nat.le_of_ble_eq_true rfl) sh_x_54 (by decide) rfl k ?_
  refine sg_aload_n f_14_7 rfl ?_
  refine sg_iconst (nI 1) f_14_8 ki_1 ?_
  refine sg_iconst (nI 4) f_14_9 ki_4 ?_
  refine sg_callv_i f_14_10 my_14_19 mr_19 rfl (Nat.le_of_ble_eq_true rfl) (Nat.le_of_ble_eq_true rfl) sh_x_50 (by decide) rfl k19 ?_
  refine sg_if_ne 18 f_14_13 rfl (fun c13 => ?_) (fun c13 => ?_)
  · exact absurd rfl c13
  · refine sg_iconst (nI 0) f_14_16 ki_0 ?_
    exact (sg_zret f_14_17 rk_14 (by first | exact Or.inl rfl | exact Or.inr rfl | assumption))
/-! the class: takesNumber -/
def rd_v1 (x : Nat → Nat) (n : Nat) (T : Nat × Int32 × Nat × Nat) : Nat × Int32 × Nat × Nat := if (rd_adv x n T).2.1 = nI 45 then rd_adv x n (rd_adv x n T) else rd_adv x n T
theorem sx_17_h {σ0 σ : sg_S} {T : Nat × Int32 × Nat × Nat} {it s n : Nat} {x : Nat → Nat} {t : Nat → Int32} (h : sx_R σ0 σ T it s t) (hx : sx_tx σ0 x n) (hp : T.1 ≤ n) (hz : T.2.2.2 ≤ 1000) : ∃ σ1 : sg_S, sx_R σ0 σ1 (rd_v1 x n T) it s t ∧ σ1.1 50 = σ.1 50 ∧ ∀ r σ', sg_D tx_H 17 36 [.ref 50, .int (if (rd_adv x n T).2.1 = nI 45 then nI 1 else nI 0)] [] σ1 r σ' → sg_D tx_H 17 0 [.ref 50, ab_u] [] σ r σ' := by
  obtain ⟨σ1, k, h', e⟩ := sx_R_adv h hx hp
  have hl := rd_adv_le (x := x) hp hz
  unfold rd_v1
  by_cases hk : (rd_adv x n T).2.1 = nI 45
  · obtain ⟨σ2, k2, h2, e2⟩ := sx_R_adv h' hx hl.1
    rw [if_pos hk, if_pos hk]
    refine ⟨σ2, h2, e2.trans e, fun r σ' kk => ?_⟩
    refine sg_aload_n f_17_0 rfl ?_
    refine sg_getf_r f_17_1 fd_x_50_65 ?_
    refine sg_callv_v f_17_4 my_17_42 mr_42 rfl (Nat.le_of_ble_eq_true rfl) (Nat.le_of_ble_eq_true rfl) sh_x_54 (by decide) rfl k ?_
    refine sg_aload_n f_17_7 rfl ?_
    refine sg_getf_r f_17_8 fd_x_50_65 ?_
    refine sg_getf_k f_17_11 fd_x_54_450 h'.2.2.1.2.1 ?_
    refine sg_bipush (nI 45) f_17_14 kb_45 ?_
    refine sg_icmp_ne 23 f_17_16 rfl (fun c16 => ?_) (fun c16 => ?_)
    · exact absurd hk c16
    · refine sg_iconst (nI 1) f_17_19 ki_1 ?_
      refine sg_goto 24 f_17_20 rfl ?_
      refine sg_istore_n [_, _] f_17_24 rfl ?_
      refine sg_iload_n f_17_25 rfl ?_
      refine sg_if_eq 36 f_17_26 rfl (fun c26 => ?_) (fun c26 => ?_)
      · exact absurd c26 (by decide)
      · refine sg_aload_n f_17_29 rfl ?_
        refine sg_getf_r f_17_30 fd_x_50_65 ?_
        refine sg_callv_v f_17_33 my_17_42 mr_42 rfl (Nat.le_of_ble_eq_true rfl) (Nat.le_of_ble_eq_true rfl) sh_x_54 (by decide) rfl k2 ?_
        exact kk
  · rw [if_neg hk, if_neg hk]
    refine ⟨σ1, h', e, fun r σ' kk => ?_⟩
    refine sg_aload_n f_17_0 rfl ?_
    refine sg_getf_r f_17_1 fd_x_50_65 ?_
    refine sg_callv_v f_17_4 my_17_42 mr_42 rfl (Nat.le_of_ble_eq_true rfl) (Nat.le_of_ble_eq_true rfl) sh_x_54 (by decide) rfl k ?_
    refine sg_aload_n f_17_7 rfl ?_
    refine sg_getf_r f_17_8 fd_x_50_65 ?_
    refine sg_getf_k f_17_11 fd_x_54_450 h'.2.2.1.2.1 ?_
    refine sg_bipush (nI 45) f_17_14 kb_45 ?_
    refine sg_icmp_ne 23 f_17_16 rfl (fun c16 => ?_) (fun c16 => ?_)
    · refine sg_iconst (nI 0) f_17_23 ki_0 ?_
      refine sg_istore_n [_, _] f_17_24 rfl ?_
      refine sg_iload_n f_17_25 rfl ?_
      refine sg_if_eq 36 f_17_26 rfl (fun c26 => ?_) (fun c26 => ?_)
      · exact kk
      · exact absurd rfl c26
    · exact absurd c16 hk
theorem rd_v1_le {x : Nat → Nat} {n : Nat} {T : Nat × Int32 × Nat × Nat} (h1 : T.1 ≤ n) (h2 : T.2.2.2 ≤ 1000) : (rd_v1 x n T).1 ≤ n ∧ (rd_v1 x n T).2.2.2 ≤ 1000 ∧ T.1 ≤ (rd_v1 x n T).1 ∧ (rd_v1 x n T).2.2.1 ≤ n := by
  have a := rd_adv_le (x := x) h1 h2
  have b := rd_adv_le (x := x) a.1 a.2.1
  unfold rd_v1
  split
  · exact ⟨b.1, b.2.1, Nat.le_trans a.2.2.1 b.2.2.1, b.2.2.2⟩
  · exact a
theorem sx_17_0 {σ0 σ : sg_S} {T : Nat × Int32 × Nat × Nat} {it s n : Nat} {x : Nat → Nat} {t : Nat → Int32} (h : sx_R σ0 σ T it s t) (hx : sx_tx σ0 x n) (hp : T.1 ≤ n) (hz : T.2.2.2 ≤ 1000) (hb : ¬ rd_isb (rd_v1 x n T).2.1 (rd_v1 x n T).2.2.2 0 600 = true) : ∃ σ' : sg_S, sg_D tx_H 17 0 [.ref 50, ab_u] [] σ (some (.int (nI 0))) σ' ∧ sx_R σ0 σ' (rd_v1 x n T) it s t := by
  obtain ⟨σ1, h', e, k⟩ := sx_17_h h hx hp hz
  have hl := rd_v1_le (x := x) hp hz
  have k19 := sx_19 (lo := 0) (hi := 600) h'.2.2.1.2.1 h'.2.2.1.2.2.2 hl.2.1 (by omega) (by omega)
  rw [if_neg hb] at k19
  refine ⟨σ1, k _ _ ?_, h'⟩
  refine sg_aload_n f_17_36 rfl ?_
  refine sg_iconst (nI 0) f_17_37 ki_0 ?_
  refine sg_sipush (nI 600) f_17_38 ks_600 ?_
  refine sg_callv_i f_17_41 my_17_19 mr_19 rfl (Nat.le_of_ble_eq_true rfl) (Nat.le_of_ble_eq_true rfl) sh_x_50 (by decide) rfl k19 ?_
  refine sg_if_ne 49 f_17_44 rfl (fun c44 => ?_) (fun c44 => ?_)
  · exact absurd rfl c44
  · refine sg_iconst (nI 0) f_17_47 ki_0 ?_
    exact (sg_zret f_17_48 rk_17 (by first | exact Or.inl rfl | exact Or.inr rfl | assumption))
def rd_vv (x : Nat → Nat) (n : Nat) (T : Nat × Int32 × Nat × Nat) : Int32 := if (rd_adv x n T).2.1 = nI 45 then -(nI (rd_v1 x n T).2.2.2) else nI (rd_v1 x n T).2.2.2
theorem sx_17_a {σ0 σ : sg_S} {T : Nat × Int32 × Nat × Nat} {it s n i j : Nat} {x : Nat → Nat} {t : Nat → Int32} (h : sx_R σ0 σ T it s t) (hx : sx_tx σ0 x n) (hp : T.1 ≤ n) (hz : T.2.2.2 ≤ 1000) (hs4 : s ≤ 4) (hi : i < s) (hj : j < s) (er : σ.1 50 3 = nI i) (ec : σ.1 50 4 = nI j) (hb : rd_isb (rd_v1 x n T).2.1 (rd_v1 x n T).2.2.2 0 600 = true) : ∃ σ' : sg_S, sg_D tx_H 17 0 [.ref 50, ab_u] [] σ (some (.int (nI 1))) σ' ∧ sx_R σ0 σ' (rd_v1 x n T) it s (upd t (1 + 4 * i + j) (rd_vv x n T)) := by
  obtain ⟨σ1, h', e, k⟩ := sx_17_h h hx hp hz
  have hl := rd_v1_le (x := x) hp hz
  have k19 := sx_19 (lo := 0) (hi := 600) h'.2.2.1.2.1 h'.2.2.1.2.2.2 hl.2.1 (by omega) (by omega)
  rw [if_pos hb] at k19
  obtain ⟨h1, h2, h3, h4, h5, h6, h7⟩ := h'
  rw [← e] at er ec
  refine ⟨sg_r1 σ1 52 (upd (σ1.1 52) (i * 4 + j) (rd_vv x n T)), k _ _ ?_, h1, fun a ha => ?_, ?_, ?_, ?_, fun q hq => ?_, fun q hq => ?_⟩
  · have k35 := sx_35_a (v := rd_vv x n T) sx_SM_51 h5 hs4 hi hj
    unfold rd_vv at k35 ⊢
    by_cases hk : (rd_adv x n T).2.1 = nI 45
    · rw [if_pos hk] at k35 ⊢
      rw [if_pos hk]
      refine sg_aload_n f_17_36 rfl ?_
      refine sg_iconst (nI 0) f_17_37 ki_0 ?_
      refine sg_sipush (nI 600) f_17_38 ks_600 ?_
      refine sg_callv_i f_17_41 my_17_19 mr_19 rfl (Nat.le_of_ble_eq_true rfl) (Nat.le_of_ble_eq_true rfl) sh_x_50 (by decide) rfl k19 ?_
      refine sg_if_ne 49 f_17_44 rfl (fun c44 => ?_) (fun c44 => ?_)
      · refine sg_aload_n f_17_49 rfl ?_
        refine sg_getf_r f_17_50 fd_x_50_64 ?_
        refine sg_aload_n f_17_53 rfl ?_
        refine sg_getf_k f_17_54 fd_x_50_67 er ?_
        refine sg_aload_n f_17_57 rfl ?_
        refine sg_getf_k f_17_58 fd_x_50_68 ec ?_
        refine sg_iload_n f_17_61 rfl ?_
        refine sg_if_eq 76 f_17_62 rfl (fun c62 => ?_) (fun c62 => ?_)
        · exact absurd c62 (by decide)
        · refine sg_aload_n f_17_65 rfl ?_
          refine sg_getf_r f_17_66 fd_x_50_65 ?_
          refine sg_getf_k f_17_69 fd_x_54_452 h3.2.2.2 ?_
          refine sg_ineg _ f_17_72 rfl ?_
          refine sg_goto 83 f_17_73 rfl ?_
          refine sg_callv_v f_17_83 my_17_35 mr_35 rfl (Nat.le_of_ble_eq_true rfl) (Nat.le_of_ble_eq_true rfl) sh_x_51 (by decide) rfl k35 ?_
          refine sg_iconst (nI 1) f_17_86 ki_1 ?_
          exact (sg_zret f_17_87 rk_17 (by first | exact Or.inl rfl | exact Or.inr rfl | assumption))
      · exact absurd c44 (by decide)
    · rw [if_neg hk] at k35 ⊢
      rw [if_neg hk]
      refine sg_aload_n f_17_36 rfl ?_
      refine sg_iconst (nI 0) f_17_37 ki_0 ?_
      refine sg_sipush (nI 600) f_17_38 ks_600 ?_
      refine sg_callv_i f_17_41 my_17_19 mr_19 rfl (Nat.le_of_ble_eq_true rfl) (Nat.le_of_ble_eq_true rfl) sh_x_50 (by decide) rfl k19 ?_
      refine sg_if_ne 49 f_17_44 rfl (fun c44 => ?_) (fun c44 => ?_)
      · refine sg_aload_n f_17_49 rfl ?_
        refine sg_getf_r f_17_50 fd_x_50_64 ?_
        refine sg_aload_n f_17_53 rfl ?_
        refine sg_getf_k f_17_54 fd_x_50_67 er ?_
        refine sg_aload_n f_17_57 rfl ?_
        refine sg_getf_k f_17_58 fd_x_50_68 ec ?_
        refine sg_iload_n f_17_61 rfl ?_
        refine sg_if_eq 76 f_17_62 rfl (fun c62 => ?_) (fun c62 => ?_)
        · refine sg_aload_n f_17_76 rfl ?_
          refine sg_getf_r f_17_77 fd_x_50_65 ?_
          refine sg_getf_k f_17_80 fd_x_54_452 h3.2.2.2 ?_
          refine sg_callv_v f_17_83 my_17_35 mr_35 rfl (Nat.le_of_ble_eq_true rfl) (Nat.le_of_ble_eq_true rfl) sh_x_51 (by decide) rfl k35 ?_
          refine sg_iconst (nI 1) f_17_86 ki_1 ?_
          exact (sg_zret f_17_87 rk_17 (by first | exact Or.inl rfl | exact Or.inr rfl | assumption))
        · exact absurd rfl c62
      · exact absurd c44 (by decide)
  · rw [sg_r1_ne (by omega)]; exact h2 a ha
  · rw [sg_r1_ne (by omega)]; exact h3
  · rw [sg_r1_ne (by omega)]; exact h4
  · rw [sg_r1_ne (by omega)]; exact h5
  · rw [sg_r1_eq]
    show (if q = i * 4 + j then _ else _) = if 1 + q = 1 + 4 * i + j then _ else _
    by_cases c : q = i * 4 + j
    · rw [if_pos c, if_pos (by omega)]
    · rw [if_neg c, if_neg (by omega)]; exact h6 q hq
  · rw [sg_r1_ne (by omega)]
    show _ = if 17 + q = 1 + 4 * i + j then _ else _
    rw [if_neg (by omega)]; exact h7 q hq
theorem sx_17_b {σ0 σ : sg_S} {T : Nat × Int32 × Nat × Nat} {it s n i : Nat} {x : Nat → Nat} {t : Nat → Int32} (h : sx_R σ0 σ T it s t) (hx : sx_tx σ0 x n) (hp : T.1 ≤ n) (hz : T.2.2.2 ≤ 1000) (hs4 : s ≤ 4) (hi : i < s) (er : σ.1 50 3 = nI i) (ec : σ.1 50 4 = -1) (hb : rd_isb (rd_v1 x n T).2.1 (rd_v1 x n T).2.2.2 0 600 = true) : ∃ σ' : sg_S, sg_D tx_H 17 0 [.ref 50, ab_u] [] σ (some (.int (nI 1))) σ' ∧ sx_R σ0 σ' (rd_v1 x n T) it s (upd t (17 + i) (rd_vv x n T)) := by
  obtain ⟨σ1, h', e, k⟩ := sx_17_h h hx hp hz
  have hl := rd_v1_le (x := x) hp hz
  have k19 := sx_19 (lo := 0) (hi := 600) h'.2.2.1.2.1 h'.2.2.1.2.2.2 hl.2.1 (by omega) (by omega)
  rw [if_pos hb] at k19
  obtain ⟨h1, h2, h3, h4, h5, h6, h7⟩ := h'
  rw [← e] at er ec
  refine ⟨sg_r1 σ1 53 (upd (σ1.1 53) i (rd_vv x n T)), k _ _ ?_, h1, fun a ha => ?_, ?_, ?_, ?_, fun q hq => ?_, fun q hq => ?_⟩
  · have k35 := sx_35_b (v := rd_vv x n T) sx_SM_51 h5 hs4 hi
    unfold rd_vv at k35 ⊢
    by_cases hk : (rd_adv x n T).2.1 = nI 45
    · rw [if_pos hk] at k35 ⊢
      rw [if_pos hk]
      refine sg_aload_n f_17_36 rfl ?_
      refine sg_iconst (nI 0) f_17_37 ki_0 ?_
      refine sg_sipush (nI 600) f_17_38 ks_600 ?_
      refine sg_callv_i f_17_41 my_17_19 mr_19 rfl (Nat.le_of_ble_eq_true rfl) (Nat.le_of_ble_eq_true rfl) sh_x_50 (by decide) rfl k19 ?_
      refine sg_if_ne 49 f_17_44 rfl (fun c44 => ?_) (fun c44 => ?_)
      · refine sg_aload_n f_17_49 rfl ?_
        refine sg_getf_r f_17_50 fd_x_50_64 ?_
        refine sg_aload_n f_17_53 rfl ?_
        refine sg_getf_k f_17_54 fd_x_50_67 er ?_
        refine sg_aload_n f_17_57 rfl ?_
        refine sg_getf_k f_17_58 fd_x_50_68 ec ?_
        refine sg_iload_n f_17_61 rfl ?_
        refine sg_if_eq 76 f_17_62 rfl (fun c62 => ?_) (fun c62 => ?_)
        · exact absurd c62 (by decide)
        · refine sg_aload_n f_17_65 rfl ?_
          refine sg_getf_r f_17_66 fd_x_50_65 ?_
          refine sg_getf_k f_17_69 fd_x_54_452 h3.2.2.2 ?_
          refine sg_ineg _ f_17_72 rfl ?_
          refine sg_goto 83 f_17_73 rfl ?_
          refine sg_callv_v f_17_83 my_17_35 mr_35 rfl (Nat.le_of_ble_eq_true rfl) (Nat.le_of_ble_eq_true rfl) sh_x_51 (by decide) rfl k35 ?_
          refine sg_iconst (nI 1) f_17_86 ki_1 ?_
          exact (sg_zret f_17_87 rk_17 (by first | exact Or.inl rfl | exact Or.inr rfl | assumption))
      · exact absurd c44 (by decide)
    · rw [if_neg hk] at k35 ⊢
      rw [if_neg hk]
      refine sg_aload_n f_17_36 rfl ?_
      refine sg_iconst (nI 0) f_17_37 ki_0 ?_
      refine sg_sipush (nI 600) f_17_38 ks_600 ?_
      refine sg_callv_i f_17_41 my_17_19 mr_19 rfl (Nat.le_of_ble_eq_true rfl) (Nat.le_of_ble_eq_true rfl) sh_x_50 (by decide) rfl k19 ?_
      refine sg_if_ne 49 f_17_44 rfl (fun c44 => ?_) (fun c44 => ?_)
      · refine sg_aload_n f_17_49 rfl ?_
        refine sg_getf_r f_17_50 fd_x_50_64 ?_
        refine sg_aload_n f_17_53 rfl ?_
        refine sg_getf_k f_17_54 fd_x_50_67 er ?_
        refine sg_aload_n f_17_57 rfl ?_
        refine sg_getf_k f_17_58 fd_x_50_68 ec ?_
        refine sg_iload_n f_17_61 rfl ?_
        refine sg_if_eq 76 f_17_62 rfl (fun c62 => ?_) (fun c62 => ?_)
        · refine sg_aload_n f_17_76 rfl ?_
          refine sg_getf_r f_17_77 fd_x_50_65 ?_
          refine sg_getf_k f_17_80 fd_x_54_452 h3.2.2.2 ?_
          refine sg_callv_v f_17_83 my_17_35 mr_35 rfl (Nat.le_of_ble_eq_true rfl) (Nat.le_of_ble_eq_true rfl) sh_x_51 (by decide) rfl k35 ?_
          refine sg_iconst (nI 1) f_17_86 ki_1 ?_
          exact (sg_zret f_17_87 rk_17 (by first | exact Or.inl rfl | exact Or.inr rfl | assumption))
        · exact absurd rfl c62
      · exact absurd c44 (by decide)
  · rw [sg_r1_ne (by omega)]; exact h2 a ha
  · rw [sg_r1_ne (by omega)]; exact h3
  · rw [sg_r1_ne (by omega)]; exact h4
  · rw [sg_r1_ne (by omega)]; exact h5
  · rw [sg_r1_ne (by omega)]
    show _ = if 1 + q = 17 + i then _ else _
    rw [if_neg (by omega)]; exact h6 q hq
  · rw [sg_r1_eq]
    show (if q = i then _ else _) = if 17 + q = 17 + i then _ else _
    by_cases c : q = i
    · rw [if_pos c, if_pos (by omega)]
    · rw [if_neg c, if_neg (by omega)]; exact h7 q hq
