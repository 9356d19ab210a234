/-! the class: isSize, takesEnd -/
def rd_is (k : Int32) (z lo hi : Nat) : Prop := k = nI 48 ∧ lo ≤ z ∧ z ≤ hi
theorem sx_19_1 {σ : sg_S} {z lo hi : Nat} {k : Int32} (h2 : σ.1 54 2 = k) (h4 : σ.1 54 4 = nI z) (hz : z ≤ 1000) (hlo : lo ≤ 1000) (hhi : hi ≤ 1000) (h : rd_is k z lo hi) : sg_D tx_H 19 0 [.ref 50, .int (nI lo), .int (nI hi)] [] σ (some (.int (nI 1))) σ := by
  obtain ⟨e1, e2, e3⟩ := h
  refine sg_aload_n f_19_0 rfl ?_
  refine sg_getf_r f_19_1 fd_x_50_65 ?_
  refine sg_getf_k f_19_4 fd_x_54_450 h2 ?_
  refine sg_bipush (nI 48) f_19_7 kb_48 ?_
  refine sg_icmp_ne 38 f_19_9 rfl (fun c9 => ?_) (fun c9 => ?_)
  · exact absurd e1 c9
  · refine sg_aload_n f_19_12 rfl ?_
    refine sg_getf_r f_19_13 fd_x_50_65 ?_
    refine sg_getf_k f_19_16 fd_x_54_452 h4 ?_
    refine sg_iload_n f_19_19 rfl ?_
    first | refine sg_ncmp_lt 38 (by omega) (by omega) f_19_20 rfl (fun c20 => ?_) (fun c20 => ?_) | refine sg_icmp_lt 38 f_19_20 rfl (fun c20 => ?_) (fun c20 => ?_)
    · omega
    · refine sg_aload_n f_19_23 rfl ?_
      refine sg_getf_r f_19_24 fd_x_50_65 ?_
      refine sg_getf_k f_19_27 fd_x_54_452 h4 ?_
      refine sg_iload_n f_19_30 rfl ?_
      first | refine sg_ncmp_gt 38 (by omega) (by omega) f_19_31 rfl (fun c31 => ?_) (fun c31 => ?_) | refine sg_icmp_gt 38 f_19_31 rfl (fun c31 => ?_) (fun c31 => ?_)
      · omega
      · refine sg_iconst (nI 1) f_19_34 ki_1 ?_
        refine sg_goto 39 f_19_35 rfl ?_
        exact (sg_zret f_19_39 rk_19 (by first | exact Or.inl rfl | exact Or.inr rfl | assumption))
theorem sx_19_0 {σ : sg_S} {z lo hi : Nat} {k : Int32} (h2 : σ.1 54 2 = k) (h4 : σ.1 54 4 = nI z) (hz : z ≤ 1000) (hlo : lo ≤ 1000) (hhi : hi ≤ 1000) (h : ¬ rd_is k z lo hi) : sg_D tx_H 19 0 [.ref 50, .int (nI lo), .int (nI hi)] [] σ (some (.int (nI 0))) σ := by
  refine sg_aload_n f_19_0 rfl ?_
  refine sg_getf_r f_19_1 fd_x_50_65 ?_
  refine sg_getf_k f_19_4 fd_x_54_450 h2 ?_
  refine sg_bipush (nI 48) f_19_7 kb_48 ?_
  refine sg_icmp_ne 38 f_19_9 rfl (fun c9 => ?_) (fun c9 => ?_)
  · refine sg_iconst (nI 0) f_19_38 ki_0 ?_
    exact (sg_zret f_19_39 rk_19 (by first | exact Or.inl rfl | exact Or.inr rfl | assumption))
  · have e9 := c9
    refine sg_aload_n f_19_12 rfl ?_
    refine sg_getf_r f_19_13 fd_x_50_65 ?_
    refine sg_getf_k f_19_16 fd_x_54_452 h4 ?_
    refine sg_iload_n f_19_19 rfl ?_
    first | refine sg_ncmp_lt 38 (by omega) (by omega) f_19_20 rfl (fun c20 => ?_) (fun c20 => ?_) | refine sg_icmp_lt 38 f_19_20 rfl (fun c20 => ?_) (fun c20 => ?_)
    · refine sg_iconst (nI 0) f_19_38 ki_0 ?_
      exact (sg_zret f_19_39 rk_19 (by first | exact Or.inl rfl | exact Or.inr rfl | assumption))
    · refine sg_aload_n f_19_23 rfl ?_
      refine sg_getf_r f_19_24 fd_x_50_65 ?_
      refine sg_getf_k f_19_27 fd_x_54_452 h4 ?_
      refine sg_iload_n f_19_30 rfl ?_
      first | refine sg_ncmp_gt 38 (by omega) (by omega) f_19_31 rfl (fun c31 => ?_) (fun c31 => ?_) | refine sg_icmp_gt 38 f_19_31 rfl (fun c31 => ?_) (fun c31 => ?_)
      · refine sg_iconst (nI 0) f_19_38 ki_0 ?_
        exact (sg_zret f_19_39 rk_19 (by first | exact Or.inl rfl | exact Or.inr rfl | assumption))
      · exact absurd (show rd_is k z lo hi from ⟨e9, by omega, by omega⟩) h
theorem sx_18 {σ : sg_S} {x : Nat → Nat} {n p q z : Nat} {k : Int32} (hx : sx_tx σ x n) (hp : p ≤ n) : sg_D tx_H 18 0 [.ref 50] [] (sx_tS σ p k q z) (some (.int (if (rd_tok x n p z).2.1 = nI 59 then nI 1 else nI 0))) (sx_tS σ (rd_tok x n p z).1 (rd_tok x n p z).2.1 (rd_tok x n p z).2.2.1 (rd_tok x n p z).2.2.2) := by
  refine sg_aload_n f_18_0 rfl ?_
  refine sg_getf_r f_18_1 fd_x_50_65 ?_
  refine sg_callv_v f_18_4 my_18_42 mr_42 rfl (Nat.le_of_ble_eq_true rfl) (Nat.le_of_ble_eq_true rfl) sh_x_54 (by decide) rfl (sx_42 hx hp) ?_
  refine sg_aload_n f_18_7 rfl ?_
  refine sg_getf_r f_18_8 fd_x_50_65 ?_
  refine sg_getf_k f_18_11 fd_x_54_450 sx_tS_a.2.1 ?_
  refine sg_bipush (nI 59) f_18_14 kb_59 ?_
  refine sg_icmp_ne 23 f_18_16 rfl (fun c16 => ?_) (fun c16 => ?_)
  · rw [if_neg c16]
    refine sg_iconst (nI 0) f_18_23 ki_0 ?_
    exact (sg_zret f_18_24 rk_18 (by first | exact Or.inl rfl | exact Or.inr rfl | assumption))
  · rw [if_pos c16]
    refine sg_iconst (nI 1) f_18_19 ki_1 ?_
    refine sg_goto 24 f_18_20 rfl ?_
    exact (sg_zret f_18_24 rk_18 (by first | exact Or.inl rfl | exact Or.inr rfl | assumption))
/-! the reader's state -/
def rd_isb (k : Int32) (z lo hi : Nat) : Bool := decide (k = nI 48 ∧ lo ≤ z ∧ z ≤ hi)
theorem rd_isb_iff {k : Int32} {z lo hi : Nat} : rd_isb k z lo hi = true ↔ rd_is k z lo hi := by
  unfold rd_isb rd_is
  rw [decide_eq_true_iff]
theorem sx_19 {σ : sg_S} {z lo hi : Nat} {k : Int32} (h2 : σ.1 54 2 = k) (h4 : σ.1 54 4 = nI z) (hz : z ≤ 1000) (hlo : lo ≤ 1000) (hhi : hi ≤ 1000) : sg_D tx_H 19 0 [.ref 50, .int (nI lo), .int (nI hi)] [] σ (some (.int (if rd_isb k z lo hi = true then nI 1 else nI 0))) σ := by
  by_cases h : rd_is k z lo hi
  · rw [if_pos (show rd_isb k z lo hi = true from rd_isb_iff.mpr h)]
    exact sx_19_1 h2 h4 hz hlo hhi h
  · have e : ¬ rd_isb k z lo hi = true := fun e => h (rd_isb_iff.mp e)
    rw [if_neg e]
    exact sx_19_0 h2 h4 hz hlo hhi h
def rd_adv (x : Nat → Nat) (n : Nat) (T : Nat × Int32 × Nat × Nat) : Nat × Int32 × Nat × Nat := rd_tok x n T.1 T.2.2.2
theorem rd_adv_le {x : Nat → Nat} {n : Nat} {T : Nat × Int32 × Nat × Nat} (h1 : T.1 ≤ n) (h2 : T.2.2.2 ≤ 1000) : (rd_adv x n T).1 ≤ n ∧ (rd_adv x n T).2.2.2 ≤ 1000 ∧ T.1 ≤ (rd_adv x n T).1 ∧ (rd_adv x n T).2.2.1 ≤ n := by
  unfold rd_adv rd_tok
  have hl := rd_sp_le x (n - T.1) T.1
  revert hl
  generalize rd_sp x (n - T.1) T.1 = s
  intro hl
  by_cases hs : s = n
  · rw [if_pos hs]; exact ⟨Nat.le_refl _, h2, h1, Nat.le_refl _⟩
  · rw [if_neg hs]
    have hm := rd_nm_le x (n - s) s 0 (by omega)
    by_cases hf : rd_fig (x s) = true
    · rw [if_pos hf]
      refine ⟨?_, ?_, ?_, ?_⟩ <;> dsimp only <;> omega
    · rw [if_neg hf]
      refine ⟨?_, ?_, ?_, ?_⟩ <;> dsimp only <;> omega
def sx_R (σ0 σ : sg_S) (T : Nat × Int32 × Nat × Nat) (it s : Nat) (t : Nat → Int32) : Prop := σ.2 = σ0.2 ∧ (∀ a, a < 50 ∨ 54 < a → σ.1 a = σ0.1 a) ∧ (σ.1 54 1 = nI T.1 ∧ σ.1 54 2 = T.2.1 ∧ σ.1 54 3 = nI T.2.2.1 ∧ σ.1 54 4 = nI T.2.2.2) ∧ σ.1 50 2 = nI it ∧ σ.1 51 0 = nI s ∧ (∀ j, j < 16 → σ.1 52 j = t (1 + j)) ∧ ∀ j, j < 4 → σ.1 53 j = t (17 + j)
theorem sx_R_adv {σ0 σ : sg_S} {T : Nat × Int32 × Nat × Nat} {it s n : Nat} {x : Nat → Nat} {t : Nat → Int32} (h : sx_R σ0 σ T it s t) (hx : sx_tx σ0 x n) (hp : T.1 ≤ n) : ∃ σ' : sg_S, sg_D tx_H 42 0 [.ref 54] [] σ none σ' ∧ sx_R σ0 σ' (rd_adv x n T) it s t ∧ σ'.1 50 = σ.1 50 := by
  obtain ⟨h1, h2, ⟨a1, a2, a3, a4⟩, h4, h5, h6, h7⟩ := h
  have hx' : sx_tx σ x n := ⟨by rw [h2 46 (by omega)]; exact hx.1, hx.2.1, fun i hi => by rw [h2 47 (by omega)]; exact hx.2.2 i hi⟩
  have k := sx_42 (q := T.2.2.1) (z := T.2.2.2) (k := T.2.1) hx' hp
  rw [sx_tS_self a1 a2 a3 a4] at k
  refine ⟨_, k, ⟨h1, fun a ha => ?_, sx_tS_a, ?_, ?_, fun j hj => ?_, fun j hj => ?_⟩, sx_tS_ne (by omega)⟩
  · rw [sx_tS_ne (by omega)]; exact h2 a ha
  · rw [sx_tS_ne (by omega)]; exact h4
  · rw [sx_tS_ne (by omega)]; exact h5
  · rw [sx_tS_ne (by omega)]; exact h6 j hj
  · rw [sx_tS_ne (by omega)]; exact h7 j hj
theorem sx_18R {σ0 σ : sg_S} {T : Nat × Int32 × Nat × Nat} {it s n : Nat} {x : Nat → Nat} {t : Nat → Int32} (h : sx_R σ0 σ T it s t) (hx : sx_tx σ0 x n) (hp : T.1 ≤ n) : ∃ σ' : sg_S, sg_D tx_H 18 0 [.ref 50] [] σ (some (.int (if (rd_adv x n T).2.1 = nI 59 then nI 1 else nI 0))) σ' ∧ sx_R σ0 σ' (rd_adv x n T) it s t := by
  obtain ⟨σ', k, h', -⟩ := sx_R_adv h hx hp
  refine ⟨σ', ?_, h'⟩
  refine sg_aload_n f_18_0 rfl ?_
  refine sg_getf_r f_18_1 fd_x_50_65 ?_
  refine sg_callv_v f_18_4 my_18_42 mr_42 rfl (Nat.le_of_ble_eq_true rfl) (Nat.le_of_ble_eq_true rfl) sh_x_54 (by decide) rfl k ?_
  refine sg_aload_n f_18_7 rfl ?_
  refine sg_getf_r f_18_8 fd_x_50_65 ?_
  refine sg_getf_k f_18_11 fd_x_54_450 h'.2.2.1.2.1 ?_
  refine sg_bipush (nI 59) f_18_14 kb_59 ?_
  refine sg_icmp_ne 23 f_18_16 rfl (fun c16 => ?_) (fun c16 => ?_)
  · rw [if_neg c16]
    refine sg_iconst (nI 0) f_18_23 ki_0 ?_
    exact (sg_zret f_18_24 rk_18 (by first | exact Or.inl rfl | exact Or.inr rfl | assumption))
  · rw [if_pos c16]
    refine sg_iconst (nI 1) f_18_19 ki_1 ?_
    refine sg_goto 24 f_18_20 rfl ?_
    exact (sg_zret f_18_24 rk_18 (by first | exact Or.inl rfl | exact Or.inr rfl | assumption))
theorem sx_R_50 {σ0 σ : sg_S} {T : Nat × Int32 × Nat × Nat} {it s j : Nat} {t : Nat → Int32} {v : Int32} (h : sx_R σ0 σ T it s t) (hj : j ≠ 2) : sx_R σ0 (sg_r1 σ 50 (upd (σ.1 50) j v)) T it s t := by
  obtain ⟨h1, h2, h3, h4, h5, h6, h7⟩ := h
  refine ⟨h1, fun a ha => ?_, ?_, ?_, ?_, fun j hj => ?_, fun j hj => ?_⟩
  · rw [sg_r1_ne (by omega)]; exact h2 a ha
  · rw [sg_r1_ne (by omega)]; exact h3
  · rw [sg_r1_eq]; show (if 2 = j then v else σ.1 50 2) = nI it; rw [if_neg (fun e => hj e.symm)]; exact h4
  · rw [sg_r1_ne (by omega)]; exact h5
  · rw [sg_r1_ne (by omega)]; exact h6 j hj
  · rw [sg_r1_ne (by omega)]; exact h7 j hj
theorem sx_15 {σ0 σ : sg_S} {T : Nat × Int32 × Nat × Nat} {it s n : Nat} {x : Nat → Nat} {t : Nat → Int32} (h : sx_R σ0 σ T it s t) (hx : sx_tx σ0 x n) (hp : T.1 ≤ n) (hz : T.2.2.2 ≤ 1000) (hs : 1 ≤ s) (hs4 : s ≤ 4) : ∃ σ' : sg_S, sg_D tx_H 15 0 [.ref 50] [] σ (some (.int (if rd_isb (rd_adv x n T).2.1 (rd_adv x n T).2.2.2 0 (s - 1) = true then nI 1 else nI 0))) σ' ∧ sx_R σ0 σ' (rd_adv x n T) it s t ∧ σ'.1 50 3 = nI (rd_adv x n T).2.2.2 ∧ σ'.1 50 4 = σ.1 50 4 := by
  obtain ⟨σ1, k, h', e⟩ := sx_R_adv h hx hp
  have hl := rd_adv_le (x := x) hp hz
  have h2 : sx_R σ0 (sg_r1 σ1 50 (upd (σ1.1 50) 3 (nI (rd_adv x n T).2.2.2))) (rd_adv x n T) it s t := sx_R_50 h' (by omega)
  refine ⟨_, ?_, h2, ?_, ?_⟩
  · have h01 : (if rd_isb (rd_adv x n T).2.1 (rd_adv x n T).2.2.2 0 (s - 1) = true then nI 1 else nI 0) = 0 ∨ (if rd_isb (rd_adv x n T).2.1 (rd_adv x n T).2.2.2 0 (s - 1) = true then nI 1 else nI 0) = 1 := by
      split
      · exact Or.inr rfl
      · exact Or.inl rfl
    refine sg_aload_n f_15_0 rfl ?_
    refine sg_getf_r f_15_1 fd_x_50_65 ?_
    refine sg_callv_v f_15_4 my_15_42 mr_42 rfl (Nat.le_of_ble_eq_true rfl) (Nat.le_of_ble_eq_true rfl) sh_x_54 (by decide) rfl k ?_
    refine sg_aload_n f_15_7 rfl ?_
    refine sg_aload_n f_15_8 rfl ?_
    refine sg_getf_r f_15_9 fd_x_50_65 ?_
    refine sg_getf_k f_15_12 fd_x_54_452 h'.2.2.1.2.2.2 ?_
    refine sg_putf_j 3 f_15_15 (by decide) fd_x_50_67 rfl ?_
    refine sg_aload_n f_15_18 rfl ?_
    refine sg_iconst (nI 0) f_15_19 ki_0 ?_
    refine sg_aload_n f_15_20 rfl ?_
    refine sg_getf_r f_15_21 fd_x_50_64 ?_
    refine sg_getf_k f_15_24 fd_x_51_320 h2.2.2.2.2.1 ?_
    refine sg_iconst (nI 1) f_15_27 ki_1 ?_
    refine sg_isub (nI (s - 1)) f_15_28 (sg_nsub hs) ?_
    refine sg_callv_i f_15_29 my_15_19 mr_19 rfl (Nat.le_of_ble_eq_true rfl) (Nat.le_of_ble_eq_true rfl) sh_x_50 (by decide) rfl (sx_19 h2.2.2.1.2.1 h2.2.2.1.2.2.2 hl.2.1 (by omega) (by omega)) ?_
    exact (sg_zret f_15_32 rk_15 (by first | exact Or.inl rfl | exact Or.inr rfl | assumption))
  · rw [sg_r1_eq]; simp [upd]
  · rw [sg_r1_eq, e]; simp [upd]
theorem sx_16 {σ0 σ : sg_S} {T : Nat × Int32 × Nat × Nat} {it s n : Nat} {x : Nat → Nat} {t : Nat → Int32} (h : sx_R σ0 σ T it s t) (hx : sx_tx σ0 x n) (hp : T.1 ≤ n) (hz : T.2.2.2 ≤ 1000) (hs : 1 ≤ s) (hs4 : s ≤ 4) : ∃ σ' : sg_S, sg_D tx_H 16 0 [.ref 50] [] σ (some (.int (if rd_isb (rd_adv x n T).2.1 (rd_adv x n T).2.2.2 0 (s - 1) = true then nI 1 else nI 0))) σ' ∧ sx_R σ0 σ' (rd_adv x n T) it s t ∧ σ'.1 50 4 = nI (rd_adv x n T).2.2.2 ∧ σ'.1 50 3 = σ.1 50 3 := by
  obtain ⟨σ1, k, h', e⟩ := sx_R_adv h hx hp
  have hl := rd_adv_le (x := x) hp hz
  have h2 : sx_R σ0 (sg_r1 σ1 50 (upd (σ1.1 50) 4 (nI (rd_adv x n T).2.2.2))) (rd_adv x n T) it s t := sx_R_50 h' (by omega)
  refine ⟨_, ?_, h2, ?_, ?_⟩
  · have h01 : (if rd_isb (rd_adv x n T).2.1 (rd_adv x n T).2.2.2 0 (s - 1) = true then nI 1 else nI 0) = 0 ∨ (if rd_isb (rd_adv x n T).2.1 (rd_adv x n T).2.2.2 0 (s - 1) = true then nI 1 else nI 0) = 1 := by
      split
      · exact Or.inr rfl
      · exact Or.inl rfl
    refine sg_aload_n f_16_0 rfl ?_
    refine sg_getf_r f_16_1 fd_x_50_65 ?_
    refine sg_callv_v f_16_4 my_16_42 mr_42 rfl (Nat.le_of_ble_eq_true rfl) (Nat.le_of_ble_eq_true rfl) sh_x_54 (by decide) rfl k ?_
    refine sg_aload_n f_16_7 rfl ?_
    refine sg_aload_n f_16_8 rfl ?_
    refine sg_getf_r f_16_9 fd_x_50_65 ?_
    refine sg_getf_k f_16_12 fd_x_54_452 h'.2.2.1.2.2.2 ?_
    refine sg_putf_j 4 f_16_15 (by decide) fd_x_50_68 rfl ?_
    refine sg_aload_n f_16_18 rfl ?_
    refine sg_iconst (nI 0) f_16_19 ki_0 ?_
    refine sg_aload_n f_16_20 rfl ?_
    refine sg_getf_r f_16_21 fd_x_50_64 ?_
    refine sg_getf_k f_16_24 fd_x_51_320 h2.2.2.2.2.1 ?_
    refine sg_iconst (nI 1) f_16_27 ki_1 ?_
    refine sg_isub (nI (s - 1)) f_16_28 (sg_nsub hs) ?_
    refine sg_callv_i f_16_29 my_16_19 mr_19 rfl (Nat.le_of_ble_eq_true rfl) (Nat.le_of_ble_eq_true rfl) sh_x_50 (by decide) rfl (sx_19 h2.2.2.1.2.1 h2.2.2.1.2.2.2 hl.2.1 (by omega) (by omega)) ?_
    exact (sg_zret f_16_32 rk_16 (by first | exact Or.inl rfl | exact Or.inr rfl | assumption))
  · rw [sg_r1_eq]; simp [upd]
  · rw [sg_r1_eq, e]; simp [upd]
