/-! the model: items -/
def sm_RB (μ0 μ : sg_S) (it s : Nat) (t : Nat → Int32) : Prop := μ.2 = μ0.2 ∧ (∀ a, a ≠ 0 → a ≠ 24 → μ.1 a = μ0.1 a) ∧ (∀ j, j < 28 → μ.1 0 j = μ0.1 0 j) ∧ μ.1 0 33 = nI it ∧ μ.1 24 0 = nI s ∧ ∀ j, 1 ≤ j → j < 21 → μ.1 24 j = t j
def sm_RT (μ : sg_S) (T : Nat × Int32 × Nat × Nat) : Prop := μ.1 0 28 = nI T.1 ∧ μ.1 0 29 = nI T.2.2.1 ∧ μ.1 0 30 = sm_sort T.2.1 ∧ (T.2.1 = nI 48 → μ.1 0 31 = nI T.2.2.2) ∧ rd_kk T.2.1
def sm_R (μ0 μ : sg_S) (T : Nat × Int32 × Nat × Nat) (it s : Nat) (t : Nat → Int32) : Prop := sm_RB μ0 μ it s t ∧ sm_RT μ T
theorem sm_scan {μ0 μ : sg_S} {it s n p z : Nat} {x : Nat → Nat} {t : Nat → Int32} (h : sm_RB μ0 μ it s t) (hx : sm_tx μ0 x n) (ha : μ.1 0 28 = nI p) (hp : p ≤ n) : ∃ μ' : sg_S, sg_D tm_H 118 0 [.ref 0, ab_u] [] μ none μ' ∧ sm_R μ0 μ' (rd_tok x n p z) it s t := by
  obtain ⟨h1, h2, h3, h4, h5, h6⟩ := h
  have hx' : sm_tx μ x n := ⟨by rw [h3 12 (by omega)]; exact hx.1, hx.2.1, fun i hi => by rw [h2 11 (by omega) (by omega)]; exact hx.2.2 i hi⟩
  obtain ⟨w, k, hw⟩ := sm_118 (p := p) (z := z) (k := μ.1 0 30) (q := μ.1 0 29) (v := μ.1 0 31) hx' hp
  rw [sm_tS_self ha rfl rfl rfl] at k
  refine ⟨_, k, ⟨h1, fun a q1 q2 => ?_, fun j hj => ?_, ?_, ?_, fun j q1 q2 => ?_⟩, sm_tS_a.1, sm_tS_a.2.2.1, sm_tS_a.2.1, fun e => ?_, rd_tok_kk⟩
  · rw [sm_tS_ne q1]; exact h2 a q1 q2
  · rw [sm_tS_0, sm_tk_o (by omega)]; exact h3 j hj
  · rw [sm_tS_0, sm_tk_o (by omega)]; exact h4
  · rw [sm_tS_ne (by omega)]; exact h5
  · rw [sm_tS_ne (by omega)]; exact h6 j q1 q2
  · rw [sm_tS_a.2.2.2]; exact hw e
theorem sm_R_adv {μ0 μ : sg_S} {it s n : Nat} {T : Nat × Int32 × Nat × Nat} {x : Nat → Nat} {t : Nat → Int32} (h : sm_R μ0 μ T it s t) (hx : sm_tx μ0 x n) (hp : T.1 ≤ n) : ∃ μ' : sg_S, sg_D tm_H 118 0 [.ref 0, ab_u] [] μ none μ' ∧ sm_R μ0 μ' (rd_adv x n T) it s t := sm_scan h.1 hx h.2.1 hp
theorem sm_i2 {z lo hi : Nat} (hz : z < 2 ^ 31) (hlo : lo < 2 ^ 31) (hhi : hi < 2 ^ 31) : ((nI lo).toInt64.toInt ≤ (nI z).toInt ∧ (nI z).toInt ≤ (nI hi).toInt64.toInt ↔ lo ≤ z ∧ z ≤ hi) ∧ ((nI z).toInt < (nI lo).toInt64.toInt ∨ (nI hi).toInt64.toInt < (nI z).toInt ↔ ¬ (lo ≤ z ∧ z ≤ hi)) := by
  rw [Int32.toInt_toInt64, Int32.toInt_toInt64, nI_toInt hz, nI_toInt hlo, nI_toInt hhi]
  omega
theorem sm_119 {μ0 μ : sg_S} {it s n lo hi : Nat} {T : Nat × Int32 × Nat × Nat} {x : Nat → Nat} {t : Nat → Int32} (h : sm_R μ0 μ T it s t) (hx : sm_tx μ0 x n) (hp : T.1 ≤ n) (hz : T.2.2.2 ≤ 1000) (hlo : lo ≤ 1000) (hhi : hi ≤ 1000) : ∃ μ' : sg_S, sg_D tm_H 119 0 [.ref 0, .int (nI lo), .int (nI hi)] [] μ (some (.int (if rd_isb (rd_adv x n T).2.1 (rd_adv x n T).2.2.2 lo hi = true then nI 1 else nI 0))) μ' ∧ sm_R μ0 μ' (rd_adv x n T) it s t := by
  obtain ⟨μ1, k, h'⟩ := sm_R_adv h hx hp
  have hl := rd_adv_le (x := x) hp hz
  have hs := sm_sort_iff h'.2.2.2.2.2
  refine ⟨μ1, ?_, h'⟩
  by_cases hk : (rd_adv x n T).2.1 = nI 48
  · have h30 : μ1.1 0 30 = nI 1 := h'.2.2.2.1.trans (hs.1.mpr hk)
    have h31 := h'.2.2.2.2.1 hk
    have hi2 := sm_i2 (z := (rd_adv x n T).2.2.2) (lo := lo) (hi := hi) (by omega) (by omega) (by omega)
    by_cases hb : lo ≤ (rd_adv x n T).2.2.2 ∧ (rd_adv x n T).2.2.2 ≤ hi
    · rw [if_pos (rd_isb_iff.mpr ⟨hk, hb⟩)]
      refine sg_aload_n f_119_0 rfl ?_
      refine sg_callv_v f_119_1 my_119_118 mr_118 rfl (Nat.le_of_ble_eq_true rfl) (Nat.le_of_ble_eq_true rfl) sh_m_0 (by decide) rfl k ?_
      refine sg_aload_n f_119_4 rfl ?_
      refine sg_getf_k f_119_5 fd_m_0_798 h30 ?_
      refine sg_iconst (nI 1) f_119_8 ki_1 ?_
      first | refine sg_ncmp_ne 31 (by omega) (by omega) f_119_9 rfl (fun c9 => ?_) (fun c9 => ?_) | refine sg_icmp_ne 31 f_119_9 rfl (fun c9 => ?_) (fun c9 => ?_)
      · exact absurd rfl c9
      · refine sg_aload_n f_119_12 rfl ?_
        refine sg_getf_k f_119_13 fd_m_0_799 h31 ?_
        refine sg_i2l _ f_119_16 rfl ?_
        refine sg_iload_n f_119_17 rfl ?_
        refine sg_i2l _ f_119_18 rfl ?_
        refine sg_iload_n f_119_19 rfl ?_
        refine sg_i2l _ f_119_20 rfl ?_
        refine sg_calls_i f_119_21 my_119_99 mr_99 (by decide) rfl (Nat.le_of_ble_eq_true rfl) (Nat.le_of_ble_eq_true rfl) rfl (sm_99_1 (hi2.1.mpr hb)) ?_
        refine sg_if_eq 31 f_119_24 rfl (fun c24 => ?_) (fun c24 => ?_)
        · exact absurd c24 (by decide)
        · refine sg_iconst (nI 1) f_119_27 ki_1 ?_
          refine sg_goto 32 f_119_28 rfl ?_
          exact (sg_zret f_119_32 rk_119 (by first | exact Or.inl rfl | exact Or.inr rfl | assumption))
    · rw [if_neg (fun e => hb (rd_isb_iff.mp e).2)]
      refine sg_aload_n f_119_0 rfl ?_
      refine sg_callv_v f_119_1 my_119_118 mr_118 rfl (Nat.le_of_ble_eq_true rfl) (Nat.le_of_ble_eq_true rfl) sh_m_0 (by decide) rfl k ?_
      refine sg_aload_n f_119_4 rfl ?_
      refine sg_getf_k f_119_5 fd_m_0_798 h30 ?_
      refine sg_iconst (nI 1) f_119_8 ki_1 ?_
      first | refine sg_ncmp_ne 31 (by omega) (by omega) f_119_9 rfl (fun c9 => ?_) (fun c9 => ?_) | refine sg_icmp_ne 31 f_119_9 rfl (fun c9 => ?_) (fun c9 => ?_)
      · exact absurd rfl c9
      · refine sg_aload_n f_119_12 rfl ?_
        refine sg_getf_k f_119_13 fd_m_0_799 h31 ?_
        refine sg_i2l _ f_119_16 rfl ?_
        refine sg_iload_n f_119_17 rfl ?_
        refine sg_i2l _ f_119_18 rfl ?_
        refine sg_iload_n f_119_19 rfl ?_
        refine sg_i2l _ f_119_20 rfl ?_
        refine sg_calls_i f_119_21 my_119_99 mr_99 (by decide) rfl (Nat.le_of_ble_eq_true rfl) (Nat.le_of_ble_eq_true rfl) rfl (sm_99_0 (hi2.2.mpr hb)) ?_
        refine sg_if_eq 31 f_119_24 rfl (fun c24 => ?_) (fun c24 => ?_)
        · refine sg_iconst (nI 0) f_119_31 ki_0 ?_
          exact (sg_zret f_119_32 rk_119 (by first | exact Or.inl rfl | exact Or.inr rfl | assumption))
        · exact absurd rfl c24
  · rw [if_neg (fun e => hk (rd_isb_iff.mp e).1)]
    refine sg_aload_n f_119_0 rfl ?_
    refine sg_callv_v f_119_1 my_119_118 mr_118 rfl (Nat.le_of_ble_eq_true rfl) (Nat.le_of_ble_eq_true rfl) sh_m_0 (by decide) rfl k ?_
    refine sg_aload_n f_119_4 rfl ?_
    refine sg_getf_k f_119_5 fd_m_0_798 h'.2.2.2.1 ?_
    refine sg_iconst (nI 1) f_119_8 ki_1 ?_
    refine sg_icmp_ne 31 f_119_9 rfl (fun c9 => ?_) (fun c9 => ?_)
    · refine sg_iconst (nI 0) f_119_31 ki_0 ?_
      exact (sg_zret f_119_32 rk_119 (by first | exact Or.inl rfl | exact Or.inr rfl | assumption))
    · exact absurd (hs.1.mp c9) hk
theorem sm_R_24 {μ0 μ : sg_S} {it s : Nat} {T : Nat × Int32 × Nat × Nat} {t : Nat → Int32} {k : Nat} {v : Int32} (h : sm_R μ0 μ T it s t) (hk : 1 ≤ k) : sm_R μ0 (sg_r1 μ 24 (upd (μ.1 24) k v)) T it s (upd t k v) := by
  obtain ⟨⟨h1, h2, h3, h4, h5, h6⟩, hT⟩ := h
  refine ⟨⟨h1, fun a q1 q2 => ?_, fun j hj => ?_, ?_, ?_, fun j q1 q2 => ?_⟩, ?_⟩
  · rw [sg_r1_ne q2]; exact h2 a q1 q2
  · rw [sg_r1_ne (by omega)]; exact h3 j hj
  · rw [sg_r1_ne (by omega)]; exact h4
  · rw [sg_r1_eq, pk_un (by omega)]; exact h5
  · rw [sg_r1_eq]
    by_cases e : j = k
    · subst e; rw [pk_us, pk_us]
    · rw [pk_un e, pk_un e]; exact h6 j q1 q2
  · unfold sm_RT; rw [sg_r1_ne (by omega)]; exact hT
theorem sm_R_s {μ0 μ : sg_S} {it s s' : Nat} {T : Nat × Int32 × Nat × Nat} {t : Nat → Int32} (h : sm_R μ0 μ T it s t) : sm_R μ0 (sg_r1 μ 24 (upd (μ.1 24) 0 (nI s'))) T it s' t := by
  obtain ⟨⟨h1, h2, h3, h4, h5, h6⟩, hT⟩ := h
  refine ⟨⟨h1, fun a q1 q2 => ?_, fun j hj => ?_, ?_, ?_, fun j q1 q2 => ?_⟩, ?_⟩
  · rw [sg_r1_ne q2]; exact h2 a q1 q2
  · rw [sg_r1_ne (by omega)]; exact h3 j hj
  · rw [sg_r1_ne (by omega)]; exact h4
  · rw [sg_r1_eq, pk_us]
  · rw [sg_r1_eq, pk_un (by omega)]; exact h6 j q1 q2
  · unfold sm_RT; rw [sg_r1_ne (by omega)]; exact hT
theorem sm_R_it {μ0 μ : sg_S} {it it' s : Nat} {T : Nat × Int32 × Nat × Nat} {t : Nat → Int32} (h : sm_R μ0 μ T it s t) : sm_R μ0 (sg_r1 μ 0 (upd (μ.1 0) 33 (nI it'))) T it' s t := by
  obtain ⟨⟨h1, h2, h3, h4, h5, h6⟩, hT⟩ := h
  refine ⟨⟨h1, fun a q1 q2 => ?_, fun j hj => ?_, ?_, ?_, fun j q1 q2 => ?_⟩, ?_⟩
  · rw [sg_r1_ne q1]; exact h2 a q1 q2
  · rw [sg_r1_eq, pk_un (by omega)]; exact h3 j hj
  · rw [sg_r1_eq, pk_us]
  · rw [sg_r1_ne (by omega)]; exact h5
  · rw [sg_r1_ne (by omega)]; exact h6 j q1 q2
  · unfold sm_RT at hT ⊢; rw [sg_r1_eq, pk_un (by omega), pk_un (by omega), pk_un (by omega), pk_un (by omega)]; exact hT
/-- the end of an item -/
theorem sm_120_e {μ0 μ : sg_S} {it s n : Nat} {T : Nat × Int32 × Nat × Nat} {x : Nat → Nat} {t : Nat → Int32} {l2 l3 : Value} {l1 : Int32} (h : sm_R μ0 μ T it s t) (hx : sm_tx μ0 x n) (hp : T.1 ≤ n) (hit : it ≤ 1000) : ∃ μ' : sg_S, sg_D tm_H 120 202 [.ref 0, .int l1, l2, l3] [] μ (some (.int (if decide ((rd_adv x n T).2.1 = nI 59) = true then nI 1 else nI 0))) μ' ∧ sm_R μ0 μ' (rd_adv x n T) (it + 1) s t := by
  obtain ⟨μ1, k, h'⟩ := sm_R_adv h hx hp
  have hs := sm_sort_iff h'.2.2.2.2.2
  have h2 : sm_R μ0 (sg_r1 μ1 0 (upd (μ1.1 0) 33 (nI (it + 1)))) (rd_adv x n T) (it + 1) s t := sm_R_it h'
  refine ⟨_, ?_, h2⟩
  by_cases he : (rd_adv x n T).2.1 = nI 59
  · rw [if_pos (decide_eq_true he)]
    refine sg_aload_n f_120_202 rfl ?_
    refine sg_callv_v f_120_203 my_120_118 mr_118 rfl (Nat.le_of_ble_eq_true rfl) (Nat.le_of_ble_eq_true rfl) sh_m_0 (by decide) rfl k ?_
    refine sg_aload_n f_120_206 rfl ?_
    refine sg_dup f_120_207 rfl ?_
    refine sg_getf_k f_120_208 fd_m_0_801 h'.1.2.2.2.1 ?_
    refine sg_iconst (nI 1) f_120_211 ki_1 ?_
    first | refine sg_iadd _ f_120_212 (nI_add _ _) ?_ | refine sg_iadd _ f_120_212 rfl ?_
    refine sg_putf_j 33 f_120_213 (by decide) fd_m_0_801 rfl ?_
    refine sg_aload_n f_120_216 rfl ?_
    refine sg_getf_k f_120_217 fd_m_0_798 (h2.2.2.2.1.trans (hs.2.2.2.1.mpr he)) ?_
    refine sg_bipush (nI 59) f_120_220 kb_59 ?_
    refine sg_icmp_ne 229 f_120_222 rfl (fun c222 => ?_) (fun c222 => ?_)
    · exact absurd rfl c222
    · refine sg_iconst (nI 1) f_120_225 ki_1 ?_
      refine sg_goto 230 f_120_226 rfl ?_
      exact (sg_zret f_120_230 rk_120 (by first | exact Or.inl rfl | exact Or.inr rfl | assumption))
  · rw [if_neg (fun e => he (of_decide_eq_true e))]
    refine sg_aload_n f_120_202 rfl ?_
    refine sg_callv_v f_120_203 my_120_118 mr_118 rfl (Nat.le_of_ble_eq_true rfl) (Nat.le_of_ble_eq_true rfl) sh_m_0 (by decide) rfl k ?_
    refine sg_aload_n f_120_206 rfl ?_
    refine sg_dup f_120_207 rfl ?_
    refine sg_getf_k f_120_208 fd_m_0_801 h'.1.2.2.2.1 ?_
    refine sg_iconst (nI 1) f_120_211 ki_1 ?_
    first | refine sg_iadd _ f_120_212 (nI_add _ _) ?_ | refine sg_iadd _ f_120_212 rfl ?_
    refine sg_putf_j 33 f_120_213 (by decide) fd_m_0_801 rfl ?_
    refine sg_aload_n f_120_216 rfl ?_
    refine sg_getf_k f_120_217 fd_m_0_798 h2.2.2.2.1 ?_
    refine sg_bipush (nI 59) f_120_220 kb_59 ?_
    refine sg_icmp_ne 229 f_120_222 rfl (fun c222 => ?_) (fun c222 => ?_)
    · refine sg_iconst (nI 0) f_120_229 ki_0 ?_
      exact (sg_zret f_120_230 rk_120 (by first | exact Or.inl rfl | exact Or.inr rfl | assumption))
    · exact absurd (hs.2.2.2.1.mp c222) he
theorem sm_120_s {μ0 μ : sg_S} {it s n : Nat} {T : Nat × Int32 × Nat × Nat} {x : Nat → Nat} {t : Nat → Int32} (h : sm_R μ0 μ T it s t) (hx : sm_tx μ0 x n) (hp : T.1 ≤ n) (hz : T.2.2.2 ≤ 1000) (hit : it ≤ 1000) (hk : T.2.1 = nI 115) : ∃ (μ' : sg_S) (it' : Nat), sg_D tm_H 120 0 [.ref 0, ab_u, ab_u, ab_u] [] μ (some (.int (if (rd_s x n T it s t).1 = true then nI 1 else nI 0))) μ' ∧ sm_R μ0 μ' (rd_s x n T it s t).2.1 it' (rd_s x n T it s t).2.2.1 (rd_s x n T it s t).2.2.2 ∧ ((rd_s x n T it s t).1 = true → it' = it + 1) := by
  have hl := rd_adv_le (x := x) hp hz
  have h30 : μ.1 0 30 = nI 115 := h.2.2.2.1.trans ((sm_sort_iff h.2.2.2.2.2).2.2.2.2.2.2.mpr hk)
  obtain ⟨μ1, k1, h1⟩ := sm_119 (lo := 1) (hi := 4) h hx hp hz (by omega) (by omega)
  unfold rd_s
  by_cases h0 : it = 0
  · rw [if_pos h0]
    by_cases hb : rd_isb (rd_adv x n T).2.1 (rd_adv x n T).2.2.2 1 4 = true
    · rw [if_pos hb]
      rw [if_pos hb] at k1
      have h2 : sm_R μ0 (sg_r1 μ1 24 (upd (μ1.1 24) 0 (nI (rd_adv x n T).2.2.2))) (rd_adv x n T) it (rd_adv x n T).2.2.2 t := sm_R_s h1
      obtain ⟨μ2, k2, h3⟩ := sm_120_e (l1 := nI 115) (l2 := ab_u) (l3 := ab_u) h2 hx hl.1 hit
      refine ⟨μ2, it + 1, ?_, h3, fun _ => rfl⟩
      refine sg_aload_n f_120_0 rfl ?_
      refine sg_getf_k f_120_1 fd_m_0_798 h30 ?_
      refine sg_istore_n [_, _, _, _] f_120_4 rfl ?_
      refine sg_iload_n f_120_5 rfl ?_
      refine sg_bipush (nI 115) f_120_6 kb_115 ?_
      first | refine sg_ncmp_ne 42 (by omega) (by omega) f_120_8 rfl (fun c8 => ?_) (fun c8 => ?_) | refine sg_icmp_ne 42 f_120_8 rfl (fun c8 => ?_) (fun c8 => ?_)
      · exact absurd rfl c8
      · refine sg_aload_n f_120_11 rfl ?_
        refine sg_getf_k f_120_12 fd_m_0_801 (h.1.2.2.2.1.trans (by rw [h0])) ?_
        refine sg_if_gt 27 f_120_15 rfl (fun c15 => ?_) (fun c15 => ?_)
        · exact absurd c15 (by decide)
        · refine sg_aload_n f_120_18 rfl ?_
          refine sg_iconst (nI 1) f_120_19 ki_1 ?_
          refine sg_iconst (nI 4) f_120_20 ki_4 ?_
          refine sg_callv_i f_120_21 my_120_119 mr_119 rfl (Nat.le_of_ble_eq_true rfl) (Nat.le_of_ble_eq_true rfl) sh_m_0 (by decide) rfl k1 ?_
          refine sg_if_ne 29 f_120_24 rfl (fun c24 => ?_) (fun c24 => ?_)
          · refine sg_aload_n f_120_29 rfl ?_
            refine sg_getf_r f_120_30 fd_m_0_800 ?_
            refine sg_iconst (nI 0) f_120_33 ki_0 ?_
            refine sg_aload_n f_120_34 rfl ?_
            refine sg_getf_k f_120_35 fd_m_0_799 (h1.2.2.2.2.1 (rd_isb_iff.mp hb).1) ?_
            refine sg_iastore 0 ok_m f_120_38 sh_m_24 rfl (by omega) ?_
            refine sg_goto 202 f_120_39 rfl ?_
            exact k2
          · exact absurd c24 (by decide)
    · rw [if_neg hb]
      rw [if_neg hb] at k1
      refine ⟨μ1, it, ?_, h1, fun h => absurd h (show ¬ false = true by decide)⟩
      rw [if_neg (show ¬ false = true by decide)]
      refine sg_aload_n f_120_0 rfl ?_
      refine sg_getf_k f_120_1 fd_m_0_798 h30 ?_
      refine sg_istore_n [_, _, _, _] f_120_4 rfl ?_
      refine sg_iload_n f_120_5 rfl ?_
      refine sg_bipush (nI 115) f_120_6 kb_115 ?_
      first | refine sg_ncmp_ne 42 (by omega) (by omega) f_120_8 rfl (fun c8 => ?_) (fun c8 => ?_) | refine sg_icmp_ne 42 f_120_8 rfl (fun c8 => ?_) (fun c8 => ?_)
      · exact absurd rfl c8
      · refine sg_aload_n f_120_11 rfl ?_
        refine sg_getf_k f_120_12 fd_m_0_801 (h.1.2.2.2.1.trans (by rw [h0])) ?_
        refine sg_if_gt 27 f_120_15 rfl (fun c15 => ?_) (fun c15 => ?_)
        · exact absurd c15 (by decide)
        · refine sg_aload_n f_120_18 rfl ?_
          refine sg_iconst (nI 1) f_120_19 ki_1 ?_
          refine sg_iconst (nI 4) f_120_20 ki_4 ?_
          refine sg_callv_i f_120_21 my_120_119 mr_119 rfl (Nat.le_of_ble_eq_true rfl) (Nat.le_of_ble_eq_true rfl) sh_m_0 (by decide) rfl k1 ?_
          refine sg_if_ne 29 f_120_24 rfl (fun c24 => ?_) (fun c24 => ?_)
          · exact absurd rfl c24
          · refine sg_iconst (nI 0) f_120_27 ki_0 ?_
            exact (sg_zret f_120_28 rk_120 (by first | exact Or.inl rfl | exact Or.inr rfl | assumption))
  · rw [if_neg h0]
    refine ⟨μ, it, ?_, h, fun h => absurd h (show ¬ false = true by decide)⟩
    rw [if_neg (show ¬ false = true by decide)]
    refine sg_aload_n f_120_0 rfl ?_
    refine sg_getf_k f_120_1 fd_m_0_798 h30 ?_
    refine sg_istore_n [_, _, _, _] f_120_4 rfl ?_
    refine sg_iload_n f_120_5 rfl ?_
    refine sg_bipush (nI 115) f_120_6 kb_115 ?_
    first | refine sg_ncmp_ne 42 (by omega) (by omega) f_120_8 rfl (fun c8 => ?_) (fun c8 => ?_) | refine sg_icmp_ne 42 f_120_8 rfl (fun c8 => ?_) (fun c8 => ?_)
    · exact absurd rfl c8
    · refine sg_aload_n f_120_11 rfl ?_
      refine sg_getf_k f_120_12 fd_m_0_801 h.1.2.2.2.1 ?_
      refine sg_if_gt 27 f_120_15 rfl (fun c15 => ?_) (fun c15 => ?_)
      · refine sg_iconst (nI 0) f_120_27 ki_0 ?_
        exact (sg_zret f_120_28 rk_120 (by first | exact Or.inl rfl | exact Or.inr rfl | assumption))
      · exact absurd (Int32.not_lt.mp c15) (nI_nle (by omega) (by omega))
theorem sm_120_n {μ0 μ : sg_S} {it s n k : Nat} {T : Nat × Int32 × Nat × Nat} {x : Nat → Nat} {t : Nat → Int32} {l1 : Int32} {l3 : Value} (h : sm_R μ0 μ T it s t) (hx : sm_tx μ0 x n) (hp : T.1 ≤ n) (hz : T.2.2.2 ≤ 1000) (hit : it ≤ 1000) (hk : k < 21) (hk1 : 1 ≤ k) : ∃ (μ' : sg_S) (it' : Nat), sg_D tm_H 120 128 [.ref 0, .int l1, .int (nI k), l3] [] μ (some (.int (if (rd_n x n T k s t).1 = true then nI 1 else nI 0))) μ' ∧ sm_R μ0 μ' (rd_n x n T k s t).2.1 it' (rd_n x n T k s t).2.2.1 (rd_n x n T k s t).2.2.2 ∧ ((rd_n x n T k s t).1 = true → it' = it + 1) := by
  have hl := rd_adv_le (x := x) hp hz
  have hv := rd_v1_le (x := x) hp hz
  obtain ⟨μ1, k1, h1⟩ := sm_R_adv h hx hp
  obtain ⟨μ2, k2, h2⟩ := sm_R_adv h1 hx hl.1
  have hs1 := sm_sort_iff h1.2.2.2.2.2
  have key : ∃ μa : sg_S, sm_R μ0 μa (rd_v1 x n T) it s t ∧ ∀ rr μ', sg_D tm_H 120 155 [.ref 0, .int l1, .int (nI k), .int (if (rd_adv x n T).2.1 = nI 45 then nI 1 else nI 0)] [] μa rr μ' → sg_D tm_H 120 128 [.ref 0, .int l1, .int (nI k), l3] [] μ rr μ' := by
    unfold rd_v1
    by_cases hm : (rd_adv x n T).2.1 = nI 45
    · rw [if_pos hm, if_pos hm]
      refine ⟨μ2, h2, fun rr μ' kk => ?_⟩
      refine sg_aload_n f_120_128 rfl ?_
      refine sg_callv_v f_120_129 my_120_118 mr_118 rfl (Nat.le_of_ble_eq_true rfl) (Nat.le_of_ble_eq_true rfl) sh_m_0 (by decide) rfl k1 ?_
      refine sg_aload_n f_120_132 rfl ?_
      refine sg_getf_k f_120_133 fd_m_0_798 (h1.2.2.2.1.trans (hs1.2.2.1.mpr hm)) ?_
      refine sg_bipush (nI 45) f_120_136 kb_45 ?_
      refine sg_icmp_ne 145 f_120_138 rfl (fun c138 => ?_) (fun c138 => ?_)
      · exact absurd rfl c138
      · refine sg_iconst (nI 1) f_120_141 ki_1 ?_
        refine sg_goto 146 f_120_142 rfl ?_
        refine sg_istore_n [_, _, _, _] f_120_146 rfl ?_
        refine sg_iload_n f_120_147 rfl ?_
        refine sg_if_eq 155 f_120_148 rfl (fun c148 => ?_) (fun c148 => ?_)
        · exact absurd c148 (by decide)
        · refine sg_aload_n f_120_151 rfl ?_
          refine sg_callv_v f_120_152 my_120_118 mr_118 rfl (Nat.le_of_ble_eq_true rfl) (Nat.le_of_ble_eq_true rfl) sh_m_0 (by decide) rfl k2 ?_
          exact kk
    · rw [if_neg hm, if_neg hm]
      refine ⟨μ1, h1, fun rr μ' kk => ?_⟩
      refine sg_aload_n f_120_128 rfl ?_
      refine sg_callv_v f_120_129 my_120_118 mr_118 rfl (Nat.le_of_ble_eq_true rfl) (Nat.le_of_ble_eq_true rfl) sh_m_0 (by decide) rfl k1 ?_
      refine sg_aload_n f_120_132 rfl ?_
      refine sg_getf_k f_120_133 fd_m_0_798 h1.2.2.2.1 ?_
      refine sg_bipush (nI 45) f_120_136 kb_45 ?_
      refine sg_icmp_ne 145 f_120_138 rfl (fun c138 => ?_) (fun c138 => ?_)
      · refine sg_iconst (nI 0) f_120_145 ki_0 ?_
        refine sg_istore_n [_, _, _, _] f_120_146 rfl ?_
        refine sg_iload_n f_120_147 rfl ?_
        refine sg_if_eq 155 f_120_148 rfl (fun c148 => ?_) (fun c148 => ?_)
        · exact kk
        · exact absurd rfl c148
      · exact absurd (hs1.2.2.1.mp c138) hm
  obtain ⟨μa, ha, ka⟩ := key
  have hsa := sm_sort_iff ha.2.2.2.2.2
  unfold rd_n
  by_cases hb : rd_isb (rd_v1 x n T).2.1 (rd_v1 x n T).2.2.2 0 600 = true
  · rw [if_pos hb]
    obtain ⟨b1, -, b2⟩ := rd_isb_iff.mp hb
    have h31 := ha.2.2.2.2.1 b1
    have h3 : sm_R μ0 (sg_r1 μa 24 (upd (μa.1 24) k (rd_vv x n T))) (rd_v1 x n T) it s (upd t k (rd_vv x n T)) := sm_R_24 ha hk1
    obtain ⟨μ3, k3, h4⟩ := sm_120_e (l1 := l1) (l2 := .int (nI k)) (l3 := .int (if (rd_adv x n T).2.1 = nI 45 then nI 1 else nI 0)) h3 hx hv.1 hit
    refine ⟨μ3, it + 1, ka _ _ ?_, h4, fun _ => rfl⟩
    unfold rd_vv at k3
    by_cases hm : (rd_adv x n T).2.1 = nI 45
    · rw [if_pos hm, if_pos hm] at k3
      rw [if_pos hm]
      refine sg_aload_n f_120_155 rfl ?_
      refine sg_getf_k f_120_156 fd_m_0_798 (ha.2.2.2.1.trans (hsa.1.mpr b1)) ?_
      refine sg_iconst (nI 1) f_120_159 ki_1 ?_
      refine sg_icmp_ne 173 f_120_160 rfl (fun c160 => ?_) (fun c160 => ?_)
      · exact absurd rfl c160
      · refine sg_aload_n f_120_163 rfl ?_
        refine sg_getf_k f_120_164 fd_m_0_799 h31 ?_
        refine sg_sipush (nI 600) f_120_167 ks_600 ?_
        first | refine sg_ncmp_le 175 (by omega) (by omega) f_120_170 rfl (fun c170 => ?_) (fun c170 => ?_) | refine sg_icmp_le 175 f_120_170 rfl (fun c170 => ?_) (fun c170 => ?_)
        · refine sg_aload_n f_120_175 rfl ?_
          refine sg_getf_r f_120_176 fd_m_0_800 ?_
          refine sg_iload_n f_120_179 rfl ?_
          refine sg_iload_n f_120_180 rfl ?_
          refine sg_if_eq 192 f_120_181 rfl (fun c181 => ?_) (fun c181 => ?_)
          · exact absurd c181 (by decide)
          · refine sg_aload_n f_120_184 rfl ?_
            refine sg_getf_k f_120_185 fd_m_0_799 h31 ?_
            refine sg_ineg _ f_120_188 rfl ?_
            refine sg_goto 196 f_120_189 rfl ?_
            refine sg_iastore k ok_m f_120_196 sh_m_24 rfl (by omega) ?_
            refine sg_goto 202 f_120_197 rfl ?_
            exact k3
        · omega
    · rw [if_neg hm, if_neg hm] at k3
      rw [if_neg hm]
      refine sg_aload_n f_120_155 rfl ?_
      refine sg_getf_k f_120_156 fd_m_0_798 (ha.2.2.2.1.trans (hsa.1.mpr b1)) ?_
      refine sg_iconst (nI 1) f_120_159 ki_1 ?_
      refine sg_icmp_ne 173 f_120_160 rfl (fun c160 => ?_) (fun c160 => ?_)
      · exact absurd rfl c160
      · refine sg_aload_n f_120_163 rfl ?_
        refine sg_getf_k f_120_164 fd_m_0_799 h31 ?_
        refine sg_sipush (nI 600) f_120_167 ks_600 ?_
        first | refine sg_ncmp_le 175 (by omega) (by omega) f_120_170 rfl (fun c170 => ?_) (fun c170 => ?_) | refine sg_icmp_le 175 f_120_170 rfl (fun c170 => ?_) (fun c170 => ?_)
        · refine sg_aload_n f_120_175 rfl ?_
          refine sg_getf_r f_120_176 fd_m_0_800 ?_
          refine sg_iload_n f_120_179 rfl ?_
          refine sg_iload_n f_120_180 rfl ?_
          refine sg_if_eq 192 f_120_181 rfl (fun c181 => ?_) (fun c181 => ?_)
          · refine sg_aload_n f_120_192 rfl ?_
            refine sg_getf_k f_120_193 fd_m_0_799 h31 ?_
            refine sg_iastore k ok_m f_120_196 sh_m_24 rfl (by omega) ?_
            refine sg_goto 202 f_120_197 rfl ?_
            exact k3
          · exact absurd rfl c181
        · omega
  · rw [if_neg hb]
    refine ⟨μa, it, ka _ _ ?_, ha, fun h => absurd h (show ¬ false = true by decide)⟩
    rw [if_neg (show ¬ false = true by decide)]
    by_cases b1 : (rd_v1 x n T).2.1 = nI 48
    · have b2 : ¬ (rd_v1 x n T).2.2.2 ≤ 600 := fun z => hb (rd_isb_iff.mpr ⟨b1, Nat.zero_le _, z⟩)
      refine sg_aload_n f_120_155 rfl ?_
      refine sg_getf_k f_120_156 fd_m_0_798 (ha.2.2.2.1.trans (hsa.1.mpr b1)) ?_
      refine sg_iconst (nI 1) f_120_159 ki_1 ?_
      refine sg_icmp_ne 173 f_120_160 rfl (fun c160 => ?_) (fun c160 => ?_)
      · exact absurd rfl c160
      · refine sg_aload_n f_120_163 rfl ?_
        refine sg_getf_k f_120_164 fd_m_0_799 (ha.2.2.2.2.1 b1) ?_
        refine sg_sipush (nI 600) f_120_167 ks_600 ?_
        first | refine sg_ncmp_le 175 (by omega) (by omega) f_120_170 rfl (fun c170 => ?_) (fun c170 => ?_) | refine sg_icmp_le 175 f_120_170 rfl (fun c170 => ?_) (fun c170 => ?_)
        · omega
        · refine sg_iconst (nI 0) f_120_173 ki_0 ?_
          exact (sg_zret f_120_174 rk_120 (by first | exact Or.inl rfl | exact Or.inr rfl | assumption))
    · skip
      refine sg_aload_n f_120_155 rfl ?_
      refine sg_getf_k f_120_156 fd_m_0_798 ha.2.2.2.1 ?_
      refine sg_iconst (nI 1) f_120_159 ki_1 ?_
      refine sg_icmp_ne 173 f_120_160 rfl (fun c160 => ?_) (fun c160 => ?_)
      · refine sg_iconst (nI 0) f_120_173 ki_0 ?_
        exact (sg_zret f_120_174 rk_120 (by first | exact Or.inl rfl | exact Or.inr rfl | assumption))
      · exact absurd (hsa.1.mp c160) b1
theorem sm_120_a {μ0 μ : sg_S} {it s n : Nat} {T : Nat × Int32 × Nat × Nat} {x : Nat → Nat} {t : Nat → Int32} (h : sm_R μ0 μ T it s t) (hx : sm_tx μ0 x n) (hp : T.1 ≤ n) (hz : T.2.2.2 ≤ 1000) (hit : it ≤ 1000) (hs : 1 ≤ s) (hs4 : s ≤ 4) (hk : T.2.1 = nI 97) : ∃ (μ' : sg_S) (it' : Nat), sg_D tm_H 120 0 [.ref 0, ab_u, ab_u, ab_u] [] μ (some (.int (if (rd_a x n T s t).1 = true then nI 1 else nI 0))) μ' ∧ sm_R μ0 μ' (rd_a x n T s t).2.1 it' (rd_a x n T s t).2.2.1 (rd_a x n T s t).2.2.2 ∧ ((rd_a x n T s t).1 = true → it' = it + 1) := by
  have hl := rd_adv_le (x := x) hp hz
  have hl2 := rd_adv_le (x := x) hl.1 hl.2.1
  have h30 : μ.1 0 30 = nI 97 := h.2.2.2.1.trans ((sm_sort_iff h.2.2.2.2.2).2.2.2.2.1.mpr hk)
  obtain ⟨μ1, k1, h1⟩ := sm_119 (lo := 0) (hi := s - 1) h hx hp hz (by omega) (by omega)
  obtain ⟨μ2, k2, h2⟩ := sm_119 (lo := 0) (hi := s - 1) h1 hx hl.1 hl.2.1 (by omega) (by omega)
  unfold rd_a
  by_cases hb : rd_isb (rd_adv x n T).2.1 (rd_adv x n T).2.2.2 0 (s - 1) = true
  · rw [if_pos hb]
    rw [if_pos hb] at k1
    have q1 := (rd_isb_iff.mp hb)
    by_cases hb2 : rd_isb (rd_adv x n (rd_adv x n T)).2.1 (rd_adv x n (rd_adv x n T)).2.2.2 0 (s - 1) = true
    · rw [if_pos hb2]
      rw [if_pos hb2] at k2
      have q2 := (rd_isb_iff.mp hb2)
      have r1 := q1.2.2
      have r2 := q2.2.2
      obtain ⟨μ3, it', k3, h3, h4⟩ := sm_120_n (k := 1 + 4 * (rd_adv x n T).2.2.2 + (rd_adv x n (rd_adv x n T)).2.2.2) (l1 := nI 97) (l3 := ab_u) h2 hx hl2.1 hl2.2.1 hit (by omega) (by omega)
      refine ⟨μ3, it', ?_, h3, h4⟩
      refine sg_aload_n f_120_0 rfl ?_
      refine sg_getf_k f_120_1 fd_m_0_798 h30 ?_
      refine sg_istore_n [_, _, _, _] f_120_4 rfl ?_
      refine sg_iload_n f_120_5 rfl ?_
      refine sg_bipush (nI 115) f_120_6 kb_115 ?_
      refine sg_icmp_ne 42 f_120_8 rfl (fun c8 => ?_) (fun c8 => ?_)
      · refine sg_iload_n f_120_42 rfl ?_
        refine sg_bipush (nI 97) f_120_43 kb_97 ?_
        refine sg_icmp_eq 54 f_120_45 rfl (fun c45 => ?_) (fun c45 => ?_)
        · refine sg_aload_n f_120_54 rfl ?_
          refine sg_iconst (nI 0) f_120_55 ki_0 ?_
          refine sg_aload_n f_120_56 rfl ?_
          refine sg_getf_r f_120_57 fd_m_0_800 ?_
          refine sg_iconst (nI 0) f_120_60 ki_0 ?_
          refine sg_iaload_k 0 ok_m f_120_61 sh_m_24 rfl (by omega) h.1.2.2.2.2.1 ?_
          refine sg_iconst (nI 1) f_120_62 ki_1 ?_
          refine sg_isub (nI (s - 1)) f_120_63 (pk_sub hs) ?_
          refine sg_callv_i f_120_64 my_120_119 mr_119 rfl (Nat.le_of_ble_eq_true rfl) (Nat.le_of_ble_eq_true rfl) sh_m_0 (by decide) rfl k1 ?_
          refine sg_if_ne 72 f_120_67 rfl (fun c67 => ?_) (fun c67 => ?_)
          · refine sg_iload_n f_120_72 rfl ?_
            refine sg_bipush (nI 97) f_120_73 kb_97 ?_
            refine sg_icmp_ne 89 f_120_75 rfl (fun c75 => ?_) (fun c75 => ?_)
            · exact absurd rfl c75
            · refine sg_iconst (nI 1) f_120_78 ki_1 ?_
              refine sg_iconst (nI 4) f_120_79 ki_4 ?_
              refine sg_aload_n f_120_80 rfl ?_
              refine sg_getf_k f_120_81 fd_m_0_799 (h1.2.2.2.2.1 q1.1) ?_
              first | refine sg_imul _ f_120_84 (pk_mul _ _) ?_ | refine sg_imul _ f_120_84 rfl ?_
              first | refine sg_iadd _ f_120_85 (nI_add _ _) ?_ | refine sg_iadd _ f_120_85 rfl ?_
              refine sg_goto 96 f_120_86 rfl ?_
              refine sg_istore_n [_, _, _, _] f_120_96 rfl ?_
              refine sg_iload_n f_120_97 rfl ?_
              refine sg_bipush (nI 97) f_120_98 kb_97 ?_
              refine sg_icmp_ne 128 f_120_100 rfl (fun c100 => ?_) (fun c100 => ?_)
              · exact absurd rfl c100
              · refine sg_aload_n f_120_103 rfl ?_
                refine sg_iconst (nI 0) f_120_104 ki_0 ?_
                refine sg_aload_n f_120_105 rfl ?_
                refine sg_getf_r f_120_106 fd_m_0_800 ?_
                refine sg_iconst (nI 0) f_120_109 ki_0 ?_
                refine sg_iaload_k 0 ok_m f_120_110 sh_m_24 rfl (by omega) h1.1.2.2.2.2.1 ?_
                refine sg_iconst (nI 1) f_120_111 ki_1 ?_
                refine sg_isub (nI (s - 1)) f_120_112 (pk_sub hs) ?_
                refine sg_callv_i f_120_113 my_120_119 mr_119 rfl (Nat.le_of_ble_eq_true rfl) (Nat.le_of_ble_eq_true rfl) sh_m_0 (by decide) rfl k2 ?_
                refine sg_if_ne 121 f_120_116 rfl (fun c116 => ?_) (fun c116 => ?_)
                · refine sg_iload_n f_120_121 rfl ?_
                  refine sg_aload_n f_120_122 rfl ?_
                  refine sg_getf_k f_120_123 fd_m_0_799 (h2.2.2.2.2.1 q2.1) ?_
                  first | refine sg_iadd _ f_120_126 (nI_add _ _) ?_ | refine sg_iadd _ f_120_126 rfl ?_
                  refine sg_istore_n [_, _, _, _] f_120_127 rfl ?_
                  exact k3
                · exact absurd c116 (by decide)
          · exact absurd c67 (by decide)
        · exact absurd rfl c45
      · exact absurd c8 (by decide)
    · rw [if_neg hb2]
      rw [if_neg hb2] at k2
      refine ⟨μ2, it, ?_, h2, fun h => absurd h (show ¬ false = true by decide)⟩
      rw [if_neg (show ¬ false = true by decide)]
      refine sg_aload_n f_120_0 rfl ?_
      refine sg_getf_k f_120_1 fd_m_0_798 h30 ?_
      refine sg_istore_n [_, _, _, _] f_120_4 rfl ?_
      refine sg_iload_n f_120_5 rfl ?_
      refine sg_bipush (nI 115) f_120_6 kb_115 ?_
      refine sg_icmp_ne 42 f_120_8 rfl (fun c8 => ?_) (fun c8 => ?_)
      · refine sg_iload_n f_120_42 rfl ?_
        refine sg_bipush (nI 97) f_120_43 kb_97 ?_
        refine sg_icmp_eq 54 f_120_45 rfl (fun c45 => ?_) (fun c45 => ?_)
        · refine sg_aload_n f_120_54 rfl ?_
          refine sg_iconst (nI 0) f_120_55 ki_0 ?_
          refine sg_aload_n f_120_56 rfl ?_
          refine sg_getf_r f_120_57 fd_m_0_800 ?_
          refine sg_iconst (nI 0) f_120_60 ki_0 ?_
          refine sg_iaload_k 0 ok_m f_120_61 sh_m_24 rfl (by omega) h.1.2.2.2.2.1 ?_
          refine sg_iconst (nI 1) f_120_62 ki_1 ?_
          refine sg_isub (nI (s - 1)) f_120_63 (pk_sub hs) ?_
          refine sg_callv_i f_120_64 my_120_119 mr_119 rfl (Nat.le_of_ble_eq_true rfl) (Nat.le_of_ble_eq_true rfl) sh_m_0 (by decide) rfl k1 ?_
          refine sg_if_ne 72 f_120_67 rfl (fun c67 => ?_) (fun c67 => ?_)
          · refine sg_iload_n f_120_72 rfl ?_
            refine sg_bipush (nI 97) f_120_73 kb_97 ?_
            refine sg_icmp_ne 89 f_120_75 rfl (fun c75 => ?_) (fun c75 => ?_)
            · exact absurd rfl c75
            · refine sg_iconst (nI 1) f_120_78 ki_1 ?_
              refine sg_iconst (nI 4) f_120_79 ki_4 ?_
              refine sg_aload_n f_120_80 rfl ?_
              refine sg_getf_k f_120_81 fd_m_0_799 (h1.2.2.2.2.1 q1.1) ?_
              first | refine sg_imul _ f_120_84 (pk_mul _ _) ?_ | refine sg_imul _ f_120_84 rfl ?_
              first | refine sg_iadd _ f_120_85 (nI_add _ _) ?_ | refine sg_iadd _ f_120_85 rfl ?_
              refine sg_goto 96 f_120_86 rfl ?_
              refine sg_istore_n [_, _, _, _] f_120_96 rfl ?_
              refine sg_iload_n f_120_97 rfl ?_
              refine sg_bipush (nI 97) f_120_98 kb_97 ?_
              refine sg_icmp_ne 128 f_120_100 rfl (fun c100 => ?_) (fun c100 => ?_)
              · exact absurd rfl c100
              · refine sg_aload_n f_120_103 rfl ?_
                refine sg_iconst (nI 0) f_120_104 ki_0 ?_
                refine sg_aload_n f_120_105 rfl ?_
                refine sg_getf_r f_120_106 fd_m_0_800 ?_
                refine sg_iconst (nI 0) f_120_109 ki_0 ?_
                refine sg_iaload_k 0 ok_m f_120_110 sh_m_24 rfl (by omega) h1.1.2.2.2.2.1 ?_
                refine sg_iconst (nI 1) f_120_111 ki_1 ?_
                refine sg_isub (nI (s - 1)) f_120_112 (pk_sub hs) ?_
                refine sg_callv_i f_120_113 my_120_119 mr_119 rfl (Nat.le_of_ble_eq_true rfl) (Nat.le_of_ble_eq_true rfl) sh_m_0 (by decide) rfl k2 ?_
                refine sg_if_ne 121 f_120_116 rfl (fun c116 => ?_) (fun c116 => ?_)
                · exact absurd rfl c116
                · refine sg_iconst (nI 0) f_120_119 ki_0 ?_
                  exact (sg_zret f_120_120 rk_120 (by first | exact Or.inl rfl | exact Or.inr rfl | assumption))
          · exact absurd c67 (by decide)
        · exact absurd rfl c45
      · exact absurd c8 (by decide)
  · rw [if_neg hb]
    rw [if_neg hb] at k1
    refine ⟨μ1, it, ?_, h1, fun h => absurd h (show ¬ false = true by decide)⟩
    rw [if_neg (show ¬ false = true by decide)]
    refine sg_aload_n f_120_0 rfl ?_
    refine sg_getf_k f_120_1 fd_m_0_798 h30 ?_
    refine sg_istore_n [_, _, _, _] f_120_4 rfl ?_
    refine sg_iload_n f_120_5 rfl ?_
    refine sg_bipush (nI 115) f_120_6 kb_115 ?_
    refine sg_icmp_ne 42 f_120_8 rfl (fun c8 => ?_) (fun c8 => ?_)
    · refine sg_iload_n f_120_42 rfl ?_
      refine sg_bipush (nI 97) f_120_43 kb_97 ?_
      refine sg_icmp_eq 54 f_120_45 rfl (fun c45 => ?_) (fun c45 => ?_)
      · refine sg_aload_n f_120_54 rfl ?_
        refine sg_iconst (nI 0) f_120_55 ki_0 ?_
        refine sg_aload_n f_120_56 rfl ?_
        refine sg_getf_r f_120_57 fd_m_0_800 ?_
        refine sg_iconst (nI 0) f_120_60 ki_0 ?_
        refine sg_iaload_k 0 ok_m f_120_61 sh_m_24 rfl (by omega) h.1.2.2.2.2.1 ?_
        refine sg_iconst (nI 1) f_120_62 ki_1 ?_
        refine sg_isub (nI (s - 1)) f_120_63 (pk_sub hs) ?_
        refine sg_callv_i f_120_64 my_120_119 mr_119 rfl (Nat.le_of_ble_eq_true rfl) (Nat.le_of_ble_eq_true rfl) sh_m_0 (by decide) rfl k1 ?_
        refine sg_if_ne 72 f_120_67 rfl (fun c67 => ?_) (fun c67 => ?_)
        · exact absurd rfl c67
        · refine sg_iconst (nI 0) f_120_70 ki_0 ?_
          exact (sg_zret f_120_71 rk_120 (by first | exact Or.inl rfl | exact Or.inr rfl | assumption))
      · exact absurd rfl c45
    · exact absurd c8 (by decide)
theorem sm_120_b {μ0 μ : sg_S} {it s n : Nat} {T : Nat × Int32 × Nat × Nat} {x : Nat → Nat} {t : Nat → Int32} (h : sm_R μ0 μ T it s t) (hx : sm_tx μ0 x n) (hp : T.1 ≤ n) (hz : T.2.2.2 ≤ 1000) (hit : it ≤ 1000) (hs : 1 ≤ s) (hs4 : s ≤ 4) (hk : T.2.1 = nI 98) : ∃ (μ' : sg_S) (it' : Nat), sg_D tm_H 120 0 [.ref 0, ab_u, ab_u, ab_u] [] μ (some (.int (if (rd_b x n T s t).1 = true then nI 1 else nI 0))) μ' ∧ sm_R μ0 μ' (rd_b x n T s t).2.1 it' (rd_b x n T s t).2.2.1 (rd_b x n T s t).2.2.2 ∧ ((rd_b x n T s t).1 = true → it' = it + 1) := by
  have hl := rd_adv_le (x := x) hp hz
  have h30 : μ.1 0 30 = nI 98 := h.2.2.2.1.trans ((sm_sort_iff h.2.2.2.2.2).2.2.2.2.2.1.mpr hk)
  obtain ⟨μ1, k1, h1⟩ := sm_119 (lo := 0) (hi := s - 1) h hx hp hz (by omega) (by omega)
  unfold rd_b
  by_cases hb : rd_isb (rd_adv x n T).2.1 (rd_adv x n T).2.2.2 0 (s - 1) = true
  · rw [if_pos hb]
    rw [if_pos hb] at k1
    have q1 := (rd_isb_iff.mp hb)
    have r1 := q1.2.2
    obtain ⟨μ3, it', k3, h3, h4⟩ := sm_120_n (k := 17 + (rd_adv x n T).2.2.2) (l1 := nI 98) (l3 := ab_u) h1 hx hl.1 hl.2.1 hit (by omega) (by omega)
    refine ⟨μ3, it', ?_, h3, h4⟩
    refine sg_aload_n f_120_0 rfl ?_
    refine sg_getf_k f_120_1 fd_m_0_798 h30 ?_
    refine sg_istore_n [_, _, _, _] f_120_4 rfl ?_
    refine sg_iload_n f_120_5 rfl ?_
    refine sg_bipush (nI 115) f_120_6 kb_115 ?_
    refine sg_icmp_ne 42 f_120_8 rfl (fun c8 => ?_) (fun c8 => ?_)
    · refine sg_iload_n f_120_42 rfl ?_
      refine sg_bipush (nI 97) f_120_43 kb_97 ?_
      refine sg_icmp_eq 54 f_120_45 rfl (fun c45 => ?_) (fun c45 => ?_)
      · exact absurd c45 (by decide)
      · refine sg_iload_n f_120_48 rfl ?_
        refine sg_bipush (nI 98) f_120_49 kb_98 ?_
        refine sg_icmp_ne 200 f_120_51 rfl (fun c51 => ?_) (fun c51 => ?_)
        · exact absurd rfl c51
        · refine sg_aload_n f_120_54 rfl ?_
          refine sg_iconst (nI 0) f_120_55 ki_0 ?_
          refine sg_aload_n f_120_56 rfl ?_
          refine sg_getf_r f_120_57 fd_m_0_800 ?_
          refine sg_iconst (nI 0) f_120_60 ki_0 ?_
          refine sg_iaload_k 0 ok_m f_120_61 sh_m_24 rfl (by omega) h.1.2.2.2.2.1 ?_
          refine sg_iconst (nI 1) f_120_62 ki_1 ?_
          refine sg_isub (nI (s - 1)) f_120_63 (pk_sub hs) ?_
          refine sg_callv_i f_120_64 my_120_119 mr_119 rfl (Nat.le_of_ble_eq_true rfl) (Nat.le_of_ble_eq_true rfl) sh_m_0 (by decide) rfl k1 ?_
          refine sg_if_ne 72 f_120_67 rfl (fun c67 => ?_) (fun c67 => ?_)
          · refine sg_iload_n f_120_72 rfl ?_
            refine sg_bipush (nI 97) f_120_73 kb_97 ?_
            refine sg_icmp_ne 89 f_120_75 rfl (fun c75 => ?_) (fun c75 => ?_)
            · refine sg_bipush (nI 17) f_120_89 kb_17 ?_
              refine sg_aload_n f_120_91 rfl ?_
              refine sg_getf_k f_120_92 fd_m_0_799 (h1.2.2.2.2.1 q1.1) ?_
              first | refine sg_iadd _ f_120_95 (nI_add _ _) ?_ | refine sg_iadd _ f_120_95 rfl ?_
              refine sg_istore_n [_, _, _, _] f_120_96 rfl ?_
              refine sg_iload_n f_120_97 rfl ?_
              refine sg_bipush (nI 97) f_120_98 kb_97 ?_
              refine sg_icmp_ne 128 f_120_100 rfl (fun c100 => ?_) (fun c100 => ?_)
              · exact k3
              · exact absurd c100 (by decide)
            · exact absurd c75 (by decide)
          · exact absurd c67 (by decide)
    · exact absurd c8 (by decide)
  · rw [if_neg hb]
    rw [if_neg hb] at k1
    refine ⟨μ1, it, ?_, h1, fun h => absurd h (show ¬ false = true by decide)⟩
    rw [if_neg (show ¬ false = true by decide)]
    refine sg_aload_n f_120_0 rfl ?_
    refine sg_getf_k f_120_1 fd_m_0_798 h30 ?_
    refine sg_istore_n [_, _, _, _] f_120_4 rfl ?_
    refine sg_iload_n f_120_5 rfl ?_
    refine sg_bipush (nI 115) f_120_6 kb_115 ?_
    refine sg_icmp_ne 42 f_120_8 rfl (fun c8 => ?_) (fun c8 => ?_)
    · refine sg_iload_n f_120_42 rfl ?_
      refine sg_bipush (nI 97) f_120_43 kb_97 ?_
      refine sg_icmp_eq 54 f_120_45 rfl (fun c45 => ?_) (fun c45 => ?_)
      · exact absurd c45 (by decide)
      · refine sg_iload_n f_120_48 rfl ?_
        refine sg_bipush (nI 98) f_120_49 kb_98 ?_
        refine sg_icmp_ne 200 f_120_51 rfl (fun c51 => ?_) (fun c51 => ?_)
        · exact absurd rfl c51
        · refine sg_aload_n f_120_54 rfl ?_
          refine sg_iconst (nI 0) f_120_55 ki_0 ?_
          refine sg_aload_n f_120_56 rfl ?_
          refine sg_getf_r f_120_57 fd_m_0_800 ?_
          refine sg_iconst (nI 0) f_120_60 ki_0 ?_
          refine sg_iaload_k 0 ok_m f_120_61 sh_m_24 rfl (by omega) h.1.2.2.2.2.1 ?_
          refine sg_iconst (nI 1) f_120_62 ki_1 ?_
          refine sg_isub (nI (s - 1)) f_120_63 (pk_sub hs) ?_
          refine sg_callv_i f_120_64 my_120_119 mr_119 rfl (Nat.le_of_ble_eq_true rfl) (Nat.le_of_ble_eq_true rfl) sh_m_0 (by decide) rfl k1 ?_
          refine sg_if_ne 72 f_120_67 rfl (fun c67 => ?_) (fun c67 => ?_)
          · exact absurd rfl c67
          · refine sg_iconst (nI 0) f_120_70 ki_0 ?_
            exact (sg_zret f_120_71 rk_120 (by first | exact Or.inl rfl | exact Or.inr rfl | assumption))
    · exact absurd c8 (by decide)
theorem sm_120 {μ0 μ : sg_S} {it s n : Nat} {T : Nat × Int32 × Nat × Nat} {x : Nat → Nat} {t : Nat → Int32} (h : sm_R μ0 μ T it s t) (hx : sm_tx μ0 x n) (hp : T.1 ≤ n) (hz : T.2.2.2 ≤ 1000) (hit : it ≤ 1000) (hs : 1 ≤ s) (hs4 : s ≤ 4) : ∃ (μ' : sg_S) (it' : Nat), sg_D tm_H 120 0 [.ref 0, ab_u, ab_u, ab_u] [] μ (some (.int (if (rd_item x n T it s t).1 = true then nI 1 else nI 0))) μ' ∧ sm_R μ0 μ' (rd_item x n T it s t).2.1 it' (rd_item x n T it s t).2.2.1 (rd_item x n T it s t).2.2.2 ∧ ((rd_item x n T it s t).1 = true → it' = it + 1) := by
  have hsrt := sm_sort_iff h.2.2.2.2.2
  unfold rd_item
  by_cases c1 : T.2.1 = nI 115
  · rw [if_pos c1]; exact sm_120_s h hx hp hz hit c1
  · rw [if_neg c1]
    by_cases c2 : T.2.1 = nI 97
    · rw [if_pos c2]; exact sm_120_a h hx hp hz hit hs hs4 c2
    · rw [if_neg c2]
      by_cases c3 : T.2.1 = nI 98
      · rw [if_pos c3]; exact sm_120_b h hx hp hz hit hs hs4 c3
      · rw [if_neg c3]
        refine ⟨μ, it, ?_, h, fun h => absurd h (show ¬ false = true by decide)⟩
        rw [if_neg (show ¬ false = true by decide)]
        refine sg_aload_n f_120_0 rfl ?_
        refine sg_getf_k f_120_1 fd_m_0_798 h.2.2.2.1 ?_
        refine sg_istore_n [_, _, _, _] f_120_4 rfl ?_
        refine sg_iload_n f_120_5 rfl ?_
        refine sg_bipush (nI 115) f_120_6 kb_115 ?_
        refine sg_icmp_ne 42 f_120_8 rfl (fun c8 => ?_) (fun c8 => ?_)
        · refine sg_iload_n f_120_42 rfl ?_
          refine sg_bipush (nI 97) f_120_43 kb_97 ?_
          refine sg_icmp_eq 54 f_120_45 rfl (fun c45 => ?_) (fun c45 => ?_)
          · exact absurd (hsrt.2.2.2.2.1.mp c45) c2
          · refine sg_iload_n f_120_48 rfl ?_
            refine sg_bipush (nI 98) f_120_49 kb_98 ?_
            refine sg_icmp_ne 200 f_120_51 rfl (fun c51 => ?_) (fun c51 => ?_)
            · refine sg_iconst (nI 0) f_120_200 ki_0 ?_
              exact (sg_zret f_120_201 rk_120 (by first | exact Or.inl rfl | exact Or.inr rfl | assumption))
            · exact absurd (hsrt.2.2.2.2.2.1.mp c51) c3
        · exact absurd (hsrt.2.2.2.2.2.2.mp c8) c1
