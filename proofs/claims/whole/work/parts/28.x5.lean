/-! the class: Cuts and Trees, the rest -/
theorem tx_Tab_r2 {σ : sg_S} {b : Nat} {f : Nat → Int64} (h : tx_Tab σ) (hb : b ≠ 8) : tx_Tab (sg_r2 σ b f) := by
  obtain ⟨h1, h2⟩ := h
  refine ⟨fun t ht => ?_, h2⟩
  obtain ⟨a1, a2, a3, a4, a5, a6, a7, a8⟩ := h1 t ht
  exact ⟨a1, a2, a3, a4, a5, a6, by rw [sg_r2_ne (fun e => hb e.symm)]; exact a7, a8⟩
def sx_mul (P Q M : Nat → Int64) (t : Nat) : Nat → Int64 := fun k => if k < t then t_tg P Q (t_st k) (t_mn k) 0 (P k) else M k
theorem sx_upd_lt {f : Nat → Int64} {M : Nat → Int64} {t : Nat} {v : Int64} (hv : v = f t) : vp_updL (fun k => if k < t then f k else M k) t v = fun k => if k < t + 1 then f k else M k := by
  subst hv
  funext j
  unfold vp_updL
  by_cases hj : j = t
  · subst hj
    simp
  · by_cases h1 : j < t
    · simp [hj, h1, show j < t + 1 by omega]
    · simp [hj, h1, show ¬ j < t + 1 by omega]
theorem sg_r2_r2 {σ : sg_S} {a : Nat} {f g : Nat → Int64} : sg_r2 (sg_r2 σ a f) a g = sg_r2 σ a g := by
  unfold sg_r2
  refine congrArg (fun z => (σ.1, z)) (funext fun k => ?_)
  by_cases h : k = a <;> simp [h]
theorem sg_r2_self {σ : sg_S} {a : Nat} {f : Nat → Int64} (h : σ.2 a = f) : sg_r2 σ a f = σ := by
  subst h
  refine Prod.ext rfl (funext fun k => ?_)
  by_cases h : k = a <;> simp [sg_r2, h]
theorem sg_r1_self {σ : sg_S} {a : Nat} {f : Nat → Int32} (h : σ.1 a = f) : sg_r1 σ a f = σ := by
  subst h
  refine Prod.ext (funext fun k => ?_) rfl
  by_cases h : k = a <;> simp [sg_r1, h]
theorem sx_9_l {σ : sg_S} {a b c : Nat} (hT : tx_Tab σ) (ha : sg_sh tx_H a = some (21, 17)) (hb : sg_sh tx_H b = some (21, 17)) (hc : sg_sh tx_H c = some (21, 17)) (hac : a ≠ c) (hbc : b ≠ c) (h8 : c ≠ 8) : ∀ n t : Nat, t + n = 17 → sg_D tx_H 9 3 [.ref 29, .ref a, .ref b, .ref c, .int (nI t)] [] (sg_r2 σ c (sx_mul (σ.2 a) (σ.2 b) (σ.2 c) t)) none (sg_r2 σ c (sx_mul (σ.2 a) (σ.2 b) (σ.2 c) 17))
  | 0, t, ht => by
    obtain rfl : t = 17 := by omega
    refine sg_iload f_9_3 rfl ?_
    refine sg_bipush (nI 17) f_9_5 kb_17 ?_
    first | refine sg_ncmp_ge 35 (by omega) (by omega) f_9_7 rfl (fun c7 => ?_) (fun c7 => ?_) | refine sg_icmp_ge 35 f_9_7 rfl (fun c7 => ?_) (fun c7 => ?_)
    · exact (sg_vret f_9_35 rk_9)
    · omega
  | n + 1, t, ht => by
    have ht17 : t < 17 := by omega
    have hs := tb_st1 t ht17
    have e8 := sx_8 (tx_Tab_r2 (f := sx_mul (σ.2 a) (σ.2 b) (σ.2 c) t) hT h8) ha hb ht17 (Nat.le_refl _)
    rw [sg_r2_ne hac, sg_r2_ne hbc] at e8
    refine sg_iload f_9_3 rfl ?_
    refine sg_bipush (nI 17) f_9_5 kb_17 ?_
    first | refine sg_ncmp_ge 35 (by omega) (by omega) f_9_7 rfl (fun c7 => ?_) (fun c7 => ?_) | refine sg_icmp_ge 35 f_9_7 rfl (fun c7 => ?_) (fun c7 => ?_)
    · omega
    · refine sg_aload_n f_9_10 rfl ?_
      refine sg_iload f_9_11 rfl ?_
      refine sg_aload_n f_9_13 rfl ?_
      refine sg_aload_n f_9_14 rfl ?_
      refine sg_aload_n f_9_15 rfl ?_
      refine sg_iload f_9_16 rfl ?_
      refine sg_aload_n f_9_18 rfl ?_
      refine sg_getf_r f_9_19 fd_x_29_1 ?_
      refine sg_iload f_9_22 rfl ?_
      refine sg_iaload_k t ok_x f_9_24 sh_x_31 rfl (by omega) (show (sg_r2 σ c _).1 31 t = _ from (hT.1 t ht17).2.2.2.2.2.2.2.2) ?_
      refine sg_callv_l f_9_25 my_9_8 mr_8 rfl (Nat.le_of_ble_eq_true rfl) (Nat.le_of_ble_eq_true rfl) sh_x_29 (by decide) rfl e8 ?_
      refine sg_lastore _ ok_x f_9_28 hc rfl (by omega) ?_
      first | refine sg_iinc _ [_, _, _, _, _] f_9_29 rfl (sg_inc1 _) rfl ?_ | refine sg_iinc _ [_, _, _, _, _] f_9_29 rfl rfl rfl ?_
      refine sg_goto 3 f_9_32 rfl ?_
      refine sg_from ?_ (sx_9_l hT ha hb hc hac hbc h8 n (t + 1) (by omega))
      rw [sg_r2_r2, sg_r2_eq]
      unfold sx_mul
      rw [sx_upd_lt rfl]
theorem sx_9 {σ : sg_S} {a b c : Nat} (hT : tx_Tab σ) (ha : sg_sh tx_H a = some (21, 17)) (hb : sg_sh tx_H b = some (21, 17)) (hc : sg_sh tx_H c = some (21, 17)) (hac : a ≠ c) (hbc : b ≠ c) (h8 : c ≠ 8) : sg_D tx_H 9 0 [.ref 29, .ref a, .ref b, .ref c, ab_u] [] σ none (sg_r2 σ c (sx_mul (σ.2 a) (σ.2 b) (σ.2 c) 17)) := by
  refine sg_iconst (nI 0) f_9_0 ki_0 ?_
  refine sg_istore [_, _, _, _, _] f_9_1 rfl ?_
  refine sg_from ?_ (sx_9_l hT ha hb hc hac hbc h8 17 0 rfl)
  exact (sg_r2_self (by funext k; simp [sx_mul])).symm
/-- the inverse, t trees of it -/
def t_iv (P M : Nat → Int64) : Nat → Nat → Int64
  | 0 => M
  | t + 1 => vp_updL (t_iv P M t) t (-(t_tg P (t_iv P M t) (t_st t) (t_mn t - 1) 0 (P t)))
theorem sx_10_l {σ : sg_S} {a c : Nat} (hT : tx_Tab σ) (ha : sg_sh tx_H a = some (21, 17)) (hc : sg_sh tx_H c = some (21, 17)) (hac : a ≠ c) (h8 : c ≠ 8) : ∀ n t : Nat, t + n = 17 → sg_D tx_H 10 2 [.ref 29, .ref a, .ref c, .int (nI t)] [] (sg_r2 σ c (t_iv (σ.2 a) (σ.2 c) t)) none (sg_r2 σ c (t_iv (σ.2 a) (σ.2 c) 17))
  | 0, t, ht => by
    obtain rfl : t = 17 := by omega
    refine sg_iload_n f_10_2 rfl ?_
    refine sg_bipush (nI 17) f_10_3 kb_17 ?_
    first | refine sg_ncmp_ge 33 (by omega) (by omega) f_10_5 rfl (fun c5 => ?_) (fun c5 => ?_) | refine sg_icmp_ge 33 f_10_5 rfl (fun c5 => ?_) (fun c5 => ?_)
    · exact (sg_vret f_10_33 rk_10)
    · omega
  | n + 1, t, ht => by
    have ht17 : t < 17 := by omega
    have hs := tb_st1 t ht17
    have e8 := sx_8 (tx_Tab_r2 (f := t_iv (σ.2 a) (σ.2 c) t) hT h8) ha hc ht17 (Nat.sub_le (t_mn t) 1)
    rw [sg_r2_ne hac, sg_r2_eq] at e8
    refine sg_iload_n f_10_2 rfl ?_
    refine sg_bipush (nI 17) f_10_3 kb_17 ?_
    first | refine sg_ncmp_ge 33 (by omega) (by omega) f_10_5 rfl (fun c5 => ?_) (fun c5 => ?_) | refine sg_icmp_ge 33 f_10_5 rfl (fun c5 => ?_) (fun c5 => ?_)
    · omega
    · refine sg_aload_n f_10_8 rfl ?_
      refine sg_iload_n f_10_9 rfl ?_
      refine sg_aload_n f_10_10 rfl ?_
      refine sg_aload_n f_10_11 rfl ?_
      refine sg_aload_n f_10_12 rfl ?_
      refine sg_iload_n f_10_13 rfl ?_
      refine sg_aload_n f_10_14 rfl ?_
      refine sg_getf_r f_10_15 fd_x_29_1 ?_
      refine sg_iload_n f_10_18 rfl ?_
      refine sg_iaload_k t ok_x f_10_19 sh_x_31 rfl (by omega) (show (sg_r2 σ c _).1 31 t = _ from (hT.1 t ht17).2.2.2.2.2.2.2.2) ?_
      refine sg_iconst (nI 1) f_10_20 ki_1 ?_
      refine sg_isub (nI (t_mn t - 1)) f_10_21 (pk_sub hs.2.1) ?_
      refine sg_callv_l f_10_22 my_10_8 mr_8 rfl (Nat.le_of_ble_eq_true rfl) (Nat.le_of_ble_eq_true rfl) sh_x_29 (by decide) rfl e8 ?_
      refine sg_lneg _ f_10_25 rfl ?_
      refine sg_lastore _ ok_x f_10_26 hc rfl (by omega) ?_
      first | refine sg_iinc _ [_, _, _, _] f_10_27 rfl (sg_inc1 _) rfl ?_ | refine sg_iinc _ [_, _, _, _] f_10_27 rfl rfl rfl ?_
      refine sg_goto 2 f_10_30 rfl ?_
      refine sg_from ?_ (sx_10_l hT ha hc hac h8 n (t + 1) (by omega))
      rw [sg_r2_r2, sg_r2_eq]
      rfl
theorem sx_10 {σ : sg_S} {a c : Nat} (hT : tx_Tab σ) (ha : sg_sh tx_H a = some (21, 17)) (hc : sg_sh tx_H c = some (21, 17)) (hac : a ≠ c) (h8 : c ≠ 8) : sg_D tx_H 10 0 [.ref 29, .ref a, .ref c, ab_u] [] σ none (sg_r2 σ c (t_iv (σ.2 a) (σ.2 c) 17)) := by
  refine sg_iconst (nI 0) f_10_0 ki_0 ?_
  refine sg_istore_n [_, _, _, _] f_10_1 rfl ?_
  refine sg_from ?_ (sx_10_l hT ha hc hac h8 17 0 rfl)
  exact (sg_r2_self rfl).symm
/-- pruned -/
theorem sx_5_in {σ : sg_S} {c i : Nat} (hT : tx_Tab σ) (hc : c < 115) (hi : i < t_pr c) : sg_D tx_H 5 0 [.ref 29, .int (nI c), .int (nI i)] [] σ (some (.int (nI (t_fo (c * 4 + i))))) σ := by
  have hp := tb_lf1 c hc
  refine sg_iload_n f_5_0 rfl ?_
  refine sg_aload_n f_5_1 rfl ?_
  refine sg_getf_r f_5_2 fd_x_29_3 ?_
  refine sg_iload_n f_5_5 rfl ?_
  refine sg_iaload_k c ok_x f_5_6 sh_x_33 rfl (by omega) (hT.2.2.1 c hc).2 ?_
  first | refine sg_ncmp_ge 23 (by omega) (by omega) f_5_7 rfl (fun c7 => ?_) (fun c7 => ?_) | refine sg_icmp_ge 23 f_5_7 rfl (fun c7 => ?_) (fun c7 => ?_)
  · omega
  · refine sg_aload_n f_5_10 rfl ?_
    refine sg_getf_r f_5_11 fd_x_29_4 ?_
    refine sg_iload_n f_5_14 rfl ?_
    refine sg_iconst (nI 4) f_5_15 ki_4 ?_
    first | refine sg_imul _ f_5_16 (pk_mul _ _) ?_ | refine sg_imul _ f_5_16 rfl ?_
    refine sg_iload_n f_5_17 rfl ?_
    first | refine sg_iadd _ f_5_18 (nI_add _ _) ?_ | refine sg_iadd _ f_5_18 rfl ?_
    refine sg_iaload_k (c * 4 + i) ok_x f_5_19 sh_x_34 rfl (by omega) (hT.2.2.2 (c * 4 + i) (by omega)) ?_
    refine sg_goto 25 f_5_20 rfl ?_
    exact (sg_iret f_5_25 rk_5)
theorem sx_5_out {σ : sg_S} {c : Nat} {i : Int32} (hT : tx_Tab σ) (hc : c < 115) (hi : nI (t_pr c) ≤ i) : sg_D tx_H 5 0 [.ref 29, .int (nI c), .int i] [] σ (some (.int (-9))) σ := by
  refine sg_iload_n f_5_0 rfl ?_
  refine sg_aload_n f_5_1 rfl ?_
  refine sg_getf_r f_5_2 fd_x_29_3 ?_
  refine sg_iload_n f_5_5 rfl ?_
  refine sg_iaload_k c ok_x f_5_6 sh_x_33 rfl (by omega) (hT.2.2.1 c hc).2 ?_
  refine sg_icmp_ge 23 f_5_7 rfl (fun c7 => ?_) (fun c7 => ?_)
  · refine sg_bipush (-9) f_5_23 kb_m9 ?_
    exact (sg_iret f_5_25 rk_5)
  · exact absurd hi c7
/-- how many cuts leave a tree -/
def t_hm (s w : Nat) : Nat → Nat → Nat → Nat
  | 0, _, acc => acc
  | n + 1, k, acc => t_hm s w n (k + 1) (if t_lf (s + k) = w then acc + 1 else acc)
theorem sx_6_l {σ : sg_S} {t w : Nat} (hT : tx_Tab σ) (ht : t < 17) (hw : w < 17) : ∀ n k : Nat, k + n = t_mn t → ∀ acc : Nat, sg_D tx_H 6 5 [.ref 29, .int (nI t), .int (nI w), .int (nI acc), .int (nI k)] [] σ (some (.int (nI (t_hm (t_st t) w n k acc)))) σ
  | 0, k, hk, acc => by
    have hs := tb_st1 t ht
    refine sg_iload f_6_5 rfl ?_
    refine sg_aload_n f_6_7 rfl ?_
    refine sg_getf_r f_6_8 fd_x_29_1 ?_
    refine sg_iload_n f_6_11 rfl ?_
    refine sg_iaload_k t ok_x f_6_12 sh_x_31 rfl (by omega) (hT.1 t ht).2.2.2.2.2.2.2.2 ?_
    first | refine sg_ncmp_ge 43 (by omega) (by omega) f_6_13 rfl (fun c13 => ?_) (fun c13 => ?_) | refine sg_icmp_ge 43 f_6_13 rfl (fun c13 => ?_) (fun c13 => ?_)
    · refine sg_iload_n f_6_43 rfl ?_
      exact (sg_iret f_6_44 rk_6)
    · omega
  | n + 1, k, hk, acc => by
    have hs := tb_st1 t ht
    have hl := tb_lf1 (t_st t + k) (by omega)
    refine sg_iload f_6_5 rfl ?_
    refine sg_aload_n f_6_7 rfl ?_
    refine sg_getf_r f_6_8 fd_x_29_1 ?_
    refine sg_iload_n f_6_11 rfl ?_
    refine sg_iaload_k t ok_x f_6_12 sh_x_31 rfl (by omega) (hT.1 t ht).2.2.2.2.2.2.2.2 ?_
    first | refine sg_ncmp_ge 43 (by omega) (by omega) f_6_13 rfl (fun c13 => ?_) (fun c13 => ?_) | refine sg_icmp_ge 43 f_6_13 rfl (fun c13 => ?_) (fun c13 => ?_)
    · omega
    · refine sg_aload_n f_6_16 rfl ?_
      refine sg_getf_r f_6_17 fd_x_29_2 ?_
      refine sg_aload_n f_6_20 rfl ?_
      refine sg_getf_r f_6_21 fd_x_29_0 ?_
      refine sg_iload_n f_6_24 rfl ?_
      refine sg_iaload_k t ok_x f_6_25 sh_x_30 rfl (by omega) (hT.1 t ht).2.2.2.2.2.2.2.1 ?_
      refine sg_iload f_6_26 rfl ?_
      first | refine sg_iadd _ f_6_28 (nI_add _ _) ?_ | refine sg_iadd _ f_6_28 rfl ?_
      refine sg_iaload_k (t_st t + k) ok_x f_6_29 sh_x_32 rfl (by omega) (hT.2.2.1 (t_st t + k) (by omega)).1 ?_
      refine sg_iload_n f_6_30 rfl ?_
      first | refine sg_ncmp_ne 37 (by omega) (by omega) f_6_31 rfl (fun c31 => ?_) (fun c31 => ?_) | refine sg_icmp_ne 37 f_6_31 rfl (fun c31 => ?_) (fun c31 => ?_)
      · rw [t_hm, if_neg c31]
        first | refine sg_iinc _ [_, _, _, _, _] f_6_37 rfl (sg_inc1 _) rfl ?_ | refine sg_iinc _ [_, _, _, _, _] f_6_37 rfl rfl rfl ?_
        refine sg_goto 5 f_6_40 rfl ?_
        exact sx_6_l hT ht hw n (k + 1) (by omega) _
      · rw [t_hm, if_pos c31]
        first | refine sg_iinc _ [_, _, _, _, _] f_6_34 rfl (sg_inc1 _) rfl ?_ | refine sg_iinc _ [_, _, _, _, _] f_6_34 rfl rfl rfl ?_
        first | refine sg_iinc _ [_, _, _, _, _] f_6_37 rfl (sg_inc1 _) rfl ?_ | refine sg_iinc _ [_, _, _, _, _] f_6_37 rfl rfl rfl ?_
        refine sg_goto 5 f_6_40 rfl ?_
        exact sx_6_l hT ht hw n (k + 1) (by omega) _
theorem sx_6 {σ : sg_S} {t w : Nat} (hT : tx_Tab σ) (ht : t < 17) (hw : w < 17) : sg_D tx_H 6 0 [.ref 29, .int (nI t), .int (nI w), ab_u, ab_u] [] σ (some (.int (nI (t_hm (t_st t) w (t_mn t) 0 0)))) σ := by
  refine sg_iconst (nI 0) f_6_0 ki_0 ?_
  refine sg_istore_n [_, _, _, _, _] f_6_1 rfl ?_
  refine sg_iconst (nI 0) f_6_2 ki_0 ?_
  refine sg_istore [_, _, _, _, _] f_6_3 rfl ?_
  exact sx_6_l hT ht hw (t_mn t) 0 (by omega) 0
/-- grafted -/
def t_gi (u v : Nat) : Int32 := if t_gr (17 * u + v) = 17 then -9 else nI (t_gr (17 * u + v))
theorem sx_el_g : ∀ u, u < 17 → sg_el tx_H 9 u = some (.ref (10 + u)) ∧ sg_sh tx_H (10 + u) = some (20, 17) := by decide +kernel
theorem sx_55 {σ : sg_S} {u v : Nat} (hT : tx_Tab σ) (hu : u < 17) (hv : v < 17) : sg_D tx_H 55 0 [.ref 1, .int (nI u), .int (nI v)] [] σ (some (.int (t_gi u v))) σ := by
  refine sg_iload_n f_55_0 rfl ?_
  refine sg_calls_i f_55_1 my_55_94 mr_94 (by decide) rfl (Nat.le_of_ble_eq_true rfl) (Nat.le_of_ble_eq_true rfl) rfl (sx_94_1 hu) ?_
  refine sg_if_eq 25 f_55_4 rfl (fun c4 => ?_) (fun c4 => ?_)
  · exact absurd c4 (by decide)
  · refine sg_iload_n f_55_7 rfl ?_
    refine sg_calls_i f_55_8 my_55_94 mr_94 (by decide) rfl (Nat.le_of_ble_eq_true rfl) (Nat.le_of_ble_eq_true rfl) rfl (sx_94_1 hv) ?_
    refine sg_if_eq 25 f_55_11 rfl (fun c11 => ?_) (fun c11 => ?_)
    · exact absurd c11 (by decide)
    · refine sg_aload_n f_55_14 rfl ?_
      refine sg_getf_r f_55_15 fd_x_1_583 ?_
      refine sg_iload_n f_55_18 rfl ?_
      refine sg_aaload u f_55_19 rfl (sx_el_g u hu).1 (by omega) ?_
      refine sg_iload_n f_55_20 rfl ?_
      refine sg_iaload_k v ok_x f_55_21 (sx_el_g u hu).2 rfl (by omega) (hT.2.1 u hu v hv) ?_ (by decide) (by omega)
      refine sg_goto 27 f_55_22 rfl ?_
      exact (sg_iret f_55_27 rk_55)
