/-! a tree's text, read by both -/
def t_up {α : Type} (f : Nat → α) (k : Nat) (v : α) : Nat → α := fun i => if i = k then v else f i
theorem t_up_s {α : Type} {f : Nat → α} {k : Nat} {v : α} : t_up f k v k = v := if_pos rfl
theorem t_up_n {α : Type} {f : Nat → α} {k i : Nat} {v : α} (h : i ≠ k) : t_up f k v i = f i := if_neg h
theorem t_gf_congr {g g' : Nat → Nat} : ∀ n, (∀ i, i < n → g i = g' i) → t_gf g n = t_gf g' n
  | 0, _ => rfl
  | n + 1, h => by rw [t_gf, t_gf, t_gf_congr n (fun i hi => h i (by omega)), h n (by omega)]
theorem t_ns_congr {g g' : Nat → Nat} : ∀ n, (∀ i, i < n → g i = g' i) → t_ns g n = t_ns g' n
  | 0, _ => rfl
  | n + 1, h => by rw [t_ns, t_ns, t_ns_congr n (fun i hi => h i (by omega)), h n (by omega)]
def t_nl (c : Nat → Nat) (L : Nat → Nat → Nat) : Nat → Nat
  | 0 => 0
  | d + 1 => t_nl c L d + (1 + t_ns (L d) (c d))
theorem t_nl_congr {c c' : Nat → Nat} {L L' : Nat → Nat → Nat} : ∀ d, (∀ i, i < d → c i = c' i ∧ L i = L' i) → t_nl c L d = t_nl c' L' d
  | 0, _ => rfl
  | d + 1, h => by rw [t_nl, t_nl, t_nl_congr d (fun i hi => h i (by omega)), (h d (by omega)).1, (h d (by omega)).2]
theorem t_nl_ge {c : Nat → Nat} {L : Nat → Nat → Nat} : ∀ d, d ≤ t_nl c L d
  | 0 => Nat.le_refl _
  | d + 1 => by rw [t_nl]; have := t_nl_ge (c := c) (L := L) d; omega
/-- nothing but the model's rows and what is open has changed -/
def sm_tF (μ μ' : sg_S) : Prop := μ'.2 = μ.2 ∧ (∀ a, a ≠ 0 → a < 21 ∨ 23 < a → μ'.1 a = μ.1 a) ∧ ∀ j, j ≠ 25 → μ'.1 0 j = μ.1 0 j
def sm_tG (μ μ' : sg_S) : Prop := μ'.2 = μ.2 ∧ (∀ a, a ≠ 0 → a < 21 ∨ 23 < a → μ'.1 a = μ.1 a) ∧ (∀ j, j ≠ 25 → j ≠ 12 → μ'.1 0 j = μ.1 0 j) ∧ μ'.1 0 12 = nI 0
theorem sm_tF_tr {μ μ1 μ2 : sg_S} (h : sm_tF μ μ1) (h2 : sm_tF μ1 μ2) : sm_tF μ μ2 := ⟨h2.1.trans h.1, fun a p q => (h2.2.1 a p q).trans (h.2.1 a p q), fun j p => (h2.2.2 j p).trans (h.2.2 j p)⟩
theorem sm_fr_tF {μ μ' : sg_S} (h : sm_fr μ μ') : sm_tF μ μ' := ⟨h.1, fun a p q => h.2.1 a (by omega) p, h.2.2⟩
def sm_tr (μ μ' : sg_S) (v : Int32) : Prop := (∃ t, t < 17 ∧ v = nI t ∧ sm_tG μ μ') ∨ ∃ q, q ≤ 160 ∧ v = -10 - nI q ∧ sm_tF μ μ'
/-- a whole tree has been told: nothing but blanks may come -/
theorem tr_B {σ μ : sg_S} {x : Nat → Nat} {n t m : Nat} (hx : sx_tx σ x n) (hy : sm_tx μ x n) (h3 : σ.1 48 3 = nI 0) (h4 : σ.1 48 4 = nI m) (hm : 0 < m) (hm5 : m ≤ 5) (h0 : σ.1 49 0 = nI t) (ht : t < 17) : ∀ rem k : Nat, k + rem = n → ∃ (v : Int32) (μ' : sg_S), (∀ l2 : Value, sg_D tx_H 47 12 [.ref 48, .int (nI k), l2] [] σ (some (.int v)) σ) ∧ (∀ l5 l6 : Value, sg_D tm_H 117 10 [.ref 0, .int (nI 0), .int (nI m), .int (nI t), .int (nI k), l5, l6] [] μ (some (.int v)) μ') ∧ sm_tr μ μ' v := by
  have h160 := hx.2.1
  intro rem
  induction rem with
  | zero =>
    intro k hk
    obtain rfl : k = n := by omega
    refine ⟨nI t, sg_r1 μ 0 (upd (μ.1 0) 12 (nI 0)), fun l2 => ?_, fun l5 l6 => ?_, Or.inl ⟨t, ht, rfl, rfl, fun a p q => sg_r1_ne p, fun j p q => by rw [sg_r1_eq, pk_un q], by rw [sg_r1_eq, pk_us]⟩⟩
    · skip
      refine sg_iload_n f_47_12 rfl ?_
      refine sg_aload_n f_47_13 rfl ?_
      refine sg_getf_r f_47_14 fd_x_48_513 ?_
      refine sg_getf_k f_47_17 fd_x_46_385 hx.1 ?_
      first | refine sg_ncmp_ge 57 (by omega) (by omega) f_47_20 rfl (fun c20 => ?_) (fun c20 => ?_) | refine sg_icmp_ge 57 f_47_20 rfl (fun c20 => ?_) (fun c20 => ?_)
      · refine sg_aload_n f_47_57 rfl ?_
        refine sg_callv_i f_47_58 my_47_48 mr_48 rfl (Nat.le_of_ble_eq_true rfl) (Nat.le_of_ble_eq_true rfl) sh_x_48 (by decide) rfl (sx_48_1 h3 h4 hm hm5) ?_
        refine sg_if_eq 73 f_47_61 rfl (fun c61 => ?_) (fun c61 => ?_)
        · exact absurd c61 (by decide)
        · refine sg_aload_n f_47_64 rfl ?_
          refine sg_getf_r f_47_65 fd_x_48_514 ?_
          refine sg_iconst (nI 0) f_47_68 ki_0 ?_
          refine sg_iaload_k 0 ok_x f_47_69 sh_x_49 rfl (by omega) h0 ?_
          refine sg_goto 83 f_47_70 rfl ?_
          exact (sg_iret f_47_83 rk_47)
      · omega
    · skip
      refine sg_iload f_117_10 rfl ?_
      refine sg_aload_n f_117_12 rfl ?_
      refine sg_getf_k f_117_13 fd_m_0_780 hy.1 ?_
      first | refine sg_ncmp_ge 208 (by omega) (by omega) f_117_16 rfl (fun c16 => ?_) (fun c16 => ?_) | refine sg_icmp_ge 208 f_117_16 rfl (fun c16 => ?_) (fun c16 => ?_)
      · refine sg_iload_n f_117_208 rfl ?_
        refine sg_bipush (-9) f_117_209 kb_m9 ?_
        refine sg_icmp_ne 222 f_117_211 rfl (fun c211 => ?_) (fun c211 => ?_)
        · refine sg_aload_n f_117_222 rfl ?_
          refine sg_iconst (nI 0) f_117_223 ki_0 ?_
          refine sg_putf_j 12 f_117_224 (by decide) fd_m_0_780 rfl ?_
          refine sg_iload_n f_117_227 rfl ?_
          exact (sg_iret f_117_228 rk_117)
        · exact absurd c211 (sg_ne_m9 (by omega))
      · omega
  | succ rem ih =>
    intro k hk
    have hkn : k < n := by omega
    have hc := (hx.2.2 k hkn).2
    obtain ⟨v, μ', a1, a2, a3⟩ := ih (k + 1) (by omega)
    by_cases h32 : x k = 32
    · refine ⟨v, μ', fun l2 => ?_, fun l5 l6 => ?_, a3⟩
      · skip
        refine sg_iload_n f_47_12 rfl ?_
        refine sg_aload_n f_47_13 rfl ?_
        refine sg_getf_r f_47_14 fd_x_48_513 ?_
        refine sg_getf_k f_47_17 fd_x_46_385 hx.1 ?_
        first | refine sg_ncmp_ge 57 (by omega) (by omega) f_47_20 rfl (fun c20 => ?_) (fun c20 => ?_) | refine sg_icmp_ge 57 f_47_20 rfl (fun c20 => ?_) (fun c20 => ?_)
        · omega
        · refine sg_aload_n f_47_23 rfl ?_
          refine sg_getf_r f_47_24 fd_x_48_513 ?_
          refine sg_iload_n f_47_27 rfl ?_
          refine sg_callv_i f_47_28 my_47_39 mr_39 rfl (Nat.le_of_ble_eq_true rfl) (Nat.le_of_ble_eq_true rfl) sh_x_46 (by decide) rfl (sx_39_t hx hkn) ?_
          refine sg_istore_n [_, _, _] f_47_31 rfl ?_
          refine sg_iload_n f_47_32 rfl ?_
          refine sg_bipush (nI 32) f_47_33 kb_32 ?_
          first | refine sg_ncmp_eq 51 (by omega) (by omega) f_47_35 rfl (fun c35 => ?_) (fun c35 => ?_) | refine sg_icmp_eq 51 f_47_35 rfl (fun c35 => ?_) (fun c35 => ?_)
          · first | refine sg_iinc _ [_, _, _] f_47_51 rfl (sg_inc1 _) rfl ?_ | refine sg_iinc _ [_, _, _] f_47_51 rfl rfl rfl ?_
            refine sg_goto 12 f_47_54 rfl ?_
            exact a1 _
          · omega
      · skip
        refine sg_iload f_117_10 rfl ?_
        refine sg_aload_n f_117_12 rfl ?_
        refine sg_getf_k f_117_13 fd_m_0_780 hy.1 ?_
        first | refine sg_ncmp_ge 208 (by omega) (by omega) f_117_16 rfl (fun c16 => ?_) (fun c16 => ?_) | refine sg_icmp_ge 208 f_117_16 rfl (fun c16 => ?_) (fun c16 => ?_)
        · omega
        · refine sg_aload_n f_117_19 rfl ?_
          refine sg_getf_r f_117_20 fd_m_0_779 ?_
          refine sg_iload f_117_23 rfl ?_
          refine sg_iaload_k k ok_m f_117_25 sh_m_11 rfl (by omega) (hy.2.2 k hkn).1 ?_
          refine sg_istore [_, _, _, _, _, _, _] f_117_26 rfl ?_
          refine sg_iload f_117_28 rfl ?_
          refine sg_bipush (nI 32) f_117_30 kb_32 ?_
          first | refine sg_ncmp_ne 38 (by omega) (by omega) f_117_32 rfl (fun c32 => ?_) (fun c32 => ?_) | refine sg_icmp_ne 38 f_117_32 rfl (fun c32 => ?_) (fun c32 => ?_)
          · omega
          · refine sg_goto 202 f_117_35 rfl ?_
            first | refine sg_iinc _ [_, _, _, _, _, _, _] f_117_202 rfl (sg_inc1 _) rfl ?_ | refine sg_iinc _ [_, _, _, _, _, _, _] f_117_202 rfl rfl rfl ?_
            refine sg_goto 10 f_117_205 rfl ?_
            exact a2 _ _
    · refine ⟨-10 - nI k, μ, fun l2 => ?_, fun l5 l6 => ?_, Or.inr ⟨k, by omega, rfl, rfl, fun _ _ _ => rfl, fun _ _ => rfl⟩⟩
      · skip
        refine sg_iload_n f_47_12 rfl ?_
        refine sg_aload_n f_47_13 rfl ?_
        refine sg_getf_r f_47_14 fd_x_48_513 ?_
        refine sg_getf_k f_47_17 fd_x_46_385 hx.1 ?_
        first | refine sg_ncmp_ge 57 (by omega) (by omega) f_47_20 rfl (fun c20 => ?_) (fun c20 => ?_) | refine sg_icmp_ge 57 f_47_20 rfl (fun c20 => ?_) (fun c20 => ?_)
        · omega
        · refine sg_aload_n f_47_23 rfl ?_
          refine sg_getf_r f_47_24 fd_x_48_513 ?_
          refine sg_iload_n f_47_27 rfl ?_
          refine sg_callv_i f_47_28 my_47_39 mr_39 rfl (Nat.le_of_ble_eq_true rfl) (Nat.le_of_ble_eq_true rfl) sh_x_46 (by decide) rfl (sx_39_t hx hkn) ?_
          refine sg_istore_n [_, _, _] f_47_31 rfl ?_
          refine sg_iload_n f_47_32 rfl ?_
          refine sg_bipush (nI 32) f_47_33 kb_32 ?_
          first | refine sg_ncmp_eq 51 (by omega) (by omega) f_47_35 rfl (fun c35 => ?_) (fun c35 => ?_) | refine sg_icmp_eq 51 f_47_35 rfl (fun c35 => ?_) (fun c35 => ?_)
          · omega
          · refine sg_aload_n f_47_38 rfl ?_
            refine sg_iload_n f_47_39 rfl ?_
            refine sg_callv_i f_47_40 my_47_49 mr_49 rfl (Nat.le_of_ble_eq_true rfl) (Nat.le_of_ble_eq_true rfl) sh_x_48 (by decide) rfl (sx_49_n h3 h4 hc (by omega) hm5 (Or.inr (Or.inr ⟨rfl, hm⟩)) (Or.inr rfl)) ?_
            refine sg_if_ne 51 f_47_43 rfl (fun c43 => ?_) (fun c43 => ?_)
            · exact absurd rfl c43
            · refine sg_bipush (-10) f_47_46 kb_m10 ?_
              refine sg_iload_n f_47_48 rfl ?_
              refine sg_isub _ f_47_49 rfl ?_
              exact (sg_iret f_47_50 rk_47)
      · skip
        refine sg_iload f_117_10 rfl ?_
        refine sg_aload_n f_117_12 rfl ?_
        refine sg_getf_k f_117_13 fd_m_0_780 hy.1 ?_
        first | refine sg_ncmp_ge 208 (by omega) (by omega) f_117_16 rfl (fun c16 => ?_) (fun c16 => ?_) | refine sg_icmp_ge 208 f_117_16 rfl (fun c16 => ?_) (fun c16 => ?_)
        · omega
        · refine sg_aload_n f_117_19 rfl ?_
          refine sg_getf_r f_117_20 fd_m_0_779 ?_
          refine sg_iload f_117_23 rfl ?_
          refine sg_iaload_k k ok_m f_117_25 sh_m_11 rfl (by omega) (hy.2.2 k hkn).1 ?_
          refine sg_istore [_, _, _, _, _, _, _] f_117_26 rfl ?_
          refine sg_iload f_117_28 rfl ?_
          refine sg_bipush (nI 32) f_117_30 kb_32 ?_
          first | refine sg_ncmp_ne 38 (by omega) (by omega) f_117_32 rfl (fun c32 => ?_) (fun c32 => ?_) | refine sg_icmp_ne 38 f_117_32 rfl (fun c32 => ?_) (fun c32 => ?_)
          · refine sg_iload_n f_117_38 rfl ?_
            refine sg_bipush (-9) f_117_39 kb_m9 ?_
            refine sg_icmp_ne 81 f_117_41 rfl (fun c41 => ?_) (fun c41 => ?_)
            · refine sg_bipush (-10) f_117_81 kb_m10 ?_
              refine sg_iload f_117_83 rfl ?_
              refine sg_isub _ f_117_85 rfl ?_
              exact (sg_iret f_117_86 rk_117)
            · exact absurd c41 (sg_ne_m9 (by omega))
          · omega
/-- a level is closed: the row of its children, and the tree of that row -/
theorem sm_117_r {μ0 : sg_S} {e n m : Nat} {w kk cc : Int32} {g : Nat → Nat} (he : e < 5) (hn4 : n ≤ 4) (hm : μ0.1 23 e = nI n) (hg : ∀ j, j < n → μ0.1 22 (5 * e + j) = nI (g j) ∧ g j < 17) : ∀ r i : Nat, i + r = n → ∀ μ : sg_S, sm_fr μ0 μ → sm_rw μ i (t_rl g i) → ∃ μ1 : sg_S, sm_fr μ0 μ1 ∧ sm_rw μ1 n (t_rl g n) ∧ ∀ rr μ', sg_D tm_H 117 153 [.ref 0, .int (nI e), .int (nI m), .int w, .int kk, .int cc, .int (nI n)] [] μ1 rr μ' → sg_D tm_H 117 121 [.ref 0, .int (nI e), .int (nI m), .int w, .int kk, .int cc, .int (nI i)] [] μ rr μ' := by
  intro r
  induction r with
  | zero =>
    intro i hi μ hF hR
    obtain rfl : i = n := by omega
    refine ⟨μ, hF, hR, fun rr μ' kkk => ?_⟩
    refine sg_iload f_117_121 rfl ?_
    refine sg_aload_n f_117_123 rfl ?_
    refine sg_getf_r f_117_124 fd_m_0_795 ?_
    refine sg_iload_n f_117_127 rfl ?_
    refine sg_iaload_k e ok_m f_117_128 sh_m_23 rfl (by omega) (show _ = nI i by rw [hF.2.1 23 (by omega) (by omega)]; exact hm) ?_
    first | refine sg_ncmp_ge 153 (by omega) (by omega) f_117_129 rfl (fun c129 => ?_) (fun c129 => ?_) | refine sg_icmp_ge 153 f_117_129 rfl (fun c129 => ?_) (fun c129 => ?_)
    · exact kkk
    · omega
  | succ r ih =>
    intro i hi μ hF hR
    obtain ⟨μa, ka, hRa, hFa⟩ := sm_103 (c := g i) hR (by omega) (hg i (by omega)).2
    obtain ⟨μ1, h1, h2, h3⟩ := ih (i + 1) (by omega) μa (sm_fr_tr hF hFa) hRa
    refine ⟨μ1, h1, h2, fun rr μ' kkk => ?_⟩
    refine sg_iload f_117_121 rfl ?_
    refine sg_aload_n f_117_123 rfl ?_
    refine sg_getf_r f_117_124 fd_m_0_795 ?_
    refine sg_iload_n f_117_127 rfl ?_
    refine sg_iaload_k e ok_m f_117_128 sh_m_23 rfl (by omega) (show _ = nI n by rw [hF.2.1 23 (by omega) (by omega)]; exact hm) ?_
    first | refine sg_ncmp_ge 153 (by omega) (by omega) f_117_129 rfl (fun c129 => ?_) (fun c129 => ?_) | refine sg_icmp_ge 153 f_117_129 rfl (fun c129 => ?_) (fun c129 => ?_)
    · omega
    · refine sg_aload_n f_117_132 rfl ?_
      refine sg_aload_n f_117_133 rfl ?_
      refine sg_getf_r f_117_134 fd_m_0_794 ?_
      refine sg_iconst (nI 5) f_117_137 ki_5 ?_
      refine sg_iload_n f_117_138 rfl ?_
      first | refine sg_imul _ f_117_139 (pk_mul _ _) ?_ | refine sg_imul _ f_117_139 rfl ?_
      refine sg_iload f_117_140 rfl ?_
      first | refine sg_iadd _ f_117_142 (nI_add _ _) ?_ | refine sg_iadd _ f_117_142 rfl ?_
      refine sg_iaload_k (5 * e + i) ok_m f_117_143 sh_m_22 rfl (by omega) (show _ = nI (g i) by rw [hF.2.1 22 (by omega) (by omega)]; exact (hg i (by omega)).1) ?_
      refine sg_callv_v f_117_144 my_117_103 mr_103 rfl (Nat.le_of_ble_eq_true rfl) (Nat.le_of_ble_eq_true rfl) sh_m_0 (by decide) rfl ka ?_
      first | refine sg_iinc _ [_, _, _, _, _, _, _] f_117_147 rfl (sg_inc1 _) rfl ?_ | refine sg_iinc _ [_, _, _, _, _, _, _] f_117_147 rfl rfl rfl ?_
      refine sg_goto 121 f_117_150 rfl ?_
      exact h3 rr μ' kkk
theorem sm_117_c {μ : sg_S} {e n m : Nat} {kk cc : Int32} {g : Nat → Nat} (hT : tm_Tab μ) (he : e < 5) (hm : μ.1 23 e = nI n) (hg : ∀ j, j < n → μ.1 22 (5 * e + j) = nI (g j) ∧ g j < 17) (hs : t_ns g n ≤ 4) : ∃ μ1 : sg_S, sm_fr μ μ1 ∧ ∀ rr μ', sg_D tm_H 117 159 [.ref 0, .int (nI e), .int (nI m), .int (-9), .int kk, .int cc, .int (nI (t_gf g n))] [] μ1 rr μ' → ∀ l6 : Value, sg_D tm_H 117 110 [.ref 0, .int (nI (e + 1)), .int (nI m), .int (-9), .int kk, .int cc, l6] [] μ rr μ' := by
  have hg17 : ∀ j, j < n → g j < 17 := fun j hj => (hg j hj).2
  have hn := t_ns_ge n hg17
  have hgf := t_gf_ok n hg17 hs
  have hF0 : sm_fr μ (sg_r1 μ 0 (upd (μ.1 0) 25 (nI 0))) := ⟨rfl, fun k _ h => sg_r1_ne h, fun j hj => by rw [sg_r1_eq, pk_un hj]⟩
  obtain ⟨μ1, h1, h2, h3⟩ := sm_117_r (w := -9) (kk := kk) (cc := cc) (m := m) he (by omega) hm hg n 0 (by omega) _ hF0 ⟨by rw [sg_r1_eq, pk_us], fun i hi => absurd hi (Nat.not_lt_zero _)⟩
  have k4 := sm_104 (tm_Tab_fr hT h1) h2 (by omega)
  rw [t_row hg17 hs, show t_17 (t_gf g n) = nI (t_gf g n) by unfold t_17; rw [if_neg (by omega)]] at k4
  refine ⟨μ1, h1, fun rr μ' kkk l6 => ?_⟩
  have k153 : sg_D tm_H 117 153 [.ref 0, .int (nI e), .int (nI m), .int (-9), .int kk, .int cc, .int (nI n)] [] μ1 rr μ' := by
    refine sg_aload_n f_117_153 rfl ?_
    refine sg_callv_i f_117_154 my_117_104 mr_104 rfl (Nat.le_of_ble_eq_true rfl) (Nat.le_of_ble_eq_true rfl) sh_m_0 (by decide) rfl k4 ?_
    refine sg_istore [_, _, _, _, _, _, _] f_117_157 rfl ?_
    exact kkk
  first | refine sg_iinc _ [_, _, _, _, _, _, _] f_117_110 rfl (sg_dec1 _) rfl ?_ | refine sg_iinc _ [_, _, _, _, _, _, _] f_117_110 rfl rfl rfl ?_
  refine sg_aload_n f_117_113 rfl ?_
  refine sg_iconst (nI 0) f_117_114 ki_0 ?_
  refine sg_putf_j 25 f_117_115 (by decide) fd_m_0_793 rfl ?_
  refine sg_iconst (nI 0) f_117_118 ki_0 ?_
  refine sg_istore [_, _, _, _, _, _, _] f_117_119 rfl ?_
  exact h3 rr μ' k153
/-- what stands while a tree is told and not whole -/
def tr_I (σ0 μ0 σ μ : sg_S) (d m : Nat) (c : Nat → Nat) (L : Nat → Nat → Nat) : Prop := sx_tF σ0 σ ∧ σ.1 48 3 = nI d ∧ σ.1 48 4 = nI m ∧ (∀ i, i < d → σ.1 49 i = nI (t_gf (L i) (c i))) ∧ sm_tF μ0 μ ∧ (∀ i, i < d → μ.1 23 i = nI (c i) ∧ ∀ j, j < c i → μ.1 22 (5 * i + j) = nI (L i j) ∧ L i j < 17) ∧ m = t_nl c L d ∧ m ≤ 5 ∧ (0 < d ∨ m = 0)
theorem sx_tF_tx {σ σ' : sg_S} {x : Nat → Nat} {n : Nat} (h : sx_tF σ σ') (hx : sx_tx σ x n) : sx_tx σ' x n := ⟨by rw [h.2 46 (by omega) (by omega)]; exact hx.1, hx.2.1, fun i hi => by rw [h.2 47 (by omega) (by omega)]; exact hx.2.2 i hi⟩
theorem sm_tF_tx {μ μ' : sg_S} {x : Nat → Nat} {n : Nat} (h : sm_tF μ μ') (hx : sm_tx μ x n) : sm_tx μ' x n := ⟨by rw [h.2.2 12 (by omega)]; exact hx.1, hx.2.1, fun i hi => by rw [h.2.1 11 (by omega) (by omega)]; exact hx.2.2 i hi⟩
theorem sx_tF_T {σ σ' : sg_S} (h : sx_tF σ σ') (hT : tx_Tab σ) : tx_Tab σ' := tx_Tab_of hT (fun a ha => h.2 a (by omega) (by omega)) (by rw [h.1])
theorem sm_tF_T {μ μ' : sg_S} (h : sm_tF μ μ') (hT : tm_Tab μ) : tm_Tab μ' := tm_Tab_of hT (fun a h1 h2 => h.2.1 a (by omega) (by omega))
theorem sm_tr_tr {μ μ1 μ2 : sg_S} {v : Int32} (h : sm_tF μ μ1) (h2 : sm_tr μ1 μ2 v) : sm_tr μ μ2 v := by
  rcases h2 with ⟨t, ht, e, g1, g2, g3, g4⟩ | ⟨q, hq, e, hF⟩
  · exact Or.inl ⟨t, ht, e, g1.trans h.1, fun a p r => (g2 a p r).trans (h.2.1 a p r), fun j p r => (g3 j p r).trans (h.2.2 j p), g4⟩
  · exact Or.inr ⟨q, hq, e, sm_tF_tr h hF⟩
theorem tr_A {σ0 μ0 : sg_S} {x : Nat → Nat} {n : Nat} (hTx : tx_Tab σ0) (hTm : tm_Tab μ0) (hx0 : sx_tx σ0 x n) (hy0 : sm_tx μ0 x n) : ∀ rem k : Nat, k + rem = n → ∀ (σ μ : sg_S) (d m : Nat) (c : Nat → Nat) (L : Nat → Nat → Nat), tr_I σ0 μ0 σ μ d m c L → ∃ (v : Int32) (σ' μ' : sg_S), (∀ l2 : Value, sg_D tx_H 47 12 [.ref 48, .int (nI k), l2] [] σ (some (.int v)) σ') ∧ (∀ l5 l6 : Value, sg_D tm_H 117 10 [.ref 0, .int (nI d), .int (nI m), .int (-9), .int (nI k), l5, l6] [] μ (some (.int v)) μ') ∧ sx_tF σ0 σ' ∧ sm_tr μ0 μ' v := by
  have h160 := hx0.2.1
  intro rem
  induction rem with
  | zero =>
    intro k hk σ μ d m c L hI
    obtain ⟨i1, i2, i3, i4, i5, i6, i7, i8, i9⟩ := hI
    have hx := sx_tF_tx i1 hx0
    have hy := sm_tF_tx i5 hy0
    have hd := t_nl_ge (c := c) (L := L) d
    obtain rfl : k = n := by omega
    refine ⟨-10 - nI k, σ, μ, fun l2 => ?_, fun l5 l6 => ?_, i1, Or.inr ⟨k, by omega, rfl, i5⟩⟩
    · skip
      refine sg_iload_n f_47_12 rfl ?_
      refine sg_aload_n f_47_13 rfl ?_
      refine sg_getf_r f_47_14 fd_x_48_513 ?_
      refine sg_getf_k f_47_17 fd_x_46_385 hx.1 ?_
      first | refine sg_ncmp_ge 57 (by omega) (by omega) f_47_20 rfl (fun c20 => ?_) (fun c20 => ?_) | refine sg_icmp_ge 57 f_47_20 rfl (fun c20 => ?_) (fun c20 => ?_)
      · refine sg_aload_n f_47_57 rfl ?_
        refine sg_callv_i f_47_58 my_47_48 mr_48 rfl (Nat.le_of_ble_eq_true rfl) (Nat.le_of_ble_eq_true rfl) sh_x_48 (by decide) rfl (sx_48_0 i2 i3 i9 (by omega) i8) ?_
        refine sg_if_eq 73 f_47_61 rfl (fun c61 => ?_) (fun c61 => ?_)
        · refine sg_bipush (-10) f_47_73 kb_m10 ?_
          refine sg_aload_n f_47_75 rfl ?_
          refine sg_getf_r f_47_76 fd_x_48_513 ?_
          refine sg_getf_k f_47_79 fd_x_46_385 hx.1 ?_
          refine sg_isub _ f_47_82 rfl ?_
          exact (sg_iret f_47_83 rk_47)
        · exact absurd rfl c61
      · omega
    · skip
      refine sg_iload f_117_10 rfl ?_
      refine sg_aload_n f_117_12 rfl ?_
      refine sg_getf_k f_117_13 fd_m_0_780 hy.1 ?_
      first | refine sg_ncmp_ge 208 (by omega) (by omega) f_117_16 rfl (fun c16 => ?_) (fun c16 => ?_) | refine sg_icmp_ge 208 f_117_16 rfl (fun c16 => ?_) (fun c16 => ?_)
      · refine sg_iload_n f_117_208 rfl ?_
        refine sg_bipush (-9) f_117_209 kb_m9 ?_
        refine sg_icmp_ne 222 f_117_211 rfl (fun c211 => ?_) (fun c211 => ?_)
        · exact absurd rfl c211
        · refine sg_bipush (-10) f_117_214 kb_m10 ?_
          refine sg_aload_n f_117_216 rfl ?_
          refine sg_getf_k f_117_217 fd_m_0_780 hy.1 ?_
          refine sg_isub _ f_117_220 rfl ?_
          exact (sg_iret f_117_221 rk_117)
      · omega
  | succ rem ih =>
    intro k hk σ μ d m c L hI
    have hI' := hI
    obtain ⟨i1, i2, i3, i4, i5, i6, i7, i8, i9⟩ := hI
    have hx := sx_tF_tx i1 hx0
    have hy := sm_tF_tx i5 hy0
    have hd := t_nl_ge (c := c) (L := L) d
    have hkn : k < n := by omega
    have hc := (hx.2.2 k hkn).2
    by_cases h32 : x k = 32
    · obtain ⟨v, σ', μ', a1, a2, a3⟩ := ih (k + 1) (by omega) σ μ d m c L hI'
      refine ⟨v, σ', μ', fun l2 => ?_, fun l5 l6 => ?_, a3⟩
      · skip
        refine sg_iload_n f_47_12 rfl ?_
        refine sg_aload_n f_47_13 rfl ?_
        refine sg_getf_r f_47_14 fd_x_48_513 ?_
        refine sg_getf_k f_47_17 fd_x_46_385 hx.1 ?_
        first | refine sg_ncmp_ge 57 (by omega) (by omega) f_47_20 rfl (fun c20 => ?_) (fun c20 => ?_) | refine sg_icmp_ge 57 f_47_20 rfl (fun c20 => ?_) (fun c20 => ?_)
        · omega
        · refine sg_aload_n f_47_23 rfl ?_
          refine sg_getf_r f_47_24 fd_x_48_513 ?_
          refine sg_iload_n f_47_27 rfl ?_
          refine sg_callv_i f_47_28 my_47_39 mr_39 rfl (Nat.le_of_ble_eq_true rfl) (Nat.le_of_ble_eq_true rfl) sh_x_46 (by decide) rfl (sx_39_t hx hkn) ?_
          refine sg_istore_n [_, _, _] f_47_31 rfl ?_
          refine sg_iload_n f_47_32 rfl ?_
          refine sg_bipush (nI 32) f_47_33 kb_32 ?_
          first | refine sg_ncmp_eq 51 (by omega) (by omega) f_47_35 rfl (fun c35 => ?_) (fun c35 => ?_) | refine sg_icmp_eq 51 f_47_35 rfl (fun c35 => ?_) (fun c35 => ?_)
          · first | refine sg_iinc _ [_, _, _] f_47_51 rfl (sg_inc1 _) rfl ?_ | refine sg_iinc _ [_, _, _] f_47_51 rfl rfl rfl ?_
            refine sg_goto 12 f_47_54 rfl ?_
            exact a1 _
          · omega
      · skip
        refine sg_iload f_117_10 rfl ?_
        refine sg_aload_n f_117_12 rfl ?_
        refine sg_getf_k f_117_13 fd_m_0_780 hy.1 ?_
        first | refine sg_ncmp_ge 208 (by omega) (by omega) f_117_16 rfl (fun c16 => ?_) (fun c16 => ?_) | refine sg_icmp_ge 208 f_117_16 rfl (fun c16 => ?_) (fun c16 => ?_)
        · omega
        · refine sg_aload_n f_117_19 rfl ?_
          refine sg_getf_r f_117_20 fd_m_0_779 ?_
          refine sg_iload f_117_23 rfl ?_
          refine sg_iaload_k k ok_m f_117_25 sh_m_11 rfl (by omega) (hy.2.2 k hkn).1 ?_
          refine sg_istore [_, _, _, _, _, _, _] f_117_26 rfl ?_
          refine sg_iload f_117_28 rfl ?_
          refine sg_bipush (nI 32) f_117_30 kb_32 ?_
          first | refine sg_ncmp_ne 38 (by omega) (by omega) f_117_32 rfl (fun c32 => ?_) (fun c32 => ?_) | refine sg_icmp_ne 38 f_117_32 rfl (fun c32 => ?_) (fun c32 => ?_)
          · omega
          · refine sg_goto 202 f_117_35 rfl ?_
            first | refine sg_iinc _ [_, _, _, _, _, _, _] f_117_202 rfl (sg_inc1 _) rfl ?_ | refine sg_iinc _ [_, _, _, _, _, _, _] f_117_202 rfl rfl rfl ?_
            refine sg_goto 10 f_117_205 rfl ?_
            exact a2 _ _
    · by_cases ho : x k = 40 ∧ m < 5
      · obtain ⟨h40, hm5⟩ := ho
        obtain ⟨σ1, k49, f1, f2, f3, f4⟩ := sx_49_o i2 i3 i9 (by omega) hm5
        have hF1 : sm_tF μ (sg_r1 μ 23 (upd (μ.1 23) d (nI 0))) := ⟨rfl, fun a p q => sg_r1_ne (by omega), fun j p => by rw [sg_r1_ne (by omega)]⟩
        have hI1 : tr_I σ0 μ0 σ1 (sg_r1 μ 23 (upd (μ.1 23) d (nI 0))) (d + 1) (m + 1) (t_up c d 0) L := by
          refine ⟨sx_tF_tr i1 f1, f2, f3, fun i hi => ?_, sm_tF_tr i5 hF1, fun i hi => ⟨?_, fun j hj => ?_⟩, ?_, by omega, Or.inl (by omega)⟩
          · rw [f4]
            by_cases e : i = d
            · subst e; rw [pk_us, t_up_s]; rfl
            · rw [pk_un e, t_up_n e]; exact i4 i (by omega)
          · rw [sg_r1_eq]
            by_cases e : i = d
            · subst e; rw [pk_us, t_up_s]
            · rw [pk_un e, t_up_n e]; exact (i6 i (by omega)).1
          · by_cases e : i = d
            · subst e; rw [t_up_s] at hj; omega
            · rw [t_up_n e] at hj
              rw [sg_r1_ne (by omega)]; exact (i6 i (by omega)).2 j hj
          · rw [t_nl, t_up_s, t_ns, i7, t_nl_congr (c := c) (c' := t_up c d 0) (L := L) (L' := L) d (fun i hi => ⟨(t_up_n (by omega)).symm, rfl⟩)]
        obtain ⟨v, σ', μ', a1, a2, a3⟩ := ih (k + 1) (by omega) σ1 _ (d + 1) (m + 1) _ L hI1
        refine ⟨v, σ', μ', fun l2 => ?_, fun l5 l6 => ?_, a3⟩
        · have k39 := sx_39_t hx hkn
          rw [h40] at k39
          refine sg_iload_n f_47_12 rfl ?_
          refine sg_aload_n f_47_13 rfl ?_
          refine sg_getf_r f_47_14 fd_x_48_513 ?_
          refine sg_getf_k f_47_17 fd_x_46_385 hx.1 ?_
          first | refine sg_ncmp_ge 57 (by omega) (by omega) f_47_20 rfl (fun c20 => ?_) (fun c20 => ?_) | refine sg_icmp_ge 57 f_47_20 rfl (fun c20 => ?_) (fun c20 => ?_)
          · omega
          · refine sg_aload_n f_47_23 rfl ?_
            refine sg_getf_r f_47_24 fd_x_48_513 ?_
            refine sg_iload_n f_47_27 rfl ?_
            refine sg_callv_i f_47_28 my_47_39 mr_39 rfl (Nat.le_of_ble_eq_true rfl) (Nat.le_of_ble_eq_true rfl) sh_x_46 (by decide) rfl k39 ?_
            refine sg_istore_n [_, _, _] f_47_31 rfl ?_
            refine sg_iload_n f_47_32 rfl ?_
            refine sg_bipush (nI 32) f_47_33 kb_32 ?_
            refine sg_icmp_eq 51 f_47_35 rfl (fun c35 => ?_) (fun c35 => ?_)
            · exact absurd c35 (by decide)
            · refine sg_aload_n f_47_38 rfl ?_
              refine sg_iload_n f_47_39 rfl ?_
              refine sg_callv_i f_47_40 my_47_49 mr_49 rfl (Nat.le_of_ble_eq_true rfl) (Nat.le_of_ble_eq_true rfl) sh_x_48 (by decide) rfl k49 ?_
              refine sg_if_ne 51 f_47_43 rfl (fun c43 => ?_) (fun c43 => ?_)
              · first | refine sg_iinc _ [_, _, _] f_47_51 rfl (sg_inc1 _) rfl ?_ | refine sg_iinc _ [_, _, _] f_47_51 rfl rfl rfl ?_
                refine sg_goto 12 f_47_54 rfl ?_
                exact a1 _
              · exact absurd c43 (by decide)
        · skip
          refine sg_iload f_117_10 rfl ?_
          refine sg_aload_n f_117_12 rfl ?_
          refine sg_getf_k f_117_13 fd_m_0_780 hy.1 ?_
          first | refine sg_ncmp_ge 208 (by omega) (by omega) f_117_16 rfl (fun c16 => ?_) (fun c16 => ?_) | refine sg_icmp_ge 208 f_117_16 rfl (fun c16 => ?_) (fun c16 => ?_)
          · omega
          · refine sg_aload_n f_117_19 rfl ?_
            refine sg_getf_r f_117_20 fd_m_0_779 ?_
            refine sg_iload f_117_23 rfl ?_
            refine sg_iaload_k k ok_m f_117_25 sh_m_11 rfl (by omega) ((hy.2.2 k hkn).1.trans (by rw [h40])) ?_
            refine sg_istore [_, _, _, _, _, _, _] f_117_26 rfl ?_
            refine sg_iload f_117_28 rfl ?_
            refine sg_bipush (nI 32) f_117_30 kb_32 ?_
            first | refine sg_ncmp_ne 38 (by omega) (by omega) f_117_32 rfl (fun c32 => ?_) (fun c32 => ?_) | refine sg_icmp_ne 38 f_117_32 rfl (fun c32 => ?_) (fun c32 => ?_)
            · refine sg_iload_n f_117_38 rfl ?_
              refine sg_bipush (-9) f_117_39 kb_m9 ?_
              refine sg_icmp_ne 81 f_117_41 rfl (fun c41 => ?_) (fun c41 => ?_)
              · exact absurd rfl c41
              · refine sg_iload f_117_44 rfl ?_
                refine sg_bipush (nI 40) f_117_46 kb_40 ?_
                first | refine sg_ncmp_eq 58 (by omega) (by omega) f_117_48 rfl (fun c48 => ?_) (fun c48 => ?_) | refine sg_icmp_eq 58 f_117_48 rfl (fun c48 => ?_) (fun c48 => ?_)
                · refine sg_iload f_117_58 rfl ?_
                  refine sg_bipush (nI 41) f_117_60 kb_41 ?_
                  first | refine sg_ncmp_ne 69 (by omega) (by omega) f_117_62 rfl (fun c62 => ?_) (fun c62 => ?_) | refine sg_icmp_ne 69 f_117_62 rfl (fun c62 => ?_) (fun c62 => ?_)
                  · refine sg_iload f_117_69 rfl ?_
                    refine sg_bipush (nI 40) f_117_71 kb_40 ?_
                    first | refine sg_ncmp_ne 87 (by omega) (by omega) f_117_73 rfl (fun c73 => ?_) (fun c73 => ?_) | refine sg_icmp_ne 87 f_117_73 rfl (fun c73 => ?_) (fun c73 => ?_)
                    · omega
                    · refine sg_iload_n f_117_76 rfl ?_
                      refine sg_iconst (nI 5) f_117_77 ki_5 ?_
                      first | refine sg_ncmp_ne 87 (by omega) (by omega) f_117_78 rfl (fun c78 => ?_) (fun c78 => ?_) | refine sg_icmp_ne 87 f_117_78 rfl (fun c78 => ?_) (fun c78 => ?_)
                      · refine sg_iload f_117_87 rfl ?_
                        refine sg_bipush (nI 40) f_117_89 kb_40 ?_
                        first | refine sg_ncmp_ne 110 (by omega) (by omega) f_117_91 rfl (fun c91 => ?_) (fun c91 => ?_) | refine sg_icmp_ne 110 f_117_91 rfl (fun c91 => ?_) (fun c91 => ?_)
                        · omega
                        · refine sg_aload_n f_117_94 rfl ?_
                          refine sg_getf_r f_117_95 fd_m_0_795 ?_
                          refine sg_iload_n f_117_98 rfl ?_
                          refine sg_iconst (nI 0) f_117_99 ki_0 ?_
                          refine sg_iastore _ ok_m f_117_100 sh_m_23 rfl (by omega) ?_
                          first | refine sg_iinc _ [_, _, _, _, _, _, _] f_117_101 rfl (sg_inc1 _) rfl ?_ | refine sg_iinc _ [_, _, _, _, _, _, _] f_117_101 rfl rfl rfl ?_
                          first | refine sg_iinc _ [_, _, _, _, _, _, _] f_117_104 rfl (sg_inc1 _) rfl ?_ | refine sg_iinc _ [_, _, _, _, _, _, _] f_117_104 rfl rfl rfl ?_
                          refine sg_goto 202 f_117_107 rfl ?_
                          first | refine sg_iinc _ [_, _, _, _, _, _, _] f_117_202 rfl (sg_inc1 _) rfl ?_ | refine sg_iinc _ [_, _, _, _, _, _, _] f_117_202 rfl rfl rfl ?_
                          refine sg_goto 10 f_117_205 rfl ?_
                          exact a2 _ _
                      · omega
                  · omega
                · omega
            · omega
      · by_cases hcl : x k = 41 ∧ 0 < d
        · obtain ⟨h41, hd0⟩ := hcl
          have k39 := sx_39_t hx hkn
          rw [h41] at k39
          have y41 : μ.1 11 k = nI 41 := (hy.2.2 k hkn).1.trans (by rw [h41])
          obtain ⟨e, rfl⟩ : ∃ e, d = e + 1 := ⟨d - 1, by omega⟩
          have hnl : m = t_nl c L e + (1 + t_ns (L e) (c e)) := i7
          have he := t_nl_ge (c := c) (L := L) e
          have hgf := t_gf_ok (c e) (fun j hj => ((i6 e (by omega)).2 j hj).2) (by omega)
          obtain ⟨μ1, hF1, k110⟩ := sm_117_c (m := m) (kk := nI k) (cc := nI 41) (sm_tF_T i5 hTm) (show e < 5 by omega) (i6 e (by omega)).1 (i6 e (by omega)).2 (by omega)
          have start : ∀ rr μ', sg_D tm_H 117 159 [.ref 0, .int (nI e), .int (nI m), .int (-9), .int (nI k), .int (nI 41), .int (nI (t_gf (L e) (c e)))] [] μ1 rr μ' → ∀ l5 l6 : Value, sg_D tm_H 117 10 [.ref 0, .int (nI (e + 1)), .int (nI m), .int (-9), .int (nI k), l5, l6] [] μ rr μ' := by
            intro rr μ' kkk l5 l6
            refine sg_iload f_117_10 rfl ?_
            refine sg_aload_n f_117_12 rfl ?_
            refine sg_getf_k f_117_13 fd_m_0_780 hy.1 ?_
            first | refine sg_ncmp_ge 208 (by omega) (by omega) f_117_16 rfl (fun c16 => ?_) (fun c16 => ?_) | refine sg_icmp_ge 208 f_117_16 rfl (fun c16 => ?_) (fun c16 => ?_)
            · omega
            · refine sg_aload_n f_117_19 rfl ?_
              refine sg_getf_r f_117_20 fd_m_0_779 ?_
              refine sg_iload f_117_23 rfl ?_
              refine sg_iaload_k k ok_m f_117_25 sh_m_11 rfl (by omega) y41 ?_
              refine sg_istore [_, _, _, _, _, _, _] f_117_26 rfl ?_
              refine sg_iload f_117_28 rfl ?_
              refine sg_bipush (nI 32) f_117_30 kb_32 ?_
              first | refine sg_ncmp_ne 38 (by omega) (by omega) f_117_32 rfl (fun c32 => ?_) (fun c32 => ?_) | refine sg_icmp_ne 38 f_117_32 rfl (fun c32 => ?_) (fun c32 => ?_)
              · refine sg_iload_n f_117_38 rfl ?_
                refine sg_bipush (-9) f_117_39 kb_m9 ?_
                refine sg_icmp_ne 81 f_117_41 rfl (fun c41 => ?_) (fun c41 => ?_)
                · exact absurd rfl c41
                · refine sg_iload f_117_44 rfl ?_
                  refine sg_bipush (nI 40) f_117_46 kb_40 ?_
                  first | refine sg_ncmp_eq 58 (by omega) (by omega) f_117_48 rfl (fun c48 => ?_) (fun c48 => ?_) | refine sg_icmp_eq 58 f_117_48 rfl (fun c48 => ?_) (fun c48 => ?_)
                  · omega
                  · refine sg_iload f_117_51 rfl ?_
                    refine sg_bipush (nI 41) f_117_53 kb_41 ?_
                    first | refine sg_ncmp_ne 81 (by omega) (by omega) f_117_55 rfl (fun c55 => ?_) (fun c55 => ?_) | refine sg_icmp_ne 81 f_117_55 rfl (fun c55 => ?_) (fun c55 => ?_)
                    · omega
                    · refine sg_iload f_117_58 rfl ?_
                      refine sg_bipush (nI 41) f_117_60 kb_41 ?_
                      first | refine sg_ncmp_ne 69 (by omega) (by omega) f_117_62 rfl (fun c62 => ?_) (fun c62 => ?_) | refine sg_icmp_ne 69 f_117_62 rfl (fun c62 => ?_) (fun c62 => ?_)
                      · omega
                      · refine sg_iload_n f_117_65 rfl ?_
                        refine sg_if_eq 81 f_117_66 rfl (fun c66 => ?_) (fun c66 => ?_)
                        · exact absurd c66 (nI_ne0 (by omega) (by omega))
                        · refine sg_iload f_117_69 rfl ?_
                          refine sg_bipush (nI 40) f_117_71 kb_40 ?_
                          first | refine sg_ncmp_ne 87 (by omega) (by omega) f_117_73 rfl (fun c73 => ?_) (fun c73 => ?_) | refine sg_icmp_ne 87 f_117_73 rfl (fun c73 => ?_) (fun c73 => ?_)
                          · refine sg_iload f_117_87 rfl ?_
                            refine sg_bipush (nI 40) f_117_89 kb_40 ?_
                            first | refine sg_ncmp_ne 110 (by omega) (by omega) f_117_91 rfl (fun c91 => ?_) (fun c91 => ?_) | refine sg_icmp_ne 110 f_117_91 rfl (fun c91 => ?_) (fun c91 => ?_)
                            · exact k110 rr μ' kkk _
                            · omega
                          · omega
              · omega
          by_cases e0 : e = 0
          · subst e0
            obtain ⟨σ1, k49, f1, f2, f3, f4⟩ := sx_49_c1 i2
            obtain ⟨v, μ', b1, b2, b3⟩ := tr_B (sx_tF_tx f1 hx) (sm_tF_tx (sm_fr_tF hF1) hy) f2 (f3.trans i3) (show 0 < m by omega) i8 (by rw [f4]; exact i4 0 (by omega)) hgf.1 rem (k + 1) (by omega)
            refine ⟨v, σ1, μ', fun l2 => ?_, fun l5 l6 => start _ _ ?_ l5 l6, sx_tF_tr i1 f1, sm_tr_tr (sm_tF_tr i5 (sm_fr_tF hF1)) b3⟩
            · skip
              refine sg_iload_n f_47_12 rfl ?_
              refine sg_aload_n f_47_13 rfl ?_
              refine sg_getf_r f_47_14 fd_x_48_513 ?_
              refine sg_getf_k f_47_17 fd_x_46_385 hx.1 ?_
              first | refine sg_ncmp_ge 57 (by omega) (by omega) f_47_20 rfl (fun c20 => ?_) (fun c20 => ?_) | refine sg_icmp_ge 57 f_47_20 rfl (fun c20 => ?_) (fun c20 => ?_)
              · omega
              · refine sg_aload_n f_47_23 rfl ?_
                refine sg_getf_r f_47_24 fd_x_48_513 ?_
                refine sg_iload_n f_47_27 rfl ?_
                refine sg_callv_i f_47_28 my_47_39 mr_39 rfl (Nat.le_of_ble_eq_true rfl) (Nat.le_of_ble_eq_true rfl) sh_x_46 (by decide) rfl k39 ?_
                refine sg_istore_n [_, _, _] f_47_31 rfl ?_
                refine sg_iload_n f_47_32 rfl ?_
                refine sg_bipush (nI 32) f_47_33 kb_32 ?_
                refine sg_icmp_eq 51 f_47_35 rfl (fun c35 => ?_) (fun c35 => ?_)
                · exact absurd c35 (by decide)
                · refine sg_aload_n f_47_38 rfl ?_
                  refine sg_iload_n f_47_39 rfl ?_
                  refine sg_callv_i f_47_40 my_47_49 mr_49 rfl (Nat.le_of_ble_eq_true rfl) (Nat.le_of_ble_eq_true rfl) sh_x_48 (by decide) rfl k49 ?_
                  refine sg_if_ne 51 f_47_43 rfl (fun c43 => ?_) (fun c43 => ?_)
                  · first | refine sg_iinc _ [_, _, _] f_47_51 rfl (sg_inc1 _) rfl ?_ | refine sg_iinc _ [_, _, _] f_47_51 rfl rfl rfl ?_
                    refine sg_goto 12 f_47_54 rfl ?_
                    exact b1 _
                  · exact absurd c43 (by decide)
            · skip
              refine sg_iload_n f_117_159 rfl ?_
              refine sg_if_ne 169 f_117_160 rfl (fun c160 => ?_) (fun c160 => ?_)
              · exact absurd rfl c160
              · refine sg_iload f_117_163 rfl ?_
                refine sg_istore_n [_, _, _, _, _, _, _] f_117_165 rfl ?_
                refine sg_goto 202 f_117_166 rfl ?_
                first | refine sg_iinc _ [_, _, _, _, _, _, _] f_117_202 rfl (sg_inc1 _) rfl ?_ | refine sg_iinc _ [_, _, _, _, _, _, _] f_117_202 rfl rfl rfl ?_
                refine sg_goto 10 f_117_205 rfl ?_
                exact b2 _ _
          · obtain ⟨f, rfl⟩ : ∃ f, e = f + 1 := ⟨e - 1, by omega⟩
            have hnl2 : m = t_nl c L f + (1 + t_ns (L f) (c f)) + (1 + t_ns (L (f + 1)) (c (f + 1))) := hnl
            have hf := t_nl_ge (c := c) (L := L) f
            have hL17 : ∀ j, j < c f → L f j < 17 := fun j hj => ((i6 f (by omega)).2 j hj).2
            have hgf2 := t_gf_ok (c f) hL17 (by omega)
            have hcf := t_ns_ge (c f) hL17
            have hgr := tb_gr2 (t_gf (L f) (c f)) hgf2.1 (t_gf (L (f + 1)) (c (f + 1))) hgf.1 (by omega)
            obtain ⟨σ1, k49, f1, f2, f3, f4⟩ := sx_49_c (sx_tF_T i1 hTx) i2 (by omega) (i4 f (by omega)) (i4 (f + 1) (by omega)) hgf2.1 hgf.1
            rw [t_gi_n (by omega)] at f4
            generalize hT : t_gf (L (f + 1)) (c (f + 1)) = T at *
            generalize hμ2 : sg_r1 (sg_r1 μ1 22 (upd (μ1.1 22) (5 * f + c f) (nI T))) 23 (upd (μ1.1 23) f (nI (c f + 1))) = μ2
            have m22 : μ1.1 22 = μ.1 22 := hF1.2.1 22 (by omega) (by omega)
            have m23 : μ1.1 23 = μ.1 23 := hF1.2.1 23 (by omega) (by omega)
            have n22 : μ2.1 22 = upd (μ.1 22) (5 * f + c f) (nI T) := by rw [← hμ2, sg_r1_ne (by omega), sg_r1_eq, m22]
            have n23 : μ2.1 23 = upd (μ.1 23) f (nI (c f + 1)) := by rw [← hμ2, sg_r1_eq, m23]
            have hF2 : sm_tF μ1 μ2 := ⟨by rw [← hμ2]; rfl, fun a p q => by rw [← hμ2, sg_r1_ne (by omega), sg_r1_ne (by omega)], fun j p => by rw [← hμ2, sg_r1_ne (by omega), sg_r1_ne (by omega)]⟩
            have hI1 : tr_I σ0 μ0 σ1 μ2 (f + 1) m (t_up c f (c f + 1)) (t_up L f (t_up (L f) (c f) T)) := by
              refine ⟨sx_tF_tr i1 f1, f2, f3.trans i3, fun i hi => ?_, sm_tF_tr i5 (sm_tF_tr (sm_fr_tF hF1) hF2), fun i hi => ⟨?_, fun j hj => ?_⟩, ?_, i8, Or.inl (by omega)⟩
              · rw [f4]
                by_cases q : i = f
                · subst q
                  rw [pk_us, t_up_s, t_up_s, t_gf, t_up_s, t_gf_congr (g := t_up (L i) (c i) T) (g' := L i) (c i) (fun j hj => t_up_n (by omega))]
                · rw [pk_un q, t_up_n q, t_up_n q]; exact i4 i (by omega)
              · rw [n23]
                by_cases q : i = f
                · subst q; rw [pk_us, t_up_s]
                · rw [pk_un q, t_up_n q]; exact (i6 i (by omega)).1
              · rw [n22]
                by_cases q : i = f
                · subst q
                  rw [t_up_s] at hj
                  rw [t_up_s]
                  by_cases q2 : j = c i
                  · subst q2; rw [pk_us, t_up_s]; exact ⟨rfl, hgf.1⟩
                  · rw [pk_un (by omega), t_up_n q2]; exact (i6 i (by omega)).2 j (by omega)
                · rw [t_up_n q] at hj
                  rw [t_up_n q]
                  have hq := i6 i (by omega)
                  have hq4 : c i ≤ 4 := by
                    have h1 := t_ns_ge (c i) (fun j hj => (hq.2 j hj).2)
                    have h2 : ∀ d, i < d → 1 + t_ns (L i) (c i) ≤ t_nl c L d := by
                      intro d
                      induction d with
                      | zero => intro h; omega
                      | succ d ihd =>
                        intro h
                        rw [t_nl]
                        by_cases q3 : i = d
                        · subst q3; omega
                        · have := ihd (by omega); omega
                    have := h2 f (by omega)
                    omega
                  rw [pk_un (by omega)]; exact hq.2 j hj
              · have q1 := t_ns_congr (g := t_up (L f) (c f) T) (g' := L f) (c f) (fun j hj => t_up_n (by omega))
                have q2 := t_nl_congr (c := t_up c f (c f + 1)) (c' := c) (L := t_up L f (t_up (L f) (c f) T)) (L' := L) f (fun i hi => ⟨t_up_n (by omega), t_up_n (by omega)⟩)
                rw [t_nl, t_up_s, t_up_s, t_ns, t_up_s, q1, q2]
                omega
            obtain ⟨v, σ', μ', a1, a2, a3⟩ := ih (k + 1) (by omega) σ1 μ2 (f + 1) m _ _ hI1
            refine ⟨v, σ', μ', fun l2 => ?_, fun l5 l6 => start _ _ ?_ l5 l6, a3⟩
            · skip
              refine sg_iload_n f_47_12 rfl ?_
              refine sg_aload_n f_47_13 rfl ?_
              refine sg_getf_r f_47_14 fd_x_48_513 ?_
              refine sg_getf_k f_47_17 fd_x_46_385 hx.1 ?_
              first | refine sg_ncmp_ge 57 (by omega) (by omega) f_47_20 rfl (fun c20 => ?_) (fun c20 => ?_) | refine sg_icmp_ge 57 f_47_20 rfl (fun c20 => ?_) (fun c20 => ?_)
              · omega
              · refine sg_aload_n f_47_23 rfl ?_
                refine sg_getf_r f_47_24 fd_x_48_513 ?_
                refine sg_iload_n f_47_27 rfl ?_
                refine sg_callv_i f_47_28 my_47_39 mr_39 rfl (Nat.le_of_ble_eq_true rfl) (Nat.le_of_ble_eq_true rfl) sh_x_46 (by decide) rfl k39 ?_
                refine sg_istore_n [_, _, _] f_47_31 rfl ?_
                refine sg_iload_n f_47_32 rfl ?_
                refine sg_bipush (nI 32) f_47_33 kb_32 ?_
                refine sg_icmp_eq 51 f_47_35 rfl (fun c35 => ?_) (fun c35 => ?_)
                · exact absurd c35 (by decide)
                · refine sg_aload_n f_47_38 rfl ?_
                  refine sg_iload_n f_47_39 rfl ?_
                  refine sg_callv_i f_47_40 my_47_49 mr_49 rfl (Nat.le_of_ble_eq_true rfl) (Nat.le_of_ble_eq_true rfl) sh_x_48 (by decide) rfl k49 ?_
                  refine sg_if_ne 51 f_47_43 rfl (fun c43 => ?_) (fun c43 => ?_)
                  · first | refine sg_iinc _ [_, _, _] f_47_51 rfl (sg_inc1 _) rfl ?_ | refine sg_iinc _ [_, _, _] f_47_51 rfl rfl rfl ?_
                    refine sg_goto 12 f_47_54 rfl ?_
                    exact a1 _
                  · exact absurd c43 (by decide)
            · skip
              refine sg_iload_n f_117_159 rfl ?_
              refine sg_if_ne 169 f_117_160 rfl (fun c160 => ?_) (fun c160 => ?_)
              · refine sg_aload_n f_117_169 rfl ?_
                refine sg_getf_r f_117_170 fd_m_0_794 ?_
                refine sg_iconst (nI 5) f_117_173 ki_5 ?_
                refine sg_iload_n f_117_174 rfl ?_
                first | refine sg_imul _ f_117_175 (pk_mul _ _) ?_ | refine sg_imul _ f_117_175 rfl ?_
                refine sg_iconst (nI 5) f_117_176 ki_5 ?_
                refine sg_isub (nI (5 * f)) f_117_177 (by rw [sg_nsub (by omega)]; exact congrArg nI (by omega)) ?_
                refine sg_aload_n f_117_178 rfl ?_
                refine sg_getf_r f_117_179 fd_m_0_795 ?_
                refine sg_iload_n f_117_182 rfl ?_
                refine sg_iconst (nI 1) f_117_183 ki_1 ?_
                refine sg_isub (nI f) f_117_184 (nI_pred f) ?_
                refine sg_iaload_k f ok_m f_117_185 sh_m_23 rfl (by omega) (show _ = nI (c f) by rw [m23]; exact (i6 f (by omega)).1) ?_
                first | refine sg_iadd _ f_117_186 (nI_add _ _) ?_ | refine sg_iadd _ f_117_186 rfl ?_
                refine sg_iload f_117_187 rfl ?_
                refine sg_iastore (5 * f + c f) ok_m f_117_189 sh_m_22 rfl (by omega) ?_
                refine sg_aload_n f_117_190 rfl ?_
                refine sg_getf_r f_117_191 fd_m_0_795 ?_
                refine sg_iload_n f_117_194 rfl ?_
                refine sg_iconst (nI 1) f_117_195 ki_1 ?_
                refine sg_isub (nI f) f_117_196 (nI_pred f) ?_
                refine sg_dup2 f_117_197 ?_
                refine sg_iaload_k f ok_m f_117_198 sh_m_23 rfl (by omega) (show _ = nI (c f) by rw [sg_r1_ne (by omega), m23]; exact (i6 f (by omega)).1) ?_
                refine sg_iconst (nI 1) f_117_199 ki_1 ?_
                first | refine sg_iadd _ f_117_200 (nI_add _ _) ?_ | refine sg_iadd _ f_117_200 rfl ?_
                refine sg_iastore f ok_m f_117_201 sh_m_23 rfl (by omega) ?_
                rw [sg_r1_ne (show (23 : Nat) ≠ 22 by omega)]
                refine sg_from hμ2 ?_
                first | refine sg_iinc _ [_, _, _, _, _, _, _] f_117_202 rfl (sg_inc1 _) rfl ?_ | refine sg_iinc _ [_, _, _, _, _, _, _] f_117_202 rfl rfl rfl ?_
                refine sg_goto 10 f_117_205 rfl ?_
                exact a2 _ _
              · exact absurd c160 (nI_ne0 (by omega) (by omega))
        · refine ⟨-10 - nI k, σ, μ, fun l2 => ?_, fun l5 l6 => ?_, i1, Or.inr ⟨k, by omega, rfl, i5⟩⟩
          · skip
            refine sg_iload_n f_47_12 rfl ?_
            refine sg_aload_n f_47_13 rfl ?_
            refine sg_getf_r f_47_14 fd_x_48_513 ?_
            refine sg_getf_k f_47_17 fd_x_46_385 hx.1 ?_
            first | refine sg_ncmp_ge 57 (by omega) (by omega) f_47_20 rfl (fun c20 => ?_) (fun c20 => ?_) | refine sg_icmp_ge 57 f_47_20 rfl (fun c20 => ?_) (fun c20 => ?_)
            · omega
            · refine sg_aload_n f_47_23 rfl ?_
              refine sg_getf_r f_47_24 fd_x_48_513 ?_
              refine sg_iload_n f_47_27 rfl ?_
              refine sg_callv_i f_47_28 my_47_39 mr_39 rfl (Nat.le_of_ble_eq_true rfl) (Nat.le_of_ble_eq_true rfl) sh_x_46 (by decide) rfl (sx_39_t hx hkn) ?_
              refine sg_istore_n [_, _, _] f_47_31 rfl ?_
              refine sg_iload_n f_47_32 rfl ?_
              refine sg_bipush (nI 32) f_47_33 kb_32 ?_
              first | refine sg_ncmp_eq 51 (by omega) (by omega) f_47_35 rfl (fun c35 => ?_) (fun c35 => ?_) | refine sg_icmp_eq 51 f_47_35 rfl (fun c35 => ?_) (fun c35 => ?_)
              · omega
              · refine sg_aload_n f_47_38 rfl ?_
                refine sg_iload_n f_47_39 rfl ?_
                refine sg_callv_i f_47_40 my_47_49 mr_49 rfl (Nat.le_of_ble_eq_true rfl) (Nat.le_of_ble_eq_true rfl) sh_x_48 (by decide) rfl (sx_49_n i2 i3 hc (by omega) i8 (by omega) (by omega)) ?_
                refine sg_if_ne 51 f_47_43 rfl (fun c43 => ?_) (fun c43 => ?_)
                · exact absurd rfl c43
                · refine sg_bipush (-10) f_47_46 kb_m10 ?_
                  refine sg_iload_n f_47_48 rfl ?_
                  refine sg_isub _ f_47_49 rfl ?_
                  exact (sg_iret f_47_50 rk_47)
          · skip
            refine sg_iload f_117_10 rfl ?_
            refine sg_aload_n f_117_12 rfl ?_
            refine sg_getf_k f_117_13 fd_m_0_780 hy.1 ?_
            first | refine sg_ncmp_ge 208 (by omega) (by omega) f_117_16 rfl (fun c16 => ?_) (fun c16 => ?_) | refine sg_icmp_ge 208 f_117_16 rfl (fun c16 => ?_) (fun c16 => ?_)
            · omega
            · refine sg_aload_n f_117_19 rfl ?_
              refine sg_getf_r f_117_20 fd_m_0_779 ?_
              refine sg_iload f_117_23 rfl ?_
              refine sg_iaload_k k ok_m f_117_25 sh_m_11 rfl (by omega) (hy.2.2 k hkn).1 ?_
              refine sg_istore [_, _, _, _, _, _, _] f_117_26 rfl ?_
              refine sg_iload f_117_28 rfl ?_
              refine sg_bipush (nI 32) f_117_30 kb_32 ?_
              first | refine sg_ncmp_ne 38 (by omega) (by omega) f_117_32 rfl (fun c32 => ?_) (fun c32 => ?_) | refine sg_icmp_ne 38 f_117_32 rfl (fun c32 => ?_) (fun c32 => ?_)
              · refine sg_iload_n f_117_38 rfl ?_
                refine sg_bipush (-9) f_117_39 kb_m9 ?_
                refine sg_icmp_ne 81 f_117_41 rfl (fun c41 => ?_) (fun c41 => ?_)
                · refine sg_bipush (-10) f_117_81 kb_m10 ?_
                  refine sg_iload f_117_83 rfl ?_
                  refine sg_isub _ f_117_85 rfl ?_
                  exact (sg_iret f_117_86 rk_117)
                · refine sg_iload f_117_44 rfl ?_
                  refine sg_bipush (nI 40) f_117_46 kb_40 ?_
                  first | refine sg_ncmp_eq 58 (by omega) (by omega) f_117_48 rfl (fun c48 => ?_) (fun c48 => ?_) | refine sg_icmp_eq 58 f_117_48 rfl (fun c48 => ?_) (fun c48 => ?_)
                  · refine sg_iload f_117_58 rfl ?_
                    refine sg_bipush (nI 41) f_117_60 kb_41 ?_
                    first | refine sg_ncmp_ne 69 (by omega) (by omega) f_117_62 rfl (fun c62 => ?_) (fun c62 => ?_) | refine sg_icmp_ne 69 f_117_62 rfl (fun c62 => ?_) (fun c62 => ?_)
                    · refine sg_iload f_117_69 rfl ?_
                      refine sg_bipush (nI 40) f_117_71 kb_40 ?_
                      first | refine sg_ncmp_ne 87 (by omega) (by omega) f_117_73 rfl (fun c73 => ?_) (fun c73 => ?_) | refine sg_icmp_ne 87 f_117_73 rfl (fun c73 => ?_) (fun c73 => ?_)
                      · first | omega | exact absurd (show 0 < d from Nat.pos_of_ne_zero (fun e => c66 (by rw [e]; rfl))) (by omega)
                      · refine sg_iload_n f_117_76 rfl ?_
                        refine sg_iconst (nI 5) f_117_77 ki_5 ?_
                        first | refine sg_ncmp_ne 87 (by omega) (by omega) f_117_78 rfl (fun c78 => ?_) (fun c78 => ?_) | refine sg_icmp_ne 87 f_117_78 rfl (fun c78 => ?_) (fun c78 => ?_)
                        · first | omega | exact absurd (show 0 < d from Nat.pos_of_ne_zero (fun e => c66 (by rw [e]; rfl))) (by omega)
                        · refine sg_bipush (-10) f_117_81 kb_m10 ?_
                          refine sg_iload f_117_83 rfl ?_
                          refine sg_isub _ f_117_85 rfl ?_
                          exact (sg_iret f_117_86 rk_117)
                    · refine sg_iload_n f_117_65 rfl ?_
                      refine sg_if_eq 81 f_117_66 rfl (fun c66 => ?_) (fun c66 => ?_)
                      · refine sg_bipush (-10) f_117_81 kb_m10 ?_
                        refine sg_iload f_117_83 rfl ?_
                        refine sg_isub _ f_117_85 rfl ?_
                        exact (sg_iret f_117_86 rk_117)
                      · refine sg_iload f_117_69 rfl ?_
                        refine sg_bipush (nI 40) f_117_71 kb_40 ?_
                        first | refine sg_ncmp_ne 87 (by omega) (by omega) f_117_73 rfl (fun c73 => ?_) (fun c73 => ?_) | refine sg_icmp_ne 87 f_117_73 rfl (fun c73 => ?_) (fun c73 => ?_)
                        · first | omega | exact absurd (show 0 < d from Nat.pos_of_ne_zero (fun e => c66 (by rw [e]; rfl))) (by omega)
                        · refine sg_iload_n f_117_76 rfl ?_
                          refine sg_iconst (nI 5) f_117_77 ki_5 ?_
                          first | refine sg_ncmp_ne 87 (by omega) (by omega) f_117_78 rfl (fun c78 => ?_) (fun c78 => ?_) | refine sg_icmp_ne 87 f_117_78 rfl (fun c78 => ?_) (fun c78 => ?_)
                          · first | omega | exact absurd (show 0 < d from Nat.pos_of_ne_zero (fun e => c66 (by rw [e]; rfl))) (by omega)
                          · refine sg_bipush (-10) f_117_81 kb_m10 ?_
                            refine sg_iload f_117_83 rfl ?_
                            refine sg_isub _ f_117_85 rfl ?_
                            exact (sg_iret f_117_86 rk_117)
                  · refine sg_iload f_117_51 rfl ?_
                    refine sg_bipush (nI 41) f_117_53 kb_41 ?_
                    first | refine sg_ncmp_ne 81 (by omega) (by omega) f_117_55 rfl (fun c55 => ?_) (fun c55 => ?_) | refine sg_icmp_ne 81 f_117_55 rfl (fun c55 => ?_) (fun c55 => ?_)
                    · refine sg_bipush (-10) f_117_81 kb_m10 ?_
                      refine sg_iload f_117_83 rfl ?_
                      refine sg_isub _ f_117_85 rfl ?_
                      exact (sg_iret f_117_86 rk_117)
                    · refine sg_iload f_117_58 rfl ?_
                      refine sg_bipush (nI 41) f_117_60 kb_41 ?_
                      first | refine sg_ncmp_ne 69 (by omega) (by omega) f_117_62 rfl (fun c62 => ?_) (fun c62 => ?_) | refine sg_icmp_ne 69 f_117_62 rfl (fun c62 => ?_) (fun c62 => ?_)
                      · refine sg_iload f_117_69 rfl ?_
                        refine sg_bipush (nI 40) f_117_71 kb_40 ?_
                        first | refine sg_ncmp_ne 87 (by omega) (by omega) f_117_73 rfl (fun c73 => ?_) (fun c73 => ?_) | refine sg_icmp_ne 87 f_117_73 rfl (fun c73 => ?_) (fun c73 => ?_)
                        · first | omega | exact absurd (show 0 < d from Nat.pos_of_ne_zero (fun e => c66 (by rw [e]; rfl))) (by omega)
                        · refine sg_iload_n f_117_76 rfl ?_
                          refine sg_iconst (nI 5) f_117_77 ki_5 ?_
                          first | refine sg_ncmp_ne 87 (by omega) (by omega) f_117_78 rfl (fun c78 => ?_) (fun c78 => ?_) | refine sg_icmp_ne 87 f_117_78 rfl (fun c78 => ?_) (fun c78 => ?_)
                          · first | omega | exact absurd (show 0 < d from Nat.pos_of_ne_zero (fun e => c66 (by rw [e]; rfl))) (by omega)
                          · refine sg_bipush (-10) f_117_81 kb_m10 ?_
                            refine sg_iload f_117_83 rfl ?_
                            refine sg_isub _ f_117_85 rfl ?_
                            exact (sg_iret f_117_86 rk_117)
                      · refine sg_iload_n f_117_65 rfl ?_
                        refine sg_if_eq 81 f_117_66 rfl (fun c66 => ?_) (fun c66 => ?_)
                        · refine sg_bipush (-10) f_117_81 kb_m10 ?_
                          refine sg_iload f_117_83 rfl ?_
                          refine sg_isub _ f_117_85 rfl ?_
                          exact (sg_iret f_117_86 rk_117)
                        · refine sg_iload f_117_69 rfl ?_
                          refine sg_bipush (nI 40) f_117_71 kb_40 ?_
                          first | refine sg_ncmp_ne 87 (by omega) (by omega) f_117_73 rfl (fun c73 => ?_) (fun c73 => ?_) | refine sg_icmp_ne 87 f_117_73 rfl (fun c73 => ?_) (fun c73 => ?_)
                          · first | omega | exact absurd (show 0 < d from Nat.pos_of_ne_zero (fun e => c66 (by rw [e]; rfl))) (by omega)
                          · refine sg_iload_n f_117_76 rfl ?_
                            refine sg_iconst (nI 5) f_117_77 ki_5 ?_
                            first | refine sg_ncmp_ne 87 (by omega) (by omega) f_117_78 rfl (fun c78 => ?_) (fun c78 => ?_) | refine sg_icmp_ne 87 f_117_78 rfl (fun c78 => ?_) (fun c78 => ?_)
                            · first | omega | exact absurd (show 0 < d from Nat.pos_of_ne_zero (fun e => c66 (by rw [e]; rfl))) (by omega)
                            · refine sg_bipush (-10) f_117_81 kb_m10 ?_
                              refine sg_iload f_117_83 rfl ?_
                              refine sg_isub _ f_117_85 rfl ?_
                              exact (sg_iret f_117_86 rk_117)
              · omega
