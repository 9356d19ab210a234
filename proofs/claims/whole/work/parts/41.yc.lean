/-! the model: the row of children -/
def t_pk (f : Nat → Nat) (c : Nat) : Nat → Nat
  | 0 => 0
  | k + 1 => if f k < c then t_pk f c k else k + 1
def t_in (f : Nat → Nat) (c n : Nat) : Nat → Nat := fun i => if i < t_pk f c n then f i else if i = t_pk f c n then c else f (i - 1)
theorem t_pk_le {f : Nat → Nat} {c : Nat} : ∀ n, t_pk f c n ≤ n
  | 0 => Nat.le_refl _
  | n + 1 => by
    rw [t_pk]
    split
    · have := t_pk_le (f := f) (c := c) n; omega
    · omega
theorem t_in_lt {f : Nat → Nat} {c n : Nat} (hf : ∀ i, i < n → f i < 17) (hc : c < 17) (i : Nat) (hi : i < n + 1) : t_in f c n i < 17 := by
  have h := t_pk_le (f := f) (c := c) n
  unfold t_in
  split
  · exact hf i (by omega)
  · split
    · exact hc
    · exact hf (i - 1) (by omega)
/-- the row holds f, n of them -/
def sm_rw (μ : sg_S) (n : Nat) (f : Nat → Nat) : Prop := μ.1 0 25 = nI n ∧ ∀ i, i < n → μ.1 21 i = nI (f i) ∧ f i < 17
/-- nothing but the row has changed -/
def sm_fr (μ μ' : sg_S) : Prop := μ'.2 = μ.2 ∧ (∀ k, k ≠ 21 → k ≠ 0 → μ'.1 k = μ.1 k) ∧ ∀ j, j ≠ 25 → μ'.1 0 j = μ.1 0 j
theorem sm_fr_rfl {μ : sg_S} : sm_fr μ μ := ⟨rfl, fun _ _ _ => rfl, fun _ _ => rfl⟩
theorem sm_fr_tr {μ μ1 μ2 : sg_S} (h : sm_fr μ μ1) (h2 : sm_fr μ1 μ2) : sm_fr μ μ2 :=
  ⟨h2.1.trans h.1, fun k a b => (h2.2.1 k a b).trans (h.2.1 k a b), fun j a => (h2.2.2 j a).trans (h.2.2 j a)⟩
theorem tm_Tab_of {μ μ' : sg_S} (h : tm_Tab μ) (h1 : ∀ a, 1 ≤ a → a ≤ 10 → μ'.1 a = μ.1 a) : tm_Tab μ' := by
  obtain ⟨a1, a2, a3, a4, a5⟩ := h
  refine ⟨fun t ht => ?_, fun k hk => ?_, fun t ht => ?_, fun k hk => ?_, fun k hk => ?_⟩
  · rw [h1 2 (by omega) (by omega), h1 3 (by omega) (by omega), h1 4 (by omega) (by omega), h1 5 (by omega) (by omega), h1 6 (by omega) (by omega)]; exact a1 t ht
  · rw [h1 1 (by omega) (by omega)]; exact a2 k hk
  · rw [h1 7 (by omega) (by omega)]; exact a3 t ht
  · rw [h1 8 (by omega) (by omega), h1 10 (by omega) (by omega)]; exact a4 k hk
  · rw [h1 9 (by omega) (by omega)]; exact a5 k hk
theorem tm_Tab_fr {μ μ' : sg_S} (h : tm_Tab μ) (h1 : sm_fr μ μ') : tm_Tab μ' := tm_Tab_of h (fun a h2 h3 => h1.2.1 a (by omega) (by omega))
theorem sm_103_e {μ : sg_S} {n c k : Nat} {f : Nat → Nat} {g : Nat → Int32} (hn : n ≤ 4) (hm : μ.1 0 25 = nI n) (hk : k ≤ n) (h1 : ∀ i, i < k → g i = nI (f i)) (h2 : ∀ i, k < i → i ≤ n → g i = nI (f (i - 1))) (hp : t_pk f c n = k) : ∃ g', (∀ i, i ≤ n → g' i = nI (t_in f c n i)) ∧ sg_D tm_H 103 41 [.ref 0, .int (nI c), .int (nI k)] [] (sg_r1 μ 21 g) none (sg_r1 (sg_r1 μ 21 g') 0 (upd (μ.1 0) 25 (nI (n + 1)))) := by
  have e : (sg_r1 μ 21 (upd g k (nI c))).1 0 = μ.1 0 := sg_r1_ne (by omega)
  refine ⟨upd g k (nI c), fun i hi => ?_, ?_⟩
  · unfold t_in
    rw [hp]
    rcases Nat.lt_trichotomy i k with h | h | h
    · rw [if_pos h, pk_un (by omega)]; exact h1 i h
    · rw [if_neg (by omega), if_pos h, h, pk_us]
    · rw [if_neg (by omega), if_neg (by omega), pk_un (by omega)]; exact h2 i h hi
  · skip
    refine sg_aload_n f_103_41 rfl ?_
    refine sg_getf_r f_103_42 fd_m_0_792 ?_
    refine sg_iload_n f_103_45 rfl ?_
    refine sg_iload_n f_103_46 rfl ?_
    refine sg_iastore _ ok_m f_103_47 sh_m_21 rfl (by omega) ?_
    rw [sg_r1_r1, sg_r1_eq]
    refine sg_aload_n f_103_48 rfl ?_
    refine sg_dup f_103_49 rfl ?_
    refine sg_getf_k f_103_50 fd_m_0_793 (show _ = nI n from hm) ?_
    refine sg_iconst (nI 1) f_103_53 ki_1 ?_
    first | refine sg_iadd _ f_103_54 (nI_add _ _) ?_ | refine sg_iadd _ f_103_54 rfl ?_
    refine sg_putf_j 25 f_103_55 (by decide) fd_m_0_793 rfl ?_
    rw [e]
    exact (sg_vret f_103_58 rk_103)
theorem sm_103_l {μ : sg_S} {n c : Nat} {f : Nat → Nat} (hn : n ≤ 4) (hm : μ.1 0 25 = nI n) (hc : c < 17) (hf : ∀ i, i < n → f i < 17) : ∀ (k : Nat) (g : Nat → Int32), k ≤ n → (∀ i, i < k → g i = nI (f i)) → (∀ i, k < i → i ≤ n → g i = nI (f (i - 1))) → t_pk f c n = t_pk f c k → ∃ g', (∀ i, i ≤ n → g' i = nI (t_in f c n i)) ∧ sg_D tm_H 103 5 [.ref 0, .int (nI c), .int (nI k)] [] (sg_r1 μ 21 g) none (sg_r1 (sg_r1 μ 21 g') 0 (upd (μ.1 0) 25 (nI (n + 1)))) := by
  intro k
  induction k with
  | zero =>
    intro g hk h1 h2 hp
    obtain ⟨g', a1, a2⟩ := sm_103_e hn hm hk h1 h2 (hp.trans rfl)
    refine ⟨g', a1, ?_⟩
    refine sg_iload_n f_103_5 rfl ?_
    refine sg_if_le 41 f_103_6 rfl (fun c6 => ?_) (fun c6 => ?_)
    · exact a2
    · exact absurd (by decide) c6
  | succ k ih =>
    intro g hk h1 h2 hp
    have hfk := hf k (by omega)
    have hg := h1 k (by omega)
    rw [t_pk] at hp
    by_cases hlt : f k < c
    · rw [if_pos hlt] at hp
      obtain ⟨g', a1, a2⟩ := ih (upd g (k + 1) (nI (f k))) (by omega) (fun i hi => by rw [pk_un (by omega)]; exact h1 i (by omega)) (fun i hi hi2 => by
        by_cases e : i = k + 1
        · subst e; rw [pk_us, Nat.add_sub_cancel]
        · rw [pk_un e]; exact h2 i (by omega) hi2) hp
      refine ⟨g', a1, ?_⟩
      refine sg_iload_n f_103_5 rfl ?_
      refine sg_if_le 41 f_103_6 rfl (fun c6 => ?_) (fun c6 => ?_)
      · exact absurd c6 (nI_nle (by omega) (by omega))
      · refine sg_aload_n f_103_9 rfl ?_
        refine sg_getf_r f_103_10 fd_m_0_792 ?_
        refine sg_iload_n f_103_13 rfl ?_
        refine sg_iconst (nI 1) f_103_14 ki_1 ?_
        refine sg_isub (nI k) f_103_15 (nI_pred k) ?_
        refine sg_iaload_k k ok_m f_103_16 sh_m_21 rfl (by omega) (show _ = nI (f k) by rw [sg_r1_eq]; exact hg) ?_
        refine sg_iload_n f_103_17 rfl ?_
        refine sg_ncmp_ge 41 (by omega) (by omega) f_103_18 rfl (fun c18 => ?_) (fun c18 => ?_)
        · omega
        · refine sg_aload_n f_103_21 rfl ?_
          refine sg_getf_r f_103_22 fd_m_0_792 ?_
          refine sg_iload_n f_103_25 rfl ?_
          refine sg_aload_n f_103_26 rfl ?_
          refine sg_getf_r f_103_27 fd_m_0_792 ?_
          refine sg_iload_n f_103_30 rfl ?_
          refine sg_iconst (nI 1) f_103_31 ki_1 ?_
          refine sg_isub (nI k) f_103_32 (nI_pred k) ?_
          refine sg_iaload_k k ok_m f_103_33 sh_m_21 rfl (by omega) (show _ = nI (f k) by rw [sg_r1_eq]; exact hg) ?_
          refine sg_iastore _ ok_m f_103_34 sh_m_21 rfl (by omega) ?_
          rw [sg_r1_r1, sg_r1_eq]
          first | refine sg_iinc _ [_, _, _] f_103_35 rfl (sg_dec1 _) rfl ?_ | refine sg_iinc _ [_, _, _] f_103_35 rfl rfl rfl ?_
          refine sg_goto 5 f_103_38 rfl ?_
          exact a2
    · rw [if_neg hlt] at hp
      obtain ⟨g', a1, a2⟩ := sm_103_e hn hm hk h1 h2 hp
      refine ⟨g', a1, ?_⟩
      refine sg_iload_n f_103_5 rfl ?_
      refine sg_if_le 41 f_103_6 rfl (fun c6 => ?_) (fun c6 => ?_)
      · exact absurd c6 (nI_nle (by omega) (by omega))
      · refine sg_aload_n f_103_9 rfl ?_
        refine sg_getf_r f_103_10 fd_m_0_792 ?_
        refine sg_iload_n f_103_13 rfl ?_
        refine sg_iconst (nI 1) f_103_14 ki_1 ?_
        refine sg_isub (nI k) f_103_15 (nI_pred k) ?_
        refine sg_iaload_k k ok_m f_103_16 sh_m_21 rfl (by omega) (show _ = nI (f k) by rw [sg_r1_eq]; exact hg) ?_
        refine sg_iload_n f_103_17 rfl ?_
        refine sg_ncmp_ge 41 (by omega) (by omega) f_103_18 rfl (fun c18 => ?_) (fun c18 => ?_)
        · exact a2
        · omega
theorem sm_103 {μ : sg_S} {n c : Nat} {f : Nat → Nat} (h : sm_rw μ n f) (hn : n ≤ 4) (hc : c < 17) : ∃ μ' : sg_S, sg_D tm_H 103 0 [.ref 0, .int (nI c), ab_u] [] μ none μ' ∧ sm_rw μ' (n + 1) (t_in f c n) ∧ sm_fr μ μ' := by
  have hf : ∀ i, i < n → f i < 17 := fun i hi => (h.2 i hi).2
  obtain ⟨g', a1, a2⟩ := sm_103_l hn h.1 hc hf n (μ.1 21) (Nat.le_refl _) (fun i hi => (h.2 i hi).1) (fun i h1 h2 => by omega) rfl
  rw [sg_r1_self rfl] at a2
  refine ⟨sg_r1 (sg_r1 μ 21 g') 0 (upd (μ.1 0) 25 (nI (n + 1))), ?_, ⟨?_, fun i hi => ⟨?_, ?_⟩⟩, ?_, fun k h1 h2 => ?_, fun j hj => ?_⟩
  rotate_left 1
  · rw [sg_r1_eq]; exact pk_us
  · rw [sg_r1_ne (by omega), sg_r1_eq]; exact a1 i (by omega)
  · exact t_in_lt hf hc i hi
  · rfl
  · rw [sg_r1_ne h2, sg_r1_ne h1]
  · rw [sg_r1_eq, pk_un hj]
  · skip
    refine sg_aload_n f_103_0 rfl ?_
    refine sg_getf_k f_103_1 fd_m_0_793 h.1 ?_
    refine sg_istore_n [_, _, _] f_103_4 rfl ?_
    exact a2
/-! the model: the tree of a row -/
def t_eqk (f : Nat → Nat) (t : Nat) : Nat → Nat → Bool
  | 0, _ => true
  | m + 1, k => if t_ca (4 * t + k) = f k then t_eqk f t m (k + 1) else false
def t_rw (n : Nat) (f : Nat → Nat) : Nat → Nat → Nat → Nat
  | 0, _, v => v
  | m + 1, t, v => t_rw n f m (t + 1) (if t_wd t = n ∧ t_eqk f t n 0 = true then t else v)
def t_17 (v : Nat) : Int32 := if v = 17 then -9 else nI v
theorem tb_ca : ∀ k, k < 68 → t_ca k < 17 := by decide +kernel
theorem sm_104_z {μ μ' : sg_S} {n t : Nat} {f : Nat → Nat} {v : Int32} {rr : Option Value} {l4 : Int32} (h : sm_rw μ n f) (kk : sg_D tm_H 104 79 [.ref 0, .int v, .int (nI t), .int (nI 0), .int l4] [] μ rr μ') : sg_D tm_H 104 33 [.ref 0, .int v, .int (nI t), .int (nI 0), .int l4] [] μ rr μ' := by
  refine sg_iload f_104_33 rfl ?_
  refine sg_aload_n f_104_35 rfl ?_
  refine sg_getf_k f_104_36 fd_m_0_793 h.1 ?_
  refine sg_icmp_ge 79 f_104_39 rfl (fun c39 => ?_) (fun c39 => ?_)
  · exact kk
  · refine sg_iload_n f_104_42 rfl ?_
    refine sg_if_eq 79 f_104_43 rfl (fun c43 => ?_) (fun c43 => ?_)
    · exact kk
    · exact absurd rfl c43
theorem sm_104_k {μ μ' : sg_S} {n t : Nat} {f : Nat → Nat} {v : Int32} {rr : Option Value} (hT : tm_Tab μ) (h : sm_rw μ n f) (hn : n ≤ 4) (ht : t < 17) : ∀ m k : Nat, k + m = n → (∀ l4 : Int32, sg_D tm_H 104 79 [.ref 0, .int v, .int (nI t), .int (if t_eqk f t m k = true then nI 1 else nI 0), .int l4] [] μ rr μ') → sg_D tm_H 104 33 [.ref 0, .int v, .int (nI t), .int (nI 1), .int (nI k)] [] μ rr μ' := by
  intro m
  induction m with
  | zero =>
    intro k hk kk
    rw [t_eqk, if_pos rfl] at kk
    refine sg_iload f_104_33 rfl ?_
    refine sg_aload_n f_104_35 rfl ?_
    refine sg_getf_k f_104_36 fd_m_0_793 h.1 ?_
    first | refine sg_ncmp_ge 79 (by omega) (by omega) f_104_39 rfl (fun c39 => ?_) (fun c39 => ?_) | refine sg_icmp_ge 79 f_104_39 rfl (fun c39 => ?_) (fun c39 => ?_)
    · exact kk _
    · omega
  | succ m ih =>
    intro k hk kk
    have hr := h.2 k (by omega)
    have hc := tb_ca (4 * t + k) (by omega)
    rw [t_eqk] at kk
    by_cases e : t_ca (4 * t + k) = f k
    · rw [if_pos e] at kk
      refine sg_iload f_104_33 rfl ?_
      refine sg_aload_n f_104_35 rfl ?_
      refine sg_getf_k f_104_36 fd_m_0_793 h.1 ?_
      first | refine sg_ncmp_ge 79 (by omega) (by omega) f_104_39 rfl (fun c39 => ?_) (fun c39 => ?_) | refine sg_icmp_ge 79 f_104_39 rfl (fun c39 => ?_) (fun c39 => ?_)
      · omega
      · refine sg_iload_n f_104_42 rfl ?_
        refine sg_if_eq 79 f_104_43 rfl (fun c43 => ?_) (fun c43 => ?_)
        · exact absurd c43 (by decide)
        · refine sg_aload_n f_104_46 rfl ?_
          refine sg_getf_r f_104_47 fd_m_0_768 ?_
          refine sg_iconst (nI 4) f_104_50 ki_4 ?_
          refine sg_iload_n f_104_51 rfl ?_
          first | refine sg_imul _ f_104_52 (pk_mul _ _) ?_ | refine sg_imul _ f_104_52 rfl ?_
          refine sg_iload f_104_53 rfl ?_
          first | refine sg_iadd _ f_104_55 (nI_add _ _) ?_ | refine sg_iadd _ f_104_55 rfl ?_
          refine sg_iaload_k (4 * t + k) ok_m f_104_56 sh_m_1 rfl (by omega) (hT.2.1 (4 * t + k) (by omega)) ?_
          refine sg_aload_n f_104_57 rfl ?_
          refine sg_getf_r f_104_58 fd_m_0_792 ?_
          refine sg_iload f_104_61 rfl ?_
          refine sg_iaload_k k ok_m f_104_63 sh_m_21 rfl (by omega) hr.1 ?_
          first | refine sg_ncmp_ne 71 (by omega) (by omega) f_104_64 rfl (fun c64 => ?_) (fun c64 => ?_) | refine sg_icmp_ne 71 f_104_64 rfl (fun c64 => ?_) (fun c64 => ?_)
          · omega
          · refine sg_iconst (nI 1) f_104_67 ki_1 ?_
            refine sg_goto 72 f_104_68 rfl ?_
            refine sg_istore_n [_, _, _, _, _] f_104_72 rfl ?_
            first | refine sg_iinc _ [_, _, _, _, _] f_104_73 rfl (sg_inc1 _) rfl ?_ | refine sg_iinc _ [_, _, _, _, _] f_104_73 rfl rfl rfl ?_
            refine sg_goto 33 f_104_76 rfl ?_
            exact ih (k + 1) (by omega) kk
    · rw [if_neg e, if_neg (by decide)] at kk
      refine sg_iload f_104_33 rfl ?_
      refine sg_aload_n f_104_35 rfl ?_
      refine sg_getf_k f_104_36 fd_m_0_793 h.1 ?_
      first | refine sg_ncmp_ge 79 (by omega) (by omega) f_104_39 rfl (fun c39 => ?_) (fun c39 => ?_) | refine sg_icmp_ge 79 f_104_39 rfl (fun c39 => ?_) (fun c39 => ?_)
      · omega
      · refine sg_iload_n f_104_42 rfl ?_
        refine sg_if_eq 79 f_104_43 rfl (fun c43 => ?_) (fun c43 => ?_)
        · exact absurd c43 (by decide)
        · refine sg_aload_n f_104_46 rfl ?_
          refine sg_getf_r f_104_47 fd_m_0_768 ?_
          refine sg_iconst (nI 4) f_104_50 ki_4 ?_
          refine sg_iload_n f_104_51 rfl ?_
          first | refine sg_imul _ f_104_52 (pk_mul _ _) ?_ | refine sg_imul _ f_104_52 rfl ?_
          refine sg_iload f_104_53 rfl ?_
          first | refine sg_iadd _ f_104_55 (nI_add _ _) ?_ | refine sg_iadd _ f_104_55 rfl ?_
          refine sg_iaload_k (4 * t + k) ok_m f_104_56 sh_m_1 rfl (by omega) (hT.2.1 (4 * t + k) (by omega)) ?_
          refine sg_aload_n f_104_57 rfl ?_
          refine sg_getf_r f_104_58 fd_m_0_792 ?_
          refine sg_iload f_104_61 rfl ?_
          refine sg_iaload_k k ok_m f_104_63 sh_m_21 rfl (by omega) hr.1 ?_
          first | refine sg_ncmp_ne 71 (by omega) (by omega) f_104_64 rfl (fun c64 => ?_) (fun c64 => ?_) | refine sg_icmp_ne 71 f_104_64 rfl (fun c64 => ?_) (fun c64 => ?_)
          · refine sg_iconst (nI 0) f_104_71 ki_0 ?_
            refine sg_istore_n [_, _, _, _, _] f_104_72 rfl ?_
            first | refine sg_iinc _ [_, _, _, _, _] f_104_73 rfl (sg_inc1 _) rfl ?_ | refine sg_iinc _ [_, _, _, _, _] f_104_73 rfl rfl rfl ?_
            refine sg_goto 33 f_104_76 rfl ?_
            exact sm_104_z h (kk _)
          · omega
theorem sm_104_l {μ : sg_S} {n : Nat} {f : Nat → Nat} (hT : tm_Tab μ) (h : sm_rw μ n f) (hn : n ≤ 4) : ∀ m t v : Nat, t + m = 17 → ∀ l3 l4 : Value, sg_D tm_H 104 5 [.ref 0, .int (t_17 v), .int (nI t), l3, l4] [] μ (some (.int (t_17 (t_rw n f m t v)))) μ := by
  intro m
  induction m with
  | zero =>
    intro t v ht l3 l4
    rw [t_rw]
    refine sg_iload_n f_104_5 rfl ?_
    refine sg_bipush (nI 17) f_104_6 kb_17 ?_
    first | refine sg_ncmp_ge 95 (by omega) (by omega) f_104_8 rfl (fun c8 => ?_) (fun c8 => ?_) | refine sg_icmp_ge 95 f_104_8 rfl (fun c8 => ?_) (fun c8 => ?_)
    · refine sg_iload_n f_104_95 rfl ?_
      exact (sg_iret f_104_96 rk_104)
    · omega
  | succ m ih =>
    intro t v ht l3 l4
    have hw := tb_wd t (by omega)
    have e17 : ∀ w : Nat, w < 17 → t_17 w = nI w := fun w hw => by unfold t_17; rw [if_neg (by omega)]
    rw [t_rw]
    by_cases hwn : t_wd t = n
    · have key : ∀ l4 : Int32, sg_D tm_H 104 79 [.ref 0, .int (t_17 v), .int (nI t), .int (if t_eqk f t n 0 = true then nI 1 else nI 0), .int l4] [] μ (some (.int (t_17 (t_rw n f m (t + 1) (if t_wd t = n ∧ t_eqk f t n 0 = true then t else v))))) μ := by
        intro l4
        by_cases hq : t_eqk f t n 0 = true
        · rw [if_pos hq, if_pos ⟨hwn, hq⟩]
          have k5 := ih (t + 1) t (by omega) (.int (nI 1)) (.int l4)
          rw [e17 t (by omega)] at k5
          refine sg_iload_n f_104_79 rfl ?_
          refine sg_if_eq 87 f_104_80 rfl (fun c80 => ?_) (fun c80 => ?_)
          · exact absurd c80 (by decide)
          · refine sg_iload_n f_104_83 rfl ?_
            refine sg_goto 88 f_104_84 rfl ?_
            refine sg_istore_n [_, _, _, _, _] f_104_88 rfl ?_
            first | refine sg_iinc _ [_, _, _, _, _] f_104_89 rfl (sg_inc1 _) rfl ?_ | refine sg_iinc _ [_, _, _, _, _] f_104_89 rfl rfl rfl ?_
            refine sg_goto 5 f_104_92 rfl ?_
            exact k5
        · rw [if_neg hq, if_neg (fun z => hq z.2)]
          refine sg_iload_n f_104_79 rfl ?_
          refine sg_if_eq 87 f_104_80 rfl (fun c80 => ?_) (fun c80 => ?_)
          · refine sg_iload_n f_104_87 rfl ?_
            refine sg_istore_n [_, _, _, _, _] f_104_88 rfl ?_
            first | refine sg_iinc _ [_, _, _, _, _] f_104_89 rfl (sg_inc1 _) rfl ?_ | refine sg_iinc _ [_, _, _, _, _] f_104_89 rfl rfl rfl ?_
            refine sg_goto 5 f_104_92 rfl ?_
            exact ih (t + 1) v (by omega) _ _
          · exact absurd rfl c80
      refine sg_iload_n f_104_5 rfl ?_
      refine sg_bipush (nI 17) f_104_6 kb_17 ?_
      first | refine sg_ncmp_ge 95 (by omega) (by omega) f_104_8 rfl (fun c8 => ?_) (fun c8 => ?_) | refine sg_icmp_ge 95 f_104_8 rfl (fun c8 => ?_) (fun c8 => ?_)
      · omega
      · refine sg_aload_n f_104_11 rfl ?_
        refine sg_getf_r f_104_12 fd_m_0_769 ?_
        refine sg_iload_n f_104_15 rfl ?_
        refine sg_iaload_k t ok_m f_104_16 sh_m_2 rfl (by omega) (hT.1 t (by omega)).1 ?_
        refine sg_aload_n f_104_17 rfl ?_
        refine sg_getf_k f_104_18 fd_m_0_793 h.1 ?_
        first | refine sg_ncmp_ne 28 (by omega) (by omega) f_104_21 rfl (fun c21 => ?_) (fun c21 => ?_) | refine sg_icmp_ne 28 f_104_21 rfl (fun c21 => ?_) (fun c21 => ?_)
        · omega
        · refine sg_iconst (nI 1) f_104_24 ki_1 ?_
          refine sg_goto 29 f_104_25 rfl ?_
          refine sg_istore_n [_, _, _, _, _] f_104_29 rfl ?_
          refine sg_iconst (nI 0) f_104_30 ki_0 ?_
          refine sg_istore [_, _, _, _, _] f_104_31 rfl ?_
          exact sm_104_k hT h hn (by omega) n 0 (by omega) key
    · rw [if_neg (fun z => hwn z.1)]
      have key : sg_D tm_H 104 79 [.ref 0, .int (t_17 v), .int (nI t), .int (nI 0), .int (nI 0)] [] μ (some (.int (t_17 (t_rw n f m (t + 1) v)))) μ := by
        refine sg_iload_n f_104_79 rfl ?_
        refine sg_if_eq 87 f_104_80 rfl (fun c80 => ?_) (fun c80 => ?_)
        · refine sg_iload_n f_104_87 rfl ?_
          refine sg_istore_n [_, _, _, _, _] f_104_88 rfl ?_
          first | refine sg_iinc _ [_, _, _, _, _] f_104_89 rfl (sg_inc1 _) rfl ?_ | refine sg_iinc _ [_, _, _, _, _] f_104_89 rfl rfl rfl ?_
          refine sg_goto 5 f_104_92 rfl ?_
          exact ih (t + 1) v (by omega) _ _
        · exact absurd rfl c80
      refine sg_iload_n f_104_5 rfl ?_
      refine sg_bipush (nI 17) f_104_6 kb_17 ?_
      first | refine sg_ncmp_ge 95 (by omega) (by omega) f_104_8 rfl (fun c8 => ?_) (fun c8 => ?_) | refine sg_icmp_ge 95 f_104_8 rfl (fun c8 => ?_) (fun c8 => ?_)
      · omega
      · refine sg_aload_n f_104_11 rfl ?_
        refine sg_getf_r f_104_12 fd_m_0_769 ?_
        refine sg_iload_n f_104_15 rfl ?_
        refine sg_iaload_k t ok_m f_104_16 sh_m_2 rfl (by omega) (hT.1 t (by omega)).1 ?_
        refine sg_aload_n f_104_17 rfl ?_
        refine sg_getf_k f_104_18 fd_m_0_793 h.1 ?_
        first | refine sg_ncmp_ne 28 (by omega) (by omega) f_104_21 rfl (fun c21 => ?_) (fun c21 => ?_) | refine sg_icmp_ne 28 f_104_21 rfl (fun c21 => ?_) (fun c21 => ?_)
        · refine sg_iconst (nI 0) f_104_28 ki_0 ?_
          refine sg_istore_n [_, _, _, _, _] f_104_29 rfl ?_
          refine sg_iconst (nI 0) f_104_30 ki_0 ?_
          refine sg_istore [_, _, _, _, _] f_104_31 rfl ?_
          exact sm_104_z h key
        · omega
theorem sm_104 {μ : sg_S} {n : Nat} {f : Nat → Nat} (hT : tm_Tab μ) (h : sm_rw μ n f) (hn : n ≤ 4) : sg_D tm_H 104 0 [.ref 0, ab_u, ab_u, ab_u, ab_u] [] μ (some (.int (t_17 (t_rw n f 17 0 17)))) μ := by
  have k5 := sm_104_l hT h hn 17 0 17 (by omega) ab_u ab_u
  rw [show t_17 17 = -9 from rfl] at k5
  refine sg_bipush (-9) f_104_0 kb_m9 ?_
  refine sg_istore_n [_, _, _, _, _] f_104_2 rfl ?_
  refine sg_iconst (nI 0) f_104_3 ki_0 ?_
  refine sg_istore_n [_, _, _, _, _] f_104_4 rfl ?_
  exact k5
/-! the model: graft -/
def t_rl (g : Nat → Nat) : Nat → Nat → Nat
  | 0 => fun _ => 0
  | i + 1 => t_in (t_rl g i) (g i) i
theorem tb_graft : ∀ u, u < 17 → ∀ v, v < 17 → (t_nd u + t_nd v ≤ 5 → t_wd u + 1 ≤ 4 ∧ t_rw (t_wd u + 1) (t_in (t_rl (fun i => t_ca (4 * u + i)) (t_wd u)) v (t_wd u)) 17 0 17 = t_gr (17 * u + v)) ∧ (¬ t_nd u + t_nd v ≤ 5 → t_gr (17 * u + v) = 17) := by decide +kernel
theorem sm_108_l {u v : Nat} (hu : u < 17) (hw : t_wd u ≤ 4) {μ0 : sg_S} (hT : tm_Tab μ0) : ∀ m i : Nat, i + m = t_wd u → ∀ μ : sg_S, sm_fr μ0 μ → sm_rw μ i (t_rl (fun i => t_ca (4 * u + i)) i) → ∃ μ1 : sg_S, sm_fr μ0 μ1 ∧ sm_rw μ1 (t_wd u) (t_rl (fun i => t_ca (4 * u + i)) (t_wd u)) ∧ ∀ rr μ', sg_D tm_H 108 57 [.ref 0, .int (nI u), .int (nI v), .int (nI (t_wd u))] [] μ1 rr μ' → sg_D tm_H 108 27 [.ref 0, .int (nI u), .int (nI v), .int (nI i)] [] μ rr μ' := by
  intro m
  induction m with
  | zero =>
    intro i hi μ hF hR
    obtain rfl : i = t_wd u := by omega
    refine ⟨μ, hF, hR, fun rr μ' kk => ?_⟩
    refine sg_iload_n f_108_27 rfl ?_
    refine sg_aload_n f_108_28 rfl ?_
    refine sg_getf_r f_108_29 fd_m_0_769 ?_
    refine sg_iload_n f_108_32 rfl ?_
    refine sg_iaload_k u ok_m f_108_33 sh_m_2 rfl (by omega) ((tm_Tab_fr hT hF).1 u hu).1 ?_
    first | refine sg_ncmp_ge 57 (by omega) (by omega) f_108_34 rfl (fun c34 => ?_) (fun c34 => ?_) | refine sg_icmp_ge 57 f_108_34 rfl (fun c34 => ?_) (fun c34 => ?_)
    · exact kk
    · omega
  | succ m ih =>
    intro i hi μ hF hR
    obtain ⟨μa, ka, hRa, hFa⟩ := sm_103 (c := t_ca (4 * u + i)) hR (by omega) (tb_ca _ (by omega))
    obtain ⟨μ1, h1, h2, h3⟩ := ih (i + 1) (by omega) μa (sm_fr_tr hF hFa) hRa
    refine ⟨μ1, h1, h2, fun rr μ' kk => ?_⟩
    refine sg_iload_n f_108_27 rfl ?_
    refine sg_aload_n f_108_28 rfl ?_
    refine sg_getf_r f_108_29 fd_m_0_769 ?_
    refine sg_iload_n f_108_32 rfl ?_
    refine sg_iaload_k u ok_m f_108_33 sh_m_2 rfl (by omega) ((tm_Tab_fr hT hF).1 u hu).1 ?_
    first | refine sg_ncmp_ge 57 (by omega) (by omega) f_108_34 rfl (fun c34 => ?_) (fun c34 => ?_) | refine sg_icmp_ge 57 f_108_34 rfl (fun c34 => ?_) (fun c34 => ?_)
    · omega
    · refine sg_aload_n f_108_37 rfl ?_
      refine sg_aload_n f_108_38 rfl ?_
      refine sg_getf_r f_108_39 fd_m_0_768 ?_
      refine sg_iconst (nI 4) f_108_42 ki_4 ?_
      refine sg_iload_n f_108_43 rfl ?_
      first | refine sg_imul _ f_108_44 (pk_mul _ _) ?_ | refine sg_imul _ f_108_44 rfl ?_
      refine sg_iload_n f_108_45 rfl ?_
      first | refine sg_iadd _ f_108_46 (nI_add _ _) ?_ | refine sg_iadd _ f_108_46 rfl ?_
      refine sg_iaload_k (4 * u + i) ok_m f_108_47 sh_m_1 rfl (by omega) ((tm_Tab_fr hT hF).2.1 (4 * u + i) (by omega)) ?_
      refine sg_callv_v f_108_48 my_108_103 mr_103 rfl (Nat.le_of_ble_eq_true rfl) (Nat.le_of_ble_eq_true rfl) sh_m_0 (by decide) rfl ka ?_
      first | refine sg_iinc _ [_, _, _, _] f_108_51 rfl (sg_inc1 _) rfl ?_ | refine sg_iinc _ [_, _, _, _] f_108_51 rfl rfl rfl ?_
      refine sg_goto 27 f_108_54 rfl ?_
      exact h3 rr μ' kk
theorem sm_108 {μ : sg_S} {u v : Nat} (hT : tm_Tab μ) (hu : u < 17) (hv : v < 17) : ∃ μ' : sg_S, sg_D tm_H 108 0 [.ref 0, .int (nI u), .int (nI v), ab_u] [] μ (some (.int (t_gi u v))) μ' ∧ sm_fr μ μ' := by
  have hg := tb_graft u hu v hv
  have nu := tb_nd1 u hu
  have nv := tb_nd1 v hv
  by_cases h5 : t_nd u + t_nd v ≤ 5
  · obtain ⟨g1, g2⟩ := hg.1 h5
    have hF0 : sm_fr μ (sg_r1 μ 0 (upd (μ.1 0) 25 (nI 0))) := ⟨rfl, fun k _ h => sg_r1_ne h, fun j hj => by rw [sg_r1_eq, pk_un hj]⟩
    obtain ⟨μ1, h1, h2, h3⟩ := sm_108_l (v := v) hu (by omega) hT (t_wd u) 0 (by omega) _ hF0 ⟨by rw [sg_r1_eq, pk_us], fun i hi => absurd hi (Nat.not_lt_zero _)⟩
    obtain ⟨μ2, k2, hR2, hF2⟩ := sm_103 (c := v) h2 (by omega) hv
    have k4 := sm_104 (tm_Tab_fr hT (sm_fr_tr h1 hF2)) hR2 g1
    rw [g2] at k4
    refine ⟨μ2, ?_, sm_fr_tr h1 hF2⟩
    have k57 : sg_D tm_H 108 57 [.ref 0, .int (nI u), .int (nI v), .int (nI (t_wd u))] [] μ1 (some (.int (t_gi u v))) μ2 := by
      refine sg_aload_n f_108_57 rfl ?_
      refine sg_iload_n f_108_58 rfl ?_
      refine sg_callv_v f_108_59 my_108_103 mr_103 rfl (Nat.le_of_ble_eq_true rfl) (Nat.le_of_ble_eq_true rfl) sh_m_0 (by decide) rfl k2 ?_
      refine sg_aload_n f_108_62 rfl ?_
      refine sg_callv_i f_108_63 my_108_104 mr_104 rfl (Nat.le_of_ble_eq_true rfl) (Nat.le_of_ble_eq_true rfl) sh_m_0 (by decide) rfl k4 ?_
      exact (sg_iret f_108_66 rk_108)
    refine sg_aload_n f_108_0 rfl ?_
    refine sg_getf_r f_108_1 fd_m_0_770 ?_
    refine sg_iload_n f_108_4 rfl ?_
    refine sg_iaload_k u ok_m f_108_5 sh_m_3 rfl (by omega) (hT.1 u hu).2.1 ?_
    refine sg_aload_n f_108_6 rfl ?_
    refine sg_getf_r f_108_7 fd_m_0_770 ?_
    refine sg_iload_n f_108_10 rfl ?_
    refine sg_iaload_k v ok_m f_108_11 sh_m_3 rfl (by omega) (hT.1 v hv).2.1 ?_
    first | refine sg_iadd _ f_108_12 (nI_add _ _) ?_ | refine sg_iadd _ f_108_12 rfl ?_
    refine sg_iconst (nI 5) f_108_13 ki_5 ?_
    refine sg_ncmp_le 20 (by omega) (by omega) f_108_14 rfl (fun c14 => ?_) (fun c14 => ?_)
    · refine sg_aload_n f_108_20 rfl ?_
      refine sg_iconst (nI 0) f_108_21 ki_0 ?_
      refine sg_putf_j 25 f_108_22 (by decide) fd_m_0_793 rfl ?_
      refine sg_iconst (nI 0) f_108_25 ki_0 ?_
      refine sg_istore_n [_, _, _, _] f_108_26 rfl ?_
      exact h3 _ _ k57
    · omega
  · refine ⟨μ, ?_, sm_fr_rfl⟩
    rw [t_gi_17 (hg.2 h5)]
    refine sg_aload_n f_108_0 rfl ?_
    refine sg_getf_r f_108_1 fd_m_0_770 ?_
    refine sg_iload_n f_108_4 rfl ?_
    refine sg_iaload_k u ok_m f_108_5 sh_m_3 rfl (by omega) (hT.1 u hu).2.1 ?_
    refine sg_aload_n f_108_6 rfl ?_
    refine sg_getf_r f_108_7 fd_m_0_770 ?_
    refine sg_iload_n f_108_10 rfl ?_
    refine sg_iaload_k v ok_m f_108_11 sh_m_3 rfl (by omega) (hT.1 v hv).2.1 ?_
    first | refine sg_iadd _ f_108_12 (nI_add _ _) ?_ | refine sg_iadd _ f_108_12 rfl ?_
    refine sg_iconst (nI 5) f_108_13 ki_5 ?_
    refine sg_ncmp_le 20 (by omega) (by omega) f_108_14 rfl (fun c14 => ?_) (fun c14 => ?_)
    · omega
    · refine sg_bipush (-9) f_108_17 kb_m9 ?_
      exact (sg_iret f_108_19 rk_108)
theorem sm_113 {μ : sg_S} {u v : Nat} (hT : tm_Tab μ) (hu : u < 17) (hv : v < 17) : ∃ μ' : sg_S, sg_D tm_H 113 0 [.ref 0, .int (nI u), .int (nI v)] [] μ (some (.int (t_gi u v))) μ' ∧ sm_fr μ μ' := by
  obtain ⟨μ', k, h⟩ := sm_108 hT hu hv
  refine ⟨μ', ?_, h⟩
  refine sg_iload_n f_113_0 rfl ?_
  refine sg_calls_i f_113_1 my_113_100 mr_100 (by decide) rfl (Nat.le_of_ble_eq_true rfl) (Nat.le_of_ble_eq_true rfl) rfl (sm_100_1 hu) ?_
  refine sg_if_eq 23 f_113_4 rfl (fun c4 => ?_) (fun c4 => ?_)
  · exact absurd c4 (by decide)
  · refine sg_iload_n f_113_7 rfl ?_
    refine sg_calls_i f_113_8 my_113_100 mr_100 (by decide) rfl (Nat.le_of_ble_eq_true rfl) (Nat.le_of_ble_eq_true rfl) rfl (sm_100_1 hv) ?_
    refine sg_if_eq 23 f_113_11 rfl (fun c11 => ?_) (fun c11 => ?_)
    · exact absurd c11 (by decide)
    · refine sg_aload_n f_113_14 rfl ?_
      refine sg_iload_n f_113_15 rfl ?_
      refine sg_iload_n f_113_16 rfl ?_
      refine sg_callv_i f_113_17 my_113_108 mr_108 rfl (Nat.le_of_ble_eq_true rfl) (Nat.le_of_ble_eq_true rfl) sh_m_0 (by decide) rfl k ?_
      refine sg_goto 24 f_113_20 rfl ?_
      exact (sg_iret f_113_24 rk_113)
