/-! a tree's text: trees out of rows -/
def t_gf (g : Nat → Nat) : Nat → Nat
  | 0 => 0
  | i + 1 => t_gr (17 * t_gf g i + g i)
def t_ns (g : Nat → Nat) : Nat → Nat
  | 0 => 0
  | i + 1 => t_ns g i + t_nd (g i)
theorem tb_gr2 : ∀ u, u < 17 → ∀ v, v < 17 → t_nd u + t_nd v ≤ 5 → t_gr (17 * u + v) < 17 ∧ t_nd (t_gr (17 * u + v)) = t_nd u + t_nd v := by decide +kernel
theorem t_gf_ok {g : Nat → Nat} : ∀ n, (∀ i, i < n → g i < 17) → t_ns g n ≤ 4 → t_gf g n < 17 ∧ t_nd (t_gf g n) = 1 + t_ns g n
  | 0, _, _ => ⟨show 0 < 17 by decide, rfl⟩
  | n + 1, h, hs => by
    rw [t_ns] at hs
    obtain ⟨h1, h2⟩ := t_gf_ok n (fun i hi => h i (by omega)) (by omega)
    have := tb_gr2 (t_gf g n) h1 (g n) (h n (by omega)) (by omega)
    rw [t_gf, t_ns]
    exact ⟨this.1, by rw [this.2, h2]; omega⟩
theorem t_ns_ge {g : Nat → Nat} : ∀ n, (∀ i, i < n → g i < 17) → n ≤ t_ns g n
  | 0, _ => Nat.le_refl _
  | n + 1, h => by
    rw [t_ns]
    have := t_ns_ge n (fun i hi => h i (by omega))
    have := tb_nd1 (g n) (h n (by omega))
    omega
theorem tb_r1 : ∀ a, a < 17 → t_nd a ≤ 4 → t_rw 1 (t_in (fun _ => 0) a 0) 17 0 17 = t_gr (17 * 0 + a) := by decide +kernel
theorem tb_r2 : ∀ a, a < 17 → ∀ b, b < 17 → t_nd a + t_nd b ≤ 4 → t_rw 2 (t_in (t_in (fun _ => 0) a 0) b 1) 17 0 17 = t_gr (17 * t_gr (17 * 0 + a) + b) := by decide +kernel
theorem tb_r3 : ∀ a, a < 3 → ∀ b, b < 3 → ∀ c, c < 3 → t_nd a + t_nd b + t_nd c ≤ 4 → t_rw 3 (t_in (t_in (t_in (fun _ => 0) a 0) b 1) c 2) 17 0 17 = t_gr (17 * t_gr (17 * t_gr (17 * 0 + a) + b) + c) := by decide +kernel
theorem tb_r4 : t_rw 4 (t_in (t_in (t_in (t_in (fun _ => 0) 0 0) 0 1) 0 2) 0 3) 17 0 17 = t_gr (17 * t_gr (17 * t_gr (17 * t_gr (17 * 0 + 0) + 0) + 0) + 0) := by decide +kernel
theorem tb_n2 : ∀ a, a < 17 → t_nd a ≤ 2 → a < 3 := by decide +kernel
theorem tb_n1 : ∀ a, a < 17 → t_nd a ≤ 1 → a = 0 := by decide +kernel
theorem t_row {g : Nat → Nat} {n : Nat} (h : ∀ i, i < n → g i < 17) (hs : t_ns g n ≤ 4) : t_rw n (t_rl g n) 17 0 17 = t_gf g n := by
  have hn := t_ns_ge n h
  have h4 : n ≤ 4 := by omega
  match n, h, hs, h4 with
  | 0, _, _, _ =>
    show t_rw 0 (fun _ => 0) 17 0 17 = 0
    decide +kernel
  | 1, h, hs, _ =>
    have a1 := h 0 (by omega)
    simp only [t_ns] at hs
    exact tb_r1 (g 0) a1 (by omega)
  | 2, h, hs, _ =>
    have a1 := h 0 (by omega)
    have a2 := h 1 (by omega)
    simp only [t_ns] at hs
    exact tb_r2 (g 0) a1 (g 1) a2 (by omega)
  | 3, h, hs, _ =>
    have a1 := h 0 (by omega)
    have a2 := h 1 (by omega)
    have a3 := h 2 (by omega)
    have b1 := tb_nd1 _ a1
    have b2 := tb_nd1 _ a2
    have b3 := tb_nd1 _ a3
    simp only [t_ns] at hs
    exact tb_r3 (g 0) (tb_n2 _ a1 (by omega)) (g 1) (tb_n2 _ a2 (by omega)) (g 2) (tb_n2 _ a3 (by omega)) (by omega)
  | 4, h, hs, _ =>
    have a1 := h 0 (by omega)
    have a2 := h 1 (by omega)
    have a3 := h 2 (by omega)
    have a4 := h 3 (by omega)
    have b1 := tb_nd1 _ a1
    have b2 := tb_nd1 _ a2
    have b3 := tb_nd1 _ a3
    have b4 := tb_nd1 _ a4
    simp only [t_ns] at hs
    have e1 := tb_n1 _ a1 (by omega)
    have e2 := tb_n1 _ a2 (by omega)
    have e3 := tb_n1 _ a3 (by omega)
    have e4 := tb_n1 _ a4 (by omega)
    show t_rw 4 (t_in (t_in (t_in (t_in (fun _ => 0) (g 0) 0) (g 1) 1) (g 2) 2) (g 3) 3) 17 0 17 = t_gr (17 * t_gr (17 * t_gr (17 * t_gr (17 * 0 + g 0) + g 1) + g 2) + g 3)
    rw [e1, e2, e3, e4]
    exact tb_r4
/-! the class: isWhole, takes -/
theorem sx_48_1 {σ : sg_S} {m : Nat} (h3 : σ.1 48 3 = nI 0) (h4 : σ.1 48 4 = nI m) (hm : 0 < m) (hm5 : m ≤ 5) : sg_D tx_H 48 0 [.ref 48] [] σ (some (.int (nI 1))) σ := by
  refine sg_aload_n f_48_0 rfl ?_
  refine sg_getf_k f_48_1 fd_x_48_516 h4 ?_
  refine sg_if_le 18 f_48_4 rfl (fun c4 => ?_) (fun c4 => ?_)
  · exact absurd c4 (nI_nle hm (by omega))
  · refine sg_aload_n f_48_7 rfl ?_
    refine sg_getf_k f_48_8 fd_x_48_515 h3 ?_
    refine sg_if_ne 18 f_48_11 rfl (fun c11 => ?_) (fun c11 => ?_)
    · exact absurd nI_0 c11
    · refine sg_iconst (nI 1) f_48_14 ki_1 ?_
      refine sg_goto 19 f_48_15 rfl ?_
      exact (sg_zret f_48_19 rk_48 (by first | exact Or.inl rfl | exact Or.inr rfl | assumption))
theorem sx_48_0 {σ : sg_S} {d m : Nat} (h3 : σ.1 48 3 = nI d) (h4 : σ.1 48 4 = nI m) (hd : 0 < d ∨ m = 0) (hd5 : d ≤ 5) (hm5 : m ≤ 5) : sg_D tx_H 48 0 [.ref 48] [] σ (some (.int (nI 0))) σ := by
  rcases hd with hd | hd
  · skip
    refine sg_aload_n f_48_0 rfl ?_
    refine sg_getf_j 4 f_48_1 fd_x_48_516 rfl ?_
    refine sg_if_le 18 f_48_4 rfl (fun c4 => ?_) (fun c4 => ?_)
    · refine sg_iconst (nI 0) f_48_18 ki_0 ?_
      exact (sg_zret f_48_19 rk_48 (by first | exact Or.inl rfl | exact Or.inr rfl | assumption))
    · refine sg_aload_n f_48_7 rfl ?_
      refine sg_getf_k f_48_8 fd_x_48_515 h3 ?_
      refine sg_if_ne 18 f_48_11 rfl (fun c11 => ?_) (fun c11 => ?_)
      · refine sg_iconst (nI 0) f_48_18 ki_0 ?_
        exact (sg_zret f_48_19 rk_48 (by first | exact Or.inl rfl | exact Or.inr rfl | assumption))
      · exact absurd c11 (nI_ne0 hd (by omega))
  · subst hd
    refine sg_aload_n f_48_0 rfl ?_
    refine sg_getf_k f_48_1 fd_x_48_516 h4 ?_
    refine sg_if_le 18 f_48_4 rfl (fun c4 => ?_) (fun c4 => ?_)
    · refine sg_iconst (nI 0) f_48_18 ki_0 ?_
      exact (sg_zret f_48_19 rk_48 (by first | exact Or.inl rfl | exact Or.inr rfl | assumption))
    · exact absurd (by decide) c4
/-- nothing but the tree reader's numbers has changed -/
def sx_tF (σ σ' : sg_S) : Prop := σ'.2 = σ.2 ∧ ∀ a, a ≠ 48 → a ≠ 49 → σ'.1 a = σ.1 a
theorem sx_tF_tr {σ σ1 σ2 : sg_S} (h : sx_tF σ σ1) (h2 : sx_tF σ1 σ2) : sx_tF σ σ2 := ⟨h2.1.trans h.1, fun a p q => (h2.2 a p q).trans (h.2 a p q)⟩
theorem sx_49_o {σ : sg_S} {d m : Nat} (h3 : σ.1 48 3 = nI d) (h4 : σ.1 48 4 = nI m) (hd : 0 < d ∨ m = 0) (hd5 : d < 5) (hm5 : m < 5) : ∃ σ' : sg_S, sg_D tx_H 49 0 [.ref 48, .int (nI 40)] [] σ (some (.int (nI 1))) σ' ∧ sx_tF σ σ' ∧ σ'.1 48 3 = nI (d + 1) ∧ σ'.1 48 4 = nI (m + 1) ∧ σ'.1 49 = upd (σ.1 49) d (nI 0) := by
  have e1 : (sg_r1 σ 49 (upd (σ.1 49) d (nI 0))).1 48 = σ.1 48 := sg_r1_ne (by omega)
  refine ⟨sg_r1 (sg_r1 σ 49 (upd (σ.1 49) d (nI 0))) 48 (upd (upd (σ.1 48) 3 (nI (d + 1))) 4 (nI (m + 1))), ?_, ⟨rfl, fun a q1 q2 => by rw [sg_r1_ne q1, sg_r1_ne q2]⟩, ?_, ?_, ?_⟩
  · skip
    refine sg_iload_n f_49_0 rfl ?_
    refine sg_bipush (nI 40) f_49_1 kb_40 ?_
    refine sg_icmp_ne 53 f_49_3 rfl (fun c3 => ?_) (fun c3 => ?_)
    · exact absurd rfl c3
    · refine sg_aload_n f_49_6 rfl ?_
      refine sg_getf_k f_49_7 fd_x_48_516 h4 ?_
      refine sg_iconst (nI 5) f_49_10 ki_5 ?_
      first | refine sg_ncmp_ge 53 (by omega) (by omega) f_49_11 rfl (fun c11 => ?_) (fun c11 => ?_) | refine sg_icmp_ge 53 f_49_11 rfl (fun c11 => ?_) (fun c11 => ?_)
      · omega
      · refine sg_aload_n f_49_14 rfl ?_
        refine sg_callv_i f_49_15 my_49_48 mr_48 rfl (Nat.le_of_ble_eq_true rfl) (Nat.le_of_ble_eq_true rfl) sh_x_48 (by decide) rfl (sx_48_0 h3 h4 hd (by omega) (by omega)) ?_
        refine sg_if_ne 53 f_49_18 rfl (fun c18 => ?_) (fun c18 => ?_)
        · exact absurd rfl c18
        · refine sg_aload_n f_49_21 rfl ?_
          refine sg_getf_r f_49_22 fd_x_48_514 ?_
          refine sg_aload_n f_49_25 rfl ?_
          refine sg_getf_k f_49_26 fd_x_48_515 h3 ?_
          refine sg_iconst (nI 0) f_49_29 ki_0 ?_
          refine sg_iastore _ ok_x f_49_30 sh_x_49 rfl (by omega) ?_
          refine sg_aload_n f_49_31 rfl ?_
          refine sg_dup f_49_32 rfl ?_
          refine sg_getf_k f_49_33 fd_x_48_515 (show _ = nI d from h3) ?_
          refine sg_iconst (nI 1) f_49_36 ki_1 ?_
          first | refine sg_iadd _ f_49_37 (nI_add _ _) ?_ | refine sg_iadd _ f_49_37 rfl ?_
          refine sg_putf_j 3 f_49_38 (by decide) fd_x_48_515 rfl ?_
          rw [e1]
          refine sg_aload_n f_49_41 rfl ?_
          refine sg_dup f_49_42 rfl ?_
          refine sg_getf_k f_49_43 fd_x_48_516 (show _ = nI m by rw [sg_r1_eq, pk_un (by omega)]; exact h4) ?_
          refine sg_iconst (nI 1) f_49_46 ki_1 ?_
          first | refine sg_iadd _ f_49_47 (nI_add _ _) ?_ | refine sg_iadd _ f_49_47 rfl ?_
          refine sg_putf_j 4 f_49_48 (by decide) fd_x_48_516 rfl ?_
          rw [sg_r1_r1, sg_r1_eq]
          refine sg_iconst (nI 1) f_49_51 ki_1 ?_
          exact (sg_zret f_49_52 rk_49 (by first | exact Or.inl rfl | exact Or.inr rfl | assumption))
  · rw [sg_r1_eq, pk_un (by omega), pk_us]
  · rw [sg_r1_eq, pk_us]
  · rw [sg_r1_ne (by omega), sg_r1_eq]
theorem sx_49_c1 {σ : sg_S} (h3 : σ.1 48 3 = nI 1) : ∃ σ' : sg_S, sg_D tx_H 49 0 [.ref 48, .int (nI 41)] [] σ (some (.int (nI 1))) σ' ∧ sx_tF σ σ' ∧ σ'.1 48 3 = nI 0 ∧ σ'.1 48 4 = σ.1 48 4 ∧ σ'.1 49 = σ.1 49 := by
  refine ⟨sg_r1 σ 48 (upd (σ.1 48) 3 (nI 0)), ?_, ⟨rfl, fun a q1 q2 => by rw [sg_r1_ne q1]⟩, ?_, ?_, ?_⟩
  · skip
    refine sg_iload_n f_49_0 rfl ?_
    refine sg_bipush (nI 40) f_49_1 kb_40 ?_
    refine sg_icmp_ne 53 f_49_3 rfl (fun c3 => ?_) (fun c3 => ?_)
    · refine sg_iload_n f_49_53 rfl ?_
      refine sg_bipush (nI 41) f_49_54 kb_41 ?_
      refine sg_icmp_ne 123 f_49_56 rfl (fun c56 => ?_) (fun c56 => ?_)
      · exact absurd rfl c56
      · refine sg_aload_n f_49_59 rfl ?_
        refine sg_getf_k f_49_60 fd_x_48_515 h3 ?_
        refine sg_if_le 123 f_49_63 rfl (fun c63 => ?_) (fun c63 => ?_)
        · exact absurd c63 (by decide)
        · refine sg_aload_n f_49_66 rfl ?_
          refine sg_dup f_49_67 rfl ?_
          refine sg_getf_k f_49_68 fd_x_48_515 h3 ?_
          refine sg_iconst (nI 1) f_49_71 ki_1 ?_
          refine sg_isub (nI 0) f_49_72 rfl ?_
          refine sg_putf_j 3 f_49_73 (by decide) fd_x_48_515 rfl ?_
          refine sg_aload_n f_49_76 rfl ?_
          refine sg_getf_k f_49_77 fd_x_48_515 (show _ = nI 0 by rw [sg_r1_eq, pk_us]) ?_
          refine sg_if_le 121 f_49_80 rfl (fun c80 => ?_) (fun c80 => ?_)
          · refine sg_iconst (nI 1) f_49_121 ki_1 ?_
            exact (sg_zret f_49_122 rk_49 (by first | exact Or.inl rfl | exact Or.inr rfl | assumption))
          · exact absurd (by decide) c80
    · exact absurd c3 (by decide)
  · rw [sg_r1_eq, pk_us]
  · rw [sg_r1_eq, pk_un (by omega)]
  · rw [sg_r1_ne (by omega)]
theorem sx_49_c {σ : sg_S} {e u v : Nat} (hT : tx_Tab σ) (h3 : σ.1 48 3 = nI (e + 2)) (he : e + 2 ≤ 5) (hu : σ.1 49 e = nI u) (hv : σ.1 49 (e + 1) = nI v) (hu17 : u < 17) (hv17 : v < 17) : ∃ σ' : sg_S, sg_D tx_H 49 0 [.ref 48, .int (nI 41)] [] σ (some (.int (nI 1))) σ' ∧ sx_tF σ σ' ∧ σ'.1 48 3 = nI (e + 1) ∧ σ'.1 48 4 = σ.1 48 4 ∧ σ'.1 49 = upd (σ.1 49) e (t_gi u v) := by
  have hT1 : tx_Tab (sg_r1 σ 48 (upd (σ.1 48) 3 (nI (e + 1)))) := tx_Tab_of hT (fun a ha => sg_r1_ne (by omega)) rfl
  have h31 : (sg_r1 σ 48 (upd (σ.1 48) 3 (nI (e + 1)))).1 48 3 = nI (e + 1) := by rw [sg_r1_eq, pk_us]
  refine ⟨sg_r1 (sg_r1 σ 48 (upd (σ.1 48) 3 (nI (e + 1)))) 49 (upd (σ.1 49) e (t_gi u v)), ?_, ⟨rfl, fun a q1 q2 => by rw [sg_r1_ne q2, sg_r1_ne q1]⟩, ?_, ?_, ?_⟩
  · skip
    refine sg_iload_n f_49_0 rfl ?_
    refine sg_bipush (nI 40) f_49_1 kb_40 ?_
    refine sg_icmp_ne 53 f_49_3 rfl (fun c3 => ?_) (fun c3 => ?_)
    · refine sg_iload_n f_49_53 rfl ?_
      refine sg_bipush (nI 41) f_49_54 kb_41 ?_
      refine sg_icmp_ne 123 f_49_56 rfl (fun c56 => ?_) (fun c56 => ?_)
      · exact absurd rfl c56
      · refine sg_aload_n f_49_59 rfl ?_
        refine sg_getf_k f_49_60 fd_x_48_515 h3 ?_
        refine sg_if_le 123 f_49_63 rfl (fun c63 => ?_) (fun c63 => ?_)
        · exact absurd c63 (nI_nle (by omega) (by omega))
        · refine sg_aload_n f_49_66 rfl ?_
          refine sg_dup f_49_67 rfl ?_
          refine sg_getf_k f_49_68 fd_x_48_515 h3 ?_
          refine sg_iconst (nI 1) f_49_71 ki_1 ?_
          refine sg_isub (nI (e + 1)) f_49_72 (nI_pred (e + 1)) ?_
          refine sg_putf_j 3 f_49_73 (by decide) fd_x_48_515 rfl ?_
          refine sg_aload_n f_49_76 rfl ?_
          refine sg_getf_k f_49_77 fd_x_48_515 h31 ?_
          refine sg_if_le 121 f_49_80 rfl (fun c80 => ?_) (fun c80 => ?_)
          · exact absurd c80 (nI_nle (by omega) (by omega))
          · refine sg_aload_n f_49_83 rfl ?_
            refine sg_getf_r f_49_84 fd_x_48_514 ?_
            refine sg_aload_n f_49_87 rfl ?_
            refine sg_getf_k f_49_88 fd_x_48_515 h31 ?_
            refine sg_iconst (nI 1) f_49_91 ki_1 ?_
            refine sg_isub (nI e) f_49_92 (nI_pred e) ?_
            refine sg_aload_n f_49_93 rfl ?_
            refine sg_getf_r f_49_94 fd_x_48_512 ?_
            refine sg_aload_n f_49_97 rfl ?_
            refine sg_getf_r f_49_98 fd_x_48_514 ?_
            refine sg_aload_n f_49_101 rfl ?_
            refine sg_getf_k f_49_102 fd_x_48_515 h31 ?_
            refine sg_iconst (nI 1) f_49_105 ki_1 ?_
            refine sg_isub (nI e) f_49_106 (nI_pred e) ?_
            refine sg_iaload_k e ok_x f_49_107 sh_x_49 rfl (by omega) (show _ = nI u from hu) ?_
            refine sg_aload_n f_49_108 rfl ?_
            refine sg_getf_r f_49_109 fd_x_48_514 ?_
            refine sg_aload_n f_49_112 rfl ?_
            refine sg_getf_k f_49_113 fd_x_48_515 h31 ?_
            refine sg_iaload_k (e + 1) ok_x f_49_116 sh_x_49 rfl (by omega) (show _ = nI v from hv) ?_
            refine sg_callv_i f_49_117 my_49_55 mr_55 rfl (Nat.le_of_ble_eq_true rfl) (Nat.le_of_ble_eq_true rfl) sh_x_1 (by decide) rfl (sx_55 hT1 hu17 hv17) ?_
            refine sg_iastore e ok_x f_49_120 sh_x_49 rfl (by omega) ?_
            refine sg_iconst (nI 1) f_49_121 ki_1 ?_
            exact (sg_zret f_49_122 rk_49 (by first | exact Or.inl rfl | exact Or.inr rfl | assumption))
    · exact absurd c3 (by decide)
  · rw [sg_r1_ne (by omega), sg_r1_eq, pk_us]
  · rw [sg_r1_ne (by omega), sg_r1_eq, pk_un (by omega)]
  · rw [sg_r1_eq]
theorem sx_49_n {σ : sg_S} {c d m : Nat} (h3 : σ.1 48 3 = nI d) (h4 : σ.1 48 4 = nI m) (hc : c ≤ 255) (hd5 : d ≤ 5) (hm5 : m ≤ 5) (h1 : c ≠ 40 ∨ m = 5 ∨ (d = 0 ∧ 0 < m)) (h2 : c ≠ 41 ∨ d = 0) : sg_D tx_H 49 0 [.ref 48, .int (nI c)] [] σ (some (.int (nI 0))) σ := by
  have k53 : sg_D tx_H 49 53 [.ref 48, .int (nI c)] [] σ (some (.int (nI 0))) σ := by
    refine sg_iload_n f_49_53 rfl ?_
    refine sg_bipush (nI 41) f_49_54 kb_41 ?_
    refine sg_ncmp_ne 123 (by omega) (by omega) f_49_56 rfl (fun c56 => ?_) (fun c56 => ?_)
    · refine sg_iconst (nI 0) f_49_123 ki_0 ?_
      exact (sg_zret f_49_124 rk_49 (by first | exact Or.inl rfl | exact Or.inr rfl | assumption))
    · refine sg_aload_n f_49_59 rfl ?_
      refine sg_getf_k f_49_60 fd_x_48_515 h3 ?_
      refine sg_if_le 123 f_49_63 rfl (fun c63 => ?_) (fun c63 => ?_)
      · refine sg_iconst (nI 0) f_49_123 ki_0 ?_
        exact (sg_zret f_49_124 rk_49 (by first | exact Or.inl rfl | exact Or.inr rfl | assumption))
      · exact absurd (show 0 < d from Nat.pos_of_ne_zero (fun e => c63 (by rw [e]; decide))) (by omega)
  by_cases h0 : d = 0 ∧ 0 < m
  · obtain ⟨rfl, hm⟩ := h0
    refine sg_iload_n f_49_0 rfl ?_
    refine sg_bipush (nI 40) f_49_1 kb_40 ?_
    refine sg_ncmp_ne 53 (by omega) (by omega) f_49_3 rfl (fun c3 => ?_) (fun c3 => ?_)
    · exact k53
    · refine sg_aload_n f_49_6 rfl ?_
      refine sg_getf_k f_49_7 fd_x_48_516 h4 ?_
      refine sg_iconst (nI 5) f_49_10 ki_5 ?_
      refine sg_ncmp_ge 53 (by omega) (by omega) f_49_11 rfl (fun c11 => ?_) (fun c11 => ?_)
      · exact k53
      · refine sg_aload_n f_49_14 rfl ?_
        refine sg_callv_i f_49_15 my_49_48 mr_48 rfl (Nat.le_of_ble_eq_true rfl) (Nat.le_of_ble_eq_true rfl) sh_x_48 (by decide) rfl (sx_48_1 h3 h4 hm hm5) ?_
        refine sg_if_ne 53 f_49_18 rfl (fun c18 => ?_) (fun c18 => ?_)
        · exact k53
        · exact absurd c18 (by decide)
  · skip
    refine sg_iload_n f_49_0 rfl ?_
    refine sg_bipush (nI 40) f_49_1 kb_40 ?_
    refine sg_ncmp_ne 53 (by omega) (by omega) f_49_3 rfl (fun c3 => ?_) (fun c3 => ?_)
    · exact k53
    · refine sg_aload_n f_49_6 rfl ?_
      refine sg_getf_k f_49_7 fd_x_48_516 h4 ?_
      refine sg_iconst (nI 5) f_49_10 ki_5 ?_
      refine sg_ncmp_ge 53 (by omega) (by omega) f_49_11 rfl (fun c11 => ?_) (fun c11 => ?_)
      · exact k53
      · omega
