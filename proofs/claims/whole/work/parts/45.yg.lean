/-! the model: scan -/
def sm_tk (f : Nat → Int32) (p k q v : Int32) : Nat → Int32 := fun j => if j = 28 then p else if j = 30 then k else if j = 29 then q else if j = 31 then v else f j
theorem sm_tk_28 {f : Nat → Int32} {p k q v w : Int32} : upd (sm_tk f p k q v) 28 w = sm_tk f w k q v := by
  funext j; unfold upd sm_tk; by_cases h : j = 28 <;> simp [h]
theorem sm_tk_30 {f : Nat → Int32} {p k q v w : Int32} : upd (sm_tk f p k q v) 30 w = sm_tk f p w q v := by
  funext j; unfold upd sm_tk; by_cases h : j = 30 <;> simp [h]
theorem sm_tk_29 {f : Nat → Int32} {p k q v w : Int32} : upd (sm_tk f p k q v) 29 w = sm_tk f p k w v := by
  funext j; unfold upd sm_tk; by_cases h : j = 29 <;> simp [h]
theorem sm_tk_31 {f : Nat → Int32} {p k q v w : Int32} : upd (sm_tk f p k q v) 31 w = sm_tk f p k q w := by
  funext j; unfold upd sm_tk; by_cases h : j = 31 <;> simp [h]
theorem sm_tk_o {f : Nat → Int32} {p k q v : Int32} {j : Nat} (h : j < 28 ∨ 31 < j) : sm_tk f p k q v j = f j := by
  unfold sm_tk; rw [if_neg (by omega), if_neg (by omega), if_neg (by omega), if_neg (by omega)]
def sm_tS (μ : sg_S) (p k q v : Int32) : sg_S := sg_r1 μ 0 (sm_tk (μ.1 0) p k q v)
theorem sm_tS_0 {μ : sg_S} {p k q v : Int32} : (sm_tS μ p k q v).1 0 = sm_tk (μ.1 0) p k q v := sg_r1_eq
theorem sm_tS_ne {μ : sg_S} {p k q v : Int32} {a : Nat} (h : a ≠ 0) : (sm_tS μ p k q v).1 a = μ.1 a := sg_r1_ne h
theorem sm_tS_a {μ : sg_S} {p k q v : Int32} : (sm_tS μ p k q v).1 0 28 = p ∧ (sm_tS μ p k q v).1 0 30 = k ∧ (sm_tS μ p k q v).1 0 29 = q ∧ (sm_tS μ p k q v).1 0 31 = v := by
  rw [sm_tS_0]; exact ⟨rfl, rfl, rfl, rfl⟩
theorem sm_tS_28 {μ : sg_S} {p k q v w : Int32} : sg_r1 (sm_tS μ p k q v) 0 (upd ((sm_tS μ p k q v).1 0) 28 w) = sm_tS μ w k q v := by
  rw [sm_tS_0, sm_tk_28]; exact sg_r1_r1
theorem sm_tS_30 {μ : sg_S} {p k q v w : Int32} : sg_r1 (sm_tS μ p k q v) 0 (upd ((sm_tS μ p k q v).1 0) 30 w) = sm_tS μ p w q v := by
  rw [sm_tS_0, sm_tk_30]; exact sg_r1_r1
theorem sm_tS_29 {μ : sg_S} {p k q v w : Int32} : sg_r1 (sm_tS μ p k q v) 0 (upd ((sm_tS μ p k q v).1 0) 29 w) = sm_tS μ p k w v := by
  rw [sm_tS_0, sm_tk_29]; exact sg_r1_r1
theorem sm_tS_31 {μ : sg_S} {p k q v w : Int32} : sg_r1 (sm_tS μ p k q v) 0 (upd ((sm_tS μ p k q v).1 0) 31 w) = sm_tS μ p k q w := by
  rw [sm_tS_0, sm_tk_31]; exact sg_r1_r1
theorem sm_tS_self {μ : sg_S} {p k q v : Int32} (h1 : μ.1 0 28 = p) (h2 : μ.1 0 30 = k) (h3 : μ.1 0 29 = q) (h4 : μ.1 0 31 = v) : sm_tS μ p k q v = μ := by
  refine sg_r1_self ?_
  funext j
  unfold sm_tk
  by_cases e1 : j = 28
  · rw [if_pos e1, e1, h1]
  · rw [if_neg e1]
    by_cases e2 : j = 30
    · rw [if_pos e2, e2, h2]
    · rw [if_neg e2]
      by_cases e3 : j = 29
      · rw [if_pos e3, e3, h3]
      · rw [if_neg e3]
        by_cases e4 : j = 31
        · rw [if_pos e4, e4, h4]
        · rw [if_neg e4]
/-- the text -/
def sm_tx (μ : sg_S) (x : Nat → Nat) (n : Nat) : Prop := μ.1 0 12 = nI n ∧ n ≤ 160 ∧ ∀ i, i < n → μ.1 11 i = nI (x i) ∧ x i ≤ 255
theorem sm_tS_tx {μ : sg_S} {x : Nat → Nat} {n : Nat} {p k q v : Int32} (h : sm_tx μ x n) : sm_tx (sm_tS μ p k q v) x n :=
  ⟨by rw [sm_tS_0, sm_tk_o (by omega)]; exact h.1, h.2.1, fun i hi => by rw [sm_tS_ne (by omega)]; exact h.2.2 i hi⟩
def sm_sort (k : Int32) : Int32 := if k = nI 48 then nI 1 else if k = -1 then nI 2 else if k = -2 then nI 3 else k
/-- the kinds that there are -/
def rd_kk (k : Int32) : Prop := k = -1 ∨ k = -2 ∨ k = nI 48 ∨ k = nI 45 ∨ k = nI 59 ∨ k = nI 97 ∨ k = nI 98 ∨ k = nI 115
theorem rd_tok_kk {x : Nat → Nat} {n p z : Nat} : rd_kk (rd_tok x n p z).2.1 := by
  unfold rd_tok
  split
  · exact Or.inl rfl
  · split
    · dsimp only
      split
      · exact Or.inr (Or.inl rfl)
      · exact Or.inr (Or.inr (Or.inl rfl))
    · dsimp only
      unfold rd_kd
      split
      · rename_i h
        rcases h with h | h | h | h | h <;> rw [h] <;> unfold rd_kk <;> decide +kernel
      · exact Or.inr (Or.inl rfl)
theorem sm_sort_iff {k : Int32} (h : rd_kk k) : (sm_sort k = nI 1 ↔ k = nI 48) ∧ (sm_sort k = nI 2 ↔ k = -1) ∧ (sm_sort k = nI 45 ↔ k = nI 45) ∧ (sm_sort k = nI 59 ↔ k = nI 59) ∧ (sm_sort k = nI 97 ↔ k = nI 97) ∧ (sm_sort k = nI 98 ↔ k = nI 98) ∧ (sm_sort k = nI 115 ↔ k = nI 115) := by
  rcases h with h | h | h | h | h | h | h | h <;> subst h <;> decide +kernel
/-- a number, held down otherwise -/
def rd_nw (x : Nat → Nat) : Nat → Nat → Nat → Nat × Nat
  | 0, p, w => (w, p)
  | m + 1, p, w => if rd_fig (x p) then rd_nw x m (p + 1) (if 999 < w then w else 10 * w + (x p - 48)) else (w, p)
theorem rd_nw_nm (x : Nat → Nat) : ∀ m p w, rd_nm x m p (min w 1000) = (min (rd_nw x m p w).1 1000, (rd_nw x m p w).2) := by
  intro m
  induction m with
  | zero => intro p w; rw [rd_nm, rd_nw]
  | succ m ih =>
    intro p w
    rw [rd_nm, rd_nw]
    by_cases h : rd_fig (x p) = true
    · rw [if_pos h, if_pos h, ← ih]
      congr 1
      by_cases h9 : 999 < w
      · rw [if_pos h9]; omega
      · rw [if_neg h9]; omega
    · rw [if_neg h, if_neg h]
theorem rd_nw_le (x : Nat → Nat) : ∀ m p w, w ≤ 9999 → p ≤ (rd_nw x m p w).2 ∧ (rd_nw x m p w).2 ≤ p + m ∧ (rd_nw x m p w).1 ≤ 9999 := by
  intro m
  induction m with
  | zero => intro p w h; exact ⟨Nat.le_refl _, Nat.le_refl _, h⟩
  | succ m ih =>
    intro p w h
    rw [rd_nw]
    by_cases hf : rd_fig (x p) = true
    · rw [if_pos hf]
      have hf' := rd_fig_iff.mp hf
      have := ih (p + 1) (if 999 < w then w else 10 * w + (x p - 48)) (by split <;> omega)
      omega
    · rw [if_neg hf]; exact ⟨Nat.le_refl _, by omega, h⟩
theorem sm_118_l {μ μ' : sg_S} {rr : Option Value} {x : Nat → Nat} {n : Nat} {k q v : Int32} (hx : sm_tx μ x n) : ∀ m p : Nat, p + m = n → sg_D tm_H 118 38 [.ref 0, ab_u] [] (sm_tS μ (nI (rd_sp x m p)) k q v) rr μ' → sg_D tm_H 118 0 [.ref 0, ab_u] [] (sm_tS μ (nI p) k q v) rr μ' := by
  have h160 := hx.2.1
  intro m
  induction m with
  | zero =>
    intro p hp kk
    rw [rd_sp] at kk
    refine sg_aload_n f_118_0 rfl ?_
    refine sg_getf_k f_118_1 fd_m_0_796 sm_tS_a.1 ?_
    refine sg_aload_n f_118_4 rfl ?_
    refine sg_getf_k f_118_5 fd_m_0_780 (sm_tS_tx hx).1 ?_
    first | refine sg_ncmp_ge 38 (by omega) (by omega) f_118_8 rfl (fun c8 => ?_) (fun c8 => ?_) | refine sg_icmp_ge 38 f_118_8 rfl (fun c8 => ?_) (fun c8 => ?_)
    · exact kk
    · omega
  | succ m ih =>
    intro p hp kk
    have hpn : p < n := by omega
    have hc := (hx.2.2 p hpn).2
    rw [rd_sp] at kk
    by_cases hf : x p = 32
    · rw [if_pos hf] at kk
      refine sg_aload_n f_118_0 rfl ?_
      refine sg_getf_k f_118_1 fd_m_0_796 sm_tS_a.1 ?_
      refine sg_aload_n f_118_4 rfl ?_
      refine sg_getf_k f_118_5 fd_m_0_780 (sm_tS_tx hx).1 ?_
      first | refine sg_ncmp_ge 38 (by omega) (by omega) f_118_8 rfl (fun c8 => ?_) (fun c8 => ?_) | refine sg_icmp_ge 38 f_118_8 rfl (fun c8 => ?_) (fun c8 => ?_)
      · omega
      · refine sg_aload_n f_118_11 rfl ?_
        refine sg_getf_r f_118_12 fd_m_0_779 ?_
        refine sg_aload_n f_118_15 rfl ?_
        refine sg_getf_k f_118_16 fd_m_0_796 sm_tS_a.1 ?_
        refine sg_iaload_k p ok_m f_118_19 sh_m_11 rfl (by omega) ((sm_tS_tx hx).2.2 p hpn).1 ?_
        refine sg_bipush (nI 32) f_118_20 kb_32 ?_
        first | refine sg_ncmp_ne 38 (by omega) (by omega) f_118_22 rfl (fun c22 => ?_) (fun c22 => ?_) | refine sg_icmp_ne 38 f_118_22 rfl (fun c22 => ?_) (fun c22 => ?_)
        · omega
        · refine sg_aload_n f_118_25 rfl ?_
          refine sg_dup f_118_26 rfl ?_
          refine sg_getf_k f_118_27 fd_m_0_796 sm_tS_a.1 ?_
          refine sg_iconst (nI 1) f_118_30 ki_1 ?_
          first | refine sg_iadd _ f_118_31 (nI_add _ _) ?_ | refine sg_iadd _ f_118_31 rfl ?_
          refine sg_putf_j 28 f_118_32 (by decide) fd_m_0_796 rfl ?_
          rw [sm_tS_28]
          refine sg_goto 0 f_118_35 rfl ?_
          exact ih (p + 1) (by omega) kk
    · rw [if_neg hf] at kk
      refine sg_aload_n f_118_0 rfl ?_
      refine sg_getf_k f_118_1 fd_m_0_796 sm_tS_a.1 ?_
      refine sg_aload_n f_118_4 rfl ?_
      refine sg_getf_k f_118_5 fd_m_0_780 (sm_tS_tx hx).1 ?_
      first | refine sg_ncmp_ge 38 (by omega) (by omega) f_118_8 rfl (fun c8 => ?_) (fun c8 => ?_) | refine sg_icmp_ge 38 f_118_8 rfl (fun c8 => ?_) (fun c8 => ?_)
      · omega
      · refine sg_aload_n f_118_11 rfl ?_
        refine sg_getf_r f_118_12 fd_m_0_779 ?_
        refine sg_aload_n f_118_15 rfl ?_
        refine sg_getf_k f_118_16 fd_m_0_796 sm_tS_a.1 ?_
        refine sg_iaload_k p ok_m f_118_19 sh_m_11 rfl (by omega) ((sm_tS_tx hx).2.2 p hpn).1 ?_
        refine sg_bipush (nI 32) f_118_20 kb_32 ?_
        first | refine sg_ncmp_ne 38 (by omega) (by omega) f_118_22 rfl (fun c22 => ?_) (fun c22 => ?_) | refine sg_icmp_ne 38 f_118_22 rfl (fun c22 => ?_) (fun c22 => ?_)
        · exact kk
        · omega
theorem sm_fig1 {c : Nat} (h : rd_fig c = true) (hc : c ≤ 255) : (48 : Int64).toInt ≤ (nI c).toInt ∧ (nI c).toInt ≤ (57 : Int64).toInt := by
  have h' := rd_fig_iff.mp h
  have e1 : (48 : Int64).toInt = 48 := rfl
  have e2 : (57 : Int64).toInt = 57 := rfl
  rw [nI_toInt (by omega), e1, e2]; omega
theorem sm_fig0 {c : Nat} (h : ¬ rd_fig c = true) (hc : c ≤ 255) : (nI c).toInt < (48 : Int64).toInt ∨ (57 : Int64).toInt < (nI c).toInt := by
  have e1 : (48 : Int64).toInt = 48 := rfl
  have e2 : (57 : Int64).toInt = 57 := rfl
  rw [nI_toInt (by omega), e1, e2]
  have h' : ¬ (48 ≤ c ∧ c ≤ 57) := fun z => h (rd_fig_iff.mpr z)
  omega
theorem sm_118_n {μ μ' : sg_S} {rr : Option Value} {x : Nat → Nat} {n : Nat} {k q c : Int32} (hx : sm_tx μ x n) : ∀ m p w : Nat, p + m = n → w ≤ 9999 → sg_D tm_H 118 196 [.ref 0, .int c] [] (sm_tS μ (nI (rd_nw x m p w).2) k q (nI (rd_nw x m p w).1)) rr μ' → sg_D tm_H 118 109 [.ref 0, .int c] [] (sm_tS μ (nI p) k q (nI w)) rr μ' := by
  have h160 := hx.2.1
  intro m
  induction m with
  | zero =>
    intro p w hp hw kk
    rw [rd_nw] at kk
    refine sg_aload_n f_118_109 rfl ?_
    refine sg_getf_k f_118_110 fd_m_0_796 sm_tS_a.1 ?_
    refine sg_aload_n f_118_113 rfl ?_
    refine sg_getf_k f_118_114 fd_m_0_780 (sm_tS_tx hx).1 ?_
    first | refine sg_ncmp_ge 196 (by omega) (by omega) f_118_117 rfl (fun c117 => ?_) (fun c117 => ?_) | refine sg_icmp_ge 196 f_118_117 rfl (fun c117 => ?_) (fun c117 => ?_)
    · exact kk
    · omega
  | succ m ih =>
    intro p w hp hw kk
    have hpn : p < n := by omega
    have hc := (hx.2.2 p hpn).2
    rw [rd_nw] at kk
    by_cases hf : rd_fig (x p) = true
    · rw [if_pos hf] at kk
      have hf' := rd_fig_iff.mp hf
      by_cases h9 : 999 < w
      · rw [if_pos h9] at kk
        refine sg_aload_n f_118_109 rfl ?_
        refine sg_getf_k f_118_110 fd_m_0_796 sm_tS_a.1 ?_
        refine sg_aload_n f_118_113 rfl ?_
        refine sg_getf_k f_118_114 fd_m_0_780 (sm_tS_tx hx).1 ?_
        first | refine sg_ncmp_ge 196 (by omega) (by omega) f_118_117 rfl (fun c117 => ?_) (fun c117 => ?_) | refine sg_icmp_ge 196 f_118_117 rfl (fun c117 => ?_) (fun c117 => ?_)
        · omega
        · refine sg_aload_n f_118_120 rfl ?_
          refine sg_getf_r f_118_121 fd_m_0_779 ?_
          refine sg_aload_n f_118_124 rfl ?_
          refine sg_getf_k f_118_125 fd_m_0_796 sm_tS_a.1 ?_
          refine sg_iaload_k p ok_m f_118_128 sh_m_11 rfl (by omega) ((sm_tS_tx hx).2.2 p hpn).1 ?_
          refine sg_i2l _ f_118_129 rfl ?_
          refine sg_ldc2_w (48) f_118_130 rfl ?_
          refine sg_ldc2_w (57) f_118_133 rfl ?_
          refine sg_calls_i f_118_136 my_118_99 mr_99 (by decide) rfl (Nat.le_of_ble_eq_true rfl) (Nat.le_of_ble_eq_true rfl) rfl (sm_99_1 (sm_fig1 hf hc)) ?_
          refine sg_if_eq 196 f_118_139 rfl (fun c139 => ?_) (fun c139 => ?_)
          · exact absurd c139 (by decide)
          · refine sg_aload_n f_118_142 rfl ?_
            refine sg_aload_n f_118_143 rfl ?_
            refine sg_getf_k f_118_144 fd_m_0_799 sm_tS_a.2.2.2 ?_
            refine sg_sipush (nI 999) f_118_147 ks_999 ?_
            first | refine sg_ncmp_le 160 (by omega) (by omega) f_118_150 rfl (fun c150 => ?_) (fun c150 => ?_) | refine sg_icmp_le 160 f_118_150 rfl (fun c150 => ?_) (fun c150 => ?_)
            · omega
            · refine sg_aload_n f_118_153 rfl ?_
              refine sg_getf_k f_118_154 fd_m_0_799 sm_tS_a.2.2.2 ?_
              refine sg_goto 180 f_118_157 rfl ?_
              refine sg_putf_j 31 f_118_180 (by decide) fd_m_0_799 rfl ?_
              rw [sm_tS_31]
              refine sg_aload_n f_118_183 rfl ?_
              refine sg_dup f_118_184 rfl ?_
              refine sg_getf_k f_118_185 fd_m_0_796 sm_tS_a.1 ?_
              refine sg_iconst (nI 1) f_118_188 ki_1 ?_
              first | refine sg_iadd _ f_118_189 (nI_add _ _) ?_ | refine sg_iadd _ f_118_189 rfl ?_
              refine sg_putf_j 28 f_118_190 (by decide) fd_m_0_796 rfl ?_
              rw [sm_tS_28]
              refine sg_goto 109 f_118_193 rfl ?_
              exact ih (p + 1) w (by omega) hw kk
      · rw [if_neg h9] at kk
        refine sg_aload_n f_118_109 rfl ?_
        refine sg_getf_k f_118_110 fd_m_0_796 sm_tS_a.1 ?_
        refine sg_aload_n f_118_113 rfl ?_
        refine sg_getf_k f_118_114 fd_m_0_780 (sm_tS_tx hx).1 ?_
        first | refine sg_ncmp_ge 196 (by omega) (by omega) f_118_117 rfl (fun c117 => ?_) (fun c117 => ?_) | refine sg_icmp_ge 196 f_118_117 rfl (fun c117 => ?_) (fun c117 => ?_)
        · omega
        · refine sg_aload_n f_118_120 rfl ?_
          refine sg_getf_r f_118_121 fd_m_0_779 ?_
          refine sg_aload_n f_118_124 rfl ?_
          refine sg_getf_k f_118_125 fd_m_0_796 sm_tS_a.1 ?_
          refine sg_iaload_k p ok_m f_118_128 sh_m_11 rfl (by omega) ((sm_tS_tx hx).2.2 p hpn).1 ?_
          refine sg_i2l _ f_118_129 rfl ?_
          refine sg_ldc2_w (48) f_118_130 rfl ?_
          refine sg_ldc2_w (57) f_118_133 rfl ?_
          refine sg_calls_i f_118_136 my_118_99 mr_99 (by decide) rfl (Nat.le_of_ble_eq_true rfl) (Nat.le_of_ble_eq_true rfl) rfl (sm_99_1 (sm_fig1 hf hc)) ?_
          refine sg_if_eq 196 f_118_139 rfl (fun c139 => ?_) (fun c139 => ?_)
          · exact absurd c139 (by decide)
          · refine sg_aload_n f_118_142 rfl ?_
            refine sg_aload_n f_118_143 rfl ?_
            refine sg_getf_k f_118_144 fd_m_0_799 sm_tS_a.2.2.2 ?_
            refine sg_sipush (nI 999) f_118_147 ks_999 ?_
            first | refine sg_ncmp_le 160 (by omega) (by omega) f_118_150 rfl (fun c150 => ?_) (fun c150 => ?_) | refine sg_icmp_le 160 f_118_150 rfl (fun c150 => ?_) (fun c150 => ?_)
            · refine sg_bipush (nI 10) f_118_160 kb_10 ?_
              refine sg_aload_n f_118_162 rfl ?_
              refine sg_getf_k f_118_163 fd_m_0_799 sm_tS_a.2.2.2 ?_
              refine sg_imul (nI (10 * w)) f_118_166 (pk_mul 10 w) ?_
              refine sg_aload_n f_118_167 rfl ?_
              refine sg_getf_r f_118_168 fd_m_0_779 ?_
              refine sg_aload_n f_118_171 rfl ?_
              refine sg_getf_k f_118_172 fd_m_0_796 sm_tS_a.1 ?_
              refine sg_iaload_k p ok_m f_118_175 sh_m_11 rfl (by omega) ((sm_tS_tx hx).2.2 p hpn).1 ?_
              refine sg_iadd (nI (10 * w + x p)) f_118_176 (nI_add _ _) ?_
              refine sg_bipush (nI 48) f_118_177 kb_48 ?_
              refine sg_isub (nI (10 * w + (x p - 48))) f_118_179 (by rw [sg_nsub (by omega)]; congr 1; omega) ?_
              refine sg_putf_j 31 f_118_180 (by decide) fd_m_0_799 rfl ?_
              rw [sm_tS_31]
              refine sg_aload_n f_118_183 rfl ?_
              refine sg_dup f_118_184 rfl ?_
              refine sg_getf_k f_118_185 fd_m_0_796 sm_tS_a.1 ?_
              refine sg_iconst (nI 1) f_118_188 ki_1 ?_
              first | refine sg_iadd _ f_118_189 (nI_add _ _) ?_ | refine sg_iadd _ f_118_189 rfl ?_
              refine sg_putf_j 28 f_118_190 (by decide) fd_m_0_796 rfl ?_
              rw [sm_tS_28]
              refine sg_goto 109 f_118_193 rfl ?_
              exact ih (p + 1) _ (by omega) (by omega) kk
            · omega
    · rw [if_neg hf] at kk
      refine sg_aload_n f_118_109 rfl ?_
      refine sg_getf_k f_118_110 fd_m_0_796 sm_tS_a.1 ?_
      refine sg_aload_n f_118_113 rfl ?_
      refine sg_getf_k f_118_114 fd_m_0_780 (sm_tS_tx hx).1 ?_
      first | refine sg_ncmp_ge 196 (by omega) (by omega) f_118_117 rfl (fun c117 => ?_) (fun c117 => ?_) | refine sg_icmp_ge 196 f_118_117 rfl (fun c117 => ?_) (fun c117 => ?_)
      · omega
      · refine sg_aload_n f_118_120 rfl ?_
        refine sg_getf_r f_118_121 fd_m_0_779 ?_
        refine sg_aload_n f_118_124 rfl ?_
        refine sg_getf_k f_118_125 fd_m_0_796 sm_tS_a.1 ?_
        refine sg_iaload_k p ok_m f_118_128 sh_m_11 rfl (by omega) ((sm_tS_tx hx).2.2 p hpn).1 ?_
        refine sg_i2l _ f_118_129 rfl ?_
        refine sg_ldc2_w (48) f_118_130 rfl ?_
        refine sg_ldc2_w (57) f_118_133 rfl ?_
        refine sg_calls_i f_118_136 my_118_99 mr_99 (by decide) rfl (Nat.le_of_ble_eq_true rfl) (Nat.le_of_ble_eq_true rfl) rfl (sm_99_0 (sm_fig0 hf hc)) ?_
        refine sg_if_eq 196 f_118_139 rfl (fun c139 => ?_) (fun c139 => ?_)
        · exact kk
        · exact absurd rfl c139
theorem sm_118 {μ : sg_S} {x : Nat → Nat} {n p z : Nat} {k q v : Int32} (hx : sm_tx μ x n) (hp : p ≤ n) : ∃ w : Int32, sg_D tm_H 118 0 [.ref 0, ab_u] [] (sm_tS μ (nI p) k q v) none (sm_tS μ (nI (rd_tok x n p z).1) (sm_sort (rd_tok x n p z).2.1) (nI (rd_tok x n p z).2.2.1) w) ∧ ((rd_tok x n p z).2.1 = nI 48 → w = nI (rd_tok x n p z).2.2.2) := by
  have h160 := hx.2.1
  have hl := rd_sp_le x (n - p) p
  have key := fun μ' => sm_118_l (μ' := μ') (rr := none) (k := k) (q := q) (v := v) hx (n - p) p (by omega)
  unfold rd_tok
  revert hl key
  generalize rd_sp x (n - p) p = s
  intro hl key
  by_cases hs : s = n
  · rw [if_pos hs]
    refine ⟨v, key _ ?_, fun h => absurd h (show ¬ (-1 : Int32) = nI 48 by decide)⟩
    refine sg_aload_n f_118_38 rfl ?_
    refine sg_aload_n f_118_39 rfl ?_
    refine sg_getf_k f_118_40 fd_m_0_796 sm_tS_a.1 ?_
    refine sg_putf_j 29 f_118_43 (by decide) fd_m_0_797 rfl ?_
    rw [sm_tS_29]
    refine sg_aload_n f_118_46 rfl ?_
    refine sg_getf_k f_118_47 fd_m_0_796 sm_tS_a.1 ?_
    refine sg_aload_n f_118_50 rfl ?_
    refine sg_getf_k f_118_51 fd_m_0_780 (sm_tS_tx hx).1 ?_
    first | refine sg_ncmp_ge 69 (by omega) (by omega) f_118_54 rfl (fun c54 => ?_) (fun c54 => ?_) | refine sg_icmp_ge 69 f_118_54 rfl (fun c54 => ?_) (fun c54 => ?_)
    · refine sg_iconst (nI 0) f_118_69 ki_0 ?_
      refine sg_istore_n [_, _] f_118_70 rfl ?_
      refine sg_aload_n f_118_71 rfl ?_
      refine sg_getf_k f_118_72 fd_m_0_796 sm_tS_a.1 ?_
      refine sg_aload_n f_118_75 rfl ?_
      refine sg_getf_k f_118_76 fd_m_0_780 (sm_tS_tx hx).1 ?_
      first | refine sg_ncmp_ne 90 (by omega) (by omega) f_118_79 rfl (fun c79 => ?_) (fun c79 => ?_) | refine sg_icmp_ne 90 f_118_79 rfl (fun c79 => ?_) (fun c79 => ?_)
      · omega
      · refine sg_aload_n f_118_82 rfl ?_
        refine sg_iconst (nI 2) f_118_83 ki_2 ?_
        refine sg_putf_j 30 f_118_84 (by decide) fd_m_0_798 rfl ?_
        rw [sm_tS_30]
        refine sg_goto 286 f_118_87 rfl ?_
        rw [hs]; exact (sg_vret f_118_286 rk_118)
    · omega
  · rw [if_neg hs]
    have hsn : s < n := by omega
    have hc := (hx.2.2 s hsn).2
    by_cases hf : rd_fig (x s) = true
    · rw [if_pos hf]
      have hw := rd_nw_le x (n - s) s 0 (by omega)
      have he := rd_nw_nm x (n - s) s 0
      rw [show min 0 1000 = 0 from rfl] at he
      rw [he]
      have kn := fun μ' => sm_118_n (μ' := μ') (rr := none) (k := k) (q := nI s) (c := nI (x s)) hx (n - s) s 0 (by omega) (by omega)
      revert hw kn
      generalize rd_nw x (n - s) s 0 = y
      intro hw kn
      obtain ⟨w, e⟩ := y
      dsimp only at hw kn ⊢
      refine ⟨nI w, key _ ?_, fun h => ?_⟩
      · have k196 : sg_D tm_H 118 196 [.ref 0, .int (nI (x s))] [] (sm_tS μ (nI e) k (nI s) (nI w)) none (sm_tS μ (nI e) (sm_sort (if x s = 48 ∧ s + 1 < e ∨ 999 < min w 1000 then -2 else nI 48)) (nI s) (nI w)) := by
          refine sg_aload_n f_118_196 rfl ?_
          refine sg_aload_n f_118_197 rfl ?_
          refine sg_getf_k f_118_198 fd_m_0_799 sm_tS_a.2.2.2 ?_
          refine sg_sipush (nI 999) f_118_201 ks_999 ?_
          first | refine sg_ncmp_gt 226 (by omega) (by omega) f_118_204 rfl (fun c204 => ?_) (fun c204 => ?_) | refine sg_icmp_gt 226 f_118_204 rfl (fun c204 => ?_) (fun c204 => ?_)
          · refine sg_iconst (nI 3) f_118_226 ki_3 ?_
            refine sg_goto 231 f_118_227 rfl ?_
            refine sg_putf_j 30 f_118_231 (by decide) fd_m_0_798 rfl ?_
            rw [sm_tS_30]
            refine sg_goto 286 f_118_234 rfl ?_
            first | (rw [if_pos (by omega)]; exact (sg_vret f_118_286 rk_118)) | (rw [if_neg (by omega)]; exact (sg_vret f_118_286 rk_118))
          · refine sg_iload_n f_118_207 rfl ?_
            refine sg_bipush (nI 48) f_118_208 kb_48 ?_
            first | refine sg_ncmp_ne 230 (by omega) (by omega) f_118_210 rfl (fun c210 => ?_) (fun c210 => ?_) | refine sg_icmp_ne 230 f_118_210 rfl (fun c210 => ?_) (fun c210 => ?_)
            · refine sg_iconst (nI 1) f_118_230 ki_1 ?_
              refine sg_putf_j 30 f_118_231 (by decide) fd_m_0_798 rfl ?_
              rw [sm_tS_30]
              refine sg_goto 286 f_118_234 rfl ?_
              first | (rw [if_pos (by omega)]; exact (sg_vret f_118_286 rk_118)) | (rw [if_neg (by omega)]; exact (sg_vret f_118_286 rk_118))
            · refine sg_aload_n f_118_213 rfl ?_
              refine sg_getf_k f_118_214 fd_m_0_796 sm_tS_a.1 ?_
              refine sg_aload_n f_118_217 rfl ?_
              refine sg_getf_k f_118_218 fd_m_0_797 sm_tS_a.2.2.1 ?_
              refine sg_iconst (nI 1) f_118_221 ki_1 ?_
              first | refine sg_iadd _ f_118_222 (nI_add _ _) ?_ | refine sg_iadd _ f_118_222 rfl ?_
              first | refine sg_ncmp_le 230 (by omega) (by omega) f_118_223 rfl (fun c223 => ?_) (fun c223 => ?_) | refine sg_icmp_le 230 f_118_223 rfl (fun c223 => ?_) (fun c223 => ?_)
              · refine sg_iconst (nI 1) f_118_230 ki_1 ?_
                refine sg_putf_j 30 f_118_231 (by decide) fd_m_0_798 rfl ?_
                rw [sm_tS_30]
                refine sg_goto 286 f_118_234 rfl ?_
                first | (rw [if_pos (by omega)]; exact (sg_vret f_118_286 rk_118)) | (rw [if_neg (by omega)]; exact (sg_vret f_118_286 rk_118))
              · refine sg_iconst (nI 3) f_118_226 ki_3 ?_
                refine sg_goto 231 f_118_227 rfl ?_
                refine sg_putf_j 30 f_118_231 (by decide) fd_m_0_798 rfl ?_
                rw [sm_tS_30]
                refine sg_goto 286 f_118_234 rfl ?_
                first | (rw [if_pos (by omega)]; exact (sg_vret f_118_286 rk_118)) | (rw [if_neg (by omega)]; exact (sg_vret f_118_286 rk_118))
        refine sg_aload_n f_118_38 rfl ?_
        refine sg_aload_n f_118_39 rfl ?_
        refine sg_getf_k f_118_40 fd_m_0_796 sm_tS_a.1 ?_
        refine sg_putf_j 29 f_118_43 (by decide) fd_m_0_797 rfl ?_
        rw [sm_tS_29]
        refine sg_aload_n f_118_46 rfl ?_
        refine sg_getf_k f_118_47 fd_m_0_796 sm_tS_a.1 ?_
        refine sg_aload_n f_118_50 rfl ?_
        refine sg_getf_k f_118_51 fd_m_0_780 (sm_tS_tx hx).1 ?_
        first | refine sg_ncmp_ge 69 (by omega) (by omega) f_118_54 rfl (fun c54 => ?_) (fun c54 => ?_) | refine sg_icmp_ge 69 f_118_54 rfl (fun c54 => ?_) (fun c54 => ?_)
        · omega
        · refine sg_aload_n f_118_57 rfl ?_
          refine sg_getf_r f_118_58 fd_m_0_779 ?_
          refine sg_aload_n f_118_61 rfl ?_
          refine sg_getf_k f_118_62 fd_m_0_796 sm_tS_a.1 ?_
          refine sg_iaload_k s ok_m f_118_65 sh_m_11 rfl (by omega) ((sm_tS_tx hx).2.2 s hsn).1 ?_
          refine sg_goto 70 f_118_66 rfl ?_
          refine sg_istore_n [_, _] f_118_70 rfl ?_
          refine sg_aload_n f_118_71 rfl ?_
          refine sg_getf_k f_118_72 fd_m_0_796 sm_tS_a.1 ?_
          refine sg_aload_n f_118_75 rfl ?_
          refine sg_getf_k f_118_76 fd_m_0_780 (sm_tS_tx hx).1 ?_
          first | refine sg_ncmp_ne 90 (by omega) (by omega) f_118_79 rfl (fun c79 => ?_) (fun c79 => ?_) | refine sg_icmp_ne 90 f_118_79 rfl (fun c79 => ?_) (fun c79 => ?_)
          · refine sg_iload_n f_118_90 rfl ?_
            refine sg_i2l _ f_118_91 rfl ?_
            refine sg_ldc2_w (48) f_118_92 rfl ?_
            refine sg_ldc2_w (57) f_118_95 rfl ?_
            refine sg_calls_i f_118_98 my_118_99 mr_99 (by decide) rfl (Nat.le_of_ble_eq_true rfl) (Nat.le_of_ble_eq_true rfl) rfl (sm_99_1 (sm_fig1 hf hc)) ?_
            refine sg_if_eq 237 f_118_101 rfl (fun c101 => ?_) (fun c101 => ?_)
            · exact absurd c101 (by decide)
            · refine sg_aload_n f_118_104 rfl ?_
              refine sg_iconst (nI 0) f_118_105 ki_0 ?_
              refine sg_putf_j 31 f_118_106 (by decide) fd_m_0_799 rfl ?_
              rw [sm_tS_31]
              exact kn _ k196
          · omega
      · by_cases hk : x s = 48 ∧ s + 1 < e ∨ 999 < min w 1000
        · rw [if_pos hk] at h; exact absurd h (by decide)
        · rw [show min w 1000 = w by omega]
    · rw [if_neg hf]
      refine ⟨v, key _ ?_, fun h => ?_⟩
      · dsimp only
        have e1 : x s = 115 ∨ x s = 97 ∨ x s = 98 ∨ x s = 45 ∨ x s = 59 → sm_sort (rd_kd (x s)) = nI (x s) := by
          intro h
          rcases h with h | h | h | h | h <;> rw [h] <;> decide +kernel
        have e2 : ¬ (x s = 115 ∨ x s = 97 ∨ x s = 98 ∨ x s = 45 ∨ x s = 59) → sm_sort (rd_kd (x s)) = nI 3 := by
          intro h
          unfold rd_kd
          rw [if_neg (by omega)]
          decide
        refine sg_aload_n f_118_38 rfl ?_
        refine sg_aload_n f_118_39 rfl ?_
        refine sg_getf_k f_118_40 fd_m_0_796 sm_tS_a.1 ?_
        refine sg_putf_j 29 f_118_43 (by decide) fd_m_0_797 rfl ?_
        rw [sm_tS_29]
        refine sg_aload_n f_118_46 rfl ?_
        refine sg_getf_k f_118_47 fd_m_0_796 sm_tS_a.1 ?_
        refine sg_aload_n f_118_50 rfl ?_
        refine sg_getf_k f_118_51 fd_m_0_780 (sm_tS_tx hx).1 ?_
        first | refine sg_ncmp_ge 69 (by omega) (by omega) f_118_54 rfl (fun c54 => ?_) (fun c54 => ?_) | refine sg_icmp_ge 69 f_118_54 rfl (fun c54 => ?_) (fun c54 => ?_)
        · omega
        · refine sg_aload_n f_118_57 rfl ?_
          refine sg_getf_r f_118_58 fd_m_0_779 ?_
          refine sg_aload_n f_118_61 rfl ?_
          refine sg_getf_k f_118_62 fd_m_0_796 sm_tS_a.1 ?_
          refine sg_iaload_k s ok_m f_118_65 sh_m_11 rfl (by omega) ((sm_tS_tx hx).2.2 s hsn).1 ?_
          refine sg_goto 70 f_118_66 rfl ?_
          refine sg_istore_n [_, _] f_118_70 rfl ?_
          refine sg_aload_n f_118_71 rfl ?_
          refine sg_getf_k f_118_72 fd_m_0_796 sm_tS_a.1 ?_
          refine sg_aload_n f_118_75 rfl ?_
          refine sg_getf_k f_118_76 fd_m_0_780 (sm_tS_tx hx).1 ?_
          first | refine sg_ncmp_ne 90 (by omega) (by omega) f_118_79 rfl (fun c79 => ?_) (fun c79 => ?_) | refine sg_icmp_ne 90 f_118_79 rfl (fun c79 => ?_) (fun c79 => ?_)
          · refine sg_iload_n f_118_90 rfl ?_
            refine sg_i2l _ f_118_91 rfl ?_
            refine sg_ldc2_w (48) f_118_92 rfl ?_
            refine sg_ldc2_w (57) f_118_95 rfl ?_
            refine sg_calls_i f_118_98 my_118_99 mr_99 (by decide) rfl (Nat.le_of_ble_eq_true rfl) (Nat.le_of_ble_eq_true rfl) rfl (sm_99_0 (sm_fig0 hf hc)) ?_
            refine sg_if_eq 237 f_118_101 rfl (fun c101 => ?_) (fun c101 => ?_)
            · refine sg_aload_n f_118_237 rfl ?_
              refine sg_iload_n f_118_238 rfl ?_
              refine sg_bipush (nI 115) f_118_239 kb_115 ?_
              first | refine sg_ncmp_eq 268 (by omega) (by omega) f_118_241 rfl (fun c241 => ?_) (fun c241 => ?_) | refine sg_icmp_eq 268 f_118_241 rfl (fun c241 => ?_) (fun c241 => ?_)
              · refine sg_iload_n f_118_268 rfl ?_
                refine sg_goto 273 f_118_269 rfl ?_
                refine sg_putf_j 30 f_118_273 (by decide) fd_m_0_798 rfl ?_
                rw [sm_tS_30]
                refine sg_aload_n f_118_276 rfl ?_
                refine sg_dup f_118_277 rfl ?_
                refine sg_getf_k f_118_278 fd_m_0_796 sm_tS_a.1 ?_
                refine sg_iconst (nI 1) f_118_281 ki_1 ?_
                first | refine sg_iadd _ f_118_282 (nI_add _ _) ?_ | refine sg_iadd _ f_118_282 rfl ?_
                refine sg_putf_j 28 f_118_283 (by decide) fd_m_0_796 rfl ?_
                rw [sm_tS_28]
                first | (rw [e1 (by omega)]; exact (sg_vret f_118_286 rk_118)) | (rw [e2 (by omega)]; exact (sg_vret f_118_286 rk_118))
              · refine sg_iload_n f_118_244 rfl ?_
                refine sg_bipush (nI 97) f_118_245 kb_97 ?_
                first | refine sg_ncmp_eq 268 (by omega) (by omega) f_118_247 rfl (fun c247 => ?_) (fun c247 => ?_) | refine sg_icmp_eq 268 f_118_247 rfl (fun c247 => ?_) (fun c247 => ?_)
                · refine sg_iload_n f_118_268 rfl ?_
                  refine sg_goto 273 f_118_269 rfl ?_
                  refine sg_putf_j 30 f_118_273 (by decide) fd_m_0_798 rfl ?_
                  rw [sm_tS_30]
                  refine sg_aload_n f_118_276 rfl ?_
                  refine sg_dup f_118_277 rfl ?_
                  refine sg_getf_k f_118_278 fd_m_0_796 sm_tS_a.1 ?_
                  refine sg_iconst (nI 1) f_118_281 ki_1 ?_
                  first | refine sg_iadd _ f_118_282 (nI_add _ _) ?_ | refine sg_iadd _ f_118_282 rfl ?_
                  refine sg_putf_j 28 f_118_283 (by decide) fd_m_0_796 rfl ?_
                  rw [sm_tS_28]
                  first | (rw [e1 (by omega)]; exact (sg_vret f_118_286 rk_118)) | (rw [e2 (by omega)]; exact (sg_vret f_118_286 rk_118))
                · refine sg_iload_n f_118_250 rfl ?_
                  refine sg_bipush (nI 98) f_118_251 kb_98 ?_
                  first | refine sg_ncmp_eq 268 (by omega) (by omega) f_118_253 rfl (fun c253 => ?_) (fun c253 => ?_) | refine sg_icmp_eq 268 f_118_253 rfl (fun c253 => ?_) (fun c253 => ?_)
                  · refine sg_iload_n f_118_268 rfl ?_
                    refine sg_goto 273 f_118_269 rfl ?_
                    refine sg_putf_j 30 f_118_273 (by decide) fd_m_0_798 rfl ?_
                    rw [sm_tS_30]
                    refine sg_aload_n f_118_276 rfl ?_
                    refine sg_dup f_118_277 rfl ?_
                    refine sg_getf_k f_118_278 fd_m_0_796 sm_tS_a.1 ?_
                    refine sg_iconst (nI 1) f_118_281 ki_1 ?_
                    first | refine sg_iadd _ f_118_282 (nI_add _ _) ?_ | refine sg_iadd _ f_118_282 rfl ?_
                    refine sg_putf_j 28 f_118_283 (by decide) fd_m_0_796 rfl ?_
                    rw [sm_tS_28]
                    first | (rw [e1 (by omega)]; exact (sg_vret f_118_286 rk_118)) | (rw [e2 (by omega)]; exact (sg_vret f_118_286 rk_118))
                  · refine sg_iload_n f_118_256 rfl ?_
                    refine sg_bipush (nI 45) f_118_257 kb_45 ?_
                    first | refine sg_ncmp_eq 268 (by omega) (by omega) f_118_259 rfl (fun c259 => ?_) (fun c259 => ?_) | refine sg_icmp_eq 268 f_118_259 rfl (fun c259 => ?_) (fun c259 => ?_)
                    · refine sg_iload_n f_118_268 rfl ?_
                      refine sg_goto 273 f_118_269 rfl ?_
                      refine sg_putf_j 30 f_118_273 (by decide) fd_m_0_798 rfl ?_
                      rw [sm_tS_30]
                      refine sg_aload_n f_118_276 rfl ?_
                      refine sg_dup f_118_277 rfl ?_
                      refine sg_getf_k f_118_278 fd_m_0_796 sm_tS_a.1 ?_
                      refine sg_iconst (nI 1) f_118_281 ki_1 ?_
                      first | refine sg_iadd _ f_118_282 (nI_add _ _) ?_ | refine sg_iadd _ f_118_282 rfl ?_
                      refine sg_putf_j 28 f_118_283 (by decide) fd_m_0_796 rfl ?_
                      rw [sm_tS_28]
                      first | (rw [e1 (by omega)]; exact (sg_vret f_118_286 rk_118)) | (rw [e2 (by omega)]; exact (sg_vret f_118_286 rk_118))
                    · refine sg_iload_n f_118_262 rfl ?_
                      refine sg_bipush (nI 59) f_118_263 kb_59 ?_
                      first | refine sg_ncmp_ne 272 (by omega) (by omega) f_118_265 rfl (fun c265 => ?_) (fun c265 => ?_) | refine sg_icmp_ne 272 f_118_265 rfl (fun c265 => ?_) (fun c265 => ?_)
                      · refine sg_iconst (nI 3) f_118_272 ki_3 ?_
                        refine sg_putf_j 30 f_118_273 (by decide) fd_m_0_798 rfl ?_
                        rw [sm_tS_30]
                        refine sg_aload_n f_118_276 rfl ?_
                        refine sg_dup f_118_277 rfl ?_
                        refine sg_getf_k f_118_278 fd_m_0_796 sm_tS_a.1 ?_
                        refine sg_iconst (nI 1) f_118_281 ki_1 ?_
                        first | refine sg_iadd _ f_118_282 (nI_add _ _) ?_ | refine sg_iadd _ f_118_282 rfl ?_
                        refine sg_putf_j 28 f_118_283 (by decide) fd_m_0_796 rfl ?_
                        rw [sm_tS_28]
                        first | (rw [e1 (by omega)]; exact (sg_vret f_118_286 rk_118)) | (rw [e2 (by omega)]; exact (sg_vret f_118_286 rk_118))
                      · refine sg_iload_n f_118_268 rfl ?_
                        refine sg_goto 273 f_118_269 rfl ?_
                        refine sg_putf_j 30 f_118_273 (by decide) fd_m_0_798 rfl ?_
                        rw [sm_tS_30]
                        refine sg_aload_n f_118_276 rfl ?_
                        refine sg_dup f_118_277 rfl ?_
                        refine sg_getf_k f_118_278 fd_m_0_796 sm_tS_a.1 ?_
                        refine sg_iconst (nI 1) f_118_281 ki_1 ?_
                        first | refine sg_iadd _ f_118_282 (nI_add _ _) ?_ | refine sg_iadd _ f_118_282 rfl ?_
                        refine sg_putf_j 28 f_118_283 (by decide) fd_m_0_796 rfl ?_
                        rw [sm_tS_28]
                        first | (rw [e1 (by omega)]; exact (sg_vret f_118_286 rk_118)) | (rw [e2 (by omega)]; exact (sg_vret f_118_286 rk_118))
            · exact absurd rfl c101
          · omega
      · dsimp only at h
        unfold rd_kd at h
        by_cases hq : x s = 45 ∨ x s = 59 ∨ x s = 97 ∨ x s = 98 ∨ x s = 115
        · rw [if_pos hq] at h
          have := (nI_eq (show x s < 2 ^ 31 by omega) (by omega)).mp h
          omega
        · rw [if_neg hq] at h; exact absurd h (by decide)
