/-! reading: the tokens as functions of the letters -/
def rd_fig (c : Nat) : Bool := Nat.ble 48 c && Nat.ble c 57
theorem rd_fig_iff {c : Nat} : rd_fig c = true ↔ 48 ≤ c ∧ c ≤ 57 := by
  unfold rd_fig
  rw [Bool.and_eq_true, Nat.ble_eq, Nat.ble_eq]
def rd_sp (x : Nat → Nat) : Nat → Nat → Nat
  | 0, p => p
  | m + 1, p => if x p = 32 then rd_sp x m (p + 1) else p
def rd_nm (x : Nat → Nat) : Nat → Nat → Nat → Nat × Nat
  | 0, p, v => (v, p)
  | m + 1, p, v => if rd_fig (x p) then rd_nm x m (p + 1) (min (10 * v + (x p - 48)) 1000) else (v, p)
def rd_kd (c : Nat) : Int32 := if c = 45 ∨ c = 59 ∨ c = 97 ∨ c = 98 ∨ c = 115 then nI c else -2
theorem rd_sp_le (x : Nat → Nat) : ∀ m p, p ≤ rd_sp x m p ∧ rd_sp x m p ≤ p + m
  | 0, p => ⟨Nat.le_refl _, Nat.le_refl _⟩
  | m + 1, p => by
    rw [rd_sp]
    split
    · have := rd_sp_le x m (p + 1); omega
    · omega
theorem rd_nm_le (x : Nat → Nat) : ∀ m p v, v ≤ 1000 → p ≤ (rd_nm x m p v).2 ∧ (rd_nm x m p v).2 ≤ p + m ∧ (rd_nm x m p v).1 ≤ 1000
  | 0, p, v, h => ⟨Nat.le_refl _, Nat.le_refl _, h⟩
  | m + 1, p, v, h => by
    rw [rd_nm]
    split
    · have := rd_nm_le x m (p + 1) (min (10 * v + (x p - 48)) 1000) (Nat.min_le_right _ _); omega
    · exact ⟨Nat.le_refl _, by omega, h⟩
/-- next, kind, place, size -/
def rd_tok (x : Nat → Nat) (n p z : Nat) : Nat × Int32 × Nat × Nat :=
  if rd_sp x (n - p) p = n then (n, -1, n, z)
  else if rd_fig (x (rd_sp x (n - p) p)) then ((rd_nm x (n - rd_sp x (n - p) p) (rd_sp x (n - p) p) 0).2, if x (rd_sp x (n - p) p) = 48 ∧ rd_sp x (n - p) p + 1 < (rd_nm x (n - rd_sp x (n - p) p) (rd_sp x (n - p) p) 0).2 ∨ 999 < (rd_nm x (n - rd_sp x (n - p) p) (rd_sp x (n - p) p) 0).1 then -2 else nI 48, rd_sp x (n - p) p, (rd_nm x (n - rd_sp x (n - p) p) (rd_sp x (n - p) p) 0).1)
  else (rd_sp x (n - p) p + 1, rd_kd (x (rd_sp x (n - p) p)), rd_sp x (n - p) p, z)
/-! the class: fill, reset, isFigure, kindOf -/
theorem sx_156_l {σ : sg_S} {a N : Nat} (ha : sg_sh tx_H a = some (20, N)) (hN : N ≤ 2000) (ha3 : a < 1000) : ∀ n i : Nat, i + n = N → ∀ f : Nat → Int32, (∀ k, k < i → f k = 0) → ∃ g : Nat → Int32, (∀ k, k < N → g k = 0) ∧ (∀ k, N ≤ k → g k = f k) ∧ sg_D tx_H 156 5 [.ref a, .int (nI 0), .int (nI i), .int (nI N)] [] (sg_r1 σ a f) none (sg_r1 σ a g)
  | 0, i, hi, f, hf => by
    obtain rfl : i = N := by omega
    refine ⟨f, hf, fun _ _ => rfl, ?_⟩
    refine sg_iload_n f_156_5 rfl ?_
    refine sg_iload_n f_156_6 rfl ?_
    first | refine sg_ncmp_ge 20 (by omega) (by omega) f_156_7 rfl (fun c7 => ?_) (fun c7 => ?_) | refine sg_icmp_ge 20 f_156_7 rfl (fun c7 => ?_) (fun c7 => ?_)
    · exact (sg_vret f_156_20 rk_156)
    · omega
  | n + 1, i, hi, f, hf => by
    obtain ⟨g, h1, h2, h3⟩ := sx_156_l (σ := σ) ha hN ha3 n (i + 1) (by omega) (upd f i (nI 0)) (fun k hk => by
      by_cases e : k = i
      · subst e; simp [upd]; rfl
      · simp [upd, e]; exact hf k (by omega))
    refine ⟨g, h1, fun k hk => ?_, ?_⟩
    · rw [h2 k hk]; simp [upd, show k ≠ i by omega]
    · skip
      refine sg_iload_n f_156_5 rfl ?_
      refine sg_iload_n f_156_6 rfl ?_
      first | refine sg_ncmp_ge 20 (by omega) (by omega) f_156_7 rfl (fun c7 => ?_) (fun c7 => ?_) | refine sg_icmp_ge 20 f_156_7 rfl (fun c7 => ?_) (fun c7 => ?_)
      · omega
      · refine sg_aload_n f_156_10 rfl ?_
        refine sg_iload_n f_156_11 rfl ?_
        refine sg_iload_n f_156_12 rfl ?_
        refine sg_iastore _ ok_x f_156_13 ha rfl (by omega) (hn := hN) ?_
        first | refine sg_iinc _ [_, _, _, _] f_156_14 rfl (sg_inc1 _) rfl ?_ | refine sg_iinc _ [_, _, _, _] f_156_14 rfl rfl rfl ?_
        refine sg_goto 5 f_156_17 rfl ?_
        rw [sg_r1_r1, sg_r1_eq]
        exact h3
theorem sx_44 {σ : sg_S} {c : Nat} (hc : c < 2 ^ 31) : sg_D tx_H 44 0 [.int (nI c)] [] σ (some (.int (if rd_fig c then nI 1 else nI 0))) σ := by
  by_cases h : rd_fig c = true
  · rw [if_pos h]
    refine sg_iload_n f_44_0 rfl ?_
    refine sg_bipush (nI 48) f_44_1 kb_48 ?_
    first | refine sg_ncmp_lt 16 (by omega) (by omega) f_44_3 rfl (fun c3 => ?_) (fun c3 => ?_) | refine sg_icmp_lt 16 f_44_3 rfl (fun c3 => ?_) (fun c3 => ?_)
    · exact absurd (rd_fig_iff.mp h).1 (by omega)
    · refine sg_iload_n f_44_6 rfl ?_
      refine sg_bipush (nI 57) f_44_7 kb_57 ?_
      first | refine sg_ncmp_gt 16 (by omega) (by omega) f_44_9 rfl (fun c9 => ?_) (fun c9 => ?_) | refine sg_icmp_gt 16 f_44_9 rfl (fun c9 => ?_) (fun c9 => ?_)
      · exact absurd (rd_fig_iff.mp h).2 (by omega)
      · refine sg_iconst (nI 1) f_44_12 ki_1 ?_
        refine sg_goto 17 f_44_13 rfl ?_
        exact (sg_zret f_44_17 rk_44 (by first | exact Or.inl rfl | exact Or.inr rfl | assumption))
  · rw [if_neg h]
    refine sg_iload_n f_44_0 rfl ?_
    refine sg_bipush (nI 48) f_44_1 kb_48 ?_
    first | refine sg_ncmp_lt 16 (by omega) (by omega) f_44_3 rfl (fun c3 => ?_) (fun c3 => ?_) | refine sg_icmp_lt 16 f_44_3 rfl (fun c3 => ?_) (fun c3 => ?_)
    · refine sg_iconst (nI 0) f_44_16 ki_0 ?_
      exact (sg_zret f_44_17 rk_44 (by first | exact Or.inl rfl | exact Or.inr rfl | assumption))
    · refine sg_iload_n f_44_6 rfl ?_
      refine sg_bipush (nI 57) f_44_7 kb_57 ?_
      first | refine sg_ncmp_gt 16 (by omega) (by omega) f_44_9 rfl (fun c9 => ?_) (fun c9 => ?_) | refine sg_icmp_gt 16 f_44_9 rfl (fun c9 => ?_) (fun c9 => ?_)
      · refine sg_iconst (nI 0) f_44_16 ki_0 ?_
        exact (sg_zret f_44_17 rk_44 (by first | exact Or.inl rfl | exact Or.inr rfl | assumption))
      · exact absurd (rd_fig_iff.mpr (show 48 ≤ c ∧ c ≤ 57 from ⟨by omega, by omega⟩)) h
theorem sx_look45 {c : Nat} (hc : c < 2 ^ 31) : Op.lookupswitch.offset [((45 : Int), (52 : Int)), (59, 52), (97, 52), (98, 52), (115, 52)] 54 (nI c).toInt = if c = 45 ∨ c = 59 ∨ c = 97 ∨ c = 98 ∨ c = 115 then 52 else 54 := by
  rw [nI_toInt hc]
  simp only [Op.lookupswitch.offset_cons, Op.lookupswitch.offset_nil]
  repeat' split
  all_goals first | rfl | omega
theorem sx_45 {σ : sg_S} {c : Nat} (hc : c < 2 ^ 31) : sg_D tx_H 45 0 [.int (nI c)] [] σ (some (.int (rd_kd c))) σ := by
  have hl := sx_look45 hc
  unfold rd_kd
  by_cases h : c = 45 ∨ c = 59 ∨ c = 97 ∨ c = 98 ∨ c = 115
  · rw [if_pos h]
    rw [if_pos h] at hl
    refine sg_iload_n f_45_0 rfl ?_
    refine sg_look 52 f_45_1 hl rfl ?_
    · refine sg_iload_n f_45_52 rfl ?_
      exact (sg_iret f_45_53 rk_45)
  · rw [if_neg h]
    rw [if_neg h] at hl
    refine sg_iload_n f_45_0 rfl ?_
    refine sg_look 54 f_45_1 hl rfl ?_
    · refine sg_bipush (-2) f_45_54 kb_m2 ?_
      exact (sg_iret f_45_56 rk_45)
theorem sx_156 {σ : sg_S} {a N : Nat} (ha : sg_sh tx_H a = some (20, N)) (hN : N ≤ 2000) (ha3 : a < 1000) : ∃ g : Nat → Int32, (∀ k, k < N → g k = 0) ∧ sg_D tx_H 156 0 [.ref a, .int (nI 0), ab_u, ab_u] [] σ none (sg_r1 σ a g) := by
  obtain ⟨g, h1, -, h3⟩ := sx_156_l (σ := σ) ha hN ha3 N 0 (by omega) (σ.1 a) (fun k hk => absurd hk (Nat.not_lt_zero _))
  rw [sg_r1_self rfl] at h3
  refine ⟨g, h1, ?_⟩
  refine sg_iconst (nI 0) f_156_0 ki_0 ?_
  refine sg_istore_n [_, _, _, _] f_156_1 rfl ?_
  refine sg_aload_n f_156_2 rfl ?_
  refine sg_alen f_156_3 ha (by decide) ?_
  refine sg_istore_n [_, _, _, _] f_156_4 rfl ?_
  exact h3
theorem sg_nsub {a b : Nat} (h : b ≤ a) : nI a - nI b = nI (a - b) := by
  have e : nI a = nI (a - b) + nI b := by rw [nI_add, Nat.sub_add_cancel h]
  rw [e, Int32.add_sub_cancel]
theorem sg_nmin {a b : Nat} (ha : a < 2 ^ 31) (hb : b < 2 ^ 31) : (if nI b < nI a then nI b else nI a) = nI (min a b) := by
  by_cases h : b < a
  · rw [if_pos (nI_lt h ha), Nat.min_eq_right (by omega)]
  · rw [if_neg (nI_nlt (by omega) hb), Nat.min_eq_left (by omega)]
/-! the class: takeFigures, advance -/
def sx_tk (f : Nat → Int32) (p : Nat) (k : Int32) (q z : Nat) : Nat → Int32 := fun j => if j = 1 then nI p else if j = 2 then k else if j = 3 then nI q else if j = 4 then nI z else f j
theorem sx_tk_1 {f : Nat → Int32} {p q z p' : Nat} {k : Int32} : upd (sx_tk f p k q z) 1 (nI p') = sx_tk f p' k q z := by
  funext j; unfold upd sx_tk; by_cases h : j = 1 <;> simp [h]
theorem sx_tk_2 {f : Nat → Int32} {p q z : Nat} {k k' : Int32} : upd (sx_tk f p k q z) 2 k' = sx_tk f p k' q z := by
  funext j; unfold upd sx_tk; by_cases h : j = 2 <;> simp [h]
theorem sx_tk_3 {f : Nat → Int32} {p q z q' : Nat} {k : Int32} : upd (sx_tk f p k q z) 3 (nI q') = sx_tk f p k q' z := by
  funext j; unfold upd sx_tk; by_cases h : j = 3 <;> simp [h]
theorem sx_tk_4 {f : Nat → Int32} {p q z z' : Nat} {k : Int32} : upd (sx_tk f p k q z) 4 (nI z') = sx_tk f p k q z' := by
  funext j; unfold upd sx_tk; by_cases h : j = 4 <;> simp [h]
/-- the tokens stand so -/
def sx_tS (σ : sg_S) (p : Nat) (k : Int32) (q z : Nat) : sg_S := sg_r1 σ 54 (sx_tk (σ.1 54) p k q z)
def sx_tx (σ : sg_S) (x : Nat → Nat) (n : Nat) : Prop := σ.1 46 1 = nI n ∧ n ≤ 160 ∧ ∀ i, i < n → σ.1 47 i = nI (x i) ∧ x i ≤ 255
theorem sx_tS_54 {σ : sg_S} {p q z : Nat} {k : Int32} : (sx_tS σ p k q z).1 54 = sx_tk (σ.1 54) p k q z := sg_r1_eq
theorem sx_tS_ne {σ : sg_S} {p q z a : Nat} {k : Int32} (h : a ≠ 54) : (sx_tS σ p k q z).1 a = σ.1 a := sg_r1_ne h
theorem sx_tS_tx {σ : sg_S} {p q z n : Nat} {x : Nat → Nat} {k : Int32} (h : sx_tx σ x n) : sx_tx (sx_tS σ p k q z) x n := by
  refine ⟨by rw [sx_tS_ne (by decide)]; exact h.1, h.2.1, fun i hi => by rw [sx_tS_ne (by decide)]; exact h.2.2 i hi⟩
theorem sx_tS_1 {σ : sg_S} {p q z p' : Nat} {k : Int32} : sg_r1 (sx_tS σ p k q z) 54 (upd ((sx_tS σ p k q z).1 54) 1 (nI p')) = sx_tS σ p' k q z := by
  rw [sx_tS_54, sx_tk_1]; exact sg_r1_r1
theorem sx_tS_2 {σ : sg_S} {p q z : Nat} {k k' : Int32} : sg_r1 (sx_tS σ p k q z) 54 (upd ((sx_tS σ p k q z).1 54) 2 k') = sx_tS σ p k' q z := by
  rw [sx_tS_54, sx_tk_2]; exact sg_r1_r1
theorem sx_tS_3 {σ : sg_S} {p q z q' : Nat} {k : Int32} : sg_r1 (sx_tS σ p k q z) 54 (upd ((sx_tS σ p k q z).1 54) 3 (nI q')) = sx_tS σ p k q' z := by
  rw [sx_tS_54, sx_tk_3]; exact sg_r1_r1
theorem sx_tS_4 {σ : sg_S} {p q z z' : Nat} {k : Int32} : sg_r1 (sx_tS σ p k q z) 54 (upd ((sx_tS σ p k q z).1 54) 4 (nI z')) = sx_tS σ p k q z' := by
  rw [sx_tS_54, sx_tk_4]; exact sg_r1_r1
theorem sx_39_t {σ : sg_S} {x : Nat → Nat} {n p : Nat} (h : sx_tx σ x n) (hp : p < n) : sg_D tx_H 39 0 [.ref 46, .int (nI p)] [] σ (some (.int (nI (x p)))) σ :=
  sg_to (sx_39_in h.1 h.2.1 hp) (by rw [(h.2.2 p hp).1]) rfl
theorem sx_tk_a {f : Nat → Int32} {p q z : Nat} {k : Int32} : sx_tk f p k q z 1 = nI p ∧ sx_tk f p k q z 2 = k ∧ sx_tk f p k q z 3 = nI q ∧ sx_tk f p k q z 4 = nI z := ⟨rfl, rfl, rfl, rfl⟩
theorem sx_tS_a {σ : sg_S} {p q z : Nat} {k : Int32} : (sx_tS σ p k q z).1 54 1 = nI p ∧ (sx_tS σ p k q z).1 54 2 = k ∧ (sx_tS σ p k q z).1 54 3 = nI q ∧ (sx_tS σ p k q z).1 54 4 = nI z := by
  rw [sx_tS_54]; exact sx_tk_a
theorem sx_43_l {σ σ' : sg_S} {x : Nat → Nat} {n q : Nat} {k : Int32} {r : Option Value} (hx : sx_tx σ x n) : ∀ m p v : Nat, p + m = n → (hv : v < 1001) → sg_D tx_H 43 81 [.ref 54, ab_u] [] (sx_tS σ (rd_nm x m p v).2 k q (rd_nm x m p v).1) r σ' → sg_D tx_H 43 5 [.ref 54, ab_u] [] (sx_tS σ p k q v) r σ' := by
  intro m
  induction m with
  | zero =>
    intro p v hp hv kk
    have hp' : p = n := by omega
    have h160 := hx.2.1
    rw [rd_nm] at kk
    refine sg_aload_n f_43_5 rfl ?_
    refine sg_getf_k f_43_6 fd_x_54_449 sx_tS_a.1 ?_
    refine sg_aload_n f_43_9 rfl ?_
    refine sg_getf_r f_43_10 fd_x_54_448 ?_
    refine sg_getf_k f_43_13 fd_x_46_385 (sx_tS_tx hx).1 ?_
    first | refine sg_ncmp_ge 81 (by omega) (by omega) f_43_16 rfl (fun c16 => ?_) (fun c16 => ?_) | refine sg_icmp_ge 81 f_43_16 rfl (fun c16 => ?_) (fun c16 => ?_)
    · exact kk
    · omega
  | succ m ih =>
    intro p v hp hv kk
    have h160 := hx.2.1
    have hpn : p < n := by omega
    have hc := (hx.2.2 p hpn).2
    rw [rd_nm] at kk
    by_cases hf : rd_fig (x p) = true
    · rw [if_pos hf] at kk
      have hf' := rd_fig_iff.mp hf
      refine sg_aload_n f_43_5 rfl ?_
      refine sg_getf_k f_43_6 fd_x_54_449 sx_tS_a.1 ?_
      refine sg_aload_n f_43_9 rfl ?_
      refine sg_getf_r f_43_10 fd_x_54_448 ?_
      refine sg_getf_k f_43_13 fd_x_46_385 (sx_tS_tx hx).1 ?_
      first | refine sg_ncmp_ge 81 (by omega) (by omega) f_43_16 rfl (fun c16 => ?_) (fun c16 => ?_) | refine sg_icmp_ge 81 f_43_16 rfl (fun c16 => ?_) (fun c16 => ?_)
      · omega
      · refine sg_aload_n f_43_19 rfl ?_
        refine sg_getf_r f_43_20 fd_x_54_448 ?_
        refine sg_aload_n f_43_23 rfl ?_
        refine sg_getf_k f_43_24 fd_x_54_449 sx_tS_a.1 ?_
        refine sg_callv_i f_43_27 my_43_39 mr_39 rfl (Nat.le_of_ble_eq_true rfl) (Nat.le_of_ble_eq_true rfl) sh_x_46 (by decide) rfl (sx_39_t (sx_tS_tx hx) hpn) ?_
        refine sg_calls_i f_43_30 my_43_44 mr_44 (by decide) rfl (Nat.le_of_ble_eq_true rfl) (Nat.le_of_ble_eq_true rfl) rfl (sx_44 (show x p < 2 ^ 31 by omega)) ?_
        rw [if_pos hf]
        refine sg_if_eq 81 f_43_33 rfl (fun c33 => ?_) (fun c33 => ?_)
        · exact absurd c33 (by decide)
        · refine sg_aload_n f_43_36 rfl ?_
          refine sg_bipush (nI 10) f_43_37 kb_10 ?_
          refine sg_aload_n f_43_39 rfl ?_
          refine sg_getf_k f_43_40 fd_x_54_452 sx_tS_a.2.2.2 ?_
          refine sg_imul (nI (10 * v)) f_43_43 (pk_mul 10 v) ?_
          refine sg_aload_n f_43_44 rfl ?_
          refine sg_getf_r f_43_45 fd_x_54_448 ?_
          refine sg_aload_n f_43_48 rfl ?_
          refine sg_getf_k f_43_49 fd_x_54_449 sx_tS_a.1 ?_
          refine sg_callv_i f_43_52 my_43_39 mr_39 rfl (Nat.le_of_ble_eq_true rfl) (Nat.le_of_ble_eq_true rfl) sh_x_46 (by decide) rfl (sx_39_t (sx_tS_tx hx) hpn) ?_
          refine sg_iadd (nI (10 * v + x p)) f_43_55 (nI_add _ _) ?_
          refine sg_bipush (nI 48) f_43_56 kb_48 ?_
          refine sg_isub (nI (10 * v + (x p - 48))) f_43_58 (by rw [sg_nsub (by omega)]; congr 1; omega) ?_
          refine sg_sipush (nI 1000) f_43_59 ks_1000 ?_
          refine sg_min f_43_62 (Nat.le_of_ble_eq_true rfl) rm_43 ?_
          rw [sg_nmin (by omega) (by omega)]
          refine sg_putf_j 4 f_43_65 (by decide) fd_x_54_452 rfl ?_
          rw [sx_tS_4]
          refine sg_aload_n f_43_68 rfl ?_
          refine sg_dup f_43_69 rfl ?_
          refine sg_getf_k f_43_70 fd_x_54_449 sx_tS_a.1 ?_
          refine sg_iconst (nI 1) f_43_73 ki_1 ?_
          first | refine sg_iadd _ f_43_74 (nI_add _ _) ?_ | refine sg_iadd _ f_43_74 rfl ?_
          refine sg_putf_j 1 f_43_75 (by decide) fd_x_54_449 rfl ?_
          rw [sx_tS_1]
          refine sg_goto 5 f_43_78 rfl ?_
          exact ih (p + 1) _ (by omega) (by omega) kk
    · rw [if_neg hf] at kk
      refine sg_aload_n f_43_5 rfl ?_
      refine sg_getf_k f_43_6 fd_x_54_449 sx_tS_a.1 ?_
      refine sg_aload_n f_43_9 rfl ?_
      refine sg_getf_r f_43_10 fd_x_54_448 ?_
      refine sg_getf_k f_43_13 fd_x_46_385 (sx_tS_tx hx).1 ?_
      first | refine sg_ncmp_ge 81 (by omega) (by omega) f_43_16 rfl (fun c16 => ?_) (fun c16 => ?_) | refine sg_icmp_ge 81 f_43_16 rfl (fun c16 => ?_) (fun c16 => ?_)
      · omega
      · refine sg_aload_n f_43_19 rfl ?_
        refine sg_getf_r f_43_20 fd_x_54_448 ?_
        refine sg_aload_n f_43_23 rfl ?_
        refine sg_getf_k f_43_24 fd_x_54_449 sx_tS_a.1 ?_
        refine sg_callv_i f_43_27 my_43_39 mr_39 rfl (Nat.le_of_ble_eq_true rfl) (Nat.le_of_ble_eq_true rfl) sh_x_46 (by decide) rfl (sx_39_t (sx_tS_tx hx) hpn) ?_
        refine sg_calls_i f_43_30 my_43_44 mr_44 (by decide) rfl (Nat.le_of_ble_eq_true rfl) (Nat.le_of_ble_eq_true rfl) rfl (sx_44 (show x p < 2 ^ 31 by omega)) ?_
        rw [if_neg hf]
        refine sg_if_eq 81 f_43_33 rfl (fun c33 => ?_) (fun c33 => ?_)
        · exact kk
        · exact absurd rfl c33
theorem sx_43 {σ : sg_S} {x : Nat → Nat} {n p z : Nat} {k : Int32} (hx : sx_tx σ x n) (hp : p < n) : sg_D tx_H 43 0 [.ref 54, ab_u] [] (sx_tS σ p k p z) none (sx_tS σ (rd_nm x (n - p) p 0).2 (if x p = 48 ∧ p + 1 < (rd_nm x (n - p) p 0).2 ∨ 999 < (rd_nm x (n - p) p 0).1 then -2 else nI 48) p (rd_nm x (n - p) p 0).1) := by
  have h160 := hx.2.1
  have hc := (hx.2.2 p hp).2
  have hl := rd_nm_le x (n - p) p 0 (by omega)
  have k5 := fun σ' r => sx_43_l (σ := σ) (σ' := σ') (q := p) (k := k) (r := r) hx (n - p) p 0 (by omega) (by omega)
  revert hl k5
  generalize rd_nm x (n - p) p 0 = w
  intro hl k5
  obtain ⟨v, q⟩ := w
  dsimp only at hl k5 ⊢
  refine sg_aload_n f_43_0 rfl ?_
  refine sg_iconst (nI 0) f_43_1 ki_0 ?_
  refine sg_putf_j 4 f_43_2 (by decide) fd_x_54_452 rfl ?_
  rw [sx_tS_4]
  refine k5 _ _ ?_
  refine sg_aload_n f_43_81 rfl ?_
  refine sg_getf_r f_43_82 fd_x_54_448 ?_
  refine sg_aload_n f_43_85 rfl ?_
  refine sg_getf_k f_43_86 fd_x_54_451 sx_tS_a.2.2.1 ?_
  refine sg_callv_i f_43_89 my_43_39 mr_39 rfl (Nat.le_of_ble_eq_true rfl) (Nat.le_of_ble_eq_true rfl) sh_x_46 (by decide) rfl (sx_39_t (sx_tS_tx hx) hp) ?_
  refine sg_bipush (nI 48) f_43_92 kb_48 ?_
  first | refine sg_ncmp_ne 114 (by omega) (by omega) f_43_94 rfl (fun c94 => ?_) (fun c94 => ?_) | refine sg_icmp_ne 114 f_43_94 rfl (fun c94 => ?_) (fun c94 => ?_)
  · refine sg_iconst (nI 0) f_43_114 ki_0 ?_
    refine sg_istore_n [_, _] f_43_115 rfl ?_
    refine sg_aload_n f_43_116 rfl ?_
    refine sg_iload_n f_43_117 rfl ?_
    refine sg_if_ne 131 f_43_118 rfl (fun c118 => ?_) (fun c118 => ?_)
    · refine sg_bipush (-2) f_43_131 kb_m2 ?_
      refine sg_goto 138 f_43_133 rfl ?_
      refine sg_putf_j 2 f_43_138 (by decide) fd_x_54_450 rfl ?_
      rw [sx_tS_2]
      first | exact absurd rfl c118 | exact absurd c118 (by decide) | (rw [if_pos (by omega)]; exact (sg_vret f_43_141 rk_43)) | (rw [if_neg (by omega)]; exact (sg_vret f_43_141 rk_43))
    · refine sg_aload_n f_43_121 rfl ?_
      refine sg_getf_k f_43_122 fd_x_54_452 sx_tS_a.2.2.2 ?_
      refine sg_sipush (nI 999) f_43_125 ks_999 ?_
      first | refine sg_ncmp_le 136 (by omega) (by omega) f_43_128 rfl (fun c128 => ?_) (fun c128 => ?_) | refine sg_icmp_le 136 f_43_128 rfl (fun c128 => ?_) (fun c128 => ?_)
      · refine sg_bipush (nI 48) f_43_136 kb_48 ?_
        refine sg_putf_j 2 f_43_138 (by decide) fd_x_54_450 rfl ?_
        rw [sx_tS_2]
        first | exact absurd rfl c118 | exact absurd c118 (by decide) | (rw [if_pos (by omega)]; exact (sg_vret f_43_141 rk_43)) | (rw [if_neg (by omega)]; exact (sg_vret f_43_141 rk_43))
      · refine sg_bipush (-2) f_43_131 kb_m2 ?_
        refine sg_goto 138 f_43_133 rfl ?_
        refine sg_putf_j 2 f_43_138 (by decide) fd_x_54_450 rfl ?_
        rw [sx_tS_2]
        first | exact absurd rfl c118 | exact absurd c118 (by decide) | (rw [if_pos (by omega)]; exact (sg_vret f_43_141 rk_43)) | (rw [if_neg (by omega)]; exact (sg_vret f_43_141 rk_43))
  · refine sg_aload_n f_43_97 rfl ?_
    refine sg_getf_k f_43_98 fd_x_54_449 sx_tS_a.1 ?_
    refine sg_aload_n f_43_101 rfl ?_
    refine sg_getf_k f_43_102 fd_x_54_451 sx_tS_a.2.2.1 ?_
    refine sg_isub (nI (q - p)) f_43_105 (sg_nsub (by omega)) ?_
    refine sg_iconst (nI 1) f_43_106 ki_1 ?_
    first | refine sg_ncmp_le 114 (by omega) (by omega) f_43_107 rfl (fun c107 => ?_) (fun c107 => ?_) | refine sg_icmp_le 114 f_43_107 rfl (fun c107 => ?_) (fun c107 => ?_)
    · refine sg_iconst (nI 0) f_43_114 ki_0 ?_
      refine sg_istore_n [_, _] f_43_115 rfl ?_
      refine sg_aload_n f_43_116 rfl ?_
      refine sg_iload_n f_43_117 rfl ?_
      refine sg_if_ne 131 f_43_118 rfl (fun c118 => ?_) (fun c118 => ?_)
      · refine sg_bipush (-2) f_43_131 kb_m2 ?_
        refine sg_goto 138 f_43_133 rfl ?_
        refine sg_putf_j 2 f_43_138 (by decide) fd_x_54_450 rfl ?_
        rw [sx_tS_2]
        first | exact absurd rfl c118 | exact absurd c118 (by decide) | (rw [if_pos (by omega)]; exact (sg_vret f_43_141 rk_43)) | (rw [if_neg (by omega)]; exact (sg_vret f_43_141 rk_43))
      · refine sg_aload_n f_43_121 rfl ?_
        refine sg_getf_k f_43_122 fd_x_54_452 sx_tS_a.2.2.2 ?_
        refine sg_sipush (nI 999) f_43_125 ks_999 ?_
        first | refine sg_ncmp_le 136 (by omega) (by omega) f_43_128 rfl (fun c128 => ?_) (fun c128 => ?_) | refine sg_icmp_le 136 f_43_128 rfl (fun c128 => ?_) (fun c128 => ?_)
        · refine sg_bipush (nI 48) f_43_136 kb_48 ?_
          refine sg_putf_j 2 f_43_138 (by decide) fd_x_54_450 rfl ?_
          rw [sx_tS_2]
          first | exact absurd rfl c118 | exact absurd c118 (by decide) | (rw [if_pos (by omega)]; exact (sg_vret f_43_141 rk_43)) | (rw [if_neg (by omega)]; exact (sg_vret f_43_141 rk_43))
        · refine sg_bipush (-2) f_43_131 kb_m2 ?_
          refine sg_goto 138 f_43_133 rfl ?_
          refine sg_putf_j 2 f_43_138 (by decide) fd_x_54_450 rfl ?_
          rw [sx_tS_2]
          first | exact absurd rfl c118 | exact absurd c118 (by decide) | (rw [if_pos (by omega)]; exact (sg_vret f_43_141 rk_43)) | (rw [if_neg (by omega)]; exact (sg_vret f_43_141 rk_43))
    · refine sg_iconst (nI 1) f_43_110 ki_1 ?_
      refine sg_goto 115 f_43_111 rfl ?_
      refine sg_istore_n [_, _] f_43_115 rfl ?_
      refine sg_aload_n f_43_116 rfl ?_
      refine sg_iload_n f_43_117 rfl ?_
      refine sg_if_ne 131 f_43_118 rfl (fun c118 => ?_) (fun c118 => ?_)
      · refine sg_bipush (-2) f_43_131 kb_m2 ?_
        refine sg_goto 138 f_43_133 rfl ?_
        refine sg_putf_j 2 f_43_138 (by decide) fd_x_54_450 rfl ?_
        rw [sx_tS_2]
        first | exact absurd rfl c118 | exact absurd c118 (by decide) | (rw [if_pos (by omega)]; exact (sg_vret f_43_141 rk_43)) | (rw [if_neg (by omega)]; exact (sg_vret f_43_141 rk_43))
      · refine sg_aload_n f_43_121 rfl ?_
        refine sg_getf_k f_43_122 fd_x_54_452 sx_tS_a.2.2.2 ?_
        refine sg_sipush (nI 999) f_43_125 ks_999 ?_
        first | refine sg_ncmp_le 136 (by omega) (by omega) f_43_128 rfl (fun c128 => ?_) (fun c128 => ?_) | refine sg_icmp_le 136 f_43_128 rfl (fun c128 => ?_) (fun c128 => ?_)
        · refine sg_bipush (nI 48) f_43_136 kb_48 ?_
          refine sg_putf_j 2 f_43_138 (by decide) fd_x_54_450 rfl ?_
          rw [sx_tS_2]
          first | exact absurd rfl c118 | exact absurd c118 (by decide) | (rw [if_pos (by omega)]; exact (sg_vret f_43_141 rk_43)) | (rw [if_neg (by omega)]; exact (sg_vret f_43_141 rk_43))
        · refine sg_bipush (-2) f_43_131 kb_m2 ?_
          refine sg_goto 138 f_43_133 rfl ?_
          refine sg_putf_j 2 f_43_138 (by decide) fd_x_54_450 rfl ?_
          rw [sx_tS_2]
          first | exact absurd rfl c118 | exact absurd c118 (by decide) | (rw [if_pos (by omega)]; exact (sg_vret f_43_141 rk_43)) | (rw [if_neg (by omega)]; exact (sg_vret f_43_141 rk_43))
theorem sx_42_l {σ σ' : sg_S} {x : Nat → Nat} {n q z : Nat} {k : Int32} {r : Option Value} (hx : sx_tx σ x n) : ∀ m p : Nat, p + m = n → sg_D tx_H 42 43 [.ref 54] [] (sx_tS σ (rd_sp x m p) k q z) r σ' → sg_D tx_H 42 0 [.ref 54] [] (sx_tS σ p k q z) r σ' := by
  have h160 := hx.2.1
  intro m
  induction m with
  | zero =>
    intro p hp kk
    rw [rd_sp] at kk
    refine sg_aload_n f_42_0 rfl ?_
    refine sg_getf_k f_42_1 fd_x_54_449 sx_tS_a.1 ?_
    refine sg_aload_n f_42_4 rfl ?_
    refine sg_getf_r f_42_5 fd_x_54_448 ?_
    refine sg_getf_k f_42_8 fd_x_46_385 (sx_tS_tx hx).1 ?_
    first | refine sg_ncmp_ge 43 (by omega) (by omega) f_42_11 rfl (fun c11 => ?_) (fun c11 => ?_) | refine sg_icmp_ge 43 f_42_11 rfl (fun c11 => ?_) (fun c11 => ?_)
    · exact kk
    · omega
  | succ m ih =>
    intro p hp kk
    have hpn : p < n := by omega
    have hc := (hx.2.2 p hpn).2
    rw [rd_sp] at kk
    by_cases hf : x p = 32
    · rw [if_pos hf] at kk
      refine sg_aload_n f_42_0 rfl ?_
      refine sg_getf_k f_42_1 fd_x_54_449 sx_tS_a.1 ?_
      refine sg_aload_n f_42_4 rfl ?_
      refine sg_getf_r f_42_5 fd_x_54_448 ?_
      refine sg_getf_k f_42_8 fd_x_46_385 (sx_tS_tx hx).1 ?_
      first | refine sg_ncmp_ge 43 (by omega) (by omega) f_42_11 rfl (fun c11 => ?_) (fun c11 => ?_) | refine sg_icmp_ge 43 f_42_11 rfl (fun c11 => ?_) (fun c11 => ?_)
      · omega
      · refine sg_aload_n f_42_14 rfl ?_
        refine sg_getf_r f_42_15 fd_x_54_448 ?_
        refine sg_aload_n f_42_18 rfl ?_
        refine sg_getf_k f_42_19 fd_x_54_449 sx_tS_a.1 ?_
        refine sg_callv_i f_42_22 my_42_39 mr_39 rfl (Nat.le_of_ble_eq_true rfl) (Nat.le_of_ble_eq_true rfl) sh_x_46 (by decide) rfl (sx_39_t (sx_tS_tx hx) hpn) ?_
        refine sg_bipush (nI 32) f_42_25 kb_32 ?_
        first | refine sg_ncmp_ne 43 (by omega) (by omega) f_42_27 rfl (fun c27 => ?_) (fun c27 => ?_) | refine sg_icmp_ne 43 f_42_27 rfl (fun c27 => ?_) (fun c27 => ?_)
        · omega
        · refine sg_aload_n f_42_30 rfl ?_
          refine sg_dup f_42_31 rfl ?_
          refine sg_getf_k f_42_32 fd_x_54_449 sx_tS_a.1 ?_
          refine sg_iconst (nI 1) f_42_35 ki_1 ?_
          first | refine sg_iadd _ f_42_36 (nI_add _ _) ?_ | refine sg_iadd _ f_42_36 rfl ?_
          refine sg_putf_j 1 f_42_37 (by decide) fd_x_54_449 rfl ?_
          rw [sx_tS_1]
          refine sg_goto 0 f_42_40 rfl ?_
          exact ih (p + 1) (by omega) kk
    · rw [if_neg hf] at kk
      refine sg_aload_n f_42_0 rfl ?_
      refine sg_getf_k f_42_1 fd_x_54_449 sx_tS_a.1 ?_
      refine sg_aload_n f_42_4 rfl ?_
      refine sg_getf_r f_42_5 fd_x_54_448 ?_
      refine sg_getf_k f_42_8 fd_x_46_385 (sx_tS_tx hx).1 ?_
      first | refine sg_ncmp_ge 43 (by omega) (by omega) f_42_11 rfl (fun c11 => ?_) (fun c11 => ?_) | refine sg_icmp_ge 43 f_42_11 rfl (fun c11 => ?_) (fun c11 => ?_)
      · omega
      · refine sg_aload_n f_42_14 rfl ?_
        refine sg_getf_r f_42_15 fd_x_54_448 ?_
        refine sg_aload_n f_42_18 rfl ?_
        refine sg_getf_k f_42_19 fd_x_54_449 sx_tS_a.1 ?_
        refine sg_callv_i f_42_22 my_42_39 mr_39 rfl (Nat.le_of_ble_eq_true rfl) (Nat.le_of_ble_eq_true rfl) sh_x_46 (by decide) rfl (sx_39_t (sx_tS_tx hx) hpn) ?_
        refine sg_bipush (nI 32) f_42_25 kb_32 ?_
        first | refine sg_ncmp_ne 43 (by omega) (by omega) f_42_27 rfl (fun c27 => ?_) (fun c27 => ?_) | refine sg_icmp_ne 43 f_42_27 rfl (fun c27 => ?_) (fun c27 => ?_)
        · exact kk
        · omega
theorem sx_42 {σ : sg_S} {x : Nat → Nat} {n p q z : Nat} {k : Int32} (hx : sx_tx σ x n) (hp : p ≤ n) : sg_D tx_H 42 0 [.ref 54] [] (sx_tS σ p k q z) none (sx_tS σ (rd_tok x n p z).1 (rd_tok x n p z).2.1 (rd_tok x n p z).2.2.1 (rd_tok x n p z).2.2.2) := by
  have h160 := hx.2.1
  have hl := rd_sp_le x (n - p) p
  refine sx_42_l hx (n - p) p (by omega) ?_
  unfold rd_tok
  revert hl
  generalize rd_sp x (n - p) p = s
  intro hl
  by_cases hs : s = n
  · rw [if_pos hs]
    refine sg_aload_n f_42_43 rfl ?_
    refine sg_aload_n f_42_44 rfl ?_
    refine sg_getf_k f_42_45 fd_x_54_449 sx_tS_a.1 ?_
    refine sg_putf_j 3 f_42_48 (by decide) fd_x_54_451 rfl ?_
    rw [sx_tS_3]
    refine sg_aload_n f_42_51 rfl ?_
    refine sg_getf_k f_42_52 fd_x_54_449 sx_tS_a.1 ?_
    refine sg_aload_n f_42_55 rfl ?_
    refine sg_getf_r f_42_56 fd_x_54_448 ?_
    refine sg_getf_k f_42_59 fd_x_46_385 (sx_tS_tx hx).1 ?_
    first | refine sg_ncmp_lt 73 (by omega) (by omega) f_42_62 rfl (fun c62 => ?_) (fun c62 => ?_) | refine sg_icmp_lt 73 f_42_62 rfl (fun c62 => ?_) (fun c62 => ?_)
    · omega
    · refine sg_aload_n f_42_65 rfl ?_
      refine sg_iconst (-1) f_42_66 ki_m1 ?_
      refine sg_putf_j 2 f_42_67 (by decide) fd_x_54_450 rfl ?_
      rw [sx_tS_2]
      refine sg_goto 125 f_42_70 rfl ?_
      rw [hs]; exact (sg_vret f_42_125 rk_42)
  · rw [if_neg hs]
    have hsn : s < n := by omega
    have hc := (hx.2.2 s hsn).2
    by_cases hf : rd_fig (x s) = true
    · rw [if_pos hf]
      refine sg_aload_n f_42_43 rfl ?_
      refine sg_aload_n f_42_44 rfl ?_
      refine sg_getf_k f_42_45 fd_x_54_449 sx_tS_a.1 ?_
      refine sg_putf_j 3 f_42_48 (by decide) fd_x_54_451 rfl ?_
      rw [sx_tS_3]
      refine sg_aload_n f_42_51 rfl ?_
      refine sg_getf_k f_42_52 fd_x_54_449 sx_tS_a.1 ?_
      refine sg_aload_n f_42_55 rfl ?_
      refine sg_getf_r f_42_56 fd_x_54_448 ?_
      refine sg_getf_k f_42_59 fd_x_46_385 (sx_tS_tx hx).1 ?_
      first | refine sg_ncmp_lt 73 (by omega) (by omega) f_42_62 rfl (fun c62 => ?_) (fun c62 => ?_) | refine sg_icmp_lt 73 f_42_62 rfl (fun c62 => ?_) (fun c62 => ?_)
      · refine sg_aload_n f_42_73 rfl ?_
        refine sg_getf_r f_42_74 fd_x_54_448 ?_
        refine sg_aload_n f_42_77 rfl ?_
        refine sg_getf_k f_42_78 fd_x_54_449 sx_tS_a.1 ?_
        refine sg_callv_i f_42_81 my_42_39 mr_39 rfl (Nat.le_of_ble_eq_true rfl) (Nat.le_of_ble_eq_true rfl) sh_x_46 (by decide) rfl (sx_39_t (sx_tS_tx hx) hsn) ?_
        refine sg_calls_i f_42_84 my_42_44 mr_44 (by decide) rfl (Nat.le_of_ble_eq_true rfl) (Nat.le_of_ble_eq_true rfl) rfl (sx_44 (show x s < 2 ^ 31 by omega)) ?_
        rw [if_pos hf]
        refine sg_if_eq 97 f_42_87 rfl (fun c87 => ?_) (fun c87 => ?_)
        · exact absurd c87 (by decide)
        · refine sg_aload_n f_42_90 rfl ?_
          refine sg_callv_v f_42_91 my_42_43 mr_43 rfl (Nat.le_of_ble_eq_true rfl) (Nat.le_of_ble_eq_true rfl) sh_x_54 (by decide) rfl (sx_43 hx hsn) ?_
          refine sg_goto 125 f_42_94 rfl ?_
          exact (sg_vret f_42_125 rk_42)
      · omega
    · rw [if_neg hf]
      refine sg_aload_n f_42_43 rfl ?_
      refine sg_aload_n f_42_44 rfl ?_
      refine sg_getf_k f_42_45 fd_x_54_449 sx_tS_a.1 ?_
      refine sg_putf_j 3 f_42_48 (by decide) fd_x_54_451 rfl ?_
      rw [sx_tS_3]
      refine sg_aload_n f_42_51 rfl ?_
      refine sg_getf_k f_42_52 fd_x_54_449 sx_tS_a.1 ?_
      refine sg_aload_n f_42_55 rfl ?_
      refine sg_getf_r f_42_56 fd_x_54_448 ?_
      refine sg_getf_k f_42_59 fd_x_46_385 (sx_tS_tx hx).1 ?_
      first | refine sg_ncmp_lt 73 (by omega) (by omega) f_42_62 rfl (fun c62 => ?_) (fun c62 => ?_) | refine sg_icmp_lt 73 f_42_62 rfl (fun c62 => ?_) (fun c62 => ?_)
      · refine sg_aload_n f_42_73 rfl ?_
        refine sg_getf_r f_42_74 fd_x_54_448 ?_
        refine sg_aload_n f_42_77 rfl ?_
        refine sg_getf_k f_42_78 fd_x_54_449 sx_tS_a.1 ?_
        refine sg_callv_i f_42_81 my_42_39 mr_39 rfl (Nat.le_of_ble_eq_true rfl) (Nat.le_of_ble_eq_true rfl) sh_x_46 (by decide) rfl (sx_39_t (sx_tS_tx hx) hsn) ?_
        refine sg_calls_i f_42_84 my_42_44 mr_44 (by decide) rfl (Nat.le_of_ble_eq_true rfl) (Nat.le_of_ble_eq_true rfl) rfl (sx_44 (show x s < 2 ^ 31 by omega)) ?_
        rw [if_neg hf]
        refine sg_if_eq 97 f_42_87 rfl (fun c87 => ?_) (fun c87 => ?_)
        · refine sg_aload_n f_42_97 rfl ?_
          refine sg_aload_n f_42_98 rfl ?_
          refine sg_getf_r f_42_99 fd_x_54_448 ?_
          refine sg_aload_n f_42_102 rfl ?_
          refine sg_getf_k f_42_103 fd_x_54_449 sx_tS_a.1 ?_
          refine sg_callv_i f_42_106 my_42_39 mr_39 rfl (Nat.le_of_ble_eq_true rfl) (Nat.le_of_ble_eq_true rfl) sh_x_46 (by decide) rfl (sx_39_t (sx_tS_tx hx) hsn) ?_
          refine sg_calls_i f_42_109 my_42_45 mr_45 (by decide) rfl (Nat.le_of_ble_eq_true rfl) (Nat.le_of_ble_eq_true rfl) rfl (sx_45 (show x s < 2 ^ 31 by omega)) ?_
          refine sg_putf_j 2 f_42_112 (by decide) fd_x_54_450 rfl ?_
          rw [sx_tS_2]
          refine sg_aload_n f_42_115 rfl ?_
          refine sg_dup f_42_116 rfl ?_
          refine sg_getf_k f_42_117 fd_x_54_449 sx_tS_a.1 ?_
          refine sg_iconst (nI 1) f_42_120 ki_1 ?_
          first | refine sg_iadd _ f_42_121 (nI_add _ _) ?_ | refine sg_iadd _ f_42_121 rfl ?_
          refine sg_putf_j 1 f_42_122 (by decide) fd_x_54_449 rfl ?_
          rw [sx_tS_1]
          exact (sg_vret f_42_125 rk_42)
        · exact absurd rfl c87
      · omega
theorem sx_41 {σ : sg_S} {x : Nat → Nat} {n p q z : Nat} {k : Int32} (hx : sx_tx σ x n) : sg_D tx_H 41 0 [.ref 54] [] (sx_tS σ p k q z) none (sx_tS σ (rd_tok x n 0 z).1 (rd_tok x n 0 z).2.1 (rd_tok x n 0 z).2.2.1 (rd_tok x n 0 z).2.2.2) := by
  refine sg_aload_n f_41_0 rfl ?_
  refine sg_iconst (nI 0) f_41_1 ki_0 ?_
  refine sg_putf_j 1 f_41_2 (by decide) fd_x_54_449 rfl ?_
  rw [sx_tS_1]
  refine sg_aload_n f_41_5 rfl ?_
  refine sg_callv_v f_41_6 my_41_42 mr_42 rfl (Nat.le_of_ble_eq_true rfl) (Nat.le_of_ble_eq_true rfl) sh_x_54 (by decide) rfl (sx_42 hx (Nat.zero_le n)) ?_
  exact (sg_vret f_41_9 rk_41)
theorem sx_tS_self {σ : sg_S} {p q z : Nat} {k : Int32} (h1 : σ.1 54 1 = nI p) (h2 : σ.1 54 2 = k) (h3 : σ.1 54 3 = nI q) (h4 : σ.1 54 4 = nI z) : sx_tS σ p k q z = σ := by
  refine sg_r1_self ?_
  funext j
  unfold sx_tk
  by_cases e1 : j = 1
  · rw [if_pos e1, e1, h1]
  · rw [if_neg e1]
    by_cases e2 : j = 2
    · rw [if_pos e2, e2, h2]
    · rw [if_neg e2]
      by_cases e3 : j = 3
      · rw [if_pos e3, e3, h3]
      · rw [if_neg e3]
        by_cases e4 : j = 4
        · rw [if_pos e4, e4, h4]
        · rw [if_neg e4]
theorem sx_31 {σ : sg_S} : ∃ f g : Nat → Int32, (∀ k, k < 16 → f k = 0) ∧ (∀ k, k < 4 → g k = 0) ∧ sg_D tx_H 31 0 [.ref 51] [] σ none (sg_r1 (sg_r1 (sg_r1 σ 51 (upd (σ.1 51) 0 (nI 1))) 52 f) 53 g) := by
  obtain ⟨f, hf, k1⟩ := sx_156 (σ := sg_r1 σ 51 (upd (σ.1 51) 0 (nI 1))) (a := 52) (N := 16) (by decide +kernel) (by omega) (by omega)
  obtain ⟨g, hg, k2⟩ := sx_156 (σ := sg_r1 (sg_r1 σ 51 (upd (σ.1 51) 0 (nI 1))) 52 f) (a := 53) (N := 4) (by decide +kernel) (by omega) (by omega)
  refine ⟨f, g, hf, hg, ?_⟩
  refine sg_aload_n f_31_0 rfl ?_
  refine sg_iconst (nI 1) f_31_1 ki_1 ?_
  refine sg_putf_j 0 f_31_2 (by decide) fd_x_51_320 rfl ?_
  refine sg_aload_n f_31_5 rfl ?_
  refine sg_getf_r f_31_6 fd_x_51_321 ?_
  refine sg_iconst (nI 0) f_31_9 ki_0 ?_
  refine sg_calls_v f_31_10 my_31_156 mr_156 (by decide) rfl (Nat.le_of_ble_eq_true rfl) (Nat.le_of_ble_eq_true rfl) rfl k1 ?_
  refine sg_aload_n f_31_13 rfl ?_
  refine sg_getf_r f_31_14 fd_x_51_322 ?_
  refine sg_iconst (nI 0) f_31_17 ki_0 ?_
  refine sg_calls_v f_31_18 my_31_156 mr_156 (by decide) rfl (Nat.le_of_ble_eq_true rfl) (Nat.le_of_ble_eq_true rfl) rfl k2 ?_
  exact (sg_vret f_31_21 rk_31)
