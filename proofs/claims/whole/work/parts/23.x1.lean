/-! more rules: a value that is known -/
section SgMore
variable {T : ab_H} {mid pc x q : Nat} {L st : List Value} {σ σ' : sg_S} {r : Option Value}
theorem sg_getf_j {n a : Nat} {v0 : Int32} (k : Nat) (hf : ab_ft (ab_CM mid) pc = some (.getfield n, x, q)) (hv : sg_fld T a n = some (.int v0)) (hk : n % 64 = k) (kk : sg_D T mid (pc + 3) L (.int (σ.1 a k) :: st) σ r σ') : sg_D T mid pc L (.ref a :: st) σ r σ' := by
  subst hk
  exact sg_getf_i hf hv kk
theorem sg_getf_k {n a : Nat} {v0 v : Int32} (hf : ab_ft (ab_CM mid) pc = some (.getfield n, x, q)) (hv : sg_fld T a n = some (.int v0)) (he : σ.1 a (n % 64) = v) (kk : sg_D T mid (pc + 3) L (.int v :: st) σ r σ') : sg_D T mid pc L (.ref a :: st) σ r σ' := by
  subst he
  exact sg_getf_i hf hv kk
theorem sg_putf_j {n a : Nat} {v v0 : Int32} (k : Nat) (hf : ab_ft (ab_CM mid) pc = some (.putfield n, x, q)) (h4 : 4096 ≤ n) (hv : sg_fld T a (n - 4096) = some (.int v0)) (hk : (n - 4096) % 64 = k) (kk : sg_D T mid (pc + 3) L st (sg_r1 σ a (upd (σ.1 a) k v)) r σ') : sg_D T mid pc L (.int v :: .ref a :: st) σ r σ' := by
  subst hk
  exact sg_putf hf h4 hv kk
theorem sg_iaload_k {a n : Nat} {i v : Int32} (j : Nat) (hT : sg_okT T) (hf : ab_ft (ab_CM mid) pc = some (.iaload, x, q)) (hs : sg_sh T a = some (20, n)) (hi : i = nI j) (hj : j < n) (he : σ.1 a j = v) (kk : sg_D T mid (pc + 1) L (.int v :: st) σ r σ') (hn : n ≤ 2000 := by decide) (ha : a < 1000 := by decide) : sg_D T mid pc L (.int i :: .ref a :: st) σ r σ' := by
  subst he
  exact sg_iaload j hT hf hs hi hj kk hn ha
theorem sg_laload_k {a n : Nat} {i : Int32} {v : Int64} (j : Nat) (hT : sg_okT T) (hf : ab_ft (ab_CM mid) pc = some (.laload, x, q)) (hs : sg_sh T a = some (21, n)) (hi : i = nI j) (hj : j < n) (he : σ.2 a j = v) (kk : sg_D T mid (pc + 1) L (.long v :: st) σ r σ') (hn : n ≤ 2000 := by decide) : sg_D T mid pc L (.int i :: .ref a :: st) σ r σ' := by
  subst he
  exact sg_laload j hT hf hs hi hj kk hn
theorem sg_baload_k {a n : Nat} {i v : Int32} (j : Nat) (hT : sg_okT T) (hf : ab_ft (ab_CM mid) pc = some (.baload, x, q)) (hs : sg_sh T a = some (22, n)) (hi : i = nI j) (hj : j < n) (he : σ.1 a j = v) (kk : sg_D T mid (pc + 1) L (.int v :: st) σ r σ') (hn : n ≤ 2000 := by decide) : sg_D T mid pc L (.int i :: .ref a :: st) σ r σ' := by
  subst he
  exact sg_baload j hT hf hs hi hj kk hn
end SgMore
/-- out of 0 .. n - 1 -/
def sg_out (x : Int32) (n : Nat) : Prop := x < 0 ∨ nI n ≤ x
theorem sg_inout (x : Int32) {n : Nat} (hn : n < 2 ^ 31) : sg_out x n ∨ ∃ j, j < n ∧ x = nI j := by
  rcases pk_ix x hn with h | h | h
  · exact Or.inl (Or.inl h)
  · exact Or.inl (Or.inr h)
  · exact Or.inr h
theorem sg_nneg {j : Nat} (h : j < 2 ^ 31) : ¬ nI j < 0 := nI_pos h
/-! isTree, isRegister, isImage -/
theorem sx_94_1 {σ : sg_S} {j : Nat} (hj : j < 17) : sg_D tx_H 94 0 [.int (nI j)] [] σ (some (.int (nI 1))) σ := by
  refine sg_iload_n f_94_0 rfl ?_
  refine sg_if_lt 14 f_94_1 rfl (fun c1 => ?_) (fun c1 => ?_)
  · exact absurd c1 (sg_nneg (by omega))
  · refine sg_iload_n f_94_4 rfl ?_
    refine sg_bipush (nI 17) f_94_5 kb_17 ?_
    first | refine sg_ncmp_ge 14 (by omega) (by omega) f_94_7 rfl (fun c7 => ?_) (fun c7 => ?_) | refine sg_icmp_ge 14 f_94_7 rfl (fun c7 => ?_) (fun c7 => ?_)
    · omega
    · refine sg_iconst (nI 1) f_94_10 ki_1 ?_
      refine sg_goto 15 f_94_11 rfl ?_
      exact (sg_zret f_94_15 rk_94 (by first | exact Or.inl rfl | exact Or.inr rfl | assumption))
theorem sx_94_0 {σ : sg_S} {t : Int32} (h : sg_out t 17) : sg_D tx_H 94 0 [.int t] [] σ (some (.int (nI 0))) σ := by
  refine sg_iload_n f_94_0 rfl ?_
  refine sg_if_lt 14 f_94_1 rfl (fun c1 => ?_) (fun c1 => ?_)
  · refine sg_iconst (nI 0) f_94_14 ki_0 ?_
    exact (sg_zret f_94_15 rk_94 (by first | exact Or.inl rfl | exact Or.inr rfl | assumption))
  · refine sg_iload_n f_94_4 rfl ?_
    refine sg_bipush (nI 17) f_94_5 kb_17 ?_
    refine sg_icmp_ge 14 f_94_7 rfl (fun c7 => ?_) (fun c7 => ?_)
    · refine sg_iconst (nI 0) f_94_14 ki_0 ?_
      exact (sg_zret f_94_15 rk_94 (by first | exact Or.inl rfl | exact Or.inr rfl | assumption))
    · exact absurd h (fun z => z.elim c1 c7)
theorem sx_95_1 {σ : sg_S} {j : Nat} (hj : j < 6) : sg_D tx_H 95 0 [.int (nI j)] [] σ (some (.int (nI 1))) σ := by
  refine sg_iload_n f_95_0 rfl ?_
  refine sg_if_lt 14 f_95_1 rfl (fun c1 => ?_) (fun c1 => ?_)
  · exact absurd c1 (sg_nneg (by omega))
  · refine sg_iload_n f_95_4 rfl ?_
    refine sg_bipush (nI 6) f_95_5 kb_6 ?_
    first | refine sg_ncmp_ge 14 (by omega) (by omega) f_95_7 rfl (fun c7 => ?_) (fun c7 => ?_) | refine sg_icmp_ge 14 f_95_7 rfl (fun c7 => ?_) (fun c7 => ?_)
    · omega
    · refine sg_iconst (nI 1) f_95_10 ki_1 ?_
      refine sg_goto 15 f_95_11 rfl ?_
      exact (sg_zret f_95_15 rk_95 (by first | exact Or.inl rfl | exact Or.inr rfl | assumption))
theorem sx_95_0 {σ : sg_S} {t : Int32} (h : sg_out t 6) : sg_D tx_H 95 0 [.int t] [] σ (some (.int (nI 0))) σ := by
  refine sg_iload_n f_95_0 rfl ?_
  refine sg_if_lt 14 f_95_1 rfl (fun c1 => ?_) (fun c1 => ?_)
  · refine sg_iconst (nI 0) f_95_14 ki_0 ?_
    exact (sg_zret f_95_15 rk_95 (by first | exact Or.inl rfl | exact Or.inr rfl | assumption))
  · refine sg_iload_n f_95_4 rfl ?_
    refine sg_bipush (nI 6) f_95_5 kb_6 ?_
    refine sg_icmp_ge 14 f_95_7 rfl (fun c7 => ?_) (fun c7 => ?_)
    · refine sg_iconst (nI 0) f_95_14 ki_0 ?_
      exact (sg_zret f_95_15 rk_95 (by first | exact Or.inl rfl | exact Or.inr rfl | assumption))
    · exact absurd h (fun z => z.elim c1 c7)
theorem sx_96_1 {σ : sg_S} {j : Nat} (hj : j < 2) : sg_D tx_H 96 0 [.int (nI j)] [] σ (some (.int (nI 1))) σ := by
  refine sg_iload_n f_96_0 rfl ?_
  refine sg_if_lt 13 f_96_1 rfl (fun c1 => ?_) (fun c1 => ?_)
  · exact absurd c1 (sg_nneg (by omega))
  · refine sg_iload_n f_96_4 rfl ?_
    refine sg_iconst (nI 2) f_96_5 ki_2 ?_
    first | refine sg_ncmp_ge 13 (by omega) (by omega) f_96_6 rfl (fun c6 => ?_) (fun c6 => ?_) | refine sg_icmp_ge 13 f_96_6 rfl (fun c6 => ?_) (fun c6 => ?_)
    · omega
    · refine sg_iconst (nI 1) f_96_9 ki_1 ?_
      refine sg_goto 14 f_96_10 rfl ?_
      exact (sg_zret f_96_14 rk_96 (by first | exact Or.inl rfl | exact Or.inr rfl | assumption))
theorem sx_96_0 {σ : sg_S} {t : Int32} (h : sg_out t 2) : sg_D tx_H 96 0 [.int t] [] σ (some (.int (nI 0))) σ := by
  refine sg_iload_n f_96_0 rfl ?_
  refine sg_if_lt 13 f_96_1 rfl (fun c1 => ?_) (fun c1 => ?_)
  · refine sg_iconst (nI 0) f_96_13 ki_0 ?_
    exact (sg_zret f_96_14 rk_96 (by first | exact Or.inl rfl | exact Or.inr rfl | assumption))
  · refine sg_iload_n f_96_4 rfl ?_
    refine sg_iconst (nI 2) f_96_5 ki_2 ?_
    refine sg_icmp_ge 13 f_96_6 rfl (fun c6 => ?_) (fun c6 => ?_)
    · refine sg_iconst (nI 0) f_96_13 ki_0 ?_
      exact (sg_zret f_96_14 rk_96 (by first | exact Or.inl rfl | exact Or.inr rfl | assumption))
    · exact absurd h (fun z => z.elim c1 c6)
/-! the text -/
theorem sx_39_in {σ : sg_S} {n j : Nat} (hn : σ.1 46 1 = nI n) (hn2 : n ≤ 160) (hj : j < n) : sg_D tx_H 39 0 [.ref 46, .int (nI j)] [] σ (some (.int (σ.1 47 j))) σ := by
  refine sg_iload_n f_39_0 rfl ?_
  refine sg_if_lt 21 f_39_1 rfl (fun c1 => ?_) (fun c1 => ?_)
  · exact absurd c1 (sg_nneg (by omega))
  · refine sg_iload_n f_39_4 rfl ?_
    refine sg_aload_n f_39_5 rfl ?_
    refine sg_getf_k f_39_6 fd_x_46_385 hn ?_
    first | refine sg_ncmp_ge 21 (by omega) (by omega) f_39_9 rfl (fun c9 => ?_) (fun c9 => ?_) | refine sg_icmp_ge 21 f_39_9 rfl (fun c9 => ?_) (fun c9 => ?_)
    · omega
    · refine sg_aload_n f_39_12 rfl ?_
      refine sg_getf_r f_39_13 fd_x_46_384 ?_
      refine sg_iload_n f_39_16 rfl ?_
      refine sg_iaload _ ok_x f_39_17 sh_x_47 rfl (by omega) ?_
      refine sg_goto 23 f_39_18 rfl ?_
      exact (sg_iret f_39_23 rk_39)
theorem sx_39_out {σ : sg_S} {n j : Nat} (hn : σ.1 46 1 = nI n) (hn2 : n ≤ 160) (hj : n ≤ j) (hj2 : j < 1000) : sg_D tx_H 39 0 [.ref 46, .int (nI j)] [] σ (some (.int (nI 32))) σ := by
  refine sg_iload_n f_39_0 rfl ?_
  refine sg_if_lt 21 f_39_1 rfl (fun c1 => ?_) (fun c1 => ?_)
  · exact absurd c1 (sg_nneg (by omega))
  · refine sg_iload_n f_39_4 rfl ?_
    refine sg_aload_n f_39_5 rfl ?_
    refine sg_getf_k f_39_6 fd_x_46_385 hn ?_
    first | refine sg_ncmp_ge 21 (by omega) (by omega) f_39_9 rfl (fun c9 => ?_) (fun c9 => ?_) | refine sg_icmp_ge 21 f_39_9 rfl (fun c9 => ?_) (fun c9 => ?_)
    · refine sg_bipush (nI 32) f_39_21 kb_32 ?_
      exact (sg_iret f_39_23 rk_39)
    · omega
theorem sx_37_full {σ : sg_S} {v : Int32} (hn : σ.1 46 1 = nI 160) : sg_D tx_H 37 0 [.ref 46, .int v] [] σ (some (.int (nI 0))) σ := by
  refine sg_aload_n f_37_0 rfl ?_
  refine sg_getf_k f_37_1 fd_x_46_385 hn ?_
  refine sg_sipush (nI 160) f_37_4 ks_160 ?_
  first | refine sg_ncmp_lt 12 (by omega) (by omega) f_37_7 rfl (fun c7 => ?_) (fun c7 => ?_) | refine sg_icmp_lt 12 f_37_7 rfl (fun c7 => ?_) (fun c7 => ?_)
  · omega
  · refine sg_iconst (nI 0) f_37_10 ki_0 ?_
    exact (sg_zret f_37_11 rk_37 (by first | exact Or.inl rfl | exact Or.inr rfl | assumption))
theorem sx_37 {σ : sg_S} {v : Int32} {n : Nat} (hn : σ.1 46 1 = nI n) (hn2 : n < 160) : sg_D tx_H 37 0 [.ref 46, .int v] [] σ (some (.int (nI 1))) (sg_r1 (sg_r1 σ 47 (upd (σ.1 47) n v)) 46 (upd (σ.1 46) 1 (nI (n + 1)))) := by
  refine sg_aload_n f_37_0 rfl ?_
  refine sg_getf_k f_37_1 fd_x_46_385 hn ?_
  refine sg_sipush (nI 160) f_37_4 ks_160 ?_
  first | refine sg_ncmp_lt 12 (by omega) (by omega) f_37_7 rfl (fun c7 => ?_) (fun c7 => ?_) | refine sg_icmp_lt 12 f_37_7 rfl (fun c7 => ?_) (fun c7 => ?_)
  · refine sg_aload_n f_37_12 rfl ?_
    refine sg_getf_r f_37_13 fd_x_46_384 ?_
    refine sg_aload_n f_37_16 rfl ?_
    refine sg_getf_k f_37_17 fd_x_46_385 hn ?_
    refine sg_iload_n f_37_20 rfl ?_
    refine sg_iastore _ ok_x f_37_21 sh_x_47 rfl (by omega) ?_
    refine sg_aload_n f_37_22 rfl ?_
    refine sg_dup f_37_23 rfl ?_
    refine sg_getf_k f_37_24 fd_x_46_385 (show (sg_r1 σ 47 (upd (σ.1 47) n v)).1 46 1 = nI n from hn) ?_
    refine sg_iconst (nI 1) f_37_27 ki_1 ?_
    first | refine sg_iadd _ f_37_28 (nI_add _ _) ?_ | refine sg_iadd _ f_37_28 rfl ?_
    refine sg_putf_j 1 f_37_29 (by decide) fd_x_46_385 rfl ?_
    refine sg_iconst (nI 1) f_37_32 ki_1 ?_
    exact (sg_zret f_37_33 rk_37 (by first | exact Or.inl rfl | exact Or.inr rfl | assumption))
  · omega
theorem sx_38 {σ : sg_S} : sg_D tx_H 38 0 [.ref 46, ab_u] [] σ (some (.int (σ.1 46 1))) (sg_r1 σ 46 (upd (σ.1 46) 1 (nI 0))) := by
  refine sg_aload_n f_38_0 rfl ?_
  refine sg_getf_j 1 f_38_1 fd_x_46_385 rfl ?_
  refine sg_istore_n [_, _] f_38_4 rfl ?_
  refine sg_aload_n f_38_5 rfl ?_
  refine sg_iconst (nI 0) f_38_6 ki_0 ?_
  refine sg_putf_j 1 f_38_7 (by decide) fd_x_46_385 rfl ?_
  refine sg_iload_n f_38_10 rfl ?_
  exact (sg_iret f_38_11 rk_38)
