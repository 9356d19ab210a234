/-! a method's text: the items one behind another -/
theorem rd_nm_gt {x : Nat → Nat} {m p v : Nat} (hf : rd_fig (x p) = true) (hm : 0 < m) (hv : v ≤ 1000) : p < (rd_nm x m p v).2 := by
  obtain ⟨k, rfl⟩ : ∃ k, m = k + 1 := ⟨m - 1, by omega⟩
  rw [rd_nm, if_pos hf]
  have := (rd_nm_le x k (p + 1) (min (10 * v + (x p - 48)) 1000) (Nat.min_le_right _ _)).1
  omega
theorem rd_tok_ok {x : Nat → Nat} {n p z : Nat} (h1 : p ≤ n) : p ≤ (rd_tok x n p z).2.2.1 ∧ ((rd_tok x n p z).2.1 ≠ -1 → (rd_tok x n p z).2.2.1 < (rd_tok x n p z).1) := by
  unfold rd_tok
  have hl := rd_sp_le x (n - p) p
  revert hl
  generalize rd_sp x (n - p) p = s
  intro hl
  by_cases hs : s = n
  · rw [if_pos hs]; exact ⟨h1, fun h => absurd rfl h⟩
  · rw [if_neg hs]
    by_cases hf : rd_fig (x s) = true
    · rw [if_pos hf]
      have hg := rd_nm_gt (v := 0) (m := n - s) hf (by omega) (by omega)
      exact ⟨by dsimp only; omega, fun _ => by dsimp only; omega⟩
    · rw [if_neg hf]
      exact ⟨by dsimp only; omega, fun _ => by dsimp only; omega⟩
theorem rd_adv_ok {x : Nat → Nat} {n : Nat} {T : Nat × Int32 × Nat × Nat} (h1 : T.1 ≤ n) : T.1 ≤ (rd_adv x n T).2.2.1 ∧ ((rd_adv x n T).2.1 ≠ -1 → (rd_adv x n T).2.2.1 < (rd_adv x n T).1) := rd_tok_ok h1
/-- what stands of a token at hand -/
def rd_ok (n : Nat) (T : Nat × Int32 × Nat × Nat) : Prop := T.1 ≤ n ∧ T.2.2.2 ≤ 1000 ∧ T.2.2.1 ≤ n ∧ (T.2.1 ≠ -1 → T.2.2.1 < T.1)
theorem rd_ok_adv {x : Nat → Nat} {n : Nat} {T : Nat × Int32 × Nat × Nat} (h1 : T.1 ≤ n) (h2 : T.2.2.2 ≤ 1000) : rd_ok n (rd_adv x n T) :=
  ⟨(rd_adv_le h1 h2).1, (rd_adv_le h1 h2).2.1, (rd_adv_le h1 h2).2.2.2, (rd_adv_ok h1).2⟩
theorem rd_ok_v1 {x : Nat → Nat} {n : Nat} {T : Nat × Int32 × Nat × Nat} (h1 : T.1 ≤ n) (h2 : T.2.2.2 ≤ 1000) : rd_ok n (rd_v1 x n T) := by
  have a := rd_adv_le (x := x) h1 h2
  unfold rd_v1
  split
  · exact rd_ok_adv a.1 a.2.1
  · exact rd_ok_adv h1 h2
theorem rd_n_ok {x : Nat → Nat} {n k s : Nat} {T : Nat × Int32 × Nat × Nat} {t : Nat → Int32} (h1 : T.1 ≤ n) (h2 : T.2.2.2 ≤ 1000) : rd_ok n (rd_n x n T k s t).2.1 ∧ T.1 ≤ (rd_n x n T k s t).2.1.1 ∧ (rd_n x n T k s t).2.2.1 = s := by
  have a := rd_v1_le (x := x) h1 h2
  have b := rd_adv_le (x := x) a.1 a.2.1
  unfold rd_n
  split
  · exact ⟨rd_ok_adv a.1 a.2.1, Nat.le_trans a.2.2.1 b.2.2.1, rfl⟩
  · exact ⟨rd_ok_v1 h1 h2, a.2.2.1, rfl⟩
theorem rd_item_ok {x : Nat → Nat} {n it s : Nat} {T : Nat × Int32 × Nat × Nat} {t : Nat → Int32} (h : rd_ok n T) (hs : 1 ≤ s) (hs4 : s ≤ 4) : rd_ok n (rd_item x n T it s t).2.1 ∧ T.1 ≤ (rd_item x n T it s t).2.1.1 ∧ 1 ≤ (rd_item x n T it s t).2.2.1 ∧ (rd_item x n T it s t).2.2.1 ≤ 4 := by
  have a := rd_adv_le (x := x) h.1 h.2.1
  have b := rd_adv_le (x := x) a.1 a.2.1
  have oa := rd_ok_adv (x := x) h.1 h.2.1
  have ob := rd_ok_adv (x := x) a.1 a.2.1
  have tb := Nat.le_trans a.2.2.1 b.2.2.1
  unfold rd_item
  split
  · unfold rd_s
    split
    · split
      · rename_i hb
        exact ⟨ob, tb, (rd_isb_iff.mp hb).2.1, (rd_isb_iff.mp hb).2.2⟩
      · exact ⟨oa, a.2.2.1, hs, hs4⟩
    · exact ⟨h, Nat.le_refl _, hs, hs4⟩
  · split
    · unfold rd_a
      split
      · split
        · have q := rd_n_ok (x := x) (k := 1 + 4 * (rd_adv x n T).2.2.2 + (rd_adv x n (rd_adv x n T)).2.2.2) (s := s) (t := t) b.1 b.2.1
          exact ⟨q.1, Nat.le_trans tb q.2.1, by rw [q.2.2]; exact hs, by rw [q.2.2]; exact hs4⟩
        · exact ⟨ob, tb, hs, hs4⟩
      · exact ⟨oa, a.2.2.1, hs, hs4⟩
    · split
      · unfold rd_b
        split
        · have q := rd_n_ok (x := x) (k := 17 + (rd_adv x n T).2.2.2) (s := s) (t := t) a.1 a.2.1
          exact ⟨q.1, Nat.le_trans a.2.2.1 q.2.1, by rw [q.2.2]; exact hs, by rw [q.2.2]; exact hs4⟩
        · exact ⟨oa, a.2.2.1, hs, hs4⟩
      · exact ⟨h, Nat.le_refl _, hs, hs4⟩
/-- all of it, or up to the fault -/
def rd_run (x : Nat → Nat) (n : Nat) : Nat → Nat × Int32 × Nat × Nat → Nat → Nat → (Nat → Int32) → Bool × (Nat × Int32 × Nat × Nat) × Nat × Nat × (Nat → Int32)
  | 0, T, it, s, t => (true, T, it, s, t)
  | m + 1, T, it, s, t => if T.2.1 = -1 then (true, T, it, s, t) else if (rd_item x n T it s t).1 = true then rd_run x n m (rd_adv x n (rd_item x n T it s t).2.1) (it + 1) (rd_item x n T it s t).2.2.1 (rd_item x n T it s t).2.2.2 else (false, (rd_item x n T it s t).2.1, it, (rd_item x n T it s t).2.2.1, (rd_item x n T it s t).2.2.2)
theorem rd_run_end {x : Nat → Nat} {n m it s : Nat} {T : Nat × Int32 × Nat × Nat} {t : Nat → Int32} (h : T.2.1 = -1) : rd_run x n m T it s t = (true, T, it, s, t) := by
  cases m with
  | zero => rfl
  | succ m => rw [rd_run, if_pos h]
theorem sx_R_it {σ0 σ : sg_S} {T : Nat × Int32 × Nat × Nat} {it s it' : Nat} {t : Nat → Int32} (h : sx_R σ0 σ T it s t) : sx_R σ0 (sg_r1 σ 50 (upd (σ.1 50) 2 (nI it'))) T it' s t := by
  obtain ⟨h1, h2, h3, h4, h5, h6, h7⟩ := h
  refine ⟨h1, fun a ha => ?_, ?_, ?_, ?_, fun j hj => ?_, fun j hj => ?_⟩
  · rw [sg_r1_ne (by omega)]; exact h2 a ha
  · rw [sg_r1_ne (by omega)]; exact h3
  · rw [sg_r1_eq]; simp [upd]
  · rw [sg_r1_ne (by omega)]; exact h5
  · rw [sg_r1_ne (by omega)]; exact h6 j hj
  · rw [sg_r1_ne (by omega)]; exact h7 j hj
theorem sx_12_l {σ0 : sg_S} {x : Nat → Nat} {n : Nat} (hx : sx_tx σ0 x n) : ∀ (m : Nat) (σ : sg_S) (T : Nat × Int32 × Nat × Nat) (it s : Nat) (t : Nat → Int32), sx_R σ0 σ T it s t → rd_ok n T → it ≤ T.2.2.1 → n - T.2.2.1 ≤ m → 1 ≤ s → s ≤ 4 →
    ∃ σ' : sg_S, sg_D tx_H 12 19 [.ref 50] [] σ (some (.int (if (rd_run x n m T it s t).1 = true then nI (rd_run x n m T it s t).2.2.1 else -10 - nI (rd_run x n m T it s t).2.1.2.2.1))) σ' ∧ sx_R σ0 σ' (rd_run x n m T it s t).2.1 (rd_run x n m T it s t).2.2.1 (rd_run x n m T it s t).2.2.2.1 (rd_run x n m T it s t).2.2.2.2 ∧ rd_ok n (rd_run x n m T it s t).2.1 ∧ (rd_run x n m T it s t).2.2.1 ≤ n ∧ 1 ≤ (rd_run x n m T it s t).2.2.2.1 ∧ (rd_run x n m T it s t).2.2.2.1 ≤ 4 := by
  have h160 := hx.2.1
  have base : ∀ (m : Nat) (σ : sg_S) (T : Nat × Int32 × Nat × Nat) (it s : Nat) (t : Nat → Int32), sx_R σ0 σ T it s t → rd_ok n T → it ≤ T.2.2.1 → 1 ≤ s → s ≤ 4 → T.2.1 = -1 → ∃ σ' : sg_S, sg_D tx_H 12 19 [.ref 50] [] σ (some (.int (if (rd_run x n m T it s t).1 = true then nI (rd_run x n m T it s t).2.2.1 else -10 - nI (rd_run x n m T it s t).2.1.2.2.1))) σ' ∧ sx_R σ0 σ' (rd_run x n m T it s t).2.1 (rd_run x n m T it s t).2.2.1 (rd_run x n m T it s t).2.2.2.1 (rd_run x n m T it s t).2.2.2.2 ∧ rd_ok n (rd_run x n m T it s t).2.1 ∧ (rd_run x n m T it s t).2.2.1 ≤ n ∧ 1 ≤ (rd_run x n m T it s t).2.2.2.1 ∧ (rd_run x n m T it s t).2.2.2.1 ≤ 4 := by
    intro m σ T it s t h ho hi hs hs4 he
    have hT := ho.2.2.1
    rw [rd_run_end he]
    refine ⟨σ, ?_, h, ho, by dsimp only; omega, hs, hs4⟩
    dsimp only
    rw [if_pos rfl]
    refine sg_aload_n f_12_19 rfl ?_
    refine sg_getf_k f_12_20 fd_x_50_66 h.2.2.2.1 ?_
    refine sg_sipush (nI 160) f_12_23 ks_160 ?_
    first | refine sg_ncmp_ge 78 (by omega) (by omega) f_12_26 rfl (fun c26 => ?_) (fun c26 => ?_) | refine sg_icmp_ge 78 f_12_26 rfl (fun c26 => ?_) (fun c26 => ?_)
    · refine sg_aload_n f_12_78 rfl ?_
      refine sg_getf_k f_12_79 fd_x_50_66 h.2.2.2.1 ?_
      exact (sg_iret f_12_82 rk_12)
    · refine sg_aload_n f_12_29 rfl ?_
      refine sg_getf_r f_12_30 fd_x_50_65 ?_
      refine sg_getf_k f_12_33 fd_x_54_450 (h.2.2.1.2.1.trans he) ?_
      refine sg_iconst (-1) f_12_36 ki_m1 ?_
      refine sg_icmp_eq 78 f_12_37 rfl (fun c37 => ?_) (fun c37 => ?_)
      · refine sg_aload_n f_12_78 rfl ?_
        refine sg_getf_k f_12_79 fd_x_50_66 h.2.2.2.1 ?_
        exact (sg_iret f_12_82 rk_12)
      · exact absurd rfl c37
  intro m
  induction m with
  | zero =>
    intro σ T it s t h ho hi hm hs hs4
    refine base 0 σ T it s t h ho hi hs hs4 ?_
    by_cases he : T.2.1 = -1
    · exact he
    · have := ho.2.2.2 he
      have := ho.1
      omega
  | succ m ih =>
    intro σ T it s t h ho hi hm hs hs4
    by_cases he : T.2.1 = -1
    · exact base (m + 1) σ T it s t h ho hi hs hs4 he
    · have hlt := ho.2.2.2 he
      have hn := ho.1
      obtain ⟨σ1, k1, h1⟩ := sx_13 h hx ho.1 ho.2.1 (show it ≤ 160 by omega) hs hs4
      obtain ⟨o1, o2, o3, o4⟩ := rd_item_ok (x := x) (it := it) (t := t) ho hs hs4
      rw [rd_run, if_neg he]
      revert k1 h1 o1 o2 o3 o4
      generalize rd_item x n T it s t = w
      intro k1 h1 o1 o2 o3 o4
      obtain ⟨b, T', s', t'⟩ := w
      dsimp only at k1 h1 o1 o2 o3 o4 ⊢
      cases b with
      | true =>
        rw [if_pos rfl] at k1
        rw [if_pos rfl]
        obtain ⟨σ2, k2, h2, -⟩ := sx_R_adv (sx_R_it (it' := it + 1) h1) hx o1.1
        have q := rd_adv_ok (x := x) o1.1
        obtain ⟨σ', k3, h3⟩ := ih σ2 (rd_adv x n T') (it + 1) s' t' h2 (rd_ok_adv o1.1 o1.2.1) (by omega) (by omega) o3 o4
        refine ⟨σ', ?_, h3⟩
        refine sg_aload_n f_12_19 rfl ?_
        refine sg_getf_k f_12_20 fd_x_50_66 h.2.2.2.1 ?_
        refine sg_sipush (nI 160) f_12_23 ks_160 ?_
        first | refine sg_ncmp_ge 78 (by omega) (by omega) f_12_26 rfl (fun c26 => ?_) (fun c26 => ?_) | refine sg_icmp_ge 78 f_12_26 rfl (fun c26 => ?_) (fun c26 => ?_)
        · omega
        · refine sg_aload_n f_12_29 rfl ?_
          refine sg_getf_r f_12_30 fd_x_50_65 ?_
          refine sg_getf_k f_12_33 fd_x_54_450 h.2.2.1.2.1 ?_
          refine sg_iconst (-1) f_12_36 ki_m1 ?_
          refine sg_icmp_eq 78 f_12_37 rfl (fun c37 => ?_) (fun c37 => ?_)
          · exact absurd c37 he
          · refine sg_aload_n f_12_40 rfl ?_
            refine sg_callv_i f_12_41 my_12_13 mr_13 rfl (Nat.le_of_ble_eq_true rfl) (Nat.le_of_ble_eq_true rfl) sh_x_50 (by decide) rfl k1 ?_
            refine sg_if_ne 58 f_12_44 rfl (fun c44 => ?_) (fun c44 => ?_)
            · refine sg_aload_n f_12_58 rfl ?_
              refine sg_dup f_12_59 rfl ?_
              refine sg_getf_k f_12_60 fd_x_50_66 h1.2.2.2.1 ?_
              refine sg_iconst (nI 1) f_12_63 ki_1 ?_
              first | refine sg_iadd _ f_12_64 (nI_add _ _) ?_ | refine sg_iadd _ f_12_64 rfl ?_
              refine sg_putf_j 2 f_12_65 (by decide) fd_x_50_66 rfl ?_
              refine sg_aload_n f_12_68 rfl ?_
              refine sg_getf_r f_12_69 fd_x_50_65 ?_
              refine sg_callv_v f_12_72 my_12_42 mr_42 rfl (Nat.le_of_ble_eq_true rfl) (Nat.le_of_ble_eq_true rfl) sh_x_54 (by decide) rfl k2 ?_
              refine sg_goto 19 f_12_75 rfl ?_
              exact k3
            · exact absurd c44 (by decide)
      | false =>
        rw [if_neg (by decide)] at k1
        rw [if_neg (show ¬ (false = true) by decide)]
        refine ⟨σ1, ?_, h1, o1, by dsimp only; omega, o3, o4⟩
        dsimp only
        rw [if_neg (by decide)]
        refine sg_aload_n f_12_19 rfl ?_
        refine sg_getf_k f_12_20 fd_x_50_66 h.2.2.2.1 ?_
        refine sg_sipush (nI 160) f_12_23 ks_160 ?_
        first | refine sg_ncmp_ge 78 (by omega) (by omega) f_12_26 rfl (fun c26 => ?_) (fun c26 => ?_) | refine sg_icmp_ge 78 f_12_26 rfl (fun c26 => ?_) (fun c26 => ?_)
        · omega
        · refine sg_aload_n f_12_29 rfl ?_
          refine sg_getf_r f_12_30 fd_x_50_65 ?_
          refine sg_getf_k f_12_33 fd_x_54_450 h.2.2.1.2.1 ?_
          refine sg_iconst (-1) f_12_36 ki_m1 ?_
          refine sg_icmp_eq 78 f_12_37 rfl (fun c37 => ?_) (fun c37 => ?_)
          · exact absurd c37 he
          · refine sg_aload_n f_12_40 rfl ?_
            refine sg_callv_i f_12_41 my_12_13 mr_13 rfl (Nat.le_of_ble_eq_true rfl) (Nat.le_of_ble_eq_true rfl) sh_x_50 (by decide) rfl k1 ?_
            refine sg_if_ne 58 f_12_44 rfl (fun c44 => ?_) (fun c44 => ?_)
            · exact absurd rfl c44
            · refine sg_bipush (-10) f_12_47 kb_m10 ?_
              refine sg_aload_n f_12_49 rfl ?_
              refine sg_getf_r f_12_50 fd_x_50_65 ?_
              refine sg_getf_k f_12_53 fd_x_54_451 h1.2.2.1.2.2.1 ?_
              refine sg_isub _ f_12_56 rfl ?_
              exact (sg_iret f_12_57 rk_12)
def rd_all (x : Nat → Nat) (n z : Nat) : Bool × (Nat × Int32 × Nat × Nat) × Nat × Nat × (Nat → Int32) := rd_run x n n (rd_tok x n 0 z) 0 1 (fun _ => 0)
theorem sx_12 {σ : sg_S} {x : Nat → Nat} {n p q z : Nat} (hx : sx_tx σ x n) (e1 : σ.1 54 1 = nI p) (e3 : σ.1 54 3 = nI q) (e4 : σ.1 54 4 = nI z) (hz : z ≤ 1000) :
    ∃ σ' : sg_S, sg_D tx_H 12 0 [.ref 50] [] σ (some (.int (if (rd_all x n z).1 = true then nI (rd_all x n z).2.2.1 else -10 - nI (rd_all x n z).2.1.2.2.1))) σ' ∧ sx_R σ σ' (rd_all x n z).2.1 (rd_all x n z).2.2.1 (rd_all x n z).2.2.2.1 (rd_all x n z).2.2.2.2 ∧ rd_ok n (rd_all x n z).2.1 ∧ (rd_all x n z).2.2.1 ≤ n ∧ 1 ≤ (rd_all x n z).2.2.2.1 ∧ (rd_all x n z).2.2.2.1 ≤ 4 := by
  obtain ⟨f, g, hf, hg, k31⟩ := sx_31 (σ := σ)
  generalize hb : sg_r1 (sg_r1 (sg_r1 (sg_r1 σ 51 (upd (σ.1 51) 0 (nI 1))) 52 f) 53 g) 50 (upd (σ.1 50) 2 (nI 0)) = σb
  have a1 : ∀ k, k < 50 ∨ 53 < k → σb.1 k = σ.1 k := by
    intro k hk
    rw [← hb, sg_r1_ne (by omega), sg_r1_ne (by omega), sg_r1_ne (by omega), sg_r1_ne (by omega)]
  have hxb : sx_tx σb x n := ⟨by rw [a1 46 (by omega)]; exact hx.1, hx.2.1, fun i hi => by rw [a1 47 (by omega)]; exact hx.2.2 i hi⟩
  have k41 := sx_41 (p := p) (q := q) (z := z) (k := σb.1 54 2) hxb
  rw [sx_tS_self (by rw [a1 54 (by omega)]; exact e1) rfl (by rw [a1 54 (by omega)]; exact e3) (by rw [a1 54 (by omega)]; exact e4)] at k41
  have hR : sx_R σ (sx_tS σb (rd_tok x n 0 z).1 (rd_tok x n 0 z).2.1 (rd_tok x n 0 z).2.2.1 (rd_tok x n 0 z).2.2.2) (rd_tok x n 0 z) 0 1 (fun _ => 0) := by
    refine ⟨by rw [← hb]; rfl, fun a ha => ?_, sx_tS_a, ?_, ?_, fun j hj => ?_, fun j hj => ?_⟩
    · rw [sx_tS_ne (by omega)]; exact a1 a (by omega)
    · rw [sx_tS_ne (by omega), ← hb, sg_r1_eq]; simp [upd]
    · rw [sx_tS_ne (by omega), ← hb, sg_r1_ne (by omega), sg_r1_ne (by omega), sg_r1_ne (by omega), sg_r1_eq]; simp [upd]
    · rw [sx_tS_ne (by omega), ← hb, sg_r1_ne (by omega), sg_r1_ne (by omega), sg_r1_eq]; exact hf j hj
    · rw [sx_tS_ne (by omega), ← hb, sg_r1_ne (by omega), sg_r1_eq]; exact hg j hj
  have ho : rd_ok n (rd_tok x n 0 z) := rd_ok_adv (T := (0, 0, 0, z)) (Nat.zero_le _) hz
  obtain ⟨σ', k, h'⟩ := sx_12_l hx n _ (rd_tok x n 0 z) 0 1 (fun _ => 0) hR ho (Nat.zero_le _) (by omega) (by omega) (by omega)
  refine ⟨σ', ?_, h'⟩
  have e50 : (sg_r1 (sg_r1 (sg_r1 σ 51 (upd (σ.1 51) 0 (nI 1))) 52 f) 53 g).1 50 = σ.1 50 := by rw [sg_r1_ne (by omega), sg_r1_ne (by omega), sg_r1_ne (by omega)]
  refine sg_aload_n f_12_0 rfl ?_
  refine sg_getf_r f_12_1 fd_x_50_64 ?_
  refine sg_callv_v f_12_4 my_12_31 mr_31 rfl (Nat.le_of_ble_eq_true rfl) (Nat.le_of_ble_eq_true rfl) sh_x_51 (by decide) rfl k31 ?_
  refine sg_aload_n f_12_7 rfl ?_
  refine sg_iconst (nI 0) f_12_8 ki_0 ?_
  refine sg_putf_j 2 f_12_9 (by decide) fd_x_50_66 rfl ?_
  rw [e50, hb]
  refine sg_aload_n f_12_12 rfl ?_
  refine sg_getf_r f_12_13 fd_x_50_65 ?_
  refine sg_callv_v f_12_16 my_12_41 mr_41 rfl (Nat.le_of_ble_eq_true rfl) (Nat.le_of_ble_eq_true rfl) sh_x_54 (by decide) rfl k41 ?_
  exact k
theorem sg_m10 {k : Nat} (h : k < 2 ^ 30) : (-10 - nI k : Int32) < 0 := by
  have e : (-10 - nI k : Int32) = Int32.ofInt (-10 - (k : Int)) := by
    rw [← Int32.toInt_inj, Int32.toInt_sub, nI_toInt (by omega), Int32.toInt_ofInt]
    rfl
  rw [e, Int32.lt_iff_toInt_lt, Int32.toInt_ofInt_of_le (by omega) (by omega)]
  show (-10 - (k : Int)) < 0
  omega
/-- method, told well -/
theorem sx_69_1 {σ : sg_S} {x : Nat → Nat} {n p q z P Z : Nat} (hx : sx_tx σ x n) (e1 : σ.1 54 1 = nI p) (e3 : σ.1 54 3 = nI q) (e4 : σ.1 54 4 = nI z) (hz : z ≤ 1000) (hP : sx_P σ P Z) (hok : (rd_all x n z).1 = true) :
    ∃ σ1 : sg_S, sg_D tx_H 69 0 [.ref 0, ab_u] [] σ (some (.int (nI (rd_all x n z).2.2.1))) (sg_r1 (sx_cpM (sx_rem σ1 P Z) 56 51) 46 (upd (σ.1 46) 1 (nI 0))) ∧ sx_R σ σ1 (rd_all x n z).2.1 (rd_all x n z).2.2.1 (rd_all x n z).2.2.2.1 (rd_all x n z).2.2.2.2 ∧ rd_ok n (rd_all x n z).2.1 ∧ 1 ≤ (rd_all x n z).2.2.2.1 ∧ (rd_all x n z).2.2.2.1 ≤ 4 := by
  obtain ⟨σ1, k, hR, ho, hn, hs, hs4⟩ := sx_12 hx e1 e3 e4 hz
  rw [if_pos hok] at k
  have h160 := hx.2.1
  refine ⟨σ1, ?_, hR, ho, hs, hs4⟩
  have hP1 : sx_P σ1 P Z := ⟨by rw [hR.2.1 66 (by omega)]; exact hP.1, hP.2.1, by rw [hR.2.1 66 (by omega)]; exact hP.2.2.1, hP.2.2.2⟩
  have e46 : (sx_cpM (sx_rem σ1 P Z) 56 51).1 46 = σ.1 46 := by
    unfold sx_cpM
    rw [sg_r1_ne (by omega), sg_r1_ne (by omega), sg_r1_ne (by omega), sx_rem_1 (by omega) (by omega)]
    exact hR.2.1 46 (by omega)
  have k38 := sx_38 (σ := sx_cpM (sx_rem σ1 P Z) 56 51)
  rw [e46] at k38
  refine sg_aload_n f_69_0 rfl ?_
  refine sg_getf_r f_69_1 fd_x_0_709 ?_
  refine sg_callv_i f_69_4 my_69_12 mr_12 rfl (Nat.le_of_ble_eq_true rfl) (Nat.le_of_ble_eq_true rfl) sh_x_50 (by decide) rfl k ?_
  refine sg_istore_n [_, _] f_69_7 rfl ?_
  refine sg_iload_n f_69_8 rfl ?_
  refine sg_if_lt 48 f_69_9 rfl (fun c9 => ?_) (fun c9 => ?_)
  · exact absurd c9 (sg_nneg (by omega))
  · refine sg_aload_n f_69_12 rfl ?_
    refine sg_getf_r f_69_13 fd_x_0_711 ?_
    refine sg_aload_n f_69_16 rfl ?_
    refine sg_getf_r f_69_17 fd_x_0_710 ?_
    refine sg_callv_v f_69_20 my_69_21 mr_21 rfl (Nat.le_of_ble_eq_true rfl) (Nat.le_of_ble_eq_true rfl) sh_x_66 (by decide) rfl (sx_21 hP1.1 hP1.2.1 hP1.2.2.1 hP1.2.2.2) ?_
    refine sg_aload_n f_69_23 rfl ?_
    refine sg_getf_r f_69_24 fd_x_0_710 ?_
    refine sg_getf_r f_69_27 fd_x_55_256 ?_
    refine sg_aload_n f_69_30 rfl ?_
    refine sg_getf_r f_69_31 fd_x_0_709 ?_
    refine sg_getf_r f_69_34 fd_x_50_64 ?_
    refine sg_callv_v f_69_37 my_69_32 mr_32 rfl (Nat.le_of_ble_eq_true rfl) (Nat.le_of_ble_eq_true rfl) sh_x_56 (by decide) rfl (sx_32 sx_SM_56 sx_SM_51 (by omega)) ?_
    refine sg_aload_n f_69_40 rfl ?_
    refine sg_getf_r f_69_41 fd_x_0_707 ?_
    refine sg_callv_i f_69_44 my_69_38 mr_38 rfl (Nat.le_of_ble_eq_true rfl) (Nat.le_of_ble_eq_true rfl) sh_x_46 (by decide) rfl k38 ?_
    refine sg_pop f_69_47 ?_
    refine sg_iload_n f_69_48 rfl ?_
    exact (sg_iret f_69_49 rk_69)
theorem sx_69_0 {σ : sg_S} {x : Nat → Nat} {n p q z : Nat} (hx : sx_tx σ x n) (e1 : σ.1 54 1 = nI p) (e3 : σ.1 54 3 = nI q) (e4 : σ.1 54 4 = nI z) (hz : z ≤ 1000) (hok : (rd_all x n z).1 = false) :
    ∃ σ1 : sg_S, sg_D tx_H 69 0 [.ref 0, ab_u] [] σ (some (.int (-10 - nI (rd_all x n z).2.1.2.2.1))) σ1 ∧ sx_R σ σ1 (rd_all x n z).2.1 (rd_all x n z).2.2.1 (rd_all x n z).2.2.2.1 (rd_all x n z).2.2.2.2 ∧ rd_ok n (rd_all x n z).2.1 := by
  obtain ⟨σ1, k, hR, ho, hn, hs, hs4⟩ := sx_12 hx e1 e3 e4 hz
  rw [if_neg (by rw [hok]; decide)] at k
  have h160 := hx.2.1
  have hpl := ho.2.2.1
  refine ⟨σ1, ?_, hR, ho⟩
  refine sg_aload_n f_69_0 rfl ?_
  refine sg_getf_r f_69_1 fd_x_0_709 ?_
  refine sg_callv_i f_69_4 my_69_12 mr_12 rfl (Nat.le_of_ble_eq_true rfl) (Nat.le_of_ble_eq_true rfl) sh_x_50 (by decide) rfl k ?_
  refine sg_istore_n [_, _] f_69_7 rfl ?_
  refine sg_iload_n f_69_8 rfl ?_
  refine sg_if_lt 48 f_69_9 rfl (fun c9 => ?_) (fun c9 => ?_)
  · refine sg_iload_n f_69_48 rfl ?_
    exact (sg_iret f_69_49 rk_69)
  · exact absurd (sg_m10 (by omega)) c9
