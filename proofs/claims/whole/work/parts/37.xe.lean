/-! an item of a method, as a function; takesItem -/
def rd_s (x : Nat → Nat) (n : Nat) (T : Nat × Int32 × Nat × Nat) (it s : Nat) (t : Nat → Int32) : Bool × (Nat × Int32 × Nat × Nat) × Nat × (Nat → Int32) :=
  if it = 0 then
    if rd_isb (rd_adv x n T).2.1 (rd_adv x n T).2.2.2 1 4 = true then (decide ((rd_adv x n (rd_adv x n T)).2.1 = nI 59), rd_adv x n (rd_adv x n T), (rd_adv x n T).2.2.2, t)
    else (false, rd_adv x n T, s, t)
  else (false, T, s, t)
/-- behind the places: the number and the end -/
def rd_n (x : Nat → Nat) (n : Nat) (T : Nat × Int32 × Nat × Nat) (k s : Nat) (t : Nat → Int32) : Bool × (Nat × Int32 × Nat × Nat) × Nat × (Nat → Int32) :=
  if rd_isb (rd_v1 x n T).2.1 (rd_v1 x n T).2.2.2 0 600 = true then (decide ((rd_adv x n (rd_v1 x n T)).2.1 = nI 59), rd_adv x n (rd_v1 x n T), s, upd t k (rd_vv x n T))
  else (false, rd_v1 x n T, s, t)
def rd_a (x : Nat → Nat) (n : Nat) (T : Nat × Int32 × Nat × Nat) (s : Nat) (t : Nat → Int32) : Bool × (Nat × Int32 × Nat × Nat) × Nat × (Nat → Int32) :=
  if rd_isb (rd_adv x n T).2.1 (rd_adv x n T).2.2.2 0 (s - 1) = true then
    if rd_isb (rd_adv x n (rd_adv x n T)).2.1 (rd_adv x n (rd_adv x n T)).2.2.2 0 (s - 1) = true then rd_n x n (rd_adv x n (rd_adv x n T)) (1 + 4 * (rd_adv x n T).2.2.2 + (rd_adv x n (rd_adv x n T)).2.2.2) s t
    else (false, rd_adv x n (rd_adv x n T), s, t)
  else (false, rd_adv x n T, s, t)
def rd_b (x : Nat → Nat) (n : Nat) (T : Nat × Int32 × Nat × Nat) (s : Nat) (t : Nat → Int32) : Bool × (Nat × Int32 × Nat × Nat) × Nat × (Nat → Int32) :=
  if rd_isb (rd_adv x n T).2.1 (rd_adv x n T).2.2.2 0 (s - 1) = true then rd_n x n (rd_adv x n T) (17 + (rd_adv x n T).2.2.2) s t
  else (false, rd_adv x n T, s, t)
def rd_item (x : Nat → Nat) (n : Nat) (T : Nat × Int32 × Nat × Nat) (it s : Nat) (t : Nat → Int32) : Bool × (Nat × Int32 × Nat × Nat) × Nat × (Nat → Int32) :=
  if T.2.1 = nI 115 then rd_s x n T it s t else if T.2.1 = nI 97 then rd_a x n T s t else if T.2.1 = nI 98 then rd_b x n T s t else (false, T, s, t)
theorem sx_13_s {σ0 σ : sg_S} {T : Nat × Int32 × Nat × Nat} {it s n : Nat} {x : Nat → Nat} {t : Nat → Int32} (h : sx_R σ0 σ T it s t) (hx : sx_tx σ0 x n) (hp : T.1 ≤ n) (hz : T.2.2.2 ≤ 1000) (hit : it ≤ 160) : ∃ σ' : sg_S, sg_D tx_H 13 40 [.ref 50] [] σ (some (.int (if (rd_s x n T it s t).1 = true then nI 1 else nI 0))) σ' ∧ sx_R σ0 σ' (rd_s x n T it s t).2.1 it (rd_s x n T it s t).2.2.1 (rd_s x n T it s t).2.2.2 := by
  have hl := rd_adv_le (x := x) hp hz
  unfold rd_s
  by_cases h0 : it = 0
  · rw [if_pos h0]
    by_cases hb : rd_isb (rd_adv x n T).2.1 (rd_adv x n T).2.2.2 1 4 = true
    · rw [if_pos hb]
      obtain ⟨σ1, k1, h1⟩ := sx_14_1 h hx hp hz hb
      obtain ⟨σ2, k2, h2⟩ := sx_18R h1 hx hl.1
      refine ⟨σ2, ?_, h2⟩
      dsimp only
      by_cases he : (rd_adv x n (rd_adv x n T)).2.1 = nI 59
      · rw [if_pos (decide_eq_true he)]
        rw [if_pos he] at k2
        refine sg_aload_n f_13_40 rfl ?_
        refine sg_getf_k f_13_41 fd_x_50_66 (h.2.2.2.1.trans (by rw [h0])) ?_
        refine sg_if_ne 65 f_13_44 rfl (fun c44 => ?_) (fun c44 => ?_)
        · exact absurd nI_0 c44
        · refine sg_aload_n f_13_47 rfl ?_
          refine sg_callv_i f_13_48 my_13_14 mr_14 rfl (Nat.le_of_ble_eq_true rfl) (Nat.le_of_ble_eq_true rfl) sh_x_50 (by decide) rfl k1 ?_
          refine sg_if_eq 65 f_13_51 rfl (fun c51 => ?_) (fun c51 => ?_)
          · exact absurd c51 (by decide)
          · refine sg_aload_n f_13_54 rfl ?_
            refine sg_callv_i f_13_55 my_13_18 mr_18 rfl (Nat.le_of_ble_eq_true rfl) (Nat.le_of_ble_eq_true rfl) sh_x_50 (by decide) rfl k2 ?_
            refine sg_if_eq 65 f_13_58 rfl (fun c58 => ?_) (fun c58 => ?_)
            · exact absurd c58 (by decide)
            · refine sg_iconst (nI 1) f_13_61 ki_1 ?_
              refine sg_goto 66 f_13_62 rfl ?_
              exact (sg_zret f_13_66 rk_13 (by first | exact Or.inl rfl | exact Or.inr rfl | assumption))
      · rw [if_neg (fun e => he (of_decide_eq_true e))]
        rw [if_neg he] at k2
        refine sg_aload_n f_13_40 rfl ?_
        refine sg_getf_k f_13_41 fd_x_50_66 (h.2.2.2.1.trans (by rw [h0])) ?_
        refine sg_if_ne 65 f_13_44 rfl (fun c44 => ?_) (fun c44 => ?_)
        · exact absurd nI_0 c44
        · refine sg_aload_n f_13_47 rfl ?_
          refine sg_callv_i f_13_48 my_13_14 mr_14 rfl (Nat.le_of_ble_eq_true rfl) (Nat.le_of_ble_eq_true rfl) sh_x_50 (by decide) rfl k1 ?_
          refine sg_if_eq 65 f_13_51 rfl (fun c51 => ?_) (fun c51 => ?_)
          · exact absurd c51 (by decide)
          · refine sg_aload_n f_13_54 rfl ?_
            refine sg_callv_i f_13_55 my_13_18 mr_18 rfl (Nat.le_of_ble_eq_true rfl) (Nat.le_of_ble_eq_true rfl) sh_x_50 (by decide) rfl k2 ?_
            refine sg_if_eq 65 f_13_58 rfl (fun c58 => ?_) (fun c58 => ?_)
            · refine sg_iconst (nI 0) f_13_65 ki_0 ?_
              exact (sg_zret f_13_66 rk_13 (by first | exact Or.inl rfl | exact Or.inr rfl | assumption))
            · exact absurd rfl c58
    · rw [if_neg hb]
      obtain ⟨σ1, k1, h1⟩ := sx_14_0 h hx hp hz hb
      refine ⟨σ1, ?_, h1⟩
      dsimp only
      rw [if_neg (by decide)]
      refine sg_aload_n f_13_40 rfl ?_
      refine sg_getf_k f_13_41 fd_x_50_66 (h.2.2.2.1.trans (by rw [h0])) ?_
      refine sg_if_ne 65 f_13_44 rfl (fun c44 => ?_) (fun c44 => ?_)
      · exact absurd nI_0 c44
      · refine sg_aload_n f_13_47 rfl ?_
        refine sg_callv_i f_13_48 my_13_14 mr_14 rfl (Nat.le_of_ble_eq_true rfl) (Nat.le_of_ble_eq_true rfl) sh_x_50 (by decide) rfl k1 ?_
        refine sg_if_eq 65 f_13_51 rfl (fun c51 => ?_) (fun c51 => ?_)
        · refine sg_iconst (nI 0) f_13_65 ki_0 ?_
          exact (sg_zret f_13_66 rk_13 (by first | exact Or.inl rfl | exact Or.inr rfl | assumption))
        · exact absurd rfl c51
  · rw [if_neg h0]
    refine ⟨σ, ?_, h⟩
    dsimp only
    rw [if_neg (by decide)]
    refine sg_aload_n f_13_40 rfl ?_
    refine sg_getf_k f_13_41 fd_x_50_66 h.2.2.2.1 ?_
    refine sg_if_ne 65 f_13_44 rfl (fun c44 => ?_) (fun c44 => ?_)
    · refine sg_iconst (nI 0) f_13_65 ki_0 ?_
      exact (sg_zret f_13_66 rk_13 (by first | exact Or.inl rfl | exact Or.inr rfl | assumption))
    · exact absurd c44 (nI_ne0 (by omega) (by omega))
theorem sx_17_n {σ0 σ : sg_S} {T : Nat × Int32 × Nat × Nat} {it s n k : Nat} {x : Nat → Nat} {t : Nat → Int32} (h : sx_R σ0 σ T it s t) (hx : sx_tx σ0 x n) (hp : T.1 ≤ n) (hz : T.2.2.2 ≤ 1000) (hs4 : s ≤ 4) (hk : (∃ i j, i < s ∧ j < s ∧ σ.1 50 3 = nI i ∧ σ.1 50 4 = nI j ∧ k = 1 + 4 * i + j) ∨ ∃ i, i < s ∧ σ.1 50 3 = nI i ∧ σ.1 50 4 = -1 ∧ k = 17 + i) :
    (∃ σ1 σ2 : sg_S, rd_isb (rd_v1 x n T).2.1 (rd_v1 x n T).2.2.2 0 600 = true ∧ sg_D tx_H 17 0 [.ref 50, ab_u] [] σ (some (.int (nI 1))) σ1 ∧ sg_D tx_H 18 0 [.ref 50] [] σ1 (some (.int (if (rd_n x n T k s t).1 = true then nI 1 else nI 0))) σ2 ∧ sx_R σ0 σ2 (rd_n x n T k s t).2.1 it (rd_n x n T k s t).2.2.1 (rd_n x n T k s t).2.2.2) ∨
    ∃ σ1 : sg_S, (rd_n x n T k s t).1 = false ∧ sg_D tx_H 17 0 [.ref 50, ab_u] [] σ (some (.int (nI 0))) σ1 ∧ sx_R σ0 σ1 (rd_n x n T k s t).2.1 it (rd_n x n T k s t).2.2.1 (rd_n x n T k s t).2.2.2 := by
  have hl := rd_v1_le (x := x) hp hz
  unfold rd_n
  by_cases hb : rd_isb (rd_v1 x n T).2.1 (rd_v1 x n T).2.2.2 0 600 = true
  · rw [if_pos hb]
    refine Or.inl ?_
    have hk1 : ∃ σ1 : sg_S, sg_D tx_H 17 0 [.ref 50, ab_u] [] σ (some (.int (nI 1))) σ1 ∧ sx_R σ0 σ1 (rd_v1 x n T) it s (upd t k (rd_vv x n T)) := by
      rcases hk with ⟨i, j, hi, hj, er, ec, rfl⟩ | ⟨i, hi, er, ec, rfl⟩
      · exact sx_17_a h hx hp hz hs4 hi hj er ec hb
      · exact sx_17_b h hx hp hz hs4 hi er ec hb
    obtain ⟨σ1, k1, h1⟩ := hk1
    obtain ⟨σ2, k2, h2⟩ := sx_18R h1 hx hl.1
    refine ⟨σ1, σ2, hb, k1, sg_to k2 ?_ rfl, h2⟩
    dsimp only
    by_cases he : (rd_adv x n (rd_v1 x n T)).2.1 = nI 59
    · rw [if_pos he, if_pos (decide_eq_true he)]
    · rw [if_neg he, if_neg (fun e => he (of_decide_eq_true e))]
  · rw [if_neg hb]
    refine Or.inr ?_
    obtain ⟨σ1, k1, h1⟩ := sx_17_0 h hx hp hz hb
    exact ⟨σ1, rfl, k1, h1⟩
theorem sx_13_a {σ0 σ : sg_S} {T : Nat × Int32 × Nat × Nat} {it s n : Nat} {x : Nat → Nat} {t : Nat → Int32} (h : sx_R σ0 σ T it s t) (hx : sx_tx σ0 x n) (hp : T.1 ≤ n) (hz : T.2.2.2 ≤ 1000) (hs : 1 ≤ s) (hs4 : s ≤ 4) : ∃ σ' : sg_S, sg_D tx_H 13 67 [.ref 50] [] σ (some (.int (if (rd_a x n T s t).1 = true then nI 1 else nI 0))) σ' ∧ sx_R σ0 σ' (rd_a x n T s t).2.1 it (rd_a x n T s t).2.2.1 (rd_a x n T s t).2.2.2 := by
  have hl := rd_adv_le (x := x) hp hz
  have hl2 := rd_adv_le (x := x) hl.1 hl.2.1
  obtain ⟨σ1, k1, h1, e1, -⟩ := sx_15 h hx hp hz hs hs4
  obtain ⟨σ2, k2, h2, e2, e3⟩ := sx_16 h1 hx hl.1 hl.2.1 hs hs4
  unfold rd_a
  by_cases hb : rd_isb (rd_adv x n T).2.1 (rd_adv x n T).2.2.2 0 (s - 1) = true
  · rw [if_pos hb]
    rw [if_pos hb] at k1
    by_cases hb2 : rd_isb (rd_adv x n (rd_adv x n T)).2.1 (rd_adv x n (rd_adv x n T)).2.2.2 0 (s - 1) = true
    · rw [if_pos hb2]
      rw [if_pos hb2] at k2
      have q1 := (rd_isb_iff.mp hb).2.2
      have q2 := (rd_isb_iff.mp hb2).2.2
      rcases sx_17_n (k := 1 + 4 * (rd_adv x n T).2.2.2 + (rd_adv x n (rd_adv x n T)).2.2.2) h2 hx hl2.1 hl2.2.1 hs4 (Or.inl ⟨_, _, by omega, by omega, e3.trans e1, e2, rfl⟩) with ⟨σ3, σ4, -, k3, k4, h4⟩ | ⟨σ3, e, k3, h3⟩
      · refine ⟨σ4, ?_, h4⟩
        revert k4
        generalize rd_n x n (rd_adv x n (rd_adv x n T)) (1 + 4 * (rd_adv x n T).2.2.2 + (rd_adv x n (rd_adv x n T)).2.2.2) s t = w
        intro k4
        by_cases he : w.1 = true
        · rw [if_pos he] at k4 ⊢
          refine sg_aload_n f_13_67 rfl ?_
          refine sg_callv_i f_13_68 my_13_15 mr_15 rfl (Nat.le_of_ble_eq_true rfl) (Nat.le_of_ble_eq_true rfl) sh_x_50 (by decide) rfl k1 ?_
          refine sg_if_eq 99 f_13_71 rfl (fun c71 => ?_) (fun c71 => ?_)
          · exact absurd c71 (by decide)
          · refine sg_aload_n f_13_74 rfl ?_
            refine sg_callv_i f_13_75 my_13_16 mr_16 rfl (Nat.le_of_ble_eq_true rfl) (Nat.le_of_ble_eq_true rfl) sh_x_50 (by decide) rfl k2 ?_
            refine sg_if_eq 99 f_13_78 rfl (fun c78 => ?_) (fun c78 => ?_)
            · exact absurd c78 (by decide)
            · refine sg_aload_n f_13_81 rfl ?_
              refine sg_callv_i f_13_82 my_13_17 mr_17 rfl (Nat.le_of_ble_eq_true rfl) (Nat.le_of_ble_eq_true rfl) sh_x_50 (by decide) rfl k3 ?_
              refine sg_if_eq 99 f_13_85 rfl (fun c85 => ?_) (fun c85 => ?_)
              · exact absurd c85 (by decide)
              · refine sg_aload_n f_13_88 rfl ?_
                refine sg_callv_i f_13_89 my_13_18 mr_18 rfl (Nat.le_of_ble_eq_true rfl) (Nat.le_of_ble_eq_true rfl) sh_x_50 (by decide) rfl k4 ?_
                refine sg_if_eq 99 f_13_92 rfl (fun c92 => ?_) (fun c92 => ?_)
                · exact absurd c92 (by decide)
                · refine sg_iconst (nI 1) f_13_95 ki_1 ?_
                  refine sg_goto 100 f_13_96 rfl ?_
                  exact (sg_zret f_13_100 rk_13 (by first | exact Or.inl rfl | exact Or.inr rfl | assumption))
        · rw [if_neg he] at k4 ⊢
          refine sg_aload_n f_13_67 rfl ?_
          refine sg_callv_i f_13_68 my_13_15 mr_15 rfl (Nat.le_of_ble_eq_true rfl) (Nat.le_of_ble_eq_true rfl) sh_x_50 (by decide) rfl k1 ?_
          refine sg_if_eq 99 f_13_71 rfl (fun c71 => ?_) (fun c71 => ?_)
          · exact absurd c71 (by decide)
          · refine sg_aload_n f_13_74 rfl ?_
            refine sg_callv_i f_13_75 my_13_16 mr_16 rfl (Nat.le_of_ble_eq_true rfl) (Nat.le_of_ble_eq_true rfl) sh_x_50 (by decide) rfl k2 ?_
            refine sg_if_eq 99 f_13_78 rfl (fun c78 => ?_) (fun c78 => ?_)
            · exact absurd c78 (by decide)
            · refine sg_aload_n f_13_81 rfl ?_
              refine sg_callv_i f_13_82 my_13_17 mr_17 rfl (Nat.le_of_ble_eq_true rfl) (Nat.le_of_ble_eq_true rfl) sh_x_50 (by decide) rfl k3 ?_
              refine sg_if_eq 99 f_13_85 rfl (fun c85 => ?_) (fun c85 => ?_)
              · exact absurd c85 (by decide)
              · refine sg_aload_n f_13_88 rfl ?_
                refine sg_callv_i f_13_89 my_13_18 mr_18 rfl (Nat.le_of_ble_eq_true rfl) (Nat.le_of_ble_eq_true rfl) sh_x_50 (by decide) rfl k4 ?_
                refine sg_if_eq 99 f_13_92 rfl (fun c92 => ?_) (fun c92 => ?_)
                · refine sg_iconst (nI 0) f_13_99 ki_0 ?_
                  exact (sg_zret f_13_100 rk_13 (by first | exact Or.inl rfl | exact Or.inr rfl | assumption))
                · exact absurd rfl c92
      · refine ⟨σ3, ?_, h3⟩
        rw [if_neg (by rw [e]; decide)]
        refine sg_aload_n f_13_67 rfl ?_
        refine sg_callv_i f_13_68 my_13_15 mr_15 rfl (Nat.le_of_ble_eq_true rfl) (Nat.le_of_ble_eq_true rfl) sh_x_50 (by decide) rfl k1 ?_
        refine sg_if_eq 99 f_13_71 rfl (fun c71 => ?_) (fun c71 => ?_)
        · exact absurd c71 (by decide)
        · refine sg_aload_n f_13_74 rfl ?_
          refine sg_callv_i f_13_75 my_13_16 mr_16 rfl (Nat.le_of_ble_eq_true rfl) (Nat.le_of_ble_eq_true rfl) sh_x_50 (by decide) rfl k2 ?_
          refine sg_if_eq 99 f_13_78 rfl (fun c78 => ?_) (fun c78 => ?_)
          · exact absurd c78 (by decide)
          · refine sg_aload_n f_13_81 rfl ?_
            refine sg_callv_i f_13_82 my_13_17 mr_17 rfl (Nat.le_of_ble_eq_true rfl) (Nat.le_of_ble_eq_true rfl) sh_x_50 (by decide) rfl k3 ?_
            refine sg_if_eq 99 f_13_85 rfl (fun c85 => ?_) (fun c85 => ?_)
            · refine sg_iconst (nI 0) f_13_99 ki_0 ?_
              exact (sg_zret f_13_100 rk_13 (by first | exact Or.inl rfl | exact Or.inr rfl | assumption))
            · exact absurd rfl c85
    · rw [if_neg hb2]
      rw [if_neg hb2] at k2
      refine ⟨σ2, ?_, h2⟩
      dsimp only
      rw [if_neg (by decide)]
      refine sg_aload_n f_13_67 rfl ?_
      refine sg_callv_i f_13_68 my_13_15 mr_15 rfl (Nat.le_of_ble_eq_true rfl) (Nat.le_of_ble_eq_true rfl) sh_x_50 (by decide) rfl k1 ?_
      refine sg_if_eq 99 f_13_71 rfl (fun c71 => ?_) (fun c71 => ?_)
      · exact absurd c71 (by decide)
      · refine sg_aload_n f_13_74 rfl ?_
        refine sg_callv_i f_13_75 my_13_16 mr_16 rfl (Nat.le_of_ble_eq_true rfl) (Nat.le_of_ble_eq_true rfl) sh_x_50 (by decide) rfl k2 ?_
        refine sg_if_eq 99 f_13_78 rfl (fun c78 => ?_) (fun c78 => ?_)
        · refine sg_iconst (nI 0) f_13_99 ki_0 ?_
          exact (sg_zret f_13_100 rk_13 (by first | exact Or.inl rfl | exact Or.inr rfl | assumption))
        · exact absurd rfl c78
  · rw [if_neg hb]
    rw [if_neg hb] at k1
    refine ⟨σ1, ?_, h1⟩
    dsimp only
    rw [if_neg (by decide)]
    refine sg_aload_n f_13_67 rfl ?_
    refine sg_callv_i f_13_68 my_13_15 mr_15 rfl (Nat.le_of_ble_eq_true rfl) (Nat.le_of_ble_eq_true rfl) sh_x_50 (by decide) rfl k1 ?_
    refine sg_if_eq 99 f_13_71 rfl (fun c71 => ?_) (fun c71 => ?_)
    · refine sg_iconst (nI 0) f_13_99 ki_0 ?_
      exact (sg_zret f_13_100 rk_13 (by first | exact Or.inl rfl | exact Or.inr rfl | assumption))
    · exact absurd rfl c71
theorem sx_13_b {σ0 σ : sg_S} {T : Nat × Int32 × Nat × Nat} {it s n : Nat} {x : Nat → Nat} {t : Nat → Int32} (h : sx_R σ0 σ T it s t) (hx : sx_tx σ0 x n) (hp : T.1 ≤ n) (hz : T.2.2.2 ≤ 1000) (hs : 1 ≤ s) (hs4 : s ≤ 4) : ∃ σ' : sg_S, sg_D tx_H 13 101 [.ref 50] [] σ (some (.int (if (rd_b x n T s t).1 = true then nI 1 else nI 0))) σ' ∧ sx_R σ0 σ' (rd_b x n T s t).2.1 it (rd_b x n T s t).2.2.1 (rd_b x n T s t).2.2.2 := by
  have hl := rd_adv_le (x := x) hp hz
  have h0 : sx_R σ0 (sg_r1 σ 50 (upd (σ.1 50) 4 (-1))) T it s t := sx_R_50 h (by omega)
  obtain ⟨σ1, k1, h1, e1, e2⟩ := sx_15 h0 hx hp hz hs hs4
  have e4 : σ1.1 50 4 = -1 := by rw [e2, sg_r1_eq]; simp [upd]
  unfold rd_b
  by_cases hb : rd_isb (rd_adv x n T).2.1 (rd_adv x n T).2.2.2 0 (s - 1) = true
  · rw [if_pos hb]
    rw [if_pos hb] at k1
    have q1 := (rd_isb_iff.mp hb).2.2
    rcases sx_17_n (k := 17 + (rd_adv x n T).2.2.2) h1 hx hl.1 hl.2.1 hs4 (Or.inr ⟨_, by omega, e1, e4, rfl⟩) with ⟨σ3, σ4, -, k3, k4, h4⟩ | ⟨σ3, e, k3, h3⟩
    · refine ⟨σ4, ?_, h4⟩
      revert k4
      generalize rd_n x n (rd_adv x n T) (17 + (rd_adv x n T).2.2.2) s t = w
      intro k4
      by_cases he : w.1 = true
      · rw [if_pos he] at k4 ⊢
        refine sg_aload_n f_13_101 rfl ?_
        refine sg_iconst (-1) f_13_102 ki_m1 ?_
        refine sg_putf_j 4 f_13_103 (by decide) fd_x_50_68 rfl ?_
        refine sg_aload_n f_13_106 rfl ?_
        refine sg_callv_i f_13_107 my_13_15 mr_15 rfl (Nat.le_of_ble_eq_true rfl) (Nat.le_of_ble_eq_true rfl) sh_x_50 (by decide) rfl k1 ?_
        refine sg_if_eq 131 f_13_110 rfl (fun c110 => ?_) (fun c110 => ?_)
        · exact absurd c110 (by decide)
        · refine sg_aload_n f_13_113 rfl ?_
          refine sg_callv_i f_13_114 my_13_17 mr_17 rfl (Nat.le_of_ble_eq_true rfl) (Nat.le_of_ble_eq_true rfl) sh_x_50 (by decide) rfl k3 ?_
          refine sg_if_eq 131 f_13_117 rfl (fun c117 => ?_) (fun c117 => ?_)
          · exact absurd c117 (by decide)
          · refine sg_aload_n f_13_120 rfl ?_
            refine sg_callv_i f_13_121 my_13_18 mr_18 rfl (Nat.le_of_ble_eq_true rfl) (Nat.le_of_ble_eq_true rfl) sh_x_50 (by decide) rfl k4 ?_
            refine sg_if_eq 131 f_13_124 rfl (fun c124 => ?_) (fun c124 => ?_)
            · exact absurd c124 (by decide)
            · refine sg_iconst (nI 1) f_13_127 ki_1 ?_
              refine sg_goto 132 f_13_128 rfl ?_
              exact (sg_zret f_13_132 rk_13 (by first | exact Or.inl rfl | exact Or.inr rfl | assumption))
      · rw [if_neg he] at k4 ⊢
        refine sg_aload_n f_13_101 rfl ?_
        refine sg_iconst (-1) f_13_102 ki_m1 ?_
        refine sg_putf_j 4 f_13_103 (by decide) fd_x_50_68 rfl ?_
        refine sg_aload_n f_13_106 rfl ?_
        refine sg_callv_i f_13_107 my_13_15 mr_15 rfl (Nat.le_of_ble_eq_true rfl) (Nat.le_of_ble_eq_true rfl) sh_x_50 (by decide) rfl k1 ?_
        refine sg_if_eq 131 f_13_110 rfl (fun c110 => ?_) (fun c110 => ?_)
        · exact absurd c110 (by decide)
        · refine sg_aload_n f_13_113 rfl ?_
          refine sg_callv_i f_13_114 my_13_17 mr_17 rfl (Nat.le_of_ble_eq_true rfl) (Nat.le_of_ble_eq_true rfl) sh_x_50 (by decide) rfl k3 ?_
          refine sg_if_eq 131 f_13_117 rfl (fun c117 => ?_) (fun c117 => ?_)
          · exact absurd c117 (by decide)
          · refine sg_aload_n f_13_120 rfl ?_
            refine sg_callv_i f_13_121 my_13_18 mr_18 rfl (Nat.le_of_ble_eq_true rfl) (Nat.le_of_ble_eq_true rfl) sh_x_50 (by decide) rfl k4 ?_
            refine sg_if_eq 131 f_13_124 rfl (fun c124 => ?_) (fun c124 => ?_)
            · refine sg_iconst (nI 0) f_13_131 ki_0 ?_
              exact (sg_zret f_13_132 rk_13 (by first | exact Or.inl rfl | exact Or.inr rfl | assumption))
            · exact absurd rfl c124
    · refine ⟨σ3, ?_, h3⟩
      rw [if_neg (by rw [e]; decide)]
      refine sg_aload_n f_13_101 rfl ?_
      refine sg_iconst (-1) f_13_102 ki_m1 ?_
      refine sg_putf_j 4 f_13_103 (by decide) fd_x_50_68 rfl ?_
      refine sg_aload_n f_13_106 rfl ?_
      refine sg_callv_i f_13_107 my_13_15 mr_15 rfl (Nat.le_of_ble_eq_true rfl) (Nat.le_of_ble_eq_true rfl) sh_x_50 (by decide) rfl k1 ?_
      refine sg_if_eq 131 f_13_110 rfl (fun c110 => ?_) (fun c110 => ?_)
      · exact absurd c110 (by decide)
      · refine sg_aload_n f_13_113 rfl ?_
        refine sg_callv_i f_13_114 my_13_17 mr_17 rfl (Nat.le_of_ble_eq_true rfl) (Nat.le_of_ble_eq_true rfl) sh_x_50 (by decide) rfl k3 ?_
        refine sg_if_eq 131 f_13_117 rfl (fun c117 => ?_) (fun c117 => ?_)
        · refine sg_iconst (nI 0) f_13_131 ki_0 ?_
          exact (sg_zret f_13_132 rk_13 (by first | exact Or.inl rfl | exact Or.inr rfl | assumption))
        · exact absurd rfl c117
  · rw [if_neg hb]
    rw [if_neg hb] at k1
    refine ⟨σ1, ?_, h1⟩
    dsimp only
    rw [if_neg (by decide)]
    refine sg_aload_n f_13_101 rfl ?_
    refine sg_iconst (-1) f_13_102 ki_m1 ?_
    refine sg_putf_j 4 f_13_103 (by decide) fd_x_50_68 rfl ?_
    refine sg_aload_n f_13_106 rfl ?_
    refine sg_callv_i f_13_107 my_13_15 mr_15 rfl (Nat.le_of_ble_eq_true rfl) (Nat.le_of_ble_eq_true rfl) sh_x_50 (by decide) rfl k1 ?_
    refine sg_if_eq 131 f_13_110 rfl (fun c110 => ?_) (fun c110 => ?_)
    · refine sg_iconst (nI 0) f_13_131 ki_0 ?_
      exact (sg_zret f_13_132 rk_13 (by first | exact Or.inl rfl | exact Or.inr rfl | assumption))
    · exact absurd rfl c110
theorem sx_look13 {a : Int32} : Op.lookupswitch.offset [((97 : Int), (67 : Int)), (98, 101), (115, 40)] 133 a.toInt = if a = nI 115 then 40 else if a = nI 97 then 67 else if a = nI 98 then 101 else 133 := by
  have e1 : a = nI 115 ↔ a.toInt = 115 := by rw [← Int32.toInt_inj, nI_toInt (by omega)]; rfl
  have e2 : a = nI 97 ↔ a.toInt = 97 := by rw [← Int32.toInt_inj, nI_toInt (by omega)]; rfl
  have e3 : a = nI 98 ↔ a.toInt = 98 := by rw [← Int32.toInt_inj, nI_toInt (by omega)]; rfl
  simp only [Op.lookupswitch.offset_cons, Op.lookupswitch.offset_nil, e1, e2, e3]
  repeat' split
  all_goals first | rfl | omega
theorem sx_13 {σ0 σ : sg_S} {T : Nat × Int32 × Nat × Nat} {it s n : Nat} {x : Nat → Nat} {t : Nat → Int32} (h : sx_R σ0 σ T it s t) (hx : sx_tx σ0 x n) (hp : T.1 ≤ n) (hz : T.2.2.2 ≤ 1000) (hit : it ≤ 160) (hs : 1 ≤ s) (hs4 : s ≤ 4) : ∃ σ' : sg_S, sg_D tx_H 13 0 [.ref 50] [] σ (some (.int (if (rd_item x n T it s t).1 = true then nI 1 else nI 0))) σ' ∧ sx_R σ0 σ' (rd_item x n T it s t).2.1 it (rd_item x n T it s t).2.2.1 (rd_item x n T it s t).2.2.2 := by
  have hl := sx_look13 (a := T.2.1)
  unfold rd_item
  by_cases c1 : T.2.1 = nI 115
  · rw [if_pos c1]
    rw [if_pos c1] at hl
    obtain ⟨σ', k, h'⟩ := sx_13_s h hx hp hz hit
    refine ⟨σ', ?_, h'⟩
    refine sg_aload_n f_13_0 rfl ?_
    refine sg_getf_r f_13_1 fd_x_50_65 ?_
    refine sg_getf_k f_13_4 fd_x_54_450 h.2.2.1.2.1 ?_
    refine sg_look 40 f_13_7 hl rfl ?_
    · exact k
  · rw [if_neg c1]
    rw [if_neg c1] at hl
    by_cases c2 : T.2.1 = nI 97
    · rw [if_pos c2]
      rw [if_pos c2] at hl
      obtain ⟨σ', k, h'⟩ := sx_13_a h hx hp hz hs hs4
      refine ⟨σ', ?_, h'⟩
      refine sg_aload_n f_13_0 rfl ?_
      refine sg_getf_r f_13_1 fd_x_50_65 ?_
      refine sg_getf_k f_13_4 fd_x_54_450 h.2.2.1.2.1 ?_
      refine sg_look 67 f_13_7 hl rfl ?_
      · exact k
    · rw [if_neg c2]
      rw [if_neg c2] at hl
      by_cases c3 : T.2.1 = nI 98
      · rw [if_pos c3]
        rw [if_pos c3] at hl
        obtain ⟨σ', k, h'⟩ := sx_13_b h hx hp hz hs hs4
        refine ⟨σ', ?_, h'⟩
        refine sg_aload_n f_13_0 rfl ?_
        refine sg_getf_r f_13_1 fd_x_50_65 ?_
        refine sg_getf_k f_13_4 fd_x_54_450 h.2.2.1.2.1 ?_
        refine sg_look 101 f_13_7 hl rfl ?_
        · exact k
      · rw [if_neg c3]
        rw [if_neg c3] at hl
        refine ⟨σ, ?_, h⟩
        dsimp only
        rw [if_neg (by decide)]
        refine sg_aload_n f_13_0 rfl ?_
        refine sg_getf_r f_13_1 fd_x_50_65 ?_
        refine sg_getf_k f_13_4 fd_x_54_450 h.2.2.1.2.1 ?_
        refine sg_look 133 f_13_7 hl rfl ?_
        · refine sg_iconst (nI 0) f_13_133 ki_0 ?_
          exact (sg_zret f_13_134 rk_13 (by first | exact Or.inl rfl | exact Or.inr rfl | assumption))
