/-! the same functions of the same numbers -/
section RlF
variable {P P' : Nat → Int64}
theorem sx_fu_congr {Q Q' : Nat → Int64} : ∀ n t : Nat, (∀ k, t ≤ k → k < t + n → P k = P' k ∧ Q k = Q' k) → sx_fu P Q n t = sx_fu P' Q' n t
  | 0, _, _ => rfl
  | n + 1, t, h => by
    rw [sx_fu, sx_fu, (h t (Nat.le_refl _) (by omega)).1, (h t (Nat.le_refl _) (by omega)).2, sx_fu_congr n (t + 1) (fun k h1 h2 => h k (by omega) (by omega))]
theorem t_fb_congr (h : ∀ k, k < 17 → P k = P' k) : ∀ n u v : Nat, u < 17 → v < 17 → 17 * u + v + n = 289 → t_fb P n u v = t_fb P' n u v := by
  intro n
  induction n with
  | zero => intro u v hu hv hn; rw [t_fb, t_fb]
  | succ n ih =>
    intro u v hu hv hn
    have b1 := tb_gr1 (17 * u + v) (by omega)
    have b2 := tb_gr1 (17 * v + u) (by omega)
    rw [t_fb, t_fb]
    have e : (t_gr (17 * u + v) = 17 ∨ t_gr (17 * v + u) = 17 ∨ P (t_gr (17 * u + v)) + P (t_gr (17 * v + u)) = P u * P v) ↔ (t_gr (17 * u + v) = 17 ∨ t_gr (17 * v + u) = 17 ∨ P' (t_gr (17 * u + v)) + P' (t_gr (17 * v + u)) = P' u * P' v) := by
      by_cases e1 : t_gr (17 * u + v) = 17
      · exact ⟨fun _ => Or.inl e1, fun _ => Or.inl e1⟩
      · by_cases e2 : t_gr (17 * v + u) = 17
        · exact ⟨fun _ => Or.inr (Or.inl e2), fun _ => Or.inr (Or.inl e2)⟩
        · rw [h _ (show t_gr (17 * u + v) < 17 by omega), h _ (show t_gr (17 * v + u) < 17 by omega), h u hu, h v hv]
    by_cases c : t_gr (17 * u + v) = 17 ∨ t_gr (17 * v + u) = 17 ∨ P (t_gr (17 * u + v)) + P (t_gr (17 * v + u)) = P u * P v
    · rw [if_pos c, if_pos (e.mp c)]
      by_cases h1 : v + 1 < 17
      · rw [if_pos h1, if_pos h1, ih u (v + 1) hu h1 (by omega)]
      · rw [if_neg h1, if_neg h1]
        by_cases h2 : u + 1 < 17
        · rw [ih (u + 1) 0 h2 (by omega) (by omega)]
        · obtain rfl : n = 0 := by omega
          rw [t_fb, t_fb]
    · rw [if_neg c, if_neg (fun z => c (e.mpr z))]
theorem t_of_congr (h : ∀ k, k < 17 → P k = P' k) {c : Nat} (hc : c < 115) : ∀ (n i : Nat) (acc : Int64), i + n ≤ 4 → t_of P c n i acc = t_of P' c n i acc
  | 0, _, _, _ => rfl
  | n + 1, i, acc, hi => by
    rw [t_of, t_of, h _ (tb_fo1 (c * 4 + i) (by omega)), t_of_congr h hc n (i + 1) _ (by omega)]
theorem t_tg_congr (h : ∀ k, k < 17 → P k = P' k) {Q Q' : Nat → Int64} {s : Nat} : ∀ (n k : Nat) (acc acc' : Int64), s + k + n ≤ 115 → (∀ j, k ≤ j → j < k + n → Q (t_lf (s + j)) = Q' (t_lf (s + j))) → acc = acc' → t_tg P Q s n k acc = t_tg P' Q' s n k acc'
  | 0, _, _, _, _, _, e => e
  | n + 1, k, acc, acc', hk, hq, e => by
    rw [t_tg, t_tg]
    refine t_tg_congr h n (k + 1) _ _ (by omega) (fun j h1 h2 => hq j (by omega) (by omega)) ?_
    rw [e, hq k (Nat.le_refl _) (by omega), t_of_congr h (by omega) _ _ _ (by have := (tb_lf1 (s + k) (by omega)).2; omega)]
theorem sx_mul_congr (h : ∀ k, k < 17 → P k = P' k) {Q Q' M M' : Nat → Int64} (hq : ∀ k, k < 17 → Q k = Q' k) (t : Nat) (ht : t < 17) : sx_mul P Q M 17 t = sx_mul P' Q' M' 17 t := by
  unfold sx_mul
  rw [if_pos ht, if_pos ht]
  have hs := tb_st1 t ht
  exact t_tg_congr h _ _ _ _ (by omega) (fun j _ hj => hq _ (tb_lf1 (t_st t + j) (by omega)).1) (h t ht)
theorem t_iv_congr (h : ∀ k, k < 17 → P k = P' k) {M M' : Nat → Int64} : ∀ t, t ≤ 17 → ∀ k, k < t → t_iv P M t k = t_iv P' M' t k := by
  intro t
  induction t with
  | zero => intro _ k hk; omega
  | succ t ih =>
    intro ht k hk
    rw [t_iv, t_iv]
    by_cases e : k = t
    · subst e
      rw [sx_vl_eq, sx_vl_eq]
      have hs := tb_st1 k (by omega)
      congr 1
      exact t_tg_congr h _ _ _ _ (by omega) (fun j _ hj => ih (by omega) _ (tb_cut1 k (by omega) j (by omega)).1) (h k (by omega))
    · rw [sx_vl_ne e, sx_vl_ne e]; exact ih (by omega) k (by omega)
theorem sx_str_congr {M M' : Nat → Int64} {c : Int64} {t : Nat} (ht : t < 17) (h : P t = P' t) : sx_str P c M 17 t = sx_str P' c M' 17 t := by
  unfold sx_str; rw [if_pos ht, if_pos ht, h]
theorem t_w_congr {A A' : Nat → Nat → Int64} {s : Nat} (h : ∀ j k, j < s → k < s → A j k = A' j k) : ∀ n j t, j < s → t_w A s n j t = t_w A' s n j t := by
  intro n
  induction n with
  | zero => intro j t _; rw [t_w, t_w]
  | succ n ih =>
    intro j t hj
    rw [t_w, t_w]
    by_cases h0 : t = 0
    · rw [if_pos h0, if_pos h0]
    · rw [if_neg h0, if_neg h0, ih j (t_re t) hj]
      congr 1
      exact t_sm_congr _ _ _ (fun i _ hi => ⟨h j i hj (by omega), ih i (t_fi t) (by omega)⟩)
theorem sx_fit_congr {T T' : Nat → Int32} {V V' : Nat → Int64} (h : ∀ k, k < 17 → P k = P' k) : ∀ n i, (∀ j, i ≤ j → j < i + n → (∃ k, k < 17 ∧ T j = nI k ∧ T' j = nI k) ∧ V' j = V j) → sx_fit T V P n i = sx_fit T' V' P' n i
  | 0, _, _ => rfl
  | n + 1, i, hh => by
    obtain ⟨⟨k, hk, e1, e2⟩, e3⟩ := hh i (Nat.le_refl _) (by omega)
    rw [sx_fit, sx_fit, e1, e2, e3, nI_clamp (by omega), h k hk, sx_fit_congr h n (i + 1) (fun j h1 h2 => hh j (by omega) (by omega))]
end RlF
theorem t_wh_congr {F F' : Nat → Int32} : ∀ n r acc, (∀ k, r ≤ k → k < r + n → F k = F' k) → t_wh F n r acc = t_wh F' n r acc
  | 0, _, _, _ => rfl
  | n + 1, r, acc, h => by
    rw [t_wh, t_wh, h r (Nat.le_refl _) (by omega), t_wh_congr n (r + 1) _ (fun k h1 h2 => h k (by omega) (by omega))]
theorem sx_lk_5 {P Q : Nat → Int64} : (sx_lk P Q 17 0 = 5 ↔ sx_fu P Q 17 0 = -9) ∧ sx_lk P Q 17 0 ≤ 5 := by
  have hl := sx_lk_fu P Q 17 0
  rcases sx_fu_cases P Q 17 0 with ⟨h1, -⟩ | ⟨j, -, h2, h1, -⟩
  · have := hl.1 (by omega) h1
    exact ⟨⟨fun _ => h1, fun _ => this⟩, by omega⟩
  · have e := hl.2 j (by omega) (by omega) h1
    have hj := tb_nd1 j (by omega)
    refine ⟨⟨fun h => by omega, fun h => ?_⟩, by omega⟩
    rw [h1] at h
    exact absurd h (sg_ne_m9 (by omega))
theorem t_cc_ca : ∀ a, a < 17 → ∀ k, k < 5 → t_cc a k = if k < t_wd a then nI (t_ca (4 * a + k)) else -9 := by decide +kernel
theorem t_cc_0 : ∀ m, t_cc 0 m = -9
  | 0 => rfl
  | m + 1 => by rw [t_cc, if_pos rfl]
theorem t_cc_big {a : Nat} (ha : a < 17) {k : Nat} (hk : 5 ≤ k) : t_cc a k = -9 := by
  obtain ⟨m, rfl⟩ : ∃ m, k = m + 1 + 1 + 1 + 1 + 1 := ⟨k - 5, by omega⟩
  have h4 : ∀ a, a < 17 → a = 0 ∨ t_re a = 0 ∨ t_re (t_re a) = 0 ∨ t_re (t_re (t_re a)) = 0 ∨ t_re (t_re (t_re (t_re a))) = 0 := by decide +kernel
  rw [t_cc]
  by_cases e0 : a = 0
  · rw [if_pos e0]
  · rw [if_neg e0, t_cc]
    by_cases e1 : t_re a = 0
    · rw [if_pos e1]
    · rw [if_neg e1, t_cc]
      by_cases e2 : t_re (t_re a) = 0
      · rw [if_pos e2]
      · rw [if_neg e2, t_cc]
        by_cases e3 : t_re (t_re (t_re a)) = 0
        · rw [if_pos e3]
        · rw [if_neg e3, t_cc]
          rcases h4 a ha with h | h | h | h | h
          · exact absurd h e0
          · exact absurd h e1
          · exact absurd h e2
          · exact absurd h e3
          · rw [if_pos h]
theorem t_cc_all {a k : Nat} (ha : a < 17) : t_cc a k = if k < t_wd a then nI (t_ca (4 * a + k)) else -9 := by
  by_cases h : k < 5
  · exact t_cc_ca a ha k h
  · rw [t_cc_big ha (by omega), if_neg (by have := tb_wd a ha; omega)]
