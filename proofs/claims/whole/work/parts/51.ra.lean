/-! how the class's state and the model's stand to each other -/
def rl_B (σ : sg_S) (d : Nat) (f : Nat → Int32) (g : Nat → Int64) : Prop := (∃ s, 1 ≤ s ∧ s ≤ 4 ∧ σ.1 (d + 1) 0 = nI s) ∧ f 0 = σ.1 (d + 1) 0 ∧ (∀ j, j < 16 → f (1 + j) = σ.1 (d + 2) j) ∧ (∀ j, j < 4 → f (17 + j) = σ.1 (d + 3) j) ∧ ∀ r, r < 6 → ∀ t, t < 17 → g (17 * r + t) = σ.2 (d + 5 + r) t
theorem rl_B_mv {σ σ' : sg_S} {d d' : Nat} {f f' : Nat → Int32} {g g' : Nat → Int64} (h : rl_B σ d f g) (e0 : σ'.1 (d' + 1) 0 = σ.1 (d + 1) 0) (e1 : ∀ j, j < 16 → σ'.1 (d' + 2) j = σ.1 (d + 2) j) (e2 : ∀ j, j < 4 → σ'.1 (d' + 3) j = σ.1 (d + 3) j) (e3 : ∀ r, r < 6 → ∀ t, t < 17 → σ'.2 (d' + 5 + r) t = σ.2 (d + 5 + r) t) (ef : ∀ k, k < 21 → f' k = f k) (eg : ∀ k, k < 102 → g' k = g k) : rl_B σ' d' f' g' := by
  obtain ⟨⟨s, s1, s2, s3⟩, h1, h2, h3, h4⟩ := h
  refine ⟨⟨s, s1, s2, e0.trans s3⟩, ?_, fun j hj => ?_, fun j hj => ?_, fun r hr t ht => ?_⟩
  · rw [ef 0 (by omega), e0]; exact h1
  · rw [ef _ (by omega), e1 j hj]; exact h2 j hj
  · rw [ef _ (by omega), e2 j hj]; exact h3 j hj
  · rw [eg _ (by omega), e3 r hr t ht]; exact h4 r hr t ht
theorem rl_B_c {σ σ' : sg_S} {d : Nat} {f f' : Nat → Int32} {g g' : Nat → Int64} (h : rl_B σ d f g) (e1 : ∀ a, d + 1 ≤ a → a ≤ d + 3 → σ'.1 a = σ.1 a) (e3 : ∀ a, d + 5 ≤ a → a ≤ d + 10 → σ'.2 a = σ.2 a) (ef : ∀ k, k < 21 → f' k = f k) (eg : ∀ k, k < 102 → g' k = g k) : rl_B σ' d f' g' :=
  rl_B_mv h (by rw [e1 _ (by omega) (by omega)]) (fun j _ => by rw [e1 _ (by omega) (by omega)]) (fun j _ => by rw [e1 _ (by omega) (by omega)]) (fun r hr t _ => by rw [e3 _ (by omega) (by omega)]) ef eg
def rl_X (σ μ : sg_S) : Prop := ∃ x n, sx_tx σ x n ∧ sm_tx μ x n
def rl_N (σ μ : sg_S) : Prop := rl_B σ 55 (μ.1 12) (μ.2 13)
def rl_Q (σ μ : sg_S) (p z : Nat) : Prop := sx_P σ p z ∧ μ.1 0 17 = nI z ∧ ∀ i, i < z → rl_B σ (68 + 11 * ((p + 6 - z + i) % 6)) (fun k => μ.1 14 (21 * i + k)) (fun k => μ.2 15 (102 * i + k))
def rl_P (σ μ : sg_S) : Prop := ∃ p z, rl_Q σ μ p z
def rl_I (σ μ : sg_S) : Prop := ∀ a, a < 2 → μ.1 18 a = σ.1 157 a ∧ (σ.1 157 a ≠ 0 → rl_B σ (135 + 11 * a) (fun k => μ.1 16 (21 * a + k)) (fun k => μ.2 17 (102 * a + k)))
def rl_S (σ μ : sg_S) : Prop := ∃ z, z ≤ 6 ∧ σ.1 158 2 = nI z ∧ μ.1 0 23 = nI z ∧ ∀ i, i < z → (∃ k, k < 17 ∧ σ.1 159 i = nI k ∧ μ.1 19 i = nI k) ∧ μ.2 20 i = σ.2 160 i
def rl_K (σ : sg_S) : Prop := ∃ p q z, σ.1 54 1 = nI p ∧ σ.1 54 3 = nI q ∧ σ.1 54 4 = nI z ∧ z ≤ 1000
def Rel (σ μ : sg_S) : Prop := tx_Tab σ ∧ tm_Tab μ ∧ rl_X σ μ ∧ rl_N σ μ ∧ rl_P σ μ ∧ rl_I σ μ ∧ rl_S σ μ ∧ rl_K σ
section RlC
variable {σ σ' μ μ' : sg_S}
theorem rl_X_c (h : rl_X σ μ) (a : σ'.1 46 1 = σ.1 46 1) (b : σ'.1 47 = σ.1 47) (c : μ'.1 0 12 = μ.1 0 12) (d : μ'.1 11 = μ.1 11) : rl_X σ' μ' := by
  obtain ⟨x, n, h1, h2⟩ := h
  exact ⟨x, n, ⟨by rw [a]; exact h1.1, h1.2.1, fun i hi => by rw [b]; exact h1.2.2 i hi⟩, ⟨by rw [c]; exact h2.1, h2.2.1, fun i hi => by rw [d]; exact h2.2.2 i hi⟩⟩
theorem rl_N_c (h : rl_N σ μ) (a : ∀ k, 56 ≤ k → k ≤ 58 → σ'.1 k = σ.1 k) (b : ∀ k, 60 ≤ k → k ≤ 65 → σ'.2 k = σ.2 k) (c : μ'.1 12 = μ.1 12) (d : μ'.2 13 = μ.2 13) : rl_N σ' μ' := by
  unfold rl_N
  exact rl_B_c h (fun k h1 h2 => a k (by omega) (by omega)) (fun k h1 h2 => b k (by omega) (by omega)) (fun k _ => by rw [c]) (fun k _ => by rw [d])
theorem rl_Q_c {p z : Nat} (h : rl_Q σ μ p z) (a : σ'.1 66 = σ.1 66) (b : ∀ k, 68 ≤ k → k ≤ 133 → σ'.1 k = σ.1 k ∧ σ'.2 k = σ.2 k) (c : μ'.1 0 17 = μ.1 0 17) (d : μ'.1 14 = μ.1 14) (e : μ'.2 15 = μ.2 15) : rl_Q σ' μ' p z := by
  obtain ⟨hP, h1, h2⟩ := h
  refine ⟨⟨by rw [a]; exact hP.1, hP.2.1, by rw [a]; exact hP.2.2.1, hP.2.2.2⟩, by rw [c]; exact h1, fun i hi => ?_⟩
  have hm : (p + 6 - z + i) % 6 < 6 := Nat.mod_lt _ (by omega)
  exact rl_B_c (h2 i hi) (fun k q1 q2 => (b k (by omega) (by omega)).1) (fun k q1 q2 => (b k (by omega) (by omega)).2) (fun k _ => by rw [d]) (fun k _ => by rw [e])
theorem rl_P_c (h : rl_P σ μ) (a : σ'.1 66 = σ.1 66) (b : ∀ k, 68 ≤ k → k ≤ 133 → σ'.1 k = σ.1 k ∧ σ'.2 k = σ.2 k) (c : μ'.1 0 17 = μ.1 0 17) (d : μ'.1 14 = μ.1 14) (e : μ'.2 15 = μ.2 15) : rl_P σ' μ' := by
  obtain ⟨p, z, h⟩ := h
  exact ⟨p, z, rl_Q_c h a b c d e⟩
theorem rl_I_c (h : rl_I σ μ) (a : σ'.1 157 = σ.1 157) (b : ∀ k, 135 ≤ k → k ≤ 156 → σ'.1 k = σ.1 k ∧ σ'.2 k = σ.2 k) (c : μ'.1 18 = μ.1 18) (d : μ'.1 16 = μ.1 16) (e : μ'.2 17 = μ.2 17) : rl_I σ' μ' := by
  intro q hq
  obtain ⟨h1, h2⟩ := h q hq
  refine ⟨by rw [c, a]; exact h1, fun h3 => ?_⟩
  rw [a] at h3
  exact rl_B_c (h2 h3) (fun k q1 q2 => (b k (by omega) (by omega)).1) (fun k q1 q2 => (b k (by omega) (by omega)).2) (fun k _ => by rw [d]) (fun k _ => by rw [e])
theorem rl_S_c (h : rl_S σ μ) (a : σ'.1 158 2 = σ.1 158 2) (b : σ'.1 159 = σ.1 159) (c : σ'.2 160 = σ.2 160) (d : μ'.1 0 23 = μ.1 0 23) (e : μ'.1 19 = μ.1 19) (f : μ'.2 20 = μ.2 20) : rl_S σ' μ' := by
  obtain ⟨z, h1, h2, h3, h4⟩ := h
  refine ⟨z, h1, by rw [a]; exact h2, by rw [d]; exact h3, fun i hi => ?_⟩
  rw [b, c, e, f]; exact h4 i hi
theorem rl_K_c (h : rl_K σ) (a : σ'.1 54 = σ.1 54) : rl_K σ' := by
  obtain ⟨p, q, z, h1, h2, h3, h4⟩ := h
  exact ⟨p, q, z, by rw [a]; exact h1, by rw [a]; exact h2, by rw [a]; exact h3, h4⟩
/-- scratch alone has changed -/
theorem Rel_same (h : Rel σ μ) (a : ∀ k, k < 35 ∨ k = 46 ∨ k = 47 ∨ 55 ≤ k → σ'.1 k = σ.1 k) (b : ∀ k, k < 35 ∨ 46 ≤ k ∧ k ≠ 161 → σ'.2 k = σ.2 k) (c : ∀ k, 1 ≤ k → k ≤ 20 → μ'.1 k = μ.1 k) (d : ∀ k, 1 ≤ k → k ≤ 20 → μ'.2 k = μ.2 k) (e : μ'.1 0 12 = μ.1 0 12 ∧ μ'.1 0 17 = μ.1 0 17 ∧ μ'.1 0 23 = μ.1 0 23) (k : rl_K σ') : Rel σ' μ' := by
  obtain ⟨h1, h2, h3, h4, h5, h6, h7, h8⟩ := h
  refine ⟨tx_Tab_of h1 (fun q hq => a q (by omega)) (b 8 (by omega)), tm_Tab_of h2 (fun q q1 q2 => c q q1 (by omega)), rl_X_c h3 (by rw [a 46 (by omega)]) (a 47 (by omega)) e.1 (c 11 (by omega) (by omega)), rl_N_c h4 (fun q q1 q2 => a q (by omega)) (fun q q1 q2 => b q (by omega)) (c 12 (by omega) (by omega)) (d 13 (by omega) (by omega)), rl_P_c h5 (a 66 (by omega)) (fun q q1 q2 => ⟨a q (by omega), b q (by omega)⟩) e.2.1 (c 14 (by omega) (by omega)) (d 15 (by omega) (by omega)), rl_I_c h6 (a 157 (by omega)) (fun q q1 q2 => ⟨a q (by omega), b q (by omega)⟩) (c 18 (by omega) (by omega)) (c 16 (by omega) (by omega)) (d 17 (by omega) (by omega)), rl_S_c h7 (by rw [a 158 (by omega)]) (a 159 (by omega)) (b 160 (by omega)) e.2.2 (c 19 (by omega) (by omega)) (d 20 (by omega) (by omega)), k⟩
end RlC
theorem sx_cpS_b {σ : sg_S} {d e : Nat} : (sx_cpS σ d e).1 (d + 1) 0 = σ.1 (e + 1) 0 ∧ (sx_cpS σ d e).1 (d + 2) = σ.1 (e + 2) ∧ (sx_cpS σ d e).1 (d + 3) = σ.1 (e + 3) ∧ ∀ r, r < 6 → (sx_cpS σ d e).2 (d + 5 + r) = σ.2 (e + 5 + r) := by
  refine ⟨?_, ?_, ?_, fun r hr => ?_⟩
  · show (sx_cpM σ (d + 1) (e + 1)).1 (d + 1) 0 = _
    unfold sx_cpM
    rw [sg_r1_ne (by omega), sg_r1_ne (by omega), sg_r1_eq, pk_us]
  · show (sx_cpM σ (d + 1) (e + 1)).1 (d + 2) = _
    unfold sx_cpM
    rw [sg_r1_ne (by omega), show d + 2 = d + 1 + 1 from rfl, sg_r1_eq]
  · show (sx_cpM σ (d + 1) (e + 1)).1 (d + 3) = _
    unfold sx_cpM
    rw [show d + 3 = d + 1 + 2 from rfl, sg_r1_eq]
  · show (if d + 5 ≤ d + 5 + r ∧ d + 5 + r < d + 11 then σ.2 (e + (d + 5 + r - d)) else σ.2 (d + 5 + r)) = _
    rw [if_pos ⟨by omega, by omega⟩, show e + (d + 5 + r - d) = e + 5 + r by omega]
theorem sx_cpS_o {σ : sg_S} {d e k : Nat} (h : k < d + 5 ∨ d + 11 ≤ k) : (sx_cpS σ d e).2 k = σ.2 k := by
  show (if d + 5 ≤ k ∧ k < d + 11 then σ.2 (e + (k - d)) else σ.2 k) = _
  rw [if_neg (by omega)]
/-- one more can be undone -/
theorem Rel_rem {σ μ μ1 : sg_S} {p z : Nat} (h : Rel σ μ) (hQ : rl_Q σ μ p z) (hN : sm_N μ μ1 z) : Rel (sx_rem σ p z) μ1 := by
  obtain ⟨h1, h2, h3, h4, -, h6, h7, h8⟩ := h
  obtain ⟨hP, q1, q2⟩ := hQ
  obtain ⟨p1, p2, p3, p4⟩ := hP
  obtain ⟨n1, n2, n3, n4, n5, n6, n7⟩ := hN
  refine ⟨tx_Tab_of h1 (fun q hq => sx_rem_1 (by omega) (by omega)) (sx_rem_2 (by omega)), tm_Tab_of h2 (fun q a b => n1 q (by omega) (by omega)), rl_X_c h3 (by rw [sx_rem_1 (by omega) (by omega)]) (sx_rem_1 (by omega) (by omega)) (n3 12 (by omega)) (n1 11 (by omega) (by omega)), rl_N_c h4 (fun q a b => sx_rem_1 (by omega) (by omega)) (fun q a b => sx_rem_2 (by omega)) (n1 12 (by omega) (by omega)) (n2 13 (by omega)), ?_, rl_I_c h6 (sx_rem_1 (by omega) (by omega)) (fun q a b => ⟨sx_rem_1 (by omega) (by omega), sx_rem_2 (by omega)⟩) (n1 18 (by omega) (by omega)) (n1 16 (by omega) (by omega)) (n2 17 (by omega)), rl_S_c h7 (by rw [sx_rem_1 (by omega) (by omega)]) (sx_rem_1 (by omega) (by omega)) (sx_rem_2 (by omega)) (n3 23 (by omega)) (n1 19 (by omega) (by omega)) (n2 20 (by omega)), rl_K_c h8 (sx_rem_1 (by omega) (by omega))⟩
  have nx6 : sx_nx p < 6 := by unfold sx_nx; split <;> omega
  have sz6 : sx_sz z ≤ 6 ∧ 1 ≤ sx_sz z := by unfold sx_sz; split <;> omega
  refine ⟨sx_nx p, sx_sz z, ⟨?_, nx6, ?_, sz6.1⟩, n4, fun i hi => ?_⟩
  · unfold sx_rem; rw [sg_r1_eq, pk_un (by omega), pk_us]
  · unfold sx_rem; rw [sg_r1_eq, pk_us]
  · by_cases hl : i + 1 < sx_sz z
    · have key : (sx_nx p + 6 - sx_sz z + i) % 6 = (p + 6 - z + (i + (z + 1 - sx_sz z))) % 6 ∧ (sx_nx p + 6 - sx_sz z + i) % 6 ≠ p ∧ i + (z + 1 - sx_sz z) < z := by
        revert hl
        unfold sx_nx sx_sz
        split <;> split <;> intro hl <;> omega
      have hm : (sx_nx p + 6 - sx_sz z + i) % 6 < 6 := Nat.mod_lt _ (by omega)
      have hb := q2 (i + (z + 1 - sx_sz z)) key.2.2
      rw [← key.1] at hb
      refine rl_B_c hb (fun k a b => sx_rem_1 (by omega) (by omega)) (fun k a b => sx_rem_2 (by omega)) (fun k hk => (n5 i hl).1 k hk) (fun k hk => (n5 i hl).2 k hk)
    · have ei : i = sx_sz z - 1 := by omega
      have key : (sx_nx p + 6 - sx_sz z + i) % 6 = p := by
        rw [ei]
        unfold sx_nx sx_sz
        split <;> split <;> omega
      rw [key]
      have cb := sx_cpS_b (σ := σ) (d := 68 + 11 * p) (e := 55)
      refine rl_B_mv h4 ?_ (fun j _ => ?_) (fun j _ => ?_) (fun r hr t _ => ?_) (fun k hk => ?_) (fun k hk => ?_)
      · unfold sx_rem; rw [sg_r1_ne (by omega)]; exact cb.1
      · unfold sx_rem; rw [sg_r1_ne (by omega), cb.2.1]
      · unfold sx_rem; rw [sg_r1_ne (by omega), cb.2.2.1]
      · unfold sx_rem; rw [sg_r1_2, cb.2.2.2 r hr]
      · rw [ei]; exact n6 k hk
      · rw [ei]; exact n7 k hk
/-- a register is made another one -/
theorem Rel_reg {σ μ : sg_S} {r : Nat} {g g' : Nat → Int64} (h : Rel σ μ) (hr : r < 6) (hg : ∀ t, t < 17 → g t = g' t) : Rel (sg_r2 σ (60 + r) g) (sg_r2 μ 13 (sg_c2 (μ.2 13) (17 * r) 17 g')) := by
  obtain ⟨h1, h2, h3, h4, h5, h6, h7, h8⟩ := h
  refine ⟨tx_Tab_r2 h1 (by omega), h2, h3, ?_, rl_P_c h5 rfl (fun q a b => ⟨rfl, sg_r2_ne (by omega)⟩) rfl rfl (sg_r2_ne (by omega)), rl_I_c h6 rfl (fun q a b => ⟨rfl, sg_r2_ne (by omega)⟩) rfl rfl (sg_r2_ne (by omega)), rl_S_c h7 rfl rfl (sg_r2_ne (by omega)) rfl rfl (sg_r2_ne (by omega)), h8⟩
  obtain ⟨b1, b2, b3, b4, b5⟩ := h4
  refine ⟨b1, b2, b3, b4, fun q hq t ht => ?_⟩
  rw [sg_r2_eq]
  by_cases e : q = r
  · subst e
    rw [sg_c2_in ht, show 55 + 5 + q = 60 + q by omega, sg_r2_eq, hg t ht]
  · rw [sg_c2_out (by omega), sg_r2_ne (by omega)]; exact b5 q hq t ht
/-- a number of it is -/
theorem Rel_put {σ μ : sg_S} {r t : Nat} {v : Int64} (h : Rel σ μ) (hr : r < 6) (ht : t < 17) : Rel (sg_r2 σ (60 + r) (vp_updL (σ.2 (60 + r)) t v)) (sg_r2 μ 13 (vp_updL (μ.2 13) (17 * r + t) v)) := by
  obtain ⟨h1, h2, h3, h4, h5, h6, h7, h8⟩ := h
  refine ⟨tx_Tab_r2 h1 (by omega), h2, h3, ?_, rl_P_c h5 rfl (fun q a b => ⟨rfl, sg_r2_ne (by omega)⟩) rfl rfl (sg_r2_ne (by omega)), rl_I_c h6 rfl (fun q a b => ⟨rfl, sg_r2_ne (by omega)⟩) rfl rfl (sg_r2_ne (by omega)), rl_S_c h7 rfl rfl (sg_r2_ne (by omega)) rfl rfl (sg_r2_ne (by omega)), h8⟩
  obtain ⟨b1, b2, b3, b4, b5⟩ := h4
  refine ⟨b1, b2, b3, b4, fun q hq u hu => ?_⟩
  rw [sg_r2_eq]
  by_cases e : q = r
  · subst e
    rw [show 55 + 5 + q = 60 + q by omega, sg_r2_eq]
    by_cases e2 : u = t
    · subst e2; rw [sx_vl_eq, sx_vl_eq]
    · rw [sx_vl_ne (by omega), sx_vl_ne e2]
      have := b5 q hq u hu
      rw [show 55 + 5 + q = 60 + q by omega] at this
      exact this
  · rw [sx_vl_ne (by omega), sg_r2_ne (by omega)]; exact b5 q hq u hu
/-- a number of the method is -/
theorem Rel_a {σ μ : sg_S} {i j : Nat} {v : Int32} (h : Rel σ μ) (hi : i < 4) (hj : j < 4) : Rel (sg_r1 σ 57 (upd (σ.1 57) (i * 4 + j) v)) (sg_r1 μ 12 (upd (μ.1 12) (1 + 4 * i + j) v)) := by
  obtain ⟨h1, h2, h3, h4, h5, h6, h7, h8⟩ := h
  refine ⟨tx_Tab_of h1 (fun q hq => sg_r1_ne (by omega)) rfl, tm_Tab_of h2 (fun q a b => sg_r1_ne (by omega)), rl_X_c h3 rfl rfl rfl rfl, ?_, rl_P_c h5 rfl (fun q a b => ⟨sg_r1_ne (by omega), rfl⟩) rfl rfl rfl, rl_I_c h6 rfl (fun q a b => ⟨sg_r1_ne (by omega), rfl⟩) rfl rfl rfl, rl_S_c h7 rfl rfl rfl rfl rfl rfl, rl_K_c h8 rfl⟩
  obtain ⟨⟨s, b1⟩, b2, b3, b4, b5⟩ := h4
  refine ⟨⟨s, b1⟩, ?_, fun k hk => ?_, fun k hk => ?_, b5⟩
  · rw [sg_r1_eq, pk_un (by omega)]; exact b2
  · rw [sg_r1_eq]
    show _ = (sg_r1 σ 57 (upd (σ.1 57) (i * 4 + j) v)).1 57 k
    rw [sg_r1_eq]
    by_cases e : k = i * 4 + j
    · rw [e, show 1 + (i * 4 + j) = 1 + 4 * i + j by omega, pk_us, pk_us]
    · rw [pk_un (by omega), pk_un e]; exact b3 k hk
  · rw [sg_r1_eq, pk_un (by omega)]; exact b4 k hk
theorem Rel_b {σ μ : sg_S} {i : Nat} {v : Int32} (h : Rel σ μ) (hi : i < 4) : Rel (sg_r1 σ 58 (upd (σ.1 58) i v)) (sg_r1 μ 12 (upd (μ.1 12) (17 + i) v)) := by
  obtain ⟨h1, h2, h3, h4, h5, h6, h7, h8⟩ := h
  refine ⟨tx_Tab_of h1 (fun q hq => sg_r1_ne (by omega)) rfl, tm_Tab_of h2 (fun q a b => sg_r1_ne (by omega)), rl_X_c h3 rfl rfl rfl rfl, ?_, rl_P_c h5 rfl (fun q a b => ⟨sg_r1_ne (by omega), rfl⟩) rfl rfl rfl, rl_I_c h6 rfl (fun q a b => ⟨sg_r1_ne (by omega), rfl⟩) rfl rfl rfl, rl_S_c h7 rfl rfl rfl rfl rfl rfl, rl_K_c h8 rfl⟩
  obtain ⟨⟨s, b1⟩, b2, b3, b4, b5⟩ := h4
  refine ⟨⟨s, b1⟩, ?_, fun k hk => ?_, fun k hk => ?_, b5⟩
  · rw [sg_r1_eq, pk_un (by omega)]; exact b2
  · rw [sg_r1_eq, pk_un (by omega)]; exact b3 k hk
  · rw [sg_r1_eq]
    show _ = (sg_r1 σ 58 (upd (σ.1 58) i v)).1 58 k
    rw [sg_r1_eq]
    by_cases e : k = i
    · rw [e, pk_us, pk_us]
    · rw [pk_un (by omega), pk_un e]; exact b4 k hk
/-- the method becomes what was read -/
theorem Rel_method {σ μ : sg_S} {s : Nat} {t : Nat → Int32} (h : Rel σ μ) (hs : 1 ≤ s) (hs4 : s ≤ 4) (a1 : σ.1 51 0 = nI s) (a2 : ∀ j, j < 16 → σ.1 52 j = t (1 + j)) (a3 : ∀ j, j < 4 → σ.1 53 j = t (17 + j)) (c1 : μ.1 24 0 = nI s) (c2 : ∀ j, 1 ≤ j → j < 21 → μ.1 24 j = t j) : Rel (sx_cpM σ 56 51) (sg_r1 μ 12 (sg_c1 (μ.1 12) 0 21 (fun k => μ.1 24 k))) := by
  obtain ⟨h1, h2, h3, h4, h5, h6, h7, h8⟩ := h
  have e1 : ∀ k, k < 56 ∨ 58 < k → (sx_cpM σ 56 51).1 k = σ.1 k := by
    intro k hk
    unfold sx_cpM
    rw [sg_r1_ne (by omega), sg_r1_ne (by omega), sg_r1_ne (by omega)]
  refine ⟨tx_Tab_of h1 (fun q hq => e1 q (by omega)) rfl, tm_Tab_of h2 (fun q a b => sg_r1_ne (by omega)), rl_X_c h3 (by rw [e1 46 (by omega)]) (e1 47 (by omega)) rfl rfl, ?_, rl_P_c h5 (e1 66 (by omega)) (fun q a b => ⟨e1 q (by omega), rfl⟩) rfl rfl rfl, rl_I_c h6 (e1 157 (by omega)) (fun q a b => ⟨e1 q (by omega), rfl⟩) rfl rfl rfl, rl_S_c h7 (by rw [e1 158 (by omega)]) (e1 159 (by omega)) rfl rfl rfl rfl, rl_K_c h8 (e1 54 (by omega))⟩
  obtain ⟨-, -, -, -, b5⟩ := h4
  have f0 : (sx_cpM σ 56 51).1 56 0 = nI s := by
    unfold sx_cpM
    rw [sg_r1_ne (by omega), sg_r1_ne (by omega), sg_r1_eq, pk_us]; exact a1
  have f1 : (sx_cpM σ 56 51).1 57 = σ.1 52 := by
    unfold sx_cpM
    rw [sg_r1_ne (by omega), sg_r1_eq]
  have f2 : (sx_cpM σ 56 51).1 58 = σ.1 53 := by
    unfold sx_cpM
    rw [sg_r1_eq]
  have m0 : ∀ k, k < 21 → (sg_r1 μ 12 (sg_c1 (μ.1 12) 0 21 (fun k => μ.1 24 k))).1 12 k = μ.1 24 k := by
    intro k hk
    rw [sg_r1_eq]
    have := sg_c1_in (f := μ.1 12) (g := fun k => μ.1 24 k) (o := 0) hk
    rw [Nat.zero_add] at this
    exact this
  refine ⟨⟨s, hs, hs4, f0⟩, ?_, fun k hk => ?_, fun k hk => ?_, b5⟩
  · rw [m0 0 (by omega), c1]; exact f0.symm
  · rw [m0 _ (by omega), c2 _ (by omega) (by omega)]
    show _ = (sx_cpM σ 56 51).1 57 k
    rw [f1, a2 k hk]
  · rw [m0 _ (by omega), c2 _ (by omega) (by omega)]
    show _ = (sx_cpM σ 56 51).1 58 k
    rw [f2, a3 k hk]
/-- undone -/
theorem Rel_undo {σ μ : sg_S} {p z : Nat} (h : Rel σ μ) (hQ : rl_Q σ μ p (z + 1)) : Rel (sx_rec σ p (z + 1)) (sm_un μ z) := by
  obtain ⟨h1, h2, h3, -, -, h6, h7, h8⟩ := h
  obtain ⟨⟨p1, p2, p3, p4⟩, q1, q2⟩ := hQ
  have pv6 : sx_pv p < 6 := by unfold sx_pv; split <;> omega
  have e66 : (sx_rec σ p (z + 1)).1 66 = upd (upd (σ.1 66) 1 (nI (sx_pv p))) 2 (nI (z + 1 - 1)) := by
    unfold sx_rec; rw [sx_cpS_1 (by omega), sg_r1_eq]
  have e1 : ∀ k, k < 56 ∨ 58 < k → k ≠ 66 → (sx_rec σ p (z + 1)).1 k = σ.1 k := by
    intro k hk h66
    unfold sx_rec; rw [sx_cpS_1 (by omega), sg_r1_ne h66]
  have e2 : ∀ k, k < 60 ∨ 66 ≤ k → (sx_rec σ p (z + 1)).2 k = σ.2 k := by
    intro k hk
    unfold sx_rec; rw [sx_cpS_o (by omega), sg_r1_2]
  have m1 : ∀ k, k ≠ 0 → k ≠ 12 → (sm_un μ z).1 k = μ.1 k := by
    intro k k0 k12
    unfold sm_un; rw [sg_r2_1, sg_r1_ne k12, sg_r1_ne k0]
  have m2 : ∀ k, k ≠ 13 → (sm_un μ z).2 k = μ.2 k := by
    intro k k13
    unfold sm_un; rw [sg_r2_ne k13]; rfl
  have m0 : (sm_un μ z).1 0 = upd (μ.1 0) 17 (nI z) := by
    unfold sm_un; rw [sg_r2_1, sg_r1_ne (by omega), sg_r1_eq]
  refine ⟨tx_Tab_of h1 (fun q hq => e1 q (by omega) (by omega)) (e2 8 (by omega)), tm_Tab_of h2 (fun q a b => m1 q (by omega) (by omega)), rl_X_c h3 (by rw [e1 46 (by omega) (by omega)]) (e1 47 (by omega) (by omega)) (by rw [m0, pk_un (by omega)]) (m1 11 (by omega) (by omega)), ?_, ?_, rl_I_c h6 (e1 157 (by omega) (by omega)) (fun q a b => ⟨e1 q (by omega) (by omega), e2 q (by omega)⟩) (m1 18 (by omega) (by omega)) (m1 16 (by omega) (by omega)) (m2 17 (by omega)), rl_S_c h7 (by rw [e1 158 (by omega) (by omega)]) (e1 159 (by omega) (by omega)) (e2 160 (by omega)) (by rw [m0, pk_un (by omega)]) (m1 19 (by omega) (by omega)) (m2 20 (by omega)), rl_K_c h8 (e1 54 (by omega) (by omega))⟩
  · have hb := q2 z (by omega)
    have key : (p + 6 - (z + 1) + z) % 6 = sx_pv p := by unfold sx_pv; split <;> omega
    rw [key] at hb
    have cb := sx_cpS_b (σ := sg_r1 σ 66 (upd (upd (σ.1 66) 1 (nI (sx_pv p))) 2 (nI (z + 1 - 1)))) (d := 55) (e := 68 + 11 * sx_pv p)
    refine rl_B_mv hb ?_ (fun j _ => ?_) (fun j _ => ?_) (fun r hr t _ => ?_) (fun k hk => ?_) (fun k hk => ?_)
    · refine cb.1.trans ?_; rw [sg_r1_ne (by omega)]
    · refine (congrFun cb.2.1 j).trans ?_; rw [sg_r1_ne (by omega)]
    · refine (congrFun cb.2.2.1 j).trans ?_; rw [sg_r1_ne (by omega)]
    · exact congrFun (cb.2.2.2 r hr) t
    · unfold sm_un
      rw [sg_r2_1, sg_r1_eq]
      have := sg_c1_in (f := μ.1 12) (g := fun k => μ.1 14 (21 * z + k)) (o := 0) hk
      rw [Nat.zero_add] at this
      exact this
    · unfold sm_un
      rw [sg_r2_eq]
      have := sg_c2_in (f := μ.2 13) (g := fun k => μ.2 15 (102 * z + k)) (o := 0) hk
      rw [Nat.zero_add] at this
      exact this
  · refine ⟨sx_pv p, z, ⟨?_, pv6, ?_, by omega⟩, by rw [m0, pk_us], fun i hi => ?_⟩
    · rw [e66, pk_un (by omega), pk_us]
    · rw [e66, pk_us]; rfl
    · have hb := q2 i (by omega)
      have key : (p + 6 - (z + 1) + i) % 6 = (sx_pv p + 6 - z + i) % 6 := by unfold sx_pv; split <;> omega
      rw [key] at hb
      have hm : (sx_pv p + 6 - z + i) % 6 < 6 := Nat.mod_lt _ (by omega)
      exact rl_B_c hb (fun k a b => e1 k (by omega) (by omega)) (fun k a b => e2 k (by omega)) (fun k _ => by rw [m1 14 (by omega) (by omega)]) (fun k _ => by rw [m2 15 (by omega)])
/-- kept -/
theorem Rel_keep {σ μ : sg_S} {a : Nat} (h : Rel σ μ) (ha : a < 2) : Rel (sg_r1 (sx_cpS σ (135 + 11 * a) 55) 157 (upd (σ.1 157) a (nI 1))) (sm_kp μ a) := by
  obtain ⟨h1, h2, h3, h4, h5, h6, h7, h8⟩ := h
  generalize hb : sg_r1 (sx_cpS σ (135 + 11 * a) 55) 157 (upd (σ.1 157) a (nI 1)) = σb
  have e1 : ∀ k, k < 136 + 11 * a ∨ 138 + 11 * a < k → k ≠ 157 → σb.1 k = σ.1 k := by
    intro k hk h157
    rw [← hb, sg_r1_ne h157, sx_cpS_1 (by omega)]
  have e2 : ∀ k, k < 140 + 11 * a ∨ 146 + 11 * a ≤ k → σb.2 k = σ.2 k := by
    intro k hk
    rw [← hb, sg_r1_2, sx_cpS_o (by omega)]
  have e157 : σb.1 157 = upd (σ.1 157) a (nI 1) := by rw [← hb, sg_r1_eq]
  have m1 : ∀ k, k ≠ 16 → k ≠ 18 → (sm_kp μ a).1 k = μ.1 k := by
    intro k a1 a2
    unfold sm_kp; rw [sg_r1_ne a2, sg_r2_1, sg_r1_ne a1]
  have m2 : ∀ k, k ≠ 17 → (sm_kp μ a).2 k = μ.2 k := by
    intro k a1
    unfold sm_kp; rw [sg_r1_2, sg_r2_ne a1]; rfl
  have m16 : (sm_kp μ a).1 16 = sg_c1 (μ.1 16) (21 * a) 21 (fun k => μ.1 12 k) := by
    unfold sm_kp; rw [sg_r1_ne (by omega), sg_r2_1, sg_r1_eq]
  have m17 : (sm_kp μ a).2 17 = sg_c2 (μ.2 17) (102 * a) 102 (fun k => μ.2 13 k) := by
    unfold sm_kp; rw [sg_r1_2, sg_r2_eq]
  have m18 : (sm_kp μ a).1 18 = upd (μ.1 18) a (nI 1) := by unfold sm_kp; rw [sg_r1_eq]
  refine ⟨tx_Tab_of h1 (fun q hq => e1 q (by omega) (by omega)) (e2 8 (by omega)), tm_Tab_of h2 (fun q a b => m1 q (by omega) (by omega)), rl_X_c h3 (by rw [e1 46 (by omega) (by omega)]) (e1 47 (by omega) (by omega)) (by rw [m1 0 (by omega) (by omega)]) (m1 11 (by omega) (by omega)), rl_N_c h4 (fun q a b => e1 q (by omega) (by omega)) (fun q a b => e2 q (by omega)) (m1 12 (by omega) (by omega)) (m2 13 (by omega)), rl_P_c h5 (e1 66 (by omega) (by omega)) (fun q a b => ⟨e1 q (by omega) (by omega), e2 q (by omega)⟩) (by rw [m1 0 (by omega) (by omega)]) (m1 14 (by omega) (by omega)) (m2 15 (by omega)), fun q hq => ⟨?_, fun hne => ?_⟩, rl_S_c h7 (by rw [e1 158 (by omega) (by omega)]) (e1 159 (by omega) (by omega)) (e2 160 (by omega)) (by rw [m1 0 (by omega) (by omega)]) (m1 19 (by omega) (by omega)) (m2 20 (by omega)), rl_K_c h8 (e1 54 (by omega) (by omega))⟩
  · rw [m18, e157]
    by_cases e : q = a
    · subst e; rw [pk_us, pk_us]
    · rw [pk_un e, pk_un e]; exact (h6 q hq).1
  · by_cases e : q = a
    · subst e
      have cb := sx_cpS_b (σ := σ) (d := 135 + 11 * q) (e := 55)
      refine rl_B_mv h4 ?_ (fun j _ => ?_) (fun j _ => ?_) (fun r hr t _ => ?_) (fun k hk => ?_) (fun k hk => ?_)
      · rw [← hb, sg_r1_ne (by omega)]; exact cb.1
      · rw [← hb, sg_r1_ne (by omega), cb.2.1]
      · rw [← hb, sg_r1_ne (by omega), cb.2.2.1]
      · rw [← hb, sg_r1_2, cb.2.2.2 r hr]
      · rw [m16, sg_c1_in hk]
      · rw [m17, sg_c2_in hk]
    · rw [e157, pk_un e] at hne
      refine rl_B_c ((h6 q hq).2 hne) (fun k a b => e1 k (by omega) (by omega)) (fun k a b => e2 k (by omega)) (fun k hk => ?_) (fun k hk => ?_)
      · rw [m16, sg_c1_out (by omega)]
      · rw [m17, sg_c2_out (by omega)]
/-- as an image has it -/
theorem Rel_back {σ μ : sg_S} {a : Nat} (h : Rel σ μ) (ha : a < 2) (hne : σ.1 157 a ≠ 0) : Rel (sg_r1 (sx_cpS σ 55 (135 + 11 * a)) 66 (upd (σ.1 66) 2 (nI 0))) (sm_bk μ a) := by
  obtain ⟨h1, h2, h3, -, ⟨p, z, ⟨p1, p2, p3, p4⟩, -⟩, h6, h7, h8⟩ := h
  generalize hb : sg_r1 (sx_cpS σ 55 (135 + 11 * a)) 66 (upd (σ.1 66) 2 (nI 0)) = σb
  have e1 : ∀ k, k < 56 ∨ 58 < k → k ≠ 66 → σb.1 k = σ.1 k := by
    intro k hk h66
    rw [← hb, sg_r1_ne h66, sx_cpS_1 (by omega)]
  have e2 : ∀ k, k < 60 ∨ 66 ≤ k → σb.2 k = σ.2 k := by
    intro k hk
    rw [← hb, sg_r1_2, sx_cpS_o (by omega)]
  have e66 : σb.1 66 = upd (σ.1 66) 2 (nI 0) := by rw [← hb, sg_r1_eq]
  have m1 : ∀ k, k ≠ 0 → k ≠ 12 → (sm_bk μ a).1 k = μ.1 k := by
    intro k a1 a2
    unfold sm_bk; rw [sg_r1_ne a1, sg_r2_1, sg_r1_ne a2]
  have m2 : ∀ k, k ≠ 13 → (sm_bk μ a).2 k = μ.2 k := by
    intro k a1
    unfold sm_bk; rw [sg_r1_2, sg_r2_ne a1]; rfl
  have m0 : (sm_bk μ a).1 0 = upd (μ.1 0) 17 (nI 0) := by unfold sm_bk; rw [sg_r1_eq]
  refine ⟨tx_Tab_of h1 (fun q hq => e1 q (by omega) (by omega)) (e2 8 (by omega)), tm_Tab_of h2 (fun q a b => m1 q (by omega) (by omega)), rl_X_c h3 (by rw [e1 46 (by omega) (by omega)]) (e1 47 (by omega) (by omega)) (by rw [m0, pk_un (by omega)]) (m1 11 (by omega) (by omega)), ?_, ⟨p, 0, ⟨by rw [e66, pk_un (by omega)]; exact p1, p2, by rw [e66, pk_us], by omega⟩, by rw [m0, pk_us], fun i hi => absurd hi (Nat.not_lt_zero _)⟩, rl_I_c h6 (e1 157 (by omega) (by omega)) (fun q a b => ⟨e1 q (by omega) (by omega), e2 q (by omega)⟩) (m1 18 (by omega) (by omega)) (m1 16 (by omega) (by omega)) (m2 17 (by omega)), rl_S_c h7 (by rw [e1 158 (by omega) (by omega)]) (e1 159 (by omega) (by omega)) (e2 160 (by omega)) (by rw [m0, pk_un (by omega)]) (m1 19 (by omega) (by omega)) (m2 20 (by omega)), rl_K_c h8 (e1 54 (by omega) (by omega))⟩
  have cb := sx_cpS_b (σ := σ) (d := 55) (e := 135 + 11 * a)
  refine rl_B_mv ((h6 a ha).2 hne) ?_ (fun j _ => ?_) (fun j _ => ?_) (fun r hr t _ => ?_) (fun k hk => ?_) (fun k hk => ?_)
  · rw [← hb, sg_r1_ne (by omega)]; exact cb.1
  · rw [← hb, sg_r1_ne (by omega), cb.2.1]
  · rw [← hb, sg_r1_ne (by omega), cb.2.2.1]
  · rw [← hb, sg_r1_2, cb.2.2.2 r hr]
  · unfold sm_bk
    rw [sg_r1_ne (by omega), sg_r2_1, sg_r1_eq]
    have := sg_c1_in (f := μ.1 12) (g := fun k => μ.1 16 (21 * a + k)) (o := 0) hk
    rw [Nat.zero_add] at this
    exact this
  · unfold sm_bk
    rw [sg_r1_2, sg_r2_eq]
    have := sg_c2_in (f := μ.2 13) (g := fun k => μ.2 17 (102 * a + k)) (o := 0) hk
    rw [Nat.zero_add] at this
    exact this
/-- the text: empty; one letter more -/
theorem Rel_clear {σ μ : sg_S} (h : Rel σ μ) : Rel (sg_r1 σ 46 (upd (σ.1 46) 1 (nI 0))) (sg_r1 μ 0 (upd (μ.1 0) 12 (nI 0))) := by
  obtain ⟨h1, h2, ⟨x, n, t1, t2⟩, h4, h5, h6, h7, h8⟩ := h
  refine ⟨tx_Tab_of h1 (fun q hq => sg_r1_ne (by omega)) rfl, tm_Tab_of h2 (fun q a b => sg_r1_ne (by omega)), ⟨x, 0, ⟨by rw [sg_r1_eq, pk_us], by omega, fun i hi => absurd hi (Nat.not_lt_zero _)⟩, ⟨by rw [sg_r1_eq, pk_us], by omega, fun i hi => absurd hi (Nat.not_lt_zero _)⟩⟩, rl_N_c h4 (fun q a b => sg_r1_ne (by omega)) (fun _ _ _ => rfl) (sg_r1_ne (by omega)) rfl, rl_P_c h5 (sg_r1_ne (by omega)) (fun q a b => ⟨sg_r1_ne (by omega), rfl⟩) (by rw [sg_r1_eq, pk_un (by omega)]) (sg_r1_ne (by omega)) rfl, rl_I_c h6 (sg_r1_ne (by omega)) (fun q a b => ⟨sg_r1_ne (by omega), rfl⟩) (sg_r1_ne (by omega)) (sg_r1_ne (by omega)) rfl, rl_S_c h7 (by rw [sg_r1_ne (by omega)]) (sg_r1_ne (by omega)) rfl (by rw [sg_r1_eq, pk_un (by omega)]) (sg_r1_ne (by omega)) rfl, rl_K_c h8 (sg_r1_ne (by omega))⟩
theorem Rel_type {σ μ : sg_S} {x : Nat → Nat} {n c : Nat} (h : Rel σ μ) (hx : sx_tx σ x n) (hy : sm_tx μ x n) (hn : n < 160) (hc : c < 256) : Rel (sg_r1 (sg_r1 σ 47 (upd (σ.1 47) n (nI c))) 46 (upd (σ.1 46) 1 (nI (n + 1)))) (sg_r1 (sg_r1 μ 11 (upd (μ.1 11) n (nI c))) 0 (upd (μ.1 0) 12 (nI (n + 1)))) := by
  obtain ⟨h1, h2, -, h4, h5, h6, h7, h8⟩ := h
  refine ⟨tx_Tab_of h1 (fun q hq => by rw [sg_r1_ne (by omega), sg_r1_ne (by omega)]) rfl, tm_Tab_of h2 (fun q a b => by rw [sg_r1_ne (by omega), sg_r1_ne (by omega)]), ⟨t_up x n c, n + 1, ⟨by rw [sg_r1_eq, pk_us], by omega, fun i hi => ?_⟩, ⟨by rw [sg_r1_eq, pk_us], by omega, fun i hi => ?_⟩⟩, rl_N_c h4 (fun q a b => by rw [sg_r1_ne (by omega), sg_r1_ne (by omega)]) (fun _ _ _ => rfl) (by rw [sg_r1_ne (by omega), sg_r1_ne (by omega)]) rfl, rl_P_c h5 (by rw [sg_r1_ne (by omega), sg_r1_ne (by omega)]) (fun q a b => ⟨by rw [sg_r1_ne (by omega), sg_r1_ne (by omega)], rfl⟩) (by rw [sg_r1_eq, pk_un (by omega)]) (by rw [sg_r1_ne (by omega), sg_r1_ne (by omega)]) rfl, rl_I_c h6 (by rw [sg_r1_ne (by omega), sg_r1_ne (by omega)]) (fun q a b => ⟨by rw [sg_r1_ne (by omega), sg_r1_ne (by omega)], rfl⟩) (by rw [sg_r1_ne (by omega), sg_r1_ne (by omega)]) (by rw [sg_r1_ne (by omega), sg_r1_ne (by omega)]) rfl, rl_S_c h7 (by rw [sg_r1_ne (by omega), sg_r1_ne (by omega)]) (by rw [sg_r1_ne (by omega), sg_r1_ne (by omega)]) rfl (by rw [sg_r1_eq, pk_un (by omega)]) (by rw [sg_r1_ne (by omega), sg_r1_ne (by omega)]) rfl, rl_K_c h8 (by rw [sg_r1_ne (by omega), sg_r1_ne (by omega)])⟩
  · rw [sg_r1_ne (by omega), sg_r1_eq]
    by_cases e : i = n
    · subst e; rw [pk_us, t_up_s]; exact ⟨rfl, by omega⟩
    · rw [pk_un e, t_up_n e]; exact hx.2.2 i (by omega)
  · rw [sg_r1_ne (by omega), sg_r1_eq]
    by_cases e : i = n
    · subst e; rw [pk_us, t_up_s]; exact ⟨rfl, by omega⟩
    · rw [pk_un e, t_up_n e]; exact hy.2.2 i (by omega)
/-- what was seen -/
theorem Rel_forget {σ μ : sg_S} (h : Rel σ μ) : Rel (sg_r1 σ 158 (upd (σ.1 158) 2 (nI 0))) (sg_r1 μ 0 (upd (μ.1 0) 23 (nI 0))) := by
  obtain ⟨h1, h2, h3, h4, h5, h6, h7, h8⟩ := h
  refine ⟨tx_Tab_of h1 (fun q hq => sg_r1_ne (by omega)) rfl, tm_Tab_of h2 (fun q a b => sg_r1_ne (by omega)), rl_X_c h3 (by rw [sg_r1_ne (by omega)]) (sg_r1_ne (by omega)) (by rw [sg_r1_eq, pk_un (by omega)]) (sg_r1_ne (by omega)), rl_N_c h4 (fun q a b => sg_r1_ne (by omega)) (fun _ _ _ => rfl) (sg_r1_ne (by omega)) rfl, rl_P_c h5 (sg_r1_ne (by omega)) (fun q a b => ⟨sg_r1_ne (by omega), rfl⟩) (by rw [sg_r1_eq, pk_un (by omega)]) (sg_r1_ne (by omega)) rfl, rl_I_c h6 (sg_r1_ne (by omega)) (fun q a b => ⟨sg_r1_ne (by omega), rfl⟩) (sg_r1_ne (by omega)) (sg_r1_ne (by omega)) rfl, ⟨0, by omega, by rw [sg_r1_eq, pk_us], by rw [sg_r1_eq, pk_us], fun i hi => absurd hi (Nat.not_lt_zero _)⟩, rl_K_c h8 (sg_r1_ne (by omega))⟩
theorem Rel_see {σ μ : sg_S} {z t : Nat} {v : Int64} (h : Rel σ μ) (hz : z < 6) (ht : t < 17) (hx : σ.1 158 2 = nI z) (hs : ∀ i, i < z → (∃ k, k < 17 ∧ σ.1 159 i = nI k ∧ μ.1 19 i = nI k) ∧ μ.2 20 i = σ.2 160 i) : Rel (sx_see σ z (nI t) v) (sm_see μ z (nI t) v) := by
  obtain ⟨h1, h2, h3, h4, h5, h6, -, h8⟩ := h
  have e1 : ∀ k, k ≠ 158 → k ≠ 159 → (sx_see σ z (nI t) v).1 k = σ.1 k := by
    intro k a b
    unfold sx_see; rw [sg_r1_ne a, sg_r2_1, sg_r1_ne b]
  have e2 : ∀ k, k ≠ 160 → (sx_see σ z (nI t) v).2 k = σ.2 k := by
    intro k a
    unfold sx_see; rw [sg_r1_2, sg_r2_ne a]; rfl
  have m1 : ∀ k, k ≠ 0 → k ≠ 19 → (sm_see μ z (nI t) v).1 k = μ.1 k := by
    intro k a b
    unfold sm_see; rw [sg_r1_ne a, sg_r2_1, sg_r1_ne b]
  have m2 : ∀ k, k ≠ 20 → (sm_see μ z (nI t) v).2 k = μ.2 k := by
    intro k a
    unfold sm_see; rw [sg_r1_2, sg_r2_ne a]; rfl
  have m0 : (sm_see μ z (nI t) v).1 0 = upd (μ.1 0) 23 (nI (z + 1)) := by unfold sm_see; rw [sg_r1_eq]
  refine ⟨tx_Tab_of h1 (fun q hq => e1 q (by omega) (by omega)) (e2 8 (by omega)), tm_Tab_of h2 (fun q a b => m1 q (by omega) (by omega)), rl_X_c h3 (by rw [e1 46 (by omega) (by omega)]) (e1 47 (by omega) (by omega)) (by rw [m0, pk_un (by omega)]) (m1 11 (by omega) (by omega)), rl_N_c h4 (fun q a b => e1 q (by omega) (by omega)) (fun q a b => e2 q (by omega)) (m1 12 (by omega) (by omega)) (m2 13 (by omega)), rl_P_c h5 (e1 66 (by omega) (by omega)) (fun q a b => ⟨e1 q (by omega) (by omega), e2 q (by omega)⟩) (by rw [m0, pk_un (by omega)]) (m1 14 (by omega) (by omega)) (m2 15 (by omega)), rl_I_c h6 (e1 157 (by omega) (by omega)) (fun q a b => ⟨e1 q (by omega) (by omega), e2 q (by omega)⟩) (m1 18 (by omega) (by omega)) (m1 16 (by omega) (by omega)) (m2 17 (by omega)), ⟨z + 1, by omega, ?_, by rw [m0, pk_us], fun i hi => ?_⟩, rl_K_c h8 (e1 54 (by omega) (by omega))⟩
  · unfold sx_see; rw [sg_r1_eq, pk_us]
  · have a1 : (sx_see σ z (nI t) v).1 159 = upd (σ.1 159) z (nI t) := by unfold sx_see; rw [sg_r1_ne (by omega), sg_r2_1, sg_r1_eq]
    have a2 : (sx_see σ z (nI t) v).2 160 = vp_updL (σ.2 160) z v := by unfold sx_see; rw [sg_r1_2, sg_r2_eq]
    have a3 : (sm_see μ z (nI t) v).1 19 = upd (μ.1 19) z (nI t) := by unfold sm_see; rw [sg_r1_ne (by omega), sg_r2_1, sg_r1_eq]
    have a4 : (sm_see μ z (nI t) v).2 20 = vp_updL (μ.2 20) z v := by unfold sm_see; rw [sg_r1_2, sg_r2_eq]
    rw [a1, a2, a3, a4]
    by_cases e : i = z
    · subst e; rw [pk_us, pk_us, sx_vl_eq, sx_vl_eq]; exact ⟨⟨t, ht, rfl, rfl⟩, rfl⟩
    · rw [pk_un e, pk_un e, sx_vl_ne e, sx_vl_ne e]; exact hs i (by omega)
