/-! every call: the same answer, and they stand to each other as before -/
def cl_R (σ μ : sg_S) (mx mm : Nat) (Lx Lm : List Value) : Prop := ∃ (v : Int32) (σ' μ' : sg_S), sg_D tx_H mx 0 Lx [] σ (some (.int v)) σ' ∧ sg_D tm_H mm 0 Lm [] μ (some (.int v)) μ' ∧ Rel σ' μ'
def cl_RL (σ μ : sg_S) (mx mm : Nat) (Lx Lm : List Value) : Prop := ∃ (v : Int64) (σ' μ' : sg_S), sg_D tx_H mx 0 Lx [] σ (some (.long v)) σ' ∧ sg_D tm_H mm 0 Lm [] μ (some (.long v)) μ' ∧ Rel σ' μ'
section ClR
variable {σ μ : sg_S}
theorem rl_reg (h : Rel σ μ) {r : Nat} (hr : r < 6) : ∀ t, t < 17 → σ.2 (60 + r) t = sm_h μ r t := by
  intro t ht
  have := h.2.2.2.1.2.2.2.2 r hr t ht
  rw [show 55 + 5 + r = 60 + r by omega] at this
  exact this.symm
theorem rl_flow (h : Rel σ μ) : ∀ t, t < 17 → σ.2 8 t = t_fw t := fun t ht => (h.1.1 t ht).2.2.2.2.2.2.1
theorem rl_fr {μ' : sg_S} (h : Rel σ μ) (hF : sm_fr μ μ') : Rel σ μ' :=
  Rel_same h (fun _ _ => rfl) (fun _ _ => rfl) (fun k h1 h2 => hF.2.1 k (by omega) (by omega)) (fun k _ _ => by rw [hF.1]) ⟨hF.2.2 12 (by omega), hF.2.2 17 (by omega), hF.2.2 23 (by omega)⟩ h.2.2.2.2.2.2.2
theorem rl_mk (h : Rel σ μ) {p z : Nat} (hQ : rl_Q σ μ p z) (g g' : Nat → Int64) : Rel (sg_r2 σ 161 g) (sg_r2 μ 25 g') ∧ rl_Q (sg_r2 σ 161 g) (sg_r2 μ 25 g') p z :=
  ⟨Rel_same h (fun _ _ => rfl) (fun k hk => sg_r2_ne (by omega)) (fun _ _ _ => rfl) (fun k h1 h2 => sg_r2_ne (by omega)) ⟨rfl, rfl, rfl⟩ h.2.2.2.2.2.2.2, rl_Q_c hQ rfl (fun k h1 h2 => ⟨rfl, sg_r2_ne (by omega)⟩) rfl rfl (sg_r2_ne (by omega))⟩
theorem rl_st {σ1 μa μ1 : sg_S} {g' m13 : Nat → Int64} {p z r : Nat} (h : Rel σ1 μa) (hQ : rl_Q σ1 μa p z) (hN : sm_N μa μ1 z) (hr : r < 6) (hg : ∀ t, t < 17 → σ1.2 161 t = g' t) (e : μa.2 13 = m13) : Rel (sx_sto σ1 p z r) (sg_r2 μ1 13 (sg_c2 m13 (17 * r) 17 g')) := by
  have := Rel_reg (Rel_rem h hQ hN) hr hg
  rw [hN.2.1 13 (by omega), e] at this
  exact this
theorem cl_0 (h : Rel σ μ) (c : Int32) : cl_R σ μ 66 115 [.ref 0, .int c] [.ref 0, .int c] := by
  rcases sg_inout c (n := 256) (by omega) with hc | ⟨c, hc, rfl⟩
  · exact ⟨_, _, _, sx_66_bad hc, sm_115_bad hc, h⟩
  · obtain ⟨x, n, hx, hy⟩ := h.2.2.1
    have hn := hx.2.1
    by_cases h160 : n = 160
    · subst h160
      exact ⟨_, _, _, sx_66_full hc hx.1, sm_115_full hc hy.1, h⟩
    · exact ⟨_, _, _, sx_66 hc hx.1 (by omega), sm_115 hc hy.1 (by omega), Rel_type h hx hy (by omega) hc⟩
theorem cl_1 (h : Rel σ μ) : cl_R σ μ 67 116 [.ref 0] [.ref 0, ab_u] := by
  obtain ⟨x, n, hx, hy⟩ := h.2.2.1
  have k1 := sx_67 (σ := σ)
  have k2 := sm_116 (μ := μ)
  rw [hx.1] at k1
  rw [hy.1] at k2
  exact ⟨_, _, _, k1, k2, Rel_clear h⟩
theorem cl_2 (h : Rel σ μ) : cl_R σ μ 68 117 [.ref 0, ab_u] [.ref 0, ab_u, ab_u, ab_u, ab_u, ab_u, ab_u] := by
  obtain ⟨x, n, hx, hy⟩ := h.2.2.1
  obtain ⟨v, σ1, σ', μ', k1, k2, hF, hc⟩ := tr_all h.1 h.2.1 hx hy
  refine ⟨_, _, _, k1, k2, ?_⟩
  have hK : rl_K σ1 := rl_K_c h.2.2.2.2.2.2.2 (hF.2 54 (by omega) (by omega))
  rcases hc with ⟨hG, e⟩ | ⟨hG, e⟩
  · subst e
    obtain ⟨g1, g2, g3, g4⟩ := hG
    have hR : Rel σ1 (sg_r1 μ' 0 (upd (μ'.1 0) 12 (μ.1 0 12))) := Rel_same h (fun k hk => hF.2 k (by omega) (by omega)) (fun k _ => by rw [hF.1]) (fun k h1 h2 => by rw [sg_r1_ne (by omega)]; exact g2 k (by omega) (by omega)) (fun k _ _ => by rw [sg_r1_2, g1]) ⟨by rw [sg_r1_eq, pk_us], by rw [sg_r1_eq, pk_un (by omega)]; exact g3 17 (by omega) (by omega), by rw [sg_r1_eq, pk_un (by omega)]; exact g3 23 (by omega) (by omega)⟩ hK
    have hC := Rel_clear hR
    have e2 : sg_r1 (sg_r1 μ' 0 (upd (μ'.1 0) 12 (μ.1 0 12))) 0 (upd ((sg_r1 μ' 0 (upd (μ'.1 0) 12 (μ.1 0 12))).1 0) 12 (nI 0)) = μ' := by
      rw [sg_r1_r1, sg_r1_eq]
      refine sg_r1_self ?_
      funext j
      by_cases e : j = 12
      · subst e; rw [pk_us, g4]
      · rw [pk_un e, pk_un e]
    rw [e2] at hC
    exact hC
  · subst e
    exact Rel_same h (fun k hk => hF.2 k (by omega) (by omega)) (fun k _ => by rw [hF.1]) (fun k h1 h2 => hG.2.1 k (by omega) (by omega)) (fun k _ _ => by rw [hG.1]) ⟨hG.2.2 12 (by omega), hG.2.2 17 (by omega), hG.2.2 23 (by omega)⟩ hK
theorem cl_3 (h : Rel σ μ) : cl_R σ μ 69 122 [.ref 0, ab_u] [.ref 0, ab_u, ab_u] := by
  obtain ⟨x, n, hx, hy⟩ := h.2.2.1
  obtain ⟨p, q, z, e1, e3, e4, hz⟩ := h.2.2.2.2.2.2.2
  obtain ⟨P, Z, hQ⟩ := h.2.2.2.2.1
  have same : ∀ (σ1 μ1 : sg_S) (T : Nat × Int32 × Nat × Nat) (it it' s : Nat) (t : Nat → Int32), sx_R σ σ1 T it s t → T.2.2.2 ≤ 1000 → sm_R μ μ1 T it' s t → Rel σ1 μ1 ∧ rl_Q σ1 μ1 P Z := by
    intro σ1 μ1 T it it' s t hR hT hM
    refine ⟨Rel_same h (fun k hk => hR.2.1 k (by omega)) (fun k _ => by rw [hR.1]) (fun k h1 h2 => hM.1.2.1 k (by omega) (by omega)) (fun k _ _ => by rw [hM.1.1]) ⟨hM.1.2.2.1 12 (by omega), hM.1.2.2.1 17 (by omega), hM.1.2.2.1 23 (by omega)⟩ ⟨_, _, _, hR.2.2.1.1, hR.2.2.1.2.2.1, hR.2.2.1.2.2.2, hT⟩, rl_Q_c hQ (hR.2.1 66 (by omega)) (fun k h1 h2 => ⟨hR.2.1 k (by omega), by rw [hR.1]⟩) (hM.1.2.2.1 17 (by omega)) (hM.1.2.1 14 (by omega) (by omega)) (by rw [hM.1.1])⟩
  by_cases hok : (rd_all x n z).1 = true
  · obtain ⟨σ1, k1, hR, ho, hs, hs4⟩ := sx_69_1 hx e1 e3 e4 hz hQ.1 hok
    obtain ⟨μ1, μ2, it', hM, hN, k2⟩ := sm_122_1 hy hz hQ.2.1 hQ.1.2.2.2 hok
    obtain ⟨r1, q1⟩ := same σ1 μ1 _ _ _ _ _ hR ho.2.1 hM
    have r2 := Rel_rem r1 q1 hN
    have c51 : ∀ k, k = 51 ∨ k = 52 ∨ k = 53 → (sx_rem σ1 P Z).1 k = σ1.1 k := fun k hk => sx_rem_1 (by omega) (by omega)
    have c24 : μ2.1 24 = μ1.1 24 := hN.1 24 (by omega) (by omega)
    have r3 := Rel_method r2 hs hs4 (by rw [c51 51 (by omega)]; exact hR.2.2.2.2.1) (fun j hj => by rw [c51 52 (by omega)]; exact hR.2.2.2.2.2.1 j hj) (fun j hj => by rw [c51 53 (by omega)]; exact hR.2.2.2.2.2.2 j hj) (by rw [c24]; exact hM.1.2.2.2.2.1) (fun j h1 h2 => by rw [c24]; exact hM.1.2.2.2.2.2 j h1 h2)
    have r4 := Rel_clear r3
    have c46 : (sx_cpM (sx_rem σ1 P Z) 56 51).1 46 = σ.1 46 := by
      unfold sx_cpM
      rw [sg_r1_ne (by omega), sg_r1_ne (by omega), sg_r1_ne (by omega), sx_rem_1 (by omega) (by omega)]
      exact hR.2.1 46 (by omega)
    rw [c46, sg_r1_ne (show (0 : Nat) ≠ 12 by omega)] at r4
    exact ⟨_, _, _, k1, k2, r4⟩
  · have hok' : (rd_all x n z).1 = false := by
      cases hb : (rd_all x n z).1 with
      | true => exact absurd hb hok
      | false => rfl
    obtain ⟨σ1, k1, hR, ho⟩ := sx_69_0 hx e1 e3 e4 hz hok'
    obtain ⟨μ1, it', hM, k2⟩ := sm_122_0 hy hz hok'
    exact ⟨_, _, _, k1, k2, (same σ1 μ1 _ _ _ _ _ hR ho.2.1 hM).1⟩
theorem sx_has_c {s : Nat} {i j : Int32} (hs4 : s ≤ 4) (h : sx_has (nI s) i j) : ∃ a, a < s ∧ i = nI a ∧ (j = -1 ∨ ∃ b, b < s ∧ j = nI b) := by
  obtain ⟨h1, h2, h3, h4⟩ := h
  obtain ⟨a, ha, e⟩ := nI_of h1
  subst e
  refine ⟨a, ?_, rfl, ?_⟩
  · rcases Nat.lt_or_ge a s with q | q
    · exact q
    · exact absurd (nI_le q ha) h2
  · by_cases hj : j < 0
    · left
      have a1 := Int32.lt_iff_toInt_lt.mp hj
      have a2 := Int32.le_iff_toInt_le.mp (Int32.not_lt.mp h3)
      have z0 : (0 : Int32).toInt = 0 := rfl
      have z1 : (-1 : Int32).toInt = -1 := rfl
      rw [← Int32.toInt_inj, z1]
      omega
    · right
      obtain ⟨b, hb, e⟩ := nI_of hj
      subst e
      refine ⟨b, ?_, rfl⟩
      rcases Nat.lt_or_ge b s with q | q
      · exact q
      · exact absurd (nI_le q hb) h4
theorem cl_4 (h : Rel σ μ) (i j v : Int32) : cl_R σ μ 70 126 [.ref 0, .int i, .int j, .int v, ab_u] [.ref 0, .int i, .int j, .int v, ab_u, ab_u] := by
  obtain ⟨⟨s, hs, hs4, es⟩, b2, b3, b4, -⟩ := h.2.2.2.1
  have es' : σ.1 56 0 = nI s := es
  have em : μ.1 12 0 = nI s := b2.trans es
  obtain ⟨P, Z, hQ⟩ := h.2.2.2.2.1
  by_cases hh : sx_has (nI s) i j
  · by_cases hv : v < -600 ∨ ¬ v ≤ nI 600
    · have k1 := sx_70_bad1 (σ := σ) (i := i) (j := j) (by rw [es']; exact hh) hv
      obtain ⟨a, ha, rfl, hj⟩ := sx_has_c hs4 hh
      rcases hj with rfl | ⟨b, hb, rfl⟩
      · exact ⟨_, _, _, k1, sm_126_bad1 (by omega) (sm_125_b em hs hs4 ha) hv, h⟩
      · exact ⟨_, _, _, k1, sm_126_bad1 (by omega) (sm_125_a em hs hs4 ha hb) hv, h⟩
    · have h1 : ¬ v < -600 := fun z => hv (Or.inl z)
      have h2 : v ≤ nI 600 := Decidable.byContradiction (fun z => hv (Or.inr z))
      obtain ⟨a, ha, rfl, hj⟩ := sx_has_c hs4 hh
      rcases hj with rfl | ⟨b, hb, rfl⟩
      · have eb : μ.1 12 (17 + a) = σ.1 58 a := b4 a (by omega)
        by_cases hq : σ.1 58 a = v
        · exact ⟨_, _, _, sx_70_b_st es' hs4 ha h1 h2 hq, sm_126_st (by omega) (sm_125_b em hs hs4 ha) h1 h2 (eb.trans hq), h⟩
        · obtain ⟨μ1, hN, k2⟩ := sm_126 hQ.2.1 hQ.1.2.2.2 (by omega) (sm_125_b em hs hs4 ha) h1 h2 (fun z => hq (eb.symm.trans z))
          have k1 := sx_70_b hQ.1 es' hs4 ha h1 h2 hq
          rw [eb] at k2
          have r := Rel_b (i := a) (v := v) (Rel_rem h hQ hN) (by omega)
          rw [sx_rem_1 (by omega) (by omega), hN.1 12 (by omega) (by omega)] at r
          exact ⟨_, _, _, k1, k2, r⟩
      · have eb : μ.1 12 (1 + 4 * a + b) = σ.1 57 (a * 4 + b) := by
          have := b3 (a * 4 + b) (by omega)
          rw [show 1 + (a * 4 + b) = 1 + 4 * a + b by omega] at this
          exact this
        by_cases hq : σ.1 57 (a * 4 + b) = v
        · exact ⟨_, _, _, sx_70_a_st es' hs4 ha hb h1 h2 hq, sm_126_st (by omega) (sm_125_a em hs hs4 ha hb) h1 h2 (eb.trans hq), h⟩
        · obtain ⟨μ1, hN, k2⟩ := sm_126 hQ.2.1 hQ.1.2.2.2 (by omega) (sm_125_a em hs hs4 ha hb) h1 h2 (fun z => hq (eb.symm.trans z))
          have k1 := sx_70_a hQ.1 es' hs4 ha hb h1 h2 hq
          rw [eb] at k2
          have r := Rel_a (i := a) (j := b) (v := v) (Rel_rem h hQ hN) (by omega) (by omega)
          rw [sx_rem_1 (by omega) (by omega), hN.1 12 (by omega) (by omega)] at r
          exact ⟨_, _, _, k1, k2, r⟩
  · exact ⟨_, _, _, sx_70_bad0 (by rw [es']; exact hh), sm_126_bad0 (sm_125_bad em hs hs4 hh), h⟩
theorem cl_5 (h : Rel σ μ) (r : Int32) : cl_R σ μ 71 138 [.ref 0, .int r] [.ref 0, .int r] := by
  rcases sg_inout r (n := 6) (by omega) with hr | ⟨r, hr, rfl⟩
  · exact ⟨_, _, _, sx_71_bad hr, sm_138_bad0 hr, h⟩
  · obtain ⟨⟨s, hs, hs4, es⟩, b2, b3, b4, -⟩ := h.2.2.2.1
    obtain ⟨P, Z, hQ⟩ := h.2.2.2.2.1
    obtain ⟨σ1, hI, k1⟩ := sx_71 h.1 hQ.1 hr es hs4
    obtain ⟨μa, μ1, hJ, hN, k2⟩ := sm_138 h.2.1 hQ.2.1 hQ.1.2.2.2 hr (b2.trans es) hs4
    have hA : ∀ j k, j < s → k < s → sx_A σ j k = sm_A μ j k := by
      intro j k hj hk
      unfold sx_A sm_A
      have := b3 (j * 4 + k) (by omega)
      rw [show 1 + (j * 4 + k) = 1 + 4 * j + k by omega] at this
      rw [this]
    have hB : ∀ j, j < s → sx_B σ j = sm_B μ j := by
      intro j hj
      unfold sx_B sm_B
      rw [b4 j (by omega)]
    have hg : ∀ t, t < 17 → σ1.2 161 t = μa.2 25 t := by
      intro t ht
      rw [hI.2.2.2 t ht, hJ.2.2.2 t ht]
      exact t_sm_congr _ _ _ (fun i _ hi => ⟨hB i (by omega), t_w_congr hA 17 i t (by omega)⟩)
    have e : sx_lk (μa.2 25) t_fw 17 0 = sx_lk (σ1.2 161) (σ.2 8) 17 0 := sx_lk_congr 17 0 (fun k _ hk => ⟨(hg k (by omega)).symm, (rl_flow h k (by omega)).symm⟩)
    rw [e] at k2
    have r1 : Rel σ1 μa := Rel_same h (fun k _ => by rw [hI.1]) (fun k hk => hI.2.1 k (by omega)) (fun k _ _ => by rw [hJ.1]) (fun k h1 h2 => hJ.2.1 k (by omega) (by omega)) ⟨by rw [hJ.1], by rw [hJ.1], by rw [hJ.1]⟩ (rl_K_c h.2.2.2.2.2.2.2 (by rw [hI.1]))
    have q1 : rl_Q σ1 μa P Z := rl_Q_c hQ (by rw [hI.1]) (fun k h1 h2 => ⟨by rw [hI.1], hI.2.1 k (by omega)⟩) (by rw [hJ.1]) (by rw [hJ.1]) (hJ.2.1 15 (by omega) (by omega))
    exact ⟨_, _, _, k1, k2, rl_st r1 q1 hN hr hg (hJ.2.1 13 (by omega) (by omega))⟩
theorem cl_6 (h : Rel σ μ) (r : Int32) : cl_R σ μ 72 139 [.ref 0, .int r] [.ref 0, .int r, ab_u] := by
  rcases sg_inout r (n := 6) (by omega) with hr | ⟨r, hr, rfl⟩
  · exact ⟨_, _, _, sx_72_bad hr, sm_139_bad0 hr, h⟩
  · obtain ⟨P, Z, hQ⟩ := h.2.2.2.2.1
    have e : sx_fu (σ.2 (60 + r)) (σ.2 8) 17 0 = sx_fu (sm_h μ r) t_fw 17 0 := sx_fu_congr 17 0 (fun k _ hk => ⟨rl_reg h hr k (by omega), rl_flow h k (by omega)⟩)
    have h5 := sx_lk_5 (P := sm_h μ r) (Q := t_fw)
    by_cases hf : sx_fu (sm_h μ r) t_fw 17 0 = -9
    · exact ⟨_, _, _, sx_72_st hr (e.trans hf), sm_139_st h.2.1 hr (h5.1.mpr hf), h⟩
    · have k1 := sx_72 h.1 hQ.1 hr (fun z => hf (e.symm.trans z))
      obtain ⟨μ1, hN, k2⟩ := sm_139 h.2.1 hQ.2.1 hQ.1.2.2.2 hr (fun z => hf (h5.1.mp z)) h5.2 rfl
      obtain ⟨r1, q1⟩ := rl_mk h hQ (σ.2 8) (sg_c2 (μ.2 25) 0 17 t_fw)
      refine ⟨_, _, _, k1, k2, rl_st r1 q1 hN hr (fun t ht => ?_) (sg_r2_ne (by omega))⟩
      rw [sg_r2_eq, rl_flow h t ht]
      have := sg_c2_in (f := μ.2 25) (g := t_fw) (o := 0) ht
      rw [Nat.zero_add] at this
      exact this.symm
theorem cl_7 (h : Rel σ μ) (r a b : Int32) : cl_R σ μ 73 140 [.ref 0, .int r, .int a, .int b] [.ref 0, .int r, .int a, .int b] := by
  rcases sg_inout r (n := 6) (by omega) with hr | ⟨r, hr, rfl⟩
  · exact ⟨_, _, _, sx_73_bad0 hr, sm_140_bad0 hr, h⟩
  rcases sg_inout a (n := 6) (by omega) with ha | ⟨a, ha, rfl⟩
  · exact ⟨_, _, _, sx_73_bad1 hr ha, sm_140_bad1 hr ha, h⟩
  rcases sg_inout b (n := 6) (by omega) with hb | ⟨b, hb, rfl⟩
  · exact ⟨_, _, _, sx_73_bad2 hr ha hb, sm_140_bad2 hr ha hb, h⟩
  obtain ⟨P, Z, hQ⟩ := h.2.2.2.2.1
  have k1 := sx_73 h.1 hQ.1 hr ha hb
  obtain ⟨μ1, hN, k2⟩ := sm_140 h.2.1 hQ.2.1 hQ.1.2.2.2 hr ha hb rfl
  obtain ⟨r1, q1⟩ := rl_mk h hQ (sx_mul (σ.2 (60 + a)) (σ.2 (60 + b)) (σ.2 161) 17) (sx_mul (sm_h μ a) (sm_h μ b) (μ.2 25) 17)
  have hg : ∀ t, t < 17 → sx_mul (σ.2 (60 + a)) (σ.2 (60 + b)) (σ.2 161) 17 t = sx_mul (sm_h μ a) (sm_h μ b) (μ.2 25) 17 t := fun t ht => sx_mul_congr (rl_reg h ha) (rl_reg h hb) t ht
  have e : sx_lk (sx_mul (sm_h μ a) (sm_h μ b) (μ.2 25) 17) t_fw 17 0 = sx_lk (sx_mul (σ.2 (60 + a)) (σ.2 (60 + b)) (σ.2 161) 17) (σ.2 8) 17 0 := sx_lk_congr 17 0 (fun k _ hk => ⟨(hg k (by omega)).symm, (rl_flow h k (by omega)).symm⟩)
  rw [e] at k2
  exact ⟨_, _, _, k1, k2, rl_st r1 q1 hN hr (fun t ht => by rw [sg_r2_eq]; exact hg t ht) (sg_r2_ne (by omega))⟩
theorem cl_8 (h : Rel σ μ) (r a : Int32) : cl_R σ μ 74 141 [.ref 0, .int r, .int a] [.ref 0, .int r, .int a] := by
  rcases sg_inout r (n := 6) (by omega) with hr | ⟨r, hr, rfl⟩
  · exact ⟨_, _, _, sx_74_bad0 hr, sm_141_bad0 hr, h⟩
  rcases sg_inout a (n := 6) (by omega) with ha | ⟨a, ha, rfl⟩
  · exact ⟨_, _, _, sx_74_bad1 hr ha, sm_141_bad1 hr ha, h⟩
  obtain ⟨P, Z, hQ⟩ := h.2.2.2.2.1
  have k1 := sx_74 h.1 hQ.1 hr ha
  obtain ⟨μ1, hN, k2⟩ := sm_141 h.2.1 hQ.2.1 hQ.1.2.2.2 hr ha rfl
  obtain ⟨r1, q1⟩ := rl_mk h hQ (t_iv (σ.2 (60 + a)) (σ.2 161) 17) (t_iv (sm_h μ a) (μ.2 25) 17)
  have hg : ∀ t, t < 17 → t_iv (σ.2 (60 + a)) (σ.2 161) 17 t = t_iv (sm_h μ a) (μ.2 25) 17 t := fun t ht => t_iv_congr (rl_reg h ha) 17 (by omega) t ht
  have e : sx_lk (t_iv (sm_h μ a) (μ.2 25) 17) t_fw 17 0 = sx_lk (t_iv (σ.2 (60 + a)) (σ.2 161) 17) (σ.2 8) 17 0 := sx_lk_congr 17 0 (fun k _ hk => ⟨(hg k (by omega)).symm, (rl_flow h k (by omega)).symm⟩)
  rw [e] at k2
  exact ⟨_, _, _, k1, k2, rl_st r1 q1 hN hr (fun t ht => by rw [sg_r2_eq]; exact hg t ht) (sg_r2_ne (by omega))⟩
theorem cl_9 (h : Rel σ μ) (r a c : Int32) : cl_R σ μ 75 142 [.ref 0, .int r, .int a, .int c] [.ref 0, .int r, .int a, .int c] := by
  rcases sg_inout r (n := 6) (by omega) with hr | ⟨r, hr, rfl⟩
  · exact ⟨_, _, _, sx_75_bad0 hr, sm_142_bad0 hr, h⟩
  rcases sg_inout a (n := 6) (by omega) with ha | ⟨a, ha, rfl⟩
  · exact ⟨_, _, _, sx_75_bad1 hr ha, sm_142_bad1 hr ha, h⟩
  by_cases hc : c < -3 ∨ ¬ c ≤ nI 3
  · exact ⟨_, _, _, sx_75_bad2 hr ha hc, sm_142_bad2 hr ha hc, h⟩
  have h1 : ¬ c < -3 := fun z => hc (Or.inl z)
  have h2 : c ≤ nI 3 := Decidable.byContradiction (fun z => hc (Or.inr z))
  obtain ⟨P, Z, hQ⟩ := h.2.2.2.2.1
  have k1 := sx_75 h.1 hQ.1 hr ha h1 h2
  generalize hf : sg_c2 (μ.2 25) 0 17 (fun k => μ.2 13 (17 * a + k)) = f
  obtain ⟨μ1, hN, k2⟩ := sm_142 h.2.1 hQ.2.1 hQ.1.2.2.2 hr ha h1 h2 hf.symm rfl
  obtain ⟨r1, q1⟩ := rl_mk h hQ (sx_str (σ.2 (60 + a)) c.toInt64 (σ.2 161) 17) (sx_str f c.toInt64 f 17)
  have hg : ∀ t, t < 17 → sx_str (σ.2 (60 + a)) c.toInt64 (σ.2 161) 17 t = sx_str f c.toInt64 f 17 t := by
    intro t ht
    refine sx_str_congr ht ?_
    rw [← hf, rl_reg h ha t ht]
    have := sg_c2_in (f := μ.2 25) (g := fun k => μ.2 13 (17 * a + k)) (o := 0) ht
    rw [Nat.zero_add] at this
    exact this.symm
  have e : sx_lk (sx_str f c.toInt64 f 17) t_fw 17 0 = sx_lk (sx_str (σ.2 (60 + a)) c.toInt64 (σ.2 161) 17) (σ.2 8) 17 0 := sx_lk_congr 17 0 (fun k _ hk => ⟨(hg k (by omega)).symm, (rl_flow h k (by omega)).symm⟩)
  rw [e] at k2
  exact ⟨_, _, _, k1, k2, rl_st r1 q1 hN hr (fun t ht => by rw [sg_r2_eq]; exact hg t ht) (sg_r2_ne (by omega))⟩
theorem cl_10 (h : Rel σ μ) (r a : Int32) : cl_R σ μ 76 143 [.ref 0, .int r, .int a, ab_u] [.ref 0, .int r, .int a, ab_u, ab_u] := by
  rcases sg_inout r (n := 6) (by omega) with hr | ⟨r, hr, rfl⟩
  · exact ⟨_, _, _, sx_76_bad0 hr, sm_143_bad0 hr, h⟩
  rcases sg_inout a (n := 6) (by omega) with ha | ⟨a, ha, rfl⟩
  · exact ⟨_, _, _, sx_76_bad1 hr ha, sm_143_bad1 hr ha, h⟩
  obtain ⟨P, Z, hQ⟩ := h.2.2.2.2.1
  generalize hg1 : sx_str (t_iv (σ.2 (60 + a)) (σ.2 161) 17) (Int32.toInt64 (-1)) (t_iv (σ.2 (60 + a)) (σ.2 161) 17) 17 = g1
  generalize hf : t_iv (sm_h μ a) (μ.2 25) 17 = f
  generalize hg2 : sx_str f (-1) f 17 = g2
  have k1 := sx_76 h.1 hQ.1 hr ha hg1.symm
  obtain ⟨μ1, hN, k2⟩ := sm_143 h.2.1 hQ.2.1 hQ.1.2.2.2 hr ha hf.symm hg2.symm
  obtain ⟨r1, q1⟩ := rl_mk h hQ g1 g2
  have hg : ∀ t, t < 17 → g1 t = g2 t := by
    intro t ht
    rw [← hg1, ← hg2, show Int32.toInt64 (-1) = -1 from rfl]
    refine sx_str_congr ht ?_
    rw [← hf]
    exact t_iv_congr (rl_reg h ha) 17 (by omega) t ht
  have e : sx_lk g2 (sm_h μ a) 17 0 = sx_lk g1 (σ.2 (60 + a)) 17 0 := sx_lk_congr 17 0 (fun k _ hk => ⟨(hg k (by omega)).symm, (rl_reg h ha k (by omega)).symm⟩)
  rw [e] at k2
  exact ⟨_, _, _, k1, k2, rl_st r1 q1 hN hr (fun t ht => by rw [sg_r2_eq]; exact hg t ht) (sg_r2_ne (by omega))⟩
theorem cl_11 (h : Rel σ μ) (r t v : Int32) : cl_R σ μ 77 144 [.ref 0, .int r, .int t, .int v] [.ref 0, .int r, .int t, .int v] := by
  rcases sg_inout r (n := 6) (by omega) with hr | ⟨r, hr, rfl⟩
  · exact ⟨_, _, _, sx_77_bad0 hr, sm_144_bad0 hr, h⟩
  rcases sg_inout t (n := 17) (by omega) with ht | ⟨t, ht, rfl⟩
  · exact ⟨_, _, _, sx_77_bad1 hr ht, sm_144_bad1 hr ht, h⟩
  obtain ⟨P, Z, hQ⟩ := h.2.2.2.2.1
  have e : μ.2 13 (17 * r + t) = σ.2 (60 + r) t := (rl_reg h hr t ht).symm
  by_cases hv : σ.2 (60 + r) t = v.toInt64
  · exact ⟨_, _, _, sx_77_st hr ht hv, sm_144_st hr ht (e.trans hv), h⟩
  · obtain ⟨μ1, hN, k2⟩ := sm_144 hQ.2.1 hQ.1.2.2.2 hr ht (fun z => hv (e.symm.trans z))
    have rr := Rel_put (v := v.toInt64) (Rel_rem h hQ hN) hr ht
    rw [sx_rem_2 (by omega), hN.2.1 13 (by omega)] at rr
    exact ⟨_, _, _, sx_77 hQ.1 hr ht hv, k2, rr⟩
theorem cl_12 (h : Rel σ μ) : cl_R σ μ 78 124 [.ref 0] [.ref 0, ab_u] := by
  obtain ⟨P, Z, hQ⟩ := h.2.2.2.2.1
  cases Z with
  | zero => exact ⟨_, _, _, sx_78_0 hQ.1.2.2.1, sm_124_0 hQ.2.1, h⟩
  | succ Z =>
    have h6 := hQ.1.2.2.2
    exact ⟨_, _, _, sx_78 hQ.1.1 hQ.1.2.1 hQ.1.2.2.1 h6, sm_124 hQ.2.1 (by omega), Rel_undo h hQ⟩
theorem cl_13 (h : Rel σ μ) (r t : Int32) : cl_RL σ μ 79 145 [.ref 0, .int r, .int t] [.ref 0, .int r, .int t] := by
  rcases sg_inout r (n := 6) (by omega) with hr | ⟨r, hr, rfl⟩
  · exact ⟨_, _, _, sx_79_bad0 hr, sm_145_bad0 hr, h⟩
  rcases sg_inout t (n := 17) (by omega) with ht | ⟨t, ht, rfl⟩
  · exact ⟨_, _, _, sx_79_bad1 hr ht, sm_145_bad1 hr ht, h⟩
  have k2 := sm_145 (μ := μ) hr ht
  rw [show μ.2 13 (17 * r + t) = σ.2 (60 + r) t from (rl_reg h hr t ht).symm] at k2
  exact ⟨_, _, _, sx_79 hr ht, k2, h⟩
theorem cl_14 (h : Rel σ μ) (i j : Int32) : cl_R σ μ 80 127 [.ref 0, .int i, .int j] [.ref 0, .int i, .int j, ab_u] := by
  obtain ⟨⟨s, hs, hs4, es⟩, b2, b3, b4, -⟩ := h.2.2.2.1
  have es' : σ.1 56 0 = nI s := es
  have em : μ.1 12 0 = nI s := b2.trans es
  by_cases hh : sx_has (nI s) i j
  · obtain ⟨a, ha, rfl, hj⟩ := sx_has_c hs4 hh
    rcases hj with rfl | ⟨b, hb, rfl⟩
    · have k2 := sm_127 (by omega) (sm_125_b em hs hs4 ha)
      rw [show μ.1 12 (17 + a) = σ.1 58 a from b4 a (by omega)] at k2
      exact ⟨_, _, _, sx_80_b es' hs4 ha, k2, h⟩
    · have k2 := sm_127 (by omega) (sm_125_a em hs hs4 ha hb)
      have eb : μ.1 12 (1 + 4 * a + b) = σ.1 57 (a * 4 + b) := by
        have := b3 (a * 4 + b) (by omega)
        rw [show 1 + (a * 4 + b) = 1 + 4 * a + b by omega] at this
        exact this
      rw [eb] at k2
      exact ⟨_, _, _, sx_80_a es' hs4 ha hb, k2, h⟩
  · exact ⟨_, _, _, sx_80_bad (by rw [es']; exact hh), sm_127_bad (sm_125_bad em hs hs4 hh), h⟩
theorem cl_15 (h : Rel σ μ) (a k : Int32) : cl_R σ μ 81 110 [.ref 0, .int a, .int k] [.ref 0, .int a, .int k] := by
  rcases sg_inout a (n := 17) (by omega) with ha | ⟨a, ha, rfl⟩
  · exact ⟨_, _, _, sx_81_bad0 ha, sm_110_bad0 ha, h⟩
  rcases sg_inout k (n := 7) (by omega) with hk | ⟨k, hk, rfl⟩
  · exact ⟨_, _, _, sx_81_out ha hk, sm_110_out ha hk, h⟩
  match k, hk with
  | 0, _ => exact ⟨_, _, _, sx_81_0 h.1 ha, sm_110_0 h.2.1 ha, h⟩
  | 1, _ => exact ⟨_, _, _, sx_81_1 h.1 ha, sm_110_1 h.2.1 ha, h⟩
  | 2, _ => exact ⟨_, _, _, sx_81_2 h.1 ha, sm_110_2 h.2.1 ha, h⟩
  | 3, _ => exact ⟨_, _, _, sx_81_3 h.1 ha, sm_110_3 h.2.1 ha, h⟩
  | 4, _ => exact ⟨_, _, _, sx_81_4 h.1 ha, sm_110_4 h.2.1 ha, h⟩
  | 5, _ => exact ⟨_, _, _, sx_81_5 h.1 ha, sm_110_5 h.2.1 ha, h⟩
  | 6, _ => exact ⟨_, _, _, sx_81_6 h.1 ha, sm_110_6 h.2.1 ha, h⟩
theorem cl_16 (h : Rel σ μ) (a k : Int32) : cl_R σ μ 82 111 [.ref 0, .int a, .int k] [.ref 0, .int a, .int k] := by
  rcases sg_inout a (n := 17) (by omega) with ha | ⟨a, ha, rfl⟩
  · exact ⟨_, _, _, sx_82_bad0 ha, sm_111_bad0 ha, h⟩
  by_cases hk : k < 0
  · exact ⟨_, _, _, sx_82_neg ha hk, sm_111_neg ha hk, h⟩
  obtain ⟨k, hk31, rfl⟩ := nI_of hk
  have k1 := sx_82 (σ := σ) ha hk31
  rw [t_cc_all ha] at k1
  exact ⟨_, _, _, k1, sm_111 h.2.1 ha hk31, h⟩
theorem cl_17 (h : Rel σ μ) (t k i : Int32) : cl_R σ μ 83 112 [.ref 0, .int t, .int k, .int i, ab_u] [.ref 0, .int t, .int k, .int i, ab_u] := by
  rcases sg_inout t (n := 17) (by omega) with ht | ⟨t, ht, rfl⟩
  · exact ⟨_, _, _, sx_83_bad0 ht, sm_112_bad0 ht, h⟩
  by_cases hk : k < 0
  · exact ⟨_, _, _, sx_83_bad1 ht hk, sm_112_bad1 ht hk, h⟩
  by_cases hi : i < -1
  · exact ⟨_, _, _, sx_83_bad2 ht hk hi, sm_112_bad2 ht hk hi, h⟩
  by_cases hm : nI (t_mn t) ≤ k
  · exact ⟨_, _, _, sx_83_none h.1 ht hk hi hm, sm_112_none h.2.1 ht hk hi hm, h⟩
  obtain ⟨k, hk31, rfl⟩ := nI_of hk
  have hs := tb_st1 t ht
  have hkm : k < t_mn t := by
    rcases Nat.lt_or_ge k (t_mn t) with q | q
    · exact q
    · exact absurd (nI_le q hk31) hm
  have hp := tb_lf1 (t_st t + k) (by omega)
  by_cases hi0 : i < 0
  · have : i = -1 := by
      have a1 := Int32.lt_iff_toInt_lt.mp hi0
      have a2 := Int32.le_iff_toInt_le.mp (Int32.not_lt.mp hi)
      have z0 : (0 : Int32).toInt = 0 := rfl
      have z1 : (-1 : Int32).toInt = -1 := rfl
      rw [← Int32.toInt_inj, z1]
      omega
    subst this
    exact ⟨_, _, _, sx_83_left h.1 ht hkm, sm_112_left h.2.1 ht hkm, h⟩
  · by_cases hpi : nI (t_pr (t_st t + k)) ≤ i
    · exact ⟨_, _, _, sx_83_i h.1 ht hkm hi0 (sx_5_out h.1 (by omega) hpi), sm_112_out h.2.1 ht hkm hi0 hpi, h⟩
    · obtain ⟨i, hi31, rfl⟩ := nI_of hi0
      have hip : i < t_pr (t_st t + k) := by
        rcases Nat.lt_or_ge i (t_pr (t_st t + k)) with q | q
        · exact q
        · exact absurd (nI_le q hi31) hpi
      exact ⟨_, _, _, sx_83_i h.1 ht hkm hi0 (sx_5_in h.1 (by omega) hip), sm_112_in h.2.1 ht hkm hip, h⟩
theorem cl_18 (h : Rel σ μ) (a b : Int32) : cl_R σ μ 84 113 [.ref 0, .int a, .int b] [.ref 0, .int a, .int b] := by
  rcases sg_inout a (n := 17) (by omega) with ha | ⟨a, ha, rfl⟩
  · exact ⟨_, _, _, sx_84_bad0 ha, sm_113_bad0 ha, h⟩
  rcases sg_inout b (n := 17) (by omega) with hb | ⟨b, hb, rfl⟩
  · exact ⟨_, _, _, sx_84_bad1 ha hb, sm_113_bad1 ha hb, h⟩
  obtain ⟨μ', k2, hF⟩ := sm_113 h.2.1 ha hb
  exact ⟨_, _, _, sx_84 h.1 ha hb, k2, rl_fr h hF⟩
theorem cl_19 (h : Rel σ μ) (a b : Int32) : cl_R σ μ 85 114 [.ref 0, .int a, .int b] [.ref 0, .int a, .int b, ab_u, ab_u] := by
  rcases sg_inout a (n := 17) (by omega) with ha | ⟨a, ha, rfl⟩
  · exact ⟨_, _, _, sx_85_bad0 ha, sm_114_bad0 ha, h⟩
  rcases sg_inout b (n := 17) (by omega) with hb | ⟨b, hb, rfl⟩
  · exact ⟨_, _, _, sx_85_bad1 ha hb, sm_114_bad1 ha hb, h⟩
  exact ⟨_, _, _, sx_85 h.1 ha hb, sm_114 h.2.1 ha hb, h⟩
theorem cl_20 (h : Rel σ μ) (a k : Int32) : cl_R σ μ 86 148 [.ref 0, .int a, .int k] [.ref 0, .int a, .int k] := by
  rcases sg_inout a (n := 6) (by omega) with ha | ⟨a, ha, rfl⟩
  · exact ⟨_, _, _, sx_86_bad0 ha, sm_148_bad0 ha, h⟩
  rcases sg_inout k (n := 3) (by omega) with hk | ⟨k, hk, rfl⟩
  · exact ⟨_, _, _, sx_86_out ha hk, sm_148_out ha hk, h⟩
  match k, hk with
  | 0, _ =>
    have k1 := sx_86_0 h.1 ha
    rw [sx_lk_congr (P' := sm_h μ a) (Q' := t_fw) 17 0 (fun k _ hk => ⟨rl_reg h ha k (by omega), rl_flow h k (by omega)⟩)] at k1
    exact ⟨_, _, _, k1, sm_148_0 h.2.1 ha, h⟩
  | 1, _ =>
    have k1 := sx_86_1 (σ := σ) ha
    rw [sx_fu_congr (P' := sm_h μ a) (Q' := t_fw) 17 0 (fun k _ hk => ⟨rl_reg h ha k (by omega), rl_flow h k (by omega)⟩)] at k1
    exact ⟨_, _, _, k1, sm_148_1 h.2.1 ha, h⟩
  | 2, _ =>
    have k1 := sx_86_2 h.1 ha
    rw [t_fb_congr (P' := sm_h μ a) (rl_reg h ha) 289 0 0 (by omega) (by omega) (by omega)] at k1
    obtain ⟨μ', hF, k2⟩ := sm_148_2 h.2.1 ha
    exact ⟨_, _, _, k1, k2, rl_fr h hF⟩
theorem cl_21 (h : Rel σ μ) (a b : Int32) : cl_R σ μ 87 149 [.ref 0, .int a, .int b] [.ref 0, .int a, .int b, ab_u, ab_u] := by
  rcases sg_inout a (n := 6) (by omega) with ha | ⟨a, ha, rfl⟩
  · exact ⟨_, _, _, sx_87_bad0 ha, sm_149_bad0 ha, h⟩
  rcases sg_inout b (n := 6) (by omega) with hb | ⟨b, hb, rfl⟩
  · exact ⟨_, _, _, sx_87_bad1 ha hb, sm_149_bad1 ha hb, h⟩
  have k1 := sx_87 h.1 ha hb
  rw [sx_lk_congr (P' := sm_h μ a) (Q' := sm_h μ b) 17 0 (fun k _ hk => ⟨rl_reg h ha k (by omega), rl_reg h hb k (by omega)⟩)] at k1
  exact ⟨_, _, _, k1, sm_149 h.2.1 ha hb, h⟩
theorem cl_22 (h : Rel σ μ) (a : Int32) (v : Int64) : cl_R σ μ 88 150 [.ref 0, .int a, .long v, ab_u] [.ref 0, .int a, .long v, ab_u] := by
  rcases sg_inout a (n := 17) (by omega) with ha | ⟨a, ha, rfl⟩
  · exact ⟨_, _, _, sx_88_bad0 ha, sm_150_bad0 ha, h⟩
  obtain ⟨z, hz6, z1, z2, z3⟩ := h.2.2.2.2.2.2.1
  by_cases h6 : z = 6
  · subst h6
    exact ⟨_, _, _, sx_88_full ha z1, sm_150_full ha z2, h⟩
  · exact ⟨_, _, _, sx_88 ha z1 (by omega), sm_150 ha z2 (by omega), Rel_see h (by omega) ha z1 z3⟩
theorem cl_23 (h : Rel σ μ) : cl_R σ μ 89 151 [.ref 0] [.ref 0, ab_u] := by
  obtain ⟨z, hz6, z1, z2, z3⟩ := h.2.2.2.2.2.2.1
  have k1 := sx_89 (σ := σ)
  have k2 := sm_151 (μ := μ)
  rw [z1] at k1
  rw [z2] at k2
  exact ⟨_, _, _, k1, k2, Rel_forget h⟩
theorem cl_24 (h : Rel σ μ) : cl_R σ μ 90 152 [.ref 0, ab_u, ab_u] [.ref 0, ab_u, ab_u, ab_u, ab_u] := by
  obtain ⟨z, hz6, z1, z2, z3⟩ := h.2.2.2.2.2.2.1
  have k1 := sx_90 z1 hz6 (fun i hi => by obtain ⟨⟨k, a, b, -⟩, -⟩ := z3 i hi; exact ⟨k, a, b⟩)
  have k2 := sm_152 z2 hz6 (fun i hi => by obtain ⟨⟨k, a, -, b⟩, -⟩ := z3 i hi; exact ⟨k, a, b⟩)
  rw [t_wh_congr (F' := fun r => sx_fit (μ.1 19) (μ.2 20) (sm_h μ r) z 0) 6 0 (nI 0) (fun r _ hr => sx_fit_congr (rl_reg h (by omega)) z 0 (fun j _ hj => z3 j (by omega)))] at k1
  exact ⟨_, _, _, k1, k2, h⟩
theorem cl_25 (h : Rel σ μ) (a : Int32) : cl_R σ μ 91 153 [.ref 0, .int a] [.ref 0, .int a, ab_u] := by
  rcases sg_inout a (n := 2) (by omega) with ha | ⟨a, ha, rfl⟩
  · exact ⟨_, _, _, sx_91_bad0 ha, sm_153_bad ha, h⟩
  have k2 := sm_153 (μ := μ) ha
  rw [show μ.1 12 0 = σ.1 56 0 from h.2.2.2.1.2.1] at k2
  exact ⟨_, _, _, sx_91 ha, k2, Rel_keep h ha⟩
theorem cl_26 (h : Rel σ μ) (a : Int32) : cl_R σ μ 92 154 [.ref 0, .int a] [.ref 0, .int a, ab_u] := by
  rcases sg_inout a (n := 2) (by omega) with ha | ⟨a, ha, rfl⟩
  · exact ⟨_, _, _, sx_92_bad0 ha, sm_154_bad ha, h⟩
  obtain ⟨i1, i2⟩ := h.2.2.2.2.2.1 a ha
  by_cases hk : σ.1 157 a = 0
  · exact ⟨_, _, _, sx_92_st ha hk, sm_154_st ha (i1.trans hk), h⟩
  · have k2 := sm_154 ha (fun z => hk (i1.symm.trans z))
    have e : μ.1 16 (21 * a) = σ.1 (136 + 11 * a) 0 := by
      have := (i2 hk).2.1
      rw [show 135 + 11 * a + 1 = 136 + 11 * a by omega] at this
      exact this
    rw [e] at k2
    exact ⟨_, _, _, sx_92 ha hk, k2, Rel_back h ha hk⟩
theorem cl_27 (h : Rel σ μ) (k : Int32) : cl_R σ μ 93 155 [.ref 0, .int k] [.ref 0, .int k] := by
  rcases sg_inout k (n := 4) (by omega) with hk | ⟨k, hk, rfl⟩
  · exact ⟨_, _, _, sx_93_out hk, sm_155_out hk, h⟩
  match k, hk with
  | 0, _ =>
    have k2 := sm_155_0 (μ := μ)
    rw [show μ.1 12 0 = σ.1 56 0 from h.2.2.2.1.2.1] at k2
    exact ⟨_, _, _, sx_93_0, k2, h⟩
  | 1, _ =>
    obtain ⟨z, hz6, z1, z2, z3⟩ := h.2.2.2.2.2.2.1
    have k1 := sx_93_1 (σ := σ)
    have k2 := sm_155_1 (μ := μ)
    rw [z1] at k1
    rw [z2] at k2
    exact ⟨_, _, _, k1, k2, h⟩
  | 2, _ =>
    obtain ⟨x, n, hx, hy⟩ := h.2.2.1
    have k1 := sx_93_2 (σ := σ)
    have k2 := sm_155_2 (μ := μ)
    rw [hx.1] at k1
    rw [hy.1] at k2
    exact ⟨_, _, _, k1, k2, h⟩
  | 3, _ =>
    obtain ⟨P, Z, hQ⟩ := h.2.2.2.2.1
    have k1 := sx_93_3 (σ := σ)
    have k2 := sm_155_3 (μ := μ)
    rw [hQ.1.2.2.1] at k1
    rw [hQ.2.1] at k2
    exact ⟨_, _, _, k1, k2, h⟩
end ClR
