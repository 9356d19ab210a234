/-! the model: a method's text -/
theorem sm_121_a {μ μ' : sg_S} {rr : Option Value} : ∀ m i : Nat, i + m = 21 → sg_D tm_H 121 29 [.ref 0, .int (nI 21)] [] (sg_r1 μ 24 (sg_c1 (μ.1 24) 0 21 (fun k => if k = 0 then nI 1 else nI 0))) rr μ' → sg_D tm_H 121 2 [.ref 0, .int (nI i)] [] (sg_r1 μ 24 (sg_c1 (μ.1 24) 0 i (fun k => if k = 0 then nI 1 else nI 0))) rr μ' := by
  intro m
  induction m with
  | zero =>
    intro i hi kk
    obtain rfl : i = 21 := by omega
    refine sg_iload_n f_121_2 rfl ?_
    refine sg_bipush (nI 21) f_121_3 kb_21 ?_
    first | refine sg_ncmp_ge 29 (by omega) (by omega) f_121_5 rfl (fun c5 => ?_) (fun c5 => ?_) | refine sg_icmp_ge 29 f_121_5 rfl (fun c5 => ?_) (fun c5 => ?_)
    · exact kk
    · omega
  | succ m ih =>
    intro i hi kk
    have k2 := ih (i + 1) (by omega) kk
    refine sg_iload_n f_121_2 rfl ?_
    refine sg_bipush (nI 21) f_121_3 kb_21 ?_
    first | refine sg_ncmp_ge 29 (by omega) (by omega) f_121_5 rfl (fun c5 => ?_) (fun c5 => ?_) | refine sg_icmp_ge 29 f_121_5 rfl (fun c5 => ?_) (fun c5 => ?_)
    · omega
    · refine sg_aload_n f_121_8 rfl ?_
      refine sg_getf_r f_121_9 fd_m_0_800 ?_
      refine sg_iload_n f_121_12 rfl ?_
      refine sg_iload_n f_121_13 rfl ?_
      refine sg_if_ne 21 f_121_14 rfl (fun c14 => ?_) (fun c14 => ?_)
      · have hi0 : ¬ i = 0 := fun e => c14 (by rw [e]; rfl)
        refine sg_iconst (nI 0) f_121_21 ki_0 ?_
        refine sg_iastore _ ok_m f_121_22 sh_m_24 rfl (by omega) ?_
        first | refine sg_iinc _ [_, _] f_121_23 rfl (sg_inc1 _) rfl ?_ | refine sg_iinc _ [_, _] f_121_23 rfl rfl rfl ?_
        refine sg_goto 2 f_121_26 rfl ?_
        refine sg_from ?_ k2
        rw [sg_r1_r1, sg_r1_eq]
        exact congrArg (sg_r1 μ 24) (sg_c1_s (by omega) (by first | rw [if_pos hi0] | rw [if_neg hi0]))
      · have hi0 : i = 0 := (nI_eq (show i < 2 ^ 31 by omega) (show 0 < 2 ^ 31 by omega)).mp c14
        refine sg_iconst (nI 1) f_121_17 ki_1 ?_
        refine sg_goto 22 f_121_18 rfl ?_
        refine sg_iastore _ ok_m f_121_22 sh_m_24 rfl (by omega) ?_
        first | refine sg_iinc _ [_, _] f_121_23 rfl (sg_inc1 _) rfl ?_ | refine sg_iinc _ [_, _] f_121_23 rfl rfl rfl ?_
        refine sg_goto 2 f_121_26 rfl ?_
        refine sg_from ?_ k2
        rw [sg_r1_r1, sg_r1_eq]
        exact congrArg (sg_r1 μ 24) (sg_c1_s (by omega) (by first | rw [if_pos hi0] | rw [if_neg hi0]))
theorem sm_121_l {μ0 : sg_S} {x : Nat → Nat} {n : Nat} (hx : sm_tx μ0 x n) : ∀ (m : Nat) (μ : sg_S) (T : Nat × Int32 × Nat × Nat) (it s : Nat) (t : Nat → Int32) (l1 : Value), sm_R μ0 μ T it s t → rd_ok n T → it ≤ T.2.2.1 → n - T.2.2.1 ≤ m → 1 ≤ s → s ≤ 4 →
    ∃ (μ' : sg_S) (it' : Nat), sg_D tm_H 121 43 [.ref 0, l1] [] μ (some (.int (if (rd_run x n m T it s t).1 = true then -9 else nI (rd_run x n m T it s t).2.1.2.2.1))) μ' ∧ sm_R μ0 μ' (rd_run x n m T it s t).2.1 it' (rd_run x n m T it s t).2.2.2.1 (rd_run x n m T it s t).2.2.2.2 ∧ rd_ok n (rd_run x n m T it s t).2.1 ∧ (rd_run x n m T it s t).2.2.1 ≤ n ∧ ((rd_run x n m T it s t).1 = true → it' = (rd_run x n m T it s t).2.2.1) := by
  have h160 := hx.2.1
  have base : ∀ (m : Nat) (μ : sg_S) (T : Nat × Int32 × Nat × Nat) (it s : Nat) (t : Nat → Int32) (l1 : Value), sm_R μ0 μ T it s t → rd_ok n T → it ≤ T.2.2.1 → T.2.1 = -1 → ∃ (μ' : sg_S) (it' : Nat), sg_D tm_H 121 43 [.ref 0, l1] [] μ (some (.int (if (rd_run x n m T it s t).1 = true then -9 else nI (rd_run x n m T it s t).2.1.2.2.1))) μ' ∧ sm_R μ0 μ' (rd_run x n m T it s t).2.1 it' (rd_run x n m T it s t).2.2.2.1 (rd_run x n m T it s t).2.2.2.2 ∧ rd_ok n (rd_run x n m T it s t).2.1 ∧ (rd_run x n m T it s t).2.2.1 ≤ n ∧ ((rd_run x n m T it s t).1 = true → it' = (rd_run x n m T it s t).2.2.1) := by
    intro m μ T it s t l1 h ho hi he
    have hT := ho.2.2.1
    rw [rd_run_end he]
    refine ⟨μ, it, ?_, h, ho, by dsimp only; omega, fun _ => rfl⟩
    dsimp only
    rw [if_pos rfl]
    have h30 : μ.1 0 30 = nI 2 := h.2.2.2.1.trans ((sm_sort_iff h.2.2.2.2.2).2.1.mpr he)
    refine sg_aload_n f_121_43 rfl ?_
    refine sg_getf_k f_121_44 fd_m_0_798 h30 ?_
    refine sg_iconst (nI 2) f_121_47 ki_2 ?_
    refine sg_icmp_eq 70 f_121_48 rfl (fun c48 => ?_) (fun c48 => ?_)
    · refine sg_bipush (-9) f_121_70 kb_m9 ?_
      exact (sg_iret f_121_72 rk_121)
    · exact absurd rfl c48
  intro m
  induction m with
  | zero =>
    intro μ T it s t l1 h ho hi hm hs hs4
    refine base 0 μ T it s t l1 h ho hi ?_
    by_cases he : T.2.1 = -1
    · exact he
    · have := ho.2.2.2 he
      have := ho.1
      omega
  | succ m ih =>
    intro μ T it s t l1 h ho hi hm hs hs4
    by_cases he : T.2.1 = -1
    · exact base (m + 1) μ T it s t l1 h ho hi he
    · have hlt := ho.2.2.2 he
      have hn := ho.1
      have h30 : ¬ μ.1 0 30 = nI 2 := fun e => he ((sm_sort_iff h.2.2.2.2.2).2.1.mp (h.2.2.2.1.symm.trans e))
      obtain ⟨μ1, it1, k1, h1, e1⟩ := sm_120 h hx ho.1 ho.2.1 (show it ≤ 1000 by omega) hs hs4
      obtain ⟨o1, o2, o3, o4⟩ := rd_item_ok (x := x) (it := it) (t := t) ho hs hs4
      rw [rd_run, if_neg he]
      revert k1 h1 e1 o1 o2 o3 o4
      generalize rd_item x n T it s t = w
      intro k1 h1 e1 o1 o2 o3 o4
      obtain ⟨b, T', s', t'⟩ := w
      dsimp only at k1 h1 e1 o1 o2 o3 o4 ⊢
      cases b with
      | true =>
        rw [if_pos rfl] at k1
        rw [if_pos rfl]
        obtain rfl := e1 rfl
        obtain ⟨μ2, k2, h2⟩ := sm_R_adv h1 hx o1.1
        have q := rd_adv_ok (x := x) o1.1
        obtain ⟨μ', it', k3, h3⟩ := ih μ2 (rd_adv x n T') (it + 1) s' t' l1 h2 (rd_ok_adv o1.1 o1.2.1) (by omega) (by omega) o3 o4
        refine ⟨μ', it', ?_, h3⟩
        refine sg_aload_n f_121_43 rfl ?_
        refine sg_getf_j 30 f_121_44 fd_m_0_798 rfl ?_
        refine sg_iconst (nI 2) f_121_47 ki_2 ?_
        refine sg_icmp_eq 70 f_121_48 rfl (fun c48 => ?_) (fun c48 => ?_)
        · exact absurd c48 h30
        · refine sg_aload_n f_121_51 rfl ?_
          refine sg_callv_i f_121_52 my_121_120 mr_120 rfl (Nat.le_of_ble_eq_true rfl) (Nat.le_of_ble_eq_true rfl) sh_m_0 (by decide) rfl k1 ?_
          refine sg_if_ne 63 f_121_55 rfl (fun c55 => ?_) (fun c55 => ?_)
          · refine sg_aload_n f_121_63 rfl ?_
            refine sg_callv_v f_121_64 my_121_118 mr_118 rfl (Nat.le_of_ble_eq_true rfl) (Nat.le_of_ble_eq_true rfl) sh_m_0 (by decide) rfl k2 ?_
            refine sg_goto 43 f_121_67 rfl ?_
            exact k3
          · exact absurd c55 (by decide)
      | false =>
        rw [if_neg (by decide)] at k1
        rw [if_neg (show ¬ (false = true) by decide)]
        refine ⟨μ1, it1, ?_, h1, o1, by dsimp only; omega, fun h => absurd h (show ¬ false = true by decide)⟩
        dsimp only
        rw [if_neg (show ¬ (false = true) by decide)]
        refine sg_aload_n f_121_43 rfl ?_
        refine sg_getf_j 30 f_121_44 fd_m_0_798 rfl ?_
        refine sg_iconst (nI 2) f_121_47 ki_2 ?_
        refine sg_icmp_eq 70 f_121_48 rfl (fun c48 => ?_) (fun c48 => ?_)
        · exact absurd c48 h30
        · refine sg_aload_n f_121_51 rfl ?_
          refine sg_callv_i f_121_52 my_121_120 mr_120 rfl (Nat.le_of_ble_eq_true rfl) (Nat.le_of_ble_eq_true rfl) sh_m_0 (by decide) rfl k1 ?_
          refine sg_if_ne 63 f_121_55 rfl (fun c55 => ?_) (fun c55 => ?_)
          · exact absurd rfl c55
          · refine sg_aload_n f_121_58 rfl ?_
            refine sg_getf_k f_121_59 fd_m_0_797 h1.2.2.1 ?_
            exact (sg_iret f_121_62 rk_121)
theorem sm_121 {μ : sg_S} {x : Nat → Nat} {n z : Nat} (hx : sm_tx μ x n) (hz : z ≤ 1000) :
    ∃ (μ' : sg_S) (it' : Nat), sg_D tm_H 121 0 [.ref 0, ab_u] [] μ (some (.int (if (rd_all x n z).1 = true then -9 else nI (rd_all x n z).2.1.2.2.1))) μ' ∧ sm_R μ μ' (rd_all x n z).2.1 it' (rd_all x n z).2.2.2.1 (rd_all x n z).2.2.2.2 ∧ rd_ok n (rd_all x n z).2.1 ∧ (rd_all x n z).2.2.1 ≤ n ∧ ((rd_all x n z).1 = true → it' = (rd_all x n z).2.2.1) := by
  generalize ha : sg_r1 μ 24 (sg_c1 (μ.1 24) 0 21 (fun k => if k = 0 then nI 1 else nI 0)) = μa
  generalize hb : sg_r1 μa 0 (upd (upd (μa.1 0) 28 (nI 0)) 33 (nI 0)) = μb
  have a0 : μa.1 0 = μ.1 0 := by rw [← ha, sg_r1_ne (by omega)]
  have b24 : μb.1 24 = sg_c1 (μ.1 24) 0 21 (fun k => if k = 0 then nI 1 else nI 0) := by rw [← hb, sg_r1_ne (by omega), ← ha, sg_r1_eq]
  have hB : sm_RB μ μb 0 1 (fun _ => 0) := by
    refine ⟨by rw [← hb, ← ha]; rfl, fun a q1 q2 => ?_, fun j hj => ?_, ?_, ?_, fun j q1 q2 => ?_⟩
    · rw [← hb, sg_r1_ne q1, ← ha, sg_r1_ne q2]
    · rw [← hb, sg_r1_eq, pk_un (by omega), pk_un (by omega), a0]
    · rw [← hb, sg_r1_eq, pk_us]
    · rw [b24]; exact sg_c1_in (o := 0) (k := 0) (by omega)
    · rw [b24, show j = 0 + j by omega, sg_c1_in q2, if_neg (by omega)]; rfl
  have h28 : μb.1 0 28 = nI 0 := by rw [← hb, sg_r1_eq, pk_un (by omega), pk_us]
  obtain ⟨μ1, k1, h1⟩ := sm_scan (z := z) hB hx h28 (Nat.zero_le _)
  have ho : rd_ok n (rd_tok x n 0 z) := rd_ok_adv (T := (0, 0, 0, z)) (Nat.zero_le _) hz
  obtain ⟨μ', it', k2, h2⟩ := sm_121_l hx n μ1 (rd_tok x n 0 z) 0 1 (fun _ => 0) (.int (nI 21)) h1 ho (Nat.zero_le _) (by omega) (by omega) (by omega)
  refine ⟨μ', it', ?_, h2⟩
  have k29 : sg_D tm_H 121 29 [.ref 0, .int (nI 21)] [] μa (some (.int (if (rd_all x n z).1 = true then -9 else nI (rd_all x n z).2.1.2.2.1))) μ' := by
    refine sg_aload_n f_121_29 rfl ?_
    refine sg_iconst (nI 0) f_121_30 ki_0 ?_
    refine sg_putf_j 28 f_121_31 (by decide) fd_m_0_796 rfl ?_
    refine sg_aload_n f_121_34 rfl ?_
    refine sg_iconst (nI 0) f_121_35 ki_0 ?_
    refine sg_putf_j 33 f_121_36 (by decide) fd_m_0_801 rfl ?_
    rw [sg_r1_r1, sg_r1_eq, hb]
    refine sg_aload_n f_121_39 rfl ?_
    refine sg_callv_v f_121_40 my_121_118 mr_118 rfl (Nat.le_of_ble_eq_true rfl) (Nat.le_of_ble_eq_true rfl) sh_m_0 (by decide) rfl k1 ?_
    exact k2
  rw [← ha] at k29
  have k2' := sm_121_a 21 0 (by omega) k29
  rw [sg_c1_0, sg_r1_self rfl] at k2'
  refine sg_iconst (nI 0) f_121_0 ki_0 ?_
  refine sg_istore_n [_, _] f_121_1 rfl ?_
  exact k2'
theorem sm_122_1 {μ : sg_S} {x : Nat → Nat} {n z Z : Nat} (hx : sm_tx μ x n) (hz : z ≤ 1000) (hZ : μ.1 0 17 = nI Z) (hZ6 : Z ≤ 6) (hok : (rd_all x n z).1 = true) :
    ∃ (μ1 μ2 : sg_S) (it' : Nat), sm_R μ μ1 (rd_all x n z).2.1 it' (rd_all x n z).2.2.2.1 (rd_all x n z).2.2.2.2 ∧ sm_N μ1 μ2 Z ∧ sg_D tm_H 122 0 [.ref 0, ab_u, ab_u] [] μ (some (.int (nI (rd_all x n z).2.2.1))) (sg_r1 (sg_r1 μ2 12 (sg_c1 (μ2.1 12) 0 21 (fun k => μ2.1 24 k))) 0 (upd (μ2.1 0) 12 (nI 0))) := by
  obtain ⟨μ1, it', k1, h1, -, -, e1⟩ := sm_121 hx hz
  rw [if_pos hok] at k1
  obtain ⟨μ2, k2, h2⟩ := sm_123 (μ := μ1) (by rw [h1.1.2.2.1 17 (by omega)]; exact hZ) hZ6
  refine ⟨μ1, μ2, it', h1, h2, ?_⟩
  have e33 : μ2.1 0 33 = nI (rd_all x n z).2.2.1 := by rw [h2.2.2.1 33 (by omega), h1.1.2.2.2.1, e1 hok]
  have e0 : (sg_r1 μ2 12 (sg_c1 (μ2.1 12) 0 21 (fun k => μ2.1 24 k))).1 0 = μ2.1 0 := sg_r1_ne (by omega)
  have k46 : sg_D tm_H 122 46 [.ref 0, .int (-9), .int (nI 21)] [] (sg_r1 μ2 12 (sg_c1 (μ2.1 12) 0 21 (fun k => μ2.1 24 k))) (some (.int (nI (rd_all x n z).2.2.1))) (sg_r1 (sg_r1 μ2 12 (sg_c1 (μ2.1 12) 0 21 (fun k => μ2.1 24 k))) 0 (upd (μ2.1 0) 12 (nI 0))) := by
    refine sg_aload_n f_122_46 rfl ?_
    refine sg_iconst (nI 0) f_122_47 ki_0 ?_
    refine sg_putf_j 12 f_122_48 (by decide) fd_m_0_780 rfl ?_
    rw [e0]
    refine sg_aload_n f_122_51 rfl ?_
    refine sg_getf_k f_122_52 fd_m_0_801 (show _ = nI (rd_all x n z).2.2.1 by rw [sg_r1_eq, pk_un (by omega)]; exact e33) ?_
    exact (sg_iret f_122_55 rk_122)
  refine sg_aload_n f_122_0 rfl ?_
  refine sg_callv_i f_122_1 my_122_121 mr_121 rfl (Nat.le_of_ble_eq_true rfl) (Nat.le_of_ble_eq_true rfl) sh_m_0 (by decide) rfl k1 ?_
  refine sg_istore_n [_, _, _] f_122_4 rfl ?_
  refine sg_iload_n f_122_5 rfl ?_
  refine sg_bipush (-9) f_122_6 kb_m9 ?_
  refine sg_icmp_eq 16 f_122_8 rfl (fun c8 => ?_) (fun c8 => ?_)
  · refine sg_aload_n f_122_16 rfl ?_
    refine sg_callv_v f_122_17 my_122_123 mr_123 rfl (Nat.le_of_ble_eq_true rfl) (Nat.le_of_ble_eq_true rfl) sh_m_0 (by decide) rfl k2 ?_
    refine sg_iconst (nI 0) f_122_20 ki_0 ?_
    refine sg_istore_n [_, _, _] f_122_21 rfl ?_
    exact sm_122_a_0 k46
  · exact absurd rfl c8
theorem sm_122_0 {μ : sg_S} {x : Nat → Nat} {n z : Nat} (hx : sm_tx μ x n) (hz : z ≤ 1000) (hok : (rd_all x n z).1 = false) :
    ∃ (μ1 : sg_S) (it' : Nat), sm_R μ μ1 (rd_all x n z).2.1 it' (rd_all x n z).2.2.2.1 (rd_all x n z).2.2.2.2 ∧ sg_D tm_H 122 0 [.ref 0, ab_u, ab_u] [] μ (some (.int (-10 - nI (rd_all x n z).2.1.2.2.1))) μ1 := by
  obtain ⟨μ1, it', k1, h1, ho, -, -⟩ := sm_121 hx hz
  rw [if_neg (by rw [hok]; decide)] at k1
  have h160 := hx.2.1
  have hpl := ho.2.2.1
  refine ⟨μ1, it', h1, ?_⟩
  refine sg_aload_n f_122_0 rfl ?_
  refine sg_callv_i f_122_1 my_122_121 mr_121 rfl (Nat.le_of_ble_eq_true rfl) (Nat.le_of_ble_eq_true rfl) sh_m_0 (by decide) rfl k1 ?_
  refine sg_istore_n [_, _, _] f_122_4 rfl ?_
  refine sg_iload_n f_122_5 rfl ?_
  refine sg_bipush (-9) f_122_6 kb_m9 ?_
  refine sg_icmp_eq 16 f_122_8 rfl (fun c8 => ?_) (fun c8 => ?_)
  · exact absurd c8 (sg_ne_m9 (by omega))
  · refine sg_bipush (-10) f_122_11 kb_m10 ?_
    refine sg_iload_n f_122_13 rfl ?_
    refine sg_isub _ f_122_14 rfl ?_
    exact (sg_iret f_122_15 rk_122)
