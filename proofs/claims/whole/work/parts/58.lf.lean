/-! the constructors, out of the law -/
section LwCtor
variable {p : Program} {l : Launch} {e : Env} {s : State} {m : MethodId} {below : List Frame} {meth : Method} {c : Code} {b : Nat}
variable {D : va_G} {aC : Nat → ClassId} {ad : Nat → Nat}
theorem lw_ci {L xs} (C0 : lw_At p s m meth c b L xs) (hStc : ab_Stc D aC ad (fun q => s.heap.size ≤ q) s s.heap) {h h' : ab_H} {B : Nat} (had : ∀ k, k < 1000 → ad k = B + k) (h1 : h.length = 1) (hB : s.heap.size ≤ B) {mid ci ml rk rf rl idx q : Nat} (hmid : mid < 157) (hmr : ab_MR mid = (ci, 2, 0, ml, rk, rf, rl)) (hlk : lw_tbl[q]? = some (.methodLink R_law idx (ab_YM mid))) (hlv : 1 ≤ ml) (hroom : rf + 1 ≤ 9 ∧ 19 + ml + rl ≤ 290) {rest : List Value} (hcat : (rest.map fun v => v.category).sum ≤ 8)
    {L0 : List Value} (hL0 : ab_ent ml [.ref 0] = L0) (hrun : ab_X true mid 0 L0 [] h none h') {pc : Nat} (hd : decode code pc = .ok (.invokespecial idx, 3)) {H : Heap} {locs : List Loc} {ls : Array Slot} (hls : ls.size = 4) (hP : va_P D ab_cl (ab_wd ad aC h) H) (hz : H.size = B + 1) (hS : va_S (fun q => s.heap.size ≤ q) s.heap H locs) {cells slots : Nat} (hc1 : cells + (h'.length - h.length) ≤ 600000) (hc2 : slots + (ab_sz h' - ab_sz h) ≤ 7302250) {Q : State → Prop}
    (kk : ∀ (H1 : Heap) (locs1 : List Loc), va_P D ab_cl (ab_wd ad aC h') H1 → va_S (fun q => s.heap.size ≤ q) s.heap H1 locs1 → (∀ q : Nat, q < H.size → ¬ (B ≤ q) → H1[q]? = H[q]?) → W p l e room_1 s m #[Value.ref b] below meth c H1 locs1 (cells + (h'.length - h.length)) (slots + (ab_sz h' - ab_sz h)) Q (F0 m (pc + 3) ls rest)) : W p l e room_1 s m #[Value.ref b] below meth c H locs cells slots Q (F0 m pc ls (.ref B :: rest)) := by
  obtain ⟨hx, hb, hr, hml, hown, hts, hX, hbl, hlocks, hgv⟩ := id C0
  have hTG := lw_TG hts
  obtain ⟨fuel, hf⟩ := hrun
  subst hL0
  have r2 : (ab_MR mid).2.1 = 2 := by rw [hmr]
  have r3 : (ab_MR mid).2.2.1 = 0 := by rw [hmr]
  have r4 : (ab_MR mid).2.2.2.1 = ml := by rw [hmr]
  have r6 : (ab_MR mid).2.2.2.2.2.1 = rf := by rw [hmr]
  have r7 : (ab_MR mid).2.2.2.2.2.2 = rl := by rw [hmr]
  rw [← r4] at hf hlv
  have hM := ab_met (ab_run l D aC ad (fun q => B ≤ q) true fuel) hmid (av := [.ref 0]) (h := h) (h' := h') (r := none) (by omega) hlv hf
  obtain ⟨m1, m2, m3, m4, m5, m6, m7, m8⟩ := ab_mf hmid
  have hlkT := ab_in hlk rfl
  have hret : ab_RT (ab_MR mid).2.2.2.2.1 = none := ab_init_ret hmid r2
  rw [hret] at hM m1
  have hD0 := lw_lin (aC := aC) (h := h) (n := 1) h1 (by omega) had
  have hD : va_D (fun q => B ≤ q) (ab_wd ad aC h) := ⟨hD0.1, fun k q hk => (hD0.2 k q hk).1⟩
  have e0 : ad 0 = B := had 0 (by omega)
  have e1 : ad 1 = B + 1 := had 1 (by omega)
  have hPc : ∀ U : State, U.heap = H → s.WarmedH U.vm → ab_Pc D aC ad (fun q => B ≤ q) true [.ref 0] h ([Value.ref 0].map (ab_rl ad)).toArray U := fun U hU hW => ⟨rfl, (by rw [hU]; exact (hStc.moved hW (fun a h1 h2 => hS.2.1 a h1 h2)).narrow (fun q hq => Nat.le_trans hB hq)), fun _ => ⟨fun k hk => by rw [had k hk, e0], fun q hq => by rw [hU, hz] at hq; show B ≤ q; omega⟩, by rw [hU]; exact hP, hD, fun _ => by rw [hU, hz, h1, e1]⟩
  refine lw_behind (A := fun q => B ≤ q) (rv := none) (h1 := h') (rest := rest) (a := (Value.ref (ad 0) :: ([] : List Value)).toArray) (va_runI (As := []) (b := ad 0) (rest := rest) (n := (ab_MR mid).2.2.1) ⟨hx, hb, hml, hown, hTG⟩ hM (cwI _ hTG (ab_wsG (fun w hw => ?_)) rfl rfl rfl (hTG _ m2) (hTG _ hlkT) (hTG _ (m8 r2).1) (m8 r2).2 m5 ⟨by show (ab_MR mid).2.2.2.2.2.1 + 1 ≤ 9; omega, by show 8 + ((ab_MR mid).2.2.2.1 + 11) + (ab_MR mid).2.2.2.2.2.2 ≤ 290; omega⟩) ⟨ab_blind, fun U hU hW => hPc U hU hW⟩ rfl (by rw [r3]; rfl) hls ?_ (lv_room hcat) hd ⟨hc1, hc2⟩) hS (fun q hq => Nat.le_trans hB hq) (fun H1 locs1 g1 g2 _ g4 => kk H1 locs1 g1 g2 g4)
  · rcases List.mem_cons.mp hw with rfl | hw
    · exact m1
    · exact hw
  · show .ref B :: rest = [].reverse ++ .ref (ad 0) :: rest
    rw [e0]; rfl
end LwCtor
set_option maxRecDepth 100000 in
theorem lk_65 : lw_tbl[65]? = some (.methodLink R_law 9 (ab_YM 65)) := by decide +kernel
set_option maxRecDepth 100000 in
theorem lk_98 : lw_tbl[731]? = some (.methodLink R_law 12 (ab_YM 98)) := by decide +kernel
theorem mr_65 : ab_MR 65 = (11, 2, 0, 1, 0, 4, 97) := by decide +kernel
theorem mr_98 : ab_MR 98 = (12, 2, 0, 2, 0, 3, 77) := by decide +kernel
set_option maxRecDepth 100000 in
theorem sz_x : ab_sz tx_H - ab_sz tx_0 ≤ 100000 ∧ ab_sz tx_0 = 12 := by decide +kernel
set_option maxRecDepth 100000 in
theorem sz_m : ab_sz tm_H - ab_sz tm_0 ≤ 100000 ∧ ab_sz tm_0 = 36 := by decide +kernel
theorem t0_x : tx_0 = [(11, (ab_DF.getD 11 []))] := rfl
theorem t0_m : tm_0 = [(12, (ab_DF.getD 12 []))] := rfl
set_option maxHeartbeats 4000000 in
/-- the law's loop -/
theorem lw_loop {p : Program} {l : Launch} {e : Env} {s : State} {m : MethodId} {below : List Frame} {meth : Method} {c : Code} {b L : Nat} {xs : Nat → Int32} {D : va_G} {aC : Nat → ClassId} {adx adm : Nat → Nat} (C0 : lw_At p s m meth c b L xs) (hL : L ≤ 2048) (s1 : ab_Stc D aC adx (fun q => s.heap.size ≤ q) s s.heap) (s2 : ab_Stc D aC adm (fun q => s.heap.size ≤ q) s s.heap) (a1 : ∀ k, k < 1000 → adx k = s.heap.size + k) (a2 : ∀ k, k < 1000 → adm k = s.heap.size + 162 + k) :
    ∀ (n i : Nat), L ≤ i + n → i ≤ 3000 → ∀ (σ μ : sg_S), Rel σ μ → ∀ (H : Heap) (locs : List Loc) (ls : Array Slot), lw_W D aC adx adm s σ μ H locs → lv_has ls 4 [(3, .int (nI i)), (2, .ref (s.heap.size + 162)), (1, .ref s.heap.size), (0, .ref b)] → W p l e room_1 s m #[Value.ref b] below meth c H locs 600000 7302250 (lw_Z below #[Value.ref b] s) (F0 m 18 ls []) := by
  obtain ⟨hx, hb, hr, hml, hown, hts, hX, hbl, hlocks, hgv⟩ := id C0
  have hbA : ¬ (fun q : Nat => s.heap.size ≤ q) b := Nat.not_le.mpr hbl
  have e4 : (Int32.ofNat L - nI 4).toInt = (L : Int) - 4 := by
    rw [Int32.toInt_sub, show (Int32.ofNat L).toInt = (L : Int) from nI_toInt (by omega), nI_toInt (by omega)]
    rw [Int.bmod_def]
    split <;> omega
  intro n
  induction n with
  | zero =>
    intro i hn hi3 σ μ hR H locs ls hW hl
    refine lv_iload_n hx hb dL_18 rfl (lv_at hl 0 rfl) ?_
    refine lv_aload_n hx hb dL_19 rfl (lv_at hl 3 rfl) ?_
    refine va_slen hx hb hX hbl hbA hW.2.2 dL_20 ?_
    refine lv_iconst (v := nI 4) hx hb dL_21 (by decide) ?_
    refine lv_isub hx hb dL_22 ?_
    refine lv_icmp_gt (tgt := 991) hx hb dL_23 (by decide) (fun _ => ?_) (fun z => absurd ?_ z)
    · refine lv_iconst (v := 1) hx hb dL_991 (by decide) ?_
      refine va_forget (fun q hq => hW.2.2.2.2 q hq) ?_
      exact lw_ret hx hb hr hlocks dL_992
    · rw [Int32.lt_iff_toInt_lt, e4, nI_toInt (by omega)]; omega
  | succ n ih =>
    intro i hn hi3 σ μ hR H locs ls hW hl
    refine lv_iload_n hx hb dL_18 rfl (lv_at hl 0 rfl) ?_
    refine lv_aload_n hx hb dL_19 rfl (lv_at hl 3 rfl) ?_
    refine va_slen hx hb hX hbl hbA hW.2.2 dL_20 ?_
    refine lv_iconst (v := nI 4) hx hb dL_21 (by decide) ?_
    refine lv_isub hx hb dL_22 ?_
    refine lv_icmp_gt (tgt := 991) hx hb dL_23 (by decide) (fun _ => ?_) (fun z => ?_)
    · refine lv_iconst (v := 1) hx hb dL_991 (by decide) ?_
      refine va_forget (fun q hq => hW.2.2.2.2 q hq) ?_
      exact lw_ret hx hb hr hlocks dL_992
    · have h4 : i + 4 ≤ L := by
        rw [Int32.lt_iff_toInt_lt, e4, nI_toInt (by omega)] at z; omega
      have kk : ∀ (σ' μ' : sg_S) (H' : Heap) (locs' : List Loc), Rel σ' μ' → lw_W D aC adx adm s σ' μ' H' locs' → W p l e room_1 s m #[Value.ref b] below meth c H' locs' 600000 7302250 (lw_Z below #[Value.ref b] s) (F0 m 985 ls []) := by
        intro σ' μ' H' locs' hR' hW'
        refine lv_iinc (v := nI (i + 4)) (lv' := [(3, .int (nI (i + 4))), (2, .ref (s.heap.size + 162)), (1, .ref s.heap.size), (0, .ref b)]) hx hb dL_985 hl (k := 0) rfl (nI_add i 4) (by decide) rfl (fun ls' hl' => ?_)
        refine lv_goto (tgt := 18) hx hb dL_988 (by decide) ?_
        exact ih (i + 4) (by omega) (by omega) σ' μ' hR' H' locs' ls' hW' hl'
      refine lv_aload_n hx hb dL_26 rfl (lv_at hl 3 rfl) ?_
      refine lv_iload_n hx hb dL_27 rfl (lv_at hl 0 rfl) ?_
      refine va_sld hx hb hX hbl hbA hW.2.2 (vp_in_nI (by omega) (by omega)) dL_28 ?_
      refine lv_bipush (v := nI 31) hx hb dL_29 (by decide) ?_
      refine lv_iand hx hb dL_31 ?_
      refine lv_topi (fun y _ => ?_)
      rcases sg_inout y (n := 28) (by omega) with hy | ⟨k, hk, rfl⟩
      · refine lv_tableOut (tgt := 985) hx hb dL_32 (sg_out_i hy rfl (by omega)) (by decide) ?_
        exact kk σ μ H locs hR hW
      match k, hk with
      | 0, _ =>
        refine lv_tableIn (tgt := 160) hx hb dL_32 (by decide) (by decide) (off := 128) rfl (by decide) ?_
        exact lo_0 C0 hL s1 s2 a1 a2 h4 hR hW hl kk
      | 1, _ =>
        refine lv_tableIn (tgt := 183) hx hb dL_32 (by decide) (by decide) (off := 151) rfl (by decide) ?_
        exact lo_1 C0 hL s1 s2 a1 a2 h4 hR hW hl kk
      | 2, _ =>
        refine lv_tableIn (tgt := 196) hx hb dL_32 (by decide) (by decide) (off := 164) rfl (by decide) ?_
        exact lo_2 C0 hL s1 s2 a1 a2 h4 hR hW hl kk
      | 3, _ =>
        refine lv_tableIn (tgt := 209) hx hb dL_32 (by decide) (by decide) (off := 177) rfl (by decide) ?_
        exact lo_3 C0 hL s1 s2 a1 a2 h4 hR hW hl kk
      | 4, _ =>
        refine lv_tableIn (tgt := 222) hx hb dL_32 (by decide) (by decide) (off := 190) rfl (by decide) ?_
        exact lo_4 C0 hL s1 s2 a1 a2 h4 hR hW hl kk
      | 5, _ =>
        refine lv_tableIn (tgt := 265) hx hb dL_32 (by decide) (by decide) (off := 233) rfl (by decide) ?_
        exact lo_5 C0 hL s1 s2 a1 a2 h4 hR hW hl kk
      | 6, _ =>
        refine lv_tableIn (tgt := 288) hx hb dL_32 (by decide) (by decide) (off := 256) rfl (by decide) ?_
        exact lo_6 C0 hL s1 s2 a1 a2 h4 hR hW hl kk
      | 7, _ =>
        refine lv_tableIn (tgt := 311) hx hb dL_32 (by decide) (by decide) (off := 279) rfl (by decide) ?_
        exact lo_7 C0 hL s1 s2 a1 a2 h4 hR hW hl kk
      | 8, _ =>
        refine lv_tableIn (tgt := 354) hx hb dL_32 (by decide) (by decide) (off := 322) rfl (by decide) ?_
        exact lo_8 C0 hL s1 s2 a1 a2 h4 hR hW hl kk
      | 9, _ =>
        refine lv_tableIn (tgt := 387) hx hb dL_32 (by decide) (by decide) (off := 355) rfl (by decide) ?_
        exact lo_9 C0 hL s1 s2 a1 a2 h4 hR hW hl kk
      | 10, _ =>
        refine lv_tableIn (tgt := 430) hx hb dL_32 (by decide) (by decide) (off := 398) rfl (by decide) ?_
        exact lo_10 C0 hL s1 s2 a1 a2 h4 hR hW hl kk
      | 11, _ =>
        refine lv_tableIn (tgt := 463) hx hb dL_32 (by decide) (by decide) (off := 431) rfl (by decide) ?_
        exact lo_11 C0 hL s1 s2 a1 a2 h4 hR hW hl kk
      | 12, _ =>
        refine lv_tableIn (tgt := 506) hx hb dL_32 (by decide) (by decide) (off := 474) rfl (by decide) ?_
        exact lo_12 C0 hL s1 s2 a1 a2 h4 hR hW hl kk
      | 13, _ =>
        refine lv_tableIn (tgt := 519) hx hb dL_32 (by decide) (by decide) (off := 487) rfl (by decide) ?_
        exact lo_13 C0 hL s1 s2 a1 a2 h4 hR hW hl kk
      | 14, _ =>
        refine lv_tableIn (tgt := 553) hx hb dL_32 (by decide) (by decide) (off := 521) rfl (by decide) ?_
        exact lo_14 C0 hL s1 s2 a1 a2 h4 hR hW hl kk
      | 15, _ =>
        refine lv_tableIn (tgt := 586) hx hb dL_32 (by decide) (by decide) (off := 554) rfl (by decide) ?_
        exact lo_15 C0 hL s1 s2 a1 a2 h4 hR hW hl kk
      | 16, _ =>
        refine lv_tableIn (tgt := 619) hx hb dL_32 (by decide) (by decide) (off := 587) rfl (by decide) ?_
        exact lo_16 C0 hL s1 s2 a1 a2 h4 hR hW hl kk
      | 17, _ =>
        refine lv_tableIn (tgt := 652) hx hb dL_32 (by decide) (by decide) (off := 620) rfl (by decide) ?_
        exact lo_17 C0 hL s1 s2 a1 a2 h4 hR hW hl kk
      | 18, _ =>
        refine lv_tableIn (tgt := 695) hx hb dL_32 (by decide) (by decide) (off := 663) rfl (by decide) ?_
        exact lo_18 C0 hL s1 s2 a1 a2 h4 hR hW hl kk
      | 19, _ =>
        refine lv_tableIn (tgt := 728) hx hb dL_32 (by decide) (by decide) (off := 696) rfl (by decide) ?_
        exact lo_19 C0 hL s1 s2 a1 a2 h4 hR hW hl kk
      | 20, _ =>
        refine lv_tableIn (tgt := 761) hx hb dL_32 (by decide) (by decide) (off := 729) rfl (by decide) ?_
        exact lo_20 C0 hL s1 s2 a1 a2 h4 hR hW hl kk
      | 21, _ =>
        refine lv_tableIn (tgt := 794) hx hb dL_32 (by decide) (by decide) (off := 762) rfl (by decide) ?_
        exact lo_21 C0 hL s1 s2 a1 a2 h4 hR hW hl kk
      | 22, _ =>
        refine lv_tableIn (tgt := 827) hx hb dL_32 (by decide) (by decide) (off := 795) rfl (by decide) ?_
        exact lo_22 C0 hL s1 s2 a1 a2 h4 hR hW hl kk
      | 23, _ =>
        refine lv_tableIn (tgt := 890) hx hb dL_32 (by decide) (by decide) (off := 858) rfl (by decide) ?_
        exact lo_23 C0 hL s1 s2 a1 a2 h4 hR hW hl kk
      | 24, _ =>
        refine lv_tableIn (tgt := 903) hx hb dL_32 (by decide) (by decide) (off := 871) rfl (by decide) ?_
        exact lo_24 C0 hL s1 s2 a1 a2 h4 hR hW hl kk
      | 25, _ =>
        refine lv_tableIn (tgt := 916) hx hb dL_32 (by decide) (by decide) (off := 884) rfl (by decide) ?_
        exact lo_25 C0 hL s1 s2 a1 a2 h4 hR hW hl kk
      | 26, _ =>
        refine lv_tableIn (tgt := 939) hx hb dL_32 (by decide) (by decide) (off := 907) rfl (by decide) ?_
        exact lo_26 C0 hL s1 s2 a1 a2 h4 hR hW hl kk
      | 27, _ =>
        refine lv_tableIn (tgt := 962) hx hb dL_32 (by decide) (by decide) (off := 930) rfl (by decide) ?_
        exact lo_27 C0 hL s1 s2 a1 a2 h4 hR hW hl kk
      | k + 28, hk => omega
set_option maxHeartbeats 4000000 in
/-- THE LAW, from its entry -/
theorem whole_start {p : Program} {e : Env} {s : State} {m : MethodId} {below : List Frame} {meth : Method} {c : Code} (l : Launch) (hflags : l.flags = flags0) {b L : Nat} {xs : Nat → Int32} (hL : L ≤ 2048) (C0 : lw_At p s m meth c b L xs) : W p l e room_1 s m #[Value.ref b] below meth c s.heap [] 0 0 (lw_Z below #[Value.ref b] s) (entryFrame m ([Value.ref b] : List Value).toArray 4) := by
  obtain ⟨hx, hb, hr, hml, hown, hts, hX, hbl, hlocks, hgv⟩ := id C0
  have hTG := lw_TG hts
  have hA : ∀ q : Nat, s.heap.size ≤ q → (fun q : Nat => s.heap.size ≤ q) q := fun _ h => h
  obtain ⟨D, hDk⟩ := lw_D hTG
  obtain ⟨aC, hCk⟩ := lw_aC hts
  obtain ⟨t, ht⟩ := lw_stat (A := fun q : Nat => s.heap.size ≤ q) hts hgv (fun a ha => Nat.not_le.mpr ha)
  have s1 : ab_Stc D aC (lw_ad s.heap.size t) (fun q => s.heap.size ≤ q) s s.heap := lw_Stc hts hDk hCk ht
  have s2 : ab_Stc D aC (lw_ad (s.heap.size + 162) t) (fun q => s.heap.size ≤ q) s s.heap := lw_Stc hts hDk hCk ht
  have a1 : ∀ k, k < 1000 → lw_ad s.heap.size t k = s.heap.size + k := lw_ad_k
  have a2 : ∀ k, k < 1000 → lw_ad (s.heap.size + 162) t k = s.heap.size + 162 + k := lw_ad_k
  generalize lw_ad s.heap.size t = adx at s1 a1
  generalize lw_ad (s.heap.size + 162) t = adm at s2 a2
  have hK := s1.1
  have hS : va_S (fun q : Nat => s.heap.size ≤ q) s.heap s.heap [] := va_S.rf
  have hP : va_P D ab_cl [] s.heap := fun k q h => by simp at h
  have hD : va_D (fun q : Nat => s.heap.size ≤ q) [] := ⟨fun i j p q h => by simp at h, fun k q h => by simp at h⟩
  have hl := lv_entry ([.ref b]) (n := 4) (Nat.le_of_ble_eq_true rfl)
  rw [lg_entry_eq]
  generalize (lg_sl ([.ref b]) ++ List.replicate (4 - (lg_sl ([.ref b])).length) Slot.unset).toArray = ls at hl ⊢
  have hl : lv_has ls 4 [(0, .ref b)] := hl
  have df : ∀ (ci N : Nat) (C : String) (T : u_T) (fs : List Value), ab_cl[ci]? = some (C, T, N) → ab_DF[ci]? = some fs → ∃ ty : Nat → FieldType, ab_clp C T N ci ty ∧ ∀ j, j < N → defaultValue (ty j) = vp_V fs j := by
    intro ci N C T fs h1 h2
    obtain ⟨ty, hp⟩ := ab_cp h1
    exact ⟨ty, hp, fun j hj => ((hp.2.2.2.2.2.2.2 fs h2).2 j hj)⟩
  obtain ⟨ty1, p1, d1⟩ := df 11 12 RX11 TX11 (ab_DF.getD 11 []) rfl rfl
  obtain ⟨ty2, p2, d2⟩ := df 12 36 RX12 TX12 (ab_DF.getD 12 []) rfl rfl
  refine va_new (ci := 11) (fs := ab_DF.getD 11 []) (C := RX11) (T := TX11) (N := 12) hx hb hTG p1.1 ty1 p1.2.1 hown (lw_tk hts (w := .classLink R_law 7 RX11) (i := 63) (by decide +kernel)) (hTG _ p1.2.2.2.2.2.1) (hTG _ p1.2.2.2.2.2.2.1) hK hP hD hS hA rfl d1 (Nat.le_of_ble_eq_true rfl) (Nat.le_of_ble_eq_true rfl) dL_0 (fun q0 H hP hD hS => ?_)
  refine ab_W_size fun hz => ?_
  have g0 : s.heap.size ≤ q0 := hD.2 0 (q0, .inr (11, ab_DF.getD 11 [])) rfl
  have g1 : q0 < H.size := (hP 0 (q0, .inr (11, ab_DF.getD 11 [])) rfl).lt
  obtain rfl : q0 = s.heap.size := by omega
  have hz1 : H.size = s.heap.size + 1 := by omega
  refine lv_dup hx hb dL_3 rfl ?_
  have e0 : adx 0 = s.heap.size := a1 0 (by omega)
  have hP0 : va_P D ab_cl (ab_wd adx aC tx_0) H := by
    intro k q hk
    refine hP k q ?_
    rw [← hk]
    show [(s.heap.size, _)][k]? = _
    rw [← e0]
    rfl
  refine lw_ci C0 s1 a1 rfl (Nat.le_refl _) (by omega : 65 < 157) mr_65 lk_65 (by omega) (by decide) (rest := [.ref s.heap.size]) (Nat.le_of_ble_eq_true rfl) rfl ⟨3000, ct_x⟩ dL_4 hl.1 hP0 hz1 hS (by rw [tx_len]; show 0 + 1 + (162 - 1) ≤ 600000; omega) (by have := sz_x.1; show 0 + 12 + _ ≤ _; omega) (fun H1 locs1 g1 hS1 f1 => ?_)
  refine W.widen (k := 162) (n := 200000) (by rw [tx_len]; show 0 + 1 + (162 - 1) ≤ 162; omega) (by have := sz_x.1; show 0 + 12 + _ ≤ _; omega) ?_
  refine lv_astore_n (lv' := [(1, .ref s.heap.size), (0, .ref b)]) hx hb dL_7 rfl hl (by decide) rfl (fun ls hl => ?_)
  have hDx : va_D (fun q : Nat => s.heap.size ≤ q) (ab_wd adx aC tx_H) := by
    have := lw_lin (aC := aC) tx_len (by omega) a1
    exact ⟨this.1, fun k q hk => (this.2 k q hk).1⟩
  refine va_new (ci := 12) (fs := ab_DF.getD 12 []) (C := RX12) (T := TX12) (N := 36) hx hb hTG p2.1 ty2 p2.2.1 hown (lw_tk hts (w := .classLink R_law 10 RX12) (i := 729) (by decide +kernel)) (hTG _ p2.2.2.2.2.2.1) (hTG _ p2.2.2.2.2.2.2.1) hK g1 hDx hS1 hA rfl d2 (Nat.le_of_ble_eq_true rfl) (Nat.le_of_ble_eq_true rfl) dL_8 (fun q1 H2 hP2 hD2 hS2 => ?_)
  refine ab_W_size fun hz2 => ?_
  have wl : (ab_wd adx aC tx_H).length = 162 := by unfold ab_wd; rw [List.length_mapIdx]; exact tx_len
  have i1 : (ab_wd adx aC tx_H ++ [(q1, .inr (12, ab_DF.getD 12 []))])[162]? = some (q1, .inr (12, ab_DF.getD 12 [])) := by
    rw [List.getElem?_append_right (by omega), wl]; rfl
  have k0 : s.heap.size ≤ q1 := hD2.2 162 _ i1
  have k1 : q1 < H2.size := (hP2 162 _ i1).lt
  have k2 : s.heap.size + 162 ≤ q1 := by
    rcases Nat.lt_or_ge q1 (s.heap.size + 162) with hlt | hge
    · exfalso
      have hk : q1 - s.heap.size < tx_H.length := by rw [tx_len]; omega
      have i2 : (ab_wd adx aC tx_H ++ [(q1, .inr (12, ab_DF.getD 12 []))])[q1 - s.heap.size]? = some (adx (q1 - s.heap.size), ab_cz adx aC tx_H[q1 - s.heap.size]) := by
        rw [List.getElem?_append_left (by omega)]
        exact ab_wd_at (List.getElem?_eq_getElem hk)
      have := hD2.1 162 (q1 - s.heap.size) _ _ i1 i2 (by show q1 = adx (q1 - s.heap.size); rw [a1 _ (by omega)]; omega)
      omega
    · exact hge
  obtain rfl : q1 = s.heap.size + 162 := by omega
  have hz3 : H2.size = s.heap.size + 162 + 1 := by omega
  refine lv_dup hx hb dL_11 rfl ?_
  have e2 : adm 0 = s.heap.size + 162 := a2 0 (by omega)
  have hP3 : va_P D ab_cl (ab_wd adm aC tm_0) H2 := by
    intro k q hk
    cases k with
    | zero =>
      have hq : (adm 0, ab_cz adm aC (12, ab_DF.getD 12 [])) = q := Option.some.inj hk
      rw [← hq, e2]
      exact hP2 162 _ i1
    | succ k => simp [ab_wd, t0_m] at hk
  have hPx : va_P D ab_cl (ab_wd adx aC tx_H) H2 := fun k q hk => hP2 k q (by rw [List.getElem?_append_left (List.getElem?_eq_some_iff.mp hk).1]; exact hk)
  refine lw_ci C0 s2 a2 rfl (Nat.le_add_right _ _) (by omega : 98 < 157) mr_98 lk_98 (by omega) (by decide) (rest := [.ref (s.heap.size + 162)]) (Nat.le_of_ble_eq_true rfl) rfl ct_m dL_12 hl.1 hP3 hz3 hS2 (by rw [tm_len]; show 162 + 1 + (27 - 1) ≤ 600000; omega) (by have := sz_m.1; omega) (fun H3 locs3 g3 hS3 f3 => ?_)
  refine W.widen (k := 600000) (n := 7302250) (by rw [tm_len]; show 162 + 1 + (27 - 1) ≤ 600000; omega) (by have := sz_m.1; omega) ?_
  refine lv_astore_n (lv' := [(2, .ref (s.heap.size + 162)), (1, .ref s.heap.size), (0, .ref b)]) hx hb dL_15 rfl hl (by decide) rfl (fun ls hl => ?_)
  refine lv_iconst (v := nI 0) hx hb dL_16 (by decide) ?_
  refine lv_istore_n (lv' := [(3, .int (nI 0)), (2, .ref (s.heap.size + 162)), (1, .ref s.heap.size), (0, .ref b)]) hx hb dL_17 rfl hl (by decide) rfl (fun ls hl => ?_)
  have w1 : va_P D ab_cl (ab_wd adx aC (sg_mk tx_H st_x)) H3 := by
    rw [st_x_mk]
    intro k q hk
    have hd := (lw_lin (aC := aC) tx_len (by omega) a1).2 k q hk
    have hd' : s.heap.size ≤ q.1 ∧ q.1 < s.heap.size + 162 := hd
    exact (hPx k q hk).kept (f3 q.1 (hPx k q hk).lt (by omega))
  have w2 : va_P D ab_cl (ab_wd adm aC (sg_mk tm_H st_m)) H3 := by rw [st_m_mk]; exact g3
  exact lw_loop C0 hL s1 s2 a1 a2 L 0 (by omega) (by omega) st_x st_m st_Rel H3 locs3 ls ⟨w1, w2, hS3⟩ hl
-- ===== YOUR PART ENDS =====
set_option maxHeartbeats 4000000 in
theorem lw_walk (l : Launch) (hflags : l.flags = flags0) (b : Addr) (xs : List Int32) : MetFree l x (headSpec (Jvm.Cond.code x code maxLocals ret :: tables_1) room_1) (lw_P b xs) (fun _ _ _ _ _ => True) lw_Q := by
  refine MetFree.of_bodyS (code := code) (maxLocals := maxLocals) (ret := ret) (by decide) ?_ ?_
  · intro args s m h hn
    obtain ⟨meth, c, h1, h2, h3, h4, h5, h6, -, -⟩ := Cond.code_spec hn (atoms_spec (ws := Jvm.Cond.code x code maxLocals ret :: tables_1) h _ List.mem_cons_self)
    exact ⟨meth, c, h1, h2, h3, h4, h5, h6⟩
  · intro p e s m args below meth c s₁ B hml0 hP _
    obtain ⟨rfl, hx, hbd, hgv⟩ := hP
    obtain ⟨scr, harrAt, hlist, hof, hsmall⟩ := hx
    obtain ⟨hcb, hkn, -, -⟩ := State.arrayAt?_spec harrAt
    have hown : s.vm.findClass R_law = some m.cls := findClass_of_methodNamed B.named
    have hts0 : ∀ c ∈ (Jvm.Cond.code x code maxLocals ret :: tables_1), c.before #[Value.ref b] s = true := atoms_spec (ws := Jvm.Cond.code x code maxLocals ret :: tables_1) B.pre
    have hts : ∀ w ∈ lw_tbl, w.before #[Value.ref b] s = true := k2_hts_sels lw_privs (fun w hw => hts0 w (List.mem_cons_of_mem _ hw)) lw_privs_ok
    have hml : c.maxLocals = 4 := B.maxLocals_eq (hts0 _ List.mem_cons_self)
    have X₀ : Stand p l e room_1 s m #[Value.ref b] below meth c s₁ [] 0 0 := Stand.of_body B
    have hh0 : s₁.heap = s.heap := by rw [B.state]; rfl
    have hsz : scr.slots.size = xs.length := by rw [← Array.length_toList, hlist, List.length_map]
    have hval : ∀ j : Nat, j < xs.length → scr.slots[j]? = some (.int (xs.getD j 0)) := fun j hj => by
      rw [← Array.getElem?_toList, hlist]
      simp [hj]
    have hbl : b < s.heap.size := (Array.getElem?_eq_some_iff.mp hcb).1
    have hX : va_X b xs.length (fun j => xs.getD j 0) s s.heap := ⟨scr, hcb, hof, hkn, hsz, hval⟩
    have K : W p l e room_1 s m #[Value.ref b] below meth c s₁.heap [] 0 0 (lw_Z below #[Value.ref b] s) (entryFrame m ([Value.ref b] : List Value).toArray 4) := by
      rw [hh0]
      exact whole_start l hflags hbd ⟨B.exec, B.bytes, B.returns, hml, hown, hts, hX, hbl, B.notSynchronized, hgv⟩
    obtain ⟨t, a1, o, b1, b2, b3⟩ := K s₁ rfl X₀
    exact ⟨t, o, a1, b1, b2, b3⟩
theorem lw_pre_spec {args : Array Value} {s : State} (h : (Jvm.Cond.and given_1 narrow_1).before args s = true) (hr : rest_1_c.before args s = true) : ∃ (b : Addr) (xs : List Int32), lw_P b xs args s := by
  have hs := flat_of_before _ h
  have hq := flat_of_before _ hr
  have hc : (Cond.count 1).before args s = true := hs _ (by decide +kernel)
  have harr : (Cond.arrayOf (.arg 0) .int).before args s = true := hs _ (by decide +kernel)
  have hle : (Cond.le (.length (.arg 0)) (.int 2048)).before args s = true := hs _ (by decide +kernel)
  have hlen : (Cond.isInt (.length (.arg 0))).before args s = true := hq _ (by decide +kernel)
  have hall : (Cond.all (.arg 0) (.isInt (.elem (.arg 0) (.index 0)))).before args s = true := hq _ (by decide +kernel)
  obtain ⟨b, xs, hb, hx⟩ := State.ints_of_pre rfl harr hlen hall
  have hsm : xs.length < 2 ^ 31 := hx.choose_spec.2.2.2
  have hev : (Term.length (.arg 0)).eval args s none [] s = some (.int xs.length.toInt32) := hx.length_eval hb
  have hv := Cond.le_ints hev (show (Term.int 2048).eval args s none [] s = some (.int 2048) from rfl)
  have hd : xs.length.toInt32 ≤ 2048 := by
    simpa [Cond.before, Cond.holds, hv] using hle
  have hN : xs.length ≤ 2048 := (Int32.ofNat_le_ofNat hsm (by decide)).mp (show Int32.ofNat xs.length ≤ Int32.ofNat 2048 from hd)
  exact ⟨b, xs, Cond.one_arg hc (show args[0]? = some (.ref b) from hb), hx, hN, h⟩
theorem lw_comes (l : Launch) (hflags : l.flags = flags0) : Comes l x (Jvm.Cond.code x code maxLocals ret :: tables_1) room_1 (fun tb e args s => Calls_1 tb e args s ∧ rest_1 tb e args s ∧ Pre_1 tb e args s)
    (fun _ _ args s o t => lw_Q args s o t) := by
  intro p e ha hc hk s m args below hf hfit hheap happ hpre
  obtain ⟨b, xs, hP⟩ := lw_pre_spec hpre.2.2 hpre.2.1
  obtain ⟨k, o, h1, h2, h3, hQ⟩ := lw_walk l hflags b xs p e ha hc hk s m args below hf ((Spec.applies_iff_loose hf).mp happ).1 hP trivial
  exact ⟨k, o, h1, h2, h3, hQ⟩
theorem lw_frame {s t : State} {o : Outcome} {args : Array Value} (h : Framed s o t [] 600000 7302250) :
    Framed s o t (fieldLocs frame_1_writes args s ++ arrayLocs frame_1_arrays args s ++ staticLocs frame_1_statics s) 600000 7302250 := h
theorem lw_limb (L : Cond) (hL : ∀ (args : Array Value) (s t : State), L.after args s (.returned (some (.int 1))) t = true) :
    ArmFor flags0 classFile x code maxLocals ret World_1 tables_1 room_1 Calls_1 rest_1 Pre_1
      (fun tb e a s o t => postC L tb e a s o t ∧ Framed s o t (fieldLocs frame_1_writes a s ++ arrayLocs frame_1_arrays a s ++ staticLocs frame_1_statics s) 600000 7302250) := by
  intro l hflags _ _ p e ha hc hk s m args below hf hfit hheap happ hpre
  obtain ⟨k, o, h1, h2, h3, rfl, hF⟩ := lw_comes l hflags p e ha hc hk s m args below hf hfit hheap happ hpre
  exact ⟨k, _, h1, h2, h3, hL args s _, lw_frame hF⟩
theorem i_vc : Claimed_1_1 ∧ Claimed_1_2 := ⟨lw_limb limb_1_1 (fun args s t => by simp [limb_1_1, Cond.after, Cond.holds, Cond.value]), lw_limb limb_1_2 (fun args s t => Cond.after_iff.mpr (by
  first | (rw [show limb_1_2 = Cond.eq .result (.int 1) from rfl, Cond.eq_ints (x := 1) (y := 1) rfl rfl]; simp; done) | (simp [limb_1_2, Cond.value, Term.eval]; done)))⟩
