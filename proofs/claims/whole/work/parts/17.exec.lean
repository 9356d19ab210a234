/-! what the abstract machine runs to, the machine runs to -/
def ab_Pc (D : va_G) (aC : Nat → ClassId) (ad : Nat → Nat) (A : Nat → Prop) (al : Bool) (av : List Value) (h : ab_H) : Array Value → State → Prop := fun v U =>
  v = (av.map (ab_rl ad)).toArray ∧ ab_Stc D aC ad A U U.heap ∧ ab_Ad ad A al U.heap ∧ va_P D ab_cl (ab_wd ad aC h) U.heap ∧ va_D A (ab_wd ad aC h) ∧ (al = true → U.heap.size = ad h.length)
def ab_Qc (D : va_G) (aC : Nat → ClassId) (ad : Nat → Nat) (A : Nat → Prop) (r : Option Value) (h' : ab_H) : Array Value → State → Outcome → State → Prop := fun _ st o t =>
  o = .returned (r.map (ab_rl ad)) ∧ va_P D ab_cl (ab_wd ad aC h') t.heap ∧ va_D A (ab_wd ad aC h') ∧ va_F A st t
theorem ab_blind {D : va_G} {aC : Nat → ClassId} {ad : Nat → Nat} {A : Nat → Prop} {al : Bool} {av : List Value} {h : ab_H} : FrameBlind (ab_Pc D aC ad A al av h) := by
  intro a U g mk q
  obtain ⟨q1, q2, q3, q4, q5, q6⟩ := q
  exact ⟨q1, ab_Stc.moved (U := U.calling g mk a) q2 (State.WarmedH.refl U) (fun _ _ _ => rfl), q3, q4, q5, q6⟩
/-- a run from a point, with fuel n, is the machine's -/
def ab_Goal (l : Launch) (D : va_G) (aC : Nat → ClassId) (ad : Nat → Nat) (A : Nat → Prop) (al : Bool) (n : Nat) : Prop :=
  ∀ (mid pc : Nat) (L st : List Value) (h : ab_H) (r : Option Value) (h' : ab_H), ab_exec al n mid (ab_CM mid) pc L st h = some (r, h') → mid < 157 → h.length ≤ 950 →
  ∀ (p : Program) (e : Env) (R : Room) (s : State) (m : MethodId) (args : Array Value) (below : List Frame) (meth : Method) (c : Code), ab_FF p s m args meth c mid → ab_Stc D aC ad A s s.heap → ab_Ad ad A al s.heap →
  ∀ n0 s0 : Nat, ((ab_MR mid).2.2.2.2.2.1 ≤ R.frames ∧ (ab_MR mid).2.2.2.2.2.2 ≤ R.locals) → h'.length - n0 ≤ R.cells → ab_sz h' - s0 ≤ R.slots → n0 ≤ h.length → s0 ≤ ab_sz h → (al = true → s.heap.size = ad n0) →
  ∀ (H : Heap) (locs : List Loc) (ls : Array Slot), ab_I D aC ad A s.heap h H locs → ab_LR ad ls (ab_MR mid).2.2.2.1 L →
  W p l e R s m args below meth c H locs (h.length - n0) (ab_sz h - s0) (MQ below (ab_Qc D aC ad A r h') args s (h'.length - n0) (ab_sz h' - s0) A) (F0 m pc ls (st.map (ab_rl ad)))
theorem ab_TG_good {w : Cond} (h : w ∈ ab_TG) : w ∈ ab_TG ∧ ((w.onTables && w.keeps) = true ∨ ∃ ty, w = .arrayClass ty) := ⟨h, good_of_word (List.mem_filter.mp h).2⟩
/-- a method's contract, out of its run -/
theorem ab_met {l : Launch} {D : va_G} {aC : Nat → ClassId} {ad : Nat → Nat} {A : Nat → Prop} {al : Bool} {n mid : Nat} (ih : ab_Goal l D aC ad A al n) (hmid : mid < 157) {av : List Value} {h h' : ab_H} {r : Option Value} (hl : h.length ≤ 950) (hav : (ab_lv av).length ≤ (ab_MR mid).2.2.2.1)
    (hs : ab_exec al n mid (ab_CM mid) 0 (ab_ent (ab_MR mid).2.2.2.1 av) [] h = some (r, h')) :
    Met l (ab_YM mid) (Cond.code (ab_YM mid) (ab_BM mid) (ab_MR mid).2.2.2.1 (ab_RT (ab_MR mid).2.2.2.2.1) :: ab_TG) { frames := (ab_MR mid).2.2.2.2.2.1, cells := h'.length - h.length, slots := ab_sz h' - ab_sz h, locals := (ab_MR mid).2.2.2.2.2.2 } (ab_Pc D aC ad A al av h) (ab_Qc D aC ad A r h') (h'.length - h.length) (ab_sz h' - ab_sz h) A := by
  obtain ⟨m1, m2, m3, m4, m5, m6, m7, m8⟩ := ab_mf hmid
  refine Met.ofW (cc := ab_BM mid) (maxL := (ab_MR mid).2.2.2.1) (ret := ab_RT (ab_MR mid).2.2.2.2.1) m4 rfl ?_
  intro p e s m args below meth c s₁ B hml hv
  obtain ⟨rfl, hS, hAd, hP, hD, hsz⟩ := hv
  rw [lg_entry_eq]
  have hts := atoms_spec (ws := Cond.code (ab_YM mid) (ab_BM mid) (ab_MR mid).2.2.2.1 (ab_RT (ab_MR mid).2.2.2.2.1) :: ab_TG) B.pre
  have F : ab_FF p s m (av.map (ab_rl ad)).toArray meth c mid := ⟨B.exec, B.bytes, hml, B.returns, B.notSynchronized, by rw [← m3]; exact findClass_of_methodNamed B.named, fun w hw => hts w (List.mem_cons_of_mem _ hw), fun hi => by rw [(name_of_methodNamed B.named B.method).1]; exact (m8 hi).2⟩
  have K := ih mid 0 (ab_ent (ab_MR mid).2.2.2.1 av) [] h r h' hs hmid hl p e { frames := (ab_MR mid).2.2.2.2.2.1, cells := h'.length - h.length, slots := ab_sz h' - ab_sz h, locals := (ab_MR mid).2.2.2.2.2.2 } s m _ below meth c F hS hAd h.length (ab_sz h) ⟨Nat.le_refl _, Nat.le_refl _⟩ (Nat.le_refl _) (Nat.le_refl _) (Nat.le_refl _) (Nat.le_refl _) hsz s.heap [] _ ⟨hP, hD, va_S.rf⟩ (ab_LR_entry ad av hav)
  rw [Nat.sub_self, Nat.sub_self] at K
  exact K
set_option maxRecDepth 100000 in
theorem ab_init_chk : ((List.range 157).all fun k => !(Nat.beq (ab_MR k).2.1 2) || Nat.beq (ab_MR k).2.2.2.2.1 0) = true := by decide +kernel
theorem ab_init_ret {mid : Nat} (h : mid < 157) (hk : (ab_MR mid).2.1 = 2) : ab_RT (ab_MR mid).2.2.2.2.1 = none := by
  have h1 := List.all_eq_true.mp ab_init_chk mid (List.mem_range.mpr h)
  rw [Bool.or_eq_true] at h1
  rcases h1 with h1 | h1
  · rw [hk] at h1
    exact absurd h1 (by decide)
  · rw [Nat.eq_of_beq_eq_true h1]
    rfl
section AbMain
variable {p : Program} {l : Launch} {e : Env} {R : Room} {s : State} {m : MethodId} {args : Array Value} {below : List Frame} {meth : Method} {c : Code}
variable {D : va_G} {aC : Nat → ClassId} {ad : Nat → Nat} {A : Nat → Prop} {al : Bool} {mid pc : Nat} {L st : List Value} {h : ab_H}
/-- behind a call -/
theorem ab_call {H : Heap} {locs : List Loc} {ls : Array Slot} {cells slots mc ms : Nat} {Q : State → Prop} {st0 rest : List Value} {rv : Option Value} {h1 : ab_H} {a : Array Value} (hr : va_Run p l e R s m args below meth c H locs cells slots mc ms (F0 m pc ls st0) rest (ab_Qc D aC ad A rv h1 a) A) (hI : ab_I D aC ad A s.heap h H locs)
    (kk : ∀ (H1 : Heap) (locs1 : List Loc), ab_I D aC ad A s.heap h1 H1 locs1 → W p l e R s m args below meth c H1 locs1 (cells + mc) (slots + ms) Q (F0 m (pc + 3) ls ((rv.map (ab_rl ad)).toList ++ rest))) : W p l e R s m args below meth c H locs cells slots Q (F0 m pc ls st0) := by
  intro T hT X
  obtain ⟨v, st₀, t, T', L, h0, X', hL, e1, e2, ⟨hv, hP, hD, hz, hk⟩, st⟩ := hr T hT X
  cases hv
  rw [h0] at hz hk
  have hS := hI.2.2
  obtain ⟨t2, a1, b1⟩ := kk T'.heap (locs ++ L) ⟨by rw [e1]; exact hP, hD, ⟨Nat.le_trans hS.1 (by rw [e1]; exact hz), fun q h1 h2 => by rw [e1, hk q (Nat.lt_of_lt_of_le h1 hS.1) h2]; exact hS.2.1 q h1 h2, fun q hq => by
      rcases List.mem_append.mp hq with h | h
      · exact hS.2.2 q h
      · exact hL q h⟩⟩ T' rfl X'
  exact ⟨t2, st t2 a1, b1⟩
/-- a return -/
theorem ab_ret (F : ab_FF p s m args meth c mid) (hmid : mid < 157) {i : Instr} {x q : Nat} {r : Option Value} (hf : ab_ft (ab_CM mid) pc = some (i, x, q)) (hs : ab_stp i al mid pc L st h = some (.inr (.inl r))) {H : Heap} {locs : List Loc} {ls : Array Slot} {cells slots : Nat} (hI : ab_I D aC ad A s.heap h H locs) :
    W p l e R s m args below meth c H locs cells slots (MQ below (ab_Qc D aC ad A r h) args s cells slots A) (F0 m pc ls (st.map (ab_rl ad))) := by
  have hk := ab_ft_ok (ab_ck mid hmid) hf
  have hlk := F.2.2.2.2.1
  have hr := F.2.2.2.1
  rcases ab_stp_inr hs with rfl | rfl | rfl | ⟨n, rfl⟩ | ⟨n, rfl⟩ | ⟨n, rfl⟩
  · have hs : ab_s_ireturn al mid pc L st h = some (.inr (.inl r)) := hs
    unfold ab_s_ireturn at hs
    split at hs
    · rename_i x
      split at hs
      · rename_i e1
        cases hs
        rw [e1] at hr
        exact W.iret F.1 F.2.1 hr (fun t ht hW => ⟨rfl, by rw [ht]; exact hI.1, hI.2.1, hI.2.2.F ht⟩) hI.2.2.2.2 (of_decide_eq_true hk) hlk
      · rename_i e1
        rw [e1] at hr
        split at hs
        · rename_i h01
          cases hs
          exact W.zret (ty := .boolean) F.1 F.2.1 hr (by rcases h01 with rfl | rfl <;> decide) (fun t ht hW => ⟨rfl, by rw [ht]; exact hI.1, hI.2.1, hI.2.2.F ht⟩) hI.2.2.2.2 (of_decide_eq_true hk) hlk
        · cases hs
      · cases hs
    · cases hs
  · have hs : ab_s_lreturn al mid pc L st h = some (.inr (.inl r)) := hs
    unfold ab_s_lreturn at hs
    split at hs
    · split at hs
      · rename_i e1
        cases hs
        rw [e1] at hr
        exact W.lret F.1 F.2.1 hr (fun t ht hW => ⟨rfl, by rw [ht]; exact hI.1, hI.2.1, hI.2.2.F ht⟩) hI.2.2.2.2 (of_decide_eq_true hk) hlk
      · cases hs
    · cases hs
  · have hs : ab_s_return_ al mid pc L st h = some (.inr (.inl r)) := hs
    unfold ab_s_return_ at hs
    split at hs
    · split at hs
      · rename_i e1
        cases hs
        rw [e1] at hr
        exact W.vret F.1 F.2.1 hr (fun t ht hW => ⟨rfl, by rw [ht]; exact hI.1, hI.2.1, hI.2.2.F ht⟩) hI.2.2.2.2 (of_decide_eq_true hk) hlk
      · cases hs
    · cases hs
  · exact absurd hs ab_cal_noret
  · have hs : ab_s_invokespecial n al mid pc L st h = some (.inr (.inl r)) := hs
    unfold ab_s_invokespecial at hs
    split at hs
    · repeat' split at hs
      all_goals cases hs
    · exact absurd hs ab_cal_noret
  · have hs : ab_s_invokestatic n al mid pc L st h = some (.inr (.inl r)) := hs
    unfold ab_s_invokestatic at hs
    split at hs
    · unfold ab_s_arraycopy at hs
      repeat' split at hs
      all_goals cases hs
    · split at hs
      · unfold ab_s_max at hs
        repeat' split at hs
        all_goals cases hs
      · split at hs
        · unfold ab_s_min at hs
          repeat' split at hs
          all_goals cases hs
        · exact absurd hs ab_cal_noret
theorem ab_rcv0 {ci : Nat} {av : List Value} (g : ab_rcv 0 ci av h = true) : ∃ (a : Nat) (As : List Value) (t : Nat) (fs : List Value), av = .ref a :: As ∧ h[a]? = some (t, fs) ∧ t = ci ∧ t < 13 := by
  unfold ab_rcv at g
  simp only at g
  split at g
  · rename_i a As
    rw [ab_nth_eq] at g
    split at g
    · rename_i t fs ha
      rw [Bool.and_eq_true] at g
      exact ⟨a, As, t, fs, rfl, ha, Nat.eq_of_beq_eq_true g.1, Nat.lt_succ_of_le (Nat.le_of_ble_eq_true g.2)⟩
    · cases g
  · cases g
theorem ab_rcv2 {ci : Nat} {av : List Value} (g : ab_rcv 2 ci av h = true) : ∃ (a : Nat) (As : List Value), av = .ref a :: As := by
  unfold ab_rcv at g
  simp only at g
  split at g
  · rename_i a As
    exact ⟨a, As, rfl⟩
  · cases g
theorem ab_wsG {ws : List Cond} (h : ∀ w ∈ ws, w ∈ ab_TG) : GoodIn ab_TG ws := fun w hw => ab_TG_good (h w hw)
/-- a call -/
theorem ab_invk {n : Nat} (ih : ab_Goal l D aC ad A al n) (F : ab_FF p s m args meth c mid) (S : ab_Stc D aC ad A s s.heap) (hAd : ab_Ad ad A al s.heap) (hR : (ab_MR mid).2.2.2.2.2.1 ≤ R.frames ∧ (ab_MR mid).2.2.2.2.2.2 ≤ R.locals) (hmid : mid < 157) (hl : h.length ≤ 950) {i : Instr} {x q mid' : Nat} {av st' : List Value} (hf : ab_ft (ab_CM mid) pc = some (i, x, q)) (hs : ab_stp i al mid pc L st h = some (.inr (.inr (mid', av, st')))) {rv : Option Value} {h1 : ab_H}
    (hc : ab_exec al n mid' (ab_CM mid') 0 (ab_ent (ab_MR mid').2.2.2.1 av) [] h = some (rv, h1)) {H : Heap} {locs : List Loc} {ls : Array Slot} {cells slots : Nat} {Q : State → Prop} (hI : ab_I D aC ad A s.heap h H locs) (hL : ab_LR ad ls (ab_MR mid).2.2.2.1 L) (hcc : al = true → s.heap.size + cells = ad h.length) (h0 : al = true → 0 < h.length ∨ cells = 0) (hc1 : cells + (h1.length - h.length) ≤ R.cells) (hc2 : slots + (ab_sz h1 - ab_sz h) ≤ R.slots)
    (kk : ∀ (H1 : Heap) (locs1 : List Loc), ab_I D aC ad A s.heap h1 H1 locs1 → W p l e R s m args below meth c H1 locs1 (cells + (h1.length - h.length)) (slots + (ab_sz h1 - ab_sz h)) Q (F0 m (pc + 3) ls ((rv.toList ++ st').map (ab_rl ad)))) :
    W p l e R s m args below meth c H locs cells slots Q (F0 m pc ls (st.map (ab_rl ad))) := by
  have hk := ab_ft_ok (ab_ck mid hmid) hf
  refine ab_W_size fun hle => ?_
  have hsz : al = true → H.size = ad h.length := fun hal => by
    rcases h0 hal with h0 | h0
    · exact ab_size hI (hAd hal).1 h0 (by omega) (hcc hal) hle
    · have a1 := hI.2.2.1
      have a2 := hcc hal
      omega
  have hPc : ∀ U : State, U.heap = H → s.WarmedH U.vm → ab_Pc D aC ad A al av h (av.map (ab_rl ad)).toArray U := fun U hU hW => ⟨rfl, by rw [hU]; exact S.moved hW (fun a h1 h2 => hI.2.2.2.1 a h1 h2), fun hal => ⟨(hAd hal).1, fun q hq => (hAd hal).2 q (Nat.le_trans hI.2.2.1 (by rw [hU] at hq; exact hq))⟩, by rw [hU]; exact hI.1, hI.2.1, fun hal => by rw [hU]; exact hsz hal⟩
  have hroom : ∀ (k : Nat), ab_cat st' ≤ 8 → 2 * (F0 m pc ls (st.map (ab_rl ad))).monitorRoom + ((st'.map (ab_rl ad)).map fun v => v.category).sum ≤ 8 := fun _ h8 => by
    rw [ab_cat_rl]
    show 2 * 0 + _ ≤ _
    omega
  have hmap : (rv.toList ++ st').map (ab_rl ad) = (rv.map (ab_rl ad)).toList ++ st'.map (ab_rl ad) := by cases rv <;> simp
  rw [hmap] at kk
  have fix : CallFix p m c (ab_BM mid) (ab_MR mid).2.2.2.1 s args ab_TG (ab_RC (ab_MR mid).1) := ⟨F.1, F.2.1, F.2.2.1, F.2.2.2.2.2.1, F.2.2.2.2.2.2.1⟩
  rcases ab_stp_inr hs with rfl | rfl | rfl | ⟨n', rfl⟩ | ⟨n', rfl⟩ | ⟨n', rfl⟩
  · have hs : ab_s_ireturn al mid pc L st h = _ := hs
    unfold ab_s_ireturn at hs
    repeat' split at hs
    all_goals cases hs
  · have hs : ab_s_lreturn al mid pc L st h = _ := hs
    unfold ab_s_lreturn at hs
    repeat' split at hs
    all_goals cases hs
  · have hs : ab_s_return_ al mid pc L st h = _ := hs
    unfold ab_s_return_ at hs
    repeat' split at hs
    all_goals cases hs
  · obtain ⟨rfl, g1, g2, g3, g4, g5, g6, g7, g8, g9⟩ := ab_cal_spec hs
    have hk2 : (ab_dc (ab_BM mid) pc (.invokevirtual x) 3 && decide (lw_tbl[q]? = some (.methodLink (ab_RC (ab_MR mid).1) x (ab_YM mid')))) = true := hk
    rw [Bool.and_eq_true] at hk2
    have hlk := ab_in (of_decide_eq_true hk2.2) rfl
    obtain ⟨m1, m2, m3, m4, m5, m6, m7, m8⟩ := ab_mf g2
    have hM := ab_met ih g2 hl g8 hc
    obtain ⟨a, As, t, fs, rfl, ha, ht, ht12⟩ := ab_rcv0 g9
    obtain ⟨C, T, N, hcl⟩ := ab_cl_some ht12
    obtain ⟨ty, hp⟩ := ab_cp hcl
    have hC : C = (ab_YM mid').cls := by rw [hp.2.2.2.2.1, ht, m3]
    have hrecv := va_recv (q := (C, T, N)) S.1 hI.1 hcl (q0 := a) (fs := fs.map (ab_rl ad)) (a := ad a) (by rw [ab_wd_at ha, ab_cz_o ht12])
    subst g6
    have hAsl : As.length = (ab_MR mid').2.2.1 := by simpa using g5
    refine ab_call (va_runV (As := As.map (ab_rl ad)) (b := ad a) (rest := st'.map (ab_rl ad)) (C := (ab_YM mid').cls) (n := (ab_MR mid').2.2.1) fix hM (cwV _ F.2.2.2.2.2.2.1 (ab_wsG (fun w hw => ?_)) rfl rfl rfl ⟨rfl, m5⟩ ⟨by show (ab_MR mid').2.2.2.2.2.1 + 1 ≤ R.frames; omega, by show 8 + ((ab_MR mid').2.2.2.1 + 11) + (ab_MR mid').2.2.2.2.2.2 ≤ R.locals; omega⟩) ⟨ab_blind, by rw [← hC]; exact hrecv, fun U hU hW => hPc U hU hW⟩ rfl (by rw [List.length_map]; exact hAsl) hL.size ?_ (hroom 0 g7) (of_decide_eq_true hk2.1) ⟨hc1, hc2⟩) hI kk
    · unfold wsV at hw
      rcases List.mem_append.mp hw with hw | hw
      · simp only [List.mem_cons, List.not_mem_nil, or_false] at hw
        rcases hw with rfl | rfl | rfl | rfl
        · exact hlk
        · exact (m6 g1).1
        · exact (m6 g1).2
        · exact m2
      · rcases List.mem_cons.mp hw with rfl | hw
        · exact m1
        · exact hw
    · simp [ab_rl]
  · have hs : ab_s_invokespecial n' al mid pc L st h = _ := hs
    unfold ab_s_invokespecial at hs
    split at hs
    · repeat' split at hs
      all_goals cases hs
    · obtain ⟨rfl, g1, g2, g3, g4, g5, g6, g7, g8, g9⟩ := ab_cal_spec hs
      have hk2 : (ab_dc (ab_BM mid) pc (.invokespecial x) 3 && ab_mw (ab_MR mid).1 mid' x q) = true := hk
      rw [Bool.and_eq_true] at hk2
      obtain ⟨m1, m2, m3, m4, m5, m6, m7, m8⟩ := ab_mf g2
      have hM := ab_met ih g2 hl g8 hc
      obtain ⟨a, As, rfl⟩ := ab_rcv2 g9
      subst g6
      have hAsl : As.length = (ab_MR mid').2.2.1 := by simpa using g5
      have hwk := hk2.2
      unfold ab_mw at hwk
      simp only [Bool.or_eq_true, decide_eq_true_eq] at hwk
      have hret : ab_RT (ab_MR mid').2.2.2.2.1 = none := ab_init_ret g2 g1
      rw [hret] at hM m1
      rcases hwk with hwk | hwk
      · refine ab_call (va_runI (As := As.map (ab_rl ad)) (b := ad a) (rest := st'.map (ab_rl ad)) (n := (ab_MR mid').2.2.1) fix hM (cwI _ F.2.2.2.2.2.2.1 (ab_wsG (fun w hw => ?_)) rfl rfl rfl (F.2.2.2.2.2.2.1 _ m2) (F.2.2.2.2.2.2.1 _ (ab_in hwk rfl)) (F.2.2.2.2.2.2.1 _ (m8 g1).1) (m8 g1).2 m5 ⟨by show (ab_MR mid').2.2.2.2.2.1 + 1 ≤ R.frames; omega, by show 8 + ((ab_MR mid').2.2.2.1 + 11) + (ab_MR mid').2.2.2.2.2.2 ≤ R.locals; omega⟩) ⟨ab_blind, fun U hU hW => hPc U hU hW⟩ rfl (by rw [List.length_map]; exact hAsl) hL.size ?_ (hroom 0 g7) (of_decide_eq_true hk2.1) ⟨hc1, hc2⟩) hI kk
        · rcases List.mem_cons.mp hw with rfl | hw
          · exact m1
          · exact hw
        · simp [ab_rl]
      · refine ab_call (va_runIN (As := As.map (ab_rl ad)) (b := ad a) (rest := st'.map (ab_rl ad)) (n := (ab_MR mid').2.2.1) fix hM ⟨va_cnB _ F.2.2.2.2.2.2.1 (ab_wsG (fun w hw => ?_)) rfl rfl rfl (S.2.1 _ hwk) (F.2.2.2.2.2.2.1 _ m2) m5 ⟨by show (ab_MR mid').2.2.2.2.2.1 + 1 ≤ R.frames; omega, by show 8 + ((ab_MR mid').2.2.2.1 + 11) + (ab_MR mid').2.2.2.2.2.2 ≤ R.locals; omega⟩, (m8 g1).2, F.2.2.2.2.2.2.1 _ (m8 g1).1⟩ ⟨ab_blind, fun U hU hW => hPc U hU hW⟩ rfl (by rw [List.length_map]; exact hAsl) hL.size ?_ (hroom 0 g7) (of_decide_eq_true hk2.1) ⟨hc1, hc2⟩) hI kk
        · rcases List.mem_cons.mp hw with rfl | hw
          · exact m1
          · exact hw
        · simp [ab_rl]
  · have hs : ab_s_invokestatic n' al mid pc L st h = _ := hs
    unfold ab_s_invokestatic at hs
    split at hs
    · unfold ab_s_arraycopy at hs
      repeat' split at hs
      all_goals cases hs
    · split at hs
      · unfold ab_s_max at hs
        repeat' split at hs
        all_goals cases hs
      · split at hs
        · unfold ab_s_min at hs
          repeat' split at hs
          all_goals cases hs
        · obtain ⟨rfl, g1, g2, g3, g4, g5, g6, g7, g8, g9⟩ := ab_cal_spec hs
          have hk2 : (ab_dc (ab_BM mid) pc (.invokestatic x) 3 && ab_mw (ab_MR mid).1 mid' x q) = true := hk
          rw [Bool.and_eq_true] at hk2
          obtain ⟨m1, m2, m3, m4, m5, m6, m7, m8⟩ := ab_mf g2
          have hM := ab_met ih g2 hl g8 hc
          subst g6
          have hAsl : av.length = (ab_MR mid').2.2.1 := by simpa using g5
          have hwk := hk2.2
          unfold ab_mw at hwk
          simp only [Bool.or_eq_true, decide_eq_true_eq] at hwk
          rcases hwk with hwk | hwk
          · refine ab_call (va_runS (As := av.map (ab_rl ad)) (rest := st'.map (ab_rl ad)) (n := (ab_MR mid').2.2.1) fix hM (va_cwS _ F.2.2.2.2.2.2.1 (ab_wsG (fun w hw => ?_)) rfl rfl rfl m5 ⟨by show (ab_MR mid').2.2.2.2.2.1 + 1 ≤ R.frames; omega, by show 8 + ((ab_MR mid').2.2.2.1 + 11) + (ab_MR mid').2.2.2.2.2.2 ≤ R.locals; omega⟩) ⟨ab_blind, fun U hU hW => hPc U hU hW⟩ rfl (by rw [List.length_map]; exact hAsl) hL.size ?_ (hroom 0 g7) (of_decide_eq_true hk2.1) ⟨hc1, hc2⟩) hI kk
            · unfold va_wsS at hw
              rcases List.mem_append.mp hw with hw | hw
              · simp only [List.mem_cons, List.not_mem_nil, or_false] at hw
                rcases hw with rfl | rfl | rfl
                · exact ab_in hwk rfl
                · exact m7 g1
                · exact m2
              · rcases List.mem_cons.mp hw with rfl | hw
                · exact m1
                · exact hw
            · simp
          · refine ab_call (va_runSN (As := av.map (ab_rl ad)) (rest := st'.map (ab_rl ad)) (n := (ab_MR mid').2.2.1) fix hM ⟨va_cnB _ F.2.2.2.2.2.2.1 (ab_wsG (fun w hw => ?_)) rfl rfl rfl (S.2.1 _ hwk) (F.2.2.2.2.2.2.1 _ m2) m5 ⟨by show (ab_MR mid').2.2.2.2.2.1 + 1 ≤ R.frames; omega, by show 8 + ((ab_MR mid').2.2.2.1 + 11) + (ab_MR mid').2.2.2.2.2.2 ≤ R.locals; omega⟩, F.2.2.2.2.2.2.1 _ (m7 g1), trivial⟩ ⟨ab_blind, fun U hU hW => hPc U hU hW⟩ rfl (by rw [List.length_map]; exact hAsl) hL.size ?_ (hroom 0 g7) (of_decide_eq_true hk2.1) ⟨hc1, hc2⟩) hI kk
            · rcases List.mem_cons.mp hw with rfl | hw
              · exact m1
              · exact hw
            · simp
end AbMain
theorem ab_lin {ad : Nat → Nat} {A : Nat → Prop} {al : Bool} {H0 : Heap} (hAd : ab_Ad ad A al H0) {n0 k : Nat} (hal : al = true) (h1 : n0 ≤ k) (h2 : k ≤ 950) : ad n0 + (k - n0) = ad k := by
  have e1 := (hAd hal).1 n0 (by omega)
  have e2 := (hAd hal).1 k (by omega)
  omega
/-- THE RUN -/
theorem ab_run (l : Launch) (D : va_G) (aC : Nat → ClassId) (ad : Nat → Nat) (A : Nat → Prop) (al : Bool) : ∀ n : Nat, ab_Goal l D aC ad A al n
  | 0 => fun mid pc L st h r h' hs => by simp [ab_exec] at hs
  | n + 1 => by
    have ih := ab_run l D aC ad A al n
    intro mid pc L st h r h' hs hmid hl p e R s m args below meth c F S hAd n0 s0 hR hc1 hc2 hn0 hs0 hz H locs ls hI hL
    have hmono := ab_exec_mono _ _ _ _ _ _ _ _ _ hs
    rw [ab_exec] at hs
    split at hs
    · cases hs
    · rename_i i x q hf
      split at hs
      · cases hs
      · rename_i pc1 L1 st1 h1 hst
        have m1 : ab_mn h h1 := ab_stp_mono hst
        have m2 : ab_mn h1 h' := ab_exec_mono _ _ _ _ _ _ _ _ _ hs
        have hl1 := m1.2.2 hl
        refine ab_stp_ok F S hAd hR hmid hf hst H locs ls (h.length - n0) (ab_sz h - s0) _ hI hL (fun hal => by rw [hz hal]; exact ab_lin hAd hal hn0 hl) ?_ ?_ (fun H' locs' ls' hI' hL' => ?_)
        · have a1 := m1.1
          have a2 := m2.1
          show h.length - n0 + (h1.length - h.length) ≤ _
          omega
        · have a1 := m1.2.1
          have a2 := m2.2.1
          show ab_sz h - s0 + (ab_sz h1 - ab_sz h) ≤ _
          omega
        · have K := ih mid pc1 L1 st1 h1 r h' hs hmid hl1 p e R s m args below meth c F S hAd n0 s0 hR hc1 hc2 (Nat.le_trans hn0 m1.1) (Nat.le_trans hs0 m1.2.1) hz H' locs' ls' hI' hL'
          have a1 := m1.1
          have a2 := m1.2.1
          show W p l e R s m args below meth c H' locs' (h.length - n0 + (h1.length - h.length)) (ab_sz h - s0 + (ab_sz h1 - ab_sz h)) _ _
          rw [show h.length - n0 + (h1.length - h.length) = h1.length - n0 by omega, show ab_sz h - s0 + (ab_sz h1 - ab_sz h) = ab_sz h1 - s0 by omega]
          exact K
      · rename_i r0 hst
        cases hs
        exact ab_ret F hmid hf hst hI
      · rename_i mid' av st' hst
        split at hs
        · rename_i rv h1 hc
          have m1 : ab_mn h h1 := ab_exec_mono _ _ _ _ _ _ _ _ _ hc
          have m2 : ab_mn h1 h' := ab_exec_mono _ _ _ _ _ _ _ _ _ hs
          have hl1 := m1.2.2 hl
          have a1 := m1.1
          have a2 := m2.1
          have a3 := m1.2.1
          have a4 := m2.2.1
          refine ab_invk ih F S hAd hR hmid hl hf hst hc hI hL (fun hal => by rw [hz hal]; exact ab_lin hAd hal hn0 hl) (fun _ => by omega) (by omega) (by omega) (fun H' locs' hI' => ?_)
          have K := ih mid (pc + 3) L (rv.toList ++ st') h1 r h' hs hmid hl1 p e R s m args below meth c F S hAd n0 s0 hR hc1 hc2 (Nat.le_trans hn0 m1.1) (Nat.le_trans hs0 m1.2.1) hz H' locs' ls hI' hL
          rw [show h.length - n0 + (h1.length - h.length) = h1.length - n0 by omega, show ab_sz h - s0 + (ab_sz h1 - ab_sz h) = ab_sz h1 - s0 by omega]
          exact K
        · cases hs
