/-! each instruction of the abstract machine is the machine's own -/
def ab_FF (p : Program) (s : State) (m : MethodId) (args : Array Value) (meth : Method) (c : Code) (mid : Nat) : Prop :=
  p.tables.exec = Jvm.exec ∧ c.code = ab_BM mid ∧ c.maxLocals = (ab_MR mid).2.2.2.1 ∧ meth.sig.returnType = ab_RT (ab_MR mid).2.2.2.2.1 ∧ meth.locks = false ∧ s.vm.findClass (ab_RC (ab_MR mid).1) = some m.cls ∧ (∀ w ∈ ab_TG, w.before args s = true) ∧ ((ab_MR mid).2.1 = 2 → meth.name = "<init>")
/-- the addresses go up one by one; what is new is ours -/
def ab_Ad (ad : Nat → Nat) (A : Nat → Prop) (al : Bool) (H0 : Heap) : Prop := al = true → (∀ k, k < 1000 → ad k = ad 0 + k) ∧ ∀ q, H0.size ≤ q → A q
def ab_Ok (p : Program) (l : Launch) (e : Env) (R : Room) (s : State) (m : MethodId) (args : Array Value) (below : List Frame) (meth : Method) (c : Code) (D : va_G) (aC : Nat → ClassId) (ad : Nat → Nat) (A : Nat → Prop) (al : Bool) (mid pc : Nat) (L st : List Value) (h : ab_H) (r : ab_C) : Prop :=
  ∀ (H : Heap) (locs : List Loc) (ls : Array Slot) (cells slots : Nat) (Q : State → Prop), ab_I D aC ad A s.heap h H locs → ab_LR ad ls (ab_MR mid).2.2.2.1 L → (al = true → s.heap.size + cells = ad h.length) → cells + (r.2.2.2.length - h.length) ≤ R.cells → slots + (ab_sz r.2.2.2 - ab_sz h) ≤ R.slots →
    (∀ (H' : Heap) (locs' : List Loc) (ls' : Array Slot), ab_I D aC ad A s.heap r.2.2.2 H' locs' → ab_LR ad ls' (ab_MR mid).2.2.2.1 r.2.1 → W p l e R s m args below meth c H' locs' (cells + (r.2.2.2.length - h.length)) (slots + (ab_sz r.2.2.2 - ab_sz h)) Q (F0 m r.1 ls' (r.2.2.1.map (ab_rl ad)))) →
    W p l e R s m args below meth c H locs cells slots Q (F0 m pc ls (st.map (ab_rl ad)))
section AbInstr
variable {p : Program} {l : Launch} {e : Env} {R : Room} {s : State} {m : MethodId} {args : Array Value} {below : List Frame} {meth : Method} {c : Code}
variable {D : va_G} {aC : Nat → ClassId} {ad : Nat → Nat} {A : Nat → Prop} {al : Bool} {mid pc : Nat} {L st : List Value} {h : ab_H} {r : ab_C}
theorem ab_Ok.pure {pc' : Nat} {L' st' : List Value} (kk : ∀ (H : Heap) (locs : List Loc) (ls : Array Slot) (cells slots : Nat) (Q : State → Prop), cells ≤ R.cells → slots ≤ R.slots → ab_I D aC ad A s.heap h H locs → ab_LR ad ls (ab_MR mid).2.2.2.1 L → (∀ ls' : Array Slot, ab_LR ad ls' (ab_MR mid).2.2.2.1 L' → W p l e R s m args below meth c H locs cells slots Q (F0 m pc' ls' (st'.map (ab_rl ad)))) → W p l e R s m args below meth c H locs cells slots Q (F0 m pc ls (st.map (ab_rl ad)))) :
    ab_Ok p l e R s m args below meth c D aC ad A al mid pc L st h (pc', L', st', h) := by
  intro H locs ls cells slots Q hI hL hc h1 h2 k
  simp only [Nat.sub_self, Nat.add_zero] at h1 h2 k
  exact kk H locs ls cells slots Q h1 h2 hI hL (fun ls' h' => k H locs ls' hI h')
theorem ab_Ok.same {pc' : Nat} {L' st' : List Value} {h' : ab_H} (hl : h'.length = h.length) (hz : ab_sz h' = ab_sz h) (kk : ∀ (H : Heap) (locs : List Loc) (ls : Array Slot) (cells slots : Nat) (Q : State → Prop), ab_I D aC ad A s.heap h H locs → ab_LR ad ls (ab_MR mid).2.2.2.1 L → (∀ (H' : Heap) (locs' : List Loc), ab_I D aC ad A s.heap h' H' locs' → W p l e R s m args below meth c H' locs' cells slots Q (F0 m pc' ls (st'.map (ab_rl ad)))) → W p l e R s m args below meth c H locs cells slots Q (F0 m pc ls (st.map (ab_rl ad)))) (hLL : L' = L) :
    ab_Ok p l e R s m args below meth c D aC ad A al mid pc L st h (pc', L', st', h') := by
  subst hLL
  intro H locs ls cells slots Q hI hL hc h1 h2 k
  simp only [hl, hz, Nat.sub_self, Nat.add_zero] at h1 h2 k
  exact kk H locs ls cells slots Q hI hL (fun H' locs' h' => k H' locs' ls h' hL)
theorem ab_k_aload_n (F : ab_FF p s m args meth c mid) {k : Fin 4} (hd : decode (ab_BM mid) pc = .ok (.aload_n k, 1)) (hs : ab_s_aload_n k al mid pc L st h = some (.inl r)) : ab_Ok p l e R s m args below meth c D aC ad A al mid pc L st h r := by
  unfold ab_s_aload_n at hs
  rw [ab_nth_eq] at hs
  split at hs
  · rename_i a ha
    cases hs
    exact ab_Ok.pure fun H locs ls cells slots Q _ _ hI hL kk => lv_aload_n F.1 F.2.1 hd rfl (hL.at ha rfl) (kk ls hL)
  · cases hs
theorem ab_k_aload (F : ab_FF p s m args meth c mid) {k : Nat} (hd : decode (ab_BM mid) pc = .ok (.aload k, 2)) (hs : ab_s_aload k al mid pc L st h = some (.inl r)) : ab_Ok p l e R s m args below meth c D aC ad A al mid pc L st h r := by
  unfold ab_s_aload at hs
  rw [ab_nth_eq] at hs
  split at hs
  · rename_i a ha
    cases hs
    exact ab_Ok.pure fun H locs ls cells slots Q _ _ hI hL kk => lv_aload F.1 F.2.1 hd (hL.at ha rfl) (kk ls hL)
  · cases hs
theorem ab_k_iload_n (F : ab_FF p s m args meth c mid) {k : Fin 4} (hd : decode (ab_BM mid) pc = .ok (.iload_n k, 1)) (hs : ab_s_iload_n k al mid pc L st h = some (.inl r)) : ab_Ok p l e R s m args below meth c D aC ad A al mid pc L st h r := by
  unfold ab_s_iload_n at hs
  rw [ab_nth_eq] at hs
  split at hs
  · rename_i a ha
    cases hs
    exact ab_Ok.pure fun H locs ls cells slots Q _ _ hI hL kk => lv_iload_n F.1 F.2.1 hd rfl (hL.at ha rfl) (kk ls hL)
  · cases hs
theorem ab_k_iload (F : ab_FF p s m args meth c mid) {k : Nat} (hd : decode (ab_BM mid) pc = .ok (.iload k, 2)) (hs : ab_s_iload k al mid pc L st h = some (.inl r)) : ab_Ok p l e R s m args below meth c D aC ad A al mid pc L st h r := by
  unfold ab_s_iload at hs
  rw [ab_nth_eq] at hs
  split at hs
  · rename_i a ha
    cases hs
    exact ab_Ok.pure fun H locs ls cells slots Q _ _ hI hL kk => lv_iload F.1 F.2.1 hd (hL.at ha rfl) (kk ls hL)
  · cases hs
theorem ab_k_lload_n (F : ab_FF p s m args meth c mid) {k : Fin 4} (hd : decode (ab_BM mid) pc = .ok (.lload_n k, 1)) (hs : ab_s_lload_n k al mid pc L st h = some (.inl r)) : ab_Ok p l e R s m args below meth c D aC ad A al mid pc L st h r := by
  unfold ab_s_lload_n at hs
  rw [ab_nth_eq] at hs
  split at hs
  · rename_i a ha
    cases hs
    exact ab_Ok.pure fun H locs ls cells slots Q _ _ hI hL kk => lv_lload_n F.1 F.2.1 hd rfl (hL.at ha rfl) (kk ls hL)
  · cases hs
theorem ab_k_lload (F : ab_FF p s m args meth c mid) {k : Nat} (hd : decode (ab_BM mid) pc = .ok (.lload k, 2)) (hs : ab_s_lload k al mid pc L st h = some (.inl r)) : ab_Ok p l e R s m args below meth c D aC ad A al mid pc L st h r := by
  unfold ab_s_lload at hs
  rw [ab_nth_eq] at hs
  split at hs
  · rename_i a ha
    cases hs
    exact ab_Ok.pure fun H locs ls cells slots Q _ _ hI hL kk => lv_lload F.1 F.2.1 hd (hL.at ha rfl) (kk ls hL)
  · cases hs
theorem ab_k_istore_n (F : ab_FF p s m args meth c mid) {k : Fin 4} (hd : decode (ab_BM mid) pc = .ok (.istore_n k, 1)) (hs : ab_s_istore_n k al mid pc L st h = some (.inl r)) : ab_Ok p l e R s m args below meth c D aC ad A al mid pc L st h r := by
  unfold ab_s_istore_n at hs
  split at hs
  · split at hs
    · rename_i L' hL'
      cases hs
      refine ab_Ok.pure fun H locs ls cells slots Q _ _ hI hL kk => ?_
      obtain ⟨hn, lv, h1, h2⟩ := hL
      exact lv_istore_n F.1 F.2.1 hd rfl h1 (by rw [← hn]; exact ab_st1_lt hL') rfl (fun ls' h' => kk ls' (ab_LR.st1 hn h2 hL' h'))
    · cases hs
  · cases hs
theorem ab_k_istore (F : ab_FF p s m args meth c mid) {k : Nat} (hd : decode (ab_BM mid) pc = .ok (.istore k, 2)) (hs : ab_s_istore k al mid pc L st h = some (.inl r)) : ab_Ok p l e R s m args below meth c D aC ad A al mid pc L st h r := by
  unfold ab_s_istore at hs
  split at hs
  · split at hs
    · rename_i L' hL'
      cases hs
      refine ab_Ok.pure fun H locs ls cells slots Q _ _ hI hL kk => ?_
      obtain ⟨hn, lv, h1, h2⟩ := hL
      exact lv_istore F.1 F.2.1 hd h1 (by rw [← hn]; exact ab_st1_lt hL') rfl (fun ls' h' => kk ls' (ab_LR.st1 hn h2 hL' h'))
    · cases hs
  · cases hs
theorem ab_k_astore_n (F : ab_FF p s m args meth c mid) {k : Fin 4} (hd : decode (ab_BM mid) pc = .ok (.astore_n k, 1)) (hs : ab_s_astore_n k al mid pc L st h = some (.inl r)) : ab_Ok p l e R s m args below meth c D aC ad A al mid pc L st h r := by
  unfold ab_s_astore_n at hs
  split at hs
  · split at hs
    · rename_i L' hL'
      cases hs
      refine ab_Ok.pure fun H locs ls cells slots Q _ _ hI hL kk => ?_
      obtain ⟨hn, lv, h1, h2⟩ := hL
      exact lv_astore_n F.1 F.2.1 hd rfl h1 (by rw [← hn]; exact ab_st1_lt hL') rfl (fun ls' h' => kk ls' (ab_LR.st1 hn h2 hL' h'))
    · cases hs
  · cases hs
theorem ab_k_lstore_n (F : ab_FF p s m args meth c mid) {k : Fin 4} (hd : decode (ab_BM mid) pc = .ok (.lstore_n k, 1)) (hs : ab_s_lstore_n k al mid pc L st h = some (.inl r)) : ab_Ok p l e R s m args below meth c D aC ad A al mid pc L st h r := by
  unfold ab_s_lstore_n at hs
  split at hs
  · split at hs
    · rename_i L' hL'
      cases hs
      refine ab_Ok.pure fun H locs ls cells slots Q _ _ hI hL kk => ?_
      obtain ⟨hn, lv, h1, h2⟩ := hL
      exact lv_lstore_n F.1 F.2.1 hd rfl h1 (by rw [← hn]; exact ab_st2_lt hL') rfl (fun ls' h' => kk ls' (ab_LR.st2 hn h2 hL' h'))
    · cases hs
  · cases hs
theorem ab_k_lstore (F : ab_FF p s m args meth c mid) {k : Nat} (hd : decode (ab_BM mid) pc = .ok (.lstore k, 2)) (hs : ab_s_lstore k al mid pc L st h = some (.inl r)) : ab_Ok p l e R s m args below meth c D aC ad A al mid pc L st h r := by
  unfold ab_s_lstore at hs
  split at hs
  · split at hs
    · rename_i L' hL'
      cases hs
      refine ab_Ok.pure fun H locs ls cells slots Q _ _ hI hL kk => ?_
      obtain ⟨hn, lv, h1, h2⟩ := hL
      exact lv_lstore F.1 F.2.1 hd h1 (by rw [← hn]; exact ab_st2_lt hL') rfl (fun ls' h' => kk ls' (ab_LR.st2 hn h2 hL' h'))
    · cases hs
  · cases hs
theorem ab_k_iinc (F : ab_FF p s m args meth c mid) {k : Nat} {n : Int} (hd : decode (ab_BM mid) pc = .ok (.iinc k n, 3)) (hs : ab_s_iinc k n al mid pc L st h = some (.inl r)) : ab_Ok p l e R s m args below meth c D aC ad A al mid pc L st h r := by
  unfold ab_s_iinc at hs
  rw [ab_nth_eq] at hs
  split at hs
  · rename_i a ha
    split at hs
    · rename_i L' hL'
      cases hs
      refine ab_Ok.pure fun H locs ls cells slots Q _ _ hI hL kk => ?_
      obtain ⟨hn, lv, h1, h2⟩ := hL
      obtain ⟨j, hj⟩ := List.getElem?_of_mem (h2 k _ ha rfl)
      exact lv_iinc F.1 F.2.1 hd h1 hj rfl (by rw [← hn]; exact ab_st1_lt hL') rfl (fun ls' h' => kk ls' (ab_LR.st1 hn h2 hL' h'))
    · cases hs
  · cases hs
theorem ab_k_iconst (F : ab_FF p s m args meth c mid) {n : Int} (hd : decode (ab_BM mid) pc = .ok (.iconst n, 1)) (hs : ab_s_iconst n al mid pc L st h = some (.inl r)) : ab_Ok p l e R s m args below meth c D aC ad A al mid pc L st h r := by
  cases hs
  exact ab_Ok.pure fun H locs ls cells slots Q _ _ hI hL kk => lv_iconst F.1 F.2.1 hd rfl (kk ls hL)
theorem ab_k_bipush (F : ab_FF p s m args meth c mid) {n : Int} (hd : decode (ab_BM mid) pc = .ok (.bipush n, 2)) (hs : ab_s_bipush n al mid pc L st h = some (.inl r)) : ab_Ok p l e R s m args below meth c D aC ad A al mid pc L st h r := by
  cases hs
  exact ab_Ok.pure fun H locs ls cells slots Q _ _ hI hL kk => lv_bipush F.1 F.2.1 hd rfl (kk ls hL)
theorem ab_k_sipush (F : ab_FF p s m args meth c mid) {n : Int} (hd : decode (ab_BM mid) pc = .ok (.sipush n, 3)) (hs : ab_s_sipush n al mid pc L st h = some (.inl r)) : ab_Ok p l e R s m args below meth c D aC ad A al mid pc L st h r := by
  cases hs
  exact ab_Ok.pure fun H locs ls cells slots Q _ _ hI hL kk => lv_sipush F.1 F.2.1 hd rfl (kk ls hL)
theorem ab_k_lconst (F : ab_FF p s m args meth c mid) {n : Fin 2} (hd : decode (ab_BM mid) pc = .ok (.lconst n, 1)) (hs : ab_s_lconst n al mid pc L st h = some (.inl r)) : ab_Ok p l e R s m args below meth c D aC ad A al mid pc L st h r := by
  cases hs
  exact ab_Ok.pure fun H locs ls cells slots Q _ _ hI hL kk => lv_lconst F.1 F.2.1 hd rfl (kk ls hL)
theorem ab_k_ldc2_w (F : ab_FF p s m args meth c mid) {n x q : Nat} (hd : decode (ab_BM mid) pc = .ok (.ldc2_w x, 3)) (hw : lw_tbl[q]? = some (.constantLong (ab_RC (ab_MR mid).1) x (ab_LK.getD n 0))) (hs : ab_s_ldc2_w n al mid pc L st h = some (.inl r)) : ab_Ok p l e R s m args below meth c D aC ad A al mid pc L st h r := by
  unfold ab_s_ldc2_w at hs
  rw [ab_nth_eq] at hs
  split at hs
  · rename_i v hv
    cases hs
    rw [List.getD_eq_getElem?_getD, hv] at hw
    exact ab_Ok.pure fun H locs ls cells slots Q _ _ hI hL kk => lv_ldc2 F.1 F.2.1 F.2.2.2.2.2.1 (F.2.2.2.2.2.2.1 _ (ab_in hw rfl)) hd (kk ls hL)
  · cases hs
theorem ab_k_getstatic (F : ab_FF p s m args meth c mid) (S : ab_Stc D aC ad A s s.heap) {n x q : Nat} (hd : decode (ab_BM mid) pc = .ok (.getstatic x, 3)) (hw : lw_tbl[q]? = some (.fieldLink (ab_RC (ab_MR mid).1) x RX9 (ab_sn n) "[I")) (hs : ab_s_getstatic n al mid pc L st h = some (.inl r)) : ab_Ok p l e R s m args below meth c D aC ad A al mid pc L st h r := by
  unfold ab_s_getstatic at hs
  split at hs
  · rename_i hn
    cases hs
    exact ab_Ok.pure fun H locs ls cells slots Q _ _ hI hL kk => va_gets F.1 F.2.1 (S.2.2.2 n hn).1 hI.2.2 F.2.2.2.2.2.1 (F.2.2.2.2.2.2.1 _ (ab_in hw rfl)) (fun _ z => z) hd (kk ls hL)
  · cases hs
theorem ab_cl_some {t : Nat} (h : t < 13) : ∃ C T N, ab_cl[t]? = some (C, T, N) := by
  have h1 : t < ab_cl.length := h
  exact ⟨_, _, _, List.getElem?_eq_getElem h1⟩
theorem ab_cz_o {ad : Nat → Nat} {aC : Nat → ClassId} {t : Nat} {fs : List Value} (h : t < 13) : ab_cz ad aC (t, fs) = .inr (t, fs.map (ab_rl ad)) := by
  unfold ab_cz
  rw [if_pos (by show t < 20; omega)]
/-- a field's facts, by its link -/
theorem ab_fw_spec {own n x q : Nat} (hw : ab_fw own n x q = true) : ∃ C T N, ab_cl[n / 64]? = some (C, T, N) ∧ n % 64 < N ∧ Cond.fieldLink (ab_RC own) x C (T (n % 64)).2.1 (T (n % 64)).2.2.1 ∈ ab_TG ∧ ab_fi n = ((T (n % 64)).2.1, (T (n % 64)).2.2.1, (T (n % 64)).2.2.2) := by
  unfold ab_fw at hw
  simp only [Bool.and_eq_true, decide_eq_true_eq, Bool.not_eq_true', beq_eq_false_iff_ne, ne_eq] at hw
  obtain ⟨⟨h1, h2⟩, h3⟩ := hw
  obtain ⟨C, T, N, hc⟩ := ab_cl_some h1
  have hf : ab_fi n = if n % 64 < N then ((T (n % 64)).2.1, (T (n % 64)).2.2.1, (T (n % 64)).2.2.2) else ("", "", false) := by
    unfold ab_fi
    rw [hc]
  by_cases hk : n % 64 < N
  · rw [if_pos hk] at hf
    obtain ⟨ty, hp⟩ := ab_cp hc
    rw [hf] at h2
    rw [← hp.2.2.2.2.1] at h2
    exact ⟨C, T, N, hc, hk, ab_in h2 rfl, hf⟩
  · rw [if_neg hk] at hf
    rw [hf] at h3
    exact absurd rfl h3
theorem ab_k_getfield (F : ab_FF p s m args meth c mid) (S : ab_Stc D aC ad A s s.heap) {n x q : Nat} (hd : decode (ab_BM mid) pc = .ok (.getfield x, 3)) (hw : ab_fw (ab_MR mid).1 n x q = true) (hs : ab_s_getfield n al mid pc L st h = some (.inl r)) : ab_Ok p l e R s m args below meth c D aC ad A al mid pc L st h r := by
  obtain ⟨C, T, N, hc, hk, hlk, -⟩ := ab_fw_spec hw
  obtain ⟨ty, hp⟩ := ab_cp hc
  unfold ab_s_getfield at hs
  split at hs
  · rename_i a st'
    rw [ab_nth_eq] at hs
    split at hs
    · rename_i t fs ha
      split at hs
      · rename_i ht
        rw [ab_nth_eq] at hs
        split at hs
        · rename_i v hv
          cases hs
          obtain ⟨rfl, ht⟩ := ht
          refine ab_Ok.pure fun H locs ls cells slots Q _ _ hI hL kk => ?_
          refine va_get (D := D) (ws := ab_wd ad aC h) (C := C) (T := T) (N := N) (v := ab_rl ad v) (fs := fs.map (ab_rl ad)) F.1 F.2.1 F.2.2.2.2.2.2.1 hp.1 F.2.2.2.2.2.1 S.1 hI.1 a (by rw [ab_wd_at ha, ab_cz_o ht]) hc (n % 64) hk (F.2.2.2.2.2.2.1 _ hlk) (fun _ z => by rw [hp.2.2.2.1 _ hk] at z; exact z) (by rw [List.getElem?_map, hv]; rfl) hd (kk ls hL)
        · cases hs
      · cases hs
    · cases hs
  · cases hs
theorem ab_k_putfield (F : ab_FF p s m args meth c mid) (S : ab_Stc D aC ad A s s.heap) {n x q : Nat} (hd : decode (ab_BM mid) pc = .ok (.putfield x, 3)) (hw : (if 4096 ≤ n then ab_fw (ab_MR mid).1 (n - 4096) x q && ((ab_fi (n - 4096)).2.1 == "I") && !(ab_fi (n - 4096)).2.2 else ab_fw (ab_MR mid).1 n x q && ab_refd (ab_fi n).2.1 && (ab_fi n).2.2) = true) (hs : ab_s_putfield n al mid pc L st h = some (.inl r)) : ab_Ok p l e R s m args below meth c D aC ad A al mid pc L st h r := by
  unfold ab_s_putfield at hs
  split at hs
  · rename_i v a st'
    rw [ab_nth_eq] at hs
    split at hs
    · rename_i t fs ha
      split at hs
      · rename_i ht
        rw [ab_nth_eq] at hs
        split at hs
        · rename_i v0 hv
          cases hs
          obtain ⟨h4, rfl, ht⟩ := ht
          rw [if_pos h4] at hw
          simp only [Bool.and_eq_true, Bool.not_eq_true', beq_iff_eq] at hw
          obtain ⟨⟨hw, hI1⟩, hf1⟩ := hw
          obtain ⟨C, T, N, hc, hk, hlk, hfi⟩ := ab_fw_spec hw
          obtain ⟨ty, hp⟩ := ab_cp hc
          rw [hfi] at hI1 hf1
          have hlen := (List.getElem?_eq_some_iff.mp hv).1
          have hd2 : parseFieldDescriptor (T ((n - 4096) % 64)).2.2.1 = some .int := by
            rw [show (T ((n - 4096) % 64)).2.2.1 = "I" from hI1]; decide +kernel
          simp only [ab_set_eq]
          refine ab_Ok.same (by rw [List.length_set]) (ab_sz_set ha (by simp)) (fun H locs ls cells slots Q hI hL kk => ?_) rfl
          refine va_put (D := D) (ws := ab_wd ad aC h) (C := C) (T := T) (N := N) (v := .int v) (ty := .int) (fs := fs.map (ab_rl ad)) F.1 F.2.1 F.2.2.2.2.2.2.1 hp.1 ty hp.2.1 hp.2.2.1 F.2.2.2.2.2.1 S.1 hI.1 hI.2.1 hI.2.2 a (by rw [ab_wd_at ha, ab_cz_o ht]) hc ((n - 4096) % 64) hk (F.2.2.2.2.2.2.1 _ hlk) (fun _ z => by rw [hp.2.2.2.1 _ hk] at z; exact z) hf1 hd2 rfl rfl (by rw [List.length_map]; exact hlen) hd (fun H1 locs1 hP hD hS => kk H1 locs1 (ab_I.set ?_ ?_ hS))
          · rw [ab_cz_o ht, List.map_set]; exact hP
          · rw [ab_cz_o ht, List.map_set]; exact hD
        · cases hs
      · cases hs
    · cases hs
  · rename_i v a st'
    rw [ab_nth_eq] at hs
    split at hs
    · rename_i t fs ha
      split at hs
      · rename_i ht
        rw [ab_nth_eq] at hs
        split at hs
        · rename_i v0 hv
          cases hs
          obtain ⟨h4, rfl, ht, ho, hin⟩ := ht
          rw [if_neg (by omega)] at hw
          simp only [Bool.and_eq_true] at hw
          obtain ⟨⟨hw, hI1⟩, hf1⟩ := hw
          obtain ⟨C, T, N, hc, hk, hlk, hfi⟩ := ab_fw_spec hw
          obtain ⟨ty, hp⟩ := ab_cp hc
          rw [hfi] at hI1 hf1
          have hlen := (List.getElem?_eq_some_iff.mp hv).1
          have hd2 := hp.2.1 _ hk
          have hown : (T (n % 64)).1 = ab_RC (ab_MR mid).1 := by rw [hp.2.2.2.1 _ hk, ho]; exact hp.2.2.2.2.1
          have hty : narrow (ty (n % 64)) (.ref (ad v)) = .ref (ad v) ∧ fits (ty (n % 64)) (.ref (ad v)) = true := by
            unfold ab_refd at hI1
            simp only [hd2] at hI1
            split at hI1
            · rename_i e; rw [Option.some.inj e]; exact ⟨rfl, rfl⟩
            · rename_i e; rw [Option.some.inj e]; exact ⟨rfl, rfl⟩
            · cases hI1
          simp only [ab_set_eq]
          refine ab_Ok.same (by rw [List.length_set]) (ab_sz_set ha (by simp)) (fun H locs ls cells slots Q hI hL kk => ?_) rfl
          refine va_putF (D := D) (ws := ab_wd ad aC h) (C := C) (T := T) (N := N) (v := .ref (ad v)) (ty := ty (n % 64)) (fs := fs.map (ab_rl ad)) F.1 F.2.1 F.2.2.2.2.2.2.1 hp.1 ty hp.2.1 hp.2.2.1 F.2.2.2.2.2.1 S.1 hI.1 hI.2.1 hI.2.2 a (by rw [ab_wd_at ha, ab_cz_o ht]) hc (n % 64) hk (F.2.2.2.2.2.2.1 _ hlk) (fun _ z => by rw [hp.2.2.2.1 _ hk] at z; exact z) hf1 (F.2.2.2.2.2.2.2 hin) hown hd2 hty.1 hty.2 (by rw [List.length_map]; exact hlen) hd (fun H1 locs1 hP hD hS => kk H1 locs1 (ab_I.set ?_ ?_ hS))
          · rw [ab_cz_o ht, List.map_set]; exact hP
          · rw [ab_cz_o ht, List.map_set]; exact hD
        · cases hs
      · cases hs
    · cases hs
  · cases hs
end AbInstr
