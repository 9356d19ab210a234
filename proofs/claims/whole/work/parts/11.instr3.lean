/-! each instruction of the abstract machine is the machine's own: arrays -/
section AbInstr3
variable {p : Program} {l : Launch} {e : Env} {R : Room} {s : State} {m : MethodId} {args : Array Value} {below : List Frame} {meth : Method} {c : Code}
variable {D : va_G} {aC : Nat → ClassId} {ad : Nat → Nat} {A : Nat → Prop} {al : Bool} {mid pc : Nat} {L st : List Value} {h : ab_H} {r : ab_C}
theorem ab_cz_i {vs : List Value} : ab_cz ad aC (20, vs) = .inl (aC 0, vs.length, .inl (fun j => ab_vI (vs.getD j .null))) := rfl
theorem ab_cz_z {vs : List Value} : ab_cz ad aC (22, vs) = .inl (aC 2, vs.length, .inl (fun j => ab_vI (vs.getD j .null))) := rfl
theorem ab_cz_l {vs : List Value} : ab_cz ad aC (21, vs) = .inl (aC 1, vs.length, .inr (.inl (fun j => ab_vL (vs.getD j .null)))) := rfl
theorem ab_cz_q {t : Nat} {vs : List Value} (h : 23 ≤ t) : ab_cz ad aC (t, vs) = .inl (aC (t - 20), vs.length, .inr (.inr (.inr (.inr (fun j => ab_vR ad (vs.getD j .null)))))) := by
  unfold ab_cz
  rw [if_neg (by show ¬ t < 20; omega), if_neg (by show ¬ t = 21; omega), if_neg (by show ¬ t ≤ 22; omega)]
theorem ab_getD {vs : List Value} {k : Nat} {v : Value} (h : vs[k]? = some v) : vs.getD k .null = v := by
  rw [List.getD_eq_getElem?_getD, h]; rfl
theorem ab_lt {vs : List Value} {k : Nat} {v : Value} (h : vs[k]? = some v) : k < vs.length := (List.getElem?_eq_some_iff.mp h).1
theorem ab_k_iaload (F : ab_FF p s m args meth c mid) (S : ab_Stc D aC ad A s s.heap) (hd : decode (ab_BM mid) pc = .ok (.iaload, 1)) (hs : ab_s_iaload al mid pc L st h = some (.inl r)) : ab_Ok p l e R s m args below meth c D aC ad A al mid pc L st h r := by
  unfold ab_s_iaload at hs
  split at hs
  · rename_i i a st'
    split at hs
    · rename_i k hk
      split at hs
      · rw [ab_nth_eq] at hs
        split at hs
        · rename_i vs ha
          rw [ab_nth_eq] at hs
          split at hs
          · rename_i x hx
            cases hs
            refine ab_Ok.pure fun H locs ls cells slots Q _ _ hI hL kk => ?_
            refine va_iald (tys := ab_tys aC) F.1 F.2.1 S.1 hI.1 a 0 (ab_wd_at ha) rfl (ab_ix_in hk (ab_lt hx)) hd ?_
            rw [(ab_ix_spec hk).2, ab_getD hx]
            exact kk ls hL
          · cases hs
        · cases hs
      · split at hs
        · rename_i h1 h2
          have h1 : ¬ @LT.lt Nat _ a 1000 := h1
          have h2 : @LT.lt Nat _ a 1003 := h2
          rw [ab_nth_eq] at hs
          split at hs
          · rename_i x hx
            cases hs
            refine ab_Ok.pure fun H locs ls cells slots Q _ _ hI hL kk => ?_
            have hT := (S.2.2.2 (a - 1000) (by omega)).2
            have ea : @Eq Nat (1000 + (a - 1000)) a := by omega
            rw [ea] at hT
            refine va_ti F.1 F.2.1 hT hI.2.2 (ab_ix_in hk (List.getElem?_eq_some_iff.mp hx).1) (v := .int x) ?_ hd (kk ls hL)
            rw [(ab_ix_spec hk).2, List.getD_eq_getElem?_getD, hx]
            rfl
          · cases hs
        · cases hs
    · cases hs
  · cases hs
theorem ab_k_baload (F : ab_FF p s m args meth c mid) (S : ab_Stc D aC ad A s s.heap) (hd : decode (ab_BM mid) pc = .ok (.baload, 1)) (hs : ab_s_baload al mid pc L st h = some (.inl r)) : ab_Ok p l e R s m args below meth c D aC ad A al mid pc L st h r := by
  unfold ab_s_baload at hs
  split at hs
  · rename_i i a st'
    split at hs
    · rename_i k hk
      rw [ab_nth_eq] at hs
      split at hs
      · rename_i vs ha
        rw [ab_nth_eq] at hs
        split at hs
        · rename_i x hx
          cases hs
          refine ab_Ok.pure fun H locs ls cells slots Q _ _ hI hL kk => ?_
          refine va_zald (tys := ab_tys aC) F.1 F.2.1 S.1 hI.1 a 2 (ab_wd_at ha) rfl (ab_ix_in hk (ab_lt hx)) hd ?_
          rw [(ab_ix_spec hk).2, ab_getD hx]
          exact kk ls hL
        · cases hs
      · cases hs
    · cases hs
  · cases hs
theorem ab_k_laload (F : ab_FF p s m args meth c mid) (S : ab_Stc D aC ad A s s.heap) (hd : decode (ab_BM mid) pc = .ok (.laload, 1)) (hs : ab_s_laload al mid pc L st h = some (.inl r)) : ab_Ok p l e R s m args below meth c D aC ad A al mid pc L st h r := by
  unfold ab_s_laload at hs
  split at hs
  · rename_i i a st'
    split at hs
    · rename_i k hk
      rw [ab_nth_eq] at hs
      split at hs
      · rename_i vs ha
        rw [ab_nth_eq] at hs
        split at hs
        · rename_i x hx
          cases hs
          refine ab_Ok.pure fun H locs ls cells slots Q _ _ hI hL kk => ?_
          refine va_lald (tys := ab_tys aC) F.1 F.2.1 S.1 hI.1 a 1 (ab_wd_at ha) rfl (ab_ix_in hk (ab_lt hx)) hd ?_
          rw [(ab_ix_spec hk).2, ab_getD hx]
          exact kk ls hL
        · cases hs
      · cases hs
    · cases hs
  · cases hs
theorem ab_qty {t : Nat} (h1 : 23 ≤ t) (h2 : t ≤ 25) : ∃ ty : FieldType, (ab_tys aC)[t - 20]? = some (aC (t - 20), ty) ∧ ty.isReference = true := by
  rcases (show t = 23 ∨ t = 24 ∨ t = 25 by omega) with rfl | rfl | rfl
  · exact ⟨_, rfl, rfl⟩
  · exact ⟨_, rfl, rfl⟩
  · exact ⟨_, rfl, rfl⟩
theorem ab_k_aaload (F : ab_FF p s m args meth c mid) (S : ab_Stc D aC ad A s s.heap) (hd : decode (ab_BM mid) pc = .ok (.aaload, 1)) (hs : ab_s_aaload al mid pc L st h = some (.inl r)) : ab_Ok p l e R s m args below meth c D aC ad A al mid pc L st h r := by
  unfold ab_s_aaload at hs
  split at hs
  · rename_i i a st'
    split at hs
    · rename_i k hk
      rw [ab_nth_eq] at hs
      split at hs
      · rename_i t vs ha
        split at hs
        · rename_i ht
          rw [ab_nth_eq] at hs
          split at hs
          · rename_i x hx
            cases hs
            refine ab_Ok.pure fun H locs ls cells slots Q _ _ hI hL kk => ?_
            obtain ⟨ty, h1, h2⟩ := ab_qty (aC := aC) ht.1 ht.2
            have hc := hI.1 a _ (ab_wd_at ha)
            rw [ab_cz_q ht.1] at hc
            refine W.aald (v := .ref (ad x)) (ty := ty) F.1 F.2.1 hc ((S.1.2 _ _ h1).1 vs.length (fun j => va_rf (ab_vR ad (vs.getD j .null)))) h2 (fun q => by cases q) (by show ¬ (i < 0 ∨ (arrV _ _ _).slots.size ≤ _); rw [arrV_size]; exact ab_ix_in hk (ab_lt hx)) ?_ rfl rfl hd (kk ls hL)
            show (arrV _ _ _).slots[_]? = _
            rw [(ab_ix_spec hk).2, arrV_read _ _ (ab_lt hx)]
            show some (va_rf (ab_vR ad (vs.getD k .null))) = _
            rw [ab_getD hx]
            rfl
          · cases hs
        · cases hs
      · cases hs
    · cases hs
  · cases hs
theorem ab_updI {vs : List Value} {k : Nat} {x : Int32} {v0 : Value} (h : vs[k]? = some v0) : (fun j => ab_vI ((vs.set k (.int x)).getD j .null)) = upd (fun j => ab_vI (vs.getD j .null)) k x := by
  funext j
  simp only [upd, List.getD_eq_getElem?_getD, List.getElem?_set]
  by_cases hj : k = j
  · subst hj
    simp [ab_lt h, ab_vI]
  · have hj' : ¬ j = k := fun q => hj q.symm
    simp [hj, hj']
theorem ab_updL {vs : List Value} {k : Nat} {x : Int64} {v0 : Value} (h : vs[k]? = some v0) : (fun j => ab_vL ((vs.set k (.long x)).getD j .null)) = vp_updL (fun j => ab_vL (vs.getD j .null)) k x := by
  funext j
  simp only [vp_updL, List.getD_eq_getElem?_getD, List.getElem?_set]
  by_cases hj : k = j
  · subst hj
    simp [ab_lt h, ab_vL]
  · have hj' : ¬ j = k := fun q => hj q.symm
    simp [hj, hj']
theorem ab_updR {vs : List Value} {k : Nat} {x : Nat} {v0 : Value} (h : vs[k]? = some v0) : (fun j => ab_vR ad ((vs.set k (.ref x)).getD j .null)) = va_up (fun j => ab_vR ad (vs.getD j .null)) k (some (ad x)) := by
  funext j
  simp only [va_up, List.getD_eq_getElem?_getD, List.getElem?_set]
  by_cases hj : k = j
  · subst hj
    simp [ab_lt h, ab_vR]
  · have hj' : ¬ j = k := fun q => hj q.symm
    simp [hj, hj']
theorem ab_k_iastore (F : ab_FF p s m args meth c mid) (S : ab_Stc D aC ad A s s.heap) (hd : decode (ab_BM mid) pc = .ok (.iastore, 1)) (hs : ab_s_iastore al mid pc L st h = some (.inl r)) : ab_Ok p l e R s m args below meth c D aC ad A al mid pc L st h r := by
  unfold ab_s_iastore at hs
  split at hs
  · rename_i x i a st'
    split at hs
    · rename_i k hk
      rw [ab_nth_eq] at hs
      split at hs
      · rename_i vs ha
        rw [ab_nth_eq] at hs
        split at hs
        · rename_i v0 hx
          cases hs
          simp only [ab_set_eq]
          refine ab_Ok.same (by rw [List.length_set]) (ab_sz_set ha (by simp)) (fun H locs ls cells slots Q hI hL kk => ?_) rfl
          refine va_iast (tys := ab_tys aC) F.1 F.2.1 S.1 hI.1 hI.2.1 hI.2.2 a 0 (ab_wd_at ha) rfl (ab_ix_in hk (ab_lt hx)) hd (fun H1 locs1 hP hD hS => kk H1 locs1 (ab_I.set ?_ ?_ hS))
          · rw [ab_cz_i, List.length_set, ab_updI hx]; rw [(ab_ix_spec hk).2] at hP; exact hP
          · rw [ab_cz_i, List.length_set, ab_updI hx]; rw [(ab_ix_spec hk).2] at hD; exact hD
        · cases hs
      · cases hs
    · cases hs
  · cases hs
theorem ab_k_bastore (F : ab_FF p s m args meth c mid) (S : ab_Stc D aC ad A s s.heap) (hd : decode (ab_BM mid) pc = .ok (.bastore, 1)) (hs : ab_s_bastore al mid pc L st h = some (.inl r)) : ab_Ok p l e R s m args below meth c D aC ad A al mid pc L st h r := by
  unfold ab_s_bastore at hs
  split at hs
  · rename_i x i a st'
    split at hs
    · rename_i k hk
      rw [ab_nth_eq] at hs
      split at hs
      · rename_i vs ha
        split at hs
        · rename_i h01
          rw [ab_nth_eq] at hs
          split at hs
          · rename_i v0 hx
            cases hs
            simp only [ab_set_eq]
            have hn : vp_nar .boolean x = x := by rcases h01 with rfl | rfl <;> decide
            refine ab_Ok.same (by rw [List.length_set]) (ab_sz_set ha (by simp)) (fun H locs ls cells slots Q hI hL kk => ?_) rfl
            refine va_zast (tys := ab_tys aC) F.1 F.2.1 S.1 hI.1 hI.2.1 hI.2.2 a 2 (ab_wd_at ha) rfl (ab_ix_in hk (ab_lt hx)) hd (fun H1 locs1 hP hD hS => kk H1 locs1 (ab_I.set ?_ ?_ hS))
            · rw [ab_cz_z, List.length_set, ab_updI hx]; rw [(ab_ix_spec hk).2, hn] at hP; exact hP
            · rw [ab_cz_z, List.length_set, ab_updI hx]; rw [(ab_ix_spec hk).2, hn] at hD; exact hD
          · cases hs
        · cases hs
      · cases hs
    · cases hs
  · cases hs
theorem ab_k_lastore (F : ab_FF p s m args meth c mid) (S : ab_Stc D aC ad A s s.heap) (hd : decode (ab_BM mid) pc = .ok (.lastore, 1)) (hs : ab_s_lastore al mid pc L st h = some (.inl r)) : ab_Ok p l e R s m args below meth c D aC ad A al mid pc L st h r := by
  unfold ab_s_lastore at hs
  split at hs
  · rename_i x i a st'
    split at hs
    · rename_i k hk
      rw [ab_nth_eq] at hs
      split at hs
      · rename_i vs ha
        rw [ab_nth_eq] at hs
        split at hs
        · rename_i v0 hx
          cases hs
          simp only [ab_set_eq]
          refine ab_Ok.same (by rw [List.length_set]) (ab_sz_set ha (by simp)) (fun H locs ls cells slots Q hI hL kk => ?_) rfl
          refine va_last (tys := ab_tys aC) F.1 F.2.1 S.1 hI.1 hI.2.1 hI.2.2 a 1 (ab_wd_at ha) rfl (ab_ix_in hk (ab_lt hx)) hd (fun H1 locs1 hP hD hS => kk H1 locs1 (ab_I.set ?_ ?_ hS))
          · rw [ab_cz_l, List.length_set, ab_updL hx]; rw [(ab_ix_spec hk).2] at hP; exact hP
          · rw [ab_cz_l, List.length_set, ab_updL hx]; rw [(ab_ix_spec hk).2] at hD; exact hD
        · cases hs
      · cases hs
    · cases hs
  · cases hs
theorem ab_k_aastore (F : ab_FF p s m args meth c mid) (S : ab_Stc D aC ad A s s.heap) (hd : decode (ab_BM mid) pc = .ok (.aastore, 1)) (hs : ab_s_aastore al mid pc L st h = some (.inl r)) : ab_Ok p l e R s m args below meth c D aC ad A al mid pc L st h r := by
  unfold ab_s_aastore at hs
  split at hs
  · rename_i x i a st'
    split at hs
    · rename_i k hk
      rw [ab_nth_eq] at hs
      split at hs
      · rename_i vs ha
        rw [ab_nth_eq] at hs
        split at hs
        · rename_i fs hxx
          rw [ab_nth_eq] at hs
          split at hs
          · rename_i v0 hx
            cases hs
            simp only [ab_set_eq]
            refine ab_Ok.same (by rw [List.length_set]) (ab_sz_set ha (by simp)) (fun H locs ls cells slots Q hI hL kk => ?_) rfl
            refine va_astq (tys := ab_tys aC) (r := (RX4, TX4, 2)) F.1 F.2.1 S.1 hI.1 hI.2.1 hI.2.2 a 5 x 4 (ab_wd_at ha) rfl (ab_wd_at hxx) rfl (ab_ix_in hk (ab_lt hx)) hd (fun H1 locs1 hP hD hS => kk H1 locs1 (ab_I.set ?_ ?_ hS))
            · rw [ab_cz_q (by omega), List.length_set, ab_updR hx]; rw [(ab_ix_spec hk).2] at hP; exact hP
            · rw [ab_cz_q (by omega), List.length_set, ab_updR hx]; rw [(ab_ix_spec hk).2] at hD; exact hD
          · cases hs
        · cases hs
      · cases hs
    · cases hs
  · cases hs
theorem ab_k_arraylength (F : ab_FF p s m args meth c mid) (S : ab_Stc D aC ad A s s.heap) (hd : decode (ab_BM mid) pc = .ok (.arraylength, 1)) (hs : ab_s_arraylength al mid pc L st h = some (.inl r)) : ab_Ok p l e R s m args below meth c D aC ad A al mid pc L st h r := by
  unfold ab_s_arraylength at hs
  split at hs
  · rename_i a st'
    rw [ab_nth_eq] at hs
    split at hs
    · rename_i t vs ha
      split at hs
      · rename_i ht
        cases hs
        refine ab_Ok.pure fun H locs ls cells slots Q _ _ hI hL kk => ?_
        rcases (show t = 20 ∨ t = 21 ∨ t = 22 by omega) with rfl | rfl | rfl
        · exact va_alen (tys := ab_tys aC) F.1 F.2.1 S.1 hI.1 a 0 (ab_wd_at ha) rfl rfl hd (kk ls hL)
        · exact va_alen (tys := ab_tys aC) F.1 F.2.1 S.1 hI.1 a 1 (ab_wd_at ha) rfl rfl hd (kk ls hL)
        · exact va_alen (tys := ab_tys aC) F.1 F.2.1 S.1 hI.1 a 2 (ab_wd_at ha) rfl rfl hd (kk ls hL)
      · cases hs
    · cases hs
  · cases hs
end AbInstr3
