/-! each instruction of the abstract machine is the machine's own: arithmetic, stack, branches -/
section AbInstr2
variable {p : Program} {l : Launch} {e : Env} {R : Room} {s : State} {m : MethodId} {args : Array Value} {below : List Frame} {meth : Method} {c : Code}
variable {D : va_G} {aC : Nat → ClassId} {ad : Nat → Nat} {A : Nat → Prop} {al : Bool} {mid pc : Nat} {L st : List Value} {h : ab_H} {r : ab_C}
theorem ab_k_iadd (F : ab_FF p s m args meth c mid) (hd : decode (ab_BM mid) pc = .ok (.iadd, 1)) (hs : ab_s_iadd al mid pc L st h = some (.inl r)) : ab_Ok p l e R s m args below meth c D aC ad A al mid pc L st h r := by
  unfold ab_s_iadd at hs
  split at hs
  · cases hs
    exact ab_Ok.pure fun H locs ls cells slots Q _ _ hI hL kk => lv_iadd F.1 F.2.1 hd (kk ls hL)
  · cases hs
theorem ab_k_isub (F : ab_FF p s m args meth c mid) (hd : decode (ab_BM mid) pc = .ok (.isub, 1)) (hs : ab_s_isub al mid pc L st h = some (.inl r)) : ab_Ok p l e R s m args below meth c D aC ad A al mid pc L st h r := by
  unfold ab_s_isub at hs
  split at hs
  · cases hs
    exact ab_Ok.pure fun H locs ls cells slots Q _ _ hI hL kk => lv_isub F.1 F.2.1 hd (kk ls hL)
  · cases hs
theorem ab_k_imul (F : ab_FF p s m args meth c mid) (hd : decode (ab_BM mid) pc = .ok (.imul, 1)) (hs : ab_s_imul al mid pc L st h = some (.inl r)) : ab_Ok p l e R s m args below meth c D aC ad A al mid pc L st h r := by
  unfold ab_s_imul at hs
  split at hs
  · cases hs
    exact ab_Ok.pure fun H locs ls cells slots Q _ _ hI hL kk => lv_imul F.1 F.2.1 hd (kk ls hL)
  · cases hs
theorem ab_k_ineg (F : ab_FF p s m args meth c mid) (hd : decode (ab_BM mid) pc = .ok (.ineg, 1)) (hs : ab_s_ineg al mid pc L st h = some (.inl r)) : ab_Ok p l e R s m args below meth c D aC ad A al mid pc L st h r := by
  unfold ab_s_ineg at hs
  split at hs
  · cases hs
    exact ab_Ok.pure fun H locs ls cells slots Q _ _ hI hL kk => lv_ineg F.1 F.2.1 hd (kk ls hL)
  · cases hs
theorem ab_k_ior (F : ab_FF p s m args meth c mid) (hd : decode (ab_BM mid) pc = .ok (.ior, 1)) (hs : ab_s_ior al mid pc L st h = some (.inl r)) : ab_Ok p l e R s m args below meth c D aC ad A al mid pc L st h r := by
  unfold ab_s_ior at hs
  split at hs
  · cases hs
    exact ab_Ok.pure fun H locs ls cells slots Q _ _ hI hL kk => lv_ior F.1 F.2.1 hd (kk ls hL)
  · cases hs
theorem ab_k_ishl (F : ab_FF p s m args meth c mid) (hd : decode (ab_BM mid) pc = .ok (.ishl, 1)) (hs : ab_s_ishl al mid pc L st h = some (.inl r)) : ab_Ok p l e R s m args below meth c D aC ad A al mid pc L st h r := by
  unfold ab_s_ishl at hs
  split at hs
  · cases hs
    exact ab_Ok.pure fun H locs ls cells slots Q _ _ hI hL kk => lv_ishl F.1 F.2.1 hd (kk ls hL)
  · cases hs
theorem ab_k_ladd (F : ab_FF p s m args meth c mid) (hd : decode (ab_BM mid) pc = .ok (.ladd, 1)) (hs : ab_s_ladd al mid pc L st h = some (.inl r)) : ab_Ok p l e R s m args below meth c D aC ad A al mid pc L st h r := by
  unfold ab_s_ladd at hs
  split at hs
  · cases hs
    exact ab_Ok.pure fun H locs ls cells slots Q _ _ hI hL kk => lv_ladd F.1 F.2.1 hd (kk ls hL)
  · cases hs
theorem ab_k_lmul (F : ab_FF p s m args meth c mid) (hd : decode (ab_BM mid) pc = .ok (.lmul, 1)) (hs : ab_s_lmul al mid pc L st h = some (.inl r)) : ab_Ok p l e R s m args below meth c D aC ad A al mid pc L st h r := by
  unfold ab_s_lmul at hs
  split at hs
  · cases hs
    exact ab_Ok.pure fun H locs ls cells slots Q _ _ hI hL kk => lv_lmul F.1 F.2.1 hd (kk ls hL)
  · cases hs
theorem ab_k_lneg (F : ab_FF p s m args meth c mid) (hd : decode (ab_BM mid) pc = .ok (.lneg, 1)) (hs : ab_s_lneg al mid pc L st h = some (.inl r)) : ab_Ok p l e R s m args below meth c D aC ad A al mid pc L st h r := by
  unfold ab_s_lneg at hs
  split at hs
  · cases hs
    exact ab_Ok.pure fun H locs ls cells slots Q _ _ hI hL kk => lv_lneg F.1 F.2.1 hd (kk ls hL)
  · cases hs
theorem ab_k_lcmp (F : ab_FF p s m args meth c mid) (hd : decode (ab_BM mid) pc = .ok (.lcmp, 1)) (hs : ab_s_lcmp al mid pc L st h = some (.inl r)) : ab_Ok p l e R s m args below meth c D aC ad A al mid pc L st h r := by
  unfold ab_s_lcmp at hs
  split at hs
  · cases hs
    exact ab_Ok.pure fun H locs ls cells slots Q _ _ hI hL kk => W.lcmp F.1 F.2.1 hd (kk ls hL)
  · cases hs
theorem ab_k_i2l (F : ab_FF p s m args meth c mid) (hd : decode (ab_BM mid) pc = .ok (.i2l, 1)) (hs : ab_s_i2l al mid pc L st h = some (.inl r)) : ab_Ok p l e R s m args below meth c D aC ad A al mid pc L st h r := by
  unfold ab_s_i2l at hs
  split at hs
  · cases hs
    exact ab_Ok.pure fun H locs ls cells slots Q _ _ hI hL kk => lv_i2l F.1 F.2.1 hd rfl (kk ls hL)
  · cases hs
theorem ab_k_idiv (F : ab_FF p s m args meth c mid) (hd : decode (ab_BM mid) pc = .ok (.idiv, 1)) (hs : ab_s_idiv al mid pc L st h = some (.inl r)) : ab_Ok p l e R s m args below meth c D aC ad A al mid pc L st h r := by
  unfold ab_s_idiv at hs
  split at hs
  · split at hs
    · cases hs
    · rename_i hne
      cases hs
      exact ab_Ok.pure fun H locs ls cells slots Q _ _ hI hL kk => lv_idiv F.1 F.2.1 hd hne (kk ls hL)
  · cases hs
theorem ab_k_irem (F : ab_FF p s m args meth c mid) (hd : decode (ab_BM mid) pc = .ok (.irem, 1)) (hs : ab_s_irem al mid pc L st h = some (.inl r)) : ab_Ok p l e R s m args below meth c D aC ad A al mid pc L st h r := by
  unfold ab_s_irem at hs
  split at hs
  · split at hs
    · cases hs
    · rename_i hne
      cases hs
      exact ab_Ok.pure fun H locs ls cells slots Q _ _ hI hL kk => lv_irem F.1 F.2.1 hd hne (kk ls hL)
  · cases hs
theorem ab_k_ldiv (F : ab_FF p s m args meth c mid) (hd : decode (ab_BM mid) pc = .ok (.ldiv, 1)) (hs : ab_s_ldiv al mid pc L st h = some (.inl r)) : ab_Ok p l e R s m args below meth c D aC ad A al mid pc L st h r := by
  unfold ab_s_ldiv at hs
  split at hs
  · split at hs
    · cases hs
    · rename_i hne
      cases hs
      exact ab_Ok.pure fun H locs ls cells slots Q _ _ hI hL kk => lv_ldiv F.1 F.2.1 hd hne (kk ls hL)
  · cases hs
theorem ab_k_dup (F : ab_FF p s m args meth c mid) (hd : decode (ab_BM mid) pc = .ok (.dup, 1)) (hs : ab_s_dup al mid pc L st h = some (.inl r)) : ab_Ok p l e R s m args below meth c D aC ad A al mid pc L st h r := by
  unfold ab_s_dup at hs
  split at hs
  · split at hs
    · rename_i hc
      cases hs
      exact ab_Ok.pure fun H locs ls cells slots Q _ _ hI hL kk => lv_dup F.1 F.2.1 hd (by rw [ab_rl_cat]; exact hc) (kk ls hL)
    · cases hs
  · cases hs
theorem ab_k_dup2 (F : ab_FF p s m args meth c mid) (hd : decode (ab_BM mid) pc = .ok (.dup2, 1)) (hs : ab_s_dup2 al mid pc L st h = some (.inl r)) : ab_Ok p l e R s m args below meth c D aC ad A al mid pc L st h r := by
  unfold ab_s_dup2 at hs
  split at hs
  · cases hs
    exact ab_Ok.pure fun H locs ls cells slots Q _ _ hI hL kk => lv_dup2_2 F.1 F.2.1 hd rfl (kk ls hL)
  · cases hs
    exact ab_Ok.pure fun H locs ls cells slots Q _ _ hI hL kk => lv_dup2_11 F.1 F.2.1 hd rfl rfl (kk ls hL)
  · cases hs
theorem ab_k_pop (F : ab_FF p s m args meth c mid) (hd : decode (ab_BM mid) pc = .ok (.pop, 1)) (hs : ab_s_pop al mid pc L st h = some (.inl r)) : ab_Ok p l e R s m args below meth c D aC ad A al mid pc L st h r := by
  unfold ab_s_pop at hs
  split at hs
  · cases hs
    exact ab_Ok.pure fun H locs ls cells slots Q _ _ hI hL kk => lv_pop F.1 F.2.1 hd rfl (kk ls hL)
  · cases hs
theorem ab_tgt {pc : Nat} {t : Int} (h : 0 ≤ t) : (pc : Int) + (t - (pc : Int)) = ((t.toNat : Nat) : Int) := by omega
theorem ab_k_goto (F : ab_FF p s m args meth c mid) {t : Int} (h0 : 0 ≤ t) (hd : decode (ab_BM mid) pc = .ok (.goto (t - (pc : Int)), 3)) (hs : ab_s_goto t al mid pc L st h = some (.inl r)) : ab_Ok p l e R s m args below meth c D aC ad A al mid pc L st h r := by
  cases hs
  exact ab_Ok.pure fun H locs ls cells slots Q _ _ hI hL kk => lv_goto F.1 F.2.1 hd (ab_tgt h0) (kk ls hL)
theorem ab_k_ifCond (F : ab_FF p s m args meth c mid) {cc : ClassFile.Cond} {t : Int} (h0 : 0 ≤ t) (hd : decode (ab_BM mid) pc = .ok (.ifCond cc (t - (pc : Int)), 3)) (hs : ab_s_ifCond cc t al mid pc L st h = some (.inl r)) : ab_Ok p l e R s m args below meth c D aC ad A al mid pc L st h r := by
  unfold ab_s_ifCond at hs
  split at hs
  · cases cc
    case eq =>
      cases hs
      exact ab_Ok.pure fun H locs ls cells slots Q _ _ hI hL kk => lv_if_eq F.1 F.2.1 hd (ab_tgt h0) (fun hc => by have z := kk ls hL; rwa [if_pos hc] at z) (fun hc => by have z := kk ls hL; rwa [if_neg hc] at z)
    case ne =>
      cases hs
      exact ab_Ok.pure fun H locs ls cells slots Q _ _ hI hL kk => lv_if_ne F.1 F.2.1 hd (ab_tgt h0) (fun hc => by have z := kk ls hL; rwa [if_neg hc] at z) (fun hc => by have z := kk ls hL; rwa [if_pos hc] at z)
    case lt =>
      cases hs
      exact ab_Ok.pure fun H locs ls cells slots Q _ _ hI hL kk => lv_if_lt F.1 F.2.1 hd (ab_tgt h0) (fun hc => by have z := kk ls hL; rwa [if_pos hc] at z) (fun hc => by have z := kk ls hL; rwa [if_neg hc] at z)
    case ge =>
      cases hs
      exact ab_Ok.pure fun H locs ls cells slots Q _ _ hI hL kk => lv_if_ge F.1 F.2.1 hd (ab_tgt h0) (fun hc => by have z := kk ls hL; rwa [if_pos hc] at z) (fun hc => by have z := kk ls hL; rwa [if_neg hc] at z)
    case gt =>
      cases hs
      exact ab_Ok.pure fun H locs ls cells slots Q _ _ hI hL kk => lv_if_gt F.1 F.2.1 hd (ab_tgt h0) (fun hc => by have z := kk ls hL; rwa [if_pos hc] at z) (fun hc => by have z := kk ls hL; rwa [if_neg hc] at z)
    case le =>
      cases hs
      exact ab_Ok.pure fun H locs ls cells slots Q _ _ hI hL kk => lv_if_le F.1 F.2.1 hd (ab_tgt h0) (fun hc => by have z := kk ls hL; rwa [if_pos hc] at z) (fun hc => by have z := kk ls hL; rwa [if_neg hc] at z)
  · cases hs
theorem ab_k_if_icmp (F : ab_FF p s m args meth c mid) {cc : ClassFile.Cond} {t : Int} (h0 : 0 ≤ t) (hd : decode (ab_BM mid) pc = .ok (.if_icmp cc (t - (pc : Int)), 3)) (hs : ab_s_if_icmp cc t al mid pc L st h = some (.inl r)) : ab_Ok p l e R s m args below meth c D aC ad A al mid pc L st h r := by
  unfold ab_s_if_icmp at hs
  split at hs
  · cases cc
    case eq =>
      cases hs
      exact ab_Ok.pure fun H locs ls cells slots Q _ _ hI hL kk => lv_icmp_eq F.1 F.2.1 hd (ab_tgt h0) (fun hc => by have z := kk ls hL; rwa [if_pos hc] at z) (fun hc => by have z := kk ls hL; rwa [if_neg hc] at z)
    case ne =>
      cases hs
      exact ab_Ok.pure fun H locs ls cells slots Q _ _ hI hL kk => lv_icmp_ne F.1 F.2.1 hd (ab_tgt h0) (fun hc => by have z := kk ls hL; rwa [if_neg hc] at z) (fun hc => by have z := kk ls hL; rwa [if_pos hc] at z)
    case lt =>
      cases hs
      exact ab_Ok.pure fun H locs ls cells slots Q _ _ hI hL kk => lv_icmp_lt F.1 F.2.1 hd (ab_tgt h0) (fun hc => by have z := kk ls hL; rwa [if_pos hc] at z) (fun hc => by have z := kk ls hL; rwa [if_neg hc] at z)
    case ge =>
      cases hs
      exact ab_Ok.pure fun H locs ls cells slots Q _ _ hI hL kk => lv_icmp_ge F.1 F.2.1 hd (ab_tgt h0) (fun hc => by have z := kk ls hL; rwa [if_pos hc] at z) (fun hc => by have z := kk ls hL; rwa [if_neg hc] at z)
    case gt =>
      cases hs
      exact ab_Ok.pure fun H locs ls cells slots Q _ _ hI hL kk => lv_icmp_gt F.1 F.2.1 hd (ab_tgt h0) (fun hc => by have z := kk ls hL; rwa [if_pos hc] at z) (fun hc => by have z := kk ls hL; rwa [if_neg hc] at z)
    case le =>
      cases hs
      exact ab_Ok.pure fun H locs ls cells slots Q _ _ hI hL kk => lv_icmp_le F.1 F.2.1 hd (ab_tgt h0) (fun hc => by have z := kk ls hL; rwa [if_pos hc] at z) (fun hc => by have z := kk ls hL; rwa [if_neg hc] at z)
  · cases hs
theorem ab_k_tableswitch (F : ab_FF p s m args meth c mid) {d lo hi : Int} {offs : Array Int} {x : Nat} (h0 : 0 ≤ d) (h1 : ∀ t ∈ offs.toList, (0 : Int) ≤ t) (hd : decode (ab_BM mid) pc = .ok (.tableswitch (d - (pc : Int)) lo hi (offs.toList.map (fun (t : Int) => t - (pc : Int))).toArray, x)) (hs : ab_s_tableswitch d lo hi offs al mid pc L st h = some (.inl r)) : ab_Ok p l e R s m args below meth c D aC ad A al mid pc L st h r := by
  unfold ab_s_tableswitch at hs
  split at hs
  · split at hs
    · rename_i hc
      cases hs
      exact ab_Ok.pure fun H locs ls cells slots Q _ _ hI hL kk => lv_tableOut F.1 F.2.1 hd hc (ab_tgt h0) (kk ls hL)
    · rename_i hc
      split at hs
      · rename_i t ht
        cases hs
        refine ab_Ok.pure fun H locs ls cells slots Q _ _ hI hL kk => lv_tableIn (off := t - (pc : Int)) F.1 F.2.1 hd (fun q => hc (Or.inl q)) (fun q => hc (Or.inr q)) ?_ (ab_tgt (h1 t (List.mem_of_getElem? ht))) (kk ls hL)
        rw [List.getElem?_toArray, List.getElem?_map, ht]
        rfl
      · cases hs
  · cases hs
theorem ab_look {pc : Nat} : ∀ (ps : List (Int × Int)) (d x : Int), Op.lookupswitch.offset (ps.map (fun (t : Int × Int) => (t.1, t.2 - (pc : Int)))) (d - (pc : Int)) x = Op.lookupswitch.offset ps d x - (pc : Int)
  | [], d, x => rfl
  | (a, b) :: l, d, x => by
    rw [List.map_cons, Op.lookupswitch.offset_cons, Op.lookupswitch.offset_cons]
    split
    · rfl
    · exact ab_look l d x
theorem ab_look0 : ∀ (ps : List (Int × Int)) (d x : Int), 0 ≤ d → (∀ t ∈ ps, (0 : Int) ≤ t.2) → 0 ≤ Op.lookupswitch.offset ps d x
  | [], d, x, h, _ => h
  | (a, b) :: l, d, x, h, h2 => by
    rw [Op.lookupswitch.offset_cons]
    split
    · exact h2 (a, b) List.mem_cons_self
    · exact ab_look0 l d x h (fun t ht => h2 t (List.mem_cons_of_mem _ ht))
theorem ab_k_lookupswitch (F : ab_FF p s m args meth c mid) {d : Int} {ps : Array (Int × Int)} {x : Nat} (h0 : 0 ≤ d) (h1 : ∀ t ∈ ps.toList, (0 : Int) ≤ t.2) (h2 : (ps.toList.zip (ps.toList.drop 1)).all (fun (a, next) => a.1 < next.1) = true) (hd : decode (ab_BM mid) pc = .ok (.lookupswitch (d - (pc : Int)) (ps.toList.map (fun (t : Int × Int) => (t.1, t.2 - (pc : Int)))).toArray, x)) (hs : ab_s_lookupswitch d ps al mid pc L st h = some (.inl r)) : ab_Ok p l e R s m args below meth c D aC ad A al mid pc L st h r := by
  unfold ab_s_lookupswitch at hs
  split at hs
  · cases hs
    refine ab_Ok.pure fun H locs ls cells slots Q _ _ hI hL kk => lv_lookup F.1 F.2.1 hd ?_ (ab_look _ _ _) (ab_tgt (ab_look0 _ _ _ h0 h1)) (kk ls hL)
    rw [List.all_eq_true] at h2 ⊢
    intro q hq
    simp only [← List.map_drop, List.zip_map] at hq
    obtain ⟨q', hq', rfl⟩ := List.mem_map.mp hq
    exact h2 q' hq'
  · cases hs
end AbInstr2
