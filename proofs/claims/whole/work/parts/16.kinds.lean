/-! which instructions return or call -/
section AbKind
variable {al : Bool} {mid pc : Nat} {L st : List Value} {h : ab_H}
theorem ab_stp_inr {i : Instr} {z : Option Value ⊕ (Nat × List Value × List Value)} (hs : ab_stp i al mid pc L st h = some (.inr z)) : i = .ireturn ∨ i = .lreturn ∨ i = .return_ ∨ (∃ n, i = .invokevirtual n) ∨ (∃ n, i = .invokespecial n) ∨ ∃ n, i = .invokestatic n := by
  cases i
  case aload_n k =>
    have hs : ab_s_aload_n k al mid pc L st h = some (.inr z) := hs
    unfold ab_s_aload_n at hs
    repeat' split at hs
    all_goals cases hs
  case iload_n k =>
    have hs : ab_s_iload_n k al mid pc L st h = some (.inr z) := hs
    unfold ab_s_iload_n at hs
    repeat' split at hs
    all_goals cases hs
  case lload_n k =>
    have hs : ab_s_lload_n k al mid pc L st h = some (.inr z) := hs
    unfold ab_s_lload_n at hs
    repeat' split at hs
    all_goals cases hs
  case istore_n k =>
    have hs : ab_s_istore_n k al mid pc L st h = some (.inr z) := hs
    unfold ab_s_istore_n at hs
    repeat' split at hs
    all_goals cases hs
  case astore_n k =>
    have hs : ab_s_astore_n k al mid pc L st h = some (.inr z) := hs
    unfold ab_s_astore_n at hs
    repeat' split at hs
    all_goals cases hs
  case lstore_n k =>
    have hs : ab_s_lstore_n k al mid pc L st h = some (.inr z) := hs
    unfold ab_s_lstore_n at hs
    repeat' split at hs
    all_goals cases hs
  case aload k =>
    have hs : ab_s_aload k al mid pc L st h = some (.inr z) := hs
    unfold ab_s_aload at hs
    repeat' split at hs
    all_goals cases hs
  case iload k =>
    have hs : ab_s_iload k al mid pc L st h = some (.inr z) := hs
    unfold ab_s_iload at hs
    repeat' split at hs
    all_goals cases hs
  case lload k =>
    have hs : ab_s_lload k al mid pc L st h = some (.inr z) := hs
    unfold ab_s_lload at hs
    repeat' split at hs
    all_goals cases hs
  case istore k =>
    have hs : ab_s_istore k al mid pc L st h = some (.inr z) := hs
    unfold ab_s_istore at hs
    repeat' split at hs
    all_goals cases hs
  case lstore k =>
    have hs : ab_s_lstore k al mid pc L st h = some (.inr z) := hs
    unfold ab_s_lstore at hs
    repeat' split at hs
    all_goals cases hs
  case iinc k n =>
    have hs : ab_s_iinc k n al mid pc L st h = some (.inr z) := hs
    unfold ab_s_iinc at hs
    repeat' split at hs
    all_goals cases hs
  case iconst n =>
    have hs : ab_s_iconst n al mid pc L st h = some (.inr z) := hs
    unfold ab_s_iconst at hs
    repeat' split at hs
    all_goals cases hs
  case bipush n =>
    have hs : ab_s_bipush n al mid pc L st h = some (.inr z) := hs
    unfold ab_s_bipush at hs
    repeat' split at hs
    all_goals cases hs
  case sipush n =>
    have hs : ab_s_sipush n al mid pc L st h = some (.inr z) := hs
    unfold ab_s_sipush at hs
    repeat' split at hs
    all_goals cases hs
  case lconst n =>
    have hs : ab_s_lconst n al mid pc L st h = some (.inr z) := hs
    unfold ab_s_lconst at hs
    repeat' split at hs
    all_goals cases hs
  case ldc2_w n =>
    have hs : ab_s_ldc2_w n al mid pc L st h = some (.inr z) := hs
    unfold ab_s_ldc2_w at hs
    repeat' split at hs
    all_goals cases hs
  case getstatic n =>
    have hs : ab_s_getstatic n al mid pc L st h = some (.inr z) := hs
    unfold ab_s_getstatic at hs
    repeat' split at hs
    all_goals cases hs
  case getfield n =>
    have hs : ab_s_getfield n al mid pc L st h = some (.inr z) := hs
    unfold ab_s_getfield at hs
    repeat' split at hs
    all_goals cases hs
  case iaload =>
    have hs : ab_s_iaload al mid pc L st h = some (.inr z) := hs
    unfold ab_s_iaload at hs
    repeat' split at hs
    all_goals cases hs
  case baload =>
    have hs : ab_s_baload al mid pc L st h = some (.inr z) := hs
    unfold ab_s_baload at hs
    repeat' split at hs
    all_goals cases hs
  case laload =>
    have hs : ab_s_laload al mid pc L st h = some (.inr z) := hs
    unfold ab_s_laload at hs
    repeat' split at hs
    all_goals cases hs
  case aaload =>
    have hs : ab_s_aaload al mid pc L st h = some (.inr z) := hs
    unfold ab_s_aaload at hs
    repeat' split at hs
    all_goals cases hs
  case arraylength =>
    have hs : ab_s_arraylength al mid pc L st h = some (.inr z) := hs
    unfold ab_s_arraylength at hs
    repeat' split at hs
    all_goals cases hs
  case dup =>
    have hs : ab_s_dup al mid pc L st h = some (.inr z) := hs
    unfold ab_s_dup at hs
    repeat' split at hs
    all_goals cases hs
  case dup2 =>
    have hs : ab_s_dup2 al mid pc L st h = some (.inr z) := hs
    unfold ab_s_dup2 at hs
    repeat' split at hs
    all_goals cases hs
  case pop =>
    have hs : ab_s_pop al mid pc L st h = some (.inr z) := hs
    unfold ab_s_pop at hs
    repeat' split at hs
    all_goals cases hs
  case iadd =>
    have hs : ab_s_iadd al mid pc L st h = some (.inr z) := hs
    unfold ab_s_iadd at hs
    repeat' split at hs
    all_goals cases hs
  case isub =>
    have hs : ab_s_isub al mid pc L st h = some (.inr z) := hs
    unfold ab_s_isub at hs
    repeat' split at hs
    all_goals cases hs
  case imul =>
    have hs : ab_s_imul al mid pc L st h = some (.inr z) := hs
    unfold ab_s_imul at hs
    repeat' split at hs
    all_goals cases hs
  case idiv =>
    have hs : ab_s_idiv al mid pc L st h = some (.inr z) := hs
    unfold ab_s_idiv at hs
    repeat' split at hs
    all_goals cases hs
  case irem =>
    have hs : ab_s_irem al mid pc L st h = some (.inr z) := hs
    unfold ab_s_irem at hs
    repeat' split at hs
    all_goals cases hs
  case ineg =>
    have hs : ab_s_ineg al mid pc L st h = some (.inr z) := hs
    unfold ab_s_ineg at hs
    repeat' split at hs
    all_goals cases hs
  case ior =>
    have hs : ab_s_ior al mid pc L st h = some (.inr z) := hs
    unfold ab_s_ior at hs
    repeat' split at hs
    all_goals cases hs
  case ishl =>
    have hs : ab_s_ishl al mid pc L st h = some (.inr z) := hs
    unfold ab_s_ishl at hs
    repeat' split at hs
    all_goals cases hs
  case ladd =>
    have hs : ab_s_ladd al mid pc L st h = some (.inr z) := hs
    unfold ab_s_ladd at hs
    repeat' split at hs
    all_goals cases hs
  case lmul =>
    have hs : ab_s_lmul al mid pc L st h = some (.inr z) := hs
    unfold ab_s_lmul at hs
    repeat' split at hs
    all_goals cases hs
  case ldiv =>
    have hs : ab_s_ldiv al mid pc L st h = some (.inr z) := hs
    unfold ab_s_ldiv at hs
    repeat' split at hs
    all_goals cases hs
  case lneg =>
    have hs : ab_s_lneg al mid pc L st h = some (.inr z) := hs
    unfold ab_s_lneg at hs
    repeat' split at hs
    all_goals cases hs
  case lcmp =>
    have hs : ab_s_lcmp al mid pc L st h = some (.inr z) := hs
    unfold ab_s_lcmp at hs
    repeat' split at hs
    all_goals cases hs
  case i2l =>
    have hs : ab_s_i2l al mid pc L st h = some (.inr z) := hs
    unfold ab_s_i2l at hs
    repeat' split at hs
    all_goals cases hs
  case goto t =>
    have hs : ab_s_goto t al mid pc L st h = some (.inr z) := hs
    unfold ab_s_goto at hs
    repeat' split at hs
    all_goals cases hs
  case ifCond cc t =>
    have hs : ab_s_ifCond cc t al mid pc L st h = some (.inr z) := hs
    unfold ab_s_ifCond at hs
    repeat' split at hs
    all_goals cases hs
  case if_icmp cc t =>
    have hs : ab_s_if_icmp cc t al mid pc L st h = some (.inr z) := hs
    unfold ab_s_if_icmp at hs
    repeat' split at hs
    all_goals cases hs
  case tableswitch d lo hi offs =>
    have hs : ab_s_tableswitch d lo hi offs al mid pc L st h = some (.inr z) := hs
    unfold ab_s_tableswitch at hs
    repeat' split at hs
    all_goals cases hs
  case lookupswitch d ps =>
    have hs : ab_s_lookupswitch d ps al mid pc L st h = some (.inr z) := hs
    unfold ab_s_lookupswitch at hs
    repeat' split at hs
    all_goals cases hs
  case putfield n =>
    have hs : ab_s_putfield n al mid pc L st h = some (.inr z) := hs
    unfold ab_s_putfield at hs
    repeat' split at hs
    all_goals cases hs
  case iastore =>
    have hs : ab_s_iastore al mid pc L st h = some (.inr z) := hs
    unfold ab_s_iastore at hs
    repeat' split at hs
    all_goals cases hs
  case bastore =>
    have hs : ab_s_bastore al mid pc L st h = some (.inr z) := hs
    unfold ab_s_bastore at hs
    repeat' split at hs
    all_goals cases hs
  case lastore =>
    have hs : ab_s_lastore al mid pc L st h = some (.inr z) := hs
    unfold ab_s_lastore at hs
    repeat' split at hs
    all_goals cases hs
  case aastore =>
    have hs : ab_s_aastore al mid pc L st h = some (.inr z) := hs
    unfold ab_s_aastore at hs
    repeat' split at hs
    all_goals cases hs
  case newarray ty =>
    have hs : ab_s_newarray ty al mid pc L st h = some (.inr z) := hs
    unfold ab_s_newarray at hs
    repeat' split at hs
    all_goals cases hs
  case anewarray t =>
    have hs : ab_s_anewarray t al mid pc L st h = some (.inr z) := hs
    unfold ab_s_anewarray at hs
    repeat' split at hs
    all_goals cases hs
  case new ci =>
    have hs : ab_s_new ci al mid pc L st h = some (.inr z) := hs
    unfold ab_s_new at hs
    repeat' split at hs
    all_goals cases hs
  case multianewarray t d =>
    have hs : ab_s_multianewarray t d al mid pc L st h = some (.inr z) := hs
    unfold ab_s_multianewarray at hs
    repeat' split at hs
    all_goals cases hs
  case ireturn => exact Or.inl rfl
  case lreturn => exact Or.inr (Or.inl rfl)
  case return_ => exact Or.inr (Or.inr (Or.inl rfl))
  case invokevirtual n => exact Or.inr (Or.inr (Or.inr (Or.inl ⟨n, rfl⟩)))
  case invokespecial n => exact Or.inr (Or.inr (Or.inr (Or.inr (Or.inl ⟨n, rfl⟩))))
  case invokestatic n => exact Or.inr (Or.inr (Or.inr (Or.inr (Or.inr ⟨n, rfl⟩))))
  all_goals cases hs
theorem ab_split_spec : ∀ (n : Nat) (acc st av st' : List Value), ab_split n acc st = some (av, st') → ∃ xs : List Value, xs.length = n ∧ av = xs ++ acc ∧ st = xs.reverse ++ st'
  | 0, acc, st, av, st', h => by
    simp only [ab_split, Option.some.injEq, Prod.mk.injEq] at h
    exact ⟨[], rfl, by rw [← h.1]; rfl, by rw [← h.2]; rfl⟩
  | n + 1, acc, [], av, st', h => by simp [ab_split] at h
  | n + 1, acc, v :: st, av, st', h => by
    simp only [ab_split] at h
    obtain ⟨xs, h1, h2, h3⟩ := ab_split_spec n (v :: acc) st av st' h
    refine ⟨xs ++ [v], by simp [h1], by rw [h2]; simp, by rw [h3]; simp⟩
/-- a call: what was looked at -/
theorem ab_cal_spec {kd n n' : Nat} {av st' : List Value} (hs : ab_cal kd mid n st h = some (.inr (.inr (n', av, st')))) : n' = n ∧ (ab_MR n).2.1 = kd ∧ n < 157 ∧ (ab_MR n).2.2.2.2.2.1 + 1 ≤ (ab_MR mid).2.2.2.2.2.1 ∧ 19 + (ab_MR n).2.2.2.1 + (ab_MR n).2.2.2.2.2.2 ≤ (ab_MR mid).2.2.2.2.2.2 ∧
    av.length = (if kd = 1 then (ab_MR n).2.2.1 else (ab_MR n).2.2.1 + 1) ∧ st = av.reverse ++ st' ∧ ab_cat st' ≤ 8 ∧ (ab_lv av).length ≤ (ab_MR n).2.2.2.1 ∧ ab_rcv kd (ab_MR n).1 av h = true := by
  unfold ab_cal at hs
  split at hs
  rename_i e1
  split at hs
  rename_i e2
  split at hs
  · rename_i hc
    split at hs
    · rename_i hsp
      split at hs
      · rename_i hd
        cases hs
        obtain ⟨xs, h1, h2, h3⟩ := ab_split_spec _ _ _ _ _ hsp
        rw [List.append_nil] at h2
        subst h2
        rw [e1, e2]
        exact ⟨rfl, hc.1, hc.2.1, hc.2.2.1, hc.2.2.2, h1, h3, hd.1, hd.2.1, hd.2.2⟩
      · cases hs
    · cases hs
  · cases hs
theorem ab_cal_noret {kd n : Nat} {r : Option Value} (hs : ab_cal kd mid n st h = some (.inr (.inl r))) : False := by
  unfold ab_cal at hs
  split at hs
  split at hs
  split at hs
  · split at hs
    · split at hs <;> cases hs
    · cases hs
  · cases hs
end AbKind
/-! the locals at an entry -/
theorem ab_lv_sl (ad : Nat → Nat) : ∀ (av : List Value), (lg_sl (av.map (ab_rl ad))).length = (ab_lv av).length
  | [] => rfl
  | v :: vs => by
    have ih := ab_lv_sl ad vs
    cases v <;> simp [lg_sl, ab_lv, ab_rl, Value.category] at ih ⊢ <;> omega
theorem ab_lv_args (ad : Nat → Nat) : ∀ (av : List Value) (i k : Nat) (v : Value), (ab_lv av)[k]? = some v → ab_okv v = true → (i + k, ab_rl ad v) ∈ lv_args i (av.map (ab_rl ad))
  | [], i, k, v, h, _ => by simp [ab_lv] at h
  | w :: vs, i, k, v, h, hv => by
    have one : ∀ (hw : (ab_rl ad w).category = 1), (w :: ab_lv vs)[k]? = some v → (i + k, ab_rl ad v) ∈ lv_args i ((w :: vs).map (ab_rl ad)) := by
      intro hw h
      rw [List.map_cons, lv_args, if_neg (by omega)]
      cases k with
      | zero =>
        simp only [List.getElem?_cons_zero, Option.some.injEq] at h
        rw [h]
        exact List.mem_cons_self
      | succ k =>
        simp only [List.getElem?_cons_succ] at h
        have := ab_lv_args ad vs (i + 1) k v h hv
        rw [show i + (k + 1) = i + 1 + k by omega]
        exact List.mem_cons_of_mem _ this
    have two : ∀ (hw : (ab_rl ad w).category = 2), (w :: ab_u :: ab_lv vs)[k]? = some v → (i + k, ab_rl ad v) ∈ lv_args i ((w :: vs).map (ab_rl ad)) := by
      intro hw h
      rw [List.map_cons, lv_args, if_pos hw]
      match k, h with
      | 0, h =>
        simp only [List.getElem?_cons_zero, Option.some.injEq] at h
        rw [h]
        exact List.mem_cons_self
      | 1, h =>
        simp only [List.getElem?_cons_succ, List.getElem?_cons_zero, Option.some.injEq] at h
        rw [← h] at hv
        exact absurd hv (by decide)
      | k + 2, h =>
        simp only [List.getElem?_cons_succ] at h
        have := ab_lv_args ad vs (i + 2) k v h hv
        rw [show i + (k + 2) = i + 2 + k by omega]
        exact List.mem_cons_of_mem _ this
    cases w
    case long x => exact two rfl h
    case double x => exact two rfl h
    all_goals exact one rfl h
theorem ab_LR_entry (ad : Nat → Nat) (av : List Value) {n : Nat} (h : (ab_lv av).length ≤ n) : ab_LR ad ((lg_sl (av.map (ab_rl ad)) ++ List.replicate (n - (lg_sl (av.map (ab_rl ad))).length) Slot.unset).toArray) n (ab_ent n av) := by
  refine ⟨by simp [ab_ent]; omega, _, lv_entry (av.map (ab_rl ad)) (by rw [ab_lv_sl]; exact h), fun k v hk hv => ?_⟩
  unfold ab_ent at hk
  by_cases hl : k < (ab_lv av).length
  · rw [List.getElem?_append_left hl] at hk
    have := ab_lv_args ad av 0 k v hk hv
    rwa [Nat.zero_add] at this
  · rw [List.getElem?_append_right (by omega), List.getElem?_replicate] at hk
    split at hk
    · cases hk
      exact absurd hv (by decide)
    · cases hk
