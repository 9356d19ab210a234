/-! the heap only grows, and not beyond its bound -/
def ab_mn (h h' : ab_H) : Prop := h.length ≤ h'.length ∧ ab_sz h ≤ ab_sz h' ∧ (h.length ≤ 950 → h'.length ≤ 950)
theorem ab_mn_rf {h : ab_H} : ab_mn h h := ⟨Nat.le_refl _, Nat.le_refl _, id⟩
theorem ab_mn_tr {h h1 h2 : ab_H} (a : ab_mn h h1) (b : ab_mn h1 h2) : ab_mn h h2 := ⟨Nat.le_trans a.1 b.1, Nat.le_trans a.2.1 b.2.1, fun z => b.2.2 (a.2.2 z)⟩
theorem ab_mn_set {h : ab_H} {a : Nat} {c c' : Nat × List Value} (ha : ab_nth h a = some c) (hl : c'.2.length = c.2.length) : ab_mn h (ab_set h c' a) := by
  rw [ab_nth_eq] at ha
  rw [ab_set_eq]
  exact ⟨by rw [List.length_set]; exact Nat.le_refl _, by rw [ab_sz_set ha hl]; exact Nat.le_refl _, fun z => by rw [List.length_set]; exact z⟩
theorem ab_mn_app {h g : ab_H} (hl : h.length + g.length ≤ 950) : ab_mn h (h ++ g) := ⟨by simp, by rw [ab_sz_app]; omega, fun _ => by rw [List.length_append]; exact hl⟩
section AbMono
variable {al : Bool} {mid pc : Nat} {L st : List Value} {h : ab_H} {r : ab_C}
theorem ab_stp_mono {i : Instr} (hs : ab_stp i al mid pc L st h = some (.inl r)) : ab_mn h r.2.2.2 := by
  cases i
  case aload_n k =>
    have hs : ab_s_aload_n k al mid pc L st h = some (.inl r) := hs
    unfold ab_s_aload_n at hs
    repeat' split at hs
    all_goals first | (cases hs; exact ab_mn_rf) | (cases hs)
  case iload_n k =>
    have hs : ab_s_iload_n k al mid pc L st h = some (.inl r) := hs
    unfold ab_s_iload_n at hs
    repeat' split at hs
    all_goals first | (cases hs; exact ab_mn_rf) | (cases hs)
  case lload_n k =>
    have hs : ab_s_lload_n k al mid pc L st h = some (.inl r) := hs
    unfold ab_s_lload_n at hs
    repeat' split at hs
    all_goals first | (cases hs; exact ab_mn_rf) | (cases hs)
  case istore_n k =>
    have hs : ab_s_istore_n k al mid pc L st h = some (.inl r) := hs
    unfold ab_s_istore_n at hs
    repeat' split at hs
    all_goals first | (cases hs; exact ab_mn_rf) | (cases hs)
  case astore_n k =>
    have hs : ab_s_astore_n k al mid pc L st h = some (.inl r) := hs
    unfold ab_s_astore_n at hs
    repeat' split at hs
    all_goals first | (cases hs; exact ab_mn_rf) | (cases hs)
  case lstore_n k =>
    have hs : ab_s_lstore_n k al mid pc L st h = some (.inl r) := hs
    unfold ab_s_lstore_n at hs
    repeat' split at hs
    all_goals first | (cases hs; exact ab_mn_rf) | (cases hs)
  case aload k =>
    have hs : ab_s_aload k al mid pc L st h = some (.inl r) := hs
    unfold ab_s_aload at hs
    repeat' split at hs
    all_goals first | (cases hs; exact ab_mn_rf) | (cases hs)
  case iload k =>
    have hs : ab_s_iload k al mid pc L st h = some (.inl r) := hs
    unfold ab_s_iload at hs
    repeat' split at hs
    all_goals first | (cases hs; exact ab_mn_rf) | (cases hs)
  case lload k =>
    have hs : ab_s_lload k al mid pc L st h = some (.inl r) := hs
    unfold ab_s_lload at hs
    repeat' split at hs
    all_goals first | (cases hs; exact ab_mn_rf) | (cases hs)
  case istore k =>
    have hs : ab_s_istore k al mid pc L st h = some (.inl r) := hs
    unfold ab_s_istore at hs
    repeat' split at hs
    all_goals first | (cases hs; exact ab_mn_rf) | (cases hs)
  case lstore k =>
    have hs : ab_s_lstore k al mid pc L st h = some (.inl r) := hs
    unfold ab_s_lstore at hs
    repeat' split at hs
    all_goals first | (cases hs; exact ab_mn_rf) | (cases hs)
  case iinc k n =>
    have hs : ab_s_iinc k n al mid pc L st h = some (.inl r) := hs
    unfold ab_s_iinc at hs
    repeat' split at hs
    all_goals first | (cases hs; exact ab_mn_rf) | (cases hs)
  case iconst n =>
    have hs : ab_s_iconst n al mid pc L st h = some (.inl r) := hs
    unfold ab_s_iconst at hs
    repeat' split at hs
    all_goals first | (cases hs; exact ab_mn_rf) | (cases hs)
  case bipush n =>
    have hs : ab_s_bipush n al mid pc L st h = some (.inl r) := hs
    unfold ab_s_bipush at hs
    repeat' split at hs
    all_goals first | (cases hs; exact ab_mn_rf) | (cases hs)
  case sipush n =>
    have hs : ab_s_sipush n al mid pc L st h = some (.inl r) := hs
    unfold ab_s_sipush at hs
    repeat' split at hs
    all_goals first | (cases hs; exact ab_mn_rf) | (cases hs)
  case lconst n =>
    have hs : ab_s_lconst n al mid pc L st h = some (.inl r) := hs
    unfold ab_s_lconst at hs
    repeat' split at hs
    all_goals first | (cases hs; exact ab_mn_rf) | (cases hs)
  case ldc2_w n =>
    have hs : ab_s_ldc2_w n al mid pc L st h = some (.inl r) := hs
    unfold ab_s_ldc2_w at hs
    repeat' split at hs
    all_goals first | (cases hs; exact ab_mn_rf) | (cases hs)
  case getstatic n =>
    have hs : ab_s_getstatic n al mid pc L st h = some (.inl r) := hs
    unfold ab_s_getstatic at hs
    repeat' split at hs
    all_goals first | (cases hs; exact ab_mn_rf) | (cases hs)
  case getfield n =>
    have hs : ab_s_getfield n al mid pc L st h = some (.inl r) := hs
    unfold ab_s_getfield at hs
    repeat' split at hs
    all_goals first | (cases hs; exact ab_mn_rf) | (cases hs)
  case iaload =>
    have hs : ab_s_iaload al mid pc L st h = some (.inl r) := hs
    unfold ab_s_iaload at hs
    repeat' split at hs
    all_goals first | (cases hs; exact ab_mn_rf) | (cases hs)
  case baload =>
    have hs : ab_s_baload al mid pc L st h = some (.inl r) := hs
    unfold ab_s_baload at hs
    repeat' split at hs
    all_goals first | (cases hs; exact ab_mn_rf) | (cases hs)
  case laload =>
    have hs : ab_s_laload al mid pc L st h = some (.inl r) := hs
    unfold ab_s_laload at hs
    repeat' split at hs
    all_goals first | (cases hs; exact ab_mn_rf) | (cases hs)
  case aaload =>
    have hs : ab_s_aaload al mid pc L st h = some (.inl r) := hs
    unfold ab_s_aaload at hs
    repeat' split at hs
    all_goals first | (cases hs; exact ab_mn_rf) | (cases hs)
  case arraylength =>
    have hs : ab_s_arraylength al mid pc L st h = some (.inl r) := hs
    unfold ab_s_arraylength at hs
    repeat' split at hs
    all_goals first | (cases hs; exact ab_mn_rf) | (cases hs)
  case dup =>
    have hs : ab_s_dup al mid pc L st h = some (.inl r) := hs
    unfold ab_s_dup at hs
    repeat' split at hs
    all_goals first | (cases hs; exact ab_mn_rf) | (cases hs)
  case dup2 =>
    have hs : ab_s_dup2 al mid pc L st h = some (.inl r) := hs
    unfold ab_s_dup2 at hs
    repeat' split at hs
    all_goals first | (cases hs; exact ab_mn_rf) | (cases hs)
  case pop =>
    have hs : ab_s_pop al mid pc L st h = some (.inl r) := hs
    unfold ab_s_pop at hs
    repeat' split at hs
    all_goals first | (cases hs; exact ab_mn_rf) | (cases hs)
  case iadd =>
    have hs : ab_s_iadd al mid pc L st h = some (.inl r) := hs
    unfold ab_s_iadd at hs
    repeat' split at hs
    all_goals first | (cases hs; exact ab_mn_rf) | (cases hs)
  case isub =>
    have hs : ab_s_isub al mid pc L st h = some (.inl r) := hs
    unfold ab_s_isub at hs
    repeat' split at hs
    all_goals first | (cases hs; exact ab_mn_rf) | (cases hs)
  case imul =>
    have hs : ab_s_imul al mid pc L st h = some (.inl r) := hs
    unfold ab_s_imul at hs
    repeat' split at hs
    all_goals first | (cases hs; exact ab_mn_rf) | (cases hs)
  case idiv =>
    have hs : ab_s_idiv al mid pc L st h = some (.inl r) := hs
    unfold ab_s_idiv at hs
    repeat' split at hs
    all_goals first | (cases hs; exact ab_mn_rf) | (cases hs)
  case irem =>
    have hs : ab_s_irem al mid pc L st h = some (.inl r) := hs
    unfold ab_s_irem at hs
    repeat' split at hs
    all_goals first | (cases hs; exact ab_mn_rf) | (cases hs)
  case ineg =>
    have hs : ab_s_ineg al mid pc L st h = some (.inl r) := hs
    unfold ab_s_ineg at hs
    repeat' split at hs
    all_goals first | (cases hs; exact ab_mn_rf) | (cases hs)
  case ior =>
    have hs : ab_s_ior al mid pc L st h = some (.inl r) := hs
    unfold ab_s_ior at hs
    repeat' split at hs
    all_goals first | (cases hs; exact ab_mn_rf) | (cases hs)
  case ishl =>
    have hs : ab_s_ishl al mid pc L st h = some (.inl r) := hs
    unfold ab_s_ishl at hs
    repeat' split at hs
    all_goals first | (cases hs; exact ab_mn_rf) | (cases hs)
  case ladd =>
    have hs : ab_s_ladd al mid pc L st h = some (.inl r) := hs
    unfold ab_s_ladd at hs
    repeat' split at hs
    all_goals first | (cases hs; exact ab_mn_rf) | (cases hs)
  case lmul =>
    have hs : ab_s_lmul al mid pc L st h = some (.inl r) := hs
    unfold ab_s_lmul at hs
    repeat' split at hs
    all_goals first | (cases hs; exact ab_mn_rf) | (cases hs)
  case ldiv =>
    have hs : ab_s_ldiv al mid pc L st h = some (.inl r) := hs
    unfold ab_s_ldiv at hs
    repeat' split at hs
    all_goals first | (cases hs; exact ab_mn_rf) | (cases hs)
  case lneg =>
    have hs : ab_s_lneg al mid pc L st h = some (.inl r) := hs
    unfold ab_s_lneg at hs
    repeat' split at hs
    all_goals first | (cases hs; exact ab_mn_rf) | (cases hs)
  case lcmp =>
    have hs : ab_s_lcmp al mid pc L st h = some (.inl r) := hs
    unfold ab_s_lcmp at hs
    repeat' split at hs
    all_goals first | (cases hs; exact ab_mn_rf) | (cases hs)
  case i2l =>
    have hs : ab_s_i2l al mid pc L st h = some (.inl r) := hs
    unfold ab_s_i2l at hs
    repeat' split at hs
    all_goals first | (cases hs; exact ab_mn_rf) | (cases hs)
  case goto t =>
    have hs : ab_s_goto t al mid pc L st h = some (.inl r) := hs
    unfold ab_s_goto at hs
    repeat' split at hs
    all_goals first | (cases hs; exact ab_mn_rf) | (cases hs)
  case ifCond cc t =>
    have hs : ab_s_ifCond cc t al mid pc L st h = some (.inl r) := hs
    unfold ab_s_ifCond at hs
    repeat' split at hs
    all_goals first | (cases hs; exact ab_mn_rf) | (cases hs)
  case if_icmp cc t =>
    have hs : ab_s_if_icmp cc t al mid pc L st h = some (.inl r) := hs
    unfold ab_s_if_icmp at hs
    repeat' split at hs
    all_goals first | (cases hs; exact ab_mn_rf) | (cases hs)
  case tableswitch d lo hi offs =>
    have hs : ab_s_tableswitch d lo hi offs al mid pc L st h = some (.inl r) := hs
    unfold ab_s_tableswitch at hs
    repeat' split at hs
    all_goals first | (cases hs; exact ab_mn_rf) | (cases hs)
  case lookupswitch d ps =>
    have hs : ab_s_lookupswitch d ps al mid pc L st h = some (.inl r) := hs
    unfold ab_s_lookupswitch at hs
    repeat' split at hs
    all_goals first | (cases hs; exact ab_mn_rf) | (cases hs)
  case ireturn =>
    have hs : ab_s_ireturn al mid pc L st h = some (.inl r) := hs
    unfold ab_s_ireturn at hs
    repeat' split at hs
    all_goals first | (cases hs; exact ab_mn_rf) | (cases hs)
  case lreturn =>
    have hs : ab_s_lreturn al mid pc L st h = some (.inl r) := hs
    unfold ab_s_lreturn at hs
    repeat' split at hs
    all_goals first | (cases hs; exact ab_mn_rf) | (cases hs)
  case return_ =>
    have hs : ab_s_return_ al mid pc L st h = some (.inl r) := hs
    unfold ab_s_return_ at hs
    repeat' split at hs
    all_goals first | (cases hs; exact ab_mn_rf) | (cases hs)
  case putfield n =>
    have hs : ab_s_putfield n al mid pc L st h = some (.inl r) := hs
    unfold ab_s_putfield at hs
    repeat' split at hs
    all_goals first | (cases hs; exact ab_mn_set (by assumption) (by simp [ab_set_eq])) | (cases hs)
  case iastore =>
    have hs : ab_s_iastore al mid pc L st h = some (.inl r) := hs
    unfold ab_s_iastore at hs
    repeat' split at hs
    all_goals first | (cases hs; exact ab_mn_set (by assumption) (by simp [ab_set_eq])) | (cases hs)
  case bastore =>
    have hs : ab_s_bastore al mid pc L st h = some (.inl r) := hs
    unfold ab_s_bastore at hs
    repeat' split at hs
    all_goals first | (cases hs; exact ab_mn_set (by assumption) (by simp [ab_set_eq])) | (cases hs)
  case lastore =>
    have hs : ab_s_lastore al mid pc L st h = some (.inl r) := hs
    unfold ab_s_lastore at hs
    repeat' split at hs
    all_goals first | (cases hs; exact ab_mn_set (by assumption) (by simp [ab_set_eq])) | (cases hs)
  case aastore =>
    have hs : ab_s_aastore al mid pc L st h = some (.inl r) := hs
    unfold ab_s_aastore at hs
    repeat' split at hs
    all_goals first | (cases hs; exact ab_mn_set (by assumption) (by simp [ab_set_eq])) | (cases hs)
  case newarray ty =>
    have hs : ab_s_newarray ty al mid pc L st h = some (.inl r) := hs
    unfold ab_s_newarray at hs
    repeat' split at hs
    all_goals first | (cases hs; refine ab_mn_app ?_; simp only [List.length_cons, List.length_nil]; omega) | (cases hs)
  case anewarray t =>
    have hs : ab_s_anewarray t al mid pc L st h = some (.inl r) := hs
    unfold ab_s_anewarray at hs
    repeat' split at hs
    all_goals first | (cases hs; refine ab_mn_app ?_; simp only [List.length_cons, List.length_nil]; omega) | (cases hs)
  case new ci =>
    have hs : ab_s_new ci al mid pc L st h = some (.inl r) := hs
    unfold ab_s_new at hs
    repeat' split at hs
    all_goals first | (cases hs; refine ab_mn_app ?_; simp only [List.length_cons, List.length_nil]; omega) | (cases hs)
  case multianewarray t d =>
    have hs : ab_s_multianewarray t d al mid pc L st h = some (.inl r) := hs
    unfold ab_s_multianewarray at hs
    repeat' split at hs
    all_goals first | (cases hs; refine ab_mn_app ?_; simp only [List.length_cons, List.length_replicate]; omega) | (cases hs)
  case invokevirtual n => exact absurd hs ab_cal_no
  case invokespecial n =>
    have hs : ab_s_invokespecial n al mid pc L st h = some (.inl r) := hs
    unfold ab_s_invokespecial at hs
    split at hs
    · repeat' split at hs
      all_goals first | (cases hs; exact ab_mn_rf) | (cases hs)
    · exact absurd hs ab_cal_no
  case invokestatic n =>
    have hs : ab_s_invokestatic n al mid pc L st h = some (.inl r) := hs
    unfold ab_s_invokestatic at hs
    split at hs
    · unfold ab_s_arraycopy at hs
      split at hs
      · split at hs
        · split at hs
          · split at hs
            · rename_i ha hc
              cases hs
              exact ab_mn_set ha hc.2.2.2.2.2.1.symm
            · cases hs
          · cases hs
        · cases hs
      · cases hs
    · split at hs
      · unfold ab_s_max at hs
        repeat' split at hs
        all_goals first | (cases hs; exact ab_mn_rf) | (cases hs)
      · split at hs
        · unfold ab_s_min at hs
          repeat' split at hs
          all_goals first | (cases hs; exact ab_mn_rf) | (cases hs)
        · exact absurd hs ab_cal_no
  all_goals cases hs
end AbMono
theorem ab_exec_mono {al : Bool} : ∀ (n mid : Nat) (cd : ab_CD) (pc : Nat) (L st : List Value) (h : ab_H) (r : Option Value) (h' : ab_H), ab_exec al n mid cd pc L st h = some (r, h') → ab_mn h h'
  | 0, _, _, _, _, _, _, _, _, hs => by simp [ab_exec] at hs
  | n + 1, mid, cd, pc, L, st, h, r, h', hs => by
    rw [ab_exec] at hs
    split at hs
    · cases hs
    · split at hs
      · cases hs
      · rename_i hst
        exact ab_mn_tr (ab_stp_mono hst) (ab_exec_mono n _ _ _ _ _ _ _ _ hs)
      · cases hs
        exact ab_mn_rf
      · split at hs
        · rename_i hc
          exact ab_mn_tr (ab_exec_mono n _ _ _ _ _ _ _ _ hc) (ab_exec_mono n _ _ _ _ _ _ _ _ hs)
        · cases hs
