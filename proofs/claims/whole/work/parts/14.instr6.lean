/-! the calls that are no method's of ours; the instructions together -/
theorem ab_wObj : Cond.code objectInit ⟨#[0xb1]⟩ 1 none ∈ ab_TG ∧ Cond.instanceMethod objectInit ∈ ab_TG := ⟨ab_in (p := 70) (by decide +kernel) rfl, ab_in (p := 69) (by decide +kernel) rfl⟩
theorem ab_wMax : Cond.code Lib.Math.max.name Lib.Math.max.code 2 (some .int) ∈ ab_TG ∧ Cond.static Lib.Math.max.name ∈ ab_TG ∧ Cond.initialized "java/lang/Math" ∈ ab_TG := ⟨ab_in (p := 89) (by decide +kernel) rfl, ab_in (p := 88) (by decide +kernel) rfl, ab_in (p := 49) (by decide +kernel) rfl⟩
theorem ab_wMin : Cond.code Lib.Math.min.name Lib.Math.min.code 2 (some .int) ∈ ab_TG ∧ Cond.static Lib.Math.min.name ∈ ab_TG := ⟨ab_in (p := 478) (by decide +kernel) rfl, ab_in (p := 477) (by decide +kernel) rfl⟩
theorem ab_wAcp : Cond.native arraycopyName ∈ ab_TG ∧ Cond.static arraycopyName ∈ ab_TG ∧ Cond.initialized "java/lang/System" ∈ ab_TG := ⟨ab_in (p := 533) (by decide +kernel) rfl, ab_in (p := 532) (by decide +kernel) rfl, ab_in (p := 62) (by decide +kernel) rfl⟩
theorem ab_wArr : Cond.arrayClass .int ∈ ab_TG ∧ Cond.arrayClass .long ∈ ab_TG ∧ Cond.arrayClass .boolean ∈ ab_TG := ⟨ab_in (p := 151) (by decide +kernel) rfl, ab_in (p := 152) (by decide +kernel) rfl, ab_in (p := 372) (by decide +kernel) rfl⟩
section AbInstr6
variable {p : Program} {l : Launch} {e : Env} {R : Room} {s : State} {m : MethodId} {args : Array Value} {below : List Frame} {meth : Method} {c : Code}
variable {D : va_G} {aC : Nat → ClassId} {ad : Nat → Nat} {A : Nat → Prop} {al : Bool} {mid pc : Nat} {L st : List Value} {h : ab_H} {r : ab_C}
theorem ab_cat_rl (st : List Value) : ((st.map (ab_rl ad)).map fun v => v.category).sum = ab_cat st := by
  unfold ab_cat
  rw [List.map_map]
  congr 1
  exact List.map_congr_left (fun v _ => ab_rl_cat ad v)
/-- a link of an ordinary kind, or none of a nest mate's -/
theorem ab_mw_spec {own n x q : Nat} (h : ab_mw own n x q = true) (hn : ∀ w ∈ ab_NW, w ≠ Cond.methodLinkNest (ab_RC own) x (ab_YM n) RX11) : Cond.methodLink (ab_RC own) x (ab_YM n) ∈ ab_TG := by
  unfold ab_mw at h
  simp only [Bool.or_eq_true, decide_eq_true_eq] at h
  rcases h with h | h
  · exact ab_in h rfl
  · exact absurd rfl (hn _ h)
def ab_isY (y : MethodName) : Cond → Bool
  | .methodLinkNest _ _ z _ => z == y
  | _ => false
theorem ab_noNest {y : MethodName} (h : ab_NW.all (fun w => !ab_isY y w) = true) (a : String) (x : Nat) (b : String) : ∀ w ∈ ab_NW, w ≠ Cond.methodLinkNest a x y b := by
  intro w hw e
  have := List.all_eq_true.mp h w hw
  rw [e] at this
  simp [ab_isY] at this
theorem ab_k_objinit (F : ab_FF p s m args meth c mid) (hR : (ab_MR mid).2.2.2.2.2.1 ≤ R.frames ∧ (ab_MR mid).2.2.2.2.2.2 ≤ R.locals) {x q : Nat} (hd : decode (ab_BM mid) pc = .ok (.invokespecial x, 3)) (hw : ab_mw (ab_MR mid).1 900 x q = true) (hs : ab_s_invokespecial 900 al mid pc L st h = some (.inl r)) : ab_Ok p l e R s m args below meth c D aC ad A al mid pc L st h r := by
  unfold ab_s_invokespecial at hs
  rw [if_pos rfl] at hs
  split at hs
  · rename_i a st'
    split at hs
    · rename_i hc
      cases hs
      refine ab_Ok.pure fun H locs ls cells slots Q _ _ hI hL kk => ?_
      have hlk := ab_mw_spec hw (ab_noNest (by decide +kernel) _ _ _)
      refine W.objInit F.1 F.2.1 F.2.2.2.2.2.1 (F.2.2.2.2.2.2.1 _ hlk) (F.2.2.2.2.2.2.1 _ ab_wObj.2) (F.2.2.2.2.2.2.1 _ ab_wObj.1) rfl (hL.size.trans F.2.2.1.symm) rfl hd (by omega) ?_ (kk ls hL)
      have := ab_cat_rl (ad := ad) st'
      show 2 * 0 + _ + 12 ≤ _
      rw [this]
      omega
    · cases hs
  · cases hs
theorem ab_cpyI {vs ws : List Value} (h : ws.length = vs.length) : va_cpy (fun j => ab_vI (vs.getD j .null)) (fun j => ab_vI (ws.getD j .null)) 0 0 vs.length = fun j => ab_vI (vs.getD j .null) := by
  funext j
  unfold va_cpy
  by_cases hj : j < vs.length
  · rw [if_pos ⟨Nat.zero_le _, by omega⟩]
    simp
  · rw [if_neg (by omega)]
    simp [List.getD_eq_getElem?_getD, List.getElem?_eq_none (show vs.length ≤ j by omega), List.getElem?_eq_none (show ws.length ≤ j by omega)]
theorem ab_cpyL {vs ws : List Value} (h : ws.length = vs.length) : va_cpy (fun j => ab_vL (vs.getD j .null)) (fun j => ab_vL (ws.getD j .null)) 0 0 vs.length = fun j => ab_vL (vs.getD j .null) := by
  funext j
  unfold va_cpy
  by_cases hj : j < vs.length
  · rw [if_pos ⟨Nat.zero_le _, by omega⟩]
    simp
  · rw [if_neg (by omega)]
    simp [List.getD_eq_getElem?_getD, List.getElem?_eq_none (show vs.length ≤ j by omega), List.getElem?_eq_none (show ws.length ≤ j by omega)]
theorem ab_k_arraycopy (F : ab_FF p s m args meth c mid) (S : ab_Stc D aC ad A s s.heap) (hR : (ab_MR mid).2.2.2.2.2.1 ≤ R.frames ∧ (ab_MR mid).2.2.2.2.2.2 ≤ R.locals) {x q : Nat} (hd : decode (ab_BM mid) pc = .ok (.invokestatic x, 3)) (hw : ab_mw (ab_MR mid).1 901 x q = true) (hs : ab_s_arraycopy mid pc L st h = some (.inl r)) : ab_Ok p l e R s m args below meth c D aC ad A al mid pc L st h r := by
  have hlk := ab_mw_spec hw (ab_noNest (by decide +kernel) _ _ _)
  unfold ab_s_arraycopy at hs
  split at hs
  · rename_i n dp a sp a0 st'
    rw [ab_nth_eq] at hs
    split at hs
    · rename_i t vs ha0
      rw [ab_nth_eq] at hs
      split at hs
      · rename_i t' ws ha
        split at hs
        · rename_i hc
          obtain ⟨rfl, ht, rfl, rfl, hn, hl, hcat, hf1, hf2⟩ := hc
          obtain ⟨n1, n2⟩ := ab_ix_spec hn
          cases hs
          simp only [ab_set_eq]
          have hz : (0 : Int32).toNatClampNeg = 0 := rfl
          rcases ht with rfl | rfl
          · refine ab_Ok.same (by rw [List.length_set]) (ab_sz_set ha hl.symm) (fun H locs ls cells slots Q hI hL kk => ?_) rfl
            refine va_copyi (tys := ab_tys aC) F.1 F.2.1 (F.2.2.1.trans hL.size.symm) F.2.2.2.2.2.1 (F.2.2.2.2.2.2.1 _ hlk) (F.2.2.2.2.2.2.1 _ ab_wAcp.1) (F.2.2.2.2.2.2.1 _ ab_wAcp.2.1) (F.2.2.2.2.2.2.1 _ ab_wAcp.2.2) S.1 hI.1 hI.2.1 hI.2.2 a0 a 0 0 (ab_wd_at ha0) (ab_wd_at ha) rfl rfl rfl (by decide) (by decide) n1 (by rw [hz, n2]; exact Nat.le_of_eq (Nat.zero_add _)) (by rw [hz, n2]; show 0 + vs.length ≤ ws.length; omega) (fun i hi => rfl) (by omega) ?_ hd (fun H1 locs1 hP hD hS => kk H1 locs1 (ab_I.set ?_ ?_ hS))
            · have := ab_cat_rl (ad := ad) st'
              show _ + (7 + 11) ≤ _
              rw [this]
              omega
            · rw [ab_cz_i]; rw [hz, n2, ab_cpyI hl] at hP; rw [hl] at hP; exact hP
            · rw [ab_cz_i]; rw [hz, n2, ab_cpyI hl] at hD; rw [hl] at hD; exact hD
          · refine ab_Ok.same (by rw [List.length_set]) (ab_sz_set ha hl.symm) (fun H locs ls cells slots Q hI hL kk => ?_) rfl
            refine va_copyl (tys := ab_tys aC) F.1 F.2.1 (F.2.2.1.trans hL.size.symm) F.2.2.2.2.2.1 (F.2.2.2.2.2.2.1 _ hlk) (F.2.2.2.2.2.2.1 _ ab_wAcp.1) (F.2.2.2.2.2.2.1 _ ab_wAcp.2.1) (F.2.2.2.2.2.2.1 _ ab_wAcp.2.2) S.1 hI.1 hI.2.1 hI.2.2 a0 a 1 1 (ab_wd_at ha0) (ab_wd_at ha) rfl rfl rfl (by decide) (by decide) n1 (by rw [hz, n2]; exact Nat.le_of_eq (Nat.zero_add _)) (by rw [hz, n2]; show 0 + vs.length ≤ ws.length; omega) (fun i hi => rfl) (by omega) ?_ hd (fun H1 locs1 hP hD hS => kk H1 locs1 (ab_I.set ?_ ?_ hS))
            · have := ab_cat_rl (ad := ad) st'
              show _ + (7 + 11) ≤ _
              rw [this]
              omega
            · rw [ab_cz_l]; rw [hz, n2, ab_cpyL hl] at hP; rw [hl] at hP; exact hP
            · rw [ab_cz_l]; rw [hz, n2, ab_cpyL hl] at hD; rw [hl] at hD; exact hD
        · cases hs
      · cases hs
    · cases hs
  · cases hs
theorem ab_k_max (F : ab_FF p s m args meth c mid) (hR : (ab_MR mid).2.2.2.2.2.1 ≤ R.frames ∧ (ab_MR mid).2.2.2.2.2.2 ≤ R.locals) {x q : Nat} (hd : decode (ab_BM mid) pc = .ok (.invokestatic x, 3)) (hw : ab_mw (ab_MR mid).1 902 x q = true) (hs : ab_s_max mid pc L st h = some (.inl r)) : ab_Ok p l e R s m args below meth c D aC ad A al mid pc L st h r := by
  have hlk := ab_mw_spec hw (ab_noNest (by decide +kernel) _ _ _)
  unfold ab_s_max at hs
  split at hs
  · rename_i y x0 st'
    split at hs
    · rename_i hc
      cases hs
      refine ab_Ok.pure fun H locs ls cells slots Q hc1 hc2 hI hL kk => ?_
      refine va_mmax F.1 F.2.1 (F.2.2.1.trans hL.size.symm) F.2.2.2.2.2.1 (F.2.2.2.2.2.2.1 _ hlk) (F.2.2.2.2.2.2.1 _ ab_wMax.2.1) (F.2.2.2.2.2.2.1 _ ab_wMax.2.2) (F.2.2.2.2.2.2.1 _ ab_wMax.1) (by omega) ?_ hc1 hc2 hd (kk ls hL)
      have := ab_cat_rl (ad := ad) st'
      show _ + 13 ≤ _
      rw [this]
      omega
    · cases hs
  · cases hs
theorem ab_k_min (F : ab_FF p s m args meth c mid) (hR : (ab_MR mid).2.2.2.2.2.1 ≤ R.frames ∧ (ab_MR mid).2.2.2.2.2.2 ≤ R.locals) {x q : Nat} (hd : decode (ab_BM mid) pc = .ok (.invokestatic x, 3)) (hw : ab_mw (ab_MR mid).1 903 x q = true) (hs : ab_s_min mid pc L st h = some (.inl r)) : ab_Ok p l e R s m args below meth c D aC ad A al mid pc L st h r := by
  have hlk := ab_mw_spec hw (ab_noNest (by decide +kernel) _ _ _)
  unfold ab_s_min at hs
  split at hs
  · rename_i y x0 st'
    split at hs
    · rename_i hc
      cases hs
      refine ab_Ok.pure fun H locs ls cells slots Q hc1 hc2 hI hL kk => ?_
      refine va_mmin F.1 F.2.1 (F.2.2.1.trans hL.size.symm) F.2.2.2.2.2.1 (F.2.2.2.2.2.2.1 _ hlk) (F.2.2.2.2.2.2.1 _ ab_wMin.2) (F.2.2.2.2.2.2.1 _ ab_wMax.2.2) (F.2.2.2.2.2.2.1 _ ab_wMin.1) (by omega) ?_ hc1 hc2 hd (kk ls hL)
      have := ab_cat_rl (ad := ad) st'
      show _ + 13 ≤ _
      rw [this]
      omega
    · cases hs
  · cases hs
theorem ab_cal_no {kd n : Nat} (hs : ab_cal kd mid n st h = some (.inl r)) : False := by
  unfold ab_cal at hs
  split at hs
  split at hs
  split at hs
  · split at hs
    · split at hs <;> cases hs
    · cases hs
  · cases hs
/-- an instruction that goes on -/
theorem ab_stp_ok (F : ab_FF p s m args meth c mid) (S : ab_Stc D aC ad A s s.heap) (hAd : ab_Ad ad A al s.heap) (hR : (ab_MR mid).2.2.2.2.2.1 ≤ R.frames ∧ (ab_MR mid).2.2.2.2.2.2 ≤ R.locals) (hmid : mid < 157) {i : Instr} {x q : Nat} (hf : ab_ft (ab_CM mid) pc = some (i, x, q)) (hs : ab_stp i al mid pc L st h = some (.inl r)) : ab_Ok p l e R s m args below meth c D aC ad A al mid pc L st h r := by
  have hk := ab_ft_ok (ab_ck mid hmid) hf
  cases i
  case aload_n k => exact ab_k_aload_n F (of_decide_eq_true hk) hs
  case iload_n k => exact ab_k_iload_n F (of_decide_eq_true hk) hs
  case lload_n k => exact ab_k_lload_n F (of_decide_eq_true hk) hs
  case istore_n k => exact ab_k_istore_n F (of_decide_eq_true hk) hs
  case astore_n k => exact ab_k_astore_n F (of_decide_eq_true hk) hs
  case lstore_n k => exact ab_k_lstore_n F (of_decide_eq_true hk) hs
  case aload k => exact ab_k_aload F (of_decide_eq_true hk) hs
  case iload k => exact ab_k_iload F (of_decide_eq_true hk) hs
  case lload k => exact ab_k_lload F (of_decide_eq_true hk) hs
  case istore k => exact ab_k_istore F (of_decide_eq_true hk) hs
  case lstore k => exact ab_k_lstore F (of_decide_eq_true hk) hs
  case iinc k n => exact ab_k_iinc F (of_decide_eq_true hk) hs
  case iconst n => exact ab_k_iconst F (of_decide_eq_true hk) hs
  case bipush n => exact ab_k_bipush F (of_decide_eq_true hk) hs
  case sipush n => exact ab_k_sipush F (of_decide_eq_true hk) hs
  case lconst n => exact ab_k_lconst F (of_decide_eq_true hk) hs
  case iadd => exact ab_k_iadd F (of_decide_eq_true hk) hs
  case isub => exact ab_k_isub F (of_decide_eq_true hk) hs
  case imul => exact ab_k_imul F (of_decide_eq_true hk) hs
  case ineg => exact ab_k_ineg F (of_decide_eq_true hk) hs
  case ior => exact ab_k_ior F (of_decide_eq_true hk) hs
  case ishl => exact ab_k_ishl F (of_decide_eq_true hk) hs
  case ladd => exact ab_k_ladd F (of_decide_eq_true hk) hs
  case lmul => exact ab_k_lmul F (of_decide_eq_true hk) hs
  case lneg => exact ab_k_lneg F (of_decide_eq_true hk) hs
  case lcmp => exact ab_k_lcmp F (of_decide_eq_true hk) hs
  case i2l => exact ab_k_i2l F (of_decide_eq_true hk) hs
  case idiv => exact ab_k_idiv F (of_decide_eq_true hk) hs
  case irem => exact ab_k_irem F (of_decide_eq_true hk) hs
  case ldiv => exact ab_k_ldiv F (of_decide_eq_true hk) hs
  case dup => exact ab_k_dup F (of_decide_eq_true hk) hs
  case dup2 => exact ab_k_dup2 F (of_decide_eq_true hk) hs
  case pop => exact ab_k_pop F (of_decide_eq_true hk) hs
  case iaload => exact ab_k_iaload F S (of_decide_eq_true hk) hs
  case baload => exact ab_k_baload F S (of_decide_eq_true hk) hs
  case laload => exact ab_k_laload F S (of_decide_eq_true hk) hs
  case aaload => exact ab_k_aaload F S (of_decide_eq_true hk) hs
  case iastore => exact ab_k_iastore F S (of_decide_eq_true hk) hs
  case bastore => exact ab_k_bastore F S (of_decide_eq_true hk) hs
  case lastore => exact ab_k_lastore F S (of_decide_eq_true hk) hs
  case aastore => exact ab_k_aastore F S (of_decide_eq_true hk) hs
  case arraylength => exact ab_k_arraylength F S (of_decide_eq_true hk) hs
  case ldc2_w n =>
    have hk2 : (ab_dc (ab_BM mid) pc (.ldc2_w x) 3 && decide (lw_tbl[q]? = some (.constantLong (ab_RC (ab_MR mid).1) x (ab_LK.getD n 0)))) = true := hk
    rw [Bool.and_eq_true] at hk2
    exact ab_k_ldc2_w F (of_decide_eq_true hk2.1) (of_decide_eq_true hk2.2) hs
  case getstatic n =>
    have hk2 : (ab_dc (ab_BM mid) pc (.getstatic x) 3 && decide (lw_tbl[q]? = some (.fieldLink (ab_RC (ab_MR mid).1) x RX9 (ab_sn n) "[I"))) = true := hk
    rw [Bool.and_eq_true] at hk2
    exact ab_k_getstatic F S (of_decide_eq_true hk2.1) (of_decide_eq_true hk2.2) hs
  case getfield n =>
    have hk2 : (ab_dc (ab_BM mid) pc (.getfield x) 3 && ab_fw (ab_MR mid).1 n x q) = true := hk
    rw [Bool.and_eq_true] at hk2
    exact ab_k_getfield F S (of_decide_eq_true hk2.1) hk2.2 hs
  case putfield n =>
    have hk2 : (ab_dc (ab_BM mid) pc (.putfield x) 3 && (if 4096 ≤ n then ab_fw (ab_MR mid).1 (n - 4096) x q && ((ab_fi (n - 4096)).2.1 == "I") && !(ab_fi (n - 4096)).2.2 else ab_fw (ab_MR mid).1 n x q && ab_refd (ab_fi n).2.1 && (ab_fi n).2.2)) = true := hk
    rw [Bool.and_eq_true] at hk2
    exact ab_k_putfield F S (of_decide_eq_true hk2.1) hk2.2 hs
  case newarray ty => exact ab_k_newarray F S hAd ab_wArr (of_decide_eq_true hk) hs
  case anewarray t =>
    have hk2 : (ab_dc (ab_BM mid) pc (.anewarray x) 3 && decide (lw_tbl[q]? = some (.classLink (ab_RC (ab_MR mid).1) x "RootedCuts$State"))) = true := hk
    rw [Bool.and_eq_true] at hk2
    exact ab_k_anewarray F S hAd (of_decide_eq_true hk2.2) (of_decide_eq_true hk2.1) hs
  case multianewarray t d =>
    have hk2 : (ab_dc (ab_BM mid) pc (.multianewarray x 2) 4 && decide (lw_tbl[q]? = some (.classLink (ab_RC (ab_MR mid).1) x (if t = 23 then "[[I" else "[[J")))) = true := hk
    rw [Bool.and_eq_true] at hk2
    exact ab_k_multianewarray F S hAd ab_wArr (of_decide_eq_true hk2.2) (of_decide_eq_true hk2.1) hs
  case new ci =>
    have hk2 : (ab_dc (ab_BM mid) pc (.new x) 3 && decide (ci < 13) && decide (lw_tbl[q]? = some (.classLink (ab_RC (ab_MR mid).1) x (ab_RC ci)))) = true := hk
    rw [Bool.and_eq_true, Bool.and_eq_true] at hk2
    exact ab_k_new F S hAd (of_decide_eq_true hk2.1.2) (of_decide_eq_true hk2.2) (of_decide_eq_true hk2.1.1) hs
  case goto t =>
    have hk2 : (decide (0 ≤ t) && ab_dc (ab_BM mid) pc (.goto (t - (pc : Int))) 3) = true := hk
    rw [Bool.and_eq_true] at hk2
    exact ab_k_goto F (of_decide_eq_true hk2.1) (of_decide_eq_true hk2.2) hs
  case ifCond cc t =>
    have hk2 : (decide (0 ≤ t) && ab_dc (ab_BM mid) pc (.ifCond cc (t - (pc : Int))) 3) = true := hk
    rw [Bool.and_eq_true] at hk2
    exact ab_k_ifCond F (of_decide_eq_true hk2.1) (of_decide_eq_true hk2.2) hs
  case if_icmp cc t =>
    have hk2 : (decide (0 ≤ t) && ab_dc (ab_BM mid) pc (.if_icmp cc (t - (pc : Int))) 3) = true := hk
    rw [Bool.and_eq_true] at hk2
    exact ab_k_if_icmp F (of_decide_eq_true hk2.1) (of_decide_eq_true hk2.2) hs
  case tableswitch d lo hi offs =>
    have hk2 : (decide (0 ≤ d) && offs.toList.all (fun t => decide (0 ≤ t)) && ab_dc (ab_BM mid) pc (.tableswitch (d - (pc : Int)) lo hi (offs.toList.map (fun (t : Int) => t - (pc : Int))).toArray) x) = true := hk
    rw [Bool.and_eq_true, Bool.and_eq_true] at hk2
    exact ab_k_tableswitch F (of_decide_eq_true hk2.1.1) (fun t ht => of_decide_eq_true (List.all_eq_true.mp hk2.1.2 t ht)) (of_decide_eq_true hk2.2) hs
  case lookupswitch d ps =>
    have hk2 : (decide (0 ≤ d) && ps.toList.all (fun t => decide (0 ≤ t.2)) && (ps.toList.zip (ps.toList.drop 1)).all (fun (a, next) => a.1 < next.1) && ab_dc (ab_BM mid) pc (.lookupswitch (d - (pc : Int)) (ps.toList.map (fun (t : Int × Int) => (t.1, t.2 - (pc : Int)))).toArray) x) = true := hk
    rw [Bool.and_eq_true, Bool.and_eq_true, Bool.and_eq_true] at hk2
    exact ab_k_lookupswitch F (of_decide_eq_true hk2.1.1.1) (fun t ht => of_decide_eq_true (List.all_eq_true.mp hk2.1.1.2 t ht)) hk2.1.2 (of_decide_eq_true hk2.2) hs
  case invokespecial n =>
    have hk2 : (ab_dc (ab_BM mid) pc (.invokespecial x) 3 && ab_mw (ab_MR mid).1 n x q) = true := hk
    rw [Bool.and_eq_true] at hk2
    by_cases hn : n = 900
    · subst hn
      exact ab_k_objinit F hR (of_decide_eq_true hk2.1) hk2.2 hs
    · exact absurd (show ab_cal 2 mid n st h = some (.inl r) by rw [← hs]; exact (if_neg hn).symm) ab_cal_no
  case invokestatic n =>
    have hk2 : (ab_dc (ab_BM mid) pc (.invokestatic x) 3 && ab_mw (ab_MR mid).1 n x q) = true := hk
    rw [Bool.and_eq_true] at hk2
    have hs : ab_s_invokestatic n al mid pc L st h = some (.inl r) := hs
    unfold ab_s_invokestatic at hs
    by_cases h1 : n = 901
    · subst h1
      rw [if_pos rfl] at hs
      exact ab_k_arraycopy F S hR (of_decide_eq_true hk2.1) hk2.2 hs
    · rw [if_neg h1] at hs
      by_cases h2 : n = 902
      · subst h2
        rw [if_pos rfl] at hs
        exact ab_k_max F hR (of_decide_eq_true hk2.1) hk2.2 hs
      · rw [if_neg h2] at hs
        by_cases h3 : n = 903
        · subst h3
          rw [if_pos rfl] at hs
          exact ab_k_min F hR (of_decide_eq_true hk2.1) hk2.2 hs
        · rw [if_neg h3] at hs
          exact absurd hs ab_cal_no
  case invokevirtual n => exact absurd hs ab_cal_no
  case ireturn =>
    have hs : ab_s_ireturn al mid pc L st h = some (.inl r) := hs
    unfold ab_s_ireturn at hs
    split at hs
    · split at hs
      · cases hs
      · split at hs <;> cases hs
      · cases hs
    · cases hs
  case lreturn =>
    have hs : ab_s_lreturn al mid pc L st h = some (.inl r) := hs
    unfold ab_s_lreturn at hs
    split at hs
    · split at hs <;> cases hs
    · cases hs
  case return_ =>
    have hs : ab_s_return_ al mid pc L st h = some (.inl r) := hs
    unfold ab_s_return_ at hs
    split at hs
    · split at hs <;> cases hs
    · cases hs
  all_goals cases hs
end AbInstr6
