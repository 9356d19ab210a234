/-! the code and the links of the tables, held against the machine's own bytes and words -/
def ab_RC (k : Nat) : String := ab_RL.getD k ""
def ab_BM (mid : Nat) : ByteArray := ab_BL.getD mid ByteArray.empty
def ab_YM (n : Nat) : MethodName := if n = 900 then objectInit else if n = 901 then arraycopyName else if n = 902 then Lib.Math.max.name else if n = 903 then Lib.Math.min.name else ab_YL.getD n objectInit
def ab_TG : List Cond := lw_tbl.filter goodWord
def ab_RT : Nat → Option FieldType
  | 1 => some .int
  | 2 => some .boolean
  | 3 => some .long
  | _ => none
def ab_fi (n : Nat) : String × String × Bool := match ab_cl[n / 64]? with
  | some q => if n % 64 < q.2.2 then ((q.2.1 (n % 64)).2.1, (q.2.1 (n % 64)).2.2.1, (q.2.1 (n % 64)).2.2.2) else ("", "", false)
  | none => ("", "", false)
def ab_fw (own n x p : Nat) : Bool := decide (n / 64 < 13) && decide (lw_tbl[p]? = some (.fieldLink (ab_RC own) x (ab_RC (n / 64)) (ab_fi n).1 (ab_fi n).2.1)) && !((ab_fi n).1 == "")
def ab_refd (d : String) : Bool := match parseFieldDescriptor d with
  | some (.object _) => true
  | some (.array _) => true
  | _ => false
def ab_dc (b : ByteArray) (pc : Nat) (i : Instr) (len : Nat) : Bool := decide (decode b pc = .ok (i, len))
/-- the link of a call: an ordinary one, or a nest mate's -/
def ab_mw (own n x p : Nat) : Bool := decide (lw_tbl[p]? = some (.methodLink (ab_RC own) x (ab_YM n))) || decide (Cond.methodLinkNest (ab_RC own) x (ab_YM n) RX11 ∈ ab_NW)
def ab_ok (own : Nat) (b : ByteArray) (pc : Nat) (e : ab_E) : Bool := match e with
  | (.nop, _, _) => true
  | (.getfield n, x, p) => ab_dc b pc (.getfield x) 3 && ab_fw own n x p
  | (.putfield n, x, p) => ab_dc b pc (.putfield x) 3 && (if 4096 ≤ n then ab_fw own (n - 4096) x p && ((ab_fi (n - 4096)).2.1 == "I") && !(ab_fi (n - 4096)).2.2 else ab_fw own n x p && ab_refd (ab_fi n).2.1 && (ab_fi n).2.2)
  | (.getstatic n, x, p) => ab_dc b pc (.getstatic x) 3 && decide (lw_tbl[p]? = some (.fieldLink (ab_RC own) x RX9 (ab_sn n) "[I"))
  | (.invokevirtual n, x, p) => ab_dc b pc (.invokevirtual x) 3 && decide (lw_tbl[p]? = some (.methodLink (ab_RC own) x (ab_YM n)))
  | (.invokespecial n, x, p) => ab_dc b pc (.invokespecial x) 3 && ab_mw own n x p
  | (.invokestatic n, x, p) => ab_dc b pc (.invokestatic x) 3 && ab_mw own n x p
  | (.ldc2_w n, x, p) => ab_dc b pc (.ldc2_w x) 3 && decide (lw_tbl[p]? = some (.constantLong (ab_RC own) x (ab_LK.getD n 0)))
  | (.new n, x, p) => ab_dc b pc (.new x) 3 && decide (n < 13) && decide (lw_tbl[p]? = some (.classLink (ab_RC own) x (ab_RC n)))
  | (.anewarray _, x, p) => ab_dc b pc (.anewarray x) 3 && decide (lw_tbl[p]? = some (.classLink (ab_RC own) x "RootedCuts$State"))
  | (.multianewarray n _, x, p) => ab_dc b pc (.multianewarray x 2) 4 && decide (lw_tbl[p]? = some (.classLink (ab_RC own) x (if n = 23 then "[[I" else "[[J")))
  | (.goto t, _, _) => decide (0 ≤ t) && ab_dc b pc (.goto (t - pc)) 3
  | (.ifCond c t, _, _) => decide (0 ≤ t) && ab_dc b pc (.ifCond c (t - pc)) 3
  | (.if_icmp c t, _, _) => decide (0 ≤ t) && ab_dc b pc (.if_icmp c (t - pc)) 3
  | (.tableswitch d lo hi offs, x, _) => decide (0 ≤ d) && offs.toList.all (fun t => decide (0 ≤ t)) && ab_dc b pc (.tableswitch (d - pc) lo hi (offs.toList.map (fun (t : Int) => t - (pc : Int))).toArray) x
  | (.lookupswitch d ps, x, _) => decide (0 ≤ d) && ps.toList.all (fun t => decide (0 ≤ t.2)) && (ps.toList.zip (ps.toList.drop 1)).all (fun (a, next) => a.1 < next.1) && ab_dc b pc (.lookupswitch (d - pc) (ps.toList.map (fun (t : Int × Int) => (t.1, t.2 - (pc : Int)))).toArray) x
  | (.newarray a, _, _) => ab_dc b pc (.newarray a) 2
  | (.bipush n, _, _) => ab_dc b pc (.bipush n) 2
  | (.sipush n, _, _) => ab_dc b pc (.sipush n) 3
  | (.iinc k n, _, _) => ab_dc b pc (.iinc k n) 3
  | (.iload k, _, _) => ab_dc b pc (.iload k) 2
  | (.aload k, _, _) => ab_dc b pc (.aload k) 2
  | (.lload k, _, _) => ab_dc b pc (.lload k) 2
  | (.istore k, _, _) => ab_dc b pc (.istore k) 2
  | (.lstore k, _, _) => ab_dc b pc (.lstore k) 2
  | (i, _, _) => ab_dc b pc i 1
def ab_okr (own : Nat) (b : ByteArray) : Nat → List ab_E → Bool
  | _, [] => true
  | pc, e :: l => ab_ok own b pc e && ab_okr own b (pc + 1) l
def ab_oka (own : Nat) (b : ByteArray) : Nat → ab_CD → Bool
  | _, [] => true
  | k, r :: l => ab_okr own b (16 * k) r && ab_oka own b (k + 1) l
theorem ab_okr_get {own : Nat} {b : ByteArray} : ∀ {l : List ab_E} {pc j : Nat} {e : ab_E}, ab_okr own b pc l = true → l[j]? = some e → ab_ok own b (pc + j) e = true
  | [], _, _, _, _, h => by simp at h
  | a :: l, pc, 0, e, h, hj => by
    simp only [ab_okr, Bool.and_eq_true] at h
    simp at hj
    rw [← hj]; exact h.1
  | a :: l, pc, j + 1, e, h, hj => by
    simp only [ab_okr, Bool.and_eq_true] at h
    simp at hj
    have := ab_okr_get h.2 hj
    rw [show pc + (j + 1) = pc + 1 + j by omega]; exact this
theorem ab_oka_get {own : Nat} {b : ByteArray} : ∀ {cd : ab_CD} {k i : Nat} {r : List ab_E}, ab_oka own b k cd = true → cd[i]? = some r → ab_okr own b (16 * (k + i)) r = true
  | [], _, _, _, _, h => by simp at h
  | a :: l, k, 0, e, h, hj => by
    simp only [ab_oka, Bool.and_eq_true] at h
    simp at hj
    rw [← hj]; exact h.1
  | a :: l, k, i + 1, e, h, hj => by
    simp only [ab_oka, Bool.and_eq_true] at h
    simp at hj
    have := ab_oka_get h.2 hj
    rw [show k + (i + 1) = k + 1 + i by omega]; exact this
theorem ab_ft_ok {own : Nat} {b : ByteArray} {cd : ab_CD} {pc : Nat} {e : ab_E} (h : ab_oka own b 0 cd = true) (hf : ab_ft cd pc = some e) : ab_ok own b pc e = true := by
  unfold ab_ft at hf
  rw [ab_nth_eq] at hf
  split at hf
  · rename_i r hr
    rw [ab_nth_eq] at hf
    have h1 := ab_okr_get (ab_oka_get h hr) hf
    rw [show 16 * (0 + pc / 16) + pc % 16 = pc by omega] at h1
    exact h1
  · cases hf
