/-! an abstract machine over lists: it runs the resolved code; what it says is later shown of the machine itself -/
abbrev ab_H : Type := List (Nat × List Value)
/-- an index: none if it is negative -/
def ab_ix (i : Int32) : Option Nat := if i < 0 then none else some i.toNatClampNeg
abbrev ab_u : Value := .retAddr 0
/-- a store over the second half of a long takes the long away -/
noncomputable def ab_inv (L : List Value) : Nat → List Value
  | 0 => L
  | j + 1 => match ab_nth L j with
    | some (.long _) => ab_set L ab_u j
    | _ => L
noncomputable def ab_st1 (L : List Value) (k : Nat) (v : Value) : Option (List Value) := match ab_nth L k with
  | some _ => some (ab_set (ab_inv L k) v k)
  | none => none
noncomputable def ab_st2 (L : List Value) (k : Nat) (v : Value) : Option (List Value) := match ab_nth L (k + 1) with
  | some _ => some (ab_set (ab_set (ab_inv L k) v k) ab_u (k + 1))
  | none => none
/-- the static tables -/
def ab_ST : Nat → List Int32
  | 0 => [-9, 0, 0, 1, 0, 1, 2, 3, 0, 1, 1, 2, 3, 4, 5, 6, 7]
  | 1 => [-9, 0, 1, 0, 2, 1, 0, 0, 4, 2, 3, 1, 1, 0, 0, 0, 0]
  | _ => [1, 1, 2, 6, 24, 120]
abbrev ab_C : Type := Nat × List Value × List Value × ab_H
/-- what an instruction does: it goes on; it returns; it calls (method, its arguments, the stack that stays) -/
abbrev ab_R : Type := ab_C ⊕ (Option Value ⊕ (Nat × List Value × List Value))
noncomputable def ab_split : Nat → List Value → List Value → Option (List Value × List Value)
  | 0, acc, st => some (acc, st)
  | n + 1, acc, v :: st => ab_split n (v :: acc) st
  | _ + 1, _, [] => none
/-- how much of the stack a call leaves below -/
def ab_cat (st : List Value) : Nat := (st.map fun v => v.category).sum
/-- the locals with which a method begins -/
def ab_lv : List Value → List Value
  | [] => []
  | .long x :: vs => .long x :: ab_u :: ab_lv vs
  | .double x :: vs => .double x :: ab_u :: ab_lv vs
  | v :: vs => v :: ab_lv vs
/-- the receiver: an object of the method's class (of a constructor: some object) -/
noncomputable def ab_rcv (kd ci : Nat) (av : List Value) (h : ab_H) : Bool := match kd with
  | 1 => true
  | 0 => match av with
    | .ref a :: _ => match ab_nth h a with
      | some (t, _) => Nat.beq t ci && Nat.ble t 12
      | none => false
    | _ => false
  | _ => match av with
    | .ref _ :: _ => true
    | _ => false
/-- a call of a method out of another: its arguments; the room -/
noncomputable def ab_cal (kd : Nat) (mid n : Nat) (st : List Value) (h : ab_H) : Option ab_R := match ab_MR n with
  | (ci, k, na, ml, _, rf, rl) => match ab_MR mid with
    | (_, _, _, _, _, rf0, rl0) =>
      if k = kd ∧ n < 157 ∧ rf + 1 ≤ rf0 ∧ 19 + ml + rl ≤ rl0 then
        match ab_split (if kd = 1 then na else na + 1) [] st with
        | some (av, st') => if ab_cat st' ≤ 8 ∧ (ab_lv av).length ≤ ml ∧ ab_rcv kd ci av h = true then some (.inr (.inr (n, av, st'))) else none
        | none => none
      else none
def ab_zeros (n : Nat) (v : Value) : List Value := List.replicate n v
noncomputable def ab_rows (b n : Nat) : List Value := (List.range n).map fun i => .ref (b + 1 + i)
/-! one instruction: a function each -/
noncomputable def ab_s_aload_n (k : Fin 4) (al : Bool) (mid pc : Nat) (L st : List Value) (h : ab_H) : Option ab_R := match ab_nth L k.val with
  | some (.ref a) => some (.inl (pc + 1, L, .ref a :: st, h))
  | _ => none
noncomputable def ab_s_aload (k : Nat) (al : Bool) (mid pc : Nat) (L st : List Value) (h : ab_H) : Option ab_R := match ab_nth L k with
  | some (.ref a) => some (.inl (pc + 2, L, .ref a :: st, h))
  | _ => none
noncomputable def ab_s_iload_n (k : Fin 4) (al : Bool) (mid pc : Nat) (L st : List Value) (h : ab_H) : Option ab_R := match ab_nth L k.val with
  | some (.int a) => some (.inl (pc + 1, L, .int a :: st, h))
  | _ => none
noncomputable def ab_s_iload (k : Nat) (al : Bool) (mid pc : Nat) (L st : List Value) (h : ab_H) : Option ab_R := match ab_nth L k with
  | some (.int a) => some (.inl (pc + 2, L, .int a :: st, h))
  | _ => none
noncomputable def ab_s_lload_n (k : Fin 4) (al : Bool) (mid pc : Nat) (L st : List Value) (h : ab_H) : Option ab_R := match ab_nth L k.val with
  | some (.long a) => some (.inl (pc + 1, L, .long a :: st, h))
  | _ => none
noncomputable def ab_s_lload (k : Nat) (al : Bool) (mid pc : Nat) (L st : List Value) (h : ab_H) : Option ab_R := match ab_nth L k with
  | some (.long a) => some (.inl (pc + 2, L, .long a :: st, h))
  | _ => none
noncomputable def ab_s_istore_n (k : Fin 4) (al : Bool) (mid pc : Nat) (L st : List Value) (h : ab_H) : Option ab_R := match st with
  | .int x :: st => match ab_st1 L k.val (.int x) with
    | some L' => some (.inl (pc + 1, L', st, h))
    | none => none
  | _ => none
noncomputable def ab_s_istore (k : Nat) (al : Bool) (mid pc : Nat) (L st : List Value) (h : ab_H) : Option ab_R := match st with
  | .int x :: st => match ab_st1 L k (.int x) with
    | some L' => some (.inl (pc + 2, L', st, h))
    | none => none
  | _ => none
noncomputable def ab_s_astore_n (k : Fin 4) (al : Bool) (mid pc : Nat) (L st : List Value) (h : ab_H) : Option ab_R := match st with
  | .ref x :: st => match ab_st1 L k.val (.ref x) with
    | some L' => some (.inl (pc + 1, L', st, h))
    | none => none
  | _ => none
noncomputable def ab_s_lstore_n (k : Fin 4) (al : Bool) (mid pc : Nat) (L st : List Value) (h : ab_H) : Option ab_R := match st with
  | .long x :: st => match ab_st2 L k.val (.long x) with
    | some L' => some (.inl (pc + 1, L', st, h))
    | none => none
  | _ => none
noncomputable def ab_s_lstore (k : Nat) (al : Bool) (mid pc : Nat) (L st : List Value) (h : ab_H) : Option ab_R := match st with
  | .long x :: st => match ab_st2 L k (.long x) with
    | some L' => some (.inl (pc + 2, L', st, h))
    | none => none
  | _ => none
noncomputable def ab_s_iinc (k : Nat) (n : Int) (al : Bool) (mid pc : Nat) (L st : List Value) (h : ab_H) : Option ab_R := match ab_nth L k with
  | some (.int a) => match ab_st1 L k (.int (a + Int32.ofInt n)) with
    | some L' => some (.inl (pc + 3, L', st, h))
    | none => none
  | _ => none
noncomputable def ab_s_iconst (n : Int) (al : Bool) (mid pc : Nat) (L st : List Value) (h : ab_H) : Option ab_R := some (.inl (pc + 1, L, .int (Int32.ofInt n) :: st, h))
noncomputable def ab_s_bipush (n : Int) (al : Bool) (mid pc : Nat) (L st : List Value) (h : ab_H) : Option ab_R := some (.inl (pc + 2, L, .int (Int8.ofInt n).toInt32 :: st, h))
noncomputable def ab_s_sipush (n : Int) (al : Bool) (mid pc : Nat) (L st : List Value) (h : ab_H) : Option ab_R := some (.inl (pc + 3, L, .int (Int16.ofInt n).toInt32 :: st, h))
noncomputable def ab_s_lconst (n : Fin 2) (al : Bool) (mid pc : Nat) (L st : List Value) (h : ab_H) : Option ab_R := some (.inl (pc + 1, L, .long (Int64.ofNat n.val) :: st, h))
noncomputable def ab_s_ldc2_w (n : Nat) (al : Bool) (mid pc : Nat) (L st : List Value) (h : ab_H) : Option ab_R := match ab_nth ab_LK n with
  | some v => some (.inl (pc + 3, L, .long v :: st, h))
  | none => none
noncomputable def ab_s_getstatic (n : Nat) (al : Bool) (mid pc : Nat) (L st : List Value) (h : ab_H) : Option ab_R := if n < 3 then some (.inl (pc + 3, L, .ref (1000 + n) :: st, h)) else none
noncomputable def ab_s_getfield (n : Nat) (al : Bool) (mid pc : Nat) (L st : List Value) (h : ab_H) : Option ab_R := match st with
  | .ref a :: st => match ab_nth h a with
    | some (t, fs) => if t = n / 64 ∧ t < 13 then match ab_nth fs (n % 64) with
        | some v => some (.inl (pc + 3, L, v :: st, h))
        | none => none
      else none
    | none => none
  | _ => none
noncomputable def ab_s_putfield (n : Nat) (al : Bool) (mid pc : Nat) (L st : List Value) (h : ab_H) : Option ab_R := match st with
  | .int x :: .ref a :: st => match ab_nth h a with
    | some (t, fs) => if 4096 ≤ n ∧ t = (n - 4096) / 64 ∧ t < 13 then match ab_nth fs ((n - 4096) % 64) with
        | some _ => some (.inl (pc + 3, L, st, ab_set h (t, ab_set fs (.int x) ((n - 4096) % 64)) a))
        | none => none
      else none
    | none => none
  | .ref x :: .ref a :: st => match ab_nth h a with
    | some (t, fs) => if n < 4096 ∧ t = n / 64 ∧ t < 13 ∧ (ab_MR mid).1 = t ∧ (ab_MR mid).2.1 = 2 then match ab_nth fs (n % 64) with
        | some _ => some (.inl (pc + 3, L, st, ab_set h (t, ab_set fs (.ref x) (n % 64)) a))
        | none => none
      else none
    | none => none
  | _ => none
noncomputable def ab_s_iaload (al : Bool) (mid pc : Nat) (L st : List Value) (h : ab_H) : Option ab_R := match st with
  | .int i :: .ref a :: st => match ab_ix i with
    | some k => if a < 1000 then match ab_nth h a with
        | some (20, vs) => match ab_nth vs k with
          | some (.int x) => some (.inl (pc + 1, L, .int x :: st, h))
          | _ => none
        | _ => none
      else if a < 1003 then match ab_nth (ab_ST (a - 1000)) k with
        | some x => some (.inl (pc + 1, L, .int x :: st, h))
        | none => none
      else none
    | none => none
  | _ => none
noncomputable def ab_s_baload (al : Bool) (mid pc : Nat) (L st : List Value) (h : ab_H) : Option ab_R := match st with
  | .int i :: .ref a :: st => match ab_ix i with
    | some k => match ab_nth h a with
        | some (22, vs) => match ab_nth vs k with
          | some (.int x) => some (.inl (pc + 1, L, .int x :: st, h))
          | _ => none
        | _ => none
    | none => none
  | _ => none
noncomputable def ab_s_laload (al : Bool) (mid pc : Nat) (L st : List Value) (h : ab_H) : Option ab_R := match st with
  | .int i :: .ref a :: st => match ab_ix i with
    | some k => match ab_nth h a with
        | some (21, vs) => match ab_nth vs k with
          | some (.long x) => some (.inl (pc + 1, L, .long x :: st, h))
          | _ => none
        | _ => none
    | none => none
  | _ => none
noncomputable def ab_s_aaload (al : Bool) (mid pc : Nat) (L st : List Value) (h : ab_H) : Option ab_R := match st with
  | .int i :: .ref a :: st => match ab_ix i with
    | some k => match ab_nth h a with
        | some (t, vs) => if 23 ≤ t ∧ t ≤ 25 then match ab_nth vs k with
          | some (.ref x) => some (.inl (pc + 1, L, .ref x :: st, h))
          | _ => none
          else none
        | _ => none
    | none => none
  | _ => none
noncomputable def ab_s_iastore (al : Bool) (mid pc : Nat) (L st : List Value) (h : ab_H) : Option ab_R := match st with
  | .int x :: .int i :: .ref a :: st => match ab_ix i with
    | some k => match ab_nth h a with
        | some (20, vs) => match ab_nth vs k with
          | some _ => some (.inl (pc + 1, L, st, ab_set h (20, ab_set vs (.int x) k) a))
          | none => none
        | _ => none
    | none => none
  | _ => none
noncomputable def ab_s_bastore (al : Bool) (mid pc : Nat) (L st : List Value) (h : ab_H) : Option ab_R := match st with
  | .int x :: .int i :: .ref a :: st => match ab_ix i with
    | some k => match ab_nth h a with
        | some (22, vs) => if x = 0 ∨ x = 1 then match ab_nth vs k with
          | some _ => some (.inl (pc + 1, L, st, ab_set h (22, ab_set vs (.int x) k) a))
          | none => none
          else none
        | _ => none
    | none => none
  | _ => none
noncomputable def ab_s_lastore (al : Bool) (mid pc : Nat) (L st : List Value) (h : ab_H) : Option ab_R := match st with
  | .long x :: .int i :: .ref a :: st => match ab_ix i with
    | some k => match ab_nth h a with
        | some (21, vs) => match ab_nth vs k with
          | some _ => some (.inl (pc + 1, L, st, ab_set h (21, ab_set vs (.long x) k) a))
          | none => none
        | _ => none
    | none => none
  | _ => none
noncomputable def ab_s_aastore (al : Bool) (mid pc : Nat) (L st : List Value) (h : ab_H) : Option ab_R := match st with
  | .ref x :: .int i :: .ref a :: st => match ab_ix i with
    | some k => match ab_nth h a with
        | some (25, vs) => match ab_nth h x with
          | some (4, _) => match ab_nth vs k with
            | some _ => some (.inl (pc + 1, L, st, ab_set h (25, ab_set vs (.ref x) k) a))
            | none => none
          | _ => none
        | _ => none
    | none => none
  | _ => none
noncomputable def ab_s_arraylength (al : Bool) (mid pc : Nat) (L st : List Value) (h : ab_H) : Option ab_R := match st with
  | .ref a :: st => match ab_nth h a with
    | some (t, vs) => if 20 ≤ t ∧ t ≤ 22 then some (.inl (pc + 1, L, .int (Int32.ofNat vs.length) :: st, h)) else none
    | none => none
  | _ => none
noncomputable def ab_s_newarray (ty : ArrayType) (al : Bool) (mid pc : Nat) (L st : List Value) (h : ab_H) : Option ab_R := match st with
  | .int n :: st => match ab_ix n with
    | some k => if al = true ∧ k ≤ 2000 ∧ 0 < h.length ∧ h.length < 900 then match ty with
        | .int => some (.inl (pc + 2, L, .ref h.length :: st, h ++ [(20, ab_zeros k (.int 0))]))
        | .long => some (.inl (pc + 2, L, .ref h.length :: st, h ++ [(21, ab_zeros k (.long 0))]))
        | .boolean => some (.inl (pc + 2, L, .ref h.length :: st, h ++ [(22, ab_zeros k (.int 0))]))
        | _ => none
      else none
    | none => none
  | _ => none
noncomputable def ab_s_anewarray (t : Nat) (al : Bool) (mid pc : Nat) (L st : List Value) (h : ab_H) : Option ab_R := match st with
  | .int n :: st => match ab_ix n with
    | some k => if al = true ∧ k ≤ 2000 ∧ 0 < h.length ∧ h.length < 900 ∧ t = 25 then some (.inl (pc + 3, L, .ref h.length :: st, h ++ [(25, ab_zeros k .null)])) else none
    | none => none
  | _ => none
noncomputable def ab_s_multianewarray (t d : Nat) (al : Bool) (mid pc : Nat) (L st : List Value) (h : ab_H) : Option ab_R := match st with
  | .int k :: .int n :: st => match ab_ix k with
    | some k => match ab_ix n with
      | some n => if al = true ∧ k ≤ 2000 ∧ 0 < h.length ∧ h.length + n < 900 ∧ d = 2 then
          if t = 23 then some (.inl (pc + 4, L, .ref h.length :: st, h ++ (23, ab_rows h.length n) :: List.replicate n (20, ab_zeros k (.int 0))))
          else if t = 24 then some (.inl (pc + 4, L, .ref h.length :: st, h ++ (24, ab_rows h.length n) :: List.replicate n (21, ab_zeros k (.long 0))))
          else none
        else none
      | none => none
    | none => none
  | _ => none
noncomputable def ab_s_new (ci : Nat) (al : Bool) (mid pc : Nat) (L st : List Value) (h : ab_H) : Option ab_R := if al = true ∧ 0 < h.length ∧ h.length < 900 then match ab_nth ab_DF ci with
    | some fs => some (.inl (pc + 3, L, .ref h.length :: st, h ++ [(ci, fs)]))
    | none => none
  else none
noncomputable def ab_s_dup (al : Bool) (mid pc : Nat) (L st : List Value) (h : ab_H) : Option ab_R := match st with
  | v :: st => if v.category = 1 then some (.inl (pc + 1, L, v :: v :: st, h)) else none
  | _ => none
noncomputable def ab_s_dup2 (al : Bool) (mid pc : Nat) (L st : List Value) (h : ab_H) : Option ab_R := match st with
  | .long x :: st => some (.inl (pc + 1, L, .long x :: .long x :: st, h))
  | .int x :: .ref a :: st => some (.inl (pc + 1, L, .int x :: .ref a :: .int x :: .ref a :: st, h))
  | _ => none
noncomputable def ab_s_pop (al : Bool) (mid pc : Nat) (L st : List Value) (h : ab_H) : Option ab_R := match st with
  | .int _ :: st => some (.inl (pc + 1, L, st, h))
  | _ => none
noncomputable def ab_s_iadd (al : Bool) (mid pc : Nat) (L st : List Value) (h : ab_H) : Option ab_R := match st with
  | .int y :: .int x :: st => some (.inl (pc + 1, L, .int (x + y) :: st, h))
  | _ => none
noncomputable def ab_s_isub (al : Bool) (mid pc : Nat) (L st : List Value) (h : ab_H) : Option ab_R := match st with
  | .int y :: .int x :: st => some (.inl (pc + 1, L, .int (x - y) :: st, h))
  | _ => none
noncomputable def ab_s_imul (al : Bool) (mid pc : Nat) (L st : List Value) (h : ab_H) : Option ab_R := match st with
  | .int y :: .int x :: st => some (.inl (pc + 1, L, .int (x * y) :: st, h))
  | _ => none
noncomputable def ab_s_idiv (al : Bool) (mid pc : Nat) (L st : List Value) (h : ab_H) : Option ab_R := match st with
  | .int y :: .int x :: st => if y = 0 then none else some (.inl (pc + 1, L, .int (x / y) :: st, h))
  | _ => none
noncomputable def ab_s_irem (al : Bool) (mid pc : Nat) (L st : List Value) (h : ab_H) : Option ab_R := match st with
  | .int y :: .int x :: st => if y = 0 then none else some (.inl (pc + 1, L, .int (x - x / y * y) :: st, h))
  | _ => none
noncomputable def ab_s_ineg (al : Bool) (mid pc : Nat) (L st : List Value) (h : ab_H) : Option ab_R := match st with
  | .int x :: st => some (.inl (pc + 1, L, .int (-x) :: st, h))
  | _ => none
noncomputable def ab_s_ior (al : Bool) (mid pc : Nat) (L st : List Value) (h : ab_H) : Option ab_R := match st with
  | .int y :: .int x :: st => some (.inl (pc + 1, L, .int (x ||| y) :: st, h))
  | _ => none
noncomputable def ab_s_ishl (al : Bool) (mid pc : Nat) (L st : List Value) (h : ab_H) : Option ab_R := match st with
  | .int y :: .int x :: st => some (.inl (pc + 1, L, .int (x <<< (y &&& 31)) :: st, h))
  | _ => none
noncomputable def ab_s_ladd (al : Bool) (mid pc : Nat) (L st : List Value) (h : ab_H) : Option ab_R := match st with
  | .long y :: .long x :: st => some (.inl (pc + 1, L, .long (x + y) :: st, h))
  | _ => none
noncomputable def ab_s_lmul (al : Bool) (mid pc : Nat) (L st : List Value) (h : ab_H) : Option ab_R := match st with
  | .long y :: .long x :: st => some (.inl (pc + 1, L, .long (x * y) :: st, h))
  | _ => none
noncomputable def ab_s_ldiv (al : Bool) (mid pc : Nat) (L st : List Value) (h : ab_H) : Option ab_R := match st with
  | .long y :: .long x :: st => if y = 0 then none else some (.inl (pc + 1, L, .long (x / y) :: st, h))
  | _ => none
noncomputable def ab_s_lneg (al : Bool) (mid pc : Nat) (L st : List Value) (h : ab_H) : Option ab_R := match st with
  | .long x :: st => some (.inl (pc + 1, L, .long (-x) :: st, h))
  | _ => none
noncomputable def ab_s_lcmp (al : Bool) (mid pc : Nat) (L st : List Value) (h : ab_H) : Option ab_R := match st with
  | .long y :: .long x :: st => some (.inl (pc + 1, L, .int (lg_cmp x y) :: st, h))
  | _ => none
noncomputable def ab_s_i2l (al : Bool) (mid pc : Nat) (L st : List Value) (h : ab_H) : Option ab_R := match st with
  | .int x :: st => some (.inl (pc + 1, L, .long x.toInt64 :: st, h))
  | _ => none
noncomputable def ab_s_goto (t : Int) (al : Bool) (mid pc : Nat) (L st : List Value) (h : ab_H) : Option ab_R := some (.inl (t.toNat, L, st, h))
noncomputable def ab_s_ifCond (c : ClassFile.Cond) (t : Int) (al : Bool) (mid pc : Nat) (L st : List Value) (h : ab_H) : Option ab_R := match st with
  | .int x :: st => match c with
    | .eq => some (.inl (if x = 0 then t.toNat else pc + 3, L, st, h))
    | .ne => some (.inl (if x = 0 then pc + 3 else t.toNat, L, st, h))
    | .lt => some (.inl (if x < 0 then t.toNat else pc + 3, L, st, h))
    | .ge => some (.inl (if 0 ≤ x then t.toNat else pc + 3, L, st, h))
    | .gt => some (.inl (if 0 < x then t.toNat else pc + 3, L, st, h))
    | .le => some (.inl (if x ≤ 0 then t.toNat else pc + 3, L, st, h))
  | _ => none
noncomputable def ab_s_if_icmp (c : ClassFile.Cond) (t : Int) (al : Bool) (mid pc : Nat) (L st : List Value) (h : ab_H) : Option ab_R := match st with
  | .int y :: .int x :: st => match c with
    | .eq => some (.inl (if x = y then t.toNat else pc + 3, L, st, h))
    | .ne => some (.inl (if x = y then pc + 3 else t.toNat, L, st, h))
    | .lt => some (.inl (if x < y then t.toNat else pc + 3, L, st, h))
    | .ge => some (.inl (if y ≤ x then t.toNat else pc + 3, L, st, h))
    | .gt => some (.inl (if y < x then t.toNat else pc + 3, L, st, h))
    | .le => some (.inl (if x ≤ y then t.toNat else pc + 3, L, st, h))
  | _ => none
noncomputable def ab_s_tableswitch (d lo hi : Int) (offs : Array Int) (al : Bool) (mid pc : Nat) (L st : List Value) (h : ab_H) : Option ab_R := match st with
  | .int x :: st => if x.toInt < lo ∨ hi < x.toInt then some (.inl (d.toNat, L, st, h)) else match offs.toList[(x.toInt - lo).toNat]? with
    | some t => some (.inl (t.toNat, L, st, h))
    | none => none
  | _ => none
noncomputable def ab_s_lookupswitch (d : Int) (ps : Array (Int × Int)) (al : Bool) (mid pc : Nat) (L st : List Value) (h : ab_H) : Option ab_R := match st with
  | .int x :: st => some (.inl ((Op.lookupswitch.offset ps.toList d x.toInt).toNat, L, st, h))
  | _ => none
noncomputable def ab_s_ireturn (al : Bool) (mid pc : Nat) (L st : List Value) (h : ab_H) : Option ab_R := match st with
  | [.int x] => match (ab_MR mid).2.2.2.2.1 with
    | 1 => some (.inr (.inl (some (.int x))))
    | 2 => if x = 0 ∨ x = 1 then some (.inr (.inl (some (.int x)))) else none
    | _ => none
  | _ => none
noncomputable def ab_s_lreturn (al : Bool) (mid pc : Nat) (L st : List Value) (h : ab_H) : Option ab_R := match st with
  | [.long x] => if (ab_MR mid).2.2.2.2.1 = 3 then some (.inr (.inl (some (.long x)))) else none
  | _ => none
noncomputable def ab_s_return_ (al : Bool) (mid pc : Nat) (L st : List Value) (h : ab_H) : Option ab_R := match st with
  | [] => if (ab_MR mid).2.2.2.2.1 = 0 then some (.inr (.inl none)) else none
  | _ => none
noncomputable def ab_s_invokevirtual (n : Nat) (al : Bool) (mid pc : Nat) (L st : List Value) (h : ab_H) : Option ab_R := ab_cal 0 mid n st h
noncomputable def ab_s_invokespecial (n : Nat) (al : Bool) (mid pc : Nat) (L st : List Value) (h : ab_H) : Option ab_R := if n = 900 then match st with
    | .ref a :: st => if ab_cat st ≤ 8 ∧ 1 ≤ (ab_MR mid).2.2.2.2.2.1 ∧ 20 ≤ (ab_MR mid).2.2.2.2.2.2 then some (.inl (pc + 3, L, st, h)) else none
    | _ => none
  else ab_cal 2 mid n st h
noncomputable def ab_s_arraycopy (mid pc : Nat) (L st : List Value) (h : ab_H) : Option ab_R := match st with
  | .int c :: .int dp :: .ref a :: .int sp :: .ref a0 :: st => match ab_nth h a0 with
    | some (t, vs) => match ab_nth h a with
      | some (t', ws) => if t = t' ∧ (t = 20 ∨ t = 21) ∧ sp = 0 ∧ dp = 0 ∧ ab_ix c = some vs.length ∧ ws.length = vs.length ∧ ab_cat st ≤ 8 ∧ 1 ≤ (ab_MR mid).2.2.2.2.2.1 ∧ 26 ≤ (ab_MR mid).2.2.2.2.2.2 then some (.inl (pc + 3, L, st, ab_set h (t, vs) a)) else none
      | none => none
    | none => none
  | _ => none
noncomputable def ab_s_max (mid pc : Nat) (L st : List Value) (h : ab_H) : Option ab_R := match st with
  | .int y :: .int x :: st => if ab_cat st ≤ 8 ∧ 1 ≤ (ab_MR mid).2.2.2.2.2.1 ∧ 21 ≤ (ab_MR mid).2.2.2.2.2.2 then some (.inl (pc + 3, L, .int (if x < y then y else x) :: st, h)) else none
  | _ => none
noncomputable def ab_s_min (mid pc : Nat) (L st : List Value) (h : ab_H) : Option ab_R := match st with
  | .int y :: .int x :: st => if ab_cat st ≤ 8 ∧ 1 ≤ (ab_MR mid).2.2.2.2.2.1 ∧ 21 ≤ (ab_MR mid).2.2.2.2.2.2 then some (.inl (pc + 3, L, .int (if y < x then y else x) :: st, h)) else none
  | _ => none
noncomputable def ab_s_invokestatic (n : Nat) (al : Bool) (mid pc : Nat) (L st : List Value) (h : ab_H) : Option ab_R :=
  if n = 901 then ab_s_arraycopy mid pc L st h else if n = 902 then ab_s_max mid pc L st h else if n = 903 then ab_s_min mid pc L st h else ab_cal 1 mid n st h
/-- one instruction -/
noncomputable def ab_stp (i : Instr) : Bool → Nat → Nat → List Value → List Value → ab_H → Option ab_R := match i with
  | .aload_n k => ab_s_aload_n k
  | .aload k => ab_s_aload k
  | .iload_n k => ab_s_iload_n k
  | .iload k => ab_s_iload k
  | .lload_n k => ab_s_lload_n k
  | .lload k => ab_s_lload k
  | .istore_n k => ab_s_istore_n k
  | .istore k => ab_s_istore k
  | .astore_n k => ab_s_astore_n k
  | .lstore_n k => ab_s_lstore_n k
  | .lstore k => ab_s_lstore k
  | .iinc k n => ab_s_iinc k n
  | .iconst n => ab_s_iconst n
  | .bipush n => ab_s_bipush n
  | .sipush n => ab_s_sipush n
  | .lconst n => ab_s_lconst n
  | .ldc2_w n => ab_s_ldc2_w n
  | .getstatic n => ab_s_getstatic n
  | .getfield n => ab_s_getfield n
  | .putfield n => ab_s_putfield n
  | .iaload => ab_s_iaload
  | .baload => ab_s_baload
  | .laload => ab_s_laload
  | .aaload => ab_s_aaload
  | .iastore => ab_s_iastore
  | .bastore => ab_s_bastore
  | .lastore => ab_s_lastore
  | .aastore => ab_s_aastore
  | .arraylength => ab_s_arraylength
  | .newarray ty => ab_s_newarray ty
  | .anewarray t => ab_s_anewarray t
  | .multianewarray t d => ab_s_multianewarray t d
  | .new ci => ab_s_new ci
  | .dup => ab_s_dup
  | .dup2 => ab_s_dup2
  | .pop => ab_s_pop
  | .iadd => ab_s_iadd
  | .isub => ab_s_isub
  | .imul => ab_s_imul
  | .idiv => ab_s_idiv
  | .irem => ab_s_irem
  | .ineg => ab_s_ineg
  | .ior => ab_s_ior
  | .ishl => ab_s_ishl
  | .ladd => ab_s_ladd
  | .lmul => ab_s_lmul
  | .ldiv => ab_s_ldiv
  | .lneg => ab_s_lneg
  | .lcmp => ab_s_lcmp
  | .i2l => ab_s_i2l
  | .goto t => ab_s_goto t
  | .ifCond c t => ab_s_ifCond c t
  | .if_icmp c t => ab_s_if_icmp c t
  | .tableswitch d lo hi offs => ab_s_tableswitch d lo hi offs
  | .lookupswitch d ps => ab_s_lookupswitch d ps
  | .ireturn => ab_s_ireturn
  | .lreturn => ab_s_lreturn
  | .return_ => ab_s_return_
  | .invokevirtual n => ab_s_invokevirtual n
  | .invokespecial n => ab_s_invokespecial n
  | .invokestatic n => ab_s_invokestatic n
  | _ => fun _ _ _ _ _ _ => none
def ab_ent (ml : Nat) (av : List Value) : List Value := ab_lv av ++ List.replicate (ml - (ab_lv av).length) ab_u
noncomputable def ab_exec (al : Bool) : Nat → Nat → ab_CD → Nat → List Value → List Value → ab_H → Option (Option Value × ab_H)
  | 0, _, _, _, _, _, _ => none
  | n + 1, mid, cd, pc, L, st, h => match ab_ft cd pc with
    | none => none
    | some (i, _, _) => match ab_stp i al mid pc L st h with
      | none => none
      | some (.inl (pc', L', st', h')) => ab_exec al n mid cd pc' L' st' h'
      | some (.inr (.inl r)) => some (r, h)
      | some (.inr (.inr (mid', av, st'))) => match ab_exec al n mid' (ab_CM mid') 0 (ab_ent (ab_MR mid').2.2.2.1 av) [] h with
        | some (rv, h') => ab_exec al n mid cd (pc + 3) L (rv.toList ++ st') h'
        | none => none
