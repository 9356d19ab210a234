/-! THE CLAIM OUT OF ONE WALK OF THE LAW'S BODY. Your part is whole_start (and what it stands on); all else here is the same for every law, but numbers. -/
def R_law : String := "RootedCutsLaw"
def lw_P (b : Addr) (xs : List Int32) (args : Array Value) (s : State) : Prop := args = #[.ref b] ∧ s.IntsAt b xs ∧ xs.length ≤ 2048 ∧ (Jvm.Cond.and given_1 narrow_1).before args s = true
def lw_Q (_ : Array Value) (s : State) (o : Outcome) (t : State) : Prop := o = .returned (some (.int 1)) ∧ Framed s o t [] 600000 7302250
def lw_Z (below : List Frame) (a : Array Value) (s : State) : State → Prop := fun t => ∃ o, t.status = .running ∧ Ended t below o ∧ lw_Q a s o t
/-- the law's own end, with 1 on the stack, nothing written that was there before, its room as the claim has it -/
theorem lw_ret {p : Program} {l : Launch} {e : Env} {s : State} {m : MethodId} {below : List Frame} {meth : Method} {c : Code} {b : Nat} (hx : p.tables.exec = Jvm.exec) (hb : c.code = code) (hr : meth.sig.returnType = ret) (hlocks : meth.locks = false) {pc : Nat} {H : Heap} {ls : Array Slot} (hdg : decode code pc = .ok (.ireturn, 1)) : W p l e room_1 s m #[Value.ref b] below meth c H [] 600000 7302250 (lw_Z below #[Value.ref b] s) (F0 m pc ls [.int 1]) := by
  intro T hT X
  obtain ⟨fs, hret, hrun, hended, hW, hframe⟩ := X.leave (v := some (.int 1)) (hlocks := hlocks) (fun h => by rw [hr] at h; cases h)
  have hmeth' : T.vm.method? m = some meth := X.method'
  refine ⟨T.setFrames fs, ?_, .returned (some (.int 1)), hrun, hended, rfl, ⟨_, rfl⟩, hW, hframe⟩
  jvm_step X.here [X.here.top, hx, hb, hdg, hmeth', hr, ret, narrow_b1]
  (try refine ⟨rfl, ?_⟩); (try refine ⟨rfl, ?_⟩)
  first | (intro acts; rw [hret _ acts rfl rfl rfl]) | rw [hret _ _ rfl rfl rfl]
  exact Steps.refl _
/-- what holds at the law's entry: the machine, the code, the tables' words (any of lw_tbl by 'hts w (by decide +kernel)'), the script of L ints xs at the cell b, what the Statement gives of the start (any of its parts by flat_of_before) -/
def lw_At (p : Program) (s : State) (m : MethodId) (meth : Method) (c : Code) (b L : Nat) (xs : Nat → Int32) : Prop :=
  p.tables.exec = Jvm.exec ∧ c.code = code ∧ meth.sig.returnType = ret ∧ c.maxLocals = 4 ∧ s.vm.findClass R_law = some m.cls ∧ (∀ w ∈ lw_tbl, w.before #[Value.ref b] s = true) ∧ va_X b L xs s s.heap ∧ b < s.heap.size ∧ meth.locks = false ∧ (Jvm.Cond.and given_1 narrow_1).before #[Value.ref b] s = true
/-! classes, arrays, static tables, at the law's entry -/
theorem lw_D {s : State} {args : Array Value} (hTG : ∀ w ∈ ab_TG, w.before args s = true) : ∃ D : va_G, ∀ (k : Nat) (q : vw_C), ab_cl[k]? = some q → u_Kn s q.1 q.2.1 q.2.2 (D.1 k) (D.2 k) := by
  have h : ∀ k : Nat, ∃ (cC : ClassId) (iS : Nat → Nat), ∀ q : vw_C, ab_cl[k]? = some q → u_Kn s q.1 q.2.1 q.2.2 cC iS := by
    intro k
    cases hk : ab_cl[k]? with
    | none => exact ⟨0, fun _ => 0, fun q h => by cases h⟩
    | some q =>
      obtain ⟨C, T, N⟩ := q
      obtain ⟨ty, hp⟩ := ab_cp hk
      obtain ⟨cC, iS, h1⟩ := u_known (C := C) (T := T) (N := N) hTG hp.1 (hTG _ hp.2.2.2.2.2.1)
      exact ⟨cC, iS, fun q h => by cases h; exact h1⟩
  exact ⟨(fun k => Classical.choose (h k), fun k => Classical.choose (Classical.choose_spec (h k))), fun k q hq => Classical.choose_spec (Classical.choose_spec (h k)) q hq⟩
def lw_aCf (c0 c1 c2 c3 c4 c5 : ClassId) : Nat → ClassId := fun k => match k with
  | 0 => c0
  | 1 => c1
  | 2 => c2
  | 3 => c3
  | 4 => c4
  | _ => c5
theorem lw_tk {w : Cond} {args : Array Value} {s : State} (hts : ∀ w ∈ lw_tbl, w.before args s = true) {i : Nat} (h : lw_tbl[i]? = some w) : w.before args s = true := hts w (List.mem_of_getElem? h)
theorem lw_aC {s : State} {args : Array Value} (hts : ∀ w ∈ lw_tbl, w.before args s = true) : ∃ aC : Nat → ClassId, (∀ (k : Nat) (q : ClassId × FieldType), (ab_tys aC)[k]? = some q → ArrOfT s q.1 q.2 ∧ va_RA s q.1 q.2) ∧
    (s.vm.findClass "[I" = some (aC 0) ∧ s.vm.findClass "[J" = some (aC 1) ∧ s.vm.findClass "[Z" = some (aC 2) ∧ s.vm.findClass "[[I" = some (aC 3) ∧ s.vm.findClass "[[J" = some (aC 4) ∧ s.vm.findClass "[LRootedCuts$State;" = some (aC 5)) := by
  obtain ⟨c0, k0, p0, f0, g0, e0⟩ := Cond.arrayClass_spec (lw_tk hts (w := .arrayClass .int) (i := 151) (by decide +kernel))
  obtain ⟨c1, k1, p1, f1, g1, e1⟩ := Cond.arrayClass_spec (lw_tk hts (w := .arrayClass .long) (i := 152) (by decide +kernel))
  obtain ⟨c2, k2, p2, f2, g2, e2⟩ := Cond.arrayClass_spec (lw_tk hts (w := .arrayClass .boolean) (i := 372) (by decide +kernel))
  obtain ⟨p3, c3, k3, f3', g3, e3, f3⟩ := Cond.arrayOver_specA (lw_tk hts (w := .arrayOver (.array .int)) (i := 78) (by decide +kernel))
  obtain ⟨p4, c4, k4, f4', g4, e4, f4⟩ := Cond.arrayOver_specA (lw_tk hts (w := .arrayOver (.array .long)) (i := 204) (by decide +kernel))
  obtain ⟨p5, c5, k5, f5', -, g5, e5, f5⟩ := Cond.arrayOver_spec (lw_tk hts (w := .arrayOver (.object "RootedCuts$State")) (i := 342) (by decide +kernel))
  refine ⟨lw_aCf c0 c1 c2 c3 c4 c5, fun k q hq => ?_, f0, f1, f2, f3, f4, f5⟩
  match k, hq with
  | 0, hq => cases hq; exact ⟨fun N z => ⟨(fun k h => by cases h), k0, g0, p0, e0⟩, f0⟩
  | 1, hq => cases hq; exact ⟨fun N z => ⟨(fun k h => by cases h), k1, g1, p1, e1⟩, f1⟩
  | 2, hq => cases hq; exact ⟨fun N z => ⟨(fun k h => by cases h), k2, g2, p2, e2⟩, f2⟩
  | 3, hq => cases hq; exact ⟨fun N z => ⟨(fun k h => by cases h), k3, g3, p3, e3⟩, f3⟩
  | 4, hq => cases hq; exact ⟨fun N z => ⟨(fun k h => by cases h), k4, g4, p4, e4⟩, f4⟩
  | 5, hq => cases hq; exact ⟨fun N z => ⟨(fun k h => by cases h), k5, g5, p5, e5⟩, ⟨k5, p5, g5, e5, f5', f5⟩⟩
  | k + 6, hq => simp [ab_tys] at hq
theorem lw_NW {s : State} {args : Array Value} (hts : ∀ w ∈ lw_tbl, w.before args s = true) : ∀ w ∈ ab_NW, va_Nw w s := by
  intro w hw
  have q0 := va_Nw.of rfl (lw_tk hts (w := .methodLinkNest RX9 81 yX11_isTree RX11) (i := 115) (by decide +kernel))
  have q1 := va_Nw.of rfl (lw_tk hts (w := .methodLinkNest RX11 27 yX10_init RX11) (i := 199) (by decide +kernel))
  have q2 := va_Nw.of rfl (lw_tk hts (w := .methodLinkNest RX11 34 yX6_init RX11) (i := 214) (by decide +kernel))
  have q3 := va_Nw.of rfl (lw_tk hts (w := .methodLinkNest RX1 11 yX5_init RX11) (i := 258) (by decide +kernel))
  have q4 := va_Nw.of rfl (lw_tk hts (w := .methodLinkNest RX11 59 yX4_init RX11) (i := 319) (by decide +kernel))
  have q5 := va_Nw.of rfl (lw_tk hts (w := .methodLinkNest RX4 11 yX5_init RX11) (i := 324) (by decide +kernel))
  have q6 := va_Nw.of rfl (lw_tk hts (w := .methodLinkNest RX2 22 yX4_init RX11) (i := 343) (by decide +kernel))
  have q7 := va_Nw.of rfl (lw_tk hts (w := .methodLinkNest RX11 81 yX3_init RX11) (i := 357) (by decide +kernel))
  have q8' := lw_tk hts (w := .arrayOver (.array .int)) (i := 78) (by decide +kernel)
  have q8 : va_Nw (.arrayOver (.array .int)) s := q8'
  have q9' := lw_tk hts (w := .arrayOver (.array .long)) (i := 204) (by decide +kernel)
  have q9 : va_Nw (.arrayOver (.array .long)) s := q9'
  have q10' := lw_tk hts (w := .arrayOver (.object "RootedCuts$State")) (i := 342) (by decide +kernel)
  have q10 : va_Nw (.arrayOver (.object "RootedCuts$State")) s := q10'
  simp only [ab_NW, List.mem_cons, List.not_mem_nil, or_false] at hw
  rcases hw with rfl | rfl | rfl | rfl | rfl | rfl | rfl | rfl | rfl | rfl | rfl
  · exact q0
  · exact q1
  · exact q2
  · exact q3
  · exact q4
  · exact q5
  · exact q6
  · exact q7
  · exact q8
  · exact q9
  · exact q10
theorem lw_tab {args : Array Value} {s : State} {A : Nat → Prop} {nm : String} {N : Nat} {g : Nat → Int32} (hl : (Cond.laysStatic RX9 nm "[I").before args s = true) (hini : (Cond.initialized RX9).before args s = true) (harr : (Cond.arrayOf (.static RX9 nm "[I") .int).before args s = true) (hlen : (Cond.eq (.length (.static RX9 nm "[I")) (.int (Int32.ofNat N))).before args s = true)
    (hel : ∀ j, j < N → (Cond.eq (.elem (.static RX9 nm "[I") (.int (Int32.ofNat j))) (.int (g j))).before args s = true) (hN : N < 2 ^ 31) (hA : ∀ a : Nat, a < s.heap.size → ¬ A a) : ∃ t, va_Z RX9 nm "[I" (.ref t) A s s.heap ∧ va_T .int t N (fun k => .int (g k)) A s s.heap := by
  obtain ⟨t, ht, hT⟩ := va_Tof (f := fun k => .int (g k)) hN harr (va_eqt hlen) (fun j hj => va_eqt (hel j hj)) hA
  exact ⟨t, va_Zof hl hini ht hA, hT⟩
def lw_L0 : List Cond := flatC (Jvm.Cond.and given_1 narrow_1)
set_option maxRecDepth 100000 in
theorem lw_e0 : ∀ j, j < 17 → (Cond.eq (.elem (.static RX9 "FIRST" "[I") (.int (Int32.ofNat j))) (.int ((ab_ST 0).getD j 0))) ∈ lw_L0 := by decide +kernel
set_option maxRecDepth 100000 in
theorem lw_e1 : ∀ j, j < 17 → (Cond.eq (.elem (.static RX9 "REST" "[I") (.int (Int32.ofNat j))) (.int ((ab_ST 1).getD j 0))) ∈ lw_L0 := by decide +kernel
set_option maxRecDepth 100000 in
theorem lw_e2 : ∀ j, j < 6 → (Cond.eq (.elem (.static RX9 "FACTORIAL" "[I") (.int (Int32.ofNat j))) (.int ((ab_ST 2).getD j 0))) ∈ lw_L0 := by decide +kernel
set_option maxRecDepth 100000 in
theorem lw_e3 : Cond.arrayOf (.static RX9 "FIRST" "[I") .int ∈ lw_L0 ∧ Cond.eq (.length (.static RX9 "FIRST" "[I")) (.int (Int32.ofNat 17)) ∈ lw_L0 ∧ Cond.arrayOf (.static RX9 "REST" "[I") .int ∈ lw_L0 ∧ Cond.eq (.length (.static RX9 "REST" "[I")) (.int (Int32.ofNat 17)) ∈ lw_L0 ∧ Cond.arrayOf (.static RX9 "FACTORIAL" "[I") .int ∈ lw_L0 ∧ Cond.eq (.length (.static RX9 "FACTORIAL" "[I")) (.int (Int32.ofNat 6)) ∈ lw_L0 := by decide +kernel
theorem lw_stat {args : Array Value} {s : State} {A : Nat → Prop} (hts : ∀ w ∈ lw_tbl, w.before args s = true) (hgv : (Jvm.Cond.and given_1 narrow_1).before args s = true) (hA : ∀ a : Nat, a < s.heap.size → ¬ A a) : ∃ t : Nat → Nat, ∀ j, j < 3 → va_Z RX9 (ab_sn j) "[I" (.ref (t j)) A s s.heap ∧ va_T .int (t j) (ab_ST j).length (fun k => .int ((ab_ST j).getD k 0)) A s s.heap := by
  have hs : ∀ c ∈ lw_L0, c.before args s = true := flat_of_before _ hgv
  have hini := lw_tk hts (w := .initialized RX9) (i := 48) (by decide +kernel)
  obtain ⟨e1, e2, e3, e4, e5, e6⟩ := lw_e3
  obtain ⟨t0, h0⟩ := lw_tab (A := A) (N := 17) (g := fun k => (ab_ST 0).getD k 0) (lw_tk hts (w := .laysStatic RX9 "FIRST" "[I") (i := 84) (by decide +kernel)) hini (hs _ e1) (hs _ e2) (fun j hj => hs _ (lw_e0 j hj)) (by omega) hA
  obtain ⟨t1, h1⟩ := lw_tab (A := A) (N := 17) (g := fun k => (ab_ST 1).getD k 0) (lw_tk hts (w := .laysStatic RX9 "REST" "[I") (i := 86) (by decide +kernel)) hini (hs _ e3) (hs _ e4) (fun j hj => hs _ (lw_e1 j hj)) (by omega) hA
  obtain ⟨t2, h2⟩ := lw_tab (A := A) (N := 6) (g := fun k => (ab_ST 2).getD k 0) (lw_tk hts (w := .laysStatic RX9 "FACTORIAL" "[I") (i := 95) (by decide +kernel)) hini (hs _ e5) (hs _ e6) (fun j hj => hs _ (lw_e2 j hj)) (by omega) hA
  refine ⟨fun j => if j = 0 then t0 else if j = 1 then t1 else t2, fun j hj => ?_⟩
  match j, hj with
  | 0, _ => exact h0
  | 1, _ => exact h1
  | 2, _ => exact h2
def lw_ad (B : Nat) (t : Nat → Nat) : Nat → Nat := fun k => if k < 1000 then B + k else t (k - 1000)
theorem lw_ad_k {B : Nat} {t : Nat → Nat} : ∀ k, k < 1000 → lw_ad B t k = B + k := fun k hk => if_pos hk
theorem lw_ad_t {B : Nat} {t : Nat → Nat} (j : Nat) : lw_ad B t (1000 + j) = t j := by
  unfold lw_ad; rw [if_neg (by omega), Nat.add_sub_cancel_left]
theorem lw_Stc {args : Array Value} {s : State} {D : va_G} {aC : Nat → ClassId} {A : Nat → Prop} {t : Nat → Nat} {B : Nat} (hts : ∀ w ∈ lw_tbl, w.before args s = true) (hD : ∀ (k : Nat) (q : vw_C), ab_cl[k]? = some q → u_Kn s q.1 q.2.1 q.2.2 (D.1 k) (D.2 k)) (hC : (∀ (k : Nat) (q : ClassId × FieldType), (ab_tys aC)[k]? = some q → ArrOfT s q.1 q.2 ∧ va_RA s q.1 q.2) ∧
    (s.vm.findClass "[I" = some (aC 0) ∧ s.vm.findClass "[J" = some (aC 1) ∧ s.vm.findClass "[Z" = some (aC 2) ∧ s.vm.findClass "[[I" = some (aC 3) ∧ s.vm.findClass "[[J" = some (aC 4) ∧ s.vm.findClass "[LRootedCuts$State;" = some (aC 5))) (ht : ∀ j, j < 3 → va_Z RX9 (ab_sn j) "[I" (.ref (t j)) A s s.heap ∧ va_T .int (t j) (ab_ST j).length (fun k => .int ((ab_ST j).getD k 0)) A s s.heap) : ab_Stc D aC (lw_ad B t) A s s.heap :=
  ⟨⟨hD, hC.1⟩, lw_NW hts, hC.2, fun j hj => by rw [lw_ad_t]; exact ht j hj⟩
/-! calls out of the law -/
theorem lw_TG {args : Array Value} {s : State} (hts : ∀ w ∈ lw_tbl, w.before args s = true) : ∀ w ∈ ab_TG, w.before args s = true := fun w hw => hts w (List.mem_filter.mp hw).1
theorem lw_lin {ad : Nat → Nat} {aC : Nat → ClassId} {B n : Nat} {h : ab_H} (hn : h.length = n) (h950 : n ≤ 950) (had : ∀ k, k < 1000 → ad k = B + k) : va_D (fun q => B ≤ q ∧ q < B + n) (ab_wd ad aC h) := by
  have key : ∀ (k : Nat) (q : Nat × va_E), (ab_wd ad aC h)[k]? = some q → k < n ∧ q.1 = B + k := by
    intro k q hk
    rw [ab_wd_get] at hk
    cases hh : h[k]? with
    | none => rw [hh] at hk; cases hk
    | some c =>
      rw [hh] at hk
      have hl : k < h.length := (List.getElem?_eq_some_iff.mp hh).1
      have e : (ad k, ab_cz ad aC c) = q := Option.some.inj hk
      rw [← e]
      exact ⟨by omega, had k (by omega)⟩
  refine ⟨fun i j x y hi hj hxy => ?_, fun k q hk => ?_⟩
  · have a := key i x hi
    have b := key j y hj
    have hxy : x.1 = y.1 := hxy
    omega
  · have a := key k q hk
    show B ≤ q.1 ∧ q.1 < B + n
    omega
section LwCalls
variable {p : Program} {l : Launch} {e : Env} {s : State} {m : MethodId} {below : List Frame} {meth : Method} {c : Code} {b : Nat}
variable {D : va_G} {aC : Nat → ClassId} {ad : Nat → Nat}
/-- behind a call -/
theorem lw_behind {H : Heap} {locs : List Loc} {ls : Array Slot} {cells slots mc ms pc : Nat} {Q : State → Prop} {A : Nat → Prop} {st0 rest : List Value} {rv : Option Value} {h1 : ab_H} {a : Array Value} (hr : va_Run p l e room_1 s m #[Value.ref b] below meth c H locs cells slots mc ms (F0 m pc ls st0) rest (ab_Qc D aC ad A rv h1 a) A) (hS : va_S (fun q => s.heap.size ≤ q) s.heap H locs) (hA : ∀ q, A q → s.heap.size ≤ q)
    (kk : ∀ (H1 : Heap) (locs1 : List Loc), va_P D ab_cl (ab_wd ad aC h1) H1 → va_S (fun q => s.heap.size ≤ q) s.heap H1 locs1 → H.size ≤ H1.size → (∀ q : Nat, q < H.size → ¬ A q → H1[q]? = H[q]?) → W p l e room_1 s m #[Value.ref b] below meth c H1 locs1 (cells + mc) (slots + ms) Q (F0 m (pc + 3) ls ((rv.map (ab_rl ad)).toList ++ rest))) : W p l e room_1 s m #[Value.ref b] below meth c H locs cells slots Q (F0 m pc ls st0) := by
  intro T hT X
  obtain ⟨v, st₀, t, T', L, h0, X', hL, e1, e2, ⟨hv, hP, hD, hz, hk⟩, st⟩ := hr T hT X
  cases hv
  rw [h0] at hz hk
  obtain ⟨t2, a1, b1⟩ := kk T'.heap (locs ++ L) (by rw [e1]; exact hP) ⟨Nat.le_trans hS.1 (by rw [e1]; exact hz), fun q h1 h2 => by rw [e1, hk q (Nat.lt_of_lt_of_le h1 hS.1) (fun z => h2 (hA q z))]; exact hS.2.1 q h1 h2, fun q hq => by
      rcases List.mem_append.mp hq with h | h
      · exact hS.2.2 q h
      · exact hA _ (hL q h)⟩ (by rw [e1]; exact hz) (fun q h1 h2 => by rw [e1]; exact hk q h1 h2) T' rfl X'
  exact ⟨t2, st t2 a1, b1⟩
/-- a call of one of the two objects -/
theorem lw_cv {L xs} (C0 : lw_At p s m meth c b L xs) (hStc : ab_Stc D aC ad (fun q => s.heap.size ≤ q) s s.heap) {T : ab_H} {B n : Nat} (had : ∀ k, k < 1000 → ad k = B + k) (hn : T.length = n) (h950 : n ≤ 950) (hB : s.heap.size ≤ B) {mid ci na ml rk rf rl idx q nf : Nat} (hmid : mid < 157) (hmr : ab_MR mid = (ci, 0, na, ml, rk, rf, rl)) (hlk : lw_tbl[q]? = some (.methodLink R_law idx (ab_YM mid))) (hsh : sg_sh T 0 = some (ci, nf)) (hci : ci < 13) {As : List Value} (hAs : As.map (ab_rl ad) = As) (hAl : As.length = na) (hlv : (ab_lv (.ref 0 :: As)).length ≤ ml) (hroom : rf + 1 ≤ 9 ∧ 19 + ml + rl ≤ 290) {rest : List Value} (hcat : (rest.map fun v => v.category).sum ≤ 8)
    {L0 : List Value} (hL0 : ab_ent ml (.ref 0 :: As) = L0) {v : Value} {σ σ' : sg_S} (hrun : sg_D T mid 0 L0 [] σ (some v) σ') {pc : Nat} (hd : decode code pc = .ok (.invokevirtual idx, 3)) {H : Heap} {locs : List Loc} {ls : Array Slot} (hls : ls.size = 4) (hP : va_P D ab_cl (ab_wd ad aC (sg_mk T σ)) H) (hS : va_S (fun q => s.heap.size ≤ q) s.heap H locs) {Q : State → Prop} {st : List Value} (hst : st = As.reverse ++ .ref B :: rest)
    (kk : ∀ (H1 : Heap) (locs1 : List Loc), va_P D ab_cl (ab_wd ad aC (sg_mk T σ')) H1 → va_S (fun q => s.heap.size ≤ q) s.heap H1 locs1 → (∀ q : Nat, q < H.size → ¬ (B ≤ q ∧ q < B + n) → H1[q]? = H[q]?) → W p l e room_1 s m #[Value.ref b] below meth c H1 locs1 600000 7302250 Q (F0 m (pc + 3) ls (ab_rl ad v :: rest))) : W p l e room_1 s m #[Value.ref b] below meth c H locs 600000 7302250 Q (F0 m pc ls st) := by
  obtain ⟨hx, hb, hr, hml, hown, hts, hX, hbl, hlocks, hgv⟩ := id C0
  have hTG := lw_TG hts
  obtain ⟨fuel, hf⟩ := hrun
  subst hL0
  have r1 : (ab_MR mid).1 = ci := by rw [hmr]
  have r2 : (ab_MR mid).2.1 = 0 := by rw [hmr]
  have r3 : (ab_MR mid).2.2.1 = na := by rw [hmr]
  have r4 : (ab_MR mid).2.2.2.1 = ml := by rw [hmr]
  have r6 : (ab_MR mid).2.2.2.2.2.1 = rf := by rw [hmr]
  have r7 : (ab_MR mid).2.2.2.2.2.2 = rl := by rw [hmr]
  rw [← r4] at hf hlv
  have hM := ab_met (ab_run l D aC ad (fun q => B ≤ q ∧ q < B + n) false fuel) hmid (av := .ref 0 :: As) (h := sg_mk T σ) (h' := sg_mk T σ') (r := some v) (by rw [sg_mk_len]; omega) hlv hf
  rw [sg_mk_len, sg_mk_len, sg_mk_sz, sg_mk_sz, Nat.sub_self, Nat.sub_self] at hM
  obtain ⟨m1, m2, m3, m4, m5, m6, m7, m8⟩ := ab_mf hmid
  have hlkT := ab_in hlk rfl
  obtain ⟨vs, t1, t2⟩ := sg_sh_spec hsh
  have t1' : (sg_mk T σ)[0]? = some (ci, vs.mapIdx (fun j v => sg_pv σ 0 j v)) := sg_mk_get t1
  obtain ⟨C, Tt, N, hcl⟩ := ab_cl_some hci
  obtain ⟨ty, hp⟩ := ab_cp hcl
  have hC : C = (ab_YM mid).cls := by rw [hp.2.2.2.2.1, m3, r1]
  have hD := lw_lin (aC := aC) (h := sg_mk T σ) (n := n) (by rw [sg_mk_len]; exact hn) h950 had
  have hrecv := va_recv (q := (C, Tt, N)) hStc.1 hP hcl (q0 := 0) (fs := (vs.mapIdx (fun j v => sg_pv σ 0 j v)).map (ab_rl ad)) (a := ad 0) (by rw [ab_wd_at t1', ab_cz_o hci])
  have hPc : ∀ U : State, U.heap = H → s.WarmedH U.vm → ab_Pc D aC ad (fun q => B ≤ q ∧ q < B + n) false (.ref 0 :: As) (sg_mk T σ) ((Value.ref 0 :: As).map (ab_rl ad)).toArray U := fun U hU hW => ⟨rfl, (by rw [hU]; exact (hStc.moved hW (fun a h1 h2 => hS.2.1 a h1 h2)).narrow (fun q hq => Nat.le_trans hB hq.1)), (fun h => by cases h), by rw [hU]; exact hP, hD, (fun h => by cases h)⟩
  subst hst
  have e0 : ad 0 = B := had 0 (by omega)
  refine lw_behind (mc := 0) (ms := 0) (A := fun q => B ≤ q ∧ q < B + n) (rv := some v) (h1 := sg_mk T σ') (rest := rest) (a := (Value.ref (ad 0) :: As.map (ab_rl ad)).toArray) (va_runV (As := As.map (ab_rl ad)) (b := ad 0) (rest := rest) (C := (ab_YM mid).cls) (n := (ab_MR mid).2.2.1) ⟨hx, hb, hml, hown, hTG⟩ hM (cwV _ hTG (ab_wsG (fun w hw => ?_)) rfl rfl rfl ⟨rfl, m5⟩ ⟨by show (ab_MR mid).2.2.2.2.2.1 + 1 ≤ 9; omega, by show 8 + ((ab_MR mid).2.2.2.1 + 11) + (ab_MR mid).2.2.2.2.2.2 ≤ 290; omega⟩) ⟨ab_blind, by rw [← hC]; exact hrecv, fun U hU hW => hPc U hU hW⟩ rfl (by rw [List.length_map, hAl, r3]) hls ?_ (lv_room hcat) hd ⟨Nat.le_refl _, Nat.le_refl _⟩) hS (fun q hq => Nat.le_trans hB hq.1) (fun H1 locs1 g1 g2 _ g4 => kk H1 locs1 g1 g2 g4)
  · unfold wsV at hw
    rcases List.mem_append.mp hw with hw | hw
    · simp only [List.mem_cons, List.not_mem_nil, or_false] at hw
      rcases hw with rfl | rfl | rfl | rfl
      · exact hlkT
      · exact (m6 r2).1
      · exact (m6 r2).2
      · exact m2
    · rcases List.mem_cons.mp hw with rfl | hw
      · exact m1
      · exact hw
  · show As.reverse ++ .ref B :: rest = (As.map (ab_rl ad)).reverse ++ .ref (ad 0) :: rest
    rw [hAs, e0]
end LwCalls
