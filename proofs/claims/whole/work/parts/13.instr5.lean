/-! new T[n][k] -/
theorem vr_outer (c : ClassId) (N h0 : Nat) : ∀ i : Nat, Jvm.Free.Multi.outerC c N h0 i = arrV c N (fun j => va_rf (if j < i then some (h0 + 1 + j) else none))
  | 0 => by
    show ({ cls := c, slots := Array.replicate N .null, vm := .none } : Cell) = _
    rw [arrV_new]
    refine congrArg (arrV c N) (funext fun j => ?_)
    simp [va_rf]
  | i + 1 => by
    show (Jvm.Free.Multi.outerC c N h0 i).setSlot i (.ref (h0 + 1 + i)) = _
    rw [vr_outer c N h0 i, arrV_store]
    refine congrArg (arrV c N) (funext fun j => ?_)
    by_cases e : j = i
    · subst e
      simp [updV, va_rf]
    · by_cases h : j < i
      · simp [updV, e, h, Nat.lt_succ_of_lt h]
      · simp [updV, e, h, show ¬ j < i + 1 by omega]
section AbInstr5
variable {p : Program} {l : Launch} {e : Env} {R : Room} {s : State} {m : MethodId} {args : Array Value} {below : List Frame} {meth : Method} {c : Code}
variable {D : va_G} {aC : Nat → ClassId} {ad : Nat → Nat} {A : Nat → Prop} {al : Bool} {mid pc : Nat} {L st : List Value} {h : ab_H} {r : ab_C}
theorem ab_sz_rep (n : Nat) (q : Nat × List Value) : ab_sz (List.replicate n q) = n * q.2.length := by simp [ab_sz]
theorem ab_multi (F : ab_FF p s m args meth c mid) (hAd : ab_Ad ad A al s.heap) (hal : al = true) {ty : FieldType} {to ti x k n : Nat} {k0 n0 : Int32} {v0 : Value} {st : List Value} (hto : 23 ≤ to)
    (hk : ab_ix k0 = some k) (hn : ab_ix n0 = some n) (hk2 : k ≤ 2000) (h0 : 0 < h.length) (h9 : h.length + n < 900)
    (hcl : Cond.classLink (ab_RC (ab_MR mid).1) x ("[" ++ (FieldType.array ty).toString) ∈ ab_TG) (hao : (Cond.arrayOver (.array ty)).before args s = true) (hac : Cond.arrayClass ty ∈ ab_TG)
    (hfo : s.vm.findClass ("[" ++ (FieldType.array ty).toString) = some (aC (to - 20))) (hfi : s.vm.findClass (FieldType.array ty).toString = some (aC (ti - 20)))
    (hin : ∀ (k : Nat) (H : Heap) (a : Nat), H[a]? = some (Jvm.Free.Multi.innerC (aC (ti - 20)) k (defaultValue ty)) → va_at D ab_cl (a, ab_cz ad aC (ti, ab_zeros k v0)) H)
    (hdf : fits ty (defaultValue ty) = true) (hdd : (defaultValue ty).isDefault = true) (hby : componentBytes ty ≤ 8) (hd : decode (ab_BM mid) pc = .ok (.multianewarray x 2, 4)) :
    ab_Ok p l e R s m args below meth c D aC ad A al mid pc L (.int k0 :: .int n0 :: st) h (pc + 4, L, .ref h.length :: st, h ++ (to, ab_rows h.length n) :: List.replicate n (ti, ab_zeros k v0)) := by
  obtain ⟨ha, hA⟩ := hAd hal
  obtain ⟨k1, k2⟩ := ab_ix_spec hk
  obtain ⟨n1, n2⟩ := ab_ix_spec hn
  intro H locs ls cells slots Q hI hL hcc hc1 hc2 kk
  have hrl : (ab_rows h.length n).length = n := by simp [ab_rows]
  have esz : ab_sz (h ++ (to, ab_rows h.length n) :: List.replicate n (ti, ab_zeros k v0)) = ab_sz h + (n + n * k) := by
    rw [ab_sz_app, show ab_sz ((to, ab_rows h.length n) :: List.replicate n (ti, ab_zeros k v0)) = (ab_rows h.length n).length + ab_sz (List.replicate n (ti, ab_zeros k v0)) by simp [ab_sz], hrl, ab_sz_rep]
    simp [ab_zeros]
  simp only [esz, List.length_append, List.length_cons, List.length_replicate, Nat.add_sub_cancel_left] at hc1 hc2 kk
  refine ab_W_size fun hle => ?_
  have hsz := ab_size hI ha h0 (by omega) (hcc hal) hle
  subst k2
  subst n2
  intro T hT X
  have hb2 : k0.toNatClampNeg * componentBytes ty ≤ 536870912 := Nat.le_trans (Nat.mul_le_mul hk2 hby) (by omega)
  obtain ⟨vm₁, cA, comp, -, fA, fC, hO, -, X', step⟩ := Jvm.Stand.multianewarray2F X F.1 F.2.2.2.2.2.1 (F.2.2.2.2.2.2.1 _ hcl) hao (F.2.2.2.2.2.2.1 _ hac) (g := F0 m pc ls (.int k0 :: .int n0 :: st.map (ab_rl ad))) rfl (by rw [F.2.1]; exact hd) rfl n1 k1 (by omega) hb2 (by omega) hdf hdd (by omega) (by omega)
  cases fA.symm.trans hfo
  cases fC.symm.trans hfi
  generalize hF : Jvm.Free.Multi.fill (T.setVm vm₁) (aC (to - 20)) (aC (ti - 20)) n0.toNatClampNeg k0.toNatClampNeg (defaultValue ty) n0.toNatClampNeg = G at X' step
  have hTh : (T.setVm vm₁).heap = H := hT
  obtain ⟨f1, f2, -, -⟩ := Jvm.Free.Multi.fill_facts (T.setVm vm₁) (aC (to - 20)) (aC (ti - 20)) n0.toNatClampNeg k0.toNatClampNeg (defaultValue ty) n0.toNatClampNeg
  rw [hF, hTh] at f1 f2
  have hold : ∀ x : Nat, x < H.size → G.heap[x]? = H[x]? := fun x hx => by
    have := Jvm.Free.Multi.fill_old (T.setVm vm₁) (aC (to - 20)) (aC (ti - 20)) n0.toNatClampNeg k0.toNatClampNeg (defaultValue ty) (a := x) (by rw [hTh]; exact hx) n0.toNatClampNeg
    rw [hF, hTh] at this
    exact this
  have hrow : ∀ j : Nat, j < n0.toNatClampNeg → G.heap[H.size + 1 + j]? = some (Jvm.Free.Multi.innerC (aC (ti - 20)) k0.toNatClampNeg (defaultValue ty)) := fun j hj => by
    have := Jvm.Free.Multi.fill_inner (T.setVm vm₁) (aC (to - 20)) (aC (ti - 20)) n0.toNatClampNeg k0.toNatClampNeg (defaultValue ty) n0.toNatClampNeg j hj
    rw [hF, hTh] at this
    exact this
  have hI' : ab_I D aC ad A s.heap (h ++ (to, ab_rows h.length n0.toNatClampNeg) :: List.replicate n0.toNatClampNeg (ti, ab_zeros k0.toNatClampNeg v0)) G.heap locs := by
    refine hI.app hsz (fun j hj => ?_) (by rw [f1]; omega) hold hA (fun j c hj => ?_)
    · simp only [List.length_cons, List.length_replicate] at hj
      have e1 := ha (h.length + j) (by omega)
      have e2 := ha h.length (by omega)
      omega
    · cases j with
      | zero =>
        simp only [List.getElem?_cons_zero, Option.some.injEq] at hj
        subst hj
        rw [Nat.add_zero, ab_cz_q hto]
        show G.heap[ad h.length]? = some (vp_cell _ _)
        rw [← hsz, f2, vr_outer, vp_cell_q]
        show some (arrV _ _ _) = some (arrV _ (ab_rows h.length n0.toNatClampNeg).length _)
        rw [hrl]
        refine congrArg (fun f => some (arrV _ n0.toNatClampNeg f)) (funext fun j => congrArg va_rf ?_)
        by_cases hj : j < n0.toNatClampNeg
        · have e1 := ha (h.length + 1 + j) (by omega)
          have e2 := ha h.length (by omega)
          rw [if_pos hj]
          simp only [ab_rows, List.getD_eq_getElem?_getD, List.getElem?_map, List.getElem?_range hj, Option.map_some, Option.getD_some, ab_vR]
          congr 1
          omega
        · rw [if_neg hj]
          have : (ab_rows h.length n0.toNatClampNeg)[j]? = none := List.getElem?_eq_none (by rw [hrl]; omega)
          rw [List.getD_eq_getElem?_getD, this]
          rfl
      | succ j =>
        simp only [List.getElem?_cons_succ, List.getElem?_replicate] at hj
        split at hj
        · rename_i hjn
          cases hj
          have e1 := ha (h.length + (j + 1)) (by omega)
          have e2 := ha h.length (by omega)
          refine hin _ _ _ ?_
          rw [show ad (h.length + (j + 1)) = H.size + 1 + j by omega]
          exact hrow j hjn
        · cases hj
  rw [show cells + (n0.toNatClampNeg + 1) = cells + 1 + n0.toNatClampNeg by omega, ← Nat.add_assoc] at kk
  obtain ⟨t, a1, b1⟩ := kk G.heap locs ls hI' hL G rfl X'
  refine ⟨t, step t ?_, b1⟩
  have e : T.heap.size = ad h.length := by rw [hT, hsz]
  rw [e]
  exact a1
theorem ab_k_multianewarray (F : ab_FF p s m args meth c mid) (S : ab_Stc D aC ad A s s.heap) (hAd : ab_Ad ad A al s.heap) (hw : Cond.arrayClass .int ∈ ab_TG ∧ Cond.arrayClass .long ∈ ab_TG ∧ Cond.arrayClass .boolean ∈ ab_TG) {t d x q : Nat} (hcl : lw_tbl[q]? = some (.classLink (ab_RC (ab_MR mid).1) x (if t = 23 then "[[I" else "[[J"))) (hd : decode (ab_BM mid) pc = .ok (.multianewarray x 2, 4)) (hs : ab_s_multianewarray t d al mid pc L st h = some (.inl r)) : ab_Ok p l e R s m args below meth c D aC ad A al mid pc L st h r := by
  unfold ab_s_multianewarray at hs
  split at hs
  · rename_i k0 n0 st'
    split at hs
    · rename_i k hk
      split at hs
      · rename_i n hn
        split at hs
        · rename_i hc
          obtain ⟨hal, hk2, h0, h9, -⟩ := hc
          split at hs
          · rename_i ht
            subst ht
            cases hs
            refine ab_multi F hAd hal (ty := .int) (ti := 20) (Nat.le_refl _) hk hn hk2 h0 h9 (ab_in hcl rfl) (S.2.1 (.arrayOver (.array .int)) (by simp [ab_NW])) hw.1 S.2.2.1.2.2.2.1 S.2.2.1.1 (fun k H a he => ?_) rfl rfl (by decide) hd
            show H[a]? = some (vp_cell (aC 0) _)
            rw [he, vp_cell_i]
            show some (_ : Cell) = some (arrV (aC 0) (ab_zeros k (.int 0)).length (fun j => Value.int (ab_vI ((ab_zeros k (.int 0)).getD j .null))))
            rw [ab_zI, show (ab_zeros k (.int 0)).length = k by simp [ab_zeros], ← arrV_new]
            rfl
          · split at hs
            · rename_i ht
              subst ht
              cases hs
              refine ab_multi F hAd hal (ty := .long) (ti := 21) (by omega) hk hn hk2 h0 h9 (ab_in hcl rfl) (S.2.1 (.arrayOver (.array .long)) (by simp [ab_NW])) hw.2.1 S.2.2.1.2.2.2.2.1 S.2.2.1.2.1 (fun k H a he => ?_) rfl rfl (by decide) hd
              show H[a]? = some (vp_cell (aC 1) _)
              rw [he, vp_cell_l]
              show some (_ : Cell) = some (arrV (aC 1) (ab_zeros k (.long 0)).length (fun j => Value.long (ab_vL ((ab_zeros k (.long 0)).getD j .null))))
              rw [ab_zL, show (ab_zeros k (.long 0)).length = k by simp [ab_zeros], ← arrV_new]
              rfl
            · cases hs
        · cases hs
      · cases hs
    · cases hs
  · cases hs
end AbInstr5
