/-! each instruction of the abstract machine is the machine's own: what is made, and the calls that are no method's -/
section AbInstr4
variable {p : Program} {l : Launch} {e : Env} {R : Room} {s : State} {m : MethodId} {args : Array Value} {below : List Frame} {meth : Method} {c : Code}
variable {D : va_G} {aC : Nat → ClassId} {ad : Nat → Nat} {A : Nat → Prop} {al : Bool} {mid pc : Nat} {L st : List Value} {h : ab_H} {r : ab_C}
theorem ab_W_size {H : Heap} {locs : List Loc} {cells slots : Nat} {Q : State → Prop} {g : JFrame} (k : H.size ≤ s.heap.size + cells → W p l e R s m args below meth c H locs cells slots Q g) : W p l e R s m args below meth c H locs cells slots Q g :=
  fun T hT X => k (by rw [← hT]; exact X.heapSize) T hT X
/-- the heap's size, where cells are made -/
theorem ab_size {H : Heap} {locs : List Loc} {cells : Nat} (hI : ab_I D aC ad A s.heap h H locs) (ha : ∀ k, k < 1000 → ad k = ad 0 + k) (h0 : 0 < h.length) (h1 : h.length < 1000) (hc : s.heap.size + cells = ad h.length) (hle : H.size ≤ s.heap.size + cells) : H.size = ad h.length := by
  have hl : h.length - 1 < h.length := by omega
  have := (hI.1 (h.length - 1) _ (ab_wd_at (List.getElem?_eq_getElem hl))).lt
  have e1 := ha (h.length - 1) (by omega)
  have e2 := ha h.length h1
  have this : ad (h.length - 1) < H.size := this
  omega
/-- one cell is made -/
theorem ab_push {H H1 : Heap} {locs : List Loc} {q : Nat × List Value} (hI : ab_I D aC ad A s.heap h H locs) (hs : H.size = ad h.length) (hz : H1.size = H.size + 1) (ho : ∀ q, q < H.size → H1[q]? = H[q]?) (hA : ∀ q, s.heap.size ≤ q → A q) (hc : va_at D ab_cl (ad h.length, ab_cz ad aC q) H1) : ab_I D aC ad A s.heap (h ++ [q]) H1 locs := by
  refine hI.app hs (fun j hj => ?_) (by omega) ho hA (fun j c hj => ?_)
  · have : j < 1 := hj
    rw [show j = 0 by omega, Nat.add_zero, Nat.add_zero]
  · have h1 : j < 1 := (List.getElem?_eq_some_iff.mp hj).1
    rw [show j = 0 by omega] at hj ⊢
    cases hj
    exact hc
theorem ab_zI (n : Nat) : (fun j => Value.int (ab_vI ((ab_zeros n (.int 0)).getD j .null))) = fun _ => .int 0 := by
  funext j
  simp only [ab_zeros, List.getD_eq_getElem?_getD, List.getElem?_replicate]
  split <;> rfl
theorem ab_zL (n : Nat) : (fun j => Value.long (ab_vL ((ab_zeros n (.long 0)).getD j .null))) = fun _ => .long 0 := by
  funext j
  simp only [ab_zeros, List.getD_eq_getElem?_getD, List.getElem?_replicate]
  split <;> rfl
theorem ab_zN (n : Nat) : (fun j => va_rf (ab_vR ad ((ab_zeros n .null).getD j .null))) = fun _ => .null := by
  funext j
  simp only [ab_zeros, List.getD_eq_getElem?_getD, List.getElem?_replicate]
  split <;> rfl
theorem ab_sz1 (q : Nat × List Value) : ab_sz [q] = q.2.length := by simp [ab_sz]
theorem ab_k_newarray (F : ab_FF p s m args meth c mid) (S : ab_Stc D aC ad A s s.heap) (hAd : ab_Ad ad A al s.heap) {ty : ArrayType} (hw : Cond.arrayClass .int ∈ ab_TG ∧ Cond.arrayClass .long ∈ ab_TG ∧ Cond.arrayClass .boolean ∈ ab_TG) (hd : decode (ab_BM mid) pc = .ok (.newarray ty, 2)) (hs : ab_s_newarray ty al mid pc L st h = some (.inl r)) : ab_Ok p l e R s m args below meth c D aC ad A al mid pc L st h r := by
  unfold ab_s_newarray at hs
  split at hs
  · rename_i n st'
    split at hs
    · rename_i k hk
      split at hs
      · rename_i hc
        obtain ⟨hal, hk2, h0, h9⟩ := hc
        obtain ⟨hn, hN⟩ := ab_ix_spec hk
        obtain ⟨ha, hA⟩ := hAd hal
        split at hs
        · cases hs
          intro H locs ls cells slots Q hI hL hcc hc1 hc2 kk
          simp only [List.length_append, ab_sz_app, ab_sz1, Nat.add_sub_cancel_left, List.length_cons, List.length_nil, ab_zeros, List.length_replicate] at hc1 hc2 kk
          refine ab_W_size fun hle => ?_
          have hsz := ab_size hI ha h0 (by omega) (hcc hal) hle
          refine va_newaK (atype := .int) F.1 F.2.1 (F.2.2.2.2.2.2.1 _ hw.1) rfl hd rfl hn hN (by show k * 4 ≤ _; omega) hc1 hc2 hsz (fun H1 cA e1 z1 o1 hAr hNm => ?_)
          refine kk H1 locs ls (ab_push hI hsz (by omega) (fun q hq => o1 q (by omega)) hA ?_) hL
          show H1[_]? = some (vp_cell (aC 0) _)
          rw [e1]
          cases hNm.symm.trans S.2.2.1.1
          rw [vp_cell_i]
          show some (arrV (aC 0) k _) = some (arrV (aC 0) (ab_zeros k (.int 0)).length (fun j => Value.int (ab_vI ((ab_zeros k (.int 0)).getD j .null))))
          rw [ab_zI, show (ab_zeros k (.int 0)).length = k by simp [ab_zeros]]
          rfl
        · cases hs
          intro H locs ls cells slots Q hI hL hcc hc1 hc2 kk
          simp only [List.length_append, ab_sz_app, ab_sz1, Nat.add_sub_cancel_left, List.length_cons, List.length_nil, ab_zeros, List.length_replicate] at hc1 hc2 kk
          refine ab_W_size fun hle => ?_
          have hsz := ab_size hI ha h0 (by omega) (hcc hal) hle
          refine va_newaK (atype := .long) F.1 F.2.1 (F.2.2.2.2.2.2.1 _ hw.2.1) rfl hd rfl hn hN (by show k * 8 ≤ _; omega) hc1 hc2 hsz (fun H1 cA e1 z1 o1 hAr hNm => ?_)
          refine kk H1 locs ls (ab_push hI hsz (by omega) (fun q hq => o1 q (by omega)) hA ?_) hL
          show H1[_]? = some (vp_cell (aC 1) _)
          rw [e1]
          cases hNm.symm.trans S.2.2.1.2.1
          rw [vp_cell_l]
          show some (arrV (aC 1) k _) = some (arrV (aC 1) (ab_zeros k (.long 0)).length (fun j => Value.long (ab_vL ((ab_zeros k (.long 0)).getD j .null))))
          rw [ab_zL, show (ab_zeros k (.long 0)).length = k by simp [ab_zeros]]
          rfl
        · cases hs
          intro H locs ls cells slots Q hI hL hcc hc1 hc2 kk
          simp only [List.length_append, ab_sz_app, ab_sz1, Nat.add_sub_cancel_left, List.length_cons, List.length_nil, ab_zeros, List.length_replicate] at hc1 hc2 kk
          refine ab_W_size fun hle => ?_
          have hsz := ab_size hI ha h0 (by omega) (hcc hal) hle
          refine va_newaK (atype := .boolean) F.1 F.2.1 (F.2.2.2.2.2.2.1 _ hw.2.2) rfl hd rfl hn hN (by show k * 1 ≤ _; omega) hc1 hc2 hsz (fun H1 cA e1 z1 o1 hAr hNm => ?_)
          refine kk H1 locs ls (ab_push hI hsz (by omega) (fun q hq => o1 q (by omega)) hA ?_) hL
          show H1[_]? = some (vp_cell (aC 2) _)
          rw [e1]
          cases hNm.symm.trans S.2.2.1.2.2.1
          rw [vp_cell_i]
          show some (arrV (aC 2) k _) = some (arrV (aC 2) (ab_zeros k (.int 0)).length (fun j => Value.int (ab_vI ((ab_zeros k (.int 0)).getD j .null))))
          rw [ab_zI, show (ab_zeros k (.int 0)).length = k by simp [ab_zeros]]
          rfl
        · cases hs
      · cases hs
    · cases hs
  · cases hs
theorem ab_k_anewarray (F : ab_FF p s m args meth c mid) (S : ab_Stc D aC ad A s s.heap) (hAd : ab_Ad ad A al s.heap) {t x q : Nat} (hw : lw_tbl[q]? = some (.classLink (ab_RC (ab_MR mid).1) x "RootedCuts$State")) (hd : decode (ab_BM mid) pc = .ok (.anewarray x, 3)) (hs : ab_s_anewarray t al mid pc L st h = some (.inl r)) : ab_Ok p l e R s m args below meth c D aC ad A al mid pc L st h r := by
  unfold ab_s_anewarray at hs
  split at hs
  · rename_i n st'
    split at hs
    · rename_i k hk
      split at hs
      · rename_i hc
        obtain ⟨hal, hk2, h0, h9, rfl⟩ := hc
        obtain ⟨hn, hN⟩ := ab_ix_spec hk
        obtain ⟨ha, hA⟩ := hAd hal
        cases hs
        intro H locs ls cells slots Q hI hL hcc hc1 hc2 kk
        simp only [List.length_append, ab_sz_app, ab_sz1, Nat.add_sub_cancel_left, List.length_cons, List.length_nil, ab_zeros, List.length_replicate] at hc1 hc2 kk
        refine ab_W_size fun hle => ?_
        have hsz := ab_size hI ha h0 (by omega) (hcc hal) hle
        have hao : va_AO "RootedCuts$State" s := S.2.1 _ (by simp [ab_NW])
        subst hN
        refine W.anew F.1 F.2.1 F.2.2.2.2.2.1 (F.2.2.2.2.2.2.1 _ (ab_in hw rfl)) (va_AO.use hao) rfl hd rfl hn (by omega) hc1 hc2 fun cA kA comp f1 f2 f3 f4 => ?_
        cases f1.symm.trans S.2.2.1.2.2.2.2.2
        rw [hsz]
        refine kk _ locs ls (ab_push hI hsz (by rw [Array.size_push]) (fun q hq => by rw [Array.getElem?_push, if_neg (Nat.ne_of_lt hq)]) hA ?_) hL
        show (H.push _)[ad h.length]? = some (vp_cell (aC 5) _)
        rw [← hsz, Array.getElem?_push_size, vp_cell_q, arrV_new]
        show some (arrV (aC 5) n.toNatClampNeg _) = some (arrV (aC 5) (ab_zeros n.toNatClampNeg .null).length (fun j => va_rf (ab_vR ad ((ab_zeros n.toNatClampNeg .null).getD j .null))))
        rw [ab_zN, show (ab_zeros n.toNatClampNeg .null).length = n.toNatClampNeg by simp [ab_zeros]]
      · cases hs
    · cases hs
  · cases hs
theorem ab_k_new (F : ab_FF p s m args meth c mid) (S : ab_Stc D aC ad A s s.heap) (hAd : ab_Ad ad A al s.heap) {ci x q : Nat} (hci : ci < 13) (hw : lw_tbl[q]? = some (.classLink (ab_RC (ab_MR mid).1) x (ab_RC ci))) (hd : decode (ab_BM mid) pc = .ok (.new x, 3)) (hs : ab_s_new ci al mid pc L st h = some (.inl r)) : ab_Ok p l e R s m args below meth c D aC ad A al mid pc L st h r := by
  unfold ab_s_new at hs
  split at hs
  · rename_i hc
    obtain ⟨hal, h0, h9⟩ := hc
    obtain ⟨ha, hA⟩ := hAd hal
    rw [ab_nth_eq] at hs
    split at hs
    · rename_i fs hfs
      cases hs
      intro H locs ls cells slots Q hI hL hcc hc1 hc2 kk
      obtain ⟨C, T, N, hcl⟩ := ab_cl_some hci
      obtain ⟨ty, hp⟩ := ab_cp hcl
      obtain ⟨hfl, hfd⟩ := hp.2.2.2.2.2.2.2 fs hfs
      rw [← hp.2.2.2.2.1] at hw
      simp only [List.length_append, ab_sz_app, ab_sz1, Nat.add_sub_cancel_left, List.length_cons, List.length_nil, hfl] at hc1 hc2 kk
      refine ab_W_size fun hle => ?_
      have hsz := ab_size hI ha h0 (by omega) (hcc hal) hle
      have hKn := S.1.1 ci _ hcl
      refine W.newcK F.1 F.2.1 F.2.2.2.2.2.1 (F.2.2.2.2.2.2.1 _ (ab_in hw rfl)) (F.2.2.2.2.2.2.1 _ hp.2.2.2.2.2.1) (F.2.2.2.2.2.2.1 _ hp.2.2.2.2.2.2.1) rfl hd hc1 hc2 hKn.2.1 hsz fun H1 kC hkC e1 z1 o1 => ?_
      refine kk H1 locs ls (ab_push hI hsz (by omega) (fun q hq => o1 q (by omega)) hA ?_) hL
      rw [ab_cz_o hci]
      refine ⟨_, hcl, (u_born ty F.2.2.2.2.2.2.1 hp.1 hKn hkC e1 hp.2.1).to (fun j hj => ?_)⟩
      rw [hfd j hj]
      simp only [vp_V, List.getD_eq_getElem?_getD, List.getElem?_map]
      have hj2 : j < fs.length := by rw [hfl]; exact hj
      have hdv := hfd j hj
      rw [List.getElem?_eq_getElem hj2]
      rw [List.getD_eq_getElem?_getD, List.getElem?_eq_getElem hj2] at hdv
      simp only [Option.getD_some, Option.map_some] at hdv ⊢
      rw [← hdv]
      cases ty j <;> rfl
    · cases hs
  · cases hs
end AbInstr4
