/-! the law's cases -/
set_option maxRecDepth 100000 in
theorem tx_len : tx_H.length = 162 := by decide +kernel
set_option maxRecDepth 100000 in
theorem tm_len : tm_H.length = 27 := by decide +kernel
def lw_W (D : va_G) (aC : Nat → ClassId) (adx adm : Nat → Nat) (s : State) (σ μ : sg_S) (H : Heap) (locs : List Loc) : Prop := va_P D ab_cl (ab_wd adx aC (sg_mk tx_H σ)) H ∧ va_P D ab_cl (ab_wd adm aC (sg_mk tm_H μ)) H ∧ va_S (fun q => s.heap.size ≤ q) s.heap H locs
theorem lw_kept {D : va_G} {aC : Nat → ClassId} {ad : Nat → Nat} {B n B2 n2 : Nat} {h : ab_H} {H H1 : Heap} (hP : va_P D ab_cl (ab_wd ad aC h) H) (had : ∀ k, k < 1000 → ad k = B + k) (hn : h.length = n) (h950 : n ≤ 950) (hdis : B + n ≤ B2 ∨ B2 + n2 ≤ B) (g : ∀ q : Nat, q < H.size → ¬ (B2 ≤ q ∧ q < B2 + n2) → H1[q]? = H[q]?) : va_P D ab_cl (ab_wd ad aC h) H1 := by
  intro k q hk
  have hd := (lw_lin (aC := aC) hn h950 had).2 k q hk
  have hd' : B ≤ q.1 ∧ q.1 < B + n := hd
  exact (hP k q hk).kept (g q.1 (hP k q hk).lt (by omega))
set_option maxRecDepth 100000 in
theorem lk_66 : lw_tbl[410]? = some (.methodLink R_law 13 (ab_YM 66)) := by decide +kernel
set_option maxRecDepth 100000 in
theorem lk_115 : lw_tbl[902]? = some (.methodLink R_law 17 (ab_YM 115)) := by decide +kernel
theorem lo_0 {p : Program} {l : Launch} {e : Env} {s : State} {m : MethodId} {below : List Frame} {meth : Method} {c : Code} {b L : Nat} {xs : Nat → Int32} {D : va_G} {aC : Nat → ClassId} {adx adm : Nat → Nat} (C0 : lw_At p s m meth c b L xs) (hL : L ≤ 2048) (s1 : ab_Stc D aC adx (fun q => s.heap.size ≤ q) s s.heap) (s2 : ab_Stc D aC adm (fun q => s.heap.size ≤ q) s s.heap) (a1 : ∀ k, k < 1000 → adx k = s.heap.size + k) (a2 : ∀ k, k < 1000 → adm k = s.heap.size + 162 + k) {i : Nat} (hi : i + 4 ≤ L) {σ μ : sg_S} (hR : Rel σ μ) {H : Heap} {locs : List Loc} {ls : Array Slot} (hW : lw_W D aC adx adm s σ μ H locs) (hl : lv_has ls 4 [(3, .int (nI i)), (2, .ref (s.heap.size + 162)), (1, .ref s.heap.size), (0, .ref b)]) {Q : State → Prop} (kk : ∀ (σ' μ' : sg_S) (H' : Heap) (locs' : List Loc), Rel σ' μ' → lw_W D aC adx adm s σ' μ' H' locs' → W p l e room_1 s m #[Value.ref b] below meth c H' locs' 600000 7302250 Q (F0 m 985 ls [])) : W p l e room_1 s m #[Value.ref b] below meth c H locs 600000 7302250 Q (F0 m 160 ls []) := by
  obtain ⟨hx, hb, hr, hml, hown, hts, hX, hbl, hlocks, hgv⟩ := id C0
  have hbA : ¬ (fun q : Nat => s.heap.size ≤ q) b := Nat.not_le.mpr hbl
  obtain ⟨w1, w2, w3⟩ := hW
  obtain ⟨v, σ', μ', k1, k2, hR'⟩ := cl_0 hR ((xs (i + 1)))
  refine lv_aload_n hx hb dL_160 rfl (lv_at hl 2 rfl) ?_
  refine lv_aload_n hx hb dL_161 rfl (lv_at hl 3 rfl) ?_
  refine lv_iload_n hx hb dL_162 rfl (lv_at hl 0 rfl) ?_
  refine lv_iconst (v := nI 1) hx hb dL_163 (by decide) ?_
  refine lv_iadd hx hb dL_164 ?_
  rw [nI_add]
  refine va_sld hx hb hX hbl hbA w3 (vp_in_nI (by omega) (by omega)) dL_165 ?_
  rw [nI_clamp (by omega)]
  refine lw_cv C0 s1 a1 tx_len (Nat.le_of_ble_eq_true rfl) (Nat.le_refl _) (by omega : 66 < 157) mr_66 lk_66 sh_x_0 (by decide) (As := [.int (xs (i + 1))]) rfl rfl (Nat.le_of_ble_eq_true rfl) (by decide) (rest := []) (Nat.le_of_ble_eq_true rfl) rfl k1 dL_166 hl.1 w1 w3 rfl (fun H1 locs1 g1 h1 f1 => ?_)
  have w2' := lw_kept (B2 := s.heap.size) (n2 := 162) w2 a2 ((sg_mk_len _ _).trans tm_len) (Nat.le_of_ble_eq_true rfl) (Or.inr (Nat.le_refl _)) f1
  refine lv_aload_n hx hb dL_169 rfl (lv_at hl 1 rfl) ?_
  refine lv_aload_n hx hb dL_170 rfl (lv_at hl 3 rfl) ?_
  refine lv_iload_n hx hb dL_171 rfl (lv_at hl 0 rfl) ?_
  refine lv_iconst (v := nI 1) hx hb dL_172 (by decide) ?_
  refine lv_iadd hx hb dL_173 ?_
  rw [nI_add]
  refine va_sld hx hb hX hbl hbA h1 (vp_in_nI (by omega) (by omega)) dL_174 ?_
  rw [nI_clamp (by omega)]
  refine lw_cv C0 s2 a2 tm_len (Nat.le_of_ble_eq_true rfl) (Nat.le_add_right _ _) (by omega : 115 < 157) mr_115 lk_115 sh_m_0 (by decide) (As := [.int (xs (i + 1))]) rfl rfl (Nat.le_of_ble_eq_true rfl) (by decide) (rest := [.int v]) (Nat.le_of_ble_eq_true rfl) rfl k2 dL_175 hl.1 w2' h1 rfl (fun H2 locs2 g2 h2 f2 => ?_)
  have w1' := lw_kept (B2 := s.heap.size + 162) (n2 := 27) g1 a1 ((sg_mk_len _ _).trans tx_len) (Nat.le_of_ble_eq_true rfl) (Or.inl (Nat.le_refl _)) f2
  refine lv_icmp_eq (tgt := 985) hx hb dL_178 (by decide) (fun _ => ?_) (fun z => absurd rfl z)
  exact kk σ' μ' H2 locs2 hR' ⟨w1', g2, h2⟩
set_option maxRecDepth 100000 in
theorem lk_67 : lw_tbl[418]? = some (.methodLink R_law 18 (ab_YM 67)) := by decide +kernel
set_option maxRecDepth 100000 in
theorem lk_116 : lw_tbl[907]? = some (.methodLink R_law 22 (ab_YM 116)) := by decide +kernel
theorem lo_1 {p : Program} {l : Launch} {e : Env} {s : State} {m : MethodId} {below : List Frame} {meth : Method} {c : Code} {b L : Nat} {xs : Nat → Int32} {D : va_G} {aC : Nat → ClassId} {adx adm : Nat → Nat} (C0 : lw_At p s m meth c b L xs) (hL : L ≤ 2048) (s1 : ab_Stc D aC adx (fun q => s.heap.size ≤ q) s s.heap) (s2 : ab_Stc D aC adm (fun q => s.heap.size ≤ q) s s.heap) (a1 : ∀ k, k < 1000 → adx k = s.heap.size + k) (a2 : ∀ k, k < 1000 → adm k = s.heap.size + 162 + k) {i : Nat} (hi : i + 4 ≤ L) {σ μ : sg_S} (hR : Rel σ μ) {H : Heap} {locs : List Loc} {ls : Array Slot} (hW : lw_W D aC adx adm s σ μ H locs) (hl : lv_has ls 4 [(3, .int (nI i)), (2, .ref (s.heap.size + 162)), (1, .ref s.heap.size), (0, .ref b)]) {Q : State → Prop} (kk : ∀ (σ' μ' : sg_S) (H' : Heap) (locs' : List Loc), Rel σ' μ' → lw_W D aC adx adm s σ' μ' H' locs' → W p l e room_1 s m #[Value.ref b] below meth c H' locs' 600000 7302250 Q (F0 m 985 ls [])) : W p l e room_1 s m #[Value.ref b] below meth c H locs 600000 7302250 Q (F0 m 183 ls []) := by
  obtain ⟨hx, hb, hr, hml, hown, hts, hX, hbl, hlocks, hgv⟩ := id C0
  have hbA : ¬ (fun q : Nat => s.heap.size ≤ q) b := Nat.not_le.mpr hbl
  obtain ⟨w1, w2, w3⟩ := hW
  obtain ⟨v, σ', μ', k1, k2, hR'⟩ := cl_1 hR 
  refine lv_aload_n hx hb dL_183 rfl (lv_at hl 2 rfl) ?_
  refine lw_cv C0 s1 a1 tx_len (Nat.le_of_ble_eq_true rfl) (Nat.le_refl _) (by omega : 67 < 157) mr_67 lk_67 sh_x_0 (by decide) (As := []) rfl rfl (Nat.le_of_ble_eq_true rfl) (by decide) (rest := []) (Nat.le_of_ble_eq_true rfl) rfl k1 dL_184 hl.1 w1 w3 rfl (fun H1 locs1 g1 h1 f1 => ?_)
  have w2' := lw_kept (B2 := s.heap.size) (n2 := 162) w2 a2 ((sg_mk_len _ _).trans tm_len) (Nat.le_of_ble_eq_true rfl) (Or.inr (Nat.le_refl _)) f1
  refine lv_aload_n hx hb dL_187 rfl (lv_at hl 1 rfl) ?_
  refine lw_cv C0 s2 a2 tm_len (Nat.le_of_ble_eq_true rfl) (Nat.le_add_right _ _) (by omega : 116 < 157) mr_116 lk_116 sh_m_0 (by decide) (As := []) rfl rfl (Nat.le_of_ble_eq_true rfl) (by decide) (rest := [.int v]) (Nat.le_of_ble_eq_true rfl) rfl k2 dL_188 hl.1 w2' h1 rfl (fun H2 locs2 g2 h2 f2 => ?_)
  have w1' := lw_kept (B2 := s.heap.size + 162) (n2 := 27) g1 a1 ((sg_mk_len _ _).trans tx_len) (Nat.le_of_ble_eq_true rfl) (Or.inl (Nat.le_refl _)) f2
  refine lv_icmp_eq (tgt := 985) hx hb dL_191 (by decide) (fun _ => ?_) (fun z => absurd rfl z)
  exact kk σ' μ' H2 locs2 hR' ⟨w1', g2, h2⟩
set_option maxRecDepth 100000 in
theorem lk_68 : lw_tbl[426]? = some (.methodLink R_law 23 (ab_YM 68)) := by decide +kernel
set_option maxRecDepth 100000 in
theorem lk_117 : lw_tbl[911]? = some (.methodLink R_law 26 (ab_YM 117)) := by decide +kernel
theorem lo_2 {p : Program} {l : Launch} {e : Env} {s : State} {m : MethodId} {below : List Frame} {meth : Method} {c : Code} {b L : Nat} {xs : Nat → Int32} {D : va_G} {aC : Nat → ClassId} {adx adm : Nat → Nat} (C0 : lw_At p s m meth c b L xs) (hL : L ≤ 2048) (s1 : ab_Stc D aC adx (fun q => s.heap.size ≤ q) s s.heap) (s2 : ab_Stc D aC adm (fun q => s.heap.size ≤ q) s s.heap) (a1 : ∀ k, k < 1000 → adx k = s.heap.size + k) (a2 : ∀ k, k < 1000 → adm k = s.heap.size + 162 + k) {i : Nat} (hi : i + 4 ≤ L) {σ μ : sg_S} (hR : Rel σ μ) {H : Heap} {locs : List Loc} {ls : Array Slot} (hW : lw_W D aC adx adm s σ μ H locs) (hl : lv_has ls 4 [(3, .int (nI i)), (2, .ref (s.heap.size + 162)), (1, .ref s.heap.size), (0, .ref b)]) {Q : State → Prop} (kk : ∀ (σ' μ' : sg_S) (H' : Heap) (locs' : List Loc), Rel σ' μ' → lw_W D aC adx adm s σ' μ' H' locs' → W p l e room_1 s m #[Value.ref b] below meth c H' locs' 600000 7302250 Q (F0 m 985 ls [])) : W p l e room_1 s m #[Value.ref b] below meth c H locs 600000 7302250 Q (F0 m 196 ls []) := by
  obtain ⟨hx, hb, hr, hml, hown, hts, hX, hbl, hlocks, hgv⟩ := id C0
  have hbA : ¬ (fun q : Nat => s.heap.size ≤ q) b := Nat.not_le.mpr hbl
  obtain ⟨w1, w2, w3⟩ := hW
  obtain ⟨v, σ', μ', k1, k2, hR'⟩ := cl_2 hR 
  refine lv_aload_n hx hb dL_196 rfl (lv_at hl 2 rfl) ?_
  refine lw_cv C0 s1 a1 tx_len (Nat.le_of_ble_eq_true rfl) (Nat.le_refl _) (by omega : 68 < 157) mr_68 lk_68 sh_x_0 (by decide) (As := []) rfl rfl (Nat.le_of_ble_eq_true rfl) (by decide) (rest := []) (Nat.le_of_ble_eq_true rfl) rfl k1 dL_197 hl.1 w1 w3 rfl (fun H1 locs1 g1 h1 f1 => ?_)
  have w2' := lw_kept (B2 := s.heap.size) (n2 := 162) w2 a2 ((sg_mk_len _ _).trans tm_len) (Nat.le_of_ble_eq_true rfl) (Or.inr (Nat.le_refl _)) f1
  refine lv_aload_n hx hb dL_200 rfl (lv_at hl 1 rfl) ?_
  refine lw_cv C0 s2 a2 tm_len (Nat.le_of_ble_eq_true rfl) (Nat.le_add_right _ _) (by omega : 117 < 157) mr_117 lk_117 sh_m_0 (by decide) (As := []) rfl rfl (Nat.le_of_ble_eq_true rfl) (by decide) (rest := [.int v]) (Nat.le_of_ble_eq_true rfl) rfl k2 dL_201 hl.1 w2' h1 rfl (fun H2 locs2 g2 h2 f2 => ?_)
  have w1' := lw_kept (B2 := s.heap.size + 162) (n2 := 27) g1 a1 ((sg_mk_len _ _).trans tx_len) (Nat.le_of_ble_eq_true rfl) (Or.inl (Nat.le_refl _)) f2
  refine lv_icmp_eq (tgt := 985) hx hb dL_204 (by decide) (fun _ => ?_) (fun z => absurd rfl z)
  exact kk σ' μ' H2 locs2 hR' ⟨w1', g2, h2⟩
set_option maxRecDepth 100000 in
theorem lk_69 : lw_tbl[447]? = some (.methodLink R_law 27 (ab_YM 69)) := by decide +kernel
set_option maxRecDepth 100000 in
theorem lk_122 : lw_tbl[915]? = some (.methodLink R_law 30 (ab_YM 122)) := by decide +kernel
theorem lo_3 {p : Program} {l : Launch} {e : Env} {s : State} {m : MethodId} {below : List Frame} {meth : Method} {c : Code} {b L : Nat} {xs : Nat → Int32} {D : va_G} {aC : Nat → ClassId} {adx adm : Nat → Nat} (C0 : lw_At p s m meth c b L xs) (hL : L ≤ 2048) (s1 : ab_Stc D aC adx (fun q => s.heap.size ≤ q) s s.heap) (s2 : ab_Stc D aC adm (fun q => s.heap.size ≤ q) s s.heap) (a1 : ∀ k, k < 1000 → adx k = s.heap.size + k) (a2 : ∀ k, k < 1000 → adm k = s.heap.size + 162 + k) {i : Nat} (hi : i + 4 ≤ L) {σ μ : sg_S} (hR : Rel σ μ) {H : Heap} {locs : List Loc} {ls : Array Slot} (hW : lw_W D aC adx adm s σ μ H locs) (hl : lv_has ls 4 [(3, .int (nI i)), (2, .ref (s.heap.size + 162)), (1, .ref s.heap.size), (0, .ref b)]) {Q : State → Prop} (kk : ∀ (σ' μ' : sg_S) (H' : Heap) (locs' : List Loc), Rel σ' μ' → lw_W D aC adx adm s σ' μ' H' locs' → W p l e room_1 s m #[Value.ref b] below meth c H' locs' 600000 7302250 Q (F0 m 985 ls [])) : W p l e room_1 s m #[Value.ref b] below meth c H locs 600000 7302250 Q (F0 m 209 ls []) := by
  obtain ⟨hx, hb, hr, hml, hown, hts, hX, hbl, hlocks, hgv⟩ := id C0
  have hbA : ¬ (fun q : Nat => s.heap.size ≤ q) b := Nat.not_le.mpr hbl
  obtain ⟨w1, w2, w3⟩ := hW
  obtain ⟨v, σ', μ', k1, k2, hR'⟩ := cl_3 hR 
  refine lv_aload_n hx hb dL_209 rfl (lv_at hl 2 rfl) ?_
  refine lw_cv C0 s1 a1 tx_len (Nat.le_of_ble_eq_true rfl) (Nat.le_refl _) (by omega : 69 < 157) mr_69 lk_69 sh_x_0 (by decide) (As := []) rfl rfl (Nat.le_of_ble_eq_true rfl) (by decide) (rest := []) (Nat.le_of_ble_eq_true rfl) rfl k1 dL_210 hl.1 w1 w3 rfl (fun H1 locs1 g1 h1 f1 => ?_)
  have w2' := lw_kept (B2 := s.heap.size) (n2 := 162) w2 a2 ((sg_mk_len _ _).trans tm_len) (Nat.le_of_ble_eq_true rfl) (Or.inr (Nat.le_refl _)) f1
  refine lv_aload_n hx hb dL_213 rfl (lv_at hl 1 rfl) ?_
  refine lw_cv C0 s2 a2 tm_len (Nat.le_of_ble_eq_true rfl) (Nat.le_add_right _ _) (by omega : 122 < 157) mr_122 lk_122 sh_m_0 (by decide) (As := []) rfl rfl (Nat.le_of_ble_eq_true rfl) (by decide) (rest := [.int v]) (Nat.le_of_ble_eq_true rfl) rfl k2 dL_214 hl.1 w2' h1 rfl (fun H2 locs2 g2 h2 f2 => ?_)
  have w1' := lw_kept (B2 := s.heap.size + 162) (n2 := 27) g1 a1 ((sg_mk_len _ _).trans tx_len) (Nat.le_of_ble_eq_true rfl) (Or.inl (Nat.le_refl _)) f2
  refine lv_icmp_eq (tgt := 985) hx hb dL_217 (by decide) (fun _ => ?_) (fun z => absurd rfl z)
  exact kk σ' μ' H2 locs2 hR' ⟨w1', g2, h2⟩
set_option maxRecDepth 100000 in
theorem lk_70 : lw_tbl[537]? = some (.methodLink R_law 31 (ab_YM 70)) := by decide +kernel
set_option maxRecDepth 100000 in
theorem lk_126 : lw_tbl[945]? = some (.methodLink R_law 35 (ab_YM 126)) := by decide +kernel
theorem lo_4 {p : Program} {l : Launch} {e : Env} {s : State} {m : MethodId} {below : List Frame} {meth : Method} {c : Code} {b L : Nat} {xs : Nat → Int32} {D : va_G} {aC : Nat → ClassId} {adx adm : Nat → Nat} (C0 : lw_At p s m meth c b L xs) (hL : L ≤ 2048) (s1 : ab_Stc D aC adx (fun q => s.heap.size ≤ q) s s.heap) (s2 : ab_Stc D aC adm (fun q => s.heap.size ≤ q) s s.heap) (a1 : ∀ k, k < 1000 → adx k = s.heap.size + k) (a2 : ∀ k, k < 1000 → adm k = s.heap.size + 162 + k) {i : Nat} (hi : i + 4 ≤ L) {σ μ : sg_S} (hR : Rel σ μ) {H : Heap} {locs : List Loc} {ls : Array Slot} (hW : lw_W D aC adx adm s σ μ H locs) (hl : lv_has ls 4 [(3, .int (nI i)), (2, .ref (s.heap.size + 162)), (1, .ref s.heap.size), (0, .ref b)]) {Q : State → Prop} (kk : ∀ (σ' μ' : sg_S) (H' : Heap) (locs' : List Loc), Rel σ' μ' → lw_W D aC adx adm s σ' μ' H' locs' → W p l e room_1 s m #[Value.ref b] below meth c H' locs' 600000 7302250 Q (F0 m 985 ls [])) : W p l e room_1 s m #[Value.ref b] below meth c H locs 600000 7302250 Q (F0 m 222 ls []) := by
  obtain ⟨hx, hb, hr, hml, hown, hts, hX, hbl, hlocks, hgv⟩ := id C0
  have hbA : ¬ (fun q : Nat => s.heap.size ≤ q) b := Nat.not_le.mpr hbl
  obtain ⟨w1, w2, w3⟩ := hW
  obtain ⟨v, σ', μ', k1, k2, hR'⟩ := cl_4 hR ((xs (i + 1))) ((xs (i + 2))) ((xs (i + 3)))
  refine lv_aload_n hx hb dL_222 rfl (lv_at hl 2 rfl) ?_
  refine lv_aload_n hx hb dL_223 rfl (lv_at hl 3 rfl) ?_
  refine lv_iload_n hx hb dL_224 rfl (lv_at hl 0 rfl) ?_
  refine lv_iconst (v := nI 1) hx hb dL_225 (by decide) ?_
  refine lv_iadd hx hb dL_226 ?_
  rw [nI_add]
  refine va_sld hx hb hX hbl hbA w3 (vp_in_nI (by omega) (by omega)) dL_227 ?_
  rw [nI_clamp (by omega)]
  refine lv_aload_n hx hb dL_228 rfl (lv_at hl 3 rfl) ?_
  refine lv_iload_n hx hb dL_229 rfl (lv_at hl 0 rfl) ?_
  refine lv_iconst (v := nI 2) hx hb dL_230 (by decide) ?_
  refine lv_iadd hx hb dL_231 ?_
  rw [nI_add]
  refine va_sld hx hb hX hbl hbA w3 (vp_in_nI (by omega) (by omega)) dL_232 ?_
  rw [nI_clamp (by omega)]
  refine lv_aload_n hx hb dL_233 rfl (lv_at hl 3 rfl) ?_
  refine lv_iload_n hx hb dL_234 rfl (lv_at hl 0 rfl) ?_
  refine lv_iconst (v := nI 3) hx hb dL_235 (by decide) ?_
  refine lv_iadd hx hb dL_236 ?_
  rw [nI_add]
  refine va_sld hx hb hX hbl hbA w3 (vp_in_nI (by omega) (by omega)) dL_237 ?_
  rw [nI_clamp (by omega)]
  refine lw_cv C0 s1 a1 tx_len (Nat.le_of_ble_eq_true rfl) (Nat.le_refl _) (by omega : 70 < 157) mr_70 lk_70 sh_x_0 (by decide) (As := [.int (xs (i + 1)), .int (xs (i + 2)), .int (xs (i + 3))]) rfl rfl (Nat.le_of_ble_eq_true rfl) (by decide) (rest := []) (Nat.le_of_ble_eq_true rfl) rfl k1 dL_238 hl.1 w1 w3 rfl (fun H1 locs1 g1 h1 f1 => ?_)
  have w2' := lw_kept (B2 := s.heap.size) (n2 := 162) w2 a2 ((sg_mk_len _ _).trans tm_len) (Nat.le_of_ble_eq_true rfl) (Or.inr (Nat.le_refl _)) f1
  refine lv_aload_n hx hb dL_241 rfl (lv_at hl 1 rfl) ?_
  refine lv_aload_n hx hb dL_242 rfl (lv_at hl 3 rfl) ?_
  refine lv_iload_n hx hb dL_243 rfl (lv_at hl 0 rfl) ?_
  refine lv_iconst (v := nI 1) hx hb dL_244 (by decide) ?_
  refine lv_iadd hx hb dL_245 ?_
  rw [nI_add]
  refine va_sld hx hb hX hbl hbA h1 (vp_in_nI (by omega) (by omega)) dL_246 ?_
  rw [nI_clamp (by omega)]
  refine lv_aload_n hx hb dL_247 rfl (lv_at hl 3 rfl) ?_
  refine lv_iload_n hx hb dL_248 rfl (lv_at hl 0 rfl) ?_
  refine lv_iconst (v := nI 2) hx hb dL_249 (by decide) ?_
  refine lv_iadd hx hb dL_250 ?_
  rw [nI_add]
  refine va_sld hx hb hX hbl hbA h1 (vp_in_nI (by omega) (by omega)) dL_251 ?_
  rw [nI_clamp (by omega)]
  refine lv_aload_n hx hb dL_252 rfl (lv_at hl 3 rfl) ?_
  refine lv_iload_n hx hb dL_253 rfl (lv_at hl 0 rfl) ?_
  refine lv_iconst (v := nI 3) hx hb dL_254 (by decide) ?_
  refine lv_iadd hx hb dL_255 ?_
  rw [nI_add]
  refine va_sld hx hb hX hbl hbA h1 (vp_in_nI (by omega) (by omega)) dL_256 ?_
  rw [nI_clamp (by omega)]
  refine lw_cv C0 s2 a2 tm_len (Nat.le_of_ble_eq_true rfl) (Nat.le_add_right _ _) (by omega : 126 < 157) mr_126 lk_126 sh_m_0 (by decide) (As := [.int (xs (i + 1)), .int (xs (i + 2)), .int (xs (i + 3))]) rfl rfl (Nat.le_of_ble_eq_true rfl) (by decide) (rest := [.int v]) (Nat.le_of_ble_eq_true rfl) rfl k2 dL_257 hl.1 w2' h1 rfl (fun H2 locs2 g2 h2 f2 => ?_)
  have w1' := lw_kept (B2 := s.heap.size + 162) (n2 := 27) g1 a1 ((sg_mk_len _ _).trans tx_len) (Nat.le_of_ble_eq_true rfl) (Or.inl (Nat.le_refl _)) f2
  refine lv_icmp_eq (tgt := 985) hx hb dL_260 (by decide) (fun _ => ?_) (fun z => absurd rfl z)
  exact kk σ' μ' H2 locs2 hR' ⟨w1', g2, h2⟩
set_option maxRecDepth 100000 in
theorem lk_71 : lw_tbl[547]? = some (.methodLink R_law 36 (ab_YM 71)) := by decide +kernel
set_option maxRecDepth 100000 in
theorem lk_138 : lw_tbl[960]? = some (.methodLink R_law 39 (ab_YM 138)) := by decide +kernel
theorem lo_5 {p : Program} {l : Launch} {e : Env} {s : State} {m : MethodId} {below : List Frame} {meth : Method} {c : Code} {b L : Nat} {xs : Nat → Int32} {D : va_G} {aC : Nat → ClassId} {adx adm : Nat → Nat} (C0 : lw_At p s m meth c b L xs) (hL : L ≤ 2048) (s1 : ab_Stc D aC adx (fun q => s.heap.size ≤ q) s s.heap) (s2 : ab_Stc D aC adm (fun q => s.heap.size ≤ q) s s.heap) (a1 : ∀ k, k < 1000 → adx k = s.heap.size + k) (a2 : ∀ k, k < 1000 → adm k = s.heap.size + 162 + k) {i : Nat} (hi : i + 4 ≤ L) {σ μ : sg_S} (hR : Rel σ μ) {H : Heap} {locs : List Loc} {ls : Array Slot} (hW : lw_W D aC adx adm s σ μ H locs) (hl : lv_has ls 4 [(3, .int (nI i)), (2, .ref (s.heap.size + 162)), (1, .ref s.heap.size), (0, .ref b)]) {Q : State → Prop} (kk : ∀ (σ' μ' : sg_S) (H' : Heap) (locs' : List Loc), Rel σ' μ' → lw_W D aC adx adm s σ' μ' H' locs' → W p l e room_1 s m #[Value.ref b] below meth c H' locs' 600000 7302250 Q (F0 m 985 ls [])) : W p l e room_1 s m #[Value.ref b] below meth c H locs 600000 7302250 Q (F0 m 265 ls []) := by
  obtain ⟨hx, hb, hr, hml, hown, hts, hX, hbl, hlocks, hgv⟩ := id C0
  have hbA : ¬ (fun q : Nat => s.heap.size ≤ q) b := Nat.not_le.mpr hbl
  obtain ⟨w1, w2, w3⟩ := hW
  obtain ⟨v, σ', μ', k1, k2, hR'⟩ := cl_5 hR ((xs (i + 1)))
  refine lv_aload_n hx hb dL_265 rfl (lv_at hl 2 rfl) ?_
  refine lv_aload_n hx hb dL_266 rfl (lv_at hl 3 rfl) ?_
  refine lv_iload_n hx hb dL_267 rfl (lv_at hl 0 rfl) ?_
  refine lv_iconst (v := nI 1) hx hb dL_268 (by decide) ?_
  refine lv_iadd hx hb dL_269 ?_
  rw [nI_add]
  refine va_sld hx hb hX hbl hbA w3 (vp_in_nI (by omega) (by omega)) dL_270 ?_
  rw [nI_clamp (by omega)]
  refine lw_cv C0 s1 a1 tx_len (Nat.le_of_ble_eq_true rfl) (Nat.le_refl _) (by omega : 71 < 157) mr_71 lk_71 sh_x_0 (by decide) (As := [.int (xs (i + 1))]) rfl rfl (Nat.le_of_ble_eq_true rfl) (by decide) (rest := []) (Nat.le_of_ble_eq_true rfl) rfl k1 dL_271 hl.1 w1 w3 rfl (fun H1 locs1 g1 h1 f1 => ?_)
  have w2' := lw_kept (B2 := s.heap.size) (n2 := 162) w2 a2 ((sg_mk_len _ _).trans tm_len) (Nat.le_of_ble_eq_true rfl) (Or.inr (Nat.le_refl _)) f1
  refine lv_aload_n hx hb dL_274 rfl (lv_at hl 1 rfl) ?_
  refine lv_aload_n hx hb dL_275 rfl (lv_at hl 3 rfl) ?_
  refine lv_iload_n hx hb dL_276 rfl (lv_at hl 0 rfl) ?_
  refine lv_iconst (v := nI 1) hx hb dL_277 (by decide) ?_
  refine lv_iadd hx hb dL_278 ?_
  rw [nI_add]
  refine va_sld hx hb hX hbl hbA h1 (vp_in_nI (by omega) (by omega)) dL_279 ?_
  rw [nI_clamp (by omega)]
  refine lw_cv C0 s2 a2 tm_len (Nat.le_of_ble_eq_true rfl) (Nat.le_add_right _ _) (by omega : 138 < 157) mr_138 lk_138 sh_m_0 (by decide) (As := [.int (xs (i + 1))]) rfl rfl (Nat.le_of_ble_eq_true rfl) (by decide) (rest := [.int v]) (Nat.le_of_ble_eq_true rfl) rfl k2 dL_280 hl.1 w2' h1 rfl (fun H2 locs2 g2 h2 f2 => ?_)
  have w1' := lw_kept (B2 := s.heap.size + 162) (n2 := 27) g1 a1 ((sg_mk_len _ _).trans tx_len) (Nat.le_of_ble_eq_true rfl) (Or.inl (Nat.le_refl _)) f2
  refine lv_icmp_eq (tgt := 985) hx hb dL_283 (by decide) (fun _ => ?_) (fun z => absurd rfl z)
  exact kk σ' μ' H2 locs2 hR' ⟨w1', g2, h2⟩
set_option maxRecDepth 100000 in
theorem lk_72 : lw_tbl[578]? = some (.methodLink R_law 40 (ab_YM 72)) := by decide +kernel
set_option maxRecDepth 100000 in
theorem lk_139 : lw_tbl[988]? = some (.methodLink R_law 43 (ab_YM 139)) := by decide +kernel
theorem lo_6 {p : Program} {l : Launch} {e : Env} {s : State} {m : MethodId} {below : List Frame} {meth : Method} {c : Code} {b L : Nat} {xs : Nat → Int32} {D : va_G} {aC : Nat → ClassId} {adx adm : Nat → Nat} (C0 : lw_At p s m meth c b L xs) (hL : L ≤ 2048) (s1 : ab_Stc D aC adx (fun q => s.heap.size ≤ q) s s.heap) (s2 : ab_Stc D aC adm (fun q => s.heap.size ≤ q) s s.heap) (a1 : ∀ k, k < 1000 → adx k = s.heap.size + k) (a2 : ∀ k, k < 1000 → adm k = s.heap.size + 162 + k) {i : Nat} (hi : i + 4 ≤ L) {σ μ : sg_S} (hR : Rel σ μ) {H : Heap} {locs : List Loc} {ls : Array Slot} (hW : lw_W D aC adx adm s σ μ H locs) (hl : lv_has ls 4 [(3, .int (nI i)), (2, .ref (s.heap.size + 162)), (1, .ref s.heap.size), (0, .ref b)]) {Q : State → Prop} (kk : ∀ (σ' μ' : sg_S) (H' : Heap) (locs' : List Loc), Rel σ' μ' → lw_W D aC adx adm s σ' μ' H' locs' → W p l e room_1 s m #[Value.ref b] below meth c H' locs' 600000 7302250 Q (F0 m 985 ls [])) : W p l e room_1 s m #[Value.ref b] below meth c H locs 600000 7302250 Q (F0 m 288 ls []) := by
  obtain ⟨hx, hb, hr, hml, hown, hts, hX, hbl, hlocks, hgv⟩ := id C0
  have hbA : ¬ (fun q : Nat => s.heap.size ≤ q) b := Nat.not_le.mpr hbl
  obtain ⟨w1, w2, w3⟩ := hW
  obtain ⟨v, σ', μ', k1, k2, hR'⟩ := cl_6 hR ((xs (i + 1)))
  refine lv_aload_n hx hb dL_288 rfl (lv_at hl 2 rfl) ?_
  refine lv_aload_n hx hb dL_289 rfl (lv_at hl 3 rfl) ?_
  refine lv_iload_n hx hb dL_290 rfl (lv_at hl 0 rfl) ?_
  refine lv_iconst (v := nI 1) hx hb dL_291 (by decide) ?_
  refine lv_iadd hx hb dL_292 ?_
  rw [nI_add]
  refine va_sld hx hb hX hbl hbA w3 (vp_in_nI (by omega) (by omega)) dL_293 ?_
  rw [nI_clamp (by omega)]
  refine lw_cv C0 s1 a1 tx_len (Nat.le_of_ble_eq_true rfl) (Nat.le_refl _) (by omega : 72 < 157) mr_72 lk_72 sh_x_0 (by decide) (As := [.int (xs (i + 1))]) rfl rfl (Nat.le_of_ble_eq_true rfl) (by decide) (rest := []) (Nat.le_of_ble_eq_true rfl) rfl k1 dL_294 hl.1 w1 w3 rfl (fun H1 locs1 g1 h1 f1 => ?_)
  have w2' := lw_kept (B2 := s.heap.size) (n2 := 162) w2 a2 ((sg_mk_len _ _).trans tm_len) (Nat.le_of_ble_eq_true rfl) (Or.inr (Nat.le_refl _)) f1
  refine lv_aload_n hx hb dL_297 rfl (lv_at hl 1 rfl) ?_
  refine lv_aload_n hx hb dL_298 rfl (lv_at hl 3 rfl) ?_
  refine lv_iload_n hx hb dL_299 rfl (lv_at hl 0 rfl) ?_
  refine lv_iconst (v := nI 1) hx hb dL_300 (by decide) ?_
  refine lv_iadd hx hb dL_301 ?_
  rw [nI_add]
  refine va_sld hx hb hX hbl hbA h1 (vp_in_nI (by omega) (by omega)) dL_302 ?_
  rw [nI_clamp (by omega)]
  refine lw_cv C0 s2 a2 tm_len (Nat.le_of_ble_eq_true rfl) (Nat.le_add_right _ _) (by omega : 139 < 157) mr_139 lk_139 sh_m_0 (by decide) (As := [.int (xs (i + 1))]) rfl rfl (Nat.le_of_ble_eq_true rfl) (by decide) (rest := [.int v]) (Nat.le_of_ble_eq_true rfl) rfl k2 dL_303 hl.1 w2' h1 rfl (fun H2 locs2 g2 h2 f2 => ?_)
  have w1' := lw_kept (B2 := s.heap.size + 162) (n2 := 27) g1 a1 ((sg_mk_len _ _).trans tx_len) (Nat.le_of_ble_eq_true rfl) (Or.inl (Nat.le_refl _)) f2
  refine lv_icmp_eq (tgt := 985) hx hb dL_306 (by decide) (fun _ => ?_) (fun z => absurd rfl z)
  exact kk σ' μ' H2 locs2 hR' ⟨w1', g2, h2⟩
set_option maxRecDepth 100000 in
theorem lk_73 : lw_tbl[583]? = some (.methodLink R_law 44 (ab_YM 73)) := by decide +kernel
set_option maxRecDepth 100000 in
theorem lk_140 : lw_tbl[992]? = some (.methodLink R_law 47 (ab_YM 140)) := by decide +kernel
theorem lo_7 {p : Program} {l : Launch} {e : Env} {s : State} {m : MethodId} {below : List Frame} {meth : Method} {c : Code} {b L : Nat} {xs : Nat → Int32} {D : va_G} {aC : Nat → ClassId} {adx adm : Nat → Nat} (C0 : lw_At p s m meth c b L xs) (hL : L ≤ 2048) (s1 : ab_Stc D aC adx (fun q => s.heap.size ≤ q) s s.heap) (s2 : ab_Stc D aC adm (fun q => s.heap.size ≤ q) s s.heap) (a1 : ∀ k, k < 1000 → adx k = s.heap.size + k) (a2 : ∀ k, k < 1000 → adm k = s.heap.size + 162 + k) {i : Nat} (hi : i + 4 ≤ L) {σ μ : sg_S} (hR : Rel σ μ) {H : Heap} {locs : List Loc} {ls : Array Slot} (hW : lw_W D aC adx adm s σ μ H locs) (hl : lv_has ls 4 [(3, .int (nI i)), (2, .ref (s.heap.size + 162)), (1, .ref s.heap.size), (0, .ref b)]) {Q : State → Prop} (kk : ∀ (σ' μ' : sg_S) (H' : Heap) (locs' : List Loc), Rel σ' μ' → lw_W D aC adx adm s σ' μ' H' locs' → W p l e room_1 s m #[Value.ref b] below meth c H' locs' 600000 7302250 Q (F0 m 985 ls [])) : W p l e room_1 s m #[Value.ref b] below meth c H locs 600000 7302250 Q (F0 m 311 ls []) := by
  obtain ⟨hx, hb, hr, hml, hown, hts, hX, hbl, hlocks, hgv⟩ := id C0
  have hbA : ¬ (fun q : Nat => s.heap.size ≤ q) b := Nat.not_le.mpr hbl
  obtain ⟨w1, w2, w3⟩ := hW
  obtain ⟨v, σ', μ', k1, k2, hR'⟩ := cl_7 hR ((xs (i + 1))) ((xs (i + 2))) ((xs (i + 3)))
  refine lv_aload_n hx hb dL_311 rfl (lv_at hl 2 rfl) ?_
  refine lv_aload_n hx hb dL_312 rfl (lv_at hl 3 rfl) ?_
  refine lv_iload_n hx hb dL_313 rfl (lv_at hl 0 rfl) ?_
  refine lv_iconst (v := nI 1) hx hb dL_314 (by decide) ?_
  refine lv_iadd hx hb dL_315 ?_
  rw [nI_add]
  refine va_sld hx hb hX hbl hbA w3 (vp_in_nI (by omega) (by omega)) dL_316 ?_
  rw [nI_clamp (by omega)]
  refine lv_aload_n hx hb dL_317 rfl (lv_at hl 3 rfl) ?_
  refine lv_iload_n hx hb dL_318 rfl (lv_at hl 0 rfl) ?_
  refine lv_iconst (v := nI 2) hx hb dL_319 (by decide) ?_
  refine lv_iadd hx hb dL_320 ?_
  rw [nI_add]
  refine va_sld hx hb hX hbl hbA w3 (vp_in_nI (by omega) (by omega)) dL_321 ?_
  rw [nI_clamp (by omega)]
  refine lv_aload_n hx hb dL_322 rfl (lv_at hl 3 rfl) ?_
  refine lv_iload_n hx hb dL_323 rfl (lv_at hl 0 rfl) ?_
  refine lv_iconst (v := nI 3) hx hb dL_324 (by decide) ?_
  refine lv_iadd hx hb dL_325 ?_
  rw [nI_add]
  refine va_sld hx hb hX hbl hbA w3 (vp_in_nI (by omega) (by omega)) dL_326 ?_
  rw [nI_clamp (by omega)]
  refine lw_cv C0 s1 a1 tx_len (Nat.le_of_ble_eq_true rfl) (Nat.le_refl _) (by omega : 73 < 157) mr_73 lk_73 sh_x_0 (by decide) (As := [.int (xs (i + 1)), .int (xs (i + 2)), .int (xs (i + 3))]) rfl rfl (Nat.le_of_ble_eq_true rfl) (by decide) (rest := []) (Nat.le_of_ble_eq_true rfl) rfl k1 dL_327 hl.1 w1 w3 rfl (fun H1 locs1 g1 h1 f1 => ?_)
  have w2' := lw_kept (B2 := s.heap.size) (n2 := 162) w2 a2 ((sg_mk_len _ _).trans tm_len) (Nat.le_of_ble_eq_true rfl) (Or.inr (Nat.le_refl _)) f1
  refine lv_aload_n hx hb dL_330 rfl (lv_at hl 1 rfl) ?_
  refine lv_aload_n hx hb dL_331 rfl (lv_at hl 3 rfl) ?_
  refine lv_iload_n hx hb dL_332 rfl (lv_at hl 0 rfl) ?_
  refine lv_iconst (v := nI 1) hx hb dL_333 (by decide) ?_
  refine lv_iadd hx hb dL_334 ?_
  rw [nI_add]
  refine va_sld hx hb hX hbl hbA h1 (vp_in_nI (by omega) (by omega)) dL_335 ?_
  rw [nI_clamp (by omega)]
  refine lv_aload_n hx hb dL_336 rfl (lv_at hl 3 rfl) ?_
  refine lv_iload_n hx hb dL_337 rfl (lv_at hl 0 rfl) ?_
  refine lv_iconst (v := nI 2) hx hb dL_338 (by decide) ?_
  refine lv_iadd hx hb dL_339 ?_
  rw [nI_add]
  refine va_sld hx hb hX hbl hbA h1 (vp_in_nI (by omega) (by omega)) dL_340 ?_
  rw [nI_clamp (by omega)]
  refine lv_aload_n hx hb dL_341 rfl (lv_at hl 3 rfl) ?_
  refine lv_iload_n hx hb dL_342 rfl (lv_at hl 0 rfl) ?_
  refine lv_iconst (v := nI 3) hx hb dL_343 (by decide) ?_
  refine lv_iadd hx hb dL_344 ?_
  rw [nI_add]
  refine va_sld hx hb hX hbl hbA h1 (vp_in_nI (by omega) (by omega)) dL_345 ?_
  rw [nI_clamp (by omega)]
  refine lw_cv C0 s2 a2 tm_len (Nat.le_of_ble_eq_true rfl) (Nat.le_add_right _ _) (by omega : 140 < 157) mr_140 lk_140 sh_m_0 (by decide) (As := [.int (xs (i + 1)), .int (xs (i + 2)), .int (xs (i + 3))]) rfl rfl (Nat.le_of_ble_eq_true rfl) (by decide) (rest := [.int v]) (Nat.le_of_ble_eq_true rfl) rfl k2 dL_346 hl.1 w2' h1 rfl (fun H2 locs2 g2 h2 f2 => ?_)
  have w1' := lw_kept (B2 := s.heap.size + 162) (n2 := 27) g1 a1 ((sg_mk_len _ _).trans tx_len) (Nat.le_of_ble_eq_true rfl) (Or.inl (Nat.le_refl _)) f2
  refine lv_icmp_eq (tgt := 985) hx hb dL_349 (by decide) (fun _ => ?_) (fun z => absurd rfl z)
  exact kk σ' μ' H2 locs2 hR' ⟨w1', g2, h2⟩
set_option maxRecDepth 100000 in
theorem lk_74 : lw_tbl[599]? = some (.methodLink R_law 48 (ab_YM 74)) := by decide +kernel
set_option maxRecDepth 100000 in
theorem lk_141 : lw_tbl[1004]? = some (.methodLink R_law 52 (ab_YM 141)) := by decide +kernel
theorem lo_8 {p : Program} {l : Launch} {e : Env} {s : State} {m : MethodId} {below : List Frame} {meth : Method} {c : Code} {b L : Nat} {xs : Nat → Int32} {D : va_G} {aC : Nat → ClassId} {adx adm : Nat → Nat} (C0 : lw_At p s m meth c b L xs) (hL : L ≤ 2048) (s1 : ab_Stc D aC adx (fun q => s.heap.size ≤ q) s s.heap) (s2 : ab_Stc D aC adm (fun q => s.heap.size ≤ q) s s.heap) (a1 : ∀ k, k < 1000 → adx k = s.heap.size + k) (a2 : ∀ k, k < 1000 → adm k = s.heap.size + 162 + k) {i : Nat} (hi : i + 4 ≤ L) {σ μ : sg_S} (hR : Rel σ μ) {H : Heap} {locs : List Loc} {ls : Array Slot} (hW : lw_W D aC adx adm s σ μ H locs) (hl : lv_has ls 4 [(3, .int (nI i)), (2, .ref (s.heap.size + 162)), (1, .ref s.heap.size), (0, .ref b)]) {Q : State → Prop} (kk : ∀ (σ' μ' : sg_S) (H' : Heap) (locs' : List Loc), Rel σ' μ' → lw_W D aC adx adm s σ' μ' H' locs' → W p l e room_1 s m #[Value.ref b] below meth c H' locs' 600000 7302250 Q (F0 m 985 ls [])) : W p l e room_1 s m #[Value.ref b] below meth c H locs 600000 7302250 Q (F0 m 354 ls []) := by
  obtain ⟨hx, hb, hr, hml, hown, hts, hX, hbl, hlocks, hgv⟩ := id C0
  have hbA : ¬ (fun q : Nat => s.heap.size ≤ q) b := Nat.not_le.mpr hbl
  obtain ⟨w1, w2, w3⟩ := hW
  obtain ⟨v, σ', μ', k1, k2, hR'⟩ := cl_8 hR ((xs (i + 1))) ((xs (i + 2)))
  refine lv_aload_n hx hb dL_354 rfl (lv_at hl 2 rfl) ?_
  refine lv_aload_n hx hb dL_355 rfl (lv_at hl 3 rfl) ?_
  refine lv_iload_n hx hb dL_356 rfl (lv_at hl 0 rfl) ?_
  refine lv_iconst (v := nI 1) hx hb dL_357 (by decide) ?_
  refine lv_iadd hx hb dL_358 ?_
  rw [nI_add]
  refine va_sld hx hb hX hbl hbA w3 (vp_in_nI (by omega) (by omega)) dL_359 ?_
  rw [nI_clamp (by omega)]
  refine lv_aload_n hx hb dL_360 rfl (lv_at hl 3 rfl) ?_
  refine lv_iload_n hx hb dL_361 rfl (lv_at hl 0 rfl) ?_
  refine lv_iconst (v := nI 2) hx hb dL_362 (by decide) ?_
  refine lv_iadd hx hb dL_363 ?_
  rw [nI_add]
  refine va_sld hx hb hX hbl hbA w3 (vp_in_nI (by omega) (by omega)) dL_364 ?_
  rw [nI_clamp (by omega)]
  refine lw_cv C0 s1 a1 tx_len (Nat.le_of_ble_eq_true rfl) (Nat.le_refl _) (by omega : 74 < 157) mr_74 lk_74 sh_x_0 (by decide) (As := [.int (xs (i + 1)), .int (xs (i + 2))]) rfl rfl (Nat.le_of_ble_eq_true rfl) (by decide) (rest := []) (Nat.le_of_ble_eq_true rfl) rfl k1 dL_365 hl.1 w1 w3 rfl (fun H1 locs1 g1 h1 f1 => ?_)
  have w2' := lw_kept (B2 := s.heap.size) (n2 := 162) w2 a2 ((sg_mk_len _ _).trans tm_len) (Nat.le_of_ble_eq_true rfl) (Or.inr (Nat.le_refl _)) f1
  refine lv_aload_n hx hb dL_368 rfl (lv_at hl 1 rfl) ?_
  refine lv_aload_n hx hb dL_369 rfl (lv_at hl 3 rfl) ?_
  refine lv_iload_n hx hb dL_370 rfl (lv_at hl 0 rfl) ?_
  refine lv_iconst (v := nI 1) hx hb dL_371 (by decide) ?_
  refine lv_iadd hx hb dL_372 ?_
  rw [nI_add]
  refine va_sld hx hb hX hbl hbA h1 (vp_in_nI (by omega) (by omega)) dL_373 ?_
  rw [nI_clamp (by omega)]
  refine lv_aload_n hx hb dL_374 rfl (lv_at hl 3 rfl) ?_
  refine lv_iload_n hx hb dL_375 rfl (lv_at hl 0 rfl) ?_
  refine lv_iconst (v := nI 2) hx hb dL_376 (by decide) ?_
  refine lv_iadd hx hb dL_377 ?_
  rw [nI_add]
  refine va_sld hx hb hX hbl hbA h1 (vp_in_nI (by omega) (by omega)) dL_378 ?_
  rw [nI_clamp (by omega)]
  refine lw_cv C0 s2 a2 tm_len (Nat.le_of_ble_eq_true rfl) (Nat.le_add_right _ _) (by omega : 141 < 157) mr_141 lk_141 sh_m_0 (by decide) (As := [.int (xs (i + 1)), .int (xs (i + 2))]) rfl rfl (Nat.le_of_ble_eq_true rfl) (by decide) (rest := [.int v]) (Nat.le_of_ble_eq_true rfl) rfl k2 dL_379 hl.1 w2' h1 rfl (fun H2 locs2 g2 h2 f2 => ?_)
  have w1' := lw_kept (B2 := s.heap.size + 162) (n2 := 27) g1 a1 ((sg_mk_len _ _).trans tx_len) (Nat.le_of_ble_eq_true rfl) (Or.inl (Nat.le_refl _)) f2
  refine lv_icmp_eq (tgt := 985) hx hb dL_382 (by decide) (fun _ => ?_) (fun z => absurd rfl z)
  exact kk σ' μ' H2 locs2 hR' ⟨w1', g2, h2⟩
set_option maxRecDepth 100000 in
theorem lk_75 : lw_tbl[607]? = some (.methodLink R_law 53 (ab_YM 75)) := by decide +kernel
set_option maxRecDepth 100000 in
theorem lk_142 : lw_tbl[1012]? = some (.methodLink R_law 56 (ab_YM 142)) := by decide +kernel
theorem lo_9 {p : Program} {l : Launch} {e : Env} {s : State} {m : MethodId} {below : List Frame} {meth : Method} {c : Code} {b L : Nat} {xs : Nat → Int32} {D : va_G} {aC : Nat → ClassId} {adx adm : Nat → Nat} (C0 : lw_At p s m meth c b L xs) (hL : L ≤ 2048) (s1 : ab_Stc D aC adx (fun q => s.heap.size ≤ q) s s.heap) (s2 : ab_Stc D aC adm (fun q => s.heap.size ≤ q) s s.heap) (a1 : ∀ k, k < 1000 → adx k = s.heap.size + k) (a2 : ∀ k, k < 1000 → adm k = s.heap.size + 162 + k) {i : Nat} (hi : i + 4 ≤ L) {σ μ : sg_S} (hR : Rel σ μ) {H : Heap} {locs : List Loc} {ls : Array Slot} (hW : lw_W D aC adx adm s σ μ H locs) (hl : lv_has ls 4 [(3, .int (nI i)), (2, .ref (s.heap.size + 162)), (1, .ref s.heap.size), (0, .ref b)]) {Q : State → Prop} (kk : ∀ (σ' μ' : sg_S) (H' : Heap) (locs' : List Loc), Rel σ' μ' → lw_W D aC adx adm s σ' μ' H' locs' → W p l e room_1 s m #[Value.ref b] below meth c H' locs' 600000 7302250 Q (F0 m 985 ls [])) : W p l e room_1 s m #[Value.ref b] below meth c H locs 600000 7302250 Q (F0 m 387 ls []) := by
  obtain ⟨hx, hb, hr, hml, hown, hts, hX, hbl, hlocks, hgv⟩ := id C0
  have hbA : ¬ (fun q : Nat => s.heap.size ≤ q) b := Nat.not_le.mpr hbl
  obtain ⟨w1, w2, w3⟩ := hW
  obtain ⟨v, σ', μ', k1, k2, hR'⟩ := cl_9 hR ((xs (i + 1))) ((xs (i + 2))) ((xs (i + 3)))
  refine lv_aload_n hx hb dL_387 rfl (lv_at hl 2 rfl) ?_
  refine lv_aload_n hx hb dL_388 rfl (lv_at hl 3 rfl) ?_
  refine lv_iload_n hx hb dL_389 rfl (lv_at hl 0 rfl) ?_
  refine lv_iconst (v := nI 1) hx hb dL_390 (by decide) ?_
  refine lv_iadd hx hb dL_391 ?_
  rw [nI_add]
  refine va_sld hx hb hX hbl hbA w3 (vp_in_nI (by omega) (by omega)) dL_392 ?_
  rw [nI_clamp (by omega)]
  refine lv_aload_n hx hb dL_393 rfl (lv_at hl 3 rfl) ?_
  refine lv_iload_n hx hb dL_394 rfl (lv_at hl 0 rfl) ?_
  refine lv_iconst (v := nI 2) hx hb dL_395 (by decide) ?_
  refine lv_iadd hx hb dL_396 ?_
  rw [nI_add]
  refine va_sld hx hb hX hbl hbA w3 (vp_in_nI (by omega) (by omega)) dL_397 ?_
  rw [nI_clamp (by omega)]
  refine lv_aload_n hx hb dL_398 rfl (lv_at hl 3 rfl) ?_
  refine lv_iload_n hx hb dL_399 rfl (lv_at hl 0 rfl) ?_
  refine lv_iconst (v := nI 3) hx hb dL_400 (by decide) ?_
  refine lv_iadd hx hb dL_401 ?_
  rw [nI_add]
  refine va_sld hx hb hX hbl hbA w3 (vp_in_nI (by omega) (by omega)) dL_402 ?_
  rw [nI_clamp (by omega)]
  refine lw_cv C0 s1 a1 tx_len (Nat.le_of_ble_eq_true rfl) (Nat.le_refl _) (by omega : 75 < 157) mr_75 lk_75 sh_x_0 (by decide) (As := [.int (xs (i + 1)), .int (xs (i + 2)), .int (xs (i + 3))]) rfl rfl (Nat.le_of_ble_eq_true rfl) (by decide) (rest := []) (Nat.le_of_ble_eq_true rfl) rfl k1 dL_403 hl.1 w1 w3 rfl (fun H1 locs1 g1 h1 f1 => ?_)
  have w2' := lw_kept (B2 := s.heap.size) (n2 := 162) w2 a2 ((sg_mk_len _ _).trans tm_len) (Nat.le_of_ble_eq_true rfl) (Or.inr (Nat.le_refl _)) f1
  refine lv_aload_n hx hb dL_406 rfl (lv_at hl 1 rfl) ?_
  refine lv_aload_n hx hb dL_407 rfl (lv_at hl 3 rfl) ?_
  refine lv_iload_n hx hb dL_408 rfl (lv_at hl 0 rfl) ?_
  refine lv_iconst (v := nI 1) hx hb dL_409 (by decide) ?_
  refine lv_iadd hx hb dL_410 ?_
  rw [nI_add]
  refine va_sld hx hb hX hbl hbA h1 (vp_in_nI (by omega) (by omega)) dL_411 ?_
  rw [nI_clamp (by omega)]
  refine lv_aload_n hx hb dL_412 rfl (lv_at hl 3 rfl) ?_
  refine lv_iload_n hx hb dL_413 rfl (lv_at hl 0 rfl) ?_
  refine lv_iconst (v := nI 2) hx hb dL_414 (by decide) ?_
  refine lv_iadd hx hb dL_415 ?_
  rw [nI_add]
  refine va_sld hx hb hX hbl hbA h1 (vp_in_nI (by omega) (by omega)) dL_416 ?_
  rw [nI_clamp (by omega)]
  refine lv_aload_n hx hb dL_417 rfl (lv_at hl 3 rfl) ?_
  refine lv_iload_n hx hb dL_418 rfl (lv_at hl 0 rfl) ?_
  refine lv_iconst (v := nI 3) hx hb dL_419 (by decide) ?_
  refine lv_iadd hx hb dL_420 ?_
  rw [nI_add]
  refine va_sld hx hb hX hbl hbA h1 (vp_in_nI (by omega) (by omega)) dL_421 ?_
  rw [nI_clamp (by omega)]
  refine lw_cv C0 s2 a2 tm_len (Nat.le_of_ble_eq_true rfl) (Nat.le_add_right _ _) (by omega : 142 < 157) mr_142 lk_142 sh_m_0 (by decide) (As := [.int (xs (i + 1)), .int (xs (i + 2)), .int (xs (i + 3))]) rfl rfl (Nat.le_of_ble_eq_true rfl) (by decide) (rest := [.int v]) (Nat.le_of_ble_eq_true rfl) rfl k2 dL_422 hl.1 w2' h1 rfl (fun H2 locs2 g2 h2 f2 => ?_)
  have w1' := lw_kept (B2 := s.heap.size + 162) (n2 := 27) g1 a1 ((sg_mk_len _ _).trans tx_len) (Nat.le_of_ble_eq_true rfl) (Or.inl (Nat.le_refl _)) f2
  refine lv_icmp_eq (tgt := 985) hx hb dL_425 (by decide) (fun _ => ?_) (fun z => absurd rfl z)
  exact kk σ' μ' H2 locs2 hR' ⟨w1', g2, h2⟩
set_option maxRecDepth 100000 in
theorem lk_76 : lw_tbl[615]? = some (.methodLink R_law 57 (ab_YM 76)) := by decide +kernel
set_option maxRecDepth 100000 in
theorem lk_143 : lw_tbl[1026]? = some (.methodLink R_law 60 (ab_YM 143)) := by decide +kernel
theorem lo_10 {p : Program} {l : Launch} {e : Env} {s : State} {m : MethodId} {below : List Frame} {meth : Method} {c : Code} {b L : Nat} {xs : Nat → Int32} {D : va_G} {aC : Nat → ClassId} {adx adm : Nat → Nat} (C0 : lw_At p s m meth c b L xs) (hL : L ≤ 2048) (s1 : ab_Stc D aC adx (fun q => s.heap.size ≤ q) s s.heap) (s2 : ab_Stc D aC adm (fun q => s.heap.size ≤ q) s s.heap) (a1 : ∀ k, k < 1000 → adx k = s.heap.size + k) (a2 : ∀ k, k < 1000 → adm k = s.heap.size + 162 + k) {i : Nat} (hi : i + 4 ≤ L) {σ μ : sg_S} (hR : Rel σ μ) {H : Heap} {locs : List Loc} {ls : Array Slot} (hW : lw_W D aC adx adm s σ μ H locs) (hl : lv_has ls 4 [(3, .int (nI i)), (2, .ref (s.heap.size + 162)), (1, .ref s.heap.size), (0, .ref b)]) {Q : State → Prop} (kk : ∀ (σ' μ' : sg_S) (H' : Heap) (locs' : List Loc), Rel σ' μ' → lw_W D aC adx adm s σ' μ' H' locs' → W p l e room_1 s m #[Value.ref b] below meth c H' locs' 600000 7302250 Q (F0 m 985 ls [])) : W p l e room_1 s m #[Value.ref b] below meth c H locs 600000 7302250 Q (F0 m 430 ls []) := by
  obtain ⟨hx, hb, hr, hml, hown, hts, hX, hbl, hlocks, hgv⟩ := id C0
  have hbA : ¬ (fun q : Nat => s.heap.size ≤ q) b := Nat.not_le.mpr hbl
  obtain ⟨w1, w2, w3⟩ := hW
  obtain ⟨v, σ', μ', k1, k2, hR'⟩ := cl_10 hR ((xs (i + 1))) ((xs (i + 2)))
  refine lv_aload_n hx hb dL_430 rfl (lv_at hl 2 rfl) ?_
  refine lv_aload_n hx hb dL_431 rfl (lv_at hl 3 rfl) ?_
  refine lv_iload_n hx hb dL_432 rfl (lv_at hl 0 rfl) ?_
  refine lv_iconst (v := nI 1) hx hb dL_433 (by decide) ?_
  refine lv_iadd hx hb dL_434 ?_
  rw [nI_add]
  refine va_sld hx hb hX hbl hbA w3 (vp_in_nI (by omega) (by omega)) dL_435 ?_
  rw [nI_clamp (by omega)]
  refine lv_aload_n hx hb dL_436 rfl (lv_at hl 3 rfl) ?_
  refine lv_iload_n hx hb dL_437 rfl (lv_at hl 0 rfl) ?_
  refine lv_iconst (v := nI 2) hx hb dL_438 (by decide) ?_
  refine lv_iadd hx hb dL_439 ?_
  rw [nI_add]
  refine va_sld hx hb hX hbl hbA w3 (vp_in_nI (by omega) (by omega)) dL_440 ?_
  rw [nI_clamp (by omega)]
  refine lw_cv C0 s1 a1 tx_len (Nat.le_of_ble_eq_true rfl) (Nat.le_refl _) (by omega : 76 < 157) mr_76 lk_76 sh_x_0 (by decide) (As := [.int (xs (i + 1)), .int (xs (i + 2))]) rfl rfl (Nat.le_of_ble_eq_true rfl) (by decide) (rest := []) (Nat.le_of_ble_eq_true rfl) rfl k1 dL_441 hl.1 w1 w3 rfl (fun H1 locs1 g1 h1 f1 => ?_)
  have w2' := lw_kept (B2 := s.heap.size) (n2 := 162) w2 a2 ((sg_mk_len _ _).trans tm_len) (Nat.le_of_ble_eq_true rfl) (Or.inr (Nat.le_refl _)) f1
  refine lv_aload_n hx hb dL_444 rfl (lv_at hl 1 rfl) ?_
  refine lv_aload_n hx hb dL_445 rfl (lv_at hl 3 rfl) ?_
  refine lv_iload_n hx hb dL_446 rfl (lv_at hl 0 rfl) ?_
  refine lv_iconst (v := nI 1) hx hb dL_447 (by decide) ?_
  refine lv_iadd hx hb dL_448 ?_
  rw [nI_add]
  refine va_sld hx hb hX hbl hbA h1 (vp_in_nI (by omega) (by omega)) dL_449 ?_
  rw [nI_clamp (by omega)]
  refine lv_aload_n hx hb dL_450 rfl (lv_at hl 3 rfl) ?_
  refine lv_iload_n hx hb dL_451 rfl (lv_at hl 0 rfl) ?_
  refine lv_iconst (v := nI 2) hx hb dL_452 (by decide) ?_
  refine lv_iadd hx hb dL_453 ?_
  rw [nI_add]
  refine va_sld hx hb hX hbl hbA h1 (vp_in_nI (by omega) (by omega)) dL_454 ?_
  rw [nI_clamp (by omega)]
  refine lw_cv C0 s2 a2 tm_len (Nat.le_of_ble_eq_true rfl) (Nat.le_add_right _ _) (by omega : 143 < 157) mr_143 lk_143 sh_m_0 (by decide) (As := [.int (xs (i + 1)), .int (xs (i + 2))]) rfl rfl (Nat.le_of_ble_eq_true rfl) (by decide) (rest := [.int v]) (Nat.le_of_ble_eq_true rfl) rfl k2 dL_455 hl.1 w2' h1 rfl (fun H2 locs2 g2 h2 f2 => ?_)
  have w1' := lw_kept (B2 := s.heap.size + 162) (n2 := 27) g1 a1 ((sg_mk_len _ _).trans tx_len) (Nat.le_of_ble_eq_true rfl) (Or.inl (Nat.le_refl _)) f2
  refine lv_icmp_eq (tgt := 985) hx hb dL_458 (by decide) (fun _ => ?_) (fun z => absurd rfl z)
  exact kk σ' μ' H2 locs2 hR' ⟨w1', g2, h2⟩
set_option maxRecDepth 100000 in
theorem lk_77 : lw_tbl[619]? = some (.methodLink R_law 61 (ab_YM 77)) := by decide +kernel
set_option maxRecDepth 100000 in
theorem lk_144 : lw_tbl[1030]? = some (.methodLink R_law 64 (ab_YM 144)) := by decide +kernel
theorem lo_11 {p : Program} {l : Launch} {e : Env} {s : State} {m : MethodId} {below : List Frame} {meth : Method} {c : Code} {b L : Nat} {xs : Nat → Int32} {D : va_G} {aC : Nat → ClassId} {adx adm : Nat → Nat} (C0 : lw_At p s m meth c b L xs) (hL : L ≤ 2048) (s1 : ab_Stc D aC adx (fun q => s.heap.size ≤ q) s s.heap) (s2 : ab_Stc D aC adm (fun q => s.heap.size ≤ q) s s.heap) (a1 : ∀ k, k < 1000 → adx k = s.heap.size + k) (a2 : ∀ k, k < 1000 → adm k = s.heap.size + 162 + k) {i : Nat} (hi : i + 4 ≤ L) {σ μ : sg_S} (hR : Rel σ μ) {H : Heap} {locs : List Loc} {ls : Array Slot} (hW : lw_W D aC adx adm s σ μ H locs) (hl : lv_has ls 4 [(3, .int (nI i)), (2, .ref (s.heap.size + 162)), (1, .ref s.heap.size), (0, .ref b)]) {Q : State → Prop} (kk : ∀ (σ' μ' : sg_S) (H' : Heap) (locs' : List Loc), Rel σ' μ' → lw_W D aC adx adm s σ' μ' H' locs' → W p l e room_1 s m #[Value.ref b] below meth c H' locs' 600000 7302250 Q (F0 m 985 ls [])) : W p l e room_1 s m #[Value.ref b] below meth c H locs 600000 7302250 Q (F0 m 463 ls []) := by
  obtain ⟨hx, hb, hr, hml, hown, hts, hX, hbl, hlocks, hgv⟩ := id C0
  have hbA : ¬ (fun q : Nat => s.heap.size ≤ q) b := Nat.not_le.mpr hbl
  obtain ⟨w1, w2, w3⟩ := hW
  obtain ⟨v, σ', μ', k1, k2, hR'⟩ := cl_11 hR ((xs (i + 1))) ((xs (i + 2))) ((xs (i + 3)))
  refine lv_aload_n hx hb dL_463 rfl (lv_at hl 2 rfl) ?_
  refine lv_aload_n hx hb dL_464 rfl (lv_at hl 3 rfl) ?_
  refine lv_iload_n hx hb dL_465 rfl (lv_at hl 0 rfl) ?_
  refine lv_iconst (v := nI 1) hx hb dL_466 (by decide) ?_
  refine lv_iadd hx hb dL_467 ?_
  rw [nI_add]
  refine va_sld hx hb hX hbl hbA w3 (vp_in_nI (by omega) (by omega)) dL_468 ?_
  rw [nI_clamp (by omega)]
  refine lv_aload_n hx hb dL_469 rfl (lv_at hl 3 rfl) ?_
  refine lv_iload_n hx hb dL_470 rfl (lv_at hl 0 rfl) ?_
  refine lv_iconst (v := nI 2) hx hb dL_471 (by decide) ?_
  refine lv_iadd hx hb dL_472 ?_
  rw [nI_add]
  refine va_sld hx hb hX hbl hbA w3 (vp_in_nI (by omega) (by omega)) dL_473 ?_
  rw [nI_clamp (by omega)]
  refine lv_aload_n hx hb dL_474 rfl (lv_at hl 3 rfl) ?_
  refine lv_iload_n hx hb dL_475 rfl (lv_at hl 0 rfl) ?_
  refine lv_iconst (v := nI 3) hx hb dL_476 (by decide) ?_
  refine lv_iadd hx hb dL_477 ?_
  rw [nI_add]
  refine va_sld hx hb hX hbl hbA w3 (vp_in_nI (by omega) (by omega)) dL_478 ?_
  rw [nI_clamp (by omega)]
  refine lw_cv C0 s1 a1 tx_len (Nat.le_of_ble_eq_true rfl) (Nat.le_refl _) (by omega : 77 < 157) mr_77 lk_77 sh_x_0 (by decide) (As := [.int (xs (i + 1)), .int (xs (i + 2)), .int (xs (i + 3))]) rfl rfl (Nat.le_of_ble_eq_true rfl) (by decide) (rest := []) (Nat.le_of_ble_eq_true rfl) rfl k1 dL_479 hl.1 w1 w3 rfl (fun H1 locs1 g1 h1 f1 => ?_)
  have w2' := lw_kept (B2 := s.heap.size) (n2 := 162) w2 a2 ((sg_mk_len _ _).trans tm_len) (Nat.le_of_ble_eq_true rfl) (Or.inr (Nat.le_refl _)) f1
  refine lv_aload_n hx hb dL_482 rfl (lv_at hl 1 rfl) ?_
  refine lv_aload_n hx hb dL_483 rfl (lv_at hl 3 rfl) ?_
  refine lv_iload_n hx hb dL_484 rfl (lv_at hl 0 rfl) ?_
  refine lv_iconst (v := nI 1) hx hb dL_485 (by decide) ?_
  refine lv_iadd hx hb dL_486 ?_
  rw [nI_add]
  refine va_sld hx hb hX hbl hbA h1 (vp_in_nI (by omega) (by omega)) dL_487 ?_
  rw [nI_clamp (by omega)]
  refine lv_aload_n hx hb dL_488 rfl (lv_at hl 3 rfl) ?_
  refine lv_iload_n hx hb dL_489 rfl (lv_at hl 0 rfl) ?_
  refine lv_iconst (v := nI 2) hx hb dL_490 (by decide) ?_
  refine lv_iadd hx hb dL_491 ?_
  rw [nI_add]
  refine va_sld hx hb hX hbl hbA h1 (vp_in_nI (by omega) (by omega)) dL_492 ?_
  rw [nI_clamp (by omega)]
  refine lv_aload_n hx hb dL_493 rfl (lv_at hl 3 rfl) ?_
  refine lv_iload_n hx hb dL_494 rfl (lv_at hl 0 rfl) ?_
  refine lv_iconst (v := nI 3) hx hb dL_495 (by decide) ?_
  refine lv_iadd hx hb dL_496 ?_
  rw [nI_add]
  refine va_sld hx hb hX hbl hbA h1 (vp_in_nI (by omega) (by omega)) dL_497 ?_
  rw [nI_clamp (by omega)]
  refine lw_cv C0 s2 a2 tm_len (Nat.le_of_ble_eq_true rfl) (Nat.le_add_right _ _) (by omega : 144 < 157) mr_144 lk_144 sh_m_0 (by decide) (As := [.int (xs (i + 1)), .int (xs (i + 2)), .int (xs (i + 3))]) rfl rfl (Nat.le_of_ble_eq_true rfl) (by decide) (rest := [.int v]) (Nat.le_of_ble_eq_true rfl) rfl k2 dL_498 hl.1 w2' h1 rfl (fun H2 locs2 g2 h2 f2 => ?_)
  have w1' := lw_kept (B2 := s.heap.size + 162) (n2 := 27) g1 a1 ((sg_mk_len _ _).trans tx_len) (Nat.le_of_ble_eq_true rfl) (Or.inl (Nat.le_refl _)) f2
  refine lv_icmp_eq (tgt := 985) hx hb dL_501 (by decide) (fun _ => ?_) (fun z => absurd rfl z)
  exact kk σ' μ' H2 locs2 hR' ⟨w1', g2, h2⟩
set_option maxRecDepth 100000 in
theorem lk_78 : lw_tbl[624]? = some (.methodLink R_law 65 (ab_YM 78)) := by decide +kernel
set_option maxRecDepth 100000 in
theorem lk_124 : lw_tbl[941]? = some (.methodLink R_law 68 (ab_YM 124)) := by decide +kernel
theorem lo_12 {p : Program} {l : Launch} {e : Env} {s : State} {m : MethodId} {below : List Frame} {meth : Method} {c : Code} {b L : Nat} {xs : Nat → Int32} {D : va_G} {aC : Nat → ClassId} {adx adm : Nat → Nat} (C0 : lw_At p s m meth c b L xs) (hL : L ≤ 2048) (s1 : ab_Stc D aC adx (fun q => s.heap.size ≤ q) s s.heap) (s2 : ab_Stc D aC adm (fun q => s.heap.size ≤ q) s s.heap) (a1 : ∀ k, k < 1000 → adx k = s.heap.size + k) (a2 : ∀ k, k < 1000 → adm k = s.heap.size + 162 + k) {i : Nat} (hi : i + 4 ≤ L) {σ μ : sg_S} (hR : Rel σ μ) {H : Heap} {locs : List Loc} {ls : Array Slot} (hW : lw_W D aC adx adm s σ μ H locs) (hl : lv_has ls 4 [(3, .int (nI i)), (2, .ref (s.heap.size + 162)), (1, .ref s.heap.size), (0, .ref b)]) {Q : State → Prop} (kk : ∀ (σ' μ' : sg_S) (H' : Heap) (locs' : List Loc), Rel σ' μ' → lw_W D aC adx adm s σ' μ' H' locs' → W p l e room_1 s m #[Value.ref b] below meth c H' locs' 600000 7302250 Q (F0 m 985 ls [])) : W p l e room_1 s m #[Value.ref b] below meth c H locs 600000 7302250 Q (F0 m 506 ls []) := by
  obtain ⟨hx, hb, hr, hml, hown, hts, hX, hbl, hlocks, hgv⟩ := id C0
  have hbA : ¬ (fun q : Nat => s.heap.size ≤ q) b := Nat.not_le.mpr hbl
  obtain ⟨w1, w2, w3⟩ := hW
  obtain ⟨v, σ', μ', k1, k2, hR'⟩ := cl_12 hR 
  refine lv_aload_n hx hb dL_506 rfl (lv_at hl 2 rfl) ?_
  refine lw_cv C0 s1 a1 tx_len (Nat.le_of_ble_eq_true rfl) (Nat.le_refl _) (by omega : 78 < 157) mr_78 lk_78 sh_x_0 (by decide) (As := []) rfl rfl (Nat.le_of_ble_eq_true rfl) (by decide) (rest := []) (Nat.le_of_ble_eq_true rfl) rfl k1 dL_507 hl.1 w1 w3 rfl (fun H1 locs1 g1 h1 f1 => ?_)
  have w2' := lw_kept (B2 := s.heap.size) (n2 := 162) w2 a2 ((sg_mk_len _ _).trans tm_len) (Nat.le_of_ble_eq_true rfl) (Or.inr (Nat.le_refl _)) f1
  refine lv_aload_n hx hb dL_510 rfl (lv_at hl 1 rfl) ?_
  refine lw_cv C0 s2 a2 tm_len (Nat.le_of_ble_eq_true rfl) (Nat.le_add_right _ _) (by omega : 124 < 157) mr_124 lk_124 sh_m_0 (by decide) (As := []) rfl rfl (Nat.le_of_ble_eq_true rfl) (by decide) (rest := [.int v]) (Nat.le_of_ble_eq_true rfl) rfl k2 dL_511 hl.1 w2' h1 rfl (fun H2 locs2 g2 h2 f2 => ?_)
  have w1' := lw_kept (B2 := s.heap.size + 162) (n2 := 27) g1 a1 ((sg_mk_len _ _).trans tx_len) (Nat.le_of_ble_eq_true rfl) (Or.inl (Nat.le_refl _)) f2
  refine lv_icmp_eq (tgt := 985) hx hb dL_514 (by decide) (fun _ => ?_) (fun z => absurd rfl z)
  exact kk σ' μ' H2 locs2 hR' ⟨w1', g2, h2⟩
set_option maxRecDepth 100000 in
theorem lk_79 : lw_tbl[632]? = some (.methodLink R_law 69 (ab_YM 79)) := by decide +kernel
set_option maxRecDepth 100000 in
theorem lk_145 : lw_tbl[1034]? = some (.methodLink R_law 73 (ab_YM 145)) := by decide +kernel
theorem lo_13 {p : Program} {l : Launch} {e : Env} {s : State} {m : MethodId} {below : List Frame} {meth : Method} {c : Code} {b L : Nat} {xs : Nat → Int32} {D : va_G} {aC : Nat → ClassId} {adx adm : Nat → Nat} (C0 : lw_At p s m meth c b L xs) (hL : L ≤ 2048) (s1 : ab_Stc D aC adx (fun q => s.heap.size ≤ q) s s.heap) (s2 : ab_Stc D aC adm (fun q => s.heap.size ≤ q) s s.heap) (a1 : ∀ k, k < 1000 → adx k = s.heap.size + k) (a2 : ∀ k, k < 1000 → adm k = s.heap.size + 162 + k) {i : Nat} (hi : i + 4 ≤ L) {σ μ : sg_S} (hR : Rel σ μ) {H : Heap} {locs : List Loc} {ls : Array Slot} (hW : lw_W D aC adx adm s σ μ H locs) (hl : lv_has ls 4 [(3, .int (nI i)), (2, .ref (s.heap.size + 162)), (1, .ref s.heap.size), (0, .ref b)]) {Q : State → Prop} (kk : ∀ (σ' μ' : sg_S) (H' : Heap) (locs' : List Loc), Rel σ' μ' → lw_W D aC adx adm s σ' μ' H' locs' → W p l e room_1 s m #[Value.ref b] below meth c H' locs' 600000 7302250 Q (F0 m 985 ls [])) : W p l e room_1 s m #[Value.ref b] below meth c H locs 600000 7302250 Q (F0 m 519 ls []) := by
  obtain ⟨hx, hb, hr, hml, hown, hts, hX, hbl, hlocks, hgv⟩ := id C0
  have hbA : ¬ (fun q : Nat => s.heap.size ≤ q) b := Nat.not_le.mpr hbl
  obtain ⟨w1, w2, w3⟩ := hW
  obtain ⟨v, σ', μ', k1, k2, hR'⟩ := cl_13 hR ((xs (i + 1))) ((xs (i + 2)))
  refine lv_aload_n hx hb dL_519 rfl (lv_at hl 2 rfl) ?_
  refine lv_aload_n hx hb dL_520 rfl (lv_at hl 3 rfl) ?_
  refine lv_iload_n hx hb dL_521 rfl (lv_at hl 0 rfl) ?_
  refine lv_iconst (v := nI 1) hx hb dL_522 (by decide) ?_
  refine lv_iadd hx hb dL_523 ?_
  rw [nI_add]
  refine va_sld hx hb hX hbl hbA w3 (vp_in_nI (by omega) (by omega)) dL_524 ?_
  rw [nI_clamp (by omega)]
  refine lv_aload_n hx hb dL_525 rfl (lv_at hl 3 rfl) ?_
  refine lv_iload_n hx hb dL_526 rfl (lv_at hl 0 rfl) ?_
  refine lv_iconst (v := nI 2) hx hb dL_527 (by decide) ?_
  refine lv_iadd hx hb dL_528 ?_
  rw [nI_add]
  refine va_sld hx hb hX hbl hbA w3 (vp_in_nI (by omega) (by omega)) dL_529 ?_
  rw [nI_clamp (by omega)]
  refine lw_cv C0 s1 a1 tx_len (Nat.le_of_ble_eq_true rfl) (Nat.le_refl _) (by omega : 79 < 157) mr_79 lk_79 sh_x_0 (by decide) (As := [.int (xs (i + 1)), .int (xs (i + 2))]) rfl rfl (Nat.le_of_ble_eq_true rfl) (by decide) (rest := []) (Nat.le_of_ble_eq_true rfl) rfl k1 dL_530 hl.1 w1 w3 rfl (fun H1 locs1 g1 h1 f1 => ?_)
  have w2' := lw_kept (B2 := s.heap.size) (n2 := 162) w2 a2 ((sg_mk_len _ _).trans tm_len) (Nat.le_of_ble_eq_true rfl) (Or.inr (Nat.le_refl _)) f1
  refine lv_aload_n hx hb dL_533 rfl (lv_at hl 1 rfl) ?_
  refine lv_aload_n hx hb dL_534 rfl (lv_at hl 3 rfl) ?_
  refine lv_iload_n hx hb dL_535 rfl (lv_at hl 0 rfl) ?_
  refine lv_iconst (v := nI 1) hx hb dL_536 (by decide) ?_
  refine lv_iadd hx hb dL_537 ?_
  rw [nI_add]
  refine va_sld hx hb hX hbl hbA h1 (vp_in_nI (by omega) (by omega)) dL_538 ?_
  rw [nI_clamp (by omega)]
  refine lv_aload_n hx hb dL_539 rfl (lv_at hl 3 rfl) ?_
  refine lv_iload_n hx hb dL_540 rfl (lv_at hl 0 rfl) ?_
  refine lv_iconst (v := nI 2) hx hb dL_541 (by decide) ?_
  refine lv_iadd hx hb dL_542 ?_
  rw [nI_add]
  refine va_sld hx hb hX hbl hbA h1 (vp_in_nI (by omega) (by omega)) dL_543 ?_
  rw [nI_clamp (by omega)]
  refine lw_cv C0 s2 a2 tm_len (Nat.le_of_ble_eq_true rfl) (Nat.le_add_right _ _) (by omega : 145 < 157) mr_145 lk_145 sh_m_0 (by decide) (As := [.int (xs (i + 1)), .int (xs (i + 2))]) rfl rfl (Nat.le_of_ble_eq_true rfl) (by decide) (rest := [.long v]) (Nat.le_of_ble_eq_true rfl) rfl k2 dL_544 hl.1 w2' h1 rfl (fun H2 locs2 g2 h2 f2 => ?_)
  have w1' := lw_kept (B2 := s.heap.size + 162) (n2 := 27) g1 a1 ((sg_mk_len _ _).trans tx_len) (Nat.le_of_ble_eq_true rfl) (Or.inl (Nat.le_refl _)) f2
  refine W.lcmp hx hb dL_547 ?_
  refine lv_if_eq (tgt := 985) hx hb dL_548 (by decide) (fun _ => ?_) (fun z => absurd (sg_cmp_eq.mpr rfl) z)
  exact kk σ' μ' H2 locs2 hR' ⟨w1', g2, h2⟩
set_option maxRecDepth 100000 in
theorem lk_80 : lw_tbl[637]? = some (.methodLink R_law 74 (ab_YM 80)) := by decide +kernel
set_option maxRecDepth 100000 in
theorem lk_127 : lw_tbl[956]? = some (.methodLink R_law 77 (ab_YM 127)) := by decide +kernel
theorem lo_14 {p : Program} {l : Launch} {e : Env} {s : State} {m : MethodId} {below : List Frame} {meth : Method} {c : Code} {b L : Nat} {xs : Nat → Int32} {D : va_G} {aC : Nat → ClassId} {adx adm : Nat → Nat} (C0 : lw_At p s m meth c b L xs) (hL : L ≤ 2048) (s1 : ab_Stc D aC adx (fun q => s.heap.size ≤ q) s s.heap) (s2 : ab_Stc D aC adm (fun q => s.heap.size ≤ q) s s.heap) (a1 : ∀ k, k < 1000 → adx k = s.heap.size + k) (a2 : ∀ k, k < 1000 → adm k = s.heap.size + 162 + k) {i : Nat} (hi : i + 4 ≤ L) {σ μ : sg_S} (hR : Rel σ μ) {H : Heap} {locs : List Loc} {ls : Array Slot} (hW : lw_W D aC adx adm s σ μ H locs) (hl : lv_has ls 4 [(3, .int (nI i)), (2, .ref (s.heap.size + 162)), (1, .ref s.heap.size), (0, .ref b)]) {Q : State → Prop} (kk : ∀ (σ' μ' : sg_S) (H' : Heap) (locs' : List Loc), Rel σ' μ' → lw_W D aC adx adm s σ' μ' H' locs' → W p l e room_1 s m #[Value.ref b] below meth c H' locs' 600000 7302250 Q (F0 m 985 ls [])) : W p l e room_1 s m #[Value.ref b] below meth c H locs 600000 7302250 Q (F0 m 553 ls []) := by
  obtain ⟨hx, hb, hr, hml, hown, hts, hX, hbl, hlocks, hgv⟩ := id C0
  have hbA : ¬ (fun q : Nat => s.heap.size ≤ q) b := Nat.not_le.mpr hbl
  obtain ⟨w1, w2, w3⟩ := hW
  obtain ⟨v, σ', μ', k1, k2, hR'⟩ := cl_14 hR ((xs (i + 1))) ((xs (i + 2)))
  refine lv_aload_n hx hb dL_553 rfl (lv_at hl 2 rfl) ?_
  refine lv_aload_n hx hb dL_554 rfl (lv_at hl 3 rfl) ?_
  refine lv_iload_n hx hb dL_555 rfl (lv_at hl 0 rfl) ?_
  refine lv_iconst (v := nI 1) hx hb dL_556 (by decide) ?_
  refine lv_iadd hx hb dL_557 ?_
  rw [nI_add]
  refine va_sld hx hb hX hbl hbA w3 (vp_in_nI (by omega) (by omega)) dL_558 ?_
  rw [nI_clamp (by omega)]
  refine lv_aload_n hx hb dL_559 rfl (lv_at hl 3 rfl) ?_
  refine lv_iload_n hx hb dL_560 rfl (lv_at hl 0 rfl) ?_
  refine lv_iconst (v := nI 2) hx hb dL_561 (by decide) ?_
  refine lv_iadd hx hb dL_562 ?_
  rw [nI_add]
  refine va_sld hx hb hX hbl hbA w3 (vp_in_nI (by omega) (by omega)) dL_563 ?_
  rw [nI_clamp (by omega)]
  refine lw_cv C0 s1 a1 tx_len (Nat.le_of_ble_eq_true rfl) (Nat.le_refl _) (by omega : 80 < 157) mr_80 lk_80 sh_x_0 (by decide) (As := [.int (xs (i + 1)), .int (xs (i + 2))]) rfl rfl (Nat.le_of_ble_eq_true rfl) (by decide) (rest := []) (Nat.le_of_ble_eq_true rfl) rfl k1 dL_564 hl.1 w1 w3 rfl (fun H1 locs1 g1 h1 f1 => ?_)
  have w2' := lw_kept (B2 := s.heap.size) (n2 := 162) w2 a2 ((sg_mk_len _ _).trans tm_len) (Nat.le_of_ble_eq_true rfl) (Or.inr (Nat.le_refl _)) f1
  refine lv_aload_n hx hb dL_567 rfl (lv_at hl 1 rfl) ?_
  refine lv_aload_n hx hb dL_568 rfl (lv_at hl 3 rfl) ?_
  refine lv_iload_n hx hb dL_569 rfl (lv_at hl 0 rfl) ?_
  refine lv_iconst (v := nI 1) hx hb dL_570 (by decide) ?_
  refine lv_iadd hx hb dL_571 ?_
  rw [nI_add]
  refine va_sld hx hb hX hbl hbA h1 (vp_in_nI (by omega) (by omega)) dL_572 ?_
  rw [nI_clamp (by omega)]
  refine lv_aload_n hx hb dL_573 rfl (lv_at hl 3 rfl) ?_
  refine lv_iload_n hx hb dL_574 rfl (lv_at hl 0 rfl) ?_
  refine lv_iconst (v := nI 2) hx hb dL_575 (by decide) ?_
  refine lv_iadd hx hb dL_576 ?_
  rw [nI_add]
  refine va_sld hx hb hX hbl hbA h1 (vp_in_nI (by omega) (by omega)) dL_577 ?_
  rw [nI_clamp (by omega)]
  refine lw_cv C0 s2 a2 tm_len (Nat.le_of_ble_eq_true rfl) (Nat.le_add_right _ _) (by omega : 127 < 157) mr_127 lk_127 sh_m_0 (by decide) (As := [.int (xs (i + 1)), .int (xs (i + 2))]) rfl rfl (Nat.le_of_ble_eq_true rfl) (by decide) (rest := [.int v]) (Nat.le_of_ble_eq_true rfl) rfl k2 dL_578 hl.1 w2' h1 rfl (fun H2 locs2 g2 h2 f2 => ?_)
  have w1' := lw_kept (B2 := s.heap.size + 162) (n2 := 27) g1 a1 ((sg_mk_len _ _).trans tx_len) (Nat.le_of_ble_eq_true rfl) (Or.inl (Nat.le_refl _)) f2
  refine lv_icmp_eq (tgt := 985) hx hb dL_581 (by decide) (fun _ => ?_) (fun z => absurd rfl z)
  exact kk σ' μ' H2 locs2 hR' ⟨w1', g2, h2⟩
set_option maxRecDepth 100000 in
theorem lk_81 : lw_tbl[641]? = some (.methodLink R_law 78 (ab_YM 81)) := by decide +kernel
set_option maxRecDepth 100000 in
theorem lk_110 : lw_tbl[868]? = some (.methodLink R_law 81 (ab_YM 110)) := by decide +kernel
theorem lo_15 {p : Program} {l : Launch} {e : Env} {s : State} {m : MethodId} {below : List Frame} {meth : Method} {c : Code} {b L : Nat} {xs : Nat → Int32} {D : va_G} {aC : Nat → ClassId} {adx adm : Nat → Nat} (C0 : lw_At p s m meth c b L xs) (hL : L ≤ 2048) (s1 : ab_Stc D aC adx (fun q => s.heap.size ≤ q) s s.heap) (s2 : ab_Stc D aC adm (fun q => s.heap.size ≤ q) s s.heap) (a1 : ∀ k, k < 1000 → adx k = s.heap.size + k) (a2 : ∀ k, k < 1000 → adm k = s.heap.size + 162 + k) {i : Nat} (hi : i + 4 ≤ L) {σ μ : sg_S} (hR : Rel σ μ) {H : Heap} {locs : List Loc} {ls : Array Slot} (hW : lw_W D aC adx adm s σ μ H locs) (hl : lv_has ls 4 [(3, .int (nI i)), (2, .ref (s.heap.size + 162)), (1, .ref s.heap.size), (0, .ref b)]) {Q : State → Prop} (kk : ∀ (σ' μ' : sg_S) (H' : Heap) (locs' : List Loc), Rel σ' μ' → lw_W D aC adx adm s σ' μ' H' locs' → W p l e room_1 s m #[Value.ref b] below meth c H' locs' 600000 7302250 Q (F0 m 985 ls [])) : W p l e room_1 s m #[Value.ref b] below meth c H locs 600000 7302250 Q (F0 m 586 ls []) := by
  obtain ⟨hx, hb, hr, hml, hown, hts, hX, hbl, hlocks, hgv⟩ := id C0
  have hbA : ¬ (fun q : Nat => s.heap.size ≤ q) b := Nat.not_le.mpr hbl
  obtain ⟨w1, w2, w3⟩ := hW
  obtain ⟨v, σ', μ', k1, k2, hR'⟩ := cl_15 hR ((xs (i + 1))) ((xs (i + 2)))
  refine lv_aload_n hx hb dL_586 rfl (lv_at hl 2 rfl) ?_
  refine lv_aload_n hx hb dL_587 rfl (lv_at hl 3 rfl) ?_
  refine lv_iload_n hx hb dL_588 rfl (lv_at hl 0 rfl) ?_
  refine lv_iconst (v := nI 1) hx hb dL_589 (by decide) ?_
  refine lv_iadd hx hb dL_590 ?_
  rw [nI_add]
  refine va_sld hx hb hX hbl hbA w3 (vp_in_nI (by omega) (by omega)) dL_591 ?_
  rw [nI_clamp (by omega)]
  refine lv_aload_n hx hb dL_592 rfl (lv_at hl 3 rfl) ?_
  refine lv_iload_n hx hb dL_593 rfl (lv_at hl 0 rfl) ?_
  refine lv_iconst (v := nI 2) hx hb dL_594 (by decide) ?_
  refine lv_iadd hx hb dL_595 ?_
  rw [nI_add]
  refine va_sld hx hb hX hbl hbA w3 (vp_in_nI (by omega) (by omega)) dL_596 ?_
  rw [nI_clamp (by omega)]
  refine lw_cv C0 s1 a1 tx_len (Nat.le_of_ble_eq_true rfl) (Nat.le_refl _) (by omega : 81 < 157) mr_81 lk_81 sh_x_0 (by decide) (As := [.int (xs (i + 1)), .int (xs (i + 2))]) rfl rfl (Nat.le_of_ble_eq_true rfl) (by decide) (rest := []) (Nat.le_of_ble_eq_true rfl) rfl k1 dL_597 hl.1 w1 w3 rfl (fun H1 locs1 g1 h1 f1 => ?_)
  have w2' := lw_kept (B2 := s.heap.size) (n2 := 162) w2 a2 ((sg_mk_len _ _).trans tm_len) (Nat.le_of_ble_eq_true rfl) (Or.inr (Nat.le_refl _)) f1
  refine lv_aload_n hx hb dL_600 rfl (lv_at hl 1 rfl) ?_
  refine lv_aload_n hx hb dL_601 rfl (lv_at hl 3 rfl) ?_
  refine lv_iload_n hx hb dL_602 rfl (lv_at hl 0 rfl) ?_
  refine lv_iconst (v := nI 1) hx hb dL_603 (by decide) ?_
  refine lv_iadd hx hb dL_604 ?_
  rw [nI_add]
  refine va_sld hx hb hX hbl hbA h1 (vp_in_nI (by omega) (by omega)) dL_605 ?_
  rw [nI_clamp (by omega)]
  refine lv_aload_n hx hb dL_606 rfl (lv_at hl 3 rfl) ?_
  refine lv_iload_n hx hb dL_607 rfl (lv_at hl 0 rfl) ?_
  refine lv_iconst (v := nI 2) hx hb dL_608 (by decide) ?_
  refine lv_iadd hx hb dL_609 ?_
  rw [nI_add]
  refine va_sld hx hb hX hbl hbA h1 (vp_in_nI (by omega) (by omega)) dL_610 ?_
  rw [nI_clamp (by omega)]
  refine lw_cv C0 s2 a2 tm_len (Nat.le_of_ble_eq_true rfl) (Nat.le_add_right _ _) (by omega : 110 < 157) mr_110 lk_110 sh_m_0 (by decide) (As := [.int (xs (i + 1)), .int (xs (i + 2))]) rfl rfl (Nat.le_of_ble_eq_true rfl) (by decide) (rest := [.int v]) (Nat.le_of_ble_eq_true rfl) rfl k2 dL_611 hl.1 w2' h1 rfl (fun H2 locs2 g2 h2 f2 => ?_)
  have w1' := lw_kept (B2 := s.heap.size + 162) (n2 := 27) g1 a1 ((sg_mk_len _ _).trans tx_len) (Nat.le_of_ble_eq_true rfl) (Or.inl (Nat.le_refl _)) f2
  refine lv_icmp_eq (tgt := 985) hx hb dL_614 (by decide) (fun _ => ?_) (fun z => absurd rfl z)
  exact kk σ' μ' H2 locs2 hR' ⟨w1', g2, h2⟩
set_option maxRecDepth 100000 in
theorem lk_82 : lw_tbl[645]? = some (.methodLink R_law 82 (ab_YM 82)) := by decide +kernel
set_option maxRecDepth 100000 in
theorem lk_111 : lw_tbl[882]? = some (.methodLink R_law 85 (ab_YM 111)) := by decide +kernel
theorem lo_16 {p : Program} {l : Launch} {e : Env} {s : State} {m : MethodId} {below : List Frame} {meth : Method} {c : Code} {b L : Nat} {xs : Nat → Int32} {D : va_G} {aC : Nat → ClassId} {adx adm : Nat → Nat} (C0 : lw_At p s m meth c b L xs) (hL : L ≤ 2048) (s1 : ab_Stc D aC adx (fun q => s.heap.size ≤ q) s s.heap) (s2 : ab_Stc D aC adm (fun q => s.heap.size ≤ q) s s.heap) (a1 : ∀ k, k < 1000 → adx k = s.heap.size + k) (a2 : ∀ k, k < 1000 → adm k = s.heap.size + 162 + k) {i : Nat} (hi : i + 4 ≤ L) {σ μ : sg_S} (hR : Rel σ μ) {H : Heap} {locs : List Loc} {ls : Array Slot} (hW : lw_W D aC adx adm s σ μ H locs) (hl : lv_has ls 4 [(3, .int (nI i)), (2, .ref (s.heap.size + 162)), (1, .ref s.heap.size), (0, .ref b)]) {Q : State → Prop} (kk : ∀ (σ' μ' : sg_S) (H' : Heap) (locs' : List Loc), Rel σ' μ' → lw_W D aC adx adm s σ' μ' H' locs' → W p l e room_1 s m #[Value.ref b] below meth c H' locs' 600000 7302250 Q (F0 m 985 ls [])) : W p l e room_1 s m #[Value.ref b] below meth c H locs 600000 7302250 Q (F0 m 619 ls []) := by
  obtain ⟨hx, hb, hr, hml, hown, hts, hX, hbl, hlocks, hgv⟩ := id C0
  have hbA : ¬ (fun q : Nat => s.heap.size ≤ q) b := Nat.not_le.mpr hbl
  obtain ⟨w1, w2, w3⟩ := hW
  obtain ⟨v, σ', μ', k1, k2, hR'⟩ := cl_16 hR ((xs (i + 1))) ((xs (i + 2)))
  refine lv_aload_n hx hb dL_619 rfl (lv_at hl 2 rfl) ?_
  refine lv_aload_n hx hb dL_620 rfl (lv_at hl 3 rfl) ?_
  refine lv_iload_n hx hb dL_621 rfl (lv_at hl 0 rfl) ?_
  refine lv_iconst (v := nI 1) hx hb dL_622 (by decide) ?_
  refine lv_iadd hx hb dL_623 ?_
  rw [nI_add]
  refine va_sld hx hb hX hbl hbA w3 (vp_in_nI (by omega) (by omega)) dL_624 ?_
  rw [nI_clamp (by omega)]
  refine lv_aload_n hx hb dL_625 rfl (lv_at hl 3 rfl) ?_
  refine lv_iload_n hx hb dL_626 rfl (lv_at hl 0 rfl) ?_
  refine lv_iconst (v := nI 2) hx hb dL_627 (by decide) ?_
  refine lv_iadd hx hb dL_628 ?_
  rw [nI_add]
  refine va_sld hx hb hX hbl hbA w3 (vp_in_nI (by omega) (by omega)) dL_629 ?_
  rw [nI_clamp (by omega)]
  refine lw_cv C0 s1 a1 tx_len (Nat.le_of_ble_eq_true rfl) (Nat.le_refl _) (by omega : 82 < 157) mr_82 lk_82 sh_x_0 (by decide) (As := [.int (xs (i + 1)), .int (xs (i + 2))]) rfl rfl (Nat.le_of_ble_eq_true rfl) (by decide) (rest := []) (Nat.le_of_ble_eq_true rfl) rfl k1 dL_630 hl.1 w1 w3 rfl (fun H1 locs1 g1 h1 f1 => ?_)
  have w2' := lw_kept (B2 := s.heap.size) (n2 := 162) w2 a2 ((sg_mk_len _ _).trans tm_len) (Nat.le_of_ble_eq_true rfl) (Or.inr (Nat.le_refl _)) f1
  refine lv_aload_n hx hb dL_633 rfl (lv_at hl 1 rfl) ?_
  refine lv_aload_n hx hb dL_634 rfl (lv_at hl 3 rfl) ?_
  refine lv_iload_n hx hb dL_635 rfl (lv_at hl 0 rfl) ?_
  refine lv_iconst (v := nI 1) hx hb dL_636 (by decide) ?_
  refine lv_iadd hx hb dL_637 ?_
  rw [nI_add]
  refine va_sld hx hb hX hbl hbA h1 (vp_in_nI (by omega) (by omega)) dL_638 ?_
  rw [nI_clamp (by omega)]
  refine lv_aload_n hx hb dL_639 rfl (lv_at hl 3 rfl) ?_
  refine lv_iload_n hx hb dL_640 rfl (lv_at hl 0 rfl) ?_
  refine lv_iconst (v := nI 2) hx hb dL_641 (by decide) ?_
  refine lv_iadd hx hb dL_642 ?_
  rw [nI_add]
  refine va_sld hx hb hX hbl hbA h1 (vp_in_nI (by omega) (by omega)) dL_643 ?_
  rw [nI_clamp (by omega)]
  refine lw_cv C0 s2 a2 tm_len (Nat.le_of_ble_eq_true rfl) (Nat.le_add_right _ _) (by omega : 111 < 157) mr_111 lk_111 sh_m_0 (by decide) (As := [.int (xs (i + 1)), .int (xs (i + 2))]) rfl rfl (Nat.le_of_ble_eq_true rfl) (by decide) (rest := [.int v]) (Nat.le_of_ble_eq_true rfl) rfl k2 dL_644 hl.1 w2' h1 rfl (fun H2 locs2 g2 h2 f2 => ?_)
  have w1' := lw_kept (B2 := s.heap.size + 162) (n2 := 27) g1 a1 ((sg_mk_len _ _).trans tx_len) (Nat.le_of_ble_eq_true rfl) (Or.inl (Nat.le_refl _)) f2
  refine lv_icmp_eq (tgt := 985) hx hb dL_647 (by decide) (fun _ => ?_) (fun z => absurd rfl z)
  exact kk σ' μ' H2 locs2 hR' ⟨w1', g2, h2⟩
set_option maxRecDepth 100000 in
theorem lk_83 : lw_tbl[653]? = some (.methodLink R_law 86 (ab_YM 83)) := by decide +kernel
set_option maxRecDepth 100000 in
theorem lk_112 : lw_tbl[886]? = some (.methodLink R_law 89 (ab_YM 112)) := by decide +kernel
theorem lo_17 {p : Program} {l : Launch} {e : Env} {s : State} {m : MethodId} {below : List Frame} {meth : Method} {c : Code} {b L : Nat} {xs : Nat → Int32} {D : va_G} {aC : Nat → ClassId} {adx adm : Nat → Nat} (C0 : lw_At p s m meth c b L xs) (hL : L ≤ 2048) (s1 : ab_Stc D aC adx (fun q => s.heap.size ≤ q) s s.heap) (s2 : ab_Stc D aC adm (fun q => s.heap.size ≤ q) s s.heap) (a1 : ∀ k, k < 1000 → adx k = s.heap.size + k) (a2 : ∀ k, k < 1000 → adm k = s.heap.size + 162 + k) {i : Nat} (hi : i + 4 ≤ L) {σ μ : sg_S} (hR : Rel σ μ) {H : Heap} {locs : List Loc} {ls : Array Slot} (hW : lw_W D aC adx adm s σ μ H locs) (hl : lv_has ls 4 [(3, .int (nI i)), (2, .ref (s.heap.size + 162)), (1, .ref s.heap.size), (0, .ref b)]) {Q : State → Prop} (kk : ∀ (σ' μ' : sg_S) (H' : Heap) (locs' : List Loc), Rel σ' μ' → lw_W D aC adx adm s σ' μ' H' locs' → W p l e room_1 s m #[Value.ref b] below meth c H' locs' 600000 7302250 Q (F0 m 985 ls [])) : W p l e room_1 s m #[Value.ref b] below meth c H locs 600000 7302250 Q (F0 m 652 ls []) := by
  obtain ⟨hx, hb, hr, hml, hown, hts, hX, hbl, hlocks, hgv⟩ := id C0
  have hbA : ¬ (fun q : Nat => s.heap.size ≤ q) b := Nat.not_le.mpr hbl
  obtain ⟨w1, w2, w3⟩ := hW
  obtain ⟨v, σ', μ', k1, k2, hR'⟩ := cl_17 hR ((xs (i + 1))) ((xs (i + 2))) ((xs (i + 3)))
  refine lv_aload_n hx hb dL_652 rfl (lv_at hl 2 rfl) ?_
  refine lv_aload_n hx hb dL_653 rfl (lv_at hl 3 rfl) ?_
  refine lv_iload_n hx hb dL_654 rfl (lv_at hl 0 rfl) ?_
  refine lv_iconst (v := nI 1) hx hb dL_655 (by decide) ?_
  refine lv_iadd hx hb dL_656 ?_
  rw [nI_add]
  refine va_sld hx hb hX hbl hbA w3 (vp_in_nI (by omega) (by omega)) dL_657 ?_
  rw [nI_clamp (by omega)]
  refine lv_aload_n hx hb dL_658 rfl (lv_at hl 3 rfl) ?_
  refine lv_iload_n hx hb dL_659 rfl (lv_at hl 0 rfl) ?_
  refine lv_iconst (v := nI 2) hx hb dL_660 (by decide) ?_
  refine lv_iadd hx hb dL_661 ?_
  rw [nI_add]
  refine va_sld hx hb hX hbl hbA w3 (vp_in_nI (by omega) (by omega)) dL_662 ?_
  rw [nI_clamp (by omega)]
  refine lv_aload_n hx hb dL_663 rfl (lv_at hl 3 rfl) ?_
  refine lv_iload_n hx hb dL_664 rfl (lv_at hl 0 rfl) ?_
  refine lv_iconst (v := nI 3) hx hb dL_665 (by decide) ?_
  refine lv_iadd hx hb dL_666 ?_
  rw [nI_add]
  refine va_sld hx hb hX hbl hbA w3 (vp_in_nI (by omega) (by omega)) dL_667 ?_
  rw [nI_clamp (by omega)]
  refine lw_cv C0 s1 a1 tx_len (Nat.le_of_ble_eq_true rfl) (Nat.le_refl _) (by omega : 83 < 157) mr_83 lk_83 sh_x_0 (by decide) (As := [.int (xs (i + 1)), .int (xs (i + 2)), .int (xs (i + 3))]) rfl rfl (Nat.le_of_ble_eq_true rfl) (by decide) (rest := []) (Nat.le_of_ble_eq_true rfl) rfl k1 dL_668 hl.1 w1 w3 rfl (fun H1 locs1 g1 h1 f1 => ?_)
  have w2' := lw_kept (B2 := s.heap.size) (n2 := 162) w2 a2 ((sg_mk_len _ _).trans tm_len) (Nat.le_of_ble_eq_true rfl) (Or.inr (Nat.le_refl _)) f1
  refine lv_aload_n hx hb dL_671 rfl (lv_at hl 1 rfl) ?_
  refine lv_aload_n hx hb dL_672 rfl (lv_at hl 3 rfl) ?_
  refine lv_iload_n hx hb dL_673 rfl (lv_at hl 0 rfl) ?_
  refine lv_iconst (v := nI 1) hx hb dL_674 (by decide) ?_
  refine lv_iadd hx hb dL_675 ?_
  rw [nI_add]
  refine va_sld hx hb hX hbl hbA h1 (vp_in_nI (by omega) (by omega)) dL_676 ?_
  rw [nI_clamp (by omega)]
  refine lv_aload_n hx hb dL_677 rfl (lv_at hl 3 rfl) ?_
  refine lv_iload_n hx hb dL_678 rfl (lv_at hl 0 rfl) ?_
  refine lv_iconst (v := nI 2) hx hb dL_679 (by decide) ?_
  refine lv_iadd hx hb dL_680 ?_
  rw [nI_add]
  refine va_sld hx hb hX hbl hbA h1 (vp_in_nI (by omega) (by omega)) dL_681 ?_
  rw [nI_clamp (by omega)]
  refine lv_aload_n hx hb dL_682 rfl (lv_at hl 3 rfl) ?_
  refine lv_iload_n hx hb dL_683 rfl (lv_at hl 0 rfl) ?_
  refine lv_iconst (v := nI 3) hx hb dL_684 (by decide) ?_
  refine lv_iadd hx hb dL_685 ?_
  rw [nI_add]
  refine va_sld hx hb hX hbl hbA h1 (vp_in_nI (by omega) (by omega)) dL_686 ?_
  rw [nI_clamp (by omega)]
  refine lw_cv C0 s2 a2 tm_len (Nat.le_of_ble_eq_true rfl) (Nat.le_add_right _ _) (by omega : 112 < 157) mr_112 lk_112 sh_m_0 (by decide) (As := [.int (xs (i + 1)), .int (xs (i + 2)), .int (xs (i + 3))]) rfl rfl (Nat.le_of_ble_eq_true rfl) (by decide) (rest := [.int v]) (Nat.le_of_ble_eq_true rfl) rfl k2 dL_687 hl.1 w2' h1 rfl (fun H2 locs2 g2 h2 f2 => ?_)
  have w1' := lw_kept (B2 := s.heap.size + 162) (n2 := 27) g1 a1 ((sg_mk_len _ _).trans tx_len) (Nat.le_of_ble_eq_true rfl) (Or.inl (Nat.le_refl _)) f2
  refine lv_icmp_eq (tgt := 985) hx hb dL_690 (by decide) (fun _ => ?_) (fun z => absurd rfl z)
  exact kk σ' μ' H2 locs2 hR' ⟨w1', g2, h2⟩
set_option maxRecDepth 100000 in
theorem lk_84 : lw_tbl[661]? = some (.methodLink R_law 90 (ab_YM 84)) := by decide +kernel
set_option maxRecDepth 100000 in
theorem lk_113 : lw_tbl[890]? = some (.methodLink R_law 93 (ab_YM 113)) := by decide +kernel
theorem lo_18 {p : Program} {l : Launch} {e : Env} {s : State} {m : MethodId} {below : List Frame} {meth : Method} {c : Code} {b L : Nat} {xs : Nat → Int32} {D : va_G} {aC : Nat → ClassId} {adx adm : Nat → Nat} (C0 : lw_At p s m meth c b L xs) (hL : L ≤ 2048) (s1 : ab_Stc D aC adx (fun q => s.heap.size ≤ q) s s.heap) (s2 : ab_Stc D aC adm (fun q => s.heap.size ≤ q) s s.heap) (a1 : ∀ k, k < 1000 → adx k = s.heap.size + k) (a2 : ∀ k, k < 1000 → adm k = s.heap.size + 162 + k) {i : Nat} (hi : i + 4 ≤ L) {σ μ : sg_S} (hR : Rel σ μ) {H : Heap} {locs : List Loc} {ls : Array Slot} (hW : lw_W D aC adx adm s σ μ H locs) (hl : lv_has ls 4 [(3, .int (nI i)), (2, .ref (s.heap.size + 162)), (1, .ref s.heap.size), (0, .ref b)]) {Q : State → Prop} (kk : ∀ (σ' μ' : sg_S) (H' : Heap) (locs' : List Loc), Rel σ' μ' → lw_W D aC adx adm s σ' μ' H' locs' → W p l e room_1 s m #[Value.ref b] below meth c H' locs' 600000 7302250 Q (F0 m 985 ls [])) : W p l e room_1 s m #[Value.ref b] below meth c H locs 600000 7302250 Q (F0 m 695 ls []) := by
  obtain ⟨hx, hb, hr, hml, hown, hts, hX, hbl, hlocks, hgv⟩ := id C0
  have hbA : ¬ (fun q : Nat => s.heap.size ≤ q) b := Nat.not_le.mpr hbl
  obtain ⟨w1, w2, w3⟩ := hW
  obtain ⟨v, σ', μ', k1, k2, hR'⟩ := cl_18 hR ((xs (i + 1))) ((xs (i + 2)))
  refine lv_aload_n hx hb dL_695 rfl (lv_at hl 2 rfl) ?_
  refine lv_aload_n hx hb dL_696 rfl (lv_at hl 3 rfl) ?_
  refine lv_iload_n hx hb dL_697 rfl (lv_at hl 0 rfl) ?_
  refine lv_iconst (v := nI 1) hx hb dL_698 (by decide) ?_
  refine lv_iadd hx hb dL_699 ?_
  rw [nI_add]
  refine va_sld hx hb hX hbl hbA w3 (vp_in_nI (by omega) (by omega)) dL_700 ?_
  rw [nI_clamp (by omega)]
  refine lv_aload_n hx hb dL_701 rfl (lv_at hl 3 rfl) ?_
  refine lv_iload_n hx hb dL_702 rfl (lv_at hl 0 rfl) ?_
  refine lv_iconst (v := nI 2) hx hb dL_703 (by decide) ?_
  refine lv_iadd hx hb dL_704 ?_
  rw [nI_add]
  refine va_sld hx hb hX hbl hbA w3 (vp_in_nI (by omega) (by omega)) dL_705 ?_
  rw [nI_clamp (by omega)]
  refine lw_cv C0 s1 a1 tx_len (Nat.le_of_ble_eq_true rfl) (Nat.le_refl _) (by omega : 84 < 157) mr_84 lk_84 sh_x_0 (by decide) (As := [.int (xs (i + 1)), .int (xs (i + 2))]) rfl rfl (Nat.le_of_ble_eq_true rfl) (by decide) (rest := []) (Nat.le_of_ble_eq_true rfl) rfl k1 dL_706 hl.1 w1 w3 rfl (fun H1 locs1 g1 h1 f1 => ?_)
  have w2' := lw_kept (B2 := s.heap.size) (n2 := 162) w2 a2 ((sg_mk_len _ _).trans tm_len) (Nat.le_of_ble_eq_true rfl) (Or.inr (Nat.le_refl _)) f1
  refine lv_aload_n hx hb dL_709 rfl (lv_at hl 1 rfl) ?_
  refine lv_aload_n hx hb dL_710 rfl (lv_at hl 3 rfl) ?_
  refine lv_iload_n hx hb dL_711 rfl (lv_at hl 0 rfl) ?_
  refine lv_iconst (v := nI 1) hx hb dL_712 (by decide) ?_
  refine lv_iadd hx hb dL_713 ?_
  rw [nI_add]
  refine va_sld hx hb hX hbl hbA h1 (vp_in_nI (by omega) (by omega)) dL_714 ?_
  rw [nI_clamp (by omega)]
  refine lv_aload_n hx hb dL_715 rfl (lv_at hl 3 rfl) ?_
  refine lv_iload_n hx hb dL_716 rfl (lv_at hl 0 rfl) ?_
  refine lv_iconst (v := nI 2) hx hb dL_717 (by decide) ?_
  refine lv_iadd hx hb dL_718 ?_
  rw [nI_add]
  refine va_sld hx hb hX hbl hbA h1 (vp_in_nI (by omega) (by omega)) dL_719 ?_
  rw [nI_clamp (by omega)]
  refine lw_cv C0 s2 a2 tm_len (Nat.le_of_ble_eq_true rfl) (Nat.le_add_right _ _) (by omega : 113 < 157) mr_113 lk_113 sh_m_0 (by decide) (As := [.int (xs (i + 1)), .int (xs (i + 2))]) rfl rfl (Nat.le_of_ble_eq_true rfl) (by decide) (rest := [.int v]) (Nat.le_of_ble_eq_true rfl) rfl k2 dL_720 hl.1 w2' h1 rfl (fun H2 locs2 g2 h2 f2 => ?_)
  have w1' := lw_kept (B2 := s.heap.size + 162) (n2 := 27) g1 a1 ((sg_mk_len _ _).trans tx_len) (Nat.le_of_ble_eq_true rfl) (Or.inl (Nat.le_refl _)) f2
  refine lv_icmp_eq (tgt := 985) hx hb dL_723 (by decide) (fun _ => ?_) (fun z => absurd rfl z)
  exact kk σ' μ' H2 locs2 hR' ⟨w1', g2, h2⟩
set_option maxRecDepth 100000 in
theorem lk_85 : lw_tbl[665]? = some (.methodLink R_law 94 (ab_YM 85)) := by decide +kernel
set_option maxRecDepth 100000 in
theorem lk_114 : lw_tbl[898]? = some (.methodLink R_law 97 (ab_YM 114)) := by decide +kernel
theorem lo_19 {p : Program} {l : Launch} {e : Env} {s : State} {m : MethodId} {below : List Frame} {meth : Method} {c : Code} {b L : Nat} {xs : Nat → Int32} {D : va_G} {aC : Nat → ClassId} {adx adm : Nat → Nat} (C0 : lw_At p s m meth c b L xs) (hL : L ≤ 2048) (s1 : ab_Stc D aC adx (fun q => s.heap.size ≤ q) s s.heap) (s2 : ab_Stc D aC adm (fun q => s.heap.size ≤ q) s s.heap) (a1 : ∀ k, k < 1000 → adx k = s.heap.size + k) (a2 : ∀ k, k < 1000 → adm k = s.heap.size + 162 + k) {i : Nat} (hi : i + 4 ≤ L) {σ μ : sg_S} (hR : Rel σ μ) {H : Heap} {locs : List Loc} {ls : Array Slot} (hW : lw_W D aC adx adm s σ μ H locs) (hl : lv_has ls 4 [(3, .int (nI i)), (2, .ref (s.heap.size + 162)), (1, .ref s.heap.size), (0, .ref b)]) {Q : State → Prop} (kk : ∀ (σ' μ' : sg_S) (H' : Heap) (locs' : List Loc), Rel σ' μ' → lw_W D aC adx adm s σ' μ' H' locs' → W p l e room_1 s m #[Value.ref b] below meth c H' locs' 600000 7302250 Q (F0 m 985 ls [])) : W p l e room_1 s m #[Value.ref b] below meth c H locs 600000 7302250 Q (F0 m 728 ls []) := by
  obtain ⟨hx, hb, hr, hml, hown, hts, hX, hbl, hlocks, hgv⟩ := id C0
  have hbA : ¬ (fun q : Nat => s.heap.size ≤ q) b := Nat.not_le.mpr hbl
  obtain ⟨w1, w2, w3⟩ := hW
  obtain ⟨v, σ', μ', k1, k2, hR'⟩ := cl_19 hR ((xs (i + 1))) ((xs (i + 2)))
  refine lv_aload_n hx hb dL_728 rfl (lv_at hl 2 rfl) ?_
  refine lv_aload_n hx hb dL_729 rfl (lv_at hl 3 rfl) ?_
  refine lv_iload_n hx hb dL_730 rfl (lv_at hl 0 rfl) ?_
  refine lv_iconst (v := nI 1) hx hb dL_731 (by decide) ?_
  refine lv_iadd hx hb dL_732 ?_
  rw [nI_add]
  refine va_sld hx hb hX hbl hbA w3 (vp_in_nI (by omega) (by omega)) dL_733 ?_
  rw [nI_clamp (by omega)]
  refine lv_aload_n hx hb dL_734 rfl (lv_at hl 3 rfl) ?_
  refine lv_iload_n hx hb dL_735 rfl (lv_at hl 0 rfl) ?_
  refine lv_iconst (v := nI 2) hx hb dL_736 (by decide) ?_
  refine lv_iadd hx hb dL_737 ?_
  rw [nI_add]
  refine va_sld hx hb hX hbl hbA w3 (vp_in_nI (by omega) (by omega)) dL_738 ?_
  rw [nI_clamp (by omega)]
  refine lw_cv C0 s1 a1 tx_len (Nat.le_of_ble_eq_true rfl) (Nat.le_refl _) (by omega : 85 < 157) mr_85 lk_85 sh_x_0 (by decide) (As := [.int (xs (i + 1)), .int (xs (i + 2))]) rfl rfl (Nat.le_of_ble_eq_true rfl) (by decide) (rest := []) (Nat.le_of_ble_eq_true rfl) rfl k1 dL_739 hl.1 w1 w3 rfl (fun H1 locs1 g1 h1 f1 => ?_)
  have w2' := lw_kept (B2 := s.heap.size) (n2 := 162) w2 a2 ((sg_mk_len _ _).trans tm_len) (Nat.le_of_ble_eq_true rfl) (Or.inr (Nat.le_refl _)) f1
  refine lv_aload_n hx hb dL_742 rfl (lv_at hl 1 rfl) ?_
  refine lv_aload_n hx hb dL_743 rfl (lv_at hl 3 rfl) ?_
  refine lv_iload_n hx hb dL_744 rfl (lv_at hl 0 rfl) ?_
  refine lv_iconst (v := nI 1) hx hb dL_745 (by decide) ?_
  refine lv_iadd hx hb dL_746 ?_
  rw [nI_add]
  refine va_sld hx hb hX hbl hbA h1 (vp_in_nI (by omega) (by omega)) dL_747 ?_
  rw [nI_clamp (by omega)]
  refine lv_aload_n hx hb dL_748 rfl (lv_at hl 3 rfl) ?_
  refine lv_iload_n hx hb dL_749 rfl (lv_at hl 0 rfl) ?_
  refine lv_iconst (v := nI 2) hx hb dL_750 (by decide) ?_
  refine lv_iadd hx hb dL_751 ?_
  rw [nI_add]
  refine va_sld hx hb hX hbl hbA h1 (vp_in_nI (by omega) (by omega)) dL_752 ?_
  rw [nI_clamp (by omega)]
  refine lw_cv C0 s2 a2 tm_len (Nat.le_of_ble_eq_true rfl) (Nat.le_add_right _ _) (by omega : 114 < 157) mr_114 lk_114 sh_m_0 (by decide) (As := [.int (xs (i + 1)), .int (xs (i + 2))]) rfl rfl (Nat.le_of_ble_eq_true rfl) (by decide) (rest := [.int v]) (Nat.le_of_ble_eq_true rfl) rfl k2 dL_753 hl.1 w2' h1 rfl (fun H2 locs2 g2 h2 f2 => ?_)
  have w1' := lw_kept (B2 := s.heap.size + 162) (n2 := 27) g1 a1 ((sg_mk_len _ _).trans tx_len) (Nat.le_of_ble_eq_true rfl) (Or.inl (Nat.le_refl _)) f2
  refine lv_icmp_eq (tgt := 985) hx hb dL_756 (by decide) (fun _ => ?_) (fun z => absurd rfl z)
  exact kk σ' μ' H2 locs2 hR' ⟨w1', g2, h2⟩
set_option maxRecDepth 100000 in
theorem lk_86 : lw_tbl[673]? = some (.methodLink R_law 98 (ab_YM 86)) := by decide +kernel
set_option maxRecDepth 100000 in
theorem lk_148 : lw_tbl[1039]? = some (.methodLink R_law 101 (ab_YM 148)) := by decide +kernel
theorem lo_20 {p : Program} {l : Launch} {e : Env} {s : State} {m : MethodId} {below : List Frame} {meth : Method} {c : Code} {b L : Nat} {xs : Nat → Int32} {D : va_G} {aC : Nat → ClassId} {adx adm : Nat → Nat} (C0 : lw_At p s m meth c b L xs) (hL : L ≤ 2048) (s1 : ab_Stc D aC adx (fun q => s.heap.size ≤ q) s s.heap) (s2 : ab_Stc D aC adm (fun q => s.heap.size ≤ q) s s.heap) (a1 : ∀ k, k < 1000 → adx k = s.heap.size + k) (a2 : ∀ k, k < 1000 → adm k = s.heap.size + 162 + k) {i : Nat} (hi : i + 4 ≤ L) {σ μ : sg_S} (hR : Rel σ μ) {H : Heap} {locs : List Loc} {ls : Array Slot} (hW : lw_W D aC adx adm s σ μ H locs) (hl : lv_has ls 4 [(3, .int (nI i)), (2, .ref (s.heap.size + 162)), (1, .ref s.heap.size), (0, .ref b)]) {Q : State → Prop} (kk : ∀ (σ' μ' : sg_S) (H' : Heap) (locs' : List Loc), Rel σ' μ' → lw_W D aC adx adm s σ' μ' H' locs' → W p l e room_1 s m #[Value.ref b] below meth c H' locs' 600000 7302250 Q (F0 m 985 ls [])) : W p l e room_1 s m #[Value.ref b] below meth c H locs 600000 7302250 Q (F0 m 761 ls []) := by
  obtain ⟨hx, hb, hr, hml, hown, hts, hX, hbl, hlocks, hgv⟩ := id C0
  have hbA : ¬ (fun q : Nat => s.heap.size ≤ q) b := Nat.not_le.mpr hbl
  obtain ⟨w1, w2, w3⟩ := hW
  obtain ⟨v, σ', μ', k1, k2, hR'⟩ := cl_20 hR ((xs (i + 1))) ((xs (i + 2)))
  refine lv_aload_n hx hb dL_761 rfl (lv_at hl 2 rfl) ?_
  refine lv_aload_n hx hb dL_762 rfl (lv_at hl 3 rfl) ?_
  refine lv_iload_n hx hb dL_763 rfl (lv_at hl 0 rfl) ?_
  refine lv_iconst (v := nI 1) hx hb dL_764 (by decide) ?_
  refine lv_iadd hx hb dL_765 ?_
  rw [nI_add]
  refine va_sld hx hb hX hbl hbA w3 (vp_in_nI (by omega) (by omega)) dL_766 ?_
  rw [nI_clamp (by omega)]
  refine lv_aload_n hx hb dL_767 rfl (lv_at hl 3 rfl) ?_
  refine lv_iload_n hx hb dL_768 rfl (lv_at hl 0 rfl) ?_
  refine lv_iconst (v := nI 2) hx hb dL_769 (by decide) ?_
  refine lv_iadd hx hb dL_770 ?_
  rw [nI_add]
  refine va_sld hx hb hX hbl hbA w3 (vp_in_nI (by omega) (by omega)) dL_771 ?_
  rw [nI_clamp (by omega)]
  refine lw_cv C0 s1 a1 tx_len (Nat.le_of_ble_eq_true rfl) (Nat.le_refl _) (by omega : 86 < 157) mr_86 lk_86 sh_x_0 (by decide) (As := [.int (xs (i + 1)), .int (xs (i + 2))]) rfl rfl (Nat.le_of_ble_eq_true rfl) (by decide) (rest := []) (Nat.le_of_ble_eq_true rfl) rfl k1 dL_772 hl.1 w1 w3 rfl (fun H1 locs1 g1 h1 f1 => ?_)
  have w2' := lw_kept (B2 := s.heap.size) (n2 := 162) w2 a2 ((sg_mk_len _ _).trans tm_len) (Nat.le_of_ble_eq_true rfl) (Or.inr (Nat.le_refl _)) f1
  refine lv_aload_n hx hb dL_775 rfl (lv_at hl 1 rfl) ?_
  refine lv_aload_n hx hb dL_776 rfl (lv_at hl 3 rfl) ?_
  refine lv_iload_n hx hb dL_777 rfl (lv_at hl 0 rfl) ?_
  refine lv_iconst (v := nI 1) hx hb dL_778 (by decide) ?_
  refine lv_iadd hx hb dL_779 ?_
  rw [nI_add]
  refine va_sld hx hb hX hbl hbA h1 (vp_in_nI (by omega) (by omega)) dL_780 ?_
  rw [nI_clamp (by omega)]
  refine lv_aload_n hx hb dL_781 rfl (lv_at hl 3 rfl) ?_
  refine lv_iload_n hx hb dL_782 rfl (lv_at hl 0 rfl) ?_
  refine lv_iconst (v := nI 2) hx hb dL_783 (by decide) ?_
  refine lv_iadd hx hb dL_784 ?_
  rw [nI_add]
  refine va_sld hx hb hX hbl hbA h1 (vp_in_nI (by omega) (by omega)) dL_785 ?_
  rw [nI_clamp (by omega)]
  refine lw_cv C0 s2 a2 tm_len (Nat.le_of_ble_eq_true rfl) (Nat.le_add_right _ _) (by omega : 148 < 157) mr_148 lk_148 sh_m_0 (by decide) (As := [.int (xs (i + 1)), .int (xs (i + 2))]) rfl rfl (Nat.le_of_ble_eq_true rfl) (by decide) (rest := [.int v]) (Nat.le_of_ble_eq_true rfl) rfl k2 dL_786 hl.1 w2' h1 rfl (fun H2 locs2 g2 h2 f2 => ?_)
  have w1' := lw_kept (B2 := s.heap.size + 162) (n2 := 27) g1 a1 ((sg_mk_len _ _).trans tx_len) (Nat.le_of_ble_eq_true rfl) (Or.inl (Nat.le_refl _)) f2
  refine lv_icmp_eq (tgt := 985) hx hb dL_789 (by decide) (fun _ => ?_) (fun z => absurd rfl z)
  exact kk σ' μ' H2 locs2 hR' ⟨w1', g2, h2⟩
set_option maxRecDepth 100000 in
theorem lk_87 : lw_tbl[681]? = some (.methodLink R_law 102 (ab_YM 87)) := by decide +kernel
set_option maxRecDepth 100000 in
theorem lk_149 : lw_tbl[1052]? = some (.methodLink R_law 105 (ab_YM 149)) := by decide +kernel
theorem lo_21 {p : Program} {l : Launch} {e : Env} {s : State} {m : MethodId} {below : List Frame} {meth : Method} {c : Code} {b L : Nat} {xs : Nat → Int32} {D : va_G} {aC : Nat → ClassId} {adx adm : Nat → Nat} (C0 : lw_At p s m meth c b L xs) (hL : L ≤ 2048) (s1 : ab_Stc D aC adx (fun q => s.heap.size ≤ q) s s.heap) (s2 : ab_Stc D aC adm (fun q => s.heap.size ≤ q) s s.heap) (a1 : ∀ k, k < 1000 → adx k = s.heap.size + k) (a2 : ∀ k, k < 1000 → adm k = s.heap.size + 162 + k) {i : Nat} (hi : i + 4 ≤ L) {σ μ : sg_S} (hR : Rel σ μ) {H : Heap} {locs : List Loc} {ls : Array Slot} (hW : lw_W D aC adx adm s σ μ H locs) (hl : lv_has ls 4 [(3, .int (nI i)), (2, .ref (s.heap.size + 162)), (1, .ref s.heap.size), (0, .ref b)]) {Q : State → Prop} (kk : ∀ (σ' μ' : sg_S) (H' : Heap) (locs' : List Loc), Rel σ' μ' → lw_W D aC adx adm s σ' μ' H' locs' → W p l e room_1 s m #[Value.ref b] below meth c H' locs' 600000 7302250 Q (F0 m 985 ls [])) : W p l e room_1 s m #[Value.ref b] below meth c H locs 600000 7302250 Q (F0 m 794 ls []) := by
  obtain ⟨hx, hb, hr, hml, hown, hts, hX, hbl, hlocks, hgv⟩ := id C0
  have hbA : ¬ (fun q : Nat => s.heap.size ≤ q) b := Nat.not_le.mpr hbl
  obtain ⟨w1, w2, w3⟩ := hW
  obtain ⟨v, σ', μ', k1, k2, hR'⟩ := cl_21 hR ((xs (i + 1))) ((xs (i + 2)))
  refine lv_aload_n hx hb dL_794 rfl (lv_at hl 2 rfl) ?_
  refine lv_aload_n hx hb dL_795 rfl (lv_at hl 3 rfl) ?_
  refine lv_iload_n hx hb dL_796 rfl (lv_at hl 0 rfl) ?_
  refine lv_iconst (v := nI 1) hx hb dL_797 (by decide) ?_
  refine lv_iadd hx hb dL_798 ?_
  rw [nI_add]
  refine va_sld hx hb hX hbl hbA w3 (vp_in_nI (by omega) (by omega)) dL_799 ?_
  rw [nI_clamp (by omega)]
  refine lv_aload_n hx hb dL_800 rfl (lv_at hl 3 rfl) ?_
  refine lv_iload_n hx hb dL_801 rfl (lv_at hl 0 rfl) ?_
  refine lv_iconst (v := nI 2) hx hb dL_802 (by decide) ?_
  refine lv_iadd hx hb dL_803 ?_
  rw [nI_add]
  refine va_sld hx hb hX hbl hbA w3 (vp_in_nI (by omega) (by omega)) dL_804 ?_
  rw [nI_clamp (by omega)]
  refine lw_cv C0 s1 a1 tx_len (Nat.le_of_ble_eq_true rfl) (Nat.le_refl _) (by omega : 87 < 157) mr_87 lk_87 sh_x_0 (by decide) (As := [.int (xs (i + 1)), .int (xs (i + 2))]) rfl rfl (Nat.le_of_ble_eq_true rfl) (by decide) (rest := []) (Nat.le_of_ble_eq_true rfl) rfl k1 dL_805 hl.1 w1 w3 rfl (fun H1 locs1 g1 h1 f1 => ?_)
  have w2' := lw_kept (B2 := s.heap.size) (n2 := 162) w2 a2 ((sg_mk_len _ _).trans tm_len) (Nat.le_of_ble_eq_true rfl) (Or.inr (Nat.le_refl _)) f1
  refine lv_aload_n hx hb dL_808 rfl (lv_at hl 1 rfl) ?_
  refine lv_aload_n hx hb dL_809 rfl (lv_at hl 3 rfl) ?_
  refine lv_iload_n hx hb dL_810 rfl (lv_at hl 0 rfl) ?_
  refine lv_iconst (v := nI 1) hx hb dL_811 (by decide) ?_
  refine lv_iadd hx hb dL_812 ?_
  rw [nI_add]
  refine va_sld hx hb hX hbl hbA h1 (vp_in_nI (by omega) (by omega)) dL_813 ?_
  rw [nI_clamp (by omega)]
  refine lv_aload_n hx hb dL_814 rfl (lv_at hl 3 rfl) ?_
  refine lv_iload_n hx hb dL_815 rfl (lv_at hl 0 rfl) ?_
  refine lv_iconst (v := nI 2) hx hb dL_816 (by decide) ?_
  refine lv_iadd hx hb dL_817 ?_
  rw [nI_add]
  refine va_sld hx hb hX hbl hbA h1 (vp_in_nI (by omega) (by omega)) dL_818 ?_
  rw [nI_clamp (by omega)]
  refine lw_cv C0 s2 a2 tm_len (Nat.le_of_ble_eq_true rfl) (Nat.le_add_right _ _) (by omega : 149 < 157) mr_149 lk_149 sh_m_0 (by decide) (As := [.int (xs (i + 1)), .int (xs (i + 2))]) rfl rfl (Nat.le_of_ble_eq_true rfl) (by decide) (rest := [.int v]) (Nat.le_of_ble_eq_true rfl) rfl k2 dL_819 hl.1 w2' h1 rfl (fun H2 locs2 g2 h2 f2 => ?_)
  have w1' := lw_kept (B2 := s.heap.size + 162) (n2 := 27) g1 a1 ((sg_mk_len _ _).trans tx_len) (Nat.le_of_ble_eq_true rfl) (Or.inl (Nat.le_refl _)) f2
  refine lv_icmp_eq (tgt := 985) hx hb dL_822 (by decide) (fun _ => ?_) (fun z => absurd rfl z)
  exact kk σ' μ' H2 locs2 hR' ⟨w1', g2, h2⟩
set_option maxRecDepth 100000 in
theorem lk_88 : lw_tbl[685]? = some (.methodLink R_law 108 (ab_YM 88)) := by decide +kernel
set_option maxRecDepth 100000 in
theorem lk_150 : lw_tbl[1056]? = some (.methodLink R_law 112 (ab_YM 150)) := by decide +kernel
theorem lo_22 {p : Program} {l : Launch} {e : Env} {s : State} {m : MethodId} {below : List Frame} {meth : Method} {c : Code} {b L : Nat} {xs : Nat → Int32} {D : va_G} {aC : Nat → ClassId} {adx adm : Nat → Nat} (C0 : lw_At p s m meth c b L xs) (hL : L ≤ 2048) (s1 : ab_Stc D aC adx (fun q => s.heap.size ≤ q) s s.heap) (s2 : ab_Stc D aC adm (fun q => s.heap.size ≤ q) s s.heap) (a1 : ∀ k, k < 1000 → adx k = s.heap.size + k) (a2 : ∀ k, k < 1000 → adm k = s.heap.size + 162 + k) {i : Nat} (hi : i + 4 ≤ L) {σ μ : sg_S} (hR : Rel σ μ) {H : Heap} {locs : List Loc} {ls : Array Slot} (hW : lw_W D aC adx adm s σ μ H locs) (hl : lv_has ls 4 [(3, .int (nI i)), (2, .ref (s.heap.size + 162)), (1, .ref s.heap.size), (0, .ref b)]) {Q : State → Prop} (kk : ∀ (σ' μ' : sg_S) (H' : Heap) (locs' : List Loc), Rel σ' μ' → lw_W D aC adx adm s σ' μ' H' locs' → W p l e room_1 s m #[Value.ref b] below meth c H' locs' 600000 7302250 Q (F0 m 985 ls [])) : W p l e room_1 s m #[Value.ref b] below meth c H locs 600000 7302250 Q (F0 m 827 ls []) := by
  obtain ⟨hx, hb, hr, hml, hown, hts, hX, hbl, hlocks, hgv⟩ := id C0
  have hbA : ¬ (fun q : Nat => s.heap.size ≤ q) b := Nat.not_le.mpr hbl
  obtain ⟨w1, w2, w3⟩ := hW
  obtain ⟨v, σ', μ', k1, k2, hR'⟩ := cl_22 hR ((xs (i + 1))) (((xs (i + 2)).toInt64 <<< ((nI 32).toInt64 &&& 63) ||| (xs (i + 3)).toInt64 &&& 4294967295))
  refine lv_aload_n hx hb dL_827 rfl (lv_at hl 2 rfl) ?_
  refine lv_aload_n hx hb dL_828 rfl (lv_at hl 3 rfl) ?_
  refine lv_iload_n hx hb dL_829 rfl (lv_at hl 0 rfl) ?_
  refine lv_iconst (v := nI 1) hx hb dL_830 (by decide) ?_
  refine lv_iadd hx hb dL_831 ?_
  rw [nI_add]
  refine va_sld hx hb hX hbl hbA w3 (vp_in_nI (by omega) (by omega)) dL_832 ?_
  rw [nI_clamp (by omega)]
  refine lv_aload_n hx hb dL_833 rfl (lv_at hl 3 rfl) ?_
  refine lv_iload_n hx hb dL_834 rfl (lv_at hl 0 rfl) ?_
  refine lv_iconst (v := nI 2) hx hb dL_835 (by decide) ?_
  refine lv_iadd hx hb dL_836 ?_
  rw [nI_add]
  refine va_sld hx hb hX hbl hbA w3 (vp_in_nI (by omega) (by omega)) dL_837 ?_
  rw [nI_clamp (by omega)]
  refine lv_i2l hx hb dL_838 rfl ?_
  refine lv_bipush (v := nI 32) hx hb dL_839 (by decide) ?_
  refine lv_lshl hx hb dL_841 rfl ?_
  refine lv_aload_n hx hb dL_842 rfl (lv_at hl 3 rfl) ?_
  refine lv_iload_n hx hb dL_843 rfl (lv_at hl 0 rfl) ?_
  refine lv_iconst (v := nI 3) hx hb dL_844 (by decide) ?_
  refine lv_iadd hx hb dL_845 ?_
  rw [nI_add]
  refine va_sld hx hb hX hbl hbA w3 (vp_in_nI (by omega) (by omega)) dL_846 ?_
  rw [nI_clamp (by omega)]
  refine lv_i2l hx hb dL_847 rfl ?_
  refine lv_ldc2 (v := 4294967295) hx hb hown (lw_tk hts (w := .constantLong R_law 106 4294967295) (i := 1080) (by decide +kernel)) dL_848 ?_
  refine lv_land hx hb dL_851 ?_
  refine lv_lor hx hb dL_852 ?_
  refine lw_cv C0 s1 a1 tx_len (Nat.le_of_ble_eq_true rfl) (Nat.le_refl _) (by omega : 88 < 157) mr_88 lk_88 sh_x_0 (by decide) (As := [.int (xs (i + 1)), .long ((xs (i + 2)).toInt64 <<< ((nI 32).toInt64 &&& 63) ||| (xs (i + 3)).toInt64 &&& 4294967295)]) rfl rfl (Nat.le_of_ble_eq_true rfl) (by decide) (rest := []) (Nat.le_of_ble_eq_true rfl) rfl k1 dL_853 hl.1 w1 w3 rfl (fun H1 locs1 g1 h1 f1 => ?_)
  have w2' := lw_kept (B2 := s.heap.size) (n2 := 162) w2 a2 ((sg_mk_len _ _).trans tm_len) (Nat.le_of_ble_eq_true rfl) (Or.inr (Nat.le_refl _)) f1
  refine lv_aload_n hx hb dL_856 rfl (lv_at hl 1 rfl) ?_
  refine lv_aload_n hx hb dL_857 rfl (lv_at hl 3 rfl) ?_
  refine lv_iload_n hx hb dL_858 rfl (lv_at hl 0 rfl) ?_
  refine lv_iconst (v := nI 1) hx hb dL_859 (by decide) ?_
  refine lv_iadd hx hb dL_860 ?_
  rw [nI_add]
  refine va_sld hx hb hX hbl hbA h1 (vp_in_nI (by omega) (by omega)) dL_861 ?_
  rw [nI_clamp (by omega)]
  refine lv_aload_n hx hb dL_862 rfl (lv_at hl 3 rfl) ?_
  refine lv_iload_n hx hb dL_863 rfl (lv_at hl 0 rfl) ?_
  refine lv_iconst (v := nI 2) hx hb dL_864 (by decide) ?_
  refine lv_iadd hx hb dL_865 ?_
  rw [nI_add]
  refine va_sld hx hb hX hbl hbA h1 (vp_in_nI (by omega) (by omega)) dL_866 ?_
  rw [nI_clamp (by omega)]
  refine lv_i2l hx hb dL_867 rfl ?_
  refine lv_bipush (v := nI 32) hx hb dL_868 (by decide) ?_
  refine lv_lshl hx hb dL_870 rfl ?_
  refine lv_aload_n hx hb dL_871 rfl (lv_at hl 3 rfl) ?_
  refine lv_iload_n hx hb dL_872 rfl (lv_at hl 0 rfl) ?_
  refine lv_iconst (v := nI 3) hx hb dL_873 (by decide) ?_
  refine lv_iadd hx hb dL_874 ?_
  rw [nI_add]
  refine va_sld hx hb hX hbl hbA h1 (vp_in_nI (by omega) (by omega)) dL_875 ?_
  rw [nI_clamp (by omega)]
  refine lv_i2l hx hb dL_876 rfl ?_
  refine lv_ldc2 (v := 4294967295) hx hb hown (lw_tk hts (w := .constantLong R_law 106 4294967295) (i := 1080) (by decide +kernel)) dL_877 ?_
  refine lv_land hx hb dL_880 ?_
  refine lv_lor hx hb dL_881 ?_
  refine lw_cv C0 s2 a2 tm_len (Nat.le_of_ble_eq_true rfl) (Nat.le_add_right _ _) (by omega : 150 < 157) mr_150 lk_150 sh_m_0 (by decide) (As := [.int (xs (i + 1)), .long ((xs (i + 2)).toInt64 <<< ((nI 32).toInt64 &&& 63) ||| (xs (i + 3)).toInt64 &&& 4294967295)]) rfl rfl (Nat.le_of_ble_eq_true rfl) (by decide) (rest := [.int v]) (Nat.le_of_ble_eq_true rfl) rfl k2 dL_882 hl.1 w2' h1 rfl (fun H2 locs2 g2 h2 f2 => ?_)
  have w1' := lw_kept (B2 := s.heap.size + 162) (n2 := 27) g1 a1 ((sg_mk_len _ _).trans tx_len) (Nat.le_of_ble_eq_true rfl) (Or.inl (Nat.le_refl _)) f2
  refine lv_icmp_eq (tgt := 985) hx hb dL_885 (by decide) (fun _ => ?_) (fun z => absurd rfl z)
  exact kk σ' μ' H2 locs2 hR' ⟨w1', g2, h2⟩
set_option maxRecDepth 100000 in
theorem lk_89 : lw_tbl[693]? = some (.methodLink R_law 113 (ab_YM 89)) := by decide +kernel
set_option maxRecDepth 100000 in
theorem lk_151 : lw_tbl[1060]? = some (.methodLink R_law 116 (ab_YM 151)) := by decide +kernel
theorem lo_23 {p : Program} {l : Launch} {e : Env} {s : State} {m : MethodId} {below : List Frame} {meth : Method} {c : Code} {b L : Nat} {xs : Nat → Int32} {D : va_G} {aC : Nat → ClassId} {adx adm : Nat → Nat} (C0 : lw_At p s m meth c b L xs) (hL : L ≤ 2048) (s1 : ab_Stc D aC adx (fun q => s.heap.size ≤ q) s s.heap) (s2 : ab_Stc D aC adm (fun q => s.heap.size ≤ q) s s.heap) (a1 : ∀ k, k < 1000 → adx k = s.heap.size + k) (a2 : ∀ k, k < 1000 → adm k = s.heap.size + 162 + k) {i : Nat} (hi : i + 4 ≤ L) {σ μ : sg_S} (hR : Rel σ μ) {H : Heap} {locs : List Loc} {ls : Array Slot} (hW : lw_W D aC adx adm s σ μ H locs) (hl : lv_has ls 4 [(3, .int (nI i)), (2, .ref (s.heap.size + 162)), (1, .ref s.heap.size), (0, .ref b)]) {Q : State → Prop} (kk : ∀ (σ' μ' : sg_S) (H' : Heap) (locs' : List Loc), Rel σ' μ' → lw_W D aC adx adm s σ' μ' H' locs' → W p l e room_1 s m #[Value.ref b] below meth c H' locs' 600000 7302250 Q (F0 m 985 ls [])) : W p l e room_1 s m #[Value.ref b] below meth c H locs 600000 7302250 Q (F0 m 890 ls []) := by
  obtain ⟨hx, hb, hr, hml, hown, hts, hX, hbl, hlocks, hgv⟩ := id C0
  have hbA : ¬ (fun q : Nat => s.heap.size ≤ q) b := Nat.not_le.mpr hbl
  obtain ⟨w1, w2, w3⟩ := hW
  obtain ⟨v, σ', μ', k1, k2, hR'⟩ := cl_23 hR 
  refine lv_aload_n hx hb dL_890 rfl (lv_at hl 2 rfl) ?_
  refine lw_cv C0 s1 a1 tx_len (Nat.le_of_ble_eq_true rfl) (Nat.le_refl _) (by omega : 89 < 157) mr_89 lk_89 sh_x_0 (by decide) (As := []) rfl rfl (Nat.le_of_ble_eq_true rfl) (by decide) (rest := []) (Nat.le_of_ble_eq_true rfl) rfl k1 dL_891 hl.1 w1 w3 rfl (fun H1 locs1 g1 h1 f1 => ?_)
  have w2' := lw_kept (B2 := s.heap.size) (n2 := 162) w2 a2 ((sg_mk_len _ _).trans tm_len) (Nat.le_of_ble_eq_true rfl) (Or.inr (Nat.le_refl _)) f1
  refine lv_aload_n hx hb dL_894 rfl (lv_at hl 1 rfl) ?_
  refine lw_cv C0 s2 a2 tm_len (Nat.le_of_ble_eq_true rfl) (Nat.le_add_right _ _) (by omega : 151 < 157) mr_151 lk_151 sh_m_0 (by decide) (As := []) rfl rfl (Nat.le_of_ble_eq_true rfl) (by decide) (rest := [.int v]) (Nat.le_of_ble_eq_true rfl) rfl k2 dL_895 hl.1 w2' h1 rfl (fun H2 locs2 g2 h2 f2 => ?_)
  have w1' := lw_kept (B2 := s.heap.size + 162) (n2 := 27) g1 a1 ((sg_mk_len _ _).trans tx_len) (Nat.le_of_ble_eq_true rfl) (Or.inl (Nat.le_refl _)) f2
  refine lv_icmp_eq (tgt := 985) hx hb dL_898 (by decide) (fun _ => ?_) (fun z => absurd rfl z)
  exact kk σ' μ' H2 locs2 hR' ⟨w1', g2, h2⟩
set_option maxRecDepth 100000 in
theorem lk_90 : lw_tbl[701]? = some (.methodLink R_law 117 (ab_YM 90)) := by decide +kernel
set_option maxRecDepth 100000 in
theorem lk_152 : lw_tbl[1064]? = some (.methodLink R_law 120 (ab_YM 152)) := by decide +kernel
theorem lo_24 {p : Program} {l : Launch} {e : Env} {s : State} {m : MethodId} {below : List Frame} {meth : Method} {c : Code} {b L : Nat} {xs : Nat → Int32} {D : va_G} {aC : Nat → ClassId} {adx adm : Nat → Nat} (C0 : lw_At p s m meth c b L xs) (hL : L ≤ 2048) (s1 : ab_Stc D aC adx (fun q => s.heap.size ≤ q) s s.heap) (s2 : ab_Stc D aC adm (fun q => s.heap.size ≤ q) s s.heap) (a1 : ∀ k, k < 1000 → adx k = s.heap.size + k) (a2 : ∀ k, k < 1000 → adm k = s.heap.size + 162 + k) {i : Nat} (hi : i + 4 ≤ L) {σ μ : sg_S} (hR : Rel σ μ) {H : Heap} {locs : List Loc} {ls : Array Slot} (hW : lw_W D aC adx adm s σ μ H locs) (hl : lv_has ls 4 [(3, .int (nI i)), (2, .ref (s.heap.size + 162)), (1, .ref s.heap.size), (0, .ref b)]) {Q : State → Prop} (kk : ∀ (σ' μ' : sg_S) (H' : Heap) (locs' : List Loc), Rel σ' μ' → lw_W D aC adx adm s σ' μ' H' locs' → W p l e room_1 s m #[Value.ref b] below meth c H' locs' 600000 7302250 Q (F0 m 985 ls [])) : W p l e room_1 s m #[Value.ref b] below meth c H locs 600000 7302250 Q (F0 m 903 ls []) := by
  obtain ⟨hx, hb, hr, hml, hown, hts, hX, hbl, hlocks, hgv⟩ := id C0
  have hbA : ¬ (fun q : Nat => s.heap.size ≤ q) b := Nat.not_le.mpr hbl
  obtain ⟨w1, w2, w3⟩ := hW
  obtain ⟨v, σ', μ', k1, k2, hR'⟩ := cl_24 hR 
  refine lv_aload_n hx hb dL_903 rfl (lv_at hl 2 rfl) ?_
  refine lw_cv C0 s1 a1 tx_len (Nat.le_of_ble_eq_true rfl) (Nat.le_refl _) (by omega : 90 < 157) mr_90 lk_90 sh_x_0 (by decide) (As := []) rfl rfl (Nat.le_of_ble_eq_true rfl) (by decide) (rest := []) (Nat.le_of_ble_eq_true rfl) rfl k1 dL_904 hl.1 w1 w3 rfl (fun H1 locs1 g1 h1 f1 => ?_)
  have w2' := lw_kept (B2 := s.heap.size) (n2 := 162) w2 a2 ((sg_mk_len _ _).trans tm_len) (Nat.le_of_ble_eq_true rfl) (Or.inr (Nat.le_refl _)) f1
  refine lv_aload_n hx hb dL_907 rfl (lv_at hl 1 rfl) ?_
  refine lw_cv C0 s2 a2 tm_len (Nat.le_of_ble_eq_true rfl) (Nat.le_add_right _ _) (by omega : 152 < 157) mr_152 lk_152 sh_m_0 (by decide) (As := []) rfl rfl (Nat.le_of_ble_eq_true rfl) (by decide) (rest := [.int v]) (Nat.le_of_ble_eq_true rfl) rfl k2 dL_908 hl.1 w2' h1 rfl (fun H2 locs2 g2 h2 f2 => ?_)
  have w1' := lw_kept (B2 := s.heap.size + 162) (n2 := 27) g1 a1 ((sg_mk_len _ _).trans tx_len) (Nat.le_of_ble_eq_true rfl) (Or.inl (Nat.le_refl _)) f2
  refine lv_icmp_eq (tgt := 985) hx hb dL_911 (by decide) (fun _ => ?_) (fun z => absurd rfl z)
  exact kk σ' μ' H2 locs2 hR' ⟨w1', g2, h2⟩
set_option maxRecDepth 100000 in
theorem lk_91 : lw_tbl[709]? = some (.methodLink R_law 121 (ab_YM 91)) := by decide +kernel
set_option maxRecDepth 100000 in
theorem lk_153 : lw_tbl[1068]? = some (.methodLink R_law 124 (ab_YM 153)) := by decide +kernel
theorem lo_25 {p : Program} {l : Launch} {e : Env} {s : State} {m : MethodId} {below : List Frame} {meth : Method} {c : Code} {b L : Nat} {xs : Nat → Int32} {D : va_G} {aC : Nat → ClassId} {adx adm : Nat → Nat} (C0 : lw_At p s m meth c b L xs) (hL : L ≤ 2048) (s1 : ab_Stc D aC adx (fun q => s.heap.size ≤ q) s s.heap) (s2 : ab_Stc D aC adm (fun q => s.heap.size ≤ q) s s.heap) (a1 : ∀ k, k < 1000 → adx k = s.heap.size + k) (a2 : ∀ k, k < 1000 → adm k = s.heap.size + 162 + k) {i : Nat} (hi : i + 4 ≤ L) {σ μ : sg_S} (hR : Rel σ μ) {H : Heap} {locs : List Loc} {ls : Array Slot} (hW : lw_W D aC adx adm s σ μ H locs) (hl : lv_has ls 4 [(3, .int (nI i)), (2, .ref (s.heap.size + 162)), (1, .ref s.heap.size), (0, .ref b)]) {Q : State → Prop} (kk : ∀ (σ' μ' : sg_S) (H' : Heap) (locs' : List Loc), Rel σ' μ' → lw_W D aC adx adm s σ' μ' H' locs' → W p l e room_1 s m #[Value.ref b] below meth c H' locs' 600000 7302250 Q (F0 m 985 ls [])) : W p l e room_1 s m #[Value.ref b] below meth c H locs 600000 7302250 Q (F0 m 916 ls []) := by
  obtain ⟨hx, hb, hr, hml, hown, hts, hX, hbl, hlocks, hgv⟩ := id C0
  have hbA : ¬ (fun q : Nat => s.heap.size ≤ q) b := Nat.not_le.mpr hbl
  obtain ⟨w1, w2, w3⟩ := hW
  obtain ⟨v, σ', μ', k1, k2, hR'⟩ := cl_25 hR ((xs (i + 1)))
  refine lv_aload_n hx hb dL_916 rfl (lv_at hl 2 rfl) ?_
  refine lv_aload_n hx hb dL_917 rfl (lv_at hl 3 rfl) ?_
  refine lv_iload_n hx hb dL_918 rfl (lv_at hl 0 rfl) ?_
  refine lv_iconst (v := nI 1) hx hb dL_919 (by decide) ?_
  refine lv_iadd hx hb dL_920 ?_
  rw [nI_add]
  refine va_sld hx hb hX hbl hbA w3 (vp_in_nI (by omega) (by omega)) dL_921 ?_
  rw [nI_clamp (by omega)]
  refine lw_cv C0 s1 a1 tx_len (Nat.le_of_ble_eq_true rfl) (Nat.le_refl _) (by omega : 91 < 157) mr_91 lk_91 sh_x_0 (by decide) (As := [.int (xs (i + 1))]) rfl rfl (Nat.le_of_ble_eq_true rfl) (by decide) (rest := []) (Nat.le_of_ble_eq_true rfl) rfl k1 dL_922 hl.1 w1 w3 rfl (fun H1 locs1 g1 h1 f1 => ?_)
  have w2' := lw_kept (B2 := s.heap.size) (n2 := 162) w2 a2 ((sg_mk_len _ _).trans tm_len) (Nat.le_of_ble_eq_true rfl) (Or.inr (Nat.le_refl _)) f1
  refine lv_aload_n hx hb dL_925 rfl (lv_at hl 1 rfl) ?_
  refine lv_aload_n hx hb dL_926 rfl (lv_at hl 3 rfl) ?_
  refine lv_iload_n hx hb dL_927 rfl (lv_at hl 0 rfl) ?_
  refine lv_iconst (v := nI 1) hx hb dL_928 (by decide) ?_
  refine lv_iadd hx hb dL_929 ?_
  rw [nI_add]
  refine va_sld hx hb hX hbl hbA h1 (vp_in_nI (by omega) (by omega)) dL_930 ?_
  rw [nI_clamp (by omega)]
  refine lw_cv C0 s2 a2 tm_len (Nat.le_of_ble_eq_true rfl) (Nat.le_add_right _ _) (by omega : 153 < 157) mr_153 lk_153 sh_m_0 (by decide) (As := [.int (xs (i + 1))]) rfl rfl (Nat.le_of_ble_eq_true rfl) (by decide) (rest := [.int v]) (Nat.le_of_ble_eq_true rfl) rfl k2 dL_931 hl.1 w2' h1 rfl (fun H2 locs2 g2 h2 f2 => ?_)
  have w1' := lw_kept (B2 := s.heap.size + 162) (n2 := 27) g1 a1 ((sg_mk_len _ _).trans tx_len) (Nat.le_of_ble_eq_true rfl) (Or.inl (Nat.le_refl _)) f2
  refine lv_icmp_eq (tgt := 985) hx hb dL_934 (by decide) (fun _ => ?_) (fun z => absurd rfl z)
  exact kk σ' μ' H2 locs2 hR' ⟨w1', g2, h2⟩
set_option maxRecDepth 100000 in
theorem lk_92 : lw_tbl[717]? = some (.methodLink R_law 125 (ab_YM 92)) := by decide +kernel
set_option maxRecDepth 100000 in
theorem lk_154 : lw_tbl[1072]? = some (.methodLink R_law 128 (ab_YM 154)) := by decide +kernel
theorem lo_26 {p : Program} {l : Launch} {e : Env} {s : State} {m : MethodId} {below : List Frame} {meth : Method} {c : Code} {b L : Nat} {xs : Nat → Int32} {D : va_G} {aC : Nat → ClassId} {adx adm : Nat → Nat} (C0 : lw_At p s m meth c b L xs) (hL : L ≤ 2048) (s1 : ab_Stc D aC adx (fun q => s.heap.size ≤ q) s s.heap) (s2 : ab_Stc D aC adm (fun q => s.heap.size ≤ q) s s.heap) (a1 : ∀ k, k < 1000 → adx k = s.heap.size + k) (a2 : ∀ k, k < 1000 → adm k = s.heap.size + 162 + k) {i : Nat} (hi : i + 4 ≤ L) {σ μ : sg_S} (hR : Rel σ μ) {H : Heap} {locs : List Loc} {ls : Array Slot} (hW : lw_W D aC adx adm s σ μ H locs) (hl : lv_has ls 4 [(3, .int (nI i)), (2, .ref (s.heap.size + 162)), (1, .ref s.heap.size), (0, .ref b)]) {Q : State → Prop} (kk : ∀ (σ' μ' : sg_S) (H' : Heap) (locs' : List Loc), Rel σ' μ' → lw_W D aC adx adm s σ' μ' H' locs' → W p l e room_1 s m #[Value.ref b] below meth c H' locs' 600000 7302250 Q (F0 m 985 ls [])) : W p l e room_1 s m #[Value.ref b] below meth c H locs 600000 7302250 Q (F0 m 939 ls []) := by
  obtain ⟨hx, hb, hr, hml, hown, hts, hX, hbl, hlocks, hgv⟩ := id C0
  have hbA : ¬ (fun q : Nat => s.heap.size ≤ q) b := Nat.not_le.mpr hbl
  obtain ⟨w1, w2, w3⟩ := hW
  obtain ⟨v, σ', μ', k1, k2, hR'⟩ := cl_26 hR ((xs (i + 1)))
  refine lv_aload_n hx hb dL_939 rfl (lv_at hl 2 rfl) ?_
  refine lv_aload_n hx hb dL_940 rfl (lv_at hl 3 rfl) ?_
  refine lv_iload_n hx hb dL_941 rfl (lv_at hl 0 rfl) ?_
  refine lv_iconst (v := nI 1) hx hb dL_942 (by decide) ?_
  refine lv_iadd hx hb dL_943 ?_
  rw [nI_add]
  refine va_sld hx hb hX hbl hbA w3 (vp_in_nI (by omega) (by omega)) dL_944 ?_
  rw [nI_clamp (by omega)]
  refine lw_cv C0 s1 a1 tx_len (Nat.le_of_ble_eq_true rfl) (Nat.le_refl _) (by omega : 92 < 157) mr_92 lk_92 sh_x_0 (by decide) (As := [.int (xs (i + 1))]) rfl rfl (Nat.le_of_ble_eq_true rfl) (by decide) (rest := []) (Nat.le_of_ble_eq_true rfl) rfl k1 dL_945 hl.1 w1 w3 rfl (fun H1 locs1 g1 h1 f1 => ?_)
  have w2' := lw_kept (B2 := s.heap.size) (n2 := 162) w2 a2 ((sg_mk_len _ _).trans tm_len) (Nat.le_of_ble_eq_true rfl) (Or.inr (Nat.le_refl _)) f1
  refine lv_aload_n hx hb dL_948 rfl (lv_at hl 1 rfl) ?_
  refine lv_aload_n hx hb dL_949 rfl (lv_at hl 3 rfl) ?_
  refine lv_iload_n hx hb dL_950 rfl (lv_at hl 0 rfl) ?_
  refine lv_iconst (v := nI 1) hx hb dL_951 (by decide) ?_
  refine lv_iadd hx hb dL_952 ?_
  rw [nI_add]
  refine va_sld hx hb hX hbl hbA h1 (vp_in_nI (by omega) (by omega)) dL_953 ?_
  rw [nI_clamp (by omega)]
  refine lw_cv C0 s2 a2 tm_len (Nat.le_of_ble_eq_true rfl) (Nat.le_add_right _ _) (by omega : 154 < 157) mr_154 lk_154 sh_m_0 (by decide) (As := [.int (xs (i + 1))]) rfl rfl (Nat.le_of_ble_eq_true rfl) (by decide) (rest := [.int v]) (Nat.le_of_ble_eq_true rfl) rfl k2 dL_954 hl.1 w2' h1 rfl (fun H2 locs2 g2 h2 f2 => ?_)
  have w1' := lw_kept (B2 := s.heap.size + 162) (n2 := 27) g1 a1 ((sg_mk_len _ _).trans tx_len) (Nat.le_of_ble_eq_true rfl) (Or.inl (Nat.le_refl _)) f2
  refine lv_icmp_eq (tgt := 985) hx hb dL_957 (by decide) (fun _ => ?_) (fun z => absurd rfl z)
  exact kk σ' μ' H2 locs2 hR' ⟨w1', g2, h2⟩
set_option maxRecDepth 100000 in
theorem lk_93 : lw_tbl[725]? = some (.methodLink R_law 129 (ab_YM 93)) := by decide +kernel
set_option maxRecDepth 100000 in
theorem lk_155 : lw_tbl[1076]? = some (.methodLink R_law 132 (ab_YM 155)) := by decide +kernel
theorem lo_27 {p : Program} {l : Launch} {e : Env} {s : State} {m : MethodId} {below : List Frame} {meth : Method} {c : Code} {b L : Nat} {xs : Nat → Int32} {D : va_G} {aC : Nat → ClassId} {adx adm : Nat → Nat} (C0 : lw_At p s m meth c b L xs) (hL : L ≤ 2048) (s1 : ab_Stc D aC adx (fun q => s.heap.size ≤ q) s s.heap) (s2 : ab_Stc D aC adm (fun q => s.heap.size ≤ q) s s.heap) (a1 : ∀ k, k < 1000 → adx k = s.heap.size + k) (a2 : ∀ k, k < 1000 → adm k = s.heap.size + 162 + k) {i : Nat} (hi : i + 4 ≤ L) {σ μ : sg_S} (hR : Rel σ μ) {H : Heap} {locs : List Loc} {ls : Array Slot} (hW : lw_W D aC adx adm s σ μ H locs) (hl : lv_has ls 4 [(3, .int (nI i)), (2, .ref (s.heap.size + 162)), (1, .ref s.heap.size), (0, .ref b)]) {Q : State → Prop} (kk : ∀ (σ' μ' : sg_S) (H' : Heap) (locs' : List Loc), Rel σ' μ' → lw_W D aC adx adm s σ' μ' H' locs' → W p l e room_1 s m #[Value.ref b] below meth c H' locs' 600000 7302250 Q (F0 m 985 ls [])) : W p l e room_1 s m #[Value.ref b] below meth c H locs 600000 7302250 Q (F0 m 962 ls []) := by
  obtain ⟨hx, hb, hr, hml, hown, hts, hX, hbl, hlocks, hgv⟩ := id C0
  have hbA : ¬ (fun q : Nat => s.heap.size ≤ q) b := Nat.not_le.mpr hbl
  obtain ⟨w1, w2, w3⟩ := hW
  obtain ⟨v, σ', μ', k1, k2, hR'⟩ := cl_27 hR ((xs (i + 1)))
  refine lv_aload_n hx hb dL_962 rfl (lv_at hl 2 rfl) ?_
  refine lv_aload_n hx hb dL_963 rfl (lv_at hl 3 rfl) ?_
  refine lv_iload_n hx hb dL_964 rfl (lv_at hl 0 rfl) ?_
  refine lv_iconst (v := nI 1) hx hb dL_965 (by decide) ?_
  refine lv_iadd hx hb dL_966 ?_
  rw [nI_add]
  refine va_sld hx hb hX hbl hbA w3 (vp_in_nI (by omega) (by omega)) dL_967 ?_
  rw [nI_clamp (by omega)]
  refine lw_cv C0 s1 a1 tx_len (Nat.le_of_ble_eq_true rfl) (Nat.le_refl _) (by omega : 93 < 157) mr_93 lk_93 sh_x_0 (by decide) (As := [.int (xs (i + 1))]) rfl rfl (Nat.le_of_ble_eq_true rfl) (by decide) (rest := []) (Nat.le_of_ble_eq_true rfl) rfl k1 dL_968 hl.1 w1 w3 rfl (fun H1 locs1 g1 h1 f1 => ?_)
  have w2' := lw_kept (B2 := s.heap.size) (n2 := 162) w2 a2 ((sg_mk_len _ _).trans tm_len) (Nat.le_of_ble_eq_true rfl) (Or.inr (Nat.le_refl _)) f1
  refine lv_aload_n hx hb dL_971 rfl (lv_at hl 1 rfl) ?_
  refine lv_aload_n hx hb dL_972 rfl (lv_at hl 3 rfl) ?_
  refine lv_iload_n hx hb dL_973 rfl (lv_at hl 0 rfl) ?_
  refine lv_iconst (v := nI 1) hx hb dL_974 (by decide) ?_
  refine lv_iadd hx hb dL_975 ?_
  rw [nI_add]
  refine va_sld hx hb hX hbl hbA h1 (vp_in_nI (by omega) (by omega)) dL_976 ?_
  rw [nI_clamp (by omega)]
  refine lw_cv C0 s2 a2 tm_len (Nat.le_of_ble_eq_true rfl) (Nat.le_add_right _ _) (by omega : 155 < 157) mr_155 lk_155 sh_m_0 (by decide) (As := [.int (xs (i + 1))]) rfl rfl (Nat.le_of_ble_eq_true rfl) (by decide) (rest := [.int v]) (Nat.le_of_ble_eq_true rfl) rfl k2 dL_977 hl.1 w2' h1 rfl (fun H2 locs2 g2 h2 f2 => ?_)
  have w1' := lw_kept (B2 := s.heap.size + 162) (n2 := 27) g1 a1 ((sg_mk_len _ _).trans tx_len) (Nat.le_of_ble_eq_true rfl) (Or.inl (Nat.le_refl _)) f2
  refine lv_icmp_eq (tgt := 985) hx hb dL_980 (by decide) (fun _ => ?_) (fun z => absurd rfl z)
  exact kk σ' μ' H2 locs2 hR' ⟨w1', g2, h2⟩
