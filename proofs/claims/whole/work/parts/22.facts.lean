/-! small facts of code and templates, by program (wip/whole/gen22.py) -/
theorem ok_x : sg_okT tx_H := ⟨by decide +kernel, by decide +kernel⟩
theorem ok_m : sg_okT tm_H := ⟨by decide +kernel, by decide +kernel⟩
theorem sg_inc1 (t : Nat) : nI t + Int32.ofInt 1 = nI (t + 1) := nI_1 t
theorem sg_dec1 (t : Nat) : nI (t + 1) + Int32.ofInt (-1) = nI t := pk_m1 t
section SgCalls
variable {T : ab_H} {mid pc x q : Nat} {L st : List Value} {σ σ' : sg_S} {r : Option Value}
theorem sg_callv_i {n a ci k na ml rk rf rl nf : Nat} {As st1 : List Value} {v : Int32} {σ1 : sg_S} {L0 : List Value} (hf : ab_ft (ab_CM mid) pc = some (.invokevirtual n, x, q)) (hm : sg_may 0 mid n = true) (hmr : ab_MR n = (ci, k, na, ml, rk, rf, rl)) (hsp : ab_split (na + 1) [] st = some (.ref a :: As, st1)) (hcat : ab_cat st1 ≤ 8) (hlv : (ab_lv (.ref a :: As)).length ≤ ml) (hr : sg_sh T a = some (ci, nf)) (hci : ci ≤ 12) (hL0 : ab_ent ml (.ref a :: As) = L0) (hc : sg_D T n 0 L0 [] σ (some (.int v)) σ1) (kk : sg_D T mid (pc + 3) L (.int v :: st1) σ1 r σ') : sg_D T mid pc L st σ r σ' := sg_callv (nf := nf) (As := As) hf hm (by rw [hmr]; exact hsp) hcat (by rw [hmr]; exact hlv) (by rw [hmr]; exact hr) (by rw [hmr]; exact hci) (by rw [hmr]; exact hL0) hc kk
theorem sg_calls_i {n ci k na ml rk rf rl : Nat} {av st1 : List Value} {v : Int32} {σ1 : sg_S} {L0 : List Value} (hf : ab_ft (ab_CM mid) pc = some (.invokestatic n, x, q)) (hm : sg_may 1 mid n = true) (hmr : ab_MR n = (ci, k, na, ml, rk, rf, rl)) (hn : ¬ n = 901 ∧ ¬ n = 902 ∧ ¬ n = 903) (hsp : ab_split na [] st = some (av, st1)) (hcat : ab_cat st1 ≤ 8) (hlv : (ab_lv av).length ≤ ml) (hL0 : ab_ent ml av = L0) (hc : sg_D T n 0 L0 [] σ (some (.int v)) σ1) (kk : sg_D T mid (pc + 3) L (.int v :: st1) σ1 r σ') : sg_D T mid pc L st σ r σ' := sg_calls (av := av) hf hm hn (by rw [hmr]; exact hsp) hcat (by rw [hmr]; exact hlv) (by rw [hmr]; exact hL0) hc kk
theorem sg_callv_l {n a ci k na ml rk rf rl nf : Nat} {As st1 : List Value} {v : Int64} {σ1 : sg_S} {L0 : List Value} (hf : ab_ft (ab_CM mid) pc = some (.invokevirtual n, x, q)) (hm : sg_may 0 mid n = true) (hmr : ab_MR n = (ci, k, na, ml, rk, rf, rl)) (hsp : ab_split (na + 1) [] st = some (.ref a :: As, st1)) (hcat : ab_cat st1 ≤ 8) (hlv : (ab_lv (.ref a :: As)).length ≤ ml) (hr : sg_sh T a = some (ci, nf)) (hci : ci ≤ 12) (hL0 : ab_ent ml (.ref a :: As) = L0) (hc : sg_D T n 0 L0 [] σ (some (.long v)) σ1) (kk : sg_D T mid (pc + 3) L (.long v :: st1) σ1 r σ') : sg_D T mid pc L st σ r σ' := sg_callv (nf := nf) (As := As) hf hm (by rw [hmr]; exact hsp) hcat (by rw [hmr]; exact hlv) (by rw [hmr]; exact hr) (by rw [hmr]; exact hci) (by rw [hmr]; exact hL0) hc kk
theorem sg_calls_l {n ci k na ml rk rf rl : Nat} {av st1 : List Value} {v : Int64} {σ1 : sg_S} {L0 : List Value} (hf : ab_ft (ab_CM mid) pc = some (.invokestatic n, x, q)) (hm : sg_may 1 mid n = true) (hmr : ab_MR n = (ci, k, na, ml, rk, rf, rl)) (hn : ¬ n = 901 ∧ ¬ n = 902 ∧ ¬ n = 903) (hsp : ab_split na [] st = some (av, st1)) (hcat : ab_cat st1 ≤ 8) (hlv : (ab_lv av).length ≤ ml) (hL0 : ab_ent ml av = L0) (hc : sg_D T n 0 L0 [] σ (some (.long v)) σ1) (kk : sg_D T mid (pc + 3) L (.long v :: st1) σ1 r σ') : sg_D T mid pc L st σ r σ' := sg_calls (av := av) hf hm hn (by rw [hmr]; exact hsp) hcat (by rw [hmr]; exact hlv) (by rw [hmr]; exact hL0) hc kk
theorem sg_callv_v {n a ci k na ml rk rf rl nf : Nat} {As st1 : List Value} {σ1 : sg_S} {L0 : List Value} (hf : ab_ft (ab_CM mid) pc = some (.invokevirtual n, x, q)) (hm : sg_may 0 mid n = true) (hmr : ab_MR n = (ci, k, na, ml, rk, rf, rl)) (hsp : ab_split (na + 1) [] st = some (.ref a :: As, st1)) (hcat : ab_cat st1 ≤ 8) (hlv : (ab_lv (.ref a :: As)).length ≤ ml) (hr : sg_sh T a = some (ci, nf)) (hci : ci ≤ 12) (hL0 : ab_ent ml (.ref a :: As) = L0) (hc : sg_D T n 0 L0 [] σ none σ1) (kk : sg_D T mid (pc + 3) L (st1) σ1 r σ') : sg_D T mid pc L st σ r σ' := sg_callv (nf := nf) (As := As) hf hm (by rw [hmr]; exact hsp) hcat (by rw [hmr]; exact hlv) (by rw [hmr]; exact hr) (by rw [hmr]; exact hci) (by rw [hmr]; exact hL0) hc kk
theorem sg_calls_v {n ci k na ml rk rf rl : Nat} {av st1 : List Value} {σ1 : sg_S} {L0 : List Value} (hf : ab_ft (ab_CM mid) pc = some (.invokestatic n, x, q)) (hm : sg_may 1 mid n = true) (hmr : ab_MR n = (ci, k, na, ml, rk, rf, rl)) (hn : ¬ n = 901 ∧ ¬ n = 902 ∧ ¬ n = 903) (hsp : ab_split na [] st = some (av, st1)) (hcat : ab_cat st1 ≤ 8) (hlv : (ab_lv av).length ≤ ml) (hL0 : ab_ent ml av = L0) (hc : sg_D T n 0 L0 [] σ none σ1) (kk : sg_D T mid (pc + 3) L (st1) σ1 r σ') : sg_D T mid pc L st σ r σ' := sg_calls (av := av) hf hm hn (by rw [hmr]; exact hsp) hcat (by rw [hmr]; exact hlv) (by rw [hmr]; exact hL0) hc kk
end SgCalls
theorem f_5_0 : ab_ft (ab_CM 5) 0 = some (.iload_n 2, 0, 0) := by decide +kernel
theorem f_5_1 : ab_ft (ab_CM 5) 1 = some (.aload_n 0, 0, 0) := by decide +kernel
theorem f_5_2 : ab_ft (ab_CM 5) 2 = some (.getfield 3, 25, 184) := by decide +kernel
theorem f_5_5 : ab_ft (ab_CM 5) 5 = some (.iload_n 1, 0, 0) := by decide +kernel
theorem f_5_6 : ab_ft (ab_CM 5) 6 = some (.iaload, 0, 0) := by decide +kernel
theorem f_5_7 : ab_ft (ab_CM 5) 7 = some (.if_icmp .ge 23, 0, 0) := by decide +kernel
theorem f_5_10 : ab_ft (ab_CM 5) 10 = some (.aload_n 0, 0, 0) := by decide +kernel
theorem f_5_11 : ab_ft (ab_CM 5) 11 = some (.getfield 4, 28, 185) := by decide +kernel
theorem f_5_14 : ab_ft (ab_CM 5) 14 = some (.iload_n 1, 0, 0) := by decide +kernel
theorem f_5_15 : ab_ft (ab_CM 5) 15 = some (.iconst 4, 0, 0) := by decide +kernel
theorem ki_4 : Int32.ofInt (4) = nI 4 := by decide +kernel
theorem f_5_16 : ab_ft (ab_CM 5) 16 = some (.imul, 0, 0) := by decide +kernel
theorem f_5_17 : ab_ft (ab_CM 5) 17 = some (.iload_n 2, 0, 0) := by decide +kernel
theorem f_5_18 : ab_ft (ab_CM 5) 18 = some (.iadd, 0, 0) := by decide +kernel
theorem f_5_19 : ab_ft (ab_CM 5) 19 = some (.iaload, 0, 0) := by decide +kernel
theorem f_5_20 : ab_ft (ab_CM 5) 20 = some (.goto 25, 0, 0) := by decide +kernel
theorem f_5_23 : ab_ft (ab_CM 5) 23 = some (.bipush (-9), 0, 0) := by decide +kernel
theorem kb_m9 : (Int8.ofInt (-9)).toInt32 = -9 := by decide +kernel
theorem f_5_25 : ab_ft (ab_CM 5) 25 = some (.ireturn, 0, 0) := by decide +kernel
theorem mr_5 : ab_MR 5 = (0, 0, 2, 3, 1, 0, 0) := by decide +kernel
theorem rk_5 : (ab_MR 5).2.2.2.2.1 = 1 := by decide +kernel
theorem f_6_0 : ab_ft (ab_CM 6) 0 = some (.iconst 0, 0, 0) := by decide +kernel
theorem ki_0 : Int32.ofInt (0) = nI 0 := by decide +kernel
theorem f_6_1 : ab_ft (ab_CM 6) 1 = some (.istore_n 3, 0, 0) := by decide +kernel
theorem f_6_2 : ab_ft (ab_CM 6) 2 = some (.iconst 0, 0, 0) := by decide +kernel
theorem f_6_3 : ab_ft (ab_CM 6) 3 = some (.istore 4, 0, 0) := by decide +kernel
theorem f_6_5 : ab_ft (ab_CM 6) 5 = some (.iload 4, 0, 0) := by decide +kernel
theorem f_6_7 : ab_ft (ab_CM 6) 7 = some (.aload_n 0, 0, 0) := by decide +kernel
theorem f_6_8 : ab_ft (ab_CM 6) 8 = some (.getfield 1, 15, 180) := by decide +kernel
theorem f_6_11 : ab_ft (ab_CM 6) 11 = some (.iload_n 1, 0, 0) := by decide +kernel
theorem f_6_12 : ab_ft (ab_CM 6) 12 = some (.iaload, 0, 0) := by decide +kernel
theorem f_6_13 : ab_ft (ab_CM 6) 13 = some (.if_icmp .ge 43, 0, 0) := by decide +kernel
theorem f_6_16 : ab_ft (ab_CM 6) 16 = some (.aload_n 0, 0, 0) := by decide +kernel
theorem f_6_17 : ab_ft (ab_CM 6) 17 = some (.getfield 2, 22, 182) := by decide +kernel
theorem f_6_20 : ab_ft (ab_CM 6) 20 = some (.aload_n 0, 0, 0) := by decide +kernel
theorem f_6_21 : ab_ft (ab_CM 6) 21 = some (.getfield 0, 9, 178) := by decide +kernel
theorem f_6_24 : ab_ft (ab_CM 6) 24 = some (.iload_n 1, 0, 0) := by decide +kernel
theorem f_6_25 : ab_ft (ab_CM 6) 25 = some (.iaload, 0, 0) := by decide +kernel
theorem f_6_26 : ab_ft (ab_CM 6) 26 = some (.iload 4, 0, 0) := by decide +kernel
theorem f_6_28 : ab_ft (ab_CM 6) 28 = some (.iadd, 0, 0) := by decide +kernel
theorem f_6_29 : ab_ft (ab_CM 6) 29 = some (.iaload, 0, 0) := by decide +kernel
theorem f_6_30 : ab_ft (ab_CM 6) 30 = some (.iload_n 2, 0, 0) := by decide +kernel
theorem f_6_31 : ab_ft (ab_CM 6) 31 = some (.if_icmp .ne 37, 0, 0) := by decide +kernel
theorem f_6_34 : ab_ft (ab_CM 6) 34 = some (.iinc 3 1, 0, 0) := by decide +kernel
theorem f_6_37 : ab_ft (ab_CM 6) 37 = some (.iinc 4 1, 0, 0) := by decide +kernel
theorem f_6_40 : ab_ft (ab_CM 6) 40 = some (.goto 5, 0, 0) := by decide +kernel
theorem f_6_43 : ab_ft (ab_CM 6) 43 = some (.iload_n 3, 0, 0) := by decide +kernel
theorem f_6_44 : ab_ft (ab_CM 6) 44 = some (.ireturn, 0, 0) := by decide +kernel
theorem mr_6 : ab_MR 6 = (0, 0, 2, 5, 1, 0, 0) := by decide +kernel
theorem rk_6 : (ab_MR 6).2.2.2.2.1 = 1 := by decide +kernel
theorem f_7_0 : ab_ft (ab_CM 7) 0 = some (.lconst 1, 0, 0) := by decide +kernel
theorem f_7_1 : ab_ft (ab_CM 7) 1 = some (.lstore_n 3, 0, 0) := by decide +kernel
theorem f_7_2 : ab_ft (ab_CM 7) 2 = some (.iconst 0, 0, 0) := by decide +kernel
theorem f_7_3 : ab_ft (ab_CM 7) 3 = some (.istore 5, 0, 0) := by decide +kernel
theorem f_7_5 : ab_ft (ab_CM 7) 5 = some (.iload 5, 0, 0) := by decide +kernel
theorem f_7_7 : ab_ft (ab_CM 7) 7 = some (.aload_n 0, 0, 0) := by decide +kernel
theorem f_7_8 : ab_ft (ab_CM 7) 8 = some (.getfield 3, 25, 184) := by decide +kernel
theorem f_7_11 : ab_ft (ab_CM 7) 11 = some (.iload_n 2, 0, 0) := by decide +kernel
theorem f_7_12 : ab_ft (ab_CM 7) 12 = some (.iaload, 0, 0) := by decide +kernel
theorem f_7_13 : ab_ft (ab_CM 7) 13 = some (.if_icmp .ge 38, 0, 0) := by decide +kernel
theorem f_7_16 : ab_ft (ab_CM 7) 16 = some (.lload_n 3, 0, 0) := by decide +kernel
theorem f_7_17 : ab_ft (ab_CM 7) 17 = some (.aload_n 1, 0, 0) := by decide +kernel
theorem f_7_18 : ab_ft (ab_CM 7) 18 = some (.aload_n 0, 0, 0) := by decide +kernel
theorem f_7_19 : ab_ft (ab_CM 7) 19 = some (.getfield 4, 28, 185) := by decide +kernel
theorem f_7_22 : ab_ft (ab_CM 7) 22 = some (.iload_n 2, 0, 0) := by decide +kernel
theorem f_7_23 : ab_ft (ab_CM 7) 23 = some (.iconst 4, 0, 0) := by decide +kernel
theorem f_7_24 : ab_ft (ab_CM 7) 24 = some (.imul, 0, 0) := by decide +kernel
theorem f_7_25 : ab_ft (ab_CM 7) 25 = some (.iload 5, 0, 0) := by decide +kernel
theorem f_7_27 : ab_ft (ab_CM 7) 27 = some (.iadd, 0, 0) := by decide +kernel
theorem f_7_28 : ab_ft (ab_CM 7) 28 = some (.iaload, 0, 0) := by decide +kernel
theorem f_7_29 : ab_ft (ab_CM 7) 29 = some (.laload, 0, 0) := by decide +kernel
theorem f_7_30 : ab_ft (ab_CM 7) 30 = some (.lmul, 0, 0) := by decide +kernel
theorem f_7_31 : ab_ft (ab_CM 7) 31 = some (.lstore_n 3, 0, 0) := by decide +kernel
theorem f_7_32 : ab_ft (ab_CM 7) 32 = some (.iinc 5 1, 0, 0) := by decide +kernel
theorem f_7_35 : ab_ft (ab_CM 7) 35 = some (.goto 5, 0, 0) := by decide +kernel
theorem f_7_38 : ab_ft (ab_CM 7) 38 = some (.lload_n 3, 0, 0) := by decide +kernel
theorem f_7_39 : ab_ft (ab_CM 7) 39 = some (.lreturn, 0, 0) := by decide +kernel
theorem mr_7 : ab_MR 7 = (0, 0, 2, 6, 3, 0, 0) := by decide +kernel
theorem rk_7 : (ab_MR 7).2.2.2.2.1 = 3 := by decide +kernel
theorem f_8_0 : ab_ft (ab_CM 8) 0 = some (.aload_n 1, 0, 0) := by decide +kernel
theorem f_8_1 : ab_ft (ab_CM 8) 1 = some (.iload_n 3, 0, 0) := by decide +kernel
theorem f_8_2 : ab_ft (ab_CM 8) 2 = some (.laload, 0, 0) := by decide +kernel
theorem f_8_3 : ab_ft (ab_CM 8) 3 = some (.lstore 5, 0, 0) := by decide +kernel
theorem f_8_5 : ab_ft (ab_CM 8) 5 = some (.iconst 0, 0, 0) := by decide +kernel
theorem f_8_6 : ab_ft (ab_CM 8) 6 = some (.istore 7, 0, 0) := by decide +kernel
theorem f_8_8 : ab_ft (ab_CM 8) 8 = some (.iload 7, 0, 0) := by decide +kernel
theorem f_8_10 : ab_ft (ab_CM 8) 10 = some (.iload 4, 0, 0) := by decide +kernel
theorem f_8_12 : ab_ft (ab_CM 8) 12 = some (.if_icmp .ge 54, 0, 0) := by decide +kernel
theorem f_8_15 : ab_ft (ab_CM 8) 15 = some (.aload_n 0, 0, 0) := by decide +kernel
theorem f_8_16 : ab_ft (ab_CM 8) 16 = some (.getfield 0, 9, 178) := by decide +kernel
theorem f_8_19 : ab_ft (ab_CM 8) 19 = some (.iload_n 3, 0, 0) := by decide +kernel
theorem f_8_20 : ab_ft (ab_CM 8) 20 = some (.iaload, 0, 0) := by decide +kernel
theorem f_8_21 : ab_ft (ab_CM 8) 21 = some (.iload 7, 0, 0) := by decide +kernel
theorem f_8_23 : ab_ft (ab_CM 8) 23 = some (.iadd, 0, 0) := by decide +kernel
theorem f_8_24 : ab_ft (ab_CM 8) 24 = some (.istore 8, 0, 0) := by decide +kernel
theorem f_8_26 : ab_ft (ab_CM 8) 26 = some (.lload 5, 0, 0) := by decide +kernel
theorem f_8_28 : ab_ft (ab_CM 8) 28 = some (.aload_n 0, 0, 0) := by decide +kernel
theorem f_8_29 : ab_ft (ab_CM 8) 29 = some (.aload_n 1, 0, 0) := by decide +kernel
theorem f_8_30 : ab_ft (ab_CM 8) 30 = some (.iload 8, 0, 0) := by decide +kernel
theorem f_8_32 : ab_ft (ab_CM 8) 32 = some (.invokevirtual 7, 54, 595) := by decide +kernel
theorem f_8_35 : ab_ft (ab_CM 8) 35 = some (.aload_n 2, 0, 0) := by decide +kernel
theorem f_8_36 : ab_ft (ab_CM 8) 36 = some (.aload_n 0, 0, 0) := by decide +kernel
theorem f_8_37 : ab_ft (ab_CM 8) 37 = some (.getfield 2, 22, 182) := by decide +kernel
theorem f_8_40 : ab_ft (ab_CM 8) 40 = some (.iload 8, 0, 0) := by decide +kernel
theorem f_8_42 : ab_ft (ab_CM 8) 42 = some (.iaload, 0, 0) := by decide +kernel
theorem f_8_43 : ab_ft (ab_CM 8) 43 = some (.laload, 0, 0) := by decide +kernel
theorem f_8_44 : ab_ft (ab_CM 8) 44 = some (.lmul, 0, 0) := by decide +kernel
theorem f_8_45 : ab_ft (ab_CM 8) 45 = some (.ladd, 0, 0) := by decide +kernel
theorem f_8_46 : ab_ft (ab_CM 8) 46 = some (.lstore 5, 0, 0) := by decide +kernel
theorem f_8_48 : ab_ft (ab_CM 8) 48 = some (.iinc 7 1, 0, 0) := by decide +kernel
theorem f_8_51 : ab_ft (ab_CM 8) 51 = some (.goto 8, 0, 0) := by decide +kernel
theorem f_8_54 : ab_ft (ab_CM 8) 54 = some (.lload 5, 0, 0) := by decide +kernel
theorem f_8_56 : ab_ft (ab_CM 8) 56 = some (.lreturn, 0, 0) := by decide +kernel
theorem my_8_7 : sg_may 0 8 7 = true := by decide +kernel
theorem mr_8 : ab_MR 8 = (0, 0, 4, 9, 3, 1, 25) := by decide +kernel
theorem rk_8 : (ab_MR 8).2.2.2.2.1 = 3 := by decide +kernel
theorem f_9_0 : ab_ft (ab_CM 9) 0 = some (.iconst 0, 0, 0) := by decide +kernel
theorem f_9_1 : ab_ft (ab_CM 9) 1 = some (.istore 4, 0, 0) := by decide +kernel
theorem f_9_3 : ab_ft (ab_CM 9) 3 = some (.iload 4, 0, 0) := by decide +kernel
theorem f_9_5 : ab_ft (ab_CM 9) 5 = some (.bipush 17, 0, 0) := by decide +kernel
theorem kb_17 : (Int8.ofInt (17)).toInt32 = nI 17 := by decide +kernel
theorem f_9_7 : ab_ft (ab_CM 9) 7 = some (.if_icmp .ge 35, 0, 0) := by decide +kernel
theorem f_9_10 : ab_ft (ab_CM 9) 10 = some (.aload_n 3, 0, 0) := by decide +kernel
theorem f_9_11 : ab_ft (ab_CM 9) 11 = some (.iload 4, 0, 0) := by decide +kernel
theorem f_9_13 : ab_ft (ab_CM 9) 13 = some (.aload_n 0, 0, 0) := by decide +kernel
theorem f_9_14 : ab_ft (ab_CM 9) 14 = some (.aload_n 1, 0, 0) := by decide +kernel
theorem f_9_15 : ab_ft (ab_CM 9) 15 = some (.aload_n 2, 0, 0) := by decide +kernel
theorem f_9_16 : ab_ft (ab_CM 9) 16 = some (.iload 4, 0, 0) := by decide +kernel
theorem f_9_18 : ab_ft (ab_CM 9) 18 = some (.aload_n 0, 0, 0) := by decide +kernel
theorem f_9_19 : ab_ft (ab_CM 9) 19 = some (.getfield 1, 15, 180) := by decide +kernel
theorem f_9_22 : ab_ft (ab_CM 9) 22 = some (.iload 4, 0, 0) := by decide +kernel
theorem f_9_24 : ab_ft (ab_CM 9) 24 = some (.iaload, 0, 0) := by decide +kernel
theorem f_9_25 : ab_ft (ab_CM 9) 25 = some (.invokevirtual 8, 58, 591) := by decide +kernel
theorem f_9_28 : ab_ft (ab_CM 9) 28 = some (.lastore, 0, 0) := by decide +kernel
theorem f_9_29 : ab_ft (ab_CM 9) 29 = some (.iinc 4 1, 0, 0) := by decide +kernel
theorem f_9_32 : ab_ft (ab_CM 9) 32 = some (.goto 3, 0, 0) := by decide +kernel
theorem f_9_35 : ab_ft (ab_CM 9) 35 = some (.return_, 0, 0) := by decide +kernel
theorem my_9_8 : sg_may 0 9 8 = true := by decide +kernel
theorem mr_9 : ab_MR 9 = (0, 0, 3, 5, 0, 2, 53) := by decide +kernel
theorem rk_9 : (ab_MR 9).2.2.2.2.1 = 0 := by decide +kernel
theorem f_10_0 : ab_ft (ab_CM 10) 0 = some (.iconst 0, 0, 0) := by decide +kernel
theorem f_10_1 : ab_ft (ab_CM 10) 1 = some (.istore_n 3, 0, 0) := by decide +kernel
theorem f_10_2 : ab_ft (ab_CM 10) 2 = some (.iload_n 3, 0, 0) := by decide +kernel
theorem f_10_3 : ab_ft (ab_CM 10) 3 = some (.bipush 17, 0, 0) := by decide +kernel
theorem f_10_5 : ab_ft (ab_CM 10) 5 = some (.if_icmp .ge 33, 0, 0) := by decide +kernel
theorem f_10_8 : ab_ft (ab_CM 10) 8 = some (.aload_n 2, 0, 0) := by decide +kernel
theorem f_10_9 : ab_ft (ab_CM 10) 9 = some (.iload_n 3, 0, 0) := by decide +kernel
theorem f_10_10 : ab_ft (ab_CM 10) 10 = some (.aload_n 0, 0, 0) := by decide +kernel
theorem f_10_11 : ab_ft (ab_CM 10) 11 = some (.aload_n 1, 0, 0) := by decide +kernel
theorem f_10_12 : ab_ft (ab_CM 10) 12 = some (.aload_n 2, 0, 0) := by decide +kernel
theorem f_10_13 : ab_ft (ab_CM 10) 13 = some (.iload_n 3, 0, 0) := by decide +kernel
theorem f_10_14 : ab_ft (ab_CM 10) 14 = some (.aload_n 0, 0, 0) := by decide +kernel
theorem f_10_15 : ab_ft (ab_CM 10) 15 = some (.getfield 1, 15, 180) := by decide +kernel
theorem f_10_18 : ab_ft (ab_CM 10) 18 = some (.iload_n 3, 0, 0) := by decide +kernel
theorem f_10_19 : ab_ft (ab_CM 10) 19 = some (.iaload, 0, 0) := by decide +kernel
theorem f_10_20 : ab_ft (ab_CM 10) 20 = some (.iconst 1, 0, 0) := by decide +kernel
theorem ki_1 : Int32.ofInt (1) = nI 1 := by decide +kernel
theorem f_10_21 : ab_ft (ab_CM 10) 21 = some (.isub, 0, 0) := by decide +kernel
theorem f_10_22 : ab_ft (ab_CM 10) 22 = some (.invokevirtual 8, 58, 591) := by decide +kernel
theorem f_10_25 : ab_ft (ab_CM 10) 25 = some (.lneg, 0, 0) := by decide +kernel
theorem f_10_26 : ab_ft (ab_CM 10) 26 = some (.lastore, 0, 0) := by decide +kernel
theorem f_10_27 : ab_ft (ab_CM 10) 27 = some (.iinc 3 1, 0, 0) := by decide +kernel
theorem f_10_30 : ab_ft (ab_CM 10) 30 = some (.goto 2, 0, 0) := by decide +kernel
theorem f_10_33 : ab_ft (ab_CM 10) 33 = some (.return_, 0, 0) := by decide +kernel
theorem my_10_8 : sg_may 0 10 8 = true := by decide +kernel
theorem mr_10 : ab_MR 10 = (0, 0, 2, 4, 0, 2, 53) := by decide +kernel
theorem rk_10 : (ab_MR 10).2.2.2.2.1 = 0 := by decide +kernel
theorem f_12_0 : ab_ft (ab_CM 12) 0 = some (.aload_n 0, 0, 0) := by decide +kernel
theorem f_12_1 : ab_ft (ab_CM 12) 1 = some (.getfield 64, 12, 300) := by decide +kernel
theorem f_12_4 : ab_ft (ab_CM 12) 4 = some (.invokevirtual 31, 37, 455) := by decide +kernel
theorem f_12_7 : ab_ft (ab_CM 12) 7 = some (.aload_n 0, 0, 0) := by decide +kernel
theorem f_12_8 : ab_ft (ab_CM 12) 8 = some (.iconst 0, 0, 0) := by decide +kernel
theorem f_12_9 : ab_ft (ab_CM 12) 9 = some (.putfield 4162, 18, 303) := by decide +kernel
theorem f_12_12 : ab_ft (ab_CM 12) 12 = some (.aload_n 0, 0, 0) := by decide +kernel
theorem f_12_13 : ab_ft (ab_CM 12) 13 = some (.getfield 65, 33, 302) := by decide +kernel
theorem f_12_16 : ab_ft (ab_CM 12) 16 = some (.invokevirtual 41, 40, 460) := by decide +kernel
theorem f_12_19 : ab_ft (ab_CM 12) 19 = some (.aload_n 0, 0, 0) := by decide +kernel
theorem f_12_20 : ab_ft (ab_CM 12) 20 = some (.getfield 66, 18, 303) := by decide +kernel
theorem f_12_23 : ab_ft (ab_CM 12) 23 = some (.sipush 160, 0, 0) := by decide +kernel
theorem ks_160 : (Int16.ofInt (160)).toInt32 = nI 160 := by decide +kernel
theorem f_12_26 : ab_ft (ab_CM 12) 26 = some (.if_icmp .ge 78, 0, 0) := by decide +kernel
theorem f_12_29 : ab_ft (ab_CM 12) 29 = some (.aload_n 0, 0, 0) := by decide +kernel
theorem f_12_30 : ab_ft (ab_CM 12) 30 = some (.getfield 65, 33, 302) := by decide +kernel
theorem f_12_33 : ab_ft (ab_CM 12) 33 = some (.getfield 450, 45, 284) := by decide +kernel
theorem f_12_36 : ab_ft (ab_CM 12) 36 = some (.iconst (-1), 0, 0) := by decide +kernel
theorem ki_m1 : Int32.ofInt (-1) = -1 := by decide +kernel
theorem f_12_37 : ab_ft (ab_CM 12) 37 = some (.if_icmp .eq 78, 0, 0) := by decide +kernel
theorem f_12_40 : ab_ft (ab_CM 12) 40 = some (.aload_n 0, 0, 0) := by decide +kernel
theorem f_12_41 : ab_ft (ab_CM 12) 41 = some (.invokevirtual 13, 48, 482) := by decide +kernel
theorem f_12_44 : ab_ft (ab_CM 12) 44 = some (.ifCond .ne 58, 0, 0) := by decide +kernel
theorem f_12_47 : ab_ft (ab_CM 12) 47 = some (.bipush (-10), 0, 0) := by decide +kernel
theorem kb_m10 : (Int8.ofInt (-10)).toInt32 = -10 := by decide +kernel
theorem f_12_49 : ab_ft (ab_CM 12) 49 = some (.aload_n 0, 0, 0) := by decide +kernel
theorem f_12_50 : ab_ft (ab_CM 12) 50 = some (.getfield 65, 33, 302) := by decide +kernel
theorem f_12_53 : ab_ft (ab_CM 12) 53 = some (.getfield 451, 52, 286) := by decide +kernel
theorem f_12_56 : ab_ft (ab_CM 12) 56 = some (.isub, 0, 0) := by decide +kernel
theorem f_12_57 : ab_ft (ab_CM 12) 57 = some (.ireturn, 0, 0) := by decide +kernel
theorem f_12_58 : ab_ft (ab_CM 12) 58 = some (.aload_n 0, 0, 0) := by decide +kernel
theorem f_12_59 : ab_ft (ab_CM 12) 59 = some (.dup, 0, 0) := by decide +kernel
theorem f_12_60 : ab_ft (ab_CM 12) 60 = some (.getfield 66, 18, 303) := by decide +kernel
theorem f_12_63 : ab_ft (ab_CM 12) 63 = some (.iconst 1, 0, 0) := by decide +kernel
theorem f_12_64 : ab_ft (ab_CM 12) 64 = some (.iadd, 0, 0) := by decide +kernel
theorem f_12_65 : ab_ft (ab_CM 12) 65 = some (.putfield 4162, 18, 303) := by decide +kernel
theorem f_12_68 : ab_ft (ab_CM 12) 68 = some (.aload_n 0, 0, 0) := by decide +kernel
theorem f_12_69 : ab_ft (ab_CM 12) 69 = some (.getfield 65, 33, 302) := by decide +kernel
theorem f_12_72 : ab_ft (ab_CM 12) 72 = some (.invokevirtual 42, 55, 490) := by decide +kernel
theorem f_12_75 : ab_ft (ab_CM 12) 75 = some (.goto 19, 0, 0) := by decide +kernel
theorem f_12_78 : ab_ft (ab_CM 12) 78 = some (.aload_n 0, 0, 0) := by decide +kernel
theorem f_12_79 : ab_ft (ab_CM 12) 79 = some (.getfield 66, 18, 303) := by decide +kernel
theorem f_12_82 : ab_ft (ab_CM 12) 82 = some (.ireturn, 0, 0) := by decide +kernel
theorem my_12_41 : sg_may 0 12 41 = true := by decide +kernel
theorem my_12_42 : sg_may 0 12 42 = true := by decide +kernel
theorem my_12_13 : sg_may 0 12 13 = true := by decide +kernel
theorem my_12_31 : sg_may 0 12 31 = true := by decide +kernel
theorem mr_12 : ab_MR 12 = (1, 0, 0, 1, 1, 5, 103) := by decide +kernel
theorem rk_12 : (ab_MR 12).2.2.2.2.1 = 1 := by decide +kernel
theorem f_13_0 : ab_ft (ab_CM 13) 0 = some (.aload_n 0, 0, 0) := by decide +kernel
theorem f_13_1 : ab_ft (ab_CM 13) 1 = some (.getfield 65, 33, 302) := by decide +kernel
theorem f_13_4 : ab_ft (ab_CM 13) 4 = some (.getfield 450, 45, 284) := by decide +kernel
theorem f_13_7 : ab_ft (ab_CM 13) 7 = some (.lookupswitch 133 #[(97, 67), (98, 101), (115, 40)], 33, 0) := by decide +kernel
theorem f_13_40 : ab_ft (ab_CM 13) 40 = some (.aload_n 0, 0, 0) := by decide +kernel
theorem f_13_41 : ab_ft (ab_CM 13) 41 = some (.getfield 66, 18, 303) := by decide +kernel
theorem f_13_44 : ab_ft (ab_CM 13) 44 = some (.ifCond .ne 65, 0, 0) := by decide +kernel
theorem f_13_47 : ab_ft (ab_CM 13) 47 = some (.aload_n 0, 0, 0) := by decide +kernel
theorem f_13_48 : ab_ft (ab_CM 13) 48 = some (.invokevirtual 14, 58, 486) := by decide +kernel
theorem f_13_51 : ab_ft (ab_CM 13) 51 = some (.ifCond .eq 65, 0, 0) := by decide +kernel
theorem f_13_54 : ab_ft (ab_CM 13) 54 = some (.aload_n 0, 0, 0) := by decide +kernel
theorem f_13_55 : ab_ft (ab_CM 13) 55 = some (.invokevirtual 18, 61, 495) := by decide +kernel
theorem f_13_58 : ab_ft (ab_CM 13) 58 = some (.ifCond .eq 65, 0, 0) := by decide +kernel
theorem f_13_61 : ab_ft (ab_CM 13) 61 = some (.iconst 1, 0, 0) := by decide +kernel
theorem f_13_62 : ab_ft (ab_CM 13) 62 = some (.goto 66, 0, 0) := by decide +kernel
theorem f_13_65 : ab_ft (ab_CM 13) 65 = some (.iconst 0, 0, 0) := by decide +kernel
theorem f_13_66 : ab_ft (ab_CM 13) 66 = some (.ireturn, 0, 0) := by decide +kernel
theorem f_13_67 : ab_ft (ab_CM 13) 67 = some (.aload_n 0, 0, 0) := by decide +kernel
theorem f_13_68 : ab_ft (ab_CM 13) 68 = some (.invokevirtual 15, 64, 499) := by decide +kernel
theorem f_13_71 : ab_ft (ab_CM 13) 71 = some (.ifCond .eq 99, 0, 0) := by decide +kernel
theorem f_13_74 : ab_ft (ab_CM 13) 74 = some (.aload_n 0, 0, 0) := by decide +kernel
theorem f_13_75 : ab_ft (ab_CM 13) 75 = some (.invokevirtual 16, 67, 503) := by decide +kernel
theorem f_13_78 : ab_ft (ab_CM 13) 78 = some (.ifCond .eq 99, 0, 0) := by decide +kernel
theorem f_13_81 : ab_ft (ab_CM 13) 81 = some (.aload_n 0, 0, 0) := by decide +kernel
theorem f_13_82 : ab_ft (ab_CM 13) 82 = some (.invokevirtual 17, 70, 507) := by decide +kernel
theorem f_13_85 : ab_ft (ab_CM 13) 85 = some (.ifCond .eq 99, 0, 0) := by decide +kernel
theorem f_13_88 : ab_ft (ab_CM 13) 88 = some (.aload_n 0, 0, 0) := by decide +kernel
theorem f_13_89 : ab_ft (ab_CM 13) 89 = some (.invokevirtual 18, 61, 495) := by decide +kernel
theorem f_13_92 : ab_ft (ab_CM 13) 92 = some (.ifCond .eq 99, 0, 0) := by decide +kernel
theorem f_13_95 : ab_ft (ab_CM 13) 95 = some (.iconst 1, 0, 0) := by decide +kernel
theorem f_13_96 : ab_ft (ab_CM 13) 96 = some (.goto 100, 0, 0) := by decide +kernel
theorem f_13_99 : ab_ft (ab_CM 13) 99 = some (.iconst 0, 0, 0) := by decide +kernel
theorem f_13_100 : ab_ft (ab_CM 13) 100 = some (.ireturn, 0, 0) := by decide +kernel
theorem f_13_101 : ab_ft (ab_CM 13) 101 = some (.aload_n 0, 0, 0) := by decide +kernel
theorem f_13_102 : ab_ft (ab_CM 13) 102 = some (.iconst (-1), 0, 0) := by decide +kernel
theorem f_13_103 : ab_ft (ab_CM 13) 103 = some (.putfield 4164, 25, 305) := by decide +kernel
theorem f_13_106 : ab_ft (ab_CM 13) 106 = some (.aload_n 0, 0, 0) := by decide +kernel
theorem f_13_107 : ab_ft (ab_CM 13) 107 = some (.invokevirtual 15, 64, 499) := by decide +kernel
theorem f_13_110 : ab_ft (ab_CM 13) 110 = some (.ifCond .eq 131, 0, 0) := by decide +kernel
theorem f_13_113 : ab_ft (ab_CM 13) 113 = some (.aload_n 0, 0, 0) := by decide +kernel
theorem f_13_114 : ab_ft (ab_CM 13) 114 = some (.invokevirtual 17, 70, 507) := by decide +kernel
theorem f_13_117 : ab_ft (ab_CM 13) 117 = some (.ifCond .eq 131, 0, 0) := by decide +kernel
theorem f_13_120 : ab_ft (ab_CM 13) 120 = some (.aload_n 0, 0, 0) := by decide +kernel
theorem f_13_121 : ab_ft (ab_CM 13) 121 = some (.invokevirtual 18, 61, 495) := by decide +kernel
theorem f_13_124 : ab_ft (ab_CM 13) 124 = some (.ifCond .eq 131, 0, 0) := by decide +kernel
theorem f_13_127 : ab_ft (ab_CM 13) 127 = some (.iconst 1, 0, 0) := by decide +kernel
theorem f_13_128 : ab_ft (ab_CM 13) 128 = some (.goto 132, 0, 0) := by decide +kernel
theorem f_13_131 : ab_ft (ab_CM 13) 131 = some (.iconst 0, 0, 0) := by decide +kernel
theorem f_13_132 : ab_ft (ab_CM 13) 132 = some (.ireturn, 0, 0) := by decide +kernel
theorem f_13_133 : ab_ft (ab_CM 13) 133 = some (.iconst 0, 0, 0) := by decide +kernel
theorem f_13_134 : ab_ft (ab_CM 13) 134 = some (.ireturn, 0, 0) := by decide +kernel
theorem my_13_14 : sg_may 0 13 14 = true := by decide +kernel
theorem my_13_15 : sg_may 0 13 15 = true := by decide +kernel
theorem my_13_16 : sg_may 0 13 16 = true := by decide +kernel
theorem my_13_17 : sg_may 0 13 17 = true := by decide +kernel
theorem my_13_18 : sg_may 0 13 18 = true := by decide +kernel
theorem mr_13 : ab_MR 13 = (1, 0, 0, 1, 2, 4, 83) := by decide +kernel
theorem rk_13 : (ab_MR 13).2.2.2.2.1 = 2 := by decide +kernel
theorem f_14_0 : ab_ft (ab_CM 14) 0 = some (.aload_n 0, 0, 0) := by decide +kernel
theorem f_14_1 : ab_ft (ab_CM 14) 1 = some (.getfield 65, 33, 302) := by decide +kernel
theorem f_14_4 : ab_ft (ab_CM 14) 4 = some (.invokevirtual 42, 55, 490) := by decide +kernel
theorem f_14_7 : ab_ft (ab_CM 14) 7 = some (.aload_n 0, 0, 0) := by decide +kernel
theorem f_14_8 : ab_ft (ab_CM 14) 8 = some (.iconst 1, 0, 0) := by decide +kernel
theorem f_14_9 : ab_ft (ab_CM 14) 9 = some (.iconst 4, 0, 0) := by decide +kernel
theorem f_14_10 : ab_ft (ab_CM 14) 10 = some (.invokevirtual 19, 73, 491) := by decide +kernel
theorem f_14_13 : ab_ft (ab_CM 14) 13 = some (.ifCond .ne 18, 0, 0) := by decide +kernel
theorem f_14_16 : ab_ft (ab_CM 14) 16 = some (.iconst 0, 0, 0) := by decide +kernel
theorem f_14_17 : ab_ft (ab_CM 14) 17 = some (.ireturn, 0, 0) := by decide +kernel
theorem f_14_18 : ab_ft (ab_CM 14) 18 = some (.aload_n 0, 0, 0) := by decide +kernel
theorem f_14_19 : ab_ft (ab_CM 14) 19 = some (.getfield 64, 12, 300) := by decide +kernel
theorem f_14_22 : ab_ft (ab_CM 14) 22 = some (.aload_n 0, 0, 0) := by decide +kernel
theorem f_14_23 : ab_ft (ab_CM 14) 23 = some (.getfield 65, 33, 302) := by decide +kernel
theorem f_14_26 : ab_ft (ab_CM 14) 26 = some (.getfield 452, 77, 288) := by decide +kernel
theorem f_14_29 : ab_ft (ab_CM 14) 29 = some (.putfield 4416, 80, 264) := by decide +kernel
theorem f_14_32 : ab_ft (ab_CM 14) 32 = some (.iconst 1, 0, 0) := by decide +kernel
theorem f_14_33 : ab_ft (ab_CM 14) 33 = some (.ireturn, 0, 0) := by decide +kernel
theorem my_14_42 : sg_may 0 14 42 = true := by decide +kernel
theorem my_14_19 : sg_may 0 14 19 = true := by decide +kernel
theorem mr_14 : ab_MR 14 = (1, 0, 0, 1, 2, 3, 62) := by decide +kernel
theorem rk_14 : (ab_MR 14).2.2.2.2.1 = 2 := by decide +kernel
theorem f_15_0 : ab_ft (ab_CM 15) 0 = some (.aload_n 0, 0, 0) := by decide +kernel
theorem f_15_1 : ab_ft (ab_CM 15) 1 = some (.getfield 65, 33, 302) := by decide +kernel
theorem f_15_4 : ab_ft (ab_CM 15) 4 = some (.invokevirtual 42, 55, 490) := by decide +kernel
theorem f_15_7 : ab_ft (ab_CM 15) 7 = some (.aload_n 0, 0, 0) := by decide +kernel
theorem f_15_8 : ab_ft (ab_CM 15) 8 = some (.aload_n 0, 0, 0) := by decide +kernel
theorem f_15_9 : ab_ft (ab_CM 15) 9 = some (.getfield 65, 33, 302) := by decide +kernel
theorem f_15_12 : ab_ft (ab_CM 15) 12 = some (.getfield 452, 77, 288) := by decide +kernel
theorem f_15_15 : ab_ft (ab_CM 15) 15 = some (.putfield 4163, 22, 304) := by decide +kernel
theorem f_15_18 : ab_ft (ab_CM 15) 18 = some (.aload_n 0, 0, 0) := by decide +kernel
theorem f_15_19 : ab_ft (ab_CM 15) 19 = some (.iconst 0, 0, 0) := by decide +kernel
theorem f_15_20 : ab_ft (ab_CM 15) 20 = some (.aload_n 0, 0, 0) := by decide +kernel
theorem f_15_21 : ab_ft (ab_CM 15) 21 = some (.getfield 64, 12, 300) := by decide +kernel
theorem f_15_24 : ab_ft (ab_CM 15) 24 = some (.getfield 320, 80, 264) := by decide +kernel
theorem f_15_27 : ab_ft (ab_CM 15) 27 = some (.iconst 1, 0, 0) := by decide +kernel
theorem f_15_28 : ab_ft (ab_CM 15) 28 = some (.isub, 0, 0) := by decide +kernel
theorem f_15_29 : ab_ft (ab_CM 15) 29 = some (.invokevirtual 19, 73, 491) := by decide +kernel
theorem f_15_32 : ab_ft (ab_CM 15) 32 = some (.ireturn, 0, 0) := by decide +kernel
theorem my_15_42 : sg_may 0 15 42 = true := by decide +kernel
theorem my_15_19 : sg_may 0 15 19 = true := by decide +kernel
theorem mr_15 : ab_MR 15 = (1, 0, 0, 1, 2, 3, 62) := by decide +kernel
theorem rk_15 : (ab_MR 15).2.2.2.2.1 = 2 := by decide +kernel
theorem f_16_0 : ab_ft (ab_CM 16) 0 = some (.aload_n 0, 0, 0) := by decide +kernel
theorem f_16_1 : ab_ft (ab_CM 16) 1 = some (.getfield 65, 33, 302) := by decide +kernel
theorem f_16_4 : ab_ft (ab_CM 16) 4 = some (.invokevirtual 42, 55, 490) := by decide +kernel
theorem f_16_7 : ab_ft (ab_CM 16) 7 = some (.aload_n 0, 0, 0) := by decide +kernel
theorem f_16_8 : ab_ft (ab_CM 16) 8 = some (.aload_n 0, 0, 0) := by decide +kernel
theorem f_16_9 : ab_ft (ab_CM 16) 9 = some (.getfield 65, 33, 302) := by decide +kernel
theorem f_16_12 : ab_ft (ab_CM 16) 12 = some (.getfield 452, 77, 288) := by decide +kernel
theorem f_16_15 : ab_ft (ab_CM 16) 15 = some (.putfield 4164, 25, 305) := by decide +kernel
theorem f_16_18 : ab_ft (ab_CM 16) 18 = some (.aload_n 0, 0, 0) := by decide +kernel
theorem f_16_19 : ab_ft (ab_CM 16) 19 = some (.iconst 0, 0, 0) := by decide +kernel
theorem f_16_20 : ab_ft (ab_CM 16) 20 = some (.aload_n 0, 0, 0) := by decide +kernel
theorem f_16_21 : ab_ft (ab_CM 16) 21 = some (.getfield 64, 12, 300) := by decide +kernel
theorem f_16_24 : ab_ft (ab_CM 16) 24 = some (.getfield 320, 80, 264) := by decide +kernel
theorem f_16_27 : ab_ft (ab_CM 16) 27 = some (.iconst 1, 0, 0) := by decide +kernel
theorem f_16_28 : ab_ft (ab_CM 16) 28 = some (.isub, 0, 0) := by decide +kernel
theorem f_16_29 : ab_ft (ab_CM 16) 29 = some (.invokevirtual 19, 73, 491) := by decide +kernel
theorem f_16_32 : ab_ft (ab_CM 16) 32 = some (.ireturn, 0, 0) := by decide +kernel
theorem my_16_42 : sg_may 0 16 42 = true := by decide +kernel
theorem my_16_19 : sg_may 0 16 19 = true := by decide +kernel
theorem mr_16 : ab_MR 16 = (1, 0, 0, 1, 2, 3, 62) := by decide +kernel
theorem rk_16 : (ab_MR 16).2.2.2.2.1 = 2 := by decide +kernel
theorem f_17_0 : ab_ft (ab_CM 17) 0 = some (.aload_n 0, 0, 0) := by decide +kernel
theorem f_17_1 : ab_ft (ab_CM 17) 1 = some (.getfield 65, 33, 302) := by decide +kernel
theorem f_17_4 : ab_ft (ab_CM 17) 4 = some (.invokevirtual 42, 55, 490) := by decide +kernel
theorem f_17_7 : ab_ft (ab_CM 17) 7 = some (.aload_n 0, 0, 0) := by decide +kernel
theorem f_17_8 : ab_ft (ab_CM 17) 8 = some (.getfield 65, 33, 302) := by decide +kernel
theorem f_17_11 : ab_ft (ab_CM 17) 11 = some (.getfield 450, 45, 284) := by decide +kernel
theorem f_17_14 : ab_ft (ab_CM 17) 14 = some (.bipush 45, 0, 0) := by decide +kernel
theorem kb_45 : (Int8.ofInt (45)).toInt32 = nI 45 := by decide +kernel
theorem f_17_16 : ab_ft (ab_CM 17) 16 = some (.if_icmp .ne 23, 0, 0) := by decide +kernel
theorem f_17_19 : ab_ft (ab_CM 17) 19 = some (.iconst 1, 0, 0) := by decide +kernel
theorem f_17_20 : ab_ft (ab_CM 17) 20 = some (.goto 24, 0, 0) := by decide +kernel
theorem f_17_23 : ab_ft (ab_CM 17) 23 = some (.iconst 0, 0, 0) := by decide +kernel
theorem f_17_24 : ab_ft (ab_CM 17) 24 = some (.istore_n 1, 0, 0) := by decide +kernel
theorem f_17_25 : ab_ft (ab_CM 17) 25 = some (.iload_n 1, 0, 0) := by decide +kernel
theorem f_17_26 : ab_ft (ab_CM 17) 26 = some (.ifCond .eq 36, 0, 0) := by decide +kernel
theorem f_17_29 : ab_ft (ab_CM 17) 29 = some (.aload_n 0, 0, 0) := by decide +kernel
theorem f_17_30 : ab_ft (ab_CM 17) 30 = some (.getfield 65, 33, 302) := by decide +kernel
theorem f_17_33 : ab_ft (ab_CM 17) 33 = some (.invokevirtual 42, 55, 490) := by decide +kernel
theorem f_17_36 : ab_ft (ab_CM 17) 36 = some (.aload_n 0, 0, 0) := by decide +kernel
theorem f_17_37 : ab_ft (ab_CM 17) 37 = some (.iconst 0, 0, 0) := by decide +kernel
theorem f_17_38 : ab_ft (ab_CM 17) 38 = some (.sipush 600, 0, 0) := by decide +kernel
theorem ks_600 : (Int16.ofInt (600)).toInt32 = nI 600 := by decide +kernel
theorem f_17_41 : ab_ft (ab_CM 17) 41 = some (.invokevirtual 19, 73, 491) := by decide +kernel
theorem f_17_44 : ab_ft (ab_CM 17) 44 = some (.ifCond .ne 49, 0, 0) := by decide +kernel
theorem f_17_47 : ab_ft (ab_CM 17) 47 = some (.iconst 0, 0, 0) := by decide +kernel
theorem f_17_48 : ab_ft (ab_CM 17) 48 = some (.ireturn, 0, 0) := by decide +kernel
theorem f_17_49 : ab_ft (ab_CM 17) 49 = some (.aload_n 0, 0, 0) := by decide +kernel
theorem f_17_50 : ab_ft (ab_CM 17) 50 = some (.getfield 64, 12, 300) := by decide +kernel
theorem f_17_53 : ab_ft (ab_CM 17) 53 = some (.aload_n 0, 0, 0) := by decide +kernel
theorem f_17_54 : ab_ft (ab_CM 17) 54 = some (.getfield 67, 22, 304) := by decide +kernel
theorem f_17_57 : ab_ft (ab_CM 17) 57 = some (.aload_n 0, 0, 0) := by decide +kernel
theorem f_17_58 : ab_ft (ab_CM 17) 58 = some (.getfield 68, 25, 305) := by decide +kernel
theorem f_17_61 : ab_ft (ab_CM 17) 61 = some (.iload_n 1, 0, 0) := by decide +kernel
theorem f_17_62 : ab_ft (ab_CM 17) 62 = some (.ifCond .eq 76, 0, 0) := by decide +kernel
theorem f_17_65 : ab_ft (ab_CM 17) 65 = some (.aload_n 0, 0, 0) := by decide +kernel
theorem f_17_66 : ab_ft (ab_CM 17) 66 = some (.getfield 65, 33, 302) := by decide +kernel
theorem f_17_69 : ab_ft (ab_CM 17) 69 = some (.getfield 452, 77, 288) := by decide +kernel
theorem f_17_72 : ab_ft (ab_CM 17) 72 = some (.ineg, 0, 0) := by decide +kernel
theorem f_17_73 : ab_ft (ab_CM 17) 73 = some (.goto 83, 0, 0) := by decide +kernel
theorem f_17_76 : ab_ft (ab_CM 17) 76 = some (.aload_n 0, 0, 0) := by decide +kernel
theorem f_17_77 : ab_ft (ab_CM 17) 77 = some (.getfield 65, 33, 302) := by decide +kernel
theorem f_17_80 : ab_ft (ab_CM 17) 80 = some (.getfield 452, 77, 288) := by decide +kernel
theorem f_17_83 : ab_ft (ab_CM 17) 83 = some (.invokevirtual 35, 83, 511) := by decide +kernel
theorem f_17_86 : ab_ft (ab_CM 17) 86 = some (.iconst 1, 0, 0) := by decide +kernel
theorem f_17_87 : ab_ft (ab_CM 17) 87 = some (.ireturn, 0, 0) := by decide +kernel
theorem my_17_35 : sg_may 0 17 35 = true := by decide +kernel
theorem my_17_42 : sg_may 0 17 42 = true := by decide +kernel
theorem my_17_19 : sg_may 0 17 19 = true := by decide +kernel
theorem mr_17 : ab_MR 17 = (1, 0, 0, 2, 2, 3, 62) := by decide +kernel
theorem rk_17 : (ab_MR 17).2.2.2.2.1 = 2 := by decide +kernel
theorem f_18_0 : ab_ft (ab_CM 18) 0 = some (.aload_n 0, 0, 0) := by decide +kernel
theorem f_18_1 : ab_ft (ab_CM 18) 1 = some (.getfield 65, 33, 302) := by decide +kernel
theorem f_18_4 : ab_ft (ab_CM 18) 4 = some (.invokevirtual 42, 55, 490) := by decide +kernel
theorem f_18_7 : ab_ft (ab_CM 18) 7 = some (.aload_n 0, 0, 0) := by decide +kernel
theorem f_18_8 : ab_ft (ab_CM 18) 8 = some (.getfield 65, 33, 302) := by decide +kernel
theorem f_18_11 : ab_ft (ab_CM 18) 11 = some (.getfield 450, 45, 284) := by decide +kernel
theorem f_18_14 : ab_ft (ab_CM 18) 14 = some (.bipush 59, 0, 0) := by decide +kernel
theorem kb_59 : (Int8.ofInt (59)).toInt32 = nI 59 := by decide +kernel
theorem f_18_16 : ab_ft (ab_CM 18) 16 = some (.if_icmp .ne 23, 0, 0) := by decide +kernel
theorem f_18_19 : ab_ft (ab_CM 18) 19 = some (.iconst 1, 0, 0) := by decide +kernel
theorem f_18_20 : ab_ft (ab_CM 18) 20 = some (.goto 24, 0, 0) := by decide +kernel
theorem f_18_23 : ab_ft (ab_CM 18) 23 = some (.iconst 0, 0, 0) := by decide +kernel
theorem f_18_24 : ab_ft (ab_CM 18) 24 = some (.ireturn, 0, 0) := by decide +kernel
theorem my_18_42 : sg_may 0 18 42 = true := by decide +kernel
theorem mr_18 : ab_MR 18 = (1, 0, 0, 1, 2, 3, 62) := by decide +kernel
theorem rk_18 : (ab_MR 18).2.2.2.2.1 = 2 := by decide +kernel
theorem f_19_0 : ab_ft (ab_CM 19) 0 = some (.aload_n 0, 0, 0) := by decide +kernel
theorem f_19_1 : ab_ft (ab_CM 19) 1 = some (.getfield 65, 33, 302) := by decide +kernel
theorem f_19_4 : ab_ft (ab_CM 19) 4 = some (.getfield 450, 45, 284) := by decide +kernel
theorem f_19_7 : ab_ft (ab_CM 19) 7 = some (.bipush 48, 0, 0) := by decide +kernel
theorem kb_48 : (Int8.ofInt (48)).toInt32 = nI 48 := by decide +kernel
theorem f_19_9 : ab_ft (ab_CM 19) 9 = some (.if_icmp .ne 38, 0, 0) := by decide +kernel
theorem f_19_12 : ab_ft (ab_CM 19) 12 = some (.aload_n 0, 0, 0) := by decide +kernel
theorem f_19_13 : ab_ft (ab_CM 19) 13 = some (.getfield 65, 33, 302) := by decide +kernel
theorem f_19_16 : ab_ft (ab_CM 19) 16 = some (.getfield 452, 77, 288) := by decide +kernel
theorem f_19_19 : ab_ft (ab_CM 19) 19 = some (.iload_n 1, 0, 0) := by decide +kernel
theorem f_19_20 : ab_ft (ab_CM 19) 20 = some (.if_icmp .lt 38, 0, 0) := by decide +kernel
theorem f_19_23 : ab_ft (ab_CM 19) 23 = some (.aload_n 0, 0, 0) := by decide +kernel
theorem f_19_24 : ab_ft (ab_CM 19) 24 = some (.getfield 65, 33, 302) := by decide +kernel
theorem f_19_27 : ab_ft (ab_CM 19) 27 = some (.getfield 452, 77, 288) := by decide +kernel
theorem f_19_30 : ab_ft (ab_CM 19) 30 = some (.iload_n 2, 0, 0) := by decide +kernel
theorem f_19_31 : ab_ft (ab_CM 19) 31 = some (.if_icmp .gt 38, 0, 0) := by decide +kernel
theorem f_19_34 : ab_ft (ab_CM 19) 34 = some (.iconst 1, 0, 0) := by decide +kernel
theorem f_19_35 : ab_ft (ab_CM 19) 35 = some (.goto 39, 0, 0) := by decide +kernel
theorem f_19_38 : ab_ft (ab_CM 19) 38 = some (.iconst 0, 0, 0) := by decide +kernel
theorem f_19_39 : ab_ft (ab_CM 19) 39 = some (.ireturn, 0, 0) := by decide +kernel
theorem mr_19 : ab_MR 19 = (1, 0, 2, 3, 2, 0, 0) := by decide +kernel
theorem rk_19 : (ab_MR 19).2.2.2.2.1 = 2 := by decide +kernel
theorem f_21_0 : ab_ft (ab_CM 21) 0 = some (.aload_n 0, 0, 0) := by decide +kernel
theorem f_21_1 : ab_ft (ab_CM 21) 1 = some (.getfield 128, 11, 344) := by decide +kernel
theorem f_21_4 : ab_ft (ab_CM 21) 4 = some (.aload_n 0, 0, 0) := by decide +kernel
theorem f_21_5 : ab_ft (ab_CM 21) 5 = some (.getfield 129, 15, 345) := by decide +kernel
theorem f_21_8 : ab_ft (ab_CM 21) 8 = some (.aaload, 0, 0) := by decide +kernel
theorem f_21_9 : ab_ft (ab_CM 21) 9 = some (.aload_n 1, 0, 0) := by decide +kernel
theorem f_21_10 : ab_ft (ab_CM 21) 10 = some (.invokevirtual 29, 23, 523) := by decide +kernel
theorem f_21_13 : ab_ft (ab_CM 21) 13 = some (.aload_n 0, 0, 0) := by decide +kernel
theorem f_21_14 : ab_ft (ab_CM 21) 14 = some (.aload_n 0, 0, 0) := by decide +kernel
theorem f_21_15 : ab_ft (ab_CM 21) 15 = some (.getfield 129, 15, 345) := by decide +kernel
theorem f_21_18 : ab_ft (ab_CM 21) 18 = some (.iconst 1, 0, 0) := by decide +kernel
theorem f_21_19 : ab_ft (ab_CM 21) 19 = some (.iadd, 0, 0) := by decide +kernel
theorem f_21_20 : ab_ft (ab_CM 21) 20 = some (.bipush 6, 0, 0) := by decide +kernel
theorem kb_6 : (Int8.ofInt (6)).toInt32 = nI 6 := by decide +kernel
theorem f_21_22 : ab_ft (ab_CM 21) 22 = some (.if_icmp .ge 34, 0, 0) := by decide +kernel
theorem f_21_25 : ab_ft (ab_CM 21) 25 = some (.aload_n 0, 0, 0) := by decide +kernel
theorem f_21_26 : ab_ft (ab_CM 21) 26 = some (.getfield 129, 15, 345) := by decide +kernel
theorem f_21_29 : ab_ft (ab_CM 21) 29 = some (.iconst 1, 0, 0) := by decide +kernel
theorem f_21_30 : ab_ft (ab_CM 21) 30 = some (.iadd, 0, 0) := by decide +kernel
theorem f_21_31 : ab_ft (ab_CM 21) 31 = some (.goto 35, 0, 0) := by decide +kernel
theorem f_21_34 : ab_ft (ab_CM 21) 34 = some (.iconst 0, 0, 0) := by decide +kernel
theorem f_21_35 : ab_ft (ab_CM 21) 35 = some (.putfield 4225, 15, 345) := by decide +kernel
theorem f_21_38 : ab_ft (ab_CM 21) 38 = some (.aload_n 0, 0, 0) := by decide +kernel
theorem f_21_39 : ab_ft (ab_CM 21) 39 = some (.aload_n 0, 0, 0) := by decide +kernel
theorem f_21_40 : ab_ft (ab_CM 21) 40 = some (.getfield 130, 19, 346) := by decide +kernel
theorem f_21_43 : ab_ft (ab_CM 21) 43 = some (.iconst 1, 0, 0) := by decide +kernel
theorem f_21_44 : ab_ft (ab_CM 21) 44 = some (.iadd, 0, 0) := by decide +kernel
theorem f_21_45 : ab_ft (ab_CM 21) 45 = some (.bipush 6, 0, 0) := by decide +kernel
theorem f_21_47 : ab_ft (ab_CM 21) 47 = some (.invokestatic 903, 27, 535) := by decide +kernel
theorem f_21_50 : ab_ft (ab_CM 21) 50 = some (.putfield 4226, 19, 346) := by decide +kernel
theorem f_21_53 : ab_ft (ab_CM 21) 53 = some (.return_, 0, 0) := by decide +kernel
theorem my_21_29 : sg_may 0 21 29 = true := by decide +kernel
theorem mr_21 : ab_MR 21 = (2, 0, 1, 2, 0, 3, 69) := by decide +kernel
theorem rk_21 : (ab_MR 21).2.2.2.2.1 = 0 := by decide +kernel
theorem rm_21 : (Nat.ble 1 (ab_MR 21).2.2.2.2.2.1 && Nat.ble 21 (ab_MR 21).2.2.2.2.2.2) = true := by decide +kernel
theorem f_22_0 : ab_ft (ab_CM 22) 0 = some (.aload_n 0, 0, 0) := by decide +kernel
theorem f_22_1 : ab_ft (ab_CM 22) 1 = some (.getfield 130, 19, 346) := by decide +kernel
theorem f_22_4 : ab_ft (ab_CM 22) 4 = some (.ifCond .ne 9, 0, 0) := by decide +kernel
theorem f_22_7 : ab_ft (ab_CM 22) 7 = some (.iconst 0, 0, 0) := by decide +kernel
theorem f_22_8 : ab_ft (ab_CM 22) 8 = some (.ireturn, 0, 0) := by decide +kernel
theorem f_22_9 : ab_ft (ab_CM 22) 9 = some (.aload_n 0, 0, 0) := by decide +kernel
theorem f_22_10 : ab_ft (ab_CM 22) 10 = some (.aload_n 0, 0, 0) := by decide +kernel
theorem f_22_11 : ab_ft (ab_CM 22) 11 = some (.getfield 129, 15, 345) := by decide +kernel
theorem f_22_14 : ab_ft (ab_CM 22) 14 = some (.ifCond .le 26, 0, 0) := by decide +kernel
theorem f_22_17 : ab_ft (ab_CM 22) 17 = some (.aload_n 0, 0, 0) := by decide +kernel
theorem f_22_18 : ab_ft (ab_CM 22) 18 = some (.getfield 129, 15, 345) := by decide +kernel
theorem f_22_21 : ab_ft (ab_CM 22) 21 = some (.iconst 1, 0, 0) := by decide +kernel
theorem f_22_22 : ab_ft (ab_CM 22) 22 = some (.isub, 0, 0) := by decide +kernel
theorem f_22_23 : ab_ft (ab_CM 22) 23 = some (.goto 27, 0, 0) := by decide +kernel
theorem f_22_26 : ab_ft (ab_CM 22) 26 = some (.iconst 5, 0, 0) := by decide +kernel
theorem ki_5 : Int32.ofInt (5) = nI 5 := by decide +kernel
theorem f_22_27 : ab_ft (ab_CM 22) 27 = some (.putfield 4225, 15, 345) := by decide +kernel
theorem f_22_30 : ab_ft (ab_CM 22) 30 = some (.aload_n 0, 0, 0) := by decide +kernel
theorem f_22_31 : ab_ft (ab_CM 22) 31 = some (.dup, 0, 0) := by decide +kernel
theorem f_22_32 : ab_ft (ab_CM 22) 32 = some (.getfield 130, 19, 346) := by decide +kernel
theorem f_22_35 : ab_ft (ab_CM 22) 35 = some (.iconst 1, 0, 0) := by decide +kernel
theorem f_22_36 : ab_ft (ab_CM 22) 36 = some (.isub, 0, 0) := by decide +kernel
theorem f_22_37 : ab_ft (ab_CM 22) 37 = some (.putfield 4226, 19, 346) := by decide +kernel
theorem f_22_40 : ab_ft (ab_CM 22) 40 = some (.aload_n 1, 0, 0) := by decide +kernel
theorem f_22_41 : ab_ft (ab_CM 22) 41 = some (.aload_n 0, 0, 0) := by decide +kernel
theorem f_22_42 : ab_ft (ab_CM 22) 42 = some (.getfield 128, 11, 344) := by decide +kernel
theorem f_22_45 : ab_ft (ab_CM 22) 45 = some (.aload_n 0, 0, 0) := by decide +kernel
theorem f_22_46 : ab_ft (ab_CM 22) 46 = some (.getfield 129, 15, 345) := by decide +kernel
theorem f_22_49 : ab_ft (ab_CM 22) 49 = some (.aaload, 0, 0) := by decide +kernel
theorem f_22_50 : ab_ft (ab_CM 22) 50 = some (.invokevirtual 29, 23, 523) := by decide +kernel
theorem f_22_53 : ab_ft (ab_CM 22) 53 = some (.iconst 1, 0, 0) := by decide +kernel
theorem f_22_54 : ab_ft (ab_CM 22) 54 = some (.ireturn, 0, 0) := by decide +kernel
theorem my_22_29 : sg_may 0 22 29 = true := by decide +kernel
theorem mr_22 : ab_MR 22 = (2, 0, 1, 2, 2, 3, 69) := by decide +kernel
theorem rk_22 : (ab_MR 22).2.2.2.2.1 = 2 := by decide +kernel
theorem f_23_0 : ab_ft (ab_CM 23) 0 = some (.aload_n 0, 0, 0) := by decide +kernel
theorem f_23_1 : ab_ft (ab_CM 23) 1 = some (.iconst 0, 0, 0) := by decide +kernel
theorem f_23_2 : ab_ft (ab_CM 23) 2 = some (.putfield 4226, 19, 346) := by decide +kernel
theorem f_23_5 : ab_ft (ab_CM 23) 5 = some (.return_, 0, 0) := by decide +kernel
theorem mr_23 : ab_MR 23 = (2, 0, 0, 1, 0, 0, 0) := by decide +kernel
theorem rk_23 : (ab_MR 23).2.2.2.2.1 = 0 := by decide +kernel
theorem f_25_0 : ab_ft (ab_CM 25) 0 = some (.aload_n 0, 0, 0) := by decide +kernel
theorem f_25_1 : ab_ft (ab_CM 25) 1 = some (.getfield 194, 17, 363) := by decide +kernel
theorem f_25_4 : ab_ft (ab_CM 25) 4 = some (.bipush 6, 0, 0) := by decide +kernel
theorem f_25_6 : ab_ft (ab_CM 25) 6 = some (.if_icmp .lt 11, 0, 0) := by decide +kernel
theorem f_25_9 : ab_ft (ab_CM 25) 9 = some (.iconst 0, 0, 0) := by decide +kernel
theorem f_25_10 : ab_ft (ab_CM 25) 10 = some (.ireturn, 0, 0) := by decide +kernel
theorem f_25_11 : ab_ft (ab_CM 25) 11 = some (.aload_n 0, 0, 0) := by decide +kernel
theorem f_25_12 : ab_ft (ab_CM 25) 12 = some (.getfield 192, 9, 361) := by decide +kernel
theorem f_25_15 : ab_ft (ab_CM 25) 15 = some (.aload_n 0, 0, 0) := by decide +kernel
theorem f_25_16 : ab_ft (ab_CM 25) 16 = some (.getfield 194, 17, 363) := by decide +kernel
theorem f_25_19 : ab_ft (ab_CM 25) 19 = some (.iload_n 1, 0, 0) := by decide +kernel
theorem f_25_20 : ab_ft (ab_CM 25) 20 = some (.iastore, 0, 0) := by decide +kernel
theorem f_25_21 : ab_ft (ab_CM 25) 21 = some (.aload_n 0, 0, 0) := by decide +kernel
theorem f_25_22 : ab_ft (ab_CM 25) 22 = some (.getfield 193, 13, 362) := by decide +kernel
theorem f_25_25 : ab_ft (ab_CM 25) 25 = some (.aload_n 0, 0, 0) := by decide +kernel
theorem f_25_26 : ab_ft (ab_CM 25) 26 = some (.getfield 194, 17, 363) := by decide +kernel
theorem f_25_29 : ab_ft (ab_CM 25) 29 = some (.lload_n 2, 0, 0) := by decide +kernel
theorem f_25_30 : ab_ft (ab_CM 25) 30 = some (.lastore, 0, 0) := by decide +kernel
theorem f_25_31 : ab_ft (ab_CM 25) 31 = some (.aload_n 0, 0, 0) := by decide +kernel
theorem f_25_32 : ab_ft (ab_CM 25) 32 = some (.dup, 0, 0) := by decide +kernel
theorem f_25_33 : ab_ft (ab_CM 25) 33 = some (.getfield 194, 17, 363) := by decide +kernel
theorem f_25_36 : ab_ft (ab_CM 25) 36 = some (.iconst 1, 0, 0) := by decide +kernel
theorem f_25_37 : ab_ft (ab_CM 25) 37 = some (.iadd, 0, 0) := by decide +kernel
theorem f_25_38 : ab_ft (ab_CM 25) 38 = some (.putfield 4290, 17, 363) := by decide +kernel
theorem f_25_41 : ab_ft (ab_CM 25) 41 = some (.iconst 1, 0, 0) := by decide +kernel
theorem f_25_42 : ab_ft (ab_CM 25) 42 = some (.ireturn, 0, 0) := by decide +kernel
theorem mr_25 : ab_MR 25 = (3, 0, 2, 4, 2, 0, 0) := by decide +kernel
theorem rk_25 : (ab_MR 25).2.2.2.2.1 = 2 := by decide +kernel
theorem f_26_0 : ab_ft (ab_CM 26) 0 = some (.aload_n 0, 0, 0) := by decide +kernel
theorem f_26_1 : ab_ft (ab_CM 26) 1 = some (.getfield 194, 17, 363) := by decide +kernel
theorem f_26_4 : ab_ft (ab_CM 26) 4 = some (.istore_n 1, 0, 0) := by decide +kernel
theorem f_26_5 : ab_ft (ab_CM 26) 5 = some (.aload_n 0, 0, 0) := by decide +kernel
theorem f_26_6 : ab_ft (ab_CM 26) 6 = some (.iconst 0, 0, 0) := by decide +kernel
theorem f_26_7 : ab_ft (ab_CM 26) 7 = some (.putfield 4290, 17, 363) := by decide +kernel
theorem f_26_10 : ab_ft (ab_CM 26) 10 = some (.iload_n 1, 0, 0) := by decide +kernel
theorem f_26_11 : ab_ft (ab_CM 26) 11 = some (.ireturn, 0, 0) := by decide +kernel
theorem mr_26 : ab_MR 26 = (3, 0, 0, 2, 1, 0, 0) := by decide +kernel
theorem rk_26 : (ab_MR 26).2.2.2.2.1 = 1 := by decide +kernel
theorem f_27_0 : ab_ft (ab_CM 27) 0 = some (.iconst 0, 0, 0) := by decide +kernel
theorem f_27_1 : ab_ft (ab_CM 27) 1 = some (.istore_n 2, 0, 0) := by decide +kernel
theorem f_27_2 : ab_ft (ab_CM 27) 2 = some (.iload_n 2, 0, 0) := by decide +kernel
theorem f_27_3 : ab_ft (ab_CM 27) 3 = some (.aload_n 0, 0, 0) := by decide +kernel
theorem f_27_4 : ab_ft (ab_CM 27) 4 = some (.getfield 194, 17, 363) := by decide +kernel
theorem f_27_7 : ab_ft (ab_CM 27) 7 = some (.if_icmp .ge 36, 0, 0) := by decide +kernel
theorem f_27_10 : ab_ft (ab_CM 27) 10 = some (.aload_n 1, 0, 0) := by decide +kernel
theorem f_27_11 : ab_ft (ab_CM 27) 11 = some (.aload_n 0, 0, 0) := by decide +kernel
theorem f_27_12 : ab_ft (ab_CM 27) 12 = some (.getfield 192, 9, 361) := by decide +kernel
theorem f_27_15 : ab_ft (ab_CM 27) 15 = some (.iload_n 2, 0, 0) := by decide +kernel
theorem f_27_16 : ab_ft (ab_CM 27) 16 = some (.iaload, 0, 0) := by decide +kernel
theorem f_27_17 : ab_ft (ab_CM 27) 17 = some (.laload, 0, 0) := by decide +kernel
theorem f_27_18 : ab_ft (ab_CM 27) 18 = some (.aload_n 0, 0, 0) := by decide +kernel
theorem f_27_19 : ab_ft (ab_CM 27) 19 = some (.getfield 193, 13, 362) := by decide +kernel
theorem f_27_22 : ab_ft (ab_CM 27) 22 = some (.iload_n 2, 0, 0) := by decide +kernel
theorem f_27_23 : ab_ft (ab_CM 27) 23 = some (.laload, 0, 0) := by decide +kernel
theorem f_27_24 : ab_ft (ab_CM 27) 24 = some (.lcmp, 0, 0) := by decide +kernel
theorem f_27_25 : ab_ft (ab_CM 27) 25 = some (.ifCond .eq 30, 0, 0) := by decide +kernel
theorem f_27_28 : ab_ft (ab_CM 27) 28 = some (.iconst 0, 0, 0) := by decide +kernel
theorem f_27_29 : ab_ft (ab_CM 27) 29 = some (.ireturn, 0, 0) := by decide +kernel
theorem f_27_30 : ab_ft (ab_CM 27) 30 = some (.iinc 2 1, 0, 0) := by decide +kernel
theorem f_27_33 : ab_ft (ab_CM 27) 33 = some (.goto 2, 0, 0) := by decide +kernel
theorem f_27_36 : ab_ft (ab_CM 27) 36 = some (.iconst 1, 0, 0) := by decide +kernel
theorem f_27_37 : ab_ft (ab_CM 27) 37 = some (.ireturn, 0, 0) := by decide +kernel
theorem mr_27 : ab_MR 27 = (3, 0, 1, 3, 2, 0, 0) := by decide +kernel
theorem rk_27 : (ab_MR 27).2.2.2.2.1 = 2 := by decide +kernel
theorem f_29_0 : ab_ft (ab_CM 29) 0 = some (.aload_n 0, 0, 0) := by decide +kernel
theorem f_29_1 : ab_ft (ab_CM 29) 1 = some (.getfield 256, 12, 326) := by decide +kernel
theorem f_29_4 : ab_ft (ab_CM 29) 4 = some (.aload_n 1, 0, 0) := by decide +kernel
theorem f_29_5 : ab_ft (ab_CM 29) 5 = some (.getfield 256, 12, 326) := by decide +kernel
theorem f_29_8 : ab_ft (ab_CM 29) 8 = some (.invokevirtual 32, 23, 527) := by decide +kernel
theorem f_29_11 : ab_ft (ab_CM 29) 11 = some (.iconst 0, 0, 0) := by decide +kernel
theorem f_29_12 : ab_ft (ab_CM 29) 12 = some (.istore_n 2, 0, 0) := by decide +kernel
theorem f_29_13 : ab_ft (ab_CM 29) 13 = some (.iload_n 2, 0, 0) := by decide +kernel
theorem f_29_14 : ab_ft (ab_CM 29) 14 = some (.bipush 6, 0, 0) := by decide +kernel
theorem f_29_16 : ab_ft (ab_CM 29) 16 = some (.if_icmp .ge 44, 0, 0) := by decide +kernel
theorem f_29_19 : ab_ft (ab_CM 29) 19 = some (.aload_n 1, 0, 0) := by decide +kernel
theorem f_29_20 : ab_ft (ab_CM 29) 20 = some (.getfield 257, 20, 328) := by decide +kernel
theorem f_29_23 : ab_ft (ab_CM 29) 23 = some (.iload_n 2, 0, 0) := by decide +kernel
theorem f_29_24 : ab_ft (ab_CM 29) 24 = some (.aaload, 0, 0) := by decide +kernel
theorem f_29_25 : ab_ft (ab_CM 29) 25 = some (.iconst 0, 0, 0) := by decide +kernel
theorem f_29_26 : ab_ft (ab_CM 29) 26 = some (.aload_n 0, 0, 0) := by decide +kernel
theorem f_29_27 : ab_ft (ab_CM 29) 27 = some (.getfield 257, 20, 328) := by decide +kernel
theorem f_29_30 : ab_ft (ab_CM 29) 30 = some (.iload_n 2, 0, 0) := by decide +kernel
theorem f_29_31 : ab_ft (ab_CM 29) 31 = some (.aaload, 0, 0) := by decide +kernel
theorem f_29_32 : ab_ft (ab_CM 29) 32 = some (.iconst 0, 0, 0) := by decide +kernel
theorem f_29_33 : ab_ft (ab_CM 29) 33 = some (.bipush 17, 0, 0) := by decide +kernel
theorem f_29_35 : ab_ft (ab_CM 29) 35 = some (.invokestatic 901, 27, 534) := by decide +kernel
theorem f_29_38 : ab_ft (ab_CM 29) 38 = some (.iinc 2 1, 0, 0) := by decide +kernel
theorem f_29_41 : ab_ft (ab_CM 29) 41 = some (.goto 13, 0, 0) := by decide +kernel
theorem f_29_44 : ab_ft (ab_CM 29) 44 = some (.return_, 0, 0) := by decide +kernel
theorem my_29_32 : sg_may 0 29 32 = true := by decide +kernel
theorem mr_29 : ab_MR 29 = (4, 0, 1, 3, 0, 2, 47) := by decide +kernel
theorem rk_29 : (ab_MR 29).2.2.2.2.1 = 0 := by decide +kernel
theorem ra_29 : (Nat.ble 1 (ab_MR 29).2.2.2.2.2.1 && Nat.ble 26 (ab_MR 29).2.2.2.2.2.2) = true := by decide +kernel
theorem f_31_0 : ab_ft (ab_CM 31) 0 = some (.aload_n 0, 0, 0) := by decide +kernel
theorem f_31_1 : ab_ft (ab_CM 31) 1 = some (.iconst 1, 0, 0) := by decide +kernel
theorem f_31_2 : ab_ft (ab_CM 31) 2 = some (.putfield 4416, 9, 262) := by decide +kernel
theorem f_31_5 : ab_ft (ab_CM 31) 5 = some (.aload_n 0, 0, 0) := by decide +kernel
theorem f_31_6 : ab_ft (ab_CM 31) 6 = some (.getfield 321, 15, 266) := by decide +kernel
theorem f_31_9 : ab_ft (ab_CM 31) 9 = some (.iconst 0, 0, 0) := by decide +kernel
theorem f_31_10 : ab_ft (ab_CM 31) 10 = some (.invokestatic 156, 22, 459) := by decide +kernel
theorem f_31_13 : ab_ft (ab_CM 31) 13 = some (.aload_n 0, 0, 0) := by decide +kernel
theorem f_31_14 : ab_ft (ab_CM 31) 14 = some (.getfield 322, 19, 267) := by decide +kernel
theorem f_31_17 : ab_ft (ab_CM 31) 17 = some (.iconst 0, 0, 0) := by decide +kernel
theorem f_31_18 : ab_ft (ab_CM 31) 18 = some (.invokestatic 156, 22, 459) := by decide +kernel
theorem f_31_21 : ab_ft (ab_CM 31) 21 = some (.return_, 0, 0) := by decide +kernel
theorem my_31_156 : sg_may 1 31 156 = true := by decide +kernel
theorem mr_31 : ab_MR 31 = (5, 0, 0, 1, 0, 1, 23) := by decide +kernel
theorem rk_31 : (ab_MR 31).2.2.2.2.1 = 0 := by decide +kernel
theorem f_32_0 : ab_ft (ab_CM 32) 0 = some (.aload_n 0, 0, 0) := by decide +kernel
theorem f_32_1 : ab_ft (ab_CM 32) 1 = some (.aload_n 1, 0, 0) := by decide +kernel
theorem f_32_2 : ab_ft (ab_CM 32) 2 = some (.getfield 320, 9, 262) := by decide +kernel
theorem f_32_5 : ab_ft (ab_CM 32) 5 = some (.putfield 4416, 9, 262) := by decide +kernel
theorem f_32_8 : ab_ft (ab_CM 32) 8 = some (.aload_n 1, 0, 0) := by decide +kernel
theorem f_32_9 : ab_ft (ab_CM 32) 9 = some (.getfield 321, 15, 266) := by decide +kernel
theorem f_32_12 : ab_ft (ab_CM 32) 12 = some (.iconst 0, 0, 0) := by decide +kernel
theorem f_32_13 : ab_ft (ab_CM 32) 13 = some (.aload_n 0, 0, 0) := by decide +kernel
theorem f_32_14 : ab_ft (ab_CM 32) 14 = some (.getfield 321, 15, 266) := by decide +kernel
theorem f_32_17 : ab_ft (ab_CM 32) 17 = some (.iconst 0, 0, 0) := by decide +kernel
theorem f_32_18 : ab_ft (ab_CM 32) 18 = some (.aload_n 0, 0, 0) := by decide +kernel
theorem f_32_19 : ab_ft (ab_CM 32) 19 = some (.getfield 321, 15, 266) := by decide +kernel
theorem f_32_22 : ab_ft (ab_CM 32) 22 = some (.arraylength, 0, 0) := by decide +kernel
theorem f_32_23 : ab_ft (ab_CM 32) 23 = some (.invokestatic 901, 28, 531) := by decide +kernel
theorem f_32_26 : ab_ft (ab_CM 32) 26 = some (.aload_n 1, 0, 0) := by decide +kernel
theorem f_32_27 : ab_ft (ab_CM 32) 27 = some (.getfield 322, 19, 267) := by decide +kernel
theorem f_32_30 : ab_ft (ab_CM 32) 30 = some (.iconst 0, 0, 0) := by decide +kernel
theorem f_32_31 : ab_ft (ab_CM 32) 31 = some (.aload_n 0, 0, 0) := by decide +kernel
theorem f_32_32 : ab_ft (ab_CM 32) 32 = some (.getfield 322, 19, 267) := by decide +kernel
theorem f_32_35 : ab_ft (ab_CM 32) 35 = some (.iconst 0, 0, 0) := by decide +kernel
theorem f_32_36 : ab_ft (ab_CM 32) 36 = some (.aload_n 0, 0, 0) := by decide +kernel
theorem f_32_37 : ab_ft (ab_CM 32) 37 = some (.getfield 322, 19, 267) := by decide +kernel
theorem f_32_40 : ab_ft (ab_CM 32) 40 = some (.arraylength, 0, 0) := by decide +kernel
theorem f_32_41 : ab_ft (ab_CM 32) 41 = some (.invokestatic 901, 28, 531) := by decide +kernel
theorem f_32_44 : ab_ft (ab_CM 32) 44 = some (.return_, 0, 0) := by decide +kernel
theorem mr_32 : ab_MR 32 = (5, 0, 1, 2, 0, 1, 26) := by decide +kernel
theorem rk_32 : (ab_MR 32).2.2.2.2.1 = 0 := by decide +kernel
theorem ra_32 : (Nat.ble 1 (ab_MR 32).2.2.2.2.2.1 && Nat.ble 26 (ab_MR 32).2.2.2.2.2.2) = true := by decide +kernel
theorem f_33_0 : ab_ft (ab_CM 33) 0 = some (.iload_n 1, 0, 0) := by decide +kernel
theorem f_33_1 : ab_ft (ab_CM 33) 1 = some (.ifCond .lt 29, 0, 0) := by decide +kernel
theorem f_33_4 : ab_ft (ab_CM 33) 4 = some (.iload_n 1, 0, 0) := by decide +kernel
theorem f_33_5 : ab_ft (ab_CM 33) 5 = some (.aload_n 0, 0, 0) := by decide +kernel
theorem f_33_6 : ab_ft (ab_CM 33) 6 = some (.getfield 320, 9, 262) := by decide +kernel
theorem f_33_9 : ab_ft (ab_CM 33) 9 = some (.if_icmp .ge 29, 0, 0) := by decide +kernel
theorem f_33_12 : ab_ft (ab_CM 33) 12 = some (.iload_n 2, 0, 0) := by decide +kernel
theorem f_33_13 : ab_ft (ab_CM 33) 13 = some (.iconst (-1), 0, 0) := by decide +kernel
theorem f_33_14 : ab_ft (ab_CM 33) 14 = some (.if_icmp .lt 29, 0, 0) := by decide +kernel
theorem f_33_17 : ab_ft (ab_CM 33) 17 = some (.iload_n 2, 0, 0) := by decide +kernel
theorem f_33_18 : ab_ft (ab_CM 33) 18 = some (.aload_n 0, 0, 0) := by decide +kernel
theorem f_33_19 : ab_ft (ab_CM 33) 19 = some (.getfield 320, 9, 262) := by decide +kernel
theorem f_33_22 : ab_ft (ab_CM 33) 22 = some (.if_icmp .ge 29, 0, 0) := by decide +kernel
theorem f_33_25 : ab_ft (ab_CM 33) 25 = some (.iconst 1, 0, 0) := by decide +kernel
theorem f_33_26 : ab_ft (ab_CM 33) 26 = some (.goto 30, 0, 0) := by decide +kernel
theorem f_33_29 : ab_ft (ab_CM 33) 29 = some (.iconst 0, 0, 0) := by decide +kernel
theorem f_33_30 : ab_ft (ab_CM 33) 30 = some (.ireturn, 0, 0) := by decide +kernel
theorem mr_33 : ab_MR 33 = (5, 0, 2, 3, 2, 0, 0) := by decide +kernel
theorem rk_33 : (ab_MR 33).2.2.2.2.1 = 2 := by decide +kernel
theorem f_34_0 : ab_ft (ab_CM 34) 0 = some (.aload_n 0, 0, 0) := by decide +kernel
theorem f_34_1 : ab_ft (ab_CM 34) 1 = some (.iload_n 1, 0, 0) := by decide +kernel
theorem f_34_2 : ab_ft (ab_CM 34) 2 = some (.iload_n 2, 0, 0) := by decide +kernel
theorem f_34_3 : ab_ft (ab_CM 34) 3 = some (.invokevirtual 33, 34, 515) := by decide +kernel
theorem f_34_6 : ab_ft (ab_CM 34) 6 = some (.ifCond .ne 11, 0, 0) := by decide +kernel
theorem f_34_9 : ab_ft (ab_CM 34) 9 = some (.iconst 0, 0, 0) := by decide +kernel
theorem f_34_10 : ab_ft (ab_CM 34) 10 = some (.ireturn, 0, 0) := by decide +kernel
theorem f_34_11 : ab_ft (ab_CM 34) 11 = some (.iload_n 2, 0, 0) := by decide +kernel
theorem f_34_12 : ab_ft (ab_CM 34) 12 = some (.iconst (-1), 0, 0) := by decide +kernel
theorem f_34_13 : ab_ft (ab_CM 34) 13 = some (.if_icmp .ne 25, 0, 0) := by decide +kernel
theorem f_34_16 : ab_ft (ab_CM 34) 16 = some (.aload_n 0, 0, 0) := by decide +kernel
theorem f_34_17 : ab_ft (ab_CM 34) 17 = some (.getfield 322, 19, 267) := by decide +kernel
theorem f_34_20 : ab_ft (ab_CM 34) 20 = some (.iload_n 1, 0, 0) := by decide +kernel
theorem f_34_21 : ab_ft (ab_CM 34) 21 = some (.iaload, 0, 0) := by decide +kernel
theorem f_34_22 : ab_ft (ab_CM 34) 22 = some (.goto 35, 0, 0) := by decide +kernel
theorem f_34_25 : ab_ft (ab_CM 34) 25 = some (.aload_n 0, 0, 0) := by decide +kernel
theorem f_34_26 : ab_ft (ab_CM 34) 26 = some (.getfield 321, 15, 266) := by decide +kernel
theorem f_34_29 : ab_ft (ab_CM 34) 29 = some (.iload_n 1, 0, 0) := by decide +kernel
theorem f_34_30 : ab_ft (ab_CM 34) 30 = some (.iconst 4, 0, 0) := by decide +kernel
theorem f_34_31 : ab_ft (ab_CM 34) 31 = some (.imul, 0, 0) := by decide +kernel
theorem f_34_32 : ab_ft (ab_CM 34) 32 = some (.iload_n 2, 0, 0) := by decide +kernel
theorem f_34_33 : ab_ft (ab_CM 34) 33 = some (.iadd, 0, 0) := by decide +kernel
theorem f_34_34 : ab_ft (ab_CM 34) 34 = some (.iaload, 0, 0) := by decide +kernel
theorem f_34_35 : ab_ft (ab_CM 34) 35 = some (.ireturn, 0, 0) := by decide +kernel
theorem my_34_33 : sg_may 0 34 33 = true := by decide +kernel
theorem mr_34 : ab_MR 34 = (5, 0, 2, 3, 1, 1, 22) := by decide +kernel
theorem rk_34 : (ab_MR 34).2.2.2.2.1 = 1 := by decide +kernel
theorem f_35_0 : ab_ft (ab_CM 35) 0 = some (.aload_n 0, 0, 0) := by decide +kernel
theorem f_35_1 : ab_ft (ab_CM 35) 1 = some (.iload_n 1, 0, 0) := by decide +kernel
theorem f_35_2 : ab_ft (ab_CM 35) 2 = some (.iload_n 2, 0, 0) := by decide +kernel
theorem f_35_3 : ab_ft (ab_CM 35) 3 = some (.invokevirtual 33, 34, 515) := by decide +kernel
theorem f_35_6 : ab_ft (ab_CM 35) 6 = some (.ifCond .ne 10, 0, 0) := by decide +kernel
theorem f_35_9 : ab_ft (ab_CM 35) 9 = some (.return_, 0, 0) := by decide +kernel
theorem f_35_10 : ab_ft (ab_CM 35) 10 = some (.iload_n 2, 0, 0) := by decide +kernel
theorem f_35_11 : ab_ft (ab_CM 35) 11 = some (.iconst (-1), 0, 0) := by decide +kernel
theorem f_35_12 : ab_ft (ab_CM 35) 12 = some (.if_icmp .ne 25, 0, 0) := by decide +kernel
theorem f_35_15 : ab_ft (ab_CM 35) 15 = some (.aload_n 0, 0, 0) := by decide +kernel
theorem f_35_16 : ab_ft (ab_CM 35) 16 = some (.getfield 322, 19, 267) := by decide +kernel
theorem f_35_19 : ab_ft (ab_CM 35) 19 = some (.iload_n 1, 0, 0) := by decide +kernel
theorem f_35_20 : ab_ft (ab_CM 35) 20 = some (.iload_n 3, 0, 0) := by decide +kernel
theorem f_35_21 : ab_ft (ab_CM 35) 21 = some (.iastore, 0, 0) := by decide +kernel
theorem f_35_22 : ab_ft (ab_CM 35) 22 = some (.goto 36, 0, 0) := by decide +kernel
theorem f_35_25 : ab_ft (ab_CM 35) 25 = some (.aload_n 0, 0, 0) := by decide +kernel
theorem f_35_26 : ab_ft (ab_CM 35) 26 = some (.getfield 321, 15, 266) := by decide +kernel
theorem f_35_29 : ab_ft (ab_CM 35) 29 = some (.iload_n 1, 0, 0) := by decide +kernel
theorem f_35_30 : ab_ft (ab_CM 35) 30 = some (.iconst 4, 0, 0) := by decide +kernel
theorem f_35_31 : ab_ft (ab_CM 35) 31 = some (.imul, 0, 0) := by decide +kernel
theorem f_35_32 : ab_ft (ab_CM 35) 32 = some (.iload_n 2, 0, 0) := by decide +kernel
theorem f_35_33 : ab_ft (ab_CM 35) 33 = some (.iadd, 0, 0) := by decide +kernel
theorem f_35_34 : ab_ft (ab_CM 35) 34 = some (.iload_n 3, 0, 0) := by decide +kernel
theorem f_35_35 : ab_ft (ab_CM 35) 35 = some (.iastore, 0, 0) := by decide +kernel
theorem f_35_36 : ab_ft (ab_CM 35) 36 = some (.return_, 0, 0) := by decide +kernel
theorem my_35_33 : sg_may 0 35 33 = true := by decide +kernel
theorem mr_35 : ab_MR 35 = (5, 0, 3, 4, 0, 1, 22) := by decide +kernel
theorem rk_35 : (ab_MR 35).2.2.2.2.1 = 0 := by decide +kernel
theorem f_37_0 : ab_ft (ab_CM 37) 0 = some (.aload_n 0, 0, 0) := by decide +kernel
theorem f_37_1 : ab_ft (ab_CM 37) 1 = some (.getfield 385, 13, 219) := by decide +kernel
theorem f_37_4 : ab_ft (ab_CM 37) 4 = some (.sipush 160, 0, 0) := by decide +kernel
theorem f_37_7 : ab_ft (ab_CM 37) 7 = some (.if_icmp .lt 12, 0, 0) := by decide +kernel
theorem f_37_10 : ab_ft (ab_CM 37) 10 = some (.iconst 0, 0, 0) := by decide +kernel
theorem f_37_11 : ab_ft (ab_CM 37) 11 = some (.ireturn, 0, 0) := by decide +kernel
theorem f_37_12 : ab_ft (ab_CM 37) 12 = some (.aload_n 0, 0, 0) := by decide +kernel
theorem f_37_13 : ab_ft (ab_CM 37) 13 = some (.getfield 384, 9, 218) := by decide +kernel
theorem f_37_16 : ab_ft (ab_CM 37) 16 = some (.aload_n 0, 0, 0) := by decide +kernel
theorem f_37_17 : ab_ft (ab_CM 37) 17 = some (.getfield 385, 13, 219) := by decide +kernel
theorem f_37_20 : ab_ft (ab_CM 37) 20 = some (.iload_n 1, 0, 0) := by decide +kernel
theorem f_37_21 : ab_ft (ab_CM 37) 21 = some (.iastore, 0, 0) := by decide +kernel
theorem f_37_22 : ab_ft (ab_CM 37) 22 = some (.aload_n 0, 0, 0) := by decide +kernel
theorem f_37_23 : ab_ft (ab_CM 37) 23 = some (.dup, 0, 0) := by decide +kernel
theorem f_37_24 : ab_ft (ab_CM 37) 24 = some (.getfield 385, 13, 219) := by decide +kernel
theorem f_37_27 : ab_ft (ab_CM 37) 27 = some (.iconst 1, 0, 0) := by decide +kernel
theorem f_37_28 : ab_ft (ab_CM 37) 28 = some (.iadd, 0, 0) := by decide +kernel
theorem f_37_29 : ab_ft (ab_CM 37) 29 = some (.putfield 4481, 13, 219) := by decide +kernel
theorem f_37_32 : ab_ft (ab_CM 37) 32 = some (.iconst 1, 0, 0) := by decide +kernel
theorem f_37_33 : ab_ft (ab_CM 37) 33 = some (.ireturn, 0, 0) := by decide +kernel
theorem mr_37 : ab_MR 37 = (6, 0, 1, 2, 2, 0, 0) := by decide +kernel
theorem rk_37 : (ab_MR 37).2.2.2.2.1 = 2 := by decide +kernel
theorem f_38_0 : ab_ft (ab_CM 38) 0 = some (.aload_n 0, 0, 0) := by decide +kernel
theorem f_38_1 : ab_ft (ab_CM 38) 1 = some (.getfield 385, 13, 219) := by decide +kernel
theorem f_38_4 : ab_ft (ab_CM 38) 4 = some (.istore_n 1, 0, 0) := by decide +kernel
theorem f_38_5 : ab_ft (ab_CM 38) 5 = some (.aload_n 0, 0, 0) := by decide +kernel
theorem f_38_6 : ab_ft (ab_CM 38) 6 = some (.iconst 0, 0, 0) := by decide +kernel
theorem f_38_7 : ab_ft (ab_CM 38) 7 = some (.putfield 4481, 13, 219) := by decide +kernel
theorem f_38_10 : ab_ft (ab_CM 38) 10 = some (.iload_n 1, 0, 0) := by decide +kernel
theorem f_38_11 : ab_ft (ab_CM 38) 11 = some (.ireturn, 0, 0) := by decide +kernel
theorem mr_38 : ab_MR 38 = (6, 0, 0, 2, 1, 0, 0) := by decide +kernel
theorem rk_38 : (ab_MR 38).2.2.2.2.1 = 1 := by decide +kernel
theorem f_39_0 : ab_ft (ab_CM 39) 0 = some (.iload_n 1, 0, 0) := by decide +kernel
theorem f_39_1 : ab_ft (ab_CM 39) 1 = some (.ifCond .lt 21, 0, 0) := by decide +kernel
theorem f_39_4 : ab_ft (ab_CM 39) 4 = some (.iload_n 1, 0, 0) := by decide +kernel
theorem f_39_5 : ab_ft (ab_CM 39) 5 = some (.aload_n 0, 0, 0) := by decide +kernel
theorem f_39_6 : ab_ft (ab_CM 39) 6 = some (.getfield 385, 13, 219) := by decide +kernel
theorem f_39_9 : ab_ft (ab_CM 39) 9 = some (.if_icmp .ge 21, 0, 0) := by decide +kernel
theorem f_39_12 : ab_ft (ab_CM 39) 12 = some (.aload_n 0, 0, 0) := by decide +kernel
theorem f_39_13 : ab_ft (ab_CM 39) 13 = some (.getfield 384, 9, 218) := by decide +kernel
theorem f_39_16 : ab_ft (ab_CM 39) 16 = some (.iload_n 1, 0, 0) := by decide +kernel
theorem f_39_17 : ab_ft (ab_CM 39) 17 = some (.iaload, 0, 0) := by decide +kernel
theorem f_39_18 : ab_ft (ab_CM 39) 18 = some (.goto 23, 0, 0) := by decide +kernel
theorem f_39_21 : ab_ft (ab_CM 39) 21 = some (.bipush 32, 0, 0) := by decide +kernel
theorem kb_32 : (Int8.ofInt (32)).toInt32 = nI 32 := by decide +kernel
theorem f_39_23 : ab_ft (ab_CM 39) 23 = some (.ireturn, 0, 0) := by decide +kernel
theorem mr_39 : ab_MR 39 = (6, 0, 1, 2, 1, 0, 0) := by decide +kernel
theorem rk_39 : (ab_MR 39).2.2.2.2.1 = 1 := by decide +kernel
theorem f_41_0 : ab_ft (ab_CM 41) 0 = some (.aload_n 0, 0, 0) := by decide +kernel
theorem f_41_1 : ab_ft (ab_CM 41) 1 = some (.iconst 0, 0, 0) := by decide +kernel
theorem f_41_2 : ab_ft (ab_CM 41) 2 = some (.putfield 4545, 7, 282) := by decide +kernel
theorem f_41_5 : ab_ft (ab_CM 41) 5 = some (.aload_n 0, 0, 0) := by decide +kernel
theorem f_41_6 : ab_ft (ab_CM 41) 6 = some (.invokevirtual 42, 26, 464) := by decide +kernel
theorem f_41_9 : ab_ft (ab_CM 41) 9 = some (.return_, 0, 0) := by decide +kernel
theorem my_41_42 : sg_may 0 41 42 = true := by decide +kernel
theorem mr_41 : ab_MR 41 = (7, 0, 0, 1, 0, 3, 62) := by decide +kernel
theorem rk_41 : (ab_MR 41).2.2.2.2.1 = 0 := by decide +kernel
theorem f_42_0 : ab_ft (ab_CM 42) 0 = some (.aload_n 0, 0, 0) := by decide +kernel
theorem f_42_1 : ab_ft (ab_CM 42) 1 = some (.getfield 449, 7, 282) := by decide +kernel
theorem f_42_4 : ab_ft (ab_CM 42) 4 = some (.aload_n 0, 0, 0) := by decide +kernel
theorem f_42_5 : ab_ft (ab_CM 42) 5 = some (.getfield 448, 22, 281) := by decide +kernel
theorem f_42_8 : ab_ft (ab_CM 42) 8 = some (.getfield 385, 29, 222) := by decide +kernel
theorem f_42_11 : ab_ft (ab_CM 42) 11 = some (.if_icmp .ge 43, 0, 0) := by decide +kernel
theorem f_42_14 : ab_ft (ab_CM 42) 14 = some (.aload_n 0, 0, 0) := by decide +kernel
theorem f_42_15 : ab_ft (ab_CM 42) 15 = some (.getfield 448, 22, 281) := by decide +kernel
theorem f_42_18 : ab_ft (ab_CM 42) 18 = some (.aload_n 0, 0, 0) := by decide +kernel
theorem f_42_19 : ab_ft (ab_CM 42) 19 = some (.getfield 449, 7, 282) := by decide +kernel
theorem f_42_22 : ab_ft (ab_CM 42) 22 = some (.invokevirtual 39, 34, 468) := by decide +kernel
theorem f_42_25 : ab_ft (ab_CM 42) 25 = some (.bipush 32, 0, 0) := by decide +kernel
theorem f_42_27 : ab_ft (ab_CM 42) 27 = some (.if_icmp .ne 43, 0, 0) := by decide +kernel
theorem f_42_30 : ab_ft (ab_CM 42) 30 = some (.aload_n 0, 0, 0) := by decide +kernel
theorem f_42_31 : ab_ft (ab_CM 42) 31 = some (.dup, 0, 0) := by decide +kernel
theorem f_42_32 : ab_ft (ab_CM 42) 32 = some (.getfield 449, 7, 282) := by decide +kernel
theorem f_42_35 : ab_ft (ab_CM 42) 35 = some (.iconst 1, 0, 0) := by decide +kernel
theorem f_42_36 : ab_ft (ab_CM 42) 36 = some (.iadd, 0, 0) := by decide +kernel
theorem f_42_37 : ab_ft (ab_CM 42) 37 = some (.putfield 4545, 7, 282) := by decide +kernel
theorem f_42_40 : ab_ft (ab_CM 42) 40 = some (.goto 0, 0, 0) := by decide +kernel
theorem f_42_43 : ab_ft (ab_CM 42) 43 = some (.aload_n 0, 0, 0) := by decide +kernel
theorem f_42_44 : ab_ft (ab_CM 42) 44 = some (.aload_n 0, 0, 0) := by decide +kernel
theorem f_42_45 : ab_ft (ab_CM 42) 45 = some (.getfield 449, 7, 282) := by decide +kernel
theorem f_42_48 : ab_ft (ab_CM 42) 48 = some (.putfield 4547, 16, 285) := by decide +kernel
theorem f_42_51 : ab_ft (ab_CM 42) 51 = some (.aload_n 0, 0, 0) := by decide +kernel
theorem f_42_52 : ab_ft (ab_CM 42) 52 = some (.getfield 449, 7, 282) := by decide +kernel
theorem f_42_55 : ab_ft (ab_CM 42) 55 = some (.aload_n 0, 0, 0) := by decide +kernel
theorem f_42_56 : ab_ft (ab_CM 42) 56 = some (.getfield 448, 22, 281) := by decide +kernel
theorem f_42_59 : ab_ft (ab_CM 42) 59 = some (.getfield 385, 29, 222) := by decide +kernel
theorem f_42_62 : ab_ft (ab_CM 42) 62 = some (.if_icmp .lt 73, 0, 0) := by decide +kernel
theorem f_42_65 : ab_ft (ab_CM 42) 65 = some (.aload_n 0, 0, 0) := by decide +kernel
theorem f_42_66 : ab_ft (ab_CM 42) 66 = some (.iconst (-1), 0, 0) := by decide +kernel
theorem f_42_67 : ab_ft (ab_CM 42) 67 = some (.putfield 4546, 13, 283) := by decide +kernel
theorem f_42_70 : ab_ft (ab_CM 42) 70 = some (.goto 125, 0, 0) := by decide +kernel
theorem f_42_73 : ab_ft (ab_CM 42) 73 = some (.aload_n 0, 0, 0) := by decide +kernel
theorem f_42_74 : ab_ft (ab_CM 42) 74 = some (.getfield 448, 22, 281) := by decide +kernel
theorem f_42_77 : ab_ft (ab_CM 42) 77 = some (.aload_n 0, 0, 0) := by decide +kernel
theorem f_42_78 : ab_ft (ab_CM 42) 78 = some (.getfield 449, 7, 282) := by decide +kernel
theorem f_42_81 : ab_ft (ab_CM 42) 81 = some (.invokevirtual 39, 34, 468) := by decide +kernel
theorem f_42_84 : ab_ft (ab_CM 42) 84 = some (.invokestatic 44, 38, 469) := by decide +kernel
theorem f_42_87 : ab_ft (ab_CM 42) 87 = some (.ifCond .eq 97, 0, 0) := by decide +kernel
theorem f_42_90 : ab_ft (ab_CM 42) 90 = some (.aload_n 0, 0, 0) := by decide +kernel
theorem f_42_91 : ab_ft (ab_CM 42) 91 = some (.invokevirtual 43, 42, 472) := by decide +kernel
theorem f_42_94 : ab_ft (ab_CM 42) 94 = some (.goto 125, 0, 0) := by decide +kernel
theorem f_42_97 : ab_ft (ab_CM 42) 97 = some (.aload_n 0, 0, 0) := by decide +kernel
theorem f_42_98 : ab_ft (ab_CM 42) 98 = some (.aload_n 0, 0, 0) := by decide +kernel
theorem f_42_99 : ab_ft (ab_CM 42) 99 = some (.getfield 448, 22, 281) := by decide +kernel
theorem f_42_102 : ab_ft (ab_CM 42) 102 = some (.aload_n 0, 0, 0) := by decide +kernel
theorem f_42_103 : ab_ft (ab_CM 42) 103 = some (.getfield 449, 7, 282) := by decide +kernel
theorem f_42_106 : ab_ft (ab_CM 42) 106 = some (.invokevirtual 39, 34, 468) := by decide +kernel
theorem f_42_109 : ab_ft (ab_CM 42) 109 = some (.invokestatic 45, 45, 479) := by decide +kernel
theorem f_42_112 : ab_ft (ab_CM 42) 112 = some (.putfield 4546, 13, 283) := by decide +kernel
theorem f_42_115 : ab_ft (ab_CM 42) 115 = some (.aload_n 0, 0, 0) := by decide +kernel
theorem f_42_116 : ab_ft (ab_CM 42) 116 = some (.dup, 0, 0) := by decide +kernel
theorem f_42_117 : ab_ft (ab_CM 42) 117 = some (.getfield 449, 7, 282) := by decide +kernel
theorem f_42_120 : ab_ft (ab_CM 42) 120 = some (.iconst 1, 0, 0) := by decide +kernel
theorem f_42_121 : ab_ft (ab_CM 42) 121 = some (.iadd, 0, 0) := by decide +kernel
theorem f_42_122 : ab_ft (ab_CM 42) 122 = some (.putfield 4545, 7, 282) := by decide +kernel
theorem f_42_125 : ab_ft (ab_CM 42) 125 = some (.return_, 0, 0) := by decide +kernel
theorem my_42_43 : sg_may 0 42 43 = true := by decide +kernel
theorem my_42_44 : sg_may 1 42 44 = true := by decide +kernel
theorem my_42_45 : sg_may 1 42 45 = true := by decide +kernel
theorem my_42_39 : sg_may 0 42 39 = true := by decide +kernel
theorem mr_42 : ab_MR 42 = (7, 0, 0, 1, 0, 2, 42) := by decide +kernel
theorem rk_42 : (ab_MR 42).2.2.2.2.1 = 0 := by decide +kernel
theorem f_43_0 : ab_ft (ab_CM 43) 0 = some (.aload_n 0, 0, 0) := by decide +kernel
theorem f_43_1 : ab_ft (ab_CM 43) 1 = some (.iconst 0, 0, 0) := by decide +kernel
theorem f_43_2 : ab_ft (ab_CM 43) 2 = some (.putfield 4548, 19, 287) := by decide +kernel
theorem f_43_5 : ab_ft (ab_CM 43) 5 = some (.aload_n 0, 0, 0) := by decide +kernel
theorem f_43_6 : ab_ft (ab_CM 43) 6 = some (.getfield 449, 7, 282) := by decide +kernel
theorem f_43_9 : ab_ft (ab_CM 43) 9 = some (.aload_n 0, 0, 0) := by decide +kernel
theorem f_43_10 : ab_ft (ab_CM 43) 10 = some (.getfield 448, 22, 281) := by decide +kernel
theorem f_43_13 : ab_ft (ab_CM 43) 13 = some (.getfield 385, 29, 222) := by decide +kernel
theorem f_43_16 : ab_ft (ab_CM 43) 16 = some (.if_icmp .ge 81, 0, 0) := by decide +kernel
theorem f_43_19 : ab_ft (ab_CM 43) 19 = some (.aload_n 0, 0, 0) := by decide +kernel
theorem f_43_20 : ab_ft (ab_CM 43) 20 = some (.getfield 448, 22, 281) := by decide +kernel
theorem f_43_23 : ab_ft (ab_CM 43) 23 = some (.aload_n 0, 0, 0) := by decide +kernel
theorem f_43_24 : ab_ft (ab_CM 43) 24 = some (.getfield 449, 7, 282) := by decide +kernel
theorem f_43_27 : ab_ft (ab_CM 43) 27 = some (.invokevirtual 39, 34, 468) := by decide +kernel
theorem f_43_30 : ab_ft (ab_CM 43) 30 = some (.invokestatic 44, 38, 469) := by decide +kernel
theorem f_43_33 : ab_ft (ab_CM 43) 33 = some (.ifCond .eq 81, 0, 0) := by decide +kernel
theorem f_43_36 : ab_ft (ab_CM 43) 36 = some (.aload_n 0, 0, 0) := by decide +kernel
theorem f_43_37 : ab_ft (ab_CM 43) 37 = some (.bipush 10, 0, 0) := by decide +kernel
theorem kb_10 : (Int8.ofInt (10)).toInt32 = nI 10 := by decide +kernel
theorem f_43_39 : ab_ft (ab_CM 43) 39 = some (.aload_n 0, 0, 0) := by decide +kernel
theorem f_43_40 : ab_ft (ab_CM 43) 40 = some (.getfield 452, 19, 287) := by decide +kernel
theorem f_43_43 : ab_ft (ab_CM 43) 43 = some (.imul, 0, 0) := by decide +kernel
theorem f_43_44 : ab_ft (ab_CM 43) 44 = some (.aload_n 0, 0, 0) := by decide +kernel
theorem f_43_45 : ab_ft (ab_CM 43) 45 = some (.getfield 448, 22, 281) := by decide +kernel
theorem f_43_48 : ab_ft (ab_CM 43) 48 = some (.aload_n 0, 0, 0) := by decide +kernel
theorem f_43_49 : ab_ft (ab_CM 43) 49 = some (.getfield 449, 7, 282) := by decide +kernel
theorem f_43_52 : ab_ft (ab_CM 43) 52 = some (.invokevirtual 39, 34, 468) := by decide +kernel
theorem f_43_55 : ab_ft (ab_CM 43) 55 = some (.iadd, 0, 0) := by decide +kernel
theorem f_43_56 : ab_ft (ab_CM 43) 56 = some (.bipush 48, 0, 0) := by decide +kernel
theorem f_43_58 : ab_ft (ab_CM 43) 58 = some (.isub, 0, 0) := by decide +kernel
theorem f_43_59 : ab_ft (ab_CM 43) 59 = some (.sipush 1000, 0, 0) := by decide +kernel
theorem ks_1000 : (Int16.ofInt (1000)).toInt32 = nI 1000 := by decide +kernel
theorem f_43_62 : ab_ft (ab_CM 43) 62 = some (.invokestatic 903, 48, 476) := by decide +kernel
theorem f_43_65 : ab_ft (ab_CM 43) 65 = some (.putfield 4548, 19, 287) := by decide +kernel
theorem f_43_68 : ab_ft (ab_CM 43) 68 = some (.aload_n 0, 0, 0) := by decide +kernel
theorem f_43_69 : ab_ft (ab_CM 43) 69 = some (.dup, 0, 0) := by decide +kernel
theorem f_43_70 : ab_ft (ab_CM 43) 70 = some (.getfield 449, 7, 282) := by decide +kernel
theorem f_43_73 : ab_ft (ab_CM 43) 73 = some (.iconst 1, 0, 0) := by decide +kernel
theorem f_43_74 : ab_ft (ab_CM 43) 74 = some (.iadd, 0, 0) := by decide +kernel
theorem f_43_75 : ab_ft (ab_CM 43) 75 = some (.putfield 4545, 7, 282) := by decide +kernel
theorem f_43_78 : ab_ft (ab_CM 43) 78 = some (.goto 5, 0, 0) := by decide +kernel
theorem f_43_81 : ab_ft (ab_CM 43) 81 = some (.aload_n 0, 0, 0) := by decide +kernel
theorem f_43_82 : ab_ft (ab_CM 43) 82 = some (.getfield 448, 22, 281) := by decide +kernel
theorem f_43_85 : ab_ft (ab_CM 43) 85 = some (.aload_n 0, 0, 0) := by decide +kernel
theorem f_43_86 : ab_ft (ab_CM 43) 86 = some (.getfield 451, 16, 285) := by decide +kernel
theorem f_43_89 : ab_ft (ab_CM 43) 89 = some (.invokevirtual 39, 34, 468) := by decide +kernel
theorem f_43_92 : ab_ft (ab_CM 43) 92 = some (.bipush 48, 0, 0) := by decide +kernel
theorem f_43_94 : ab_ft (ab_CM 43) 94 = some (.if_icmp .ne 114, 0, 0) := by decide +kernel
theorem f_43_97 : ab_ft (ab_CM 43) 97 = some (.aload_n 0, 0, 0) := by decide +kernel
theorem f_43_98 : ab_ft (ab_CM 43) 98 = some (.getfield 449, 7, 282) := by decide +kernel
theorem f_43_101 : ab_ft (ab_CM 43) 101 = some (.aload_n 0, 0, 0) := by decide +kernel
theorem f_43_102 : ab_ft (ab_CM 43) 102 = some (.getfield 451, 16, 285) := by decide +kernel
theorem f_43_105 : ab_ft (ab_CM 43) 105 = some (.isub, 0, 0) := by decide +kernel
theorem f_43_106 : ab_ft (ab_CM 43) 106 = some (.iconst 1, 0, 0) := by decide +kernel
theorem f_43_107 : ab_ft (ab_CM 43) 107 = some (.if_icmp .le 114, 0, 0) := by decide +kernel
theorem f_43_110 : ab_ft (ab_CM 43) 110 = some (.iconst 1, 0, 0) := by decide +kernel
theorem f_43_111 : ab_ft (ab_CM 43) 111 = some (.goto 115, 0, 0) := by decide +kernel
theorem f_43_114 : ab_ft (ab_CM 43) 114 = some (.iconst 0, 0, 0) := by decide +kernel
theorem f_43_115 : ab_ft (ab_CM 43) 115 = some (.istore_n 1, 0, 0) := by decide +kernel
theorem f_43_116 : ab_ft (ab_CM 43) 116 = some (.aload_n 0, 0, 0) := by decide +kernel
theorem f_43_117 : ab_ft (ab_CM 43) 117 = some (.iload_n 1, 0, 0) := by decide +kernel
theorem f_43_118 : ab_ft (ab_CM 43) 118 = some (.ifCond .ne 131, 0, 0) := by decide +kernel
theorem f_43_121 : ab_ft (ab_CM 43) 121 = some (.aload_n 0, 0, 0) := by decide +kernel
theorem f_43_122 : ab_ft (ab_CM 43) 122 = some (.getfield 452, 19, 287) := by decide +kernel
theorem f_43_125 : ab_ft (ab_CM 43) 125 = some (.sipush 999, 0, 0) := by decide +kernel
theorem ks_999 : (Int16.ofInt (999)).toInt32 = nI 999 := by decide +kernel
theorem f_43_128 : ab_ft (ab_CM 43) 128 = some (.if_icmp .le 136, 0, 0) := by decide +kernel
theorem f_43_131 : ab_ft (ab_CM 43) 131 = some (.bipush (-2), 0, 0) := by decide +kernel
theorem kb_m2 : (Int8.ofInt (-2)).toInt32 = -2 := by decide +kernel
theorem f_43_133 : ab_ft (ab_CM 43) 133 = some (.goto 138, 0, 0) := by decide +kernel
theorem f_43_136 : ab_ft (ab_CM 43) 136 = some (.bipush 48, 0, 0) := by decide +kernel
theorem f_43_138 : ab_ft (ab_CM 43) 138 = some (.putfield 4546, 13, 283) := by decide +kernel
theorem f_43_141 : ab_ft (ab_CM 43) 141 = some (.return_, 0, 0) := by decide +kernel
theorem my_43_44 : sg_may 1 43 44 = true := by decide +kernel
theorem my_43_39 : sg_may 0 43 39 = true := by decide +kernel
theorem mr_43 : ab_MR 43 = (7, 0, 0, 2, 0, 1, 21) := by decide +kernel
theorem rk_43 : (ab_MR 43).2.2.2.2.1 = 0 := by decide +kernel
theorem rm_43 : (Nat.ble 1 (ab_MR 43).2.2.2.2.2.1 && Nat.ble 21 (ab_MR 43).2.2.2.2.2.2) = true := by decide +kernel
theorem f_44_0 : ab_ft (ab_CM 44) 0 = some (.iload_n 0, 0, 0) := by decide +kernel
theorem f_44_1 : ab_ft (ab_CM 44) 1 = some (.bipush 48, 0, 0) := by decide +kernel
theorem f_44_3 : ab_ft (ab_CM 44) 3 = some (.if_icmp .lt 16, 0, 0) := by decide +kernel
theorem f_44_6 : ab_ft (ab_CM 44) 6 = some (.iload_n 0, 0, 0) := by decide +kernel
theorem f_44_7 : ab_ft (ab_CM 44) 7 = some (.bipush 57, 0, 0) := by decide +kernel
theorem kb_57 : (Int8.ofInt (57)).toInt32 = nI 57 := by decide +kernel
theorem f_44_9 : ab_ft (ab_CM 44) 9 = some (.if_icmp .gt 16, 0, 0) := by decide +kernel
theorem f_44_12 : ab_ft (ab_CM 44) 12 = some (.iconst 1, 0, 0) := by decide +kernel
theorem f_44_13 : ab_ft (ab_CM 44) 13 = some (.goto 17, 0, 0) := by decide +kernel
theorem f_44_16 : ab_ft (ab_CM 44) 16 = some (.iconst 0, 0, 0) := by decide +kernel
theorem f_44_17 : ab_ft (ab_CM 44) 17 = some (.ireturn, 0, 0) := by decide +kernel
theorem mr_44 : ab_MR 44 = (7, 1, 1, 1, 2, 0, 0) := by decide +kernel
theorem rk_44 : (ab_MR 44).2.2.2.2.1 = 2 := by decide +kernel
theorem f_45_0 : ab_ft (ab_CM 45) 0 = some (.iload_n 0, 0, 0) := by decide +kernel
theorem f_45_1 : ab_ft (ab_CM 45) 1 = some (.lookupswitch 54 #[(45, 52), (59, 52), (97, 52), (98, 52), (115, 52)], 51, 0) := by decide +kernel
theorem f_45_52 : ab_ft (ab_CM 45) 52 = some (.iload_n 0, 0, 0) := by decide +kernel
theorem f_45_53 : ab_ft (ab_CM 45) 53 = some (.ireturn, 0, 0) := by decide +kernel
theorem f_45_54 : ab_ft (ab_CM 45) 54 = some (.bipush (-2), 0, 0) := by decide +kernel
theorem f_45_56 : ab_ft (ab_CM 45) 56 = some (.ireturn, 0, 0) := by decide +kernel
theorem mr_45 : ab_MR 45 = (7, 1, 1, 1, 1, 0, 0) := by decide +kernel
theorem rk_45 : (ab_MR 45).2.2.2.2.1 = 1 := by decide +kernel
theorem f_47_0 : ab_ft (ab_CM 47) 0 = some (.aload_n 0, 0, 0) := by decide +kernel
theorem f_47_1 : ab_ft (ab_CM 47) 1 = some (.iconst 0, 0, 0) := by decide +kernel
theorem f_47_2 : ab_ft (ab_CM 47) 2 = some (.putfield 4611, 15, 237) := by decide +kernel
theorem f_47_5 : ab_ft (ab_CM 47) 5 = some (.aload_n 0, 0, 0) := by decide +kernel
theorem f_47_6 : ab_ft (ab_CM 47) 6 = some (.iconst 0, 0, 0) := by decide +kernel
theorem f_47_7 : ab_ft (ab_CM 47) 7 = some (.putfield 4612, 19, 238) := by decide +kernel
theorem f_47_10 : ab_ft (ab_CM 47) 10 = some (.iconst 0, 0, 0) := by decide +kernel
theorem f_47_11 : ab_ft (ab_CM 47) 11 = some (.istore_n 1, 0, 0) := by decide +kernel
theorem f_47_12 : ab_ft (ab_CM 47) 12 = some (.iload_n 1, 0, 0) := by decide +kernel
theorem f_47_13 : ab_ft (ab_CM 47) 13 = some (.aload_n 0, 0, 0) := by decide +kernel
theorem f_47_14 : ab_ft (ab_CM 47) 14 = some (.getfield 513, 26, 235) := by decide +kernel
theorem f_47_17 : ab_ft (ab_CM 47) 17 = some (.getfield 385, 30, 220) := by decide +kernel
theorem f_47_20 : ab_ft (ab_CM 47) 20 = some (.if_icmp .ge 57, 0, 0) := by decide +kernel
theorem f_47_23 : ab_ft (ab_CM 47) 23 = some (.aload_n 0, 0, 0) := by decide +kernel
theorem f_47_24 : ab_ft (ab_CM 47) 24 = some (.getfield 513, 26, 235) := by decide +kernel
theorem f_47_27 : ab_ft (ab_CM 47) 27 = some (.iload_n 1, 0, 0) := by decide +kernel
theorem f_47_28 : ab_ft (ab_CM 47) 28 = some (.invokevirtual 39, 35, 434) := by decide +kernel
theorem f_47_31 : ab_ft (ab_CM 47) 31 = some (.istore_n 2, 0, 0) := by decide +kernel
theorem f_47_32 : ab_ft (ab_CM 47) 32 = some (.iload_n 2, 0, 0) := by decide +kernel
theorem f_47_33 : ab_ft (ab_CM 47) 33 = some (.bipush 32, 0, 0) := by decide +kernel
theorem f_47_35 : ab_ft (ab_CM 47) 35 = some (.if_icmp .eq 51, 0, 0) := by decide +kernel
theorem f_47_38 : ab_ft (ab_CM 47) 38 = some (.aload_n 0, 0, 0) := by decide +kernel
theorem f_47_39 : ab_ft (ab_CM 47) 39 = some (.iload_n 2, 0, 0) := by decide +kernel
theorem f_47_40 : ab_ft (ab_CM 47) 40 = some (.invokevirtual 49, 39, 438) := by decide +kernel
theorem f_47_43 : ab_ft (ab_CM 47) 43 = some (.ifCond .ne 51, 0, 0) := by decide +kernel
theorem f_47_46 : ab_ft (ab_CM 47) 46 = some (.bipush (-10), 0, 0) := by decide +kernel
theorem f_47_48 : ab_ft (ab_CM 47) 48 = some (.iload_n 1, 0, 0) := by decide +kernel
theorem f_47_49 : ab_ft (ab_CM 47) 49 = some (.isub, 0, 0) := by decide +kernel
theorem f_47_50 : ab_ft (ab_CM 47) 50 = some (.ireturn, 0, 0) := by decide +kernel
theorem f_47_51 : ab_ft (ab_CM 47) 51 = some (.iinc 1 1, 0, 0) := by decide +kernel
theorem f_47_54 : ab_ft (ab_CM 47) 54 = some (.goto 12, 0, 0) := by decide +kernel
theorem f_47_57 : ab_ft (ab_CM 47) 57 = some (.aload_n 0, 0, 0) := by decide +kernel
theorem f_47_58 : ab_ft (ab_CM 47) 58 = some (.invokevirtual 48, 43, 442) := by decide +kernel
theorem f_47_61 : ab_ft (ab_CM 47) 61 = some (.ifCond .eq 73, 0, 0) := by decide +kernel
theorem f_47_64 : ab_ft (ab_CM 47) 64 = some (.aload_n 0, 0, 0) := by decide +kernel
theorem f_47_65 : ab_ft (ab_CM 47) 65 = some (.getfield 514, 9, 236) := by decide +kernel
theorem f_47_68 : ab_ft (ab_CM 47) 68 = some (.iconst 0, 0, 0) := by decide +kernel
theorem f_47_69 : ab_ft (ab_CM 47) 69 = some (.iaload, 0, 0) := by decide +kernel
theorem f_47_70 : ab_ft (ab_CM 47) 70 = some (.goto 83, 0, 0) := by decide +kernel
theorem f_47_73 : ab_ft (ab_CM 47) 73 = some (.bipush (-10), 0, 0) := by decide +kernel
theorem f_47_75 : ab_ft (ab_CM 47) 75 = some (.aload_n 0, 0, 0) := by decide +kernel
theorem f_47_76 : ab_ft (ab_CM 47) 76 = some (.getfield 513, 26, 235) := by decide +kernel
theorem f_47_79 : ab_ft (ab_CM 47) 79 = some (.getfield 385, 30, 220) := by decide +kernel
theorem f_47_82 : ab_ft (ab_CM 47) 82 = some (.isub, 0, 0) := by decide +kernel
theorem f_47_83 : ab_ft (ab_CM 47) 83 = some (.ireturn, 0, 0) := by decide +kernel
theorem my_47_48 : sg_may 0 47 48 = true := by decide +kernel
theorem my_47_49 : sg_may 0 47 49 = true := by decide +kernel
theorem my_47_39 : sg_may 0 47 39 = true := by decide +kernel
theorem mr_47 : ab_MR 47 = (8, 0, 0, 3, 1, 3, 63) := by decide +kernel
theorem rk_47 : (ab_MR 47).2.2.2.2.1 = 1 := by decide +kernel
theorem f_48_0 : ab_ft (ab_CM 48) 0 = some (.aload_n 0, 0, 0) := by decide +kernel
theorem f_48_1 : ab_ft (ab_CM 48) 1 = some (.getfield 516, 19, 238) := by decide +kernel
theorem f_48_4 : ab_ft (ab_CM 48) 4 = some (.ifCond .le 18, 0, 0) := by decide +kernel
theorem f_48_7 : ab_ft (ab_CM 48) 7 = some (.aload_n 0, 0, 0) := by decide +kernel
theorem f_48_8 : ab_ft (ab_CM 48) 8 = some (.getfield 515, 15, 237) := by decide +kernel
theorem f_48_11 : ab_ft (ab_CM 48) 11 = some (.ifCond .ne 18, 0, 0) := by decide +kernel
theorem f_48_14 : ab_ft (ab_CM 48) 14 = some (.iconst 1, 0, 0) := by decide +kernel
theorem f_48_15 : ab_ft (ab_CM 48) 15 = some (.goto 19, 0, 0) := by decide +kernel
theorem f_48_18 : ab_ft (ab_CM 48) 18 = some (.iconst 0, 0, 0) := by decide +kernel
theorem f_48_19 : ab_ft (ab_CM 48) 19 = some (.ireturn, 0, 0) := by decide +kernel
theorem mr_48 : ab_MR 48 = (8, 0, 0, 1, 2, 0, 0) := by decide +kernel
theorem rk_48 : (ab_MR 48).2.2.2.2.1 = 2 := by decide +kernel
theorem f_49_0 : ab_ft (ab_CM 49) 0 = some (.iload_n 1, 0, 0) := by decide +kernel
theorem f_49_1 : ab_ft (ab_CM 49) 1 = some (.bipush 40, 0, 0) := by decide +kernel
theorem kb_40 : (Int8.ofInt (40)).toInt32 = nI 40 := by decide +kernel
theorem f_49_3 : ab_ft (ab_CM 49) 3 = some (.if_icmp .ne 53, 0, 0) := by decide +kernel
theorem f_49_6 : ab_ft (ab_CM 49) 6 = some (.aload_n 0, 0, 0) := by decide +kernel
theorem f_49_7 : ab_ft (ab_CM 49) 7 = some (.getfield 516, 19, 238) := by decide +kernel
theorem f_49_10 : ab_ft (ab_CM 49) 10 = some (.iconst 5, 0, 0) := by decide +kernel
theorem f_49_11 : ab_ft (ab_CM 49) 11 = some (.if_icmp .ge 53, 0, 0) := by decide +kernel
theorem f_49_14 : ab_ft (ab_CM 49) 14 = some (.aload_n 0, 0, 0) := by decide +kernel
theorem f_49_15 : ab_ft (ab_CM 49) 15 = some (.invokevirtual 48, 43, 442) := by decide +kernel
theorem f_49_18 : ab_ft (ab_CM 49) 18 = some (.ifCond .ne 53, 0, 0) := by decide +kernel
theorem f_49_21 : ab_ft (ab_CM 49) 21 = some (.aload_n 0, 0, 0) := by decide +kernel
theorem f_49_22 : ab_ft (ab_CM 49) 22 = some (.getfield 514, 9, 236) := by decide +kernel
theorem f_49_25 : ab_ft (ab_CM 49) 25 = some (.aload_n 0, 0, 0) := by decide +kernel
theorem f_49_26 : ab_ft (ab_CM 49) 26 = some (.getfield 515, 15, 237) := by decide +kernel
theorem f_49_29 : ab_ft (ab_CM 49) 29 = some (.iconst 0, 0, 0) := by decide +kernel
theorem f_49_30 : ab_ft (ab_CM 49) 30 = some (.iastore, 0, 0) := by decide +kernel
theorem f_49_31 : ab_ft (ab_CM 49) 31 = some (.aload_n 0, 0, 0) := by decide +kernel
theorem f_49_32 : ab_ft (ab_CM 49) 32 = some (.dup, 0, 0) := by decide +kernel
theorem f_49_33 : ab_ft (ab_CM 49) 33 = some (.getfield 515, 15, 237) := by decide +kernel
theorem f_49_36 : ab_ft (ab_CM 49) 36 = some (.iconst 1, 0, 0) := by decide +kernel
theorem f_49_37 : ab_ft (ab_CM 49) 37 = some (.iadd, 0, 0) := by decide +kernel
theorem f_49_38 : ab_ft (ab_CM 49) 38 = some (.putfield 4611, 15, 237) := by decide +kernel
theorem f_49_41 : ab_ft (ab_CM 49) 41 = some (.aload_n 0, 0, 0) := by decide +kernel
theorem f_49_42 : ab_ft (ab_CM 49) 42 = some (.dup, 0, 0) := by decide +kernel
theorem f_49_43 : ab_ft (ab_CM 49) 43 = some (.getfield 516, 19, 238) := by decide +kernel
theorem f_49_46 : ab_ft (ab_CM 49) 46 = some (.iconst 1, 0, 0) := by decide +kernel
theorem f_49_47 : ab_ft (ab_CM 49) 47 = some (.iadd, 0, 0) := by decide +kernel
theorem f_49_48 : ab_ft (ab_CM 49) 48 = some (.putfield 4612, 19, 238) := by decide +kernel
theorem f_49_51 : ab_ft (ab_CM 49) 51 = some (.iconst 1, 0, 0) := by decide +kernel
theorem f_49_52 : ab_ft (ab_CM 49) 52 = some (.ireturn, 0, 0) := by decide +kernel
theorem f_49_53 : ab_ft (ab_CM 49) 53 = some (.iload_n 1, 0, 0) := by decide +kernel
theorem f_49_54 : ab_ft (ab_CM 49) 54 = some (.bipush 41, 0, 0) := by decide +kernel
theorem kb_41 : (Int8.ofInt (41)).toInt32 = nI 41 := by decide +kernel
theorem f_49_56 : ab_ft (ab_CM 49) 56 = some (.if_icmp .ne 123, 0, 0) := by decide +kernel
theorem f_49_59 : ab_ft (ab_CM 49) 59 = some (.aload_n 0, 0, 0) := by decide +kernel
theorem f_49_60 : ab_ft (ab_CM 49) 60 = some (.getfield 515, 15, 237) := by decide +kernel
theorem f_49_63 : ab_ft (ab_CM 49) 63 = some (.ifCond .le 123, 0, 0) := by decide +kernel
theorem f_49_66 : ab_ft (ab_CM 49) 66 = some (.aload_n 0, 0, 0) := by decide +kernel
theorem f_49_67 : ab_ft (ab_CM 49) 67 = some (.dup, 0, 0) := by decide +kernel
theorem f_49_68 : ab_ft (ab_CM 49) 68 = some (.getfield 515, 15, 237) := by decide +kernel
theorem f_49_71 : ab_ft (ab_CM 49) 71 = some (.iconst 1, 0, 0) := by decide +kernel
theorem f_49_72 : ab_ft (ab_CM 49) 72 = some (.isub, 0, 0) := by decide +kernel
theorem f_49_73 : ab_ft (ab_CM 49) 73 = some (.putfield 4611, 15, 237) := by decide +kernel
theorem f_49_76 : ab_ft (ab_CM 49) 76 = some (.aload_n 0, 0, 0) := by decide +kernel
theorem f_49_77 : ab_ft (ab_CM 49) 77 = some (.getfield 515, 15, 237) := by decide +kernel
theorem f_49_80 : ab_ft (ab_CM 49) 80 = some (.ifCond .le 121, 0, 0) := by decide +kernel
theorem f_49_83 : ab_ft (ab_CM 49) 83 = some (.aload_n 0, 0, 0) := by decide +kernel
theorem f_49_84 : ab_ft (ab_CM 49) 84 = some (.getfield 514, 9, 236) := by decide +kernel
theorem f_49_87 : ab_ft (ab_CM 49) 87 = some (.aload_n 0, 0, 0) := by decide +kernel
theorem f_49_88 : ab_ft (ab_CM 49) 88 = some (.getfield 515, 15, 237) := by decide +kernel
theorem f_49_91 : ab_ft (ab_CM 49) 91 = some (.iconst 1, 0, 0) := by decide +kernel
theorem f_49_92 : ab_ft (ab_CM 49) 92 = some (.isub, 0, 0) := by decide +kernel
theorem f_49_93 : ab_ft (ab_CM 49) 93 = some (.aload_n 0, 0, 0) := by decide +kernel
theorem f_49_94 : ab_ft (ab_CM 49) 94 = some (.getfield 512, 22, 234) := by decide +kernel
theorem f_49_97 : ab_ft (ab_CM 49) 97 = some (.aload_n 0, 0, 0) := by decide +kernel
theorem f_49_98 : ab_ft (ab_CM 49) 98 = some (.getfield 514, 9, 236) := by decide +kernel
theorem f_49_101 : ab_ft (ab_CM 49) 101 = some (.aload_n 0, 0, 0) := by decide +kernel
theorem f_49_102 : ab_ft (ab_CM 49) 102 = some (.getfield 515, 15, 237) := by decide +kernel
theorem f_49_105 : ab_ft (ab_CM 49) 105 = some (.iconst 1, 0, 0) := by decide +kernel
theorem f_49_106 : ab_ft (ab_CM 49) 106 = some (.isub, 0, 0) := by decide +kernel
theorem f_49_107 : ab_ft (ab_CM 49) 107 = some (.iaload, 0, 0) := by decide +kernel
theorem f_49_108 : ab_ft (ab_CM 49) 108 = some (.aload_n 0, 0, 0) := by decide +kernel
theorem f_49_109 : ab_ft (ab_CM 49) 109 = some (.getfield 514, 9, 236) := by decide +kernel
theorem f_49_112 : ab_ft (ab_CM 49) 112 = some (.aload_n 0, 0, 0) := by decide +kernel
theorem f_49_113 : ab_ft (ab_CM 49) 113 = some (.getfield 515, 15, 237) := by decide +kernel
theorem f_49_116 : ab_ft (ab_CM 49) 116 = some (.iaload, 0, 0) := by decide +kernel
theorem f_49_117 : ab_ft (ab_CM 49) 117 = some (.invokevirtual 55, 47, 446) := by decide +kernel
theorem f_49_120 : ab_ft (ab_CM 49) 120 = some (.iastore, 0, 0) := by decide +kernel
theorem f_49_121 : ab_ft (ab_CM 49) 121 = some (.iconst 1, 0, 0) := by decide +kernel
theorem f_49_122 : ab_ft (ab_CM 49) 122 = some (.ireturn, 0, 0) := by decide +kernel
theorem f_49_123 : ab_ft (ab_CM 49) 123 = some (.iconst 0, 0, 0) := by decide +kernel
theorem f_49_124 : ab_ft (ab_CM 49) 124 = some (.ireturn, 0, 0) := by decide +kernel
theorem my_49_48 : sg_may 0 49 48 = true := by decide +kernel
theorem my_49_55 : sg_may 0 49 55 = true := by decide +kernel
theorem mr_49 : ab_MR 49 = (8, 0, 1, 2, 2, 2, 42) := by decide +kernel
theorem rk_49 : (ab_MR 49).2.2.2.2.1 = 2 := by decide +kernel
theorem f_55_0 : ab_ft (ab_CM 55) 0 = some (.iload_n 1, 0, 0) := by decide +kernel
theorem f_55_1 : ab_ft (ab_CM 55) 1 = some (.invokestatic 94, 81, 115) := by decide +kernel
theorem f_55_4 : ab_ft (ab_CM 55) 4 = some (.ifCond .eq 25, 0, 0) := by decide +kernel
theorem f_55_7 : ab_ft (ab_CM 55) 7 = some (.iload_n 2, 0, 0) := by decide +kernel
theorem f_55_8 : ab_ft (ab_CM 55) 8 = some (.invokestatic 94, 81, 115) := by decide +kernel
theorem f_55_11 : ab_ft (ab_CM 55) 11 = some (.ifCond .eq 25, 0, 0) := by decide +kernel
theorem f_55_14 : ab_ft (ab_CM 55) 14 = some (.aload_n 0, 0, 0) := by decide +kernel
theorem f_55_15 : ab_ft (ab_CM 55) 15 = some (.getfield 583, 36, 132) := by decide +kernel
theorem f_55_18 : ab_ft (ab_CM 55) 18 = some (.iload_n 1, 0, 0) := by decide +kernel
theorem f_55_19 : ab_ft (ab_CM 55) 19 = some (.aaload, 0, 0) := by decide +kernel
theorem f_55_20 : ab_ft (ab_CM 55) 20 = some (.iload_n 2, 0, 0) := by decide +kernel
theorem f_55_21 : ab_ft (ab_CM 55) 21 = some (.iaload, 0, 0) := by decide +kernel
theorem f_55_22 : ab_ft (ab_CM 55) 22 = some (.goto 27, 0, 0) := by decide +kernel
theorem f_55_25 : ab_ft (ab_CM 55) 25 = some (.bipush (-9), 0, 0) := by decide +kernel
theorem f_55_27 : ab_ft (ab_CM 55) 27 = some (.ireturn, 0, 0) := by decide +kernel
theorem my_55_94 : sg_may 1 55 94 = true := by decide +kernel
theorem mr_55 : ab_MR 55 = (9, 0, 2, 3, 1, 1, 20) := by decide +kernel
theorem rk_55 : (ab_MR 55).2.2.2.2.1 = 1 := by decide +kernel
theorem f_56_0 : ab_ft (ab_CM 56) 0 = some (.iload_n 1, 0, 0) := by decide +kernel
theorem f_56_1 : ab_ft (ab_CM 56) 1 = some (.istore_n 3, 0, 0) := by decide +kernel
theorem f_56_2 : ab_ft (ab_CM 56) 2 = some (.iconst 0, 0, 0) := by decide +kernel
theorem f_56_3 : ab_ft (ab_CM 56) 3 = some (.istore 4, 0, 0) := by decide +kernel
theorem f_56_5 : ab_ft (ab_CM 56) 5 = some (.iload 4, 0, 0) := by decide +kernel
theorem f_56_7 : ab_ft (ab_CM 56) 7 = some (.iload_n 2, 0, 0) := by decide +kernel
theorem f_56_8 : ab_ft (ab_CM 56) 8 = some (.if_icmp .ge 27, 0, 0) := by decide +kernel
theorem f_56_11 : ab_ft (ab_CM 56) 11 = some (.iload_n 3, 0, 0) := by decide +kernel
theorem f_56_12 : ab_ft (ab_CM 56) 12 = some (.ifCond .le 27, 0, 0) := by decide +kernel
theorem f_56_15 : ab_ft (ab_CM 56) 15 = some (.getstatic 1, 54, 85) := by decide +kernel
theorem f_56_18 : ab_ft (ab_CM 56) 18 = some (.iload_n 3, 0, 0) := by decide +kernel
theorem f_56_19 : ab_ft (ab_CM 56) 19 = some (.iaload, 0, 0) := by decide +kernel
theorem f_56_20 : ab_ft (ab_CM 56) 20 = some (.istore_n 3, 0, 0) := by decide +kernel
theorem f_56_21 : ab_ft (ab_CM 56) 21 = some (.iinc 4 1, 0, 0) := by decide +kernel
theorem f_56_24 : ab_ft (ab_CM 56) 24 = some (.goto 5, 0, 0) := by decide +kernel
theorem f_56_27 : ab_ft (ab_CM 56) 27 = some (.getstatic 0, 51, 83) := by decide +kernel
theorem f_56_30 : ab_ft (ab_CM 56) 30 = some (.iload_n 3, 0, 0) := by decide +kernel
theorem f_56_31 : ab_ft (ab_CM 56) 31 = some (.iaload, 0, 0) := by decide +kernel
theorem f_56_32 : ab_ft (ab_CM 56) 32 = some (.ireturn, 0, 0) := by decide +kernel
theorem mr_56 : ab_MR 56 = (9, 0, 2, 5, 1, 0, 0) := by decide +kernel
theorem rk_56 : (ab_MR 56).2.2.2.2.1 = 1 := by decide +kernel
theorem f_57_0 : ab_ft (ab_CM 57) 0 = some (.iconst 0, 0, 0) := by decide +kernel
theorem f_57_1 : ab_ft (ab_CM 57) 1 = some (.istore 4, 0, 0) := by decide +kernel
theorem f_57_3 : ab_ft (ab_CM 57) 3 = some (.iload 4, 0, 0) := by decide +kernel
theorem f_57_5 : ab_ft (ab_CM 57) 5 = some (.bipush 17, 0, 0) := by decide +kernel
theorem f_57_7 : ab_ft (ab_CM 57) 7 = some (.if_icmp .ge 37, 0, 0) := by decide +kernel
theorem f_57_10 : ab_ft (ab_CM 57) 10 = some (.aload_n 3, 0, 0) := by decide +kernel
theorem f_57_11 : ab_ft (ab_CM 57) 11 = some (.iload 4, 0, 0) := by decide +kernel
theorem f_57_13 : ab_ft (ab_CM 57) 13 = some (.aload_n 1, 0, 0) := by decide +kernel
theorem f_57_14 : ab_ft (ab_CM 57) 14 = some (.iload 4, 0, 0) := by decide +kernel
theorem f_57_16 : ab_ft (ab_CM 57) 16 = some (.laload, 0, 0) := by decide +kernel
theorem f_57_17 : ab_ft (ab_CM 57) 17 = some (.iload_n 2, 0, 0) := by decide +kernel
theorem f_57_18 : ab_ft (ab_CM 57) 18 = some (.i2l, 0, 0) := by decide +kernel
theorem f_57_19 : ab_ft (ab_CM 57) 19 = some (.aload_n 0, 0, 0) := by decide +kernel
theorem f_57_20 : ab_ft (ab_CM 57) 20 = some (.getfield 576, 9, 118) := by decide +kernel
theorem f_57_23 : ab_ft (ab_CM 57) 23 = some (.iload 4, 0, 0) := by decide +kernel
theorem f_57_25 : ab_ft (ab_CM 57) 25 = some (.iaload, 0, 0) := by decide +kernel
theorem f_57_26 : ab_ft (ab_CM 57) 26 = some (.invokestatic 61, 68, 97) := by decide +kernel
theorem f_57_29 : ab_ft (ab_CM 57) 29 = some (.lmul, 0, 0) := by decide +kernel
theorem f_57_30 : ab_ft (ab_CM 57) 30 = some (.lastore, 0, 0) := by decide +kernel
theorem f_57_31 : ab_ft (ab_CM 57) 31 = some (.iinc 4 1, 0, 0) := by decide +kernel
theorem f_57_34 : ab_ft (ab_CM 57) 34 = some (.goto 3, 0, 0) := by decide +kernel
theorem f_57_37 : ab_ft (ab_CM 57) 37 = some (.return_, 0, 0) := by decide +kernel
theorem my_57_61 : sg_may 1 57 61 = true := by decide +kernel
theorem mr_57 : ab_MR 57 = (9, 0, 3, 5, 0, 1, 25) := by decide +kernel
theorem rk_57 : (ab_MR 57).2.2.2.2.1 = 0 := by decide +kernel
theorem f_58_0 : ab_ft (ab_CM 58) 0 = some (.iconst 0, 0, 0) := by decide +kernel
theorem f_58_1 : ab_ft (ab_CM 58) 1 = some (.istore_n 3, 0, 0) := by decide +kernel
theorem f_58_2 : ab_ft (ab_CM 58) 2 = some (.iload_n 3, 0, 0) := by decide +kernel
theorem f_58_3 : ab_ft (ab_CM 58) 3 = some (.bipush 17, 0, 0) := by decide +kernel
theorem f_58_5 : ab_ft (ab_CM 58) 5 = some (.if_icmp .ge 26, 0, 0) := by decide +kernel
theorem f_58_8 : ab_ft (ab_CM 58) 8 = some (.aload_n 1, 0, 0) := by decide +kernel
theorem f_58_9 : ab_ft (ab_CM 58) 9 = some (.iload_n 3, 0, 0) := by decide +kernel
theorem f_58_10 : ab_ft (ab_CM 58) 10 = some (.laload, 0, 0) := by decide +kernel
theorem f_58_11 : ab_ft (ab_CM 58) 11 = some (.aload_n 2, 0, 0) := by decide +kernel
theorem f_58_12 : ab_ft (ab_CM 58) 12 = some (.iload_n 3, 0, 0) := by decide +kernel
theorem f_58_13 : ab_ft (ab_CM 58) 13 = some (.laload, 0, 0) := by decide +kernel
theorem f_58_14 : ab_ft (ab_CM 58) 14 = some (.lcmp, 0, 0) := by decide +kernel
theorem f_58_15 : ab_ft (ab_CM 58) 15 = some (.ifCond .eq 20, 0, 0) := by decide +kernel
theorem f_58_18 : ab_ft (ab_CM 58) 18 = some (.iload_n 3, 0, 0) := by decide +kernel
theorem f_58_19 : ab_ft (ab_CM 58) 19 = some (.ireturn, 0, 0) := by decide +kernel
theorem f_58_20 : ab_ft (ab_CM 58) 20 = some (.iinc 3 1, 0, 0) := by decide +kernel
theorem f_58_23 : ab_ft (ab_CM 58) 23 = some (.goto 2, 0, 0) := by decide +kernel
theorem f_58_26 : ab_ft (ab_CM 58) 26 = some (.bipush (-9), 0, 0) := by decide +kernel
theorem f_58_28 : ab_ft (ab_CM 58) 28 = some (.ireturn, 0, 0) := by decide +kernel
theorem mr_58 : ab_MR 58 = (9, 0, 2, 4, 1, 0, 0) := by decide +kernel
theorem rk_58 : (ab_MR 58).2.2.2.2.1 = 1 := by decide +kernel
theorem f_59_0 : ab_ft (ab_CM 59) 0 = some (.aload_n 0, 0, 0) := by decide +kernel
theorem f_59_1 : ab_ft (ab_CM 59) 1 = some (.aload_n 1, 0, 0) := by decide +kernel
theorem f_59_2 : ab_ft (ab_CM 59) 2 = some (.aload_n 2, 0, 0) := by decide +kernel
theorem f_59_3 : ab_ft (ab_CM 59) 3 = some (.invokevirtual 58, 85, 574) := by decide +kernel
theorem f_59_6 : ab_ft (ab_CM 59) 6 = some (.istore_n 3, 0, 0) := by decide +kernel
theorem f_59_7 : ab_ft (ab_CM 59) 7 = some (.iload_n 3, 0, 0) := by decide +kernel
theorem f_59_8 : ab_ft (ab_CM 59) 8 = some (.bipush (-9), 0, 0) := by decide +kernel
theorem f_59_10 : ab_ft (ab_CM 59) 10 = some (.if_icmp .ne 17, 0, 0) := by decide +kernel
theorem f_59_13 : ab_ft (ab_CM 59) 13 = some (.iconst 5, 0, 0) := by decide +kernel
theorem f_59_14 : ab_ft (ab_CM 59) 14 = some (.goto 25, 0, 0) := by decide +kernel
theorem f_59_17 : ab_ft (ab_CM 59) 17 = some (.aload_n 0, 0, 0) := by decide +kernel
theorem f_59_18 : ab_ft (ab_CM 59) 18 = some (.getfield 576, 9, 118) := by decide +kernel
theorem f_59_21 : ab_ft (ab_CM 59) 21 = some (.iload_n 3, 0, 0) := by decide +kernel
theorem f_59_22 : ab_ft (ab_CM 59) 22 = some (.iaload, 0, 0) := by decide +kernel
theorem f_59_23 : ab_ft (ab_CM 59) 23 = some (.iconst 1, 0, 0) := by decide +kernel
theorem f_59_24 : ab_ft (ab_CM 59) 24 = some (.isub, 0, 0) := by decide +kernel
theorem f_59_25 : ab_ft (ab_CM 59) 25 = some (.ireturn, 0, 0) := by decide +kernel
theorem my_59_58 : sg_may 0 59 58 = true := by decide +kernel
theorem mr_59 : ab_MR 59 = (9, 0, 2, 4, 1, 1, 23) := by decide +kernel
theorem rk_59 : (ab_MR 59).2.2.2.2.1 = 1 := by decide +kernel
theorem f_60_0 : ab_ft (ab_CM 60) 0 = some (.iconst 0, 0, 0) := by decide +kernel
theorem f_60_1 : ab_ft (ab_CM 60) 1 = some (.istore_n 2, 0, 0) := by decide +kernel
theorem f_60_2 : ab_ft (ab_CM 60) 2 = some (.iload_n 2, 0, 0) := by decide +kernel
theorem f_60_3 : ab_ft (ab_CM 60) 3 = some (.bipush 17, 0, 0) := by decide +kernel
theorem f_60_5 : ab_ft (ab_CM 60) 5 = some (.if_icmp .ge 89, 0, 0) := by decide +kernel
theorem f_60_8 : ab_ft (ab_CM 60) 8 = some (.iconst 0, 0, 0) := by decide +kernel
theorem f_60_9 : ab_ft (ab_CM 60) 9 = some (.istore_n 3, 0, 0) := by decide +kernel
theorem f_60_10 : ab_ft (ab_CM 60) 10 = some (.iload_n 3, 0, 0) := by decide +kernel
theorem f_60_11 : ab_ft (ab_CM 60) 11 = some (.bipush 17, 0, 0) := by decide +kernel
theorem f_60_13 : ab_ft (ab_CM 60) 13 = some (.if_icmp .ge 83, 0, 0) := by decide +kernel
theorem f_60_16 : ab_ft (ab_CM 60) 16 = some (.aload_n 0, 0, 0) := by decide +kernel
theorem f_60_17 : ab_ft (ab_CM 60) 17 = some (.getfield 583, 36, 132) := by decide +kernel
theorem f_60_20 : ab_ft (ab_CM 60) 20 = some (.iload_n 2, 0, 0) := by decide +kernel
theorem f_60_21 : ab_ft (ab_CM 60) 21 = some (.aaload, 0, 0) := by decide +kernel
theorem f_60_22 : ab_ft (ab_CM 60) 22 = some (.iload_n 3, 0, 0) := by decide +kernel
theorem f_60_23 : ab_ft (ab_CM 60) 23 = some (.iaload, 0, 0) := by decide +kernel
theorem f_60_24 : ab_ft (ab_CM 60) 24 = some (.istore 4, 0, 0) := by decide +kernel
theorem f_60_26 : ab_ft (ab_CM 60) 26 = some (.aload_n 0, 0, 0) := by decide +kernel
theorem f_60_27 : ab_ft (ab_CM 60) 27 = some (.getfield 583, 36, 132) := by decide +kernel
theorem f_60_30 : ab_ft (ab_CM 60) 30 = some (.iload_n 3, 0, 0) := by decide +kernel
theorem f_60_31 : ab_ft (ab_CM 60) 31 = some (.aaload, 0, 0) := by decide +kernel
theorem f_60_32 : ab_ft (ab_CM 60) 32 = some (.iload_n 2, 0, 0) := by decide +kernel
theorem f_60_33 : ab_ft (ab_CM 60) 33 = some (.iaload, 0, 0) := by decide +kernel
theorem f_60_34 : ab_ft (ab_CM 60) 34 = some (.istore 5, 0, 0) := by decide +kernel
theorem f_60_36 : ab_ft (ab_CM 60) 36 = some (.iload 4, 0, 0) := by decide +kernel
theorem f_60_38 : ab_ft (ab_CM 60) 38 = some (.bipush (-9), 0, 0) := by decide +kernel
theorem f_60_40 : ab_ft (ab_CM 60) 40 = some (.if_icmp .eq 77, 0, 0) := by decide +kernel
theorem f_60_43 : ab_ft (ab_CM 60) 43 = some (.iload 5, 0, 0) := by decide +kernel
theorem f_60_45 : ab_ft (ab_CM 60) 45 = some (.bipush (-9), 0, 0) := by decide +kernel
theorem f_60_47 : ab_ft (ab_CM 60) 47 = some (.if_icmp .eq 77, 0, 0) := by decide +kernel
theorem f_60_50 : ab_ft (ab_CM 60) 50 = some (.aload_n 1, 0, 0) := by decide +kernel
theorem f_60_51 : ab_ft (ab_CM 60) 51 = some (.iload 4, 0, 0) := by decide +kernel
theorem f_60_53 : ab_ft (ab_CM 60) 53 = some (.laload, 0, 0) := by decide +kernel
theorem f_60_54 : ab_ft (ab_CM 60) 54 = some (.aload_n 1, 0, 0) := by decide +kernel
theorem f_60_55 : ab_ft (ab_CM 60) 55 = some (.iload 5, 0, 0) := by decide +kernel
theorem f_60_57 : ab_ft (ab_CM 60) 57 = some (.laload, 0, 0) := by decide +kernel
theorem f_60_58 : ab_ft (ab_CM 60) 58 = some (.ladd, 0, 0) := by decide +kernel
theorem f_60_59 : ab_ft (ab_CM 60) 59 = some (.aload_n 1, 0, 0) := by decide +kernel
theorem f_60_60 : ab_ft (ab_CM 60) 60 = some (.iload_n 2, 0, 0) := by decide +kernel
theorem f_60_61 : ab_ft (ab_CM 60) 61 = some (.laload, 0, 0) := by decide +kernel
theorem f_60_62 : ab_ft (ab_CM 60) 62 = some (.aload_n 1, 0, 0) := by decide +kernel
theorem f_60_63 : ab_ft (ab_CM 60) 63 = some (.iload_n 3, 0, 0) := by decide +kernel
theorem f_60_64 : ab_ft (ab_CM 60) 64 = some (.laload, 0, 0) := by decide +kernel
theorem f_60_65 : ab_ft (ab_CM 60) 65 = some (.lmul, 0, 0) := by decide +kernel
theorem f_60_66 : ab_ft (ab_CM 60) 66 = some (.lcmp, 0, 0) := by decide +kernel
theorem f_60_67 : ab_ft (ab_CM 60) 67 = some (.ifCond .eq 77, 0, 0) := by decide +kernel
theorem f_60_70 : ab_ft (ab_CM 60) 70 = some (.bipush 17, 0, 0) := by decide +kernel
theorem f_60_72 : ab_ft (ab_CM 60) 72 = some (.iload_n 2, 0, 0) := by decide +kernel
theorem f_60_73 : ab_ft (ab_CM 60) 73 = some (.imul, 0, 0) := by decide +kernel
theorem f_60_74 : ab_ft (ab_CM 60) 74 = some (.iload_n 3, 0, 0) := by decide +kernel
theorem f_60_75 : ab_ft (ab_CM 60) 75 = some (.iadd, 0, 0) := by decide +kernel
theorem f_60_76 : ab_ft (ab_CM 60) 76 = some (.ireturn, 0, 0) := by decide +kernel
theorem f_60_77 : ab_ft (ab_CM 60) 77 = some (.iinc 3 1, 0, 0) := by decide +kernel
theorem f_60_80 : ab_ft (ab_CM 60) 80 = some (.goto 10, 0, 0) := by decide +kernel
theorem f_60_83 : ab_ft (ab_CM 60) 83 = some (.iinc 2 1, 0, 0) := by decide +kernel
theorem f_60_86 : ab_ft (ab_CM 60) 86 = some (.goto 2, 0, 0) := by decide +kernel
theorem f_60_89 : ab_ft (ab_CM 60) 89 = some (.bipush (-9), 0, 0) := by decide +kernel
theorem f_60_91 : ab_ft (ab_CM 60) 91 = some (.ireturn, 0, 0) := by decide +kernel
theorem mr_60 : ab_MR 60 = (9, 0, 1, 6, 1, 0, 0) := by decide +kernel
theorem rk_60 : (ab_MR 60).2.2.2.2.1 = 1 := by decide +kernel
theorem f_61_0 : ab_ft (ab_CM 61) 0 = some (.lconst 1, 0, 0) := by decide +kernel
theorem f_61_1 : ab_ft (ab_CM 61) 1 = some (.lstore_n 3, 0, 0) := by decide +kernel
theorem f_61_2 : ab_ft (ab_CM 61) 2 = some (.iconst 0, 0, 0) := by decide +kernel
theorem f_61_3 : ab_ft (ab_CM 61) 3 = some (.istore 5, 0, 0) := by decide +kernel
theorem f_61_5 : ab_ft (ab_CM 61) 5 = some (.iload 5, 0, 0) := by decide +kernel
theorem f_61_7 : ab_ft (ab_CM 61) 7 = some (.iload_n 2, 0, 0) := by decide +kernel
theorem f_61_8 : ab_ft (ab_CM 61) 8 = some (.if_icmp .ge 21, 0, 0) := by decide +kernel
theorem f_61_11 : ab_ft (ab_CM 61) 11 = some (.lload_n 3, 0, 0) := by decide +kernel
theorem f_61_12 : ab_ft (ab_CM 61) 12 = some (.lload_n 0, 0, 0) := by decide +kernel
theorem f_61_13 : ab_ft (ab_CM 61) 13 = some (.lmul, 0, 0) := by decide +kernel
theorem f_61_14 : ab_ft (ab_CM 61) 14 = some (.lstore_n 3, 0, 0) := by decide +kernel
theorem f_61_15 : ab_ft (ab_CM 61) 15 = some (.iinc 5 1, 0, 0) := by decide +kernel
theorem f_61_18 : ab_ft (ab_CM 61) 18 = some (.goto 5, 0, 0) := by decide +kernel
theorem f_61_21 : ab_ft (ab_CM 61) 21 = some (.lload_n 3, 0, 0) := by decide +kernel
theorem f_61_22 : ab_ft (ab_CM 61) 22 = some (.lreturn, 0, 0) := by decide +kernel
theorem mr_61 : ab_MR 61 = (9, 1, 2, 6, 3, 0, 0) := by decide +kernel
theorem rk_61 : (ab_MR 61).2.2.2.2.1 = 3 := by decide +kernel
theorem f_63_0 : ab_ft (ab_CM 63) 0 = some (.iconst 0, 0, 0) := by decide +kernel
theorem f_63_1 : ab_ft (ab_CM 63) 1 = some (.istore_n 3, 0, 0) := by decide +kernel
theorem f_63_2 : ab_ft (ab_CM 63) 2 = some (.iload_n 3, 0, 0) := by decide +kernel
theorem f_63_3 : ab_ft (ab_CM 63) 3 = some (.bipush 17, 0, 0) := by decide +kernel
theorem f_63_5 : ab_ft (ab_CM 63) 5 = some (.if_icmp .ge 113, 0, 0) := by decide +kernel
theorem f_63_8 : ab_ft (ab_CM 63) 8 = some (.lconst 0, 0, 0) := by decide +kernel
theorem f_63_9 : ab_ft (ab_CM 63) 9 = some (.lstore 4, 0, 0) := by decide +kernel
theorem f_63_11 : ab_ft (ab_CM 63) 11 = some (.iconst 0, 0, 0) := by decide +kernel
theorem f_63_12 : ab_ft (ab_CM 63) 12 = some (.istore 6, 0, 0) := by decide +kernel
theorem f_63_14 : ab_ft (ab_CM 63) 14 = some (.iload 6, 0, 0) := by decide +kernel
theorem f_63_16 : ab_ft (ab_CM 63) 16 = some (.aload_n 1, 0, 0) := by decide +kernel
theorem f_63_17 : ab_ft (ab_CM 63) 17 = some (.getfield 320, 19, 263) := by decide +kernel
theorem f_63_20 : ab_ft (ab_CM 63) 20 = some (.if_icmp .ge 96, 0, 0) := by decide +kernel
theorem f_63_23 : ab_ft (ab_CM 63) 23 = some (.aload_n 0, 0, 0) := by decide +kernel
theorem f_63_24 : ab_ft (ab_CM 63) 24 = some (.getfield 640, 11, 205) := by decide +kernel
theorem f_63_27 : ab_ft (ab_CM 63) 27 = some (.iload 6, 0, 0) := by decide +kernel
theorem f_63_29 : ab_ft (ab_CM 63) 29 = some (.aaload, 0, 0) := by decide +kernel
theorem f_63_30 : ab_ft (ab_CM 63) 30 = some (.iload_n 3, 0, 0) := by decide +kernel
theorem f_63_31 : ab_ft (ab_CM 63) 31 = some (.iload_n 3, 0, 0) := by decide +kernel
theorem f_63_32 : ab_ft (ab_CM 63) 32 = some (.ifCond .ne 39, 0, 0) := by decide +kernel
theorem f_63_35 : ab_ft (ab_CM 63) 35 = some (.lconst 1, 0, 0) := by decide +kernel
theorem f_63_36 : ab_ft (ab_CM 63) 36 = some (.goto 66, 0, 0) := by decide +kernel
theorem f_63_39 : ab_ft (ab_CM 63) 39 = some (.aload_n 0, 0, 0) := by decide +kernel
theorem f_63_40 : ab_ft (ab_CM 63) 40 = some (.getfield 641, 16, 206) := by decide +kernel
theorem f_63_43 : ab_ft (ab_CM 63) 43 = some (.iload 6, 0, 0) := by decide +kernel
theorem f_63_45 : ab_ft (ab_CM 63) 45 = some (.aaload, 0, 0) := by decide +kernel
theorem f_63_46 : ab_ft (ab_CM 63) 46 = some (.getstatic 0, 25, 558) := by decide +kernel
theorem f_63_49 : ab_ft (ab_CM 63) 49 = some (.iload_n 3, 0, 0) := by decide +kernel
theorem f_63_50 : ab_ft (ab_CM 63) 50 = some (.iaload, 0, 0) := by decide +kernel
theorem f_63_51 : ab_ft (ab_CM 63) 51 = some (.laload, 0, 0) := by decide +kernel
theorem f_63_52 : ab_ft (ab_CM 63) 52 = some (.aload_n 0, 0, 0) := by decide +kernel
theorem f_63_53 : ab_ft (ab_CM 63) 53 = some (.getfield 640, 11, 205) := by decide +kernel
theorem f_63_56 : ab_ft (ab_CM 63) 56 = some (.iload 6, 0, 0) := by decide +kernel
theorem f_63_58 : ab_ft (ab_CM 63) 58 = some (.aaload, 0, 0) := by decide +kernel
theorem f_63_59 : ab_ft (ab_CM 63) 59 = some (.getstatic 1, 31, 559) := by decide +kernel
theorem f_63_62 : ab_ft (ab_CM 63) 62 = some (.iload_n 3, 0, 0) := by decide +kernel
theorem f_63_63 : ab_ft (ab_CM 63) 63 = some (.iaload, 0, 0) := by decide +kernel
theorem f_63_64 : ab_ft (ab_CM 63) 64 = some (.laload, 0, 0) := by decide +kernel
theorem f_63_65 : ab_ft (ab_CM 63) 65 = some (.lmul, 0, 0) := by decide +kernel
theorem f_63_66 : ab_ft (ab_CM 63) 66 = some (.lastore, 0, 0) := by decide +kernel
theorem f_63_67 : ab_ft (ab_CM 63) 67 = some (.lload 4, 0, 0) := by decide +kernel
theorem f_63_69 : ab_ft (ab_CM 63) 69 = some (.aload_n 1, 0, 0) := by decide +kernel
theorem f_63_70 : ab_ft (ab_CM 63) 70 = some (.iload 6, 0, 0) := by decide +kernel
theorem f_63_72 : ab_ft (ab_CM 63) 72 = some (.iconst (-1), 0, 0) := by decide +kernel
theorem f_63_73 : ab_ft (ab_CM 63) 73 = some (.invokevirtual 34, 34, 560) := by decide +kernel
theorem f_63_76 : ab_ft (ab_CM 63) 76 = some (.i2l, 0, 0) := by decide +kernel
theorem f_63_77 : ab_ft (ab_CM 63) 77 = some (.aload_n 0, 0, 0) := by decide +kernel
theorem f_63_78 : ab_ft (ab_CM 63) 78 = some (.getfield 640, 11, 205) := by decide +kernel
theorem f_63_81 : ab_ft (ab_CM 63) 81 = some (.iload 6, 0, 0) := by decide +kernel
theorem f_63_83 : ab_ft (ab_CM 63) 83 = some (.aaload, 0, 0) := by decide +kernel
theorem f_63_84 : ab_ft (ab_CM 63) 84 = some (.iload_n 3, 0, 0) := by decide +kernel
theorem f_63_85 : ab_ft (ab_CM 63) 85 = some (.laload, 0, 0) := by decide +kernel
theorem f_63_86 : ab_ft (ab_CM 63) 86 = some (.lmul, 0, 0) := by decide +kernel
theorem f_63_87 : ab_ft (ab_CM 63) 87 = some (.ladd, 0, 0) := by decide +kernel
theorem f_63_88 : ab_ft (ab_CM 63) 88 = some (.lstore 4, 0, 0) := by decide +kernel
theorem f_63_90 : ab_ft (ab_CM 63) 90 = some (.iinc 6 1, 0, 0) := by decide +kernel
theorem f_63_93 : ab_ft (ab_CM 63) 93 = some (.goto 14, 0, 0) := by decide +kernel
theorem f_63_96 : ab_ft (ab_CM 63) 96 = some (.aload_n 2, 0, 0) := by decide +kernel
theorem f_63_97 : ab_ft (ab_CM 63) 97 = some (.iload_n 3, 0, 0) := by decide +kernel
theorem f_63_98 : ab_ft (ab_CM 63) 98 = some (.lload 4, 0, 0) := by decide +kernel
theorem f_63_100 : ab_ft (ab_CM 63) 100 = some (.lastore, 0, 0) := by decide +kernel
theorem f_63_101 : ab_ft (ab_CM 63) 101 = some (.aload_n 0, 0, 0) := by decide +kernel
theorem f_63_102 : ab_ft (ab_CM 63) 102 = some (.aload_n 1, 0, 0) := by decide +kernel
theorem f_63_103 : ab_ft (ab_CM 63) 103 = some (.iload_n 3, 0, 0) := by decide +kernel
theorem f_63_104 : ab_ft (ab_CM 63) 104 = some (.invokevirtual 64, 38, 561) := by decide +kernel
theorem f_63_107 : ab_ft (ab_CM 63) 107 = some (.iinc 3 1, 0, 0) := by decide +kernel
theorem f_63_110 : ab_ft (ab_CM 63) 110 = some (.goto 2, 0, 0) := by decide +kernel
theorem f_63_113 : ab_ft (ab_CM 63) 113 = some (.return_, 0, 0) := by decide +kernel
theorem my_63_64 : sg_may 0 63 64 = true := by decide +kernel
theorem my_63_34 : sg_may 0 63 34 = true := by decide +kernel
theorem mr_63 : ab_MR 63 = (10, 0, 2, 7, 0, 3, 70) := by decide +kernel
theorem rk_63 : (ab_MR 63).2.2.2.2.1 = 0 := by decide +kernel
theorem f_64_0 : ab_ft (ab_CM 64) 0 = some (.iconst 0, 0, 0) := by decide +kernel
theorem f_64_1 : ab_ft (ab_CM 64) 1 = some (.istore_n 3, 0, 0) := by decide +kernel
theorem f_64_2 : ab_ft (ab_CM 64) 2 = some (.iload_n 3, 0, 0) := by decide +kernel
theorem f_64_3 : ab_ft (ab_CM 64) 3 = some (.aload_n 1, 0, 0) := by decide +kernel
theorem f_64_4 : ab_ft (ab_CM 64) 4 = some (.getfield 320, 19, 263) := by decide +kernel
theorem f_64_7 : ab_ft (ab_CM 64) 7 = some (.if_icmp .ge 70, 0, 0) := by decide +kernel
theorem f_64_10 : ab_ft (ab_CM 64) 10 = some (.lconst 0, 0, 0) := by decide +kernel
theorem f_64_11 : ab_ft (ab_CM 64) 11 = some (.lstore 4, 0, 0) := by decide +kernel
theorem f_64_13 : ab_ft (ab_CM 64) 13 = some (.iconst 0, 0, 0) := by decide +kernel
theorem f_64_14 : ab_ft (ab_CM 64) 14 = some (.istore 6, 0, 0) := by decide +kernel
theorem f_64_16 : ab_ft (ab_CM 64) 16 = some (.iload 6, 0, 0) := by decide +kernel
theorem f_64_18 : ab_ft (ab_CM 64) 18 = some (.aload_n 1, 0, 0) := by decide +kernel
theorem f_64_19 : ab_ft (ab_CM 64) 19 = some (.getfield 320, 19, 263) := by decide +kernel
theorem f_64_22 : ab_ft (ab_CM 64) 22 = some (.if_icmp .ge 54, 0, 0) := by decide +kernel
theorem f_64_25 : ab_ft (ab_CM 64) 25 = some (.lload 4, 0, 0) := by decide +kernel
theorem f_64_27 : ab_ft (ab_CM 64) 27 = some (.aload_n 1, 0, 0) := by decide +kernel
theorem f_64_28 : ab_ft (ab_CM 64) 28 = some (.iload_n 3, 0, 0) := by decide +kernel
theorem f_64_29 : ab_ft (ab_CM 64) 29 = some (.iload 6, 0, 0) := by decide +kernel
theorem f_64_31 : ab_ft (ab_CM 64) 31 = some (.invokevirtual 34, 34, 560) := by decide +kernel
theorem f_64_34 : ab_ft (ab_CM 64) 34 = some (.i2l, 0, 0) := by decide +kernel
theorem f_64_35 : ab_ft (ab_CM 64) 35 = some (.aload_n 0, 0, 0) := by decide +kernel
theorem f_64_36 : ab_ft (ab_CM 64) 36 = some (.getfield 640, 11, 205) := by decide +kernel
theorem f_64_39 : ab_ft (ab_CM 64) 39 = some (.iload 6, 0, 0) := by decide +kernel
theorem f_64_41 : ab_ft (ab_CM 64) 41 = some (.aaload, 0, 0) := by decide +kernel
theorem f_64_42 : ab_ft (ab_CM 64) 42 = some (.iload_n 2, 0, 0) := by decide +kernel
theorem f_64_43 : ab_ft (ab_CM 64) 43 = some (.laload, 0, 0) := by decide +kernel
theorem f_64_44 : ab_ft (ab_CM 64) 44 = some (.lmul, 0, 0) := by decide +kernel
theorem f_64_45 : ab_ft (ab_CM 64) 45 = some (.ladd, 0, 0) := by decide +kernel
theorem f_64_46 : ab_ft (ab_CM 64) 46 = some (.lstore 4, 0, 0) := by decide +kernel
theorem f_64_48 : ab_ft (ab_CM 64) 48 = some (.iinc 6 1, 0, 0) := by decide +kernel
theorem f_64_51 : ab_ft (ab_CM 64) 51 = some (.goto 16, 0, 0) := by decide +kernel
theorem f_64_54 : ab_ft (ab_CM 64) 54 = some (.aload_n 0, 0, 0) := by decide +kernel
theorem f_64_55 : ab_ft (ab_CM 64) 55 = some (.getfield 641, 16, 206) := by decide +kernel
theorem f_64_58 : ab_ft (ab_CM 64) 58 = some (.iload_n 3, 0, 0) := by decide +kernel
theorem f_64_59 : ab_ft (ab_CM 64) 59 = some (.aaload, 0, 0) := by decide +kernel
theorem f_64_60 : ab_ft (ab_CM 64) 60 = some (.iload_n 2, 0, 0) := by decide +kernel
theorem f_64_61 : ab_ft (ab_CM 64) 61 = some (.lload 4, 0, 0) := by decide +kernel
theorem f_64_63 : ab_ft (ab_CM 64) 63 = some (.lastore, 0, 0) := by decide +kernel
theorem f_64_64 : ab_ft (ab_CM 64) 64 = some (.iinc 3 1, 0, 0) := by decide +kernel
theorem f_64_67 : ab_ft (ab_CM 64) 67 = some (.goto 2, 0, 0) := by decide +kernel
theorem f_64_70 : ab_ft (ab_CM 64) 70 = some (.return_, 0, 0) := by decide +kernel
theorem my_64_34 : sg_may 0 64 34 = true := by decide +kernel
theorem mr_64 : ab_MR 64 = (10, 0, 2, 7, 0, 2, 44) := by decide +kernel
theorem rk_64 : (ab_MR 64).2.2.2.2.1 = 0 := by decide +kernel
theorem f_66_0 : ab_ft (ab_CM 66) 0 = some (.iload_n 1, 0, 0) := by decide +kernel
theorem f_66_1 : ab_ft (ab_CM 66) 1 = some (.ifCond .lt 11, 0, 0) := by decide +kernel
theorem f_66_4 : ab_ft (ab_CM 66) 4 = some (.iload_n 1, 0, 0) := by decide +kernel
theorem f_66_5 : ab_ft (ab_CM 66) 5 = some (.sipush 255, 0, 0) := by decide +kernel
theorem ks_255 : (Int16.ofInt (255)).toInt32 = nI 255 := by decide +kernel
theorem f_66_8 : ab_ft (ab_CM 66) 8 = some (.if_icmp .le 13, 0, 0) := by decide +kernel
theorem f_66_11 : ab_ft (ab_CM 66) 11 = some (.iconst (-1), 0, 0) := by decide +kernel
theorem f_66_12 : ab_ft (ab_CM 66) 12 = some (.ireturn, 0, 0) := by decide +kernel
theorem f_66_13 : ab_ft (ab_CM 66) 13 = some (.aload_n 0, 0, 0) := by decide +kernel
theorem f_66_14 : ab_ft (ab_CM 66) 14 = some (.getfield 707, 35, 376) := by decide +kernel
theorem f_66_17 : ab_ft (ab_CM 66) 17 = some (.iload_n 1, 0, 0) := by decide +kernel
theorem f_66_18 : ab_ft (ab_CM 66) 18 = some (.invokevirtual 37, 90, 414) := by decide +kernel
theorem f_66_21 : ab_ft (ab_CM 66) 21 = some (.ifCond .eq 34, 0, 0) := by decide +kernel
theorem f_66_24 : ab_ft (ab_CM 66) 24 = some (.aload_n 0, 0, 0) := by decide +kernel
theorem f_66_25 : ab_ft (ab_CM 66) 25 = some (.getfield 707, 35, 376) := by decide +kernel
theorem f_66_28 : ab_ft (ab_CM 66) 28 = some (.getfield 385, 94, 221) := by decide +kernel
theorem f_66_31 : ab_ft (ab_CM 66) 31 = some (.goto 36, 0, 0) := by decide +kernel
theorem f_66_34 : ab_ft (ab_CM 66) 34 = some (.bipush (-3), 0, 0) := by decide +kernel
theorem kb_m3 : (Int8.ofInt (-3)).toInt32 = -3 := by decide +kernel
theorem f_66_36 : ab_ft (ab_CM 66) 36 = some (.ireturn, 0, 0) := by decide +kernel
theorem my_66_37 : sg_may 0 66 37 = true := by decide +kernel
theorem mr_66 : ab_MR 66 = (11, 0, 1, 2, 1, 1, 21) := by decide +kernel
theorem rk_66 : (ab_MR 66).2.2.2.2.1 = 1 := by decide +kernel
theorem f_67_0 : ab_ft (ab_CM 67) 0 = some (.aload_n 0, 0, 0) := by decide +kernel
theorem f_67_1 : ab_ft (ab_CM 67) 1 = some (.getfield 707, 35, 376) := by decide +kernel
theorem f_67_4 : ab_ft (ab_CM 67) 4 = some (.invokevirtual 38, 98, 422) := by decide +kernel
theorem f_67_7 : ab_ft (ab_CM 67) 7 = some (.ireturn, 0, 0) := by decide +kernel
theorem my_67_38 : sg_may 0 67 38 = true := by decide +kernel
theorem mr_67 : ab_MR 67 = (11, 0, 0, 1, 1, 1, 21) := by decide +kernel
theorem rk_67 : (ab_MR 67).2.2.2.2.1 = 1 := by decide +kernel
theorem f_68_0 : ab_ft (ab_CM 68) 0 = some (.aload_n 0, 0, 0) := by decide +kernel
theorem f_68_1 : ab_ft (ab_CM 68) 1 = some (.getfield 708, 44, 377) := by decide +kernel
theorem f_68_4 : ab_ft (ab_CM 68) 4 = some (.invokevirtual 47, 102, 430) := by decide +kernel
theorem f_68_7 : ab_ft (ab_CM 68) 7 = some (.istore_n 1, 0, 0) := by decide +kernel
theorem f_68_8 : ab_ft (ab_CM 68) 8 = some (.iload_n 1, 0, 0) := by decide +kernel
theorem f_68_9 : ab_ft (ab_CM 68) 9 = some (.ifCond .lt 20, 0, 0) := by decide +kernel
theorem f_68_12 : ab_ft (ab_CM 68) 12 = some (.aload_n 0, 0, 0) := by decide +kernel
theorem f_68_13 : ab_ft (ab_CM 68) 13 = some (.getfield 707, 35, 376) := by decide +kernel
theorem f_68_16 : ab_ft (ab_CM 68) 16 = some (.invokevirtual 38, 98, 422) := by decide +kernel
theorem f_68_19 : ab_ft (ab_CM 68) 19 = some (.pop, 0, 0) := by decide +kernel
theorem f_68_20 : ab_ft (ab_CM 68) 20 = some (.iload_n 1, 0, 0) := by decide +kernel
theorem f_68_21 : ab_ft (ab_CM 68) 21 = some (.ireturn, 0, 0) := by decide +kernel
theorem my_68_38 : sg_may 0 68 38 = true := by decide +kernel
theorem my_68_47 : sg_may 0 68 47 = true := by decide +kernel
theorem mr_68 : ab_MR 68 = (11, 0, 0, 2, 1, 4, 85) := by decide +kernel
theorem rk_68 : (ab_MR 68).2.2.2.2.1 = 1 := by decide +kernel
theorem f_69_0 : ab_ft (ab_CM 69) 0 = some (.aload_n 0, 0, 0) := by decide +kernel
theorem f_69_1 : ab_ft (ab_CM 69) 1 = some (.getfield 709, 53, 378) := by decide +kernel
theorem f_69_4 : ab_ft (ab_CM 69) 4 = some (.invokevirtual 12, 105, 451) := by decide +kernel
theorem f_69_7 : ab_ft (ab_CM 69) 7 = some (.istore_n 1, 0, 0) := by decide +kernel
theorem f_69_8 : ab_ft (ab_CM 69) 8 = some (.iload_n 1, 0, 0) := by decide +kernel
theorem f_69_9 : ab_ft (ab_CM 69) 9 = some (.ifCond .lt 48, 0, 0) := by decide +kernel
theorem f_69_12 : ab_ft (ab_CM 69) 12 = some (.aload_n 0, 0, 0) := by decide +kernel
theorem f_69_13 : ab_ft (ab_CM 69) 13 = some (.getfield 711, 67, 380) := by decide +kernel
theorem f_69_16 : ab_ft (ab_CM 69) 16 = some (.aload_n 0, 0, 0) := by decide +kernel
theorem f_69_17 : ab_ft (ab_CM 69) 17 = some (.getfield 710, 60, 379) := by decide +kernel
theorem f_69_20 : ab_ft (ab_CM 69) 20 = some (.invokevirtual 21, 106, 519) := by decide +kernel
theorem f_69_23 : ab_ft (ab_CM 69) 23 = some (.aload_n 0, 0, 0) := by decide +kernel
theorem f_69_24 : ab_ft (ab_CM 69) 24 = some (.getfield 710, 60, 379) := by decide +kernel
theorem f_69_27 : ab_ft (ab_CM 69) 27 = some (.getfield 256, 110, 327) := by decide +kernel
theorem f_69_30 : ab_ft (ab_CM 69) 30 = some (.aload_n 0, 0, 0) := by decide +kernel
theorem f_69_31 : ab_ft (ab_CM 69) 31 = some (.getfield 709, 53, 378) := by decide +kernel
theorem f_69_34 : ab_ft (ab_CM 69) 34 = some (.getfield 64, 114, 301) := by decide +kernel
theorem f_69_37 : ab_ft (ab_CM 69) 37 = some (.invokevirtual 32, 117, 536) := by decide +kernel
theorem f_69_40 : ab_ft (ab_CM 69) 40 = some (.aload_n 0, 0, 0) := by decide +kernel
theorem f_69_41 : ab_ft (ab_CM 69) 41 = some (.getfield 707, 35, 376) := by decide +kernel
theorem f_69_44 : ab_ft (ab_CM 69) 44 = some (.invokevirtual 38, 98, 422) := by decide +kernel
theorem f_69_47 : ab_ft (ab_CM 69) 47 = some (.pop, 0, 0) := by decide +kernel
theorem f_69_48 : ab_ft (ab_CM 69) 48 = some (.iload_n 1, 0, 0) := by decide +kernel
theorem f_69_49 : ab_ft (ab_CM 69) 49 = some (.ireturn, 0, 0) := by decide +kernel
theorem my_69_32 : sg_may 0 69 32 = true := by decide +kernel
theorem my_69_12 : sg_may 0 69 12 = true := by decide +kernel
theorem my_69_21 : sg_may 0 69 21 = true := by decide +kernel
theorem my_69_38 : sg_may 0 69 38 = true := by decide +kernel
theorem mr_69 : ab_MR 69 = (11, 0, 0, 2, 1, 6, 123) := by decide +kernel
theorem rk_69 : (ab_MR 69).2.2.2.2.1 = 1 := by decide +kernel
theorem f_70_0 : ab_ft (ab_CM 70) 0 = some (.aload_n 0, 0, 0) := by decide +kernel
theorem f_70_1 : ab_ft (ab_CM 70) 1 = some (.getfield 710, 60, 379) := by decide +kernel
theorem f_70_4 : ab_ft (ab_CM 70) 4 = some (.getfield 256, 110, 327) := by decide +kernel
theorem f_70_7 : ab_ft (ab_CM 70) 7 = some (.iload_n 1, 0, 0) := by decide +kernel
theorem f_70_8 : ab_ft (ab_CM 70) 8 = some (.iload_n 2, 0, 0) := by decide +kernel
theorem f_70_9 : ab_ft (ab_CM 70) 9 = some (.invokevirtual 33, 123, 541) := by decide +kernel
theorem f_70_12 : ab_ft (ab_CM 70) 12 = some (.ifCond .eq 29, 0, 0) := by decide +kernel
theorem f_70_15 : ab_ft (ab_CM 70) 15 = some (.iload_n 3, 0, 0) := by decide +kernel
theorem f_70_16 : ab_ft (ab_CM 70) 16 = some (.sipush (-600), 0, 0) := by decide +kernel
theorem ks_m600 : (Int16.ofInt (-600)).toInt32 = -600 := by decide +kernel
theorem f_70_19 : ab_ft (ab_CM 70) 19 = some (.if_icmp .lt 29, 0, 0) := by decide +kernel
theorem f_70_22 : ab_ft (ab_CM 70) 22 = some (.iload_n 3, 0, 0) := by decide +kernel
theorem f_70_23 : ab_ft (ab_CM 70) 23 = some (.sipush 600, 0, 0) := by decide +kernel
theorem f_70_26 : ab_ft (ab_CM 70) 26 = some (.if_icmp .le 33, 0, 0) := by decide +kernel
theorem f_70_29 : ab_ft (ab_CM 70) 29 = some (.sipush (-1001), 0, 0) := by decide +kernel
theorem ks_m1001 : (Int16.ofInt (-1001)).toInt32 = -1001 := by decide +kernel
theorem f_70_32 : ab_ft (ab_CM 70) 32 = some (.ireturn, 0, 0) := by decide +kernel
theorem f_70_33 : ab_ft (ab_CM 70) 33 = some (.aload_n 0, 0, 0) := by decide +kernel
theorem f_70_34 : ab_ft (ab_CM 70) 34 = some (.getfield 710, 60, 379) := by decide +kernel
theorem f_70_37 : ab_ft (ab_CM 70) 37 = some (.getfield 256, 110, 327) := by decide +kernel
theorem f_70_40 : ab_ft (ab_CM 70) 40 = some (.iload_n 1, 0, 0) := by decide +kernel
theorem f_70_41 : ab_ft (ab_CM 70) 41 = some (.iload_n 2, 0, 0) := by decide +kernel
theorem f_70_42 : ab_ft (ab_CM 70) 42 = some (.invokevirtual 34, 127, 542) := by decide +kernel
theorem f_70_45 : ab_ft (ab_CM 70) 45 = some (.istore 4, 0, 0) := by decide +kernel
theorem f_70_47 : ab_ft (ab_CM 70) 47 = some (.iload 4, 0, 0) := by decide +kernel
theorem f_70_49 : ab_ft (ab_CM 70) 49 = some (.iload_n 3, 0, 0) := by decide +kernel
theorem f_70_50 : ab_ft (ab_CM 70) 50 = some (.if_icmp .ne 57, 0, 0) := by decide +kernel
theorem f_70_53 : ab_ft (ab_CM 70) 53 = some (.sipush (-1002), 0, 0) := by decide +kernel
theorem ks_m1002 : (Int16.ofInt (-1002)).toInt32 = -1002 := by decide +kernel
theorem f_70_56 : ab_ft (ab_CM 70) 56 = some (.ireturn, 0, 0) := by decide +kernel
theorem f_70_57 : ab_ft (ab_CM 70) 57 = some (.aload_n 0, 0, 0) := by decide +kernel
theorem f_70_58 : ab_ft (ab_CM 70) 58 = some (.getfield 711, 67, 380) := by decide +kernel
theorem f_70_61 : ab_ft (ab_CM 70) 61 = some (.aload_n 0, 0, 0) := by decide +kernel
theorem f_70_62 : ab_ft (ab_CM 70) 62 = some (.getfield 710, 60, 379) := by decide +kernel
theorem f_70_65 : ab_ft (ab_CM 70) 65 = some (.invokevirtual 21, 106, 519) := by decide +kernel
theorem f_70_68 : ab_ft (ab_CM 70) 68 = some (.aload_n 0, 0, 0) := by decide +kernel
theorem f_70_69 : ab_ft (ab_CM 70) 69 = some (.getfield 710, 60, 379) := by decide +kernel
theorem f_70_72 : ab_ft (ab_CM 70) 72 = some (.getfield 256, 110, 327) := by decide +kernel
theorem f_70_75 : ab_ft (ab_CM 70) 75 = some (.iload_n 1, 0, 0) := by decide +kernel
theorem f_70_76 : ab_ft (ab_CM 70) 76 = some (.iload_n 2, 0, 0) := by decide +kernel
theorem f_70_77 : ab_ft (ab_CM 70) 77 = some (.iload_n 3, 0, 0) := by decide +kernel
theorem f_70_78 : ab_ft (ab_CM 70) 78 = some (.invokevirtual 35, 131, 546) := by decide +kernel
theorem f_70_81 : ab_ft (ab_CM 70) 81 = some (.iload 4, 0, 0) := by decide +kernel
theorem f_70_83 : ab_ft (ab_CM 70) 83 = some (.ireturn, 0, 0) := by decide +kernel
theorem my_70_33 : sg_may 0 70 33 = true := by decide +kernel
theorem my_70_34 : sg_may 0 70 34 = true := by decide +kernel
theorem my_70_35 : sg_may 0 70 35 = true := by decide +kernel
theorem my_70_21 : sg_may 0 70 21 = true := by decide +kernel
theorem mr_70 : ab_MR 70 = (11, 0, 3, 5, 1, 4, 90) := by decide +kernel
theorem rk_70 : (ab_MR 70).2.2.2.2.1 = 1 := by decide +kernel
theorem f_71_0 : ab_ft (ab_CM 71) 0 = some (.iload_n 1, 0, 0) := by decide +kernel
theorem f_71_1 : ab_ft (ab_CM 71) 1 = some (.invokestatic 95, 135, 551) := by decide +kernel
theorem f_71_4 : ab_ft (ab_CM 71) 4 = some (.ifCond .ne 9, 0, 0) := by decide +kernel
theorem f_71_7 : ab_ft (ab_CM 71) 7 = some (.iconst (-1), 0, 0) := by decide +kernel
theorem f_71_8 : ab_ft (ab_CM 71) 8 = some (.ireturn, 0, 0) := by decide +kernel
theorem f_71_9 : ab_ft (ab_CM 71) 9 = some (.aload_n 0, 0, 0) := by decide +kernel
theorem f_71_10 : ab_ft (ab_CM 71) 10 = some (.getfield 706, 28, 375) := by decide +kernel
theorem f_71_13 : ab_ft (ab_CM 71) 13 = some (.aload_n 0, 0, 0) := by decide +kernel
theorem f_71_14 : ab_ft (ab_CM 71) 14 = some (.getfield 710, 60, 379) := by decide +kernel
theorem f_71_17 : ab_ft (ab_CM 71) 17 = some (.getfield 256, 110, 327) := by decide +kernel
theorem f_71_20 : ab_ft (ab_CM 71) 20 = some (.aload_n 0, 0, 0) := by decide +kernel
theorem f_71_21 : ab_ft (ab_CM 71) 21 = some (.getfield 715, 86, 384) := by decide +kernel
theorem f_71_24 : ab_ft (ab_CM 71) 24 = some (.invokevirtual 63, 138, 554) := by decide +kernel
theorem f_71_27 : ab_ft (ab_CM 71) 27 = some (.aload_n 0, 0, 0) := by decide +kernel
theorem f_71_28 : ab_ft (ab_CM 71) 28 = some (.iload_n 1, 0, 0) := by decide +kernel
theorem f_71_29 : ab_ft (ab_CM 71) 29 = some (.invokevirtual 97, 142, 565) := by decide +kernel
theorem f_71_32 : ab_ft (ab_CM 71) 32 = some (.ireturn, 0, 0) := by decide +kernel
theorem my_71_97 : sg_may 0 71 97 = true := by decide +kernel
theorem my_71_63 : sg_may 0 71 63 = true := by decide +kernel
theorem my_71_95 : sg_may 1 71 95 = true := by decide +kernel
theorem mr_71 : ab_MR 71 = (11, 0, 1, 2, 1, 5, 111) := by decide +kernel
theorem rk_71 : (ab_MR 71).2.2.2.2.1 = 1 := by decide +kernel
theorem f_72_0 : ab_ft (ab_CM 72) 0 = some (.iload_n 1, 0, 0) := by decide +kernel
theorem f_72_1 : ab_ft (ab_CM 72) 1 = some (.invokestatic 95, 135, 551) := by decide +kernel
theorem f_72_4 : ab_ft (ab_CM 72) 4 = some (.ifCond .ne 9, 0, 0) := by decide +kernel
theorem f_72_7 : ab_ft (ab_CM 72) 7 = some (.iconst (-1), 0, 0) := by decide +kernel
theorem f_72_8 : ab_ft (ab_CM 72) 8 = some (.ireturn, 0, 0) := by decide +kernel
theorem f_72_9 : ab_ft (ab_CM 72) 9 = some (.aload_n 0, 0, 0) := by decide +kernel
theorem f_72_10 : ab_ft (ab_CM 72) 10 = some (.getfield 704, 10, 373) := by decide +kernel
theorem f_72_13 : ab_ft (ab_CM 72) 13 = some (.aload_n 0, 0, 0) := by decide +kernel
theorem f_72_14 : ab_ft (ab_CM 72) 14 = some (.getfield 710, 60, 379) := by decide +kernel
theorem f_72_17 : ab_ft (ab_CM 72) 17 = some (.getfield 257, 146, 329) := by decide +kernel
theorem f_72_20 : ab_ft (ab_CM 72) 20 = some (.iload_n 1, 0, 0) := by decide +kernel
theorem f_72_21 : ab_ft (ab_CM 72) 21 = some (.aaload, 0, 0) := by decide +kernel
theorem f_72_22 : ab_ft (ab_CM 72) 22 = some (.aload_n 0, 0, 0) := by decide +kernel
theorem f_72_23 : ab_ft (ab_CM 72) 23 = some (.getfield 704, 10, 373) := by decide +kernel
theorem f_72_26 : ab_ft (ab_CM 72) 26 = some (.getfield 582, 150, 131) := by decide +kernel
theorem f_72_29 : ab_ft (ab_CM 72) 29 = some (.invokevirtual 58, 153, 582) := by decide +kernel
theorem f_72_32 : ab_ft (ab_CM 72) 32 = some (.bipush (-9), 0, 0) := by decide +kernel
theorem f_72_34 : ab_ft (ab_CM 72) 34 = some (.if_icmp .ne 40, 0, 0) := by decide +kernel
theorem f_72_37 : ab_ft (ab_CM 72) 37 = some (.bipush (-2), 0, 0) := by decide +kernel
theorem f_72_39 : ab_ft (ab_CM 72) 39 = some (.ireturn, 0, 0) := by decide +kernel
theorem f_72_40 : ab_ft (ab_CM 72) 40 = some (.aload_n 0, 0, 0) := by decide +kernel
theorem f_72_41 : ab_ft (ab_CM 72) 41 = some (.getfield 704, 10, 373) := by decide +kernel
theorem f_72_44 : ab_ft (ab_CM 72) 44 = some (.getfield 582, 150, 131) := by decide +kernel
theorem f_72_47 : ab_ft (ab_CM 72) 47 = some (.iconst 0, 0, 0) := by decide +kernel
theorem f_72_48 : ab_ft (ab_CM 72) 48 = some (.aload_n 0, 0, 0) := by decide +kernel
theorem f_72_49 : ab_ft (ab_CM 72) 49 = some (.getfield 715, 86, 384) := by decide +kernel
theorem f_72_52 : ab_ft (ab_CM 72) 52 = some (.iconst 0, 0, 0) := by decide +kernel
theorem f_72_53 : ab_ft (ab_CM 72) 53 = some (.bipush 17, 0, 0) := by decide +kernel
theorem f_72_55 : ab_ft (ab_CM 72) 55 = some (.invokestatic 901, 157, 569) := by decide +kernel
theorem f_72_58 : ab_ft (ab_CM 72) 58 = some (.aload_n 0, 0, 0) := by decide +kernel
theorem f_72_59 : ab_ft (ab_CM 72) 59 = some (.iload_n 1, 0, 0) := by decide +kernel
theorem f_72_60 : ab_ft (ab_CM 72) 60 = some (.invokevirtual 97, 142, 565) := by decide +kernel
theorem f_72_63 : ab_ft (ab_CM 72) 63 = some (.pop, 0, 0) := by decide +kernel
theorem f_72_64 : ab_ft (ab_CM 72) 64 = some (.iconst 1, 0, 0) := by decide +kernel
theorem f_72_65 : ab_ft (ab_CM 72) 65 = some (.ireturn, 0, 0) := by decide +kernel
theorem my_72_97 : sg_may 0 72 97 = true := by decide +kernel
theorem my_72_58 : sg_may 0 72 58 = true := by decide +kernel
theorem my_72_95 : sg_may 1 72 95 = true := by decide +kernel
theorem mr_72 : ab_MR 72 = (11, 0, 1, 2, 1, 5, 111) := by decide +kernel
theorem rk_72 : (ab_MR 72).2.2.2.2.1 = 1 := by decide +kernel
theorem ra_72 : (Nat.ble 1 (ab_MR 72).2.2.2.2.2.1 && Nat.ble 26 (ab_MR 72).2.2.2.2.2.2) = true := by decide +kernel
theorem f_73_0 : ab_ft (ab_CM 73) 0 = some (.iload_n 1, 0, 0) := by decide +kernel
theorem f_73_1 : ab_ft (ab_CM 73) 1 = some (.invokestatic 95, 135, 551) := by decide +kernel
theorem f_73_4 : ab_ft (ab_CM 73) 4 = some (.ifCond .eq 21, 0, 0) := by decide +kernel
theorem f_73_7 : ab_ft (ab_CM 73) 7 = some (.iload_n 2, 0, 0) := by decide +kernel
theorem f_73_8 : ab_ft (ab_CM 73) 8 = some (.invokestatic 95, 135, 551) := by decide +kernel
theorem f_73_11 : ab_ft (ab_CM 73) 11 = some (.ifCond .eq 21, 0, 0) := by decide +kernel
theorem f_73_14 : ab_ft (ab_CM 73) 14 = some (.iload_n 3, 0, 0) := by decide +kernel
theorem f_73_15 : ab_ft (ab_CM 73) 15 = some (.invokestatic 95, 135, 551) := by decide +kernel
theorem f_73_18 : ab_ft (ab_CM 73) 18 = some (.ifCond .ne 23, 0, 0) := by decide +kernel
theorem f_73_21 : ab_ft (ab_CM 73) 21 = some (.iconst (-1), 0, 0) := by decide +kernel
theorem f_73_22 : ab_ft (ab_CM 73) 22 = some (.ireturn, 0, 0) := by decide +kernel
theorem f_73_23 : ab_ft (ab_CM 73) 23 = some (.aload_n 0, 0, 0) := by decide +kernel
theorem f_73_24 : ab_ft (ab_CM 73) 24 = some (.getfield 705, 21, 374) := by decide +kernel
theorem f_73_27 : ab_ft (ab_CM 73) 27 = some (.aload_n 0, 0, 0) := by decide +kernel
theorem f_73_28 : ab_ft (ab_CM 73) 28 = some (.getfield 710, 60, 379) := by decide +kernel
theorem f_73_31 : ab_ft (ab_CM 73) 31 = some (.getfield 257, 146, 329) := by decide +kernel
theorem f_73_34 : ab_ft (ab_CM 73) 34 = some (.iload_n 2, 0, 0) := by decide +kernel
theorem f_73_35 : ab_ft (ab_CM 73) 35 = some (.aaload, 0, 0) := by decide +kernel
theorem f_73_36 : ab_ft (ab_CM 73) 36 = some (.aload_n 0, 0, 0) := by decide +kernel
theorem f_73_37 : ab_ft (ab_CM 73) 37 = some (.getfield 710, 60, 379) := by decide +kernel
theorem f_73_40 : ab_ft (ab_CM 73) 40 = some (.getfield 257, 146, 329) := by decide +kernel
theorem f_73_43 : ab_ft (ab_CM 73) 43 = some (.iload_n 3, 0, 0) := by decide +kernel
theorem f_73_44 : ab_ft (ab_CM 73) 44 = some (.aaload, 0, 0) := by decide +kernel
theorem f_73_45 : ab_ft (ab_CM 73) 45 = some (.aload_n 0, 0, 0) := by decide +kernel
theorem f_73_46 : ab_ft (ab_CM 73) 46 = some (.getfield 715, 86, 384) := by decide +kernel
theorem f_73_49 : ab_ft (ab_CM 73) 49 = some (.invokevirtual 9, 163, 587) := by decide +kernel
theorem f_73_52 : ab_ft (ab_CM 73) 52 = some (.aload_n 0, 0, 0) := by decide +kernel
theorem f_73_53 : ab_ft (ab_CM 73) 53 = some (.iload_n 1, 0, 0) := by decide +kernel
theorem f_73_54 : ab_ft (ab_CM 73) 54 = some (.invokevirtual 97, 142, 565) := by decide +kernel
theorem f_73_57 : ab_ft (ab_CM 73) 57 = some (.ireturn, 0, 0) := by decide +kernel
theorem my_73_9 : sg_may 0 73 9 = true := by decide +kernel
theorem my_73_97 : sg_may 0 73 97 = true := by decide +kernel
theorem my_73_95 : sg_may 1 73 95 = true := by decide +kernel
theorem mr_73 : ab_MR 73 = (11, 0, 3, 4, 1, 5, 111) := by decide +kernel
theorem rk_73 : (ab_MR 73).2.2.2.2.1 = 1 := by decide +kernel
theorem f_74_0 : ab_ft (ab_CM 74) 0 = some (.iload_n 1, 0, 0) := by decide +kernel
theorem f_74_1 : ab_ft (ab_CM 74) 1 = some (.invokestatic 95, 135, 551) := by decide +kernel
theorem f_74_4 : ab_ft (ab_CM 74) 4 = some (.ifCond .eq 14, 0, 0) := by decide +kernel
theorem f_74_7 : ab_ft (ab_CM 74) 7 = some (.iload_n 2, 0, 0) := by decide +kernel
theorem f_74_8 : ab_ft (ab_CM 74) 8 = some (.invokestatic 95, 135, 551) := by decide +kernel
theorem f_74_11 : ab_ft (ab_CM 74) 11 = some (.ifCond .ne 16, 0, 0) := by decide +kernel
theorem f_74_14 : ab_ft (ab_CM 74) 14 = some (.iconst (-1), 0, 0) := by decide +kernel
theorem f_74_15 : ab_ft (ab_CM 74) 15 = some (.ireturn, 0, 0) := by decide +kernel
theorem f_74_16 : ab_ft (ab_CM 74) 16 = some (.aload_n 0, 0, 0) := by decide +kernel
theorem f_74_17 : ab_ft (ab_CM 74) 17 = some (.getfield 705, 21, 374) := by decide +kernel
theorem f_74_20 : ab_ft (ab_CM 74) 20 = some (.aload_n 0, 0, 0) := by decide +kernel
theorem f_74_21 : ab_ft (ab_CM 74) 21 = some (.getfield 710, 60, 379) := by decide +kernel
theorem f_74_24 : ab_ft (ab_CM 74) 24 = some (.getfield 257, 146, 329) := by decide +kernel
theorem f_74_27 : ab_ft (ab_CM 74) 27 = some (.iload_n 2, 0, 0) := by decide +kernel
theorem f_74_28 : ab_ft (ab_CM 74) 28 = some (.aaload, 0, 0) := by decide +kernel
theorem f_74_29 : ab_ft (ab_CM 74) 29 = some (.aload_n 0, 0, 0) := by decide +kernel
theorem f_74_30 : ab_ft (ab_CM 74) 30 = some (.getfield 715, 86, 384) := by decide +kernel
theorem f_74_33 : ab_ft (ab_CM 74) 33 = some (.invokevirtual 10, 167, 603) := by decide +kernel
theorem f_74_36 : ab_ft (ab_CM 74) 36 = some (.aload_n 0, 0, 0) := by decide +kernel
theorem f_74_37 : ab_ft (ab_CM 74) 37 = some (.iload_n 1, 0, 0) := by decide +kernel
theorem f_74_38 : ab_ft (ab_CM 74) 38 = some (.invokevirtual 97, 142, 565) := by decide +kernel
theorem f_74_41 : ab_ft (ab_CM 74) 41 = some (.ireturn, 0, 0) := by decide +kernel
theorem my_74_97 : sg_may 0 74 97 = true := by decide +kernel
theorem my_74_10 : sg_may 0 74 10 = true := by decide +kernel
theorem my_74_95 : sg_may 1 74 95 = true := by decide +kernel
theorem mr_74 : ab_MR 74 = (11, 0, 2, 3, 1, 5, 111) := by decide +kernel
theorem rk_74 : (ab_MR 74).2.2.2.2.1 = 1 := by decide +kernel
theorem f_75_0 : ab_ft (ab_CM 75) 0 = some (.iload_n 1, 0, 0) := by decide +kernel
theorem f_75_1 : ab_ft (ab_CM 75) 1 = some (.invokestatic 95, 135, 551) := by decide +kernel
theorem f_75_4 : ab_ft (ab_CM 75) 4 = some (.ifCond .eq 25, 0, 0) := by decide +kernel
theorem f_75_7 : ab_ft (ab_CM 75) 7 = some (.iload_n 2, 0, 0) := by decide +kernel
theorem f_75_8 : ab_ft (ab_CM 75) 8 = some (.invokestatic 95, 135, 551) := by decide +kernel
theorem f_75_11 : ab_ft (ab_CM 75) 11 = some (.ifCond .eq 25, 0, 0) := by decide +kernel
theorem f_75_14 : ab_ft (ab_CM 75) 14 = some (.iload_n 3, 0, 0) := by decide +kernel
theorem f_75_15 : ab_ft (ab_CM 75) 15 = some (.bipush (-3), 0, 0) := by decide +kernel
theorem f_75_17 : ab_ft (ab_CM 75) 17 = some (.if_icmp .lt 25, 0, 0) := by decide +kernel
theorem f_75_20 : ab_ft (ab_CM 75) 20 = some (.iload_n 3, 0, 0) := by decide +kernel
theorem f_75_21 : ab_ft (ab_CM 75) 21 = some (.iconst 3, 0, 0) := by decide +kernel
theorem ki_3 : Int32.ofInt (3) = nI 3 := by decide +kernel
theorem f_75_22 : ab_ft (ab_CM 75) 22 = some (.if_icmp .le 27, 0, 0) := by decide +kernel
theorem f_75_25 : ab_ft (ab_CM 75) 25 = some (.iconst (-1), 0, 0) := by decide +kernel
theorem f_75_26 : ab_ft (ab_CM 75) 26 = some (.ireturn, 0, 0) := by decide +kernel
theorem f_75_27 : ab_ft (ab_CM 75) 27 = some (.aload_n 0, 0, 0) := by decide +kernel
theorem f_75_28 : ab_ft (ab_CM 75) 28 = some (.getfield 704, 10, 373) := by decide +kernel
theorem f_75_31 : ab_ft (ab_CM 75) 31 = some (.aload_n 0, 0, 0) := by decide +kernel
theorem f_75_32 : ab_ft (ab_CM 75) 32 = some (.getfield 710, 60, 379) := by decide +kernel
theorem f_75_35 : ab_ft (ab_CM 75) 35 = some (.getfield 257, 146, 329) := by decide +kernel
theorem f_75_38 : ab_ft (ab_CM 75) 38 = some (.iload_n 2, 0, 0) := by decide +kernel
theorem f_75_39 : ab_ft (ab_CM 75) 39 = some (.aaload, 0, 0) := by decide +kernel
theorem f_75_40 : ab_ft (ab_CM 75) 40 = some (.iload_n 3, 0, 0) := by decide +kernel
theorem f_75_41 : ab_ft (ab_CM 75) 41 = some (.aload_n 0, 0, 0) := by decide +kernel
theorem f_75_42 : ab_ft (ab_CM 75) 42 = some (.getfield 715, 86, 384) := by decide +kernel
theorem f_75_45 : ab_ft (ab_CM 75) 45 = some (.invokevirtual 57, 171, 611) := by decide +kernel
theorem f_75_48 : ab_ft (ab_CM 75) 48 = some (.aload_n 0, 0, 0) := by decide +kernel
theorem f_75_49 : ab_ft (ab_CM 75) 49 = some (.iload_n 1, 0, 0) := by decide +kernel
theorem f_75_50 : ab_ft (ab_CM 75) 50 = some (.invokevirtual 97, 142, 565) := by decide +kernel
theorem f_75_53 : ab_ft (ab_CM 75) 53 = some (.ireturn, 0, 0) := by decide +kernel
theorem my_75_57 : sg_may 0 75 57 = true := by decide +kernel
theorem my_75_97 : sg_may 0 75 97 = true := by decide +kernel
theorem my_75_95 : sg_may 1 75 95 = true := by decide +kernel
theorem mr_75 : ab_MR 75 = (11, 0, 3, 4, 1, 5, 111) := by decide +kernel
theorem rk_75 : (ab_MR 75).2.2.2.2.1 = 1 := by decide +kernel
theorem f_76_0 : ab_ft (ab_CM 76) 0 = some (.iload_n 1, 0, 0) := by decide +kernel
theorem f_76_1 : ab_ft (ab_CM 76) 1 = some (.invokestatic 95, 135, 551) := by decide +kernel
theorem f_76_4 : ab_ft (ab_CM 76) 4 = some (.ifCond .eq 14, 0, 0) := by decide +kernel
theorem f_76_7 : ab_ft (ab_CM 76) 7 = some (.iload_n 2, 0, 0) := by decide +kernel
theorem f_76_8 : ab_ft (ab_CM 76) 8 = some (.invokestatic 95, 135, 551) := by decide +kernel
theorem f_76_11 : ab_ft (ab_CM 76) 11 = some (.ifCond .ne 16, 0, 0) := by decide +kernel
theorem f_76_14 : ab_ft (ab_CM 76) 14 = some (.iconst (-1), 0, 0) := by decide +kernel
theorem f_76_15 : ab_ft (ab_CM 76) 15 = some (.ireturn, 0, 0) := by decide +kernel
theorem f_76_16 : ab_ft (ab_CM 76) 16 = some (.aload_n 0, 0, 0) := by decide +kernel
theorem f_76_17 : ab_ft (ab_CM 76) 17 = some (.getfield 705, 21, 374) := by decide +kernel
theorem f_76_20 : ab_ft (ab_CM 76) 20 = some (.aload_n 0, 0, 0) := by decide +kernel
theorem f_76_21 : ab_ft (ab_CM 76) 21 = some (.getfield 710, 60, 379) := by decide +kernel
theorem f_76_24 : ab_ft (ab_CM 76) 24 = some (.getfield 257, 146, 329) := by decide +kernel
theorem f_76_27 : ab_ft (ab_CM 76) 27 = some (.iload_n 2, 0, 0) := by decide +kernel
theorem f_76_28 : ab_ft (ab_CM 76) 28 = some (.aaload, 0, 0) := by decide +kernel
theorem f_76_29 : ab_ft (ab_CM 76) 29 = some (.aload_n 0, 0, 0) := by decide +kernel
theorem f_76_30 : ab_ft (ab_CM 76) 30 = some (.getfield 715, 86, 384) := by decide +kernel
theorem f_76_33 : ab_ft (ab_CM 76) 33 = some (.invokevirtual 10, 167, 603) := by decide +kernel
theorem f_76_36 : ab_ft (ab_CM 76) 36 = some (.aload_n 0, 0, 0) := by decide +kernel
theorem f_76_37 : ab_ft (ab_CM 76) 37 = some (.getfield 704, 10, 373) := by decide +kernel
theorem f_76_40 : ab_ft (ab_CM 76) 40 = some (.aload_n 0, 0, 0) := by decide +kernel
theorem f_76_41 : ab_ft (ab_CM 76) 41 = some (.getfield 715, 86, 384) := by decide +kernel
theorem f_76_44 : ab_ft (ab_CM 76) 44 = some (.iconst (-1), 0, 0) := by decide +kernel
theorem f_76_45 : ab_ft (ab_CM 76) 45 = some (.aload_n 0, 0, 0) := by decide +kernel
theorem f_76_46 : ab_ft (ab_CM 76) 46 = some (.getfield 715, 86, 384) := by decide +kernel
theorem f_76_49 : ab_ft (ab_CM 76) 49 = some (.invokevirtual 57, 171, 611) := by decide +kernel
theorem f_76_52 : ab_ft (ab_CM 76) 52 = some (.aload_n 0, 0, 0) := by decide +kernel
theorem f_76_53 : ab_ft (ab_CM 76) 53 = some (.getfield 704, 10, 373) := by decide +kernel
theorem f_76_56 : ab_ft (ab_CM 76) 56 = some (.aload_n 0, 0, 0) := by decide +kernel
theorem f_76_57 : ab_ft (ab_CM 76) 57 = some (.getfield 715, 86, 384) := by decide +kernel
theorem f_76_60 : ab_ft (ab_CM 76) 60 = some (.aload_n 0, 0, 0) := by decide +kernel
theorem f_76_61 : ab_ft (ab_CM 76) 61 = some (.getfield 710, 60, 379) := by decide +kernel
theorem f_76_64 : ab_ft (ab_CM 76) 64 = some (.getfield 257, 146, 329) := by decide +kernel
theorem f_76_67 : ab_ft (ab_CM 76) 67 = some (.iload_n 2, 0, 0) := by decide +kernel
theorem f_76_68 : ab_ft (ab_CM 76) 68 = some (.aaload, 0, 0) := by decide +kernel
theorem f_76_69 : ab_ft (ab_CM 76) 69 = some (.invokevirtual 59, 175, 570) := by decide +kernel
theorem f_76_72 : ab_ft (ab_CM 76) 72 = some (.istore_n 3, 0, 0) := by decide +kernel
theorem f_76_73 : ab_ft (ab_CM 76) 73 = some (.aload_n 0, 0, 0) := by decide +kernel
theorem f_76_74 : ab_ft (ab_CM 76) 74 = some (.iload_n 1, 0, 0) := by decide +kernel
theorem f_76_75 : ab_ft (ab_CM 76) 75 = some (.invokevirtual 97, 142, 565) := by decide +kernel
theorem f_76_78 : ab_ft (ab_CM 76) 78 = some (.pop, 0, 0) := by decide +kernel
theorem f_76_79 : ab_ft (ab_CM 76) 79 = some (.iload_n 3, 0, 0) := by decide +kernel
theorem f_76_80 : ab_ft (ab_CM 76) 80 = some (.ireturn, 0, 0) := by decide +kernel
theorem my_76_97 : sg_may 0 76 97 = true := by decide +kernel
theorem my_76_10 : sg_may 0 76 10 = true := by decide +kernel
theorem my_76_57 : sg_may 0 76 57 = true := by decide +kernel
theorem my_76_59 : sg_may 0 76 59 = true := by decide +kernel
theorem my_76_95 : sg_may 1 76 95 = true := by decide +kernel
theorem mr_76 : ab_MR 76 = (11, 0, 2, 4, 1, 5, 111) := by decide +kernel
theorem rk_76 : (ab_MR 76).2.2.2.2.1 = 1 := by decide +kernel
theorem f_77_0 : ab_ft (ab_CM 77) 0 = some (.iload_n 1, 0, 0) := by decide +kernel
theorem f_77_1 : ab_ft (ab_CM 77) 1 = some (.invokestatic 95, 135, 551) := by decide +kernel
theorem f_77_4 : ab_ft (ab_CM 77) 4 = some (.ifCond .eq 14, 0, 0) := by decide +kernel
theorem f_77_7 : ab_ft (ab_CM 77) 7 = some (.iload_n 2, 0, 0) := by decide +kernel
theorem f_77_8 : ab_ft (ab_CM 77) 8 = some (.invokestatic 94, 178, 623) := by decide +kernel
theorem f_77_11 : ab_ft (ab_CM 77) 11 = some (.ifCond .ne 16, 0, 0) := by decide +kernel
theorem f_77_14 : ab_ft (ab_CM 77) 14 = some (.iconst (-1), 0, 0) := by decide +kernel
theorem f_77_15 : ab_ft (ab_CM 77) 15 = some (.ireturn, 0, 0) := by decide +kernel
theorem f_77_16 : ab_ft (ab_CM 77) 16 = some (.aload_n 0, 0, 0) := by decide +kernel
theorem f_77_17 : ab_ft (ab_CM 77) 17 = some (.getfield 710, 60, 379) := by decide +kernel
theorem f_77_20 : ab_ft (ab_CM 77) 20 = some (.getfield 257, 146, 329) := by decide +kernel
theorem f_77_23 : ab_ft (ab_CM 77) 23 = some (.iload_n 1, 0, 0) := by decide +kernel
theorem f_77_24 : ab_ft (ab_CM 77) 24 = some (.aaload, 0, 0) := by decide +kernel
theorem f_77_25 : ab_ft (ab_CM 77) 25 = some (.iload_n 2, 0, 0) := by decide +kernel
theorem f_77_26 : ab_ft (ab_CM 77) 26 = some (.laload, 0, 0) := by decide +kernel
theorem f_77_27 : ab_ft (ab_CM 77) 27 = some (.iload_n 3, 0, 0) := by decide +kernel
theorem f_77_28 : ab_ft (ab_CM 77) 28 = some (.i2l, 0, 0) := by decide +kernel
theorem f_77_29 : ab_ft (ab_CM 77) 29 = some (.lcmp, 0, 0) := by decide +kernel
theorem f_77_30 : ab_ft (ab_CM 77) 30 = some (.ifCond .ne 36, 0, 0) := by decide +kernel
theorem f_77_33 : ab_ft (ab_CM 77) 33 = some (.bipush (-2), 0, 0) := by decide +kernel
theorem f_77_35 : ab_ft (ab_CM 77) 35 = some (.ireturn, 0, 0) := by decide +kernel
theorem f_77_36 : ab_ft (ab_CM 77) 36 = some (.aload_n 0, 0, 0) := by decide +kernel
theorem f_77_37 : ab_ft (ab_CM 77) 37 = some (.getfield 711, 67, 380) := by decide +kernel
theorem f_77_40 : ab_ft (ab_CM 77) 40 = some (.aload_n 0, 0, 0) := by decide +kernel
theorem f_77_41 : ab_ft (ab_CM 77) 41 = some (.getfield 710, 60, 379) := by decide +kernel
theorem f_77_44 : ab_ft (ab_CM 77) 44 = some (.invokevirtual 21, 106, 519) := by decide +kernel
theorem f_77_47 : ab_ft (ab_CM 77) 47 = some (.aload_n 0, 0, 0) := by decide +kernel
theorem f_77_48 : ab_ft (ab_CM 77) 48 = some (.getfield 710, 60, 379) := by decide +kernel
theorem f_77_51 : ab_ft (ab_CM 77) 51 = some (.getfield 257, 146, 329) := by decide +kernel
theorem f_77_54 : ab_ft (ab_CM 77) 54 = some (.iload_n 1, 0, 0) := by decide +kernel
theorem f_77_55 : ab_ft (ab_CM 77) 55 = some (.aaload, 0, 0) := by decide +kernel
theorem f_77_56 : ab_ft (ab_CM 77) 56 = some (.iload_n 2, 0, 0) := by decide +kernel
theorem f_77_57 : ab_ft (ab_CM 77) 57 = some (.iload_n 3, 0, 0) := by decide +kernel
theorem f_77_58 : ab_ft (ab_CM 77) 58 = some (.i2l, 0, 0) := by decide +kernel
theorem f_77_59 : ab_ft (ab_CM 77) 59 = some (.lastore, 0, 0) := by decide +kernel
theorem f_77_60 : ab_ft (ab_CM 77) 60 = some (.iconst 1, 0, 0) := by decide +kernel
theorem f_77_61 : ab_ft (ab_CM 77) 61 = some (.ireturn, 0, 0) := by decide +kernel
theorem my_77_21 : sg_may 0 77 21 = true := by decide +kernel
theorem my_77_94 : sg_may 1 77 94 = true := by decide +kernel
theorem my_77_95 : sg_may 1 77 95 = true := by decide +kernel
theorem mr_77 : ab_MR 77 = (11, 0, 3, 4, 1, 4, 90) := by decide +kernel
theorem rk_77 : (ab_MR 77).2.2.2.2.1 = 1 := by decide +kernel
theorem f_78_0 : ab_ft (ab_CM 78) 0 = some (.aload_n 0, 0, 0) := by decide +kernel
theorem f_78_1 : ab_ft (ab_CM 78) 1 = some (.getfield 711, 67, 380) := by decide +kernel
theorem f_78_4 : ab_ft (ab_CM 78) 4 = some (.aload_n 0, 0, 0) := by decide +kernel
theorem f_78_5 : ab_ft (ab_CM 78) 5 = some (.getfield 710, 60, 379) := by decide +kernel
theorem f_78_8 : ab_ft (ab_CM 78) 8 = some (.invokevirtual 22, 181, 628) := by decide +kernel
theorem f_78_11 : ab_ft (ab_CM 78) 11 = some (.ifCond .eq 24, 0, 0) := by decide +kernel
theorem f_78_14 : ab_ft (ab_CM 78) 14 = some (.aload_n 0, 0, 0) := by decide +kernel
theorem f_78_15 : ab_ft (ab_CM 78) 15 = some (.getfield 711, 67, 380) := by decide +kernel
theorem f_78_18 : ab_ft (ab_CM 78) 18 = some (.getfield 130, 185, 347) := by decide +kernel
theorem f_78_21 : ab_ft (ab_CM 78) 21 = some (.goto 26, 0, 0) := by decide +kernel
theorem f_78_24 : ab_ft (ab_CM 78) 24 = some (.bipush (-2), 0, 0) := by decide +kernel
theorem f_78_26 : ab_ft (ab_CM 78) 26 = some (.ireturn, 0, 0) := by decide +kernel
theorem my_78_22 : sg_may 0 78 22 = true := by decide +kernel
theorem mr_78 : ab_MR 78 = (11, 0, 0, 1, 1, 4, 90) := by decide +kernel
theorem rk_78 : (ab_MR 78).2.2.2.2.1 = 1 := by decide +kernel
theorem f_79_0 : ab_ft (ab_CM 79) 0 = some (.iload_n 1, 0, 0) := by decide +kernel
theorem f_79_1 : ab_ft (ab_CM 79) 1 = some (.invokestatic 95, 135, 551) := by decide +kernel
theorem f_79_4 : ab_ft (ab_CM 79) 4 = some (.ifCond .eq 28, 0, 0) := by decide +kernel
theorem f_79_7 : ab_ft (ab_CM 79) 7 = some (.iload_n 2, 0, 0) := by decide +kernel
theorem f_79_8 : ab_ft (ab_CM 79) 8 = some (.invokestatic 94, 178, 623) := by decide +kernel
theorem f_79_11 : ab_ft (ab_CM 79) 11 = some (.ifCond .eq 28, 0, 0) := by decide +kernel
theorem f_79_14 : ab_ft (ab_CM 79) 14 = some (.aload_n 0, 0, 0) := by decide +kernel
theorem f_79_15 : ab_ft (ab_CM 79) 15 = some (.getfield 710, 60, 379) := by decide +kernel
theorem f_79_18 : ab_ft (ab_CM 79) 18 = some (.getfield 257, 146, 329) := by decide +kernel
theorem f_79_21 : ab_ft (ab_CM 79) 21 = some (.iload_n 1, 0, 0) := by decide +kernel
theorem f_79_22 : ab_ft (ab_CM 79) 22 = some (.aaload, 0, 0) := by decide +kernel
theorem f_79_23 : ab_ft (ab_CM 79) 23 = some (.iload_n 2, 0, 0) := by decide +kernel
theorem f_79_24 : ab_ft (ab_CM 79) 24 = some (.laload, 0, 0) := by decide +kernel
theorem f_79_25 : ab_ft (ab_CM 79) 25 = some (.goto 31, 0, 0) := by decide +kernel
theorem f_79_28 : ab_ft (ab_CM 79) 28 = some (.ldc2_w 1, 188, 636) := by decide +kernel
theorem f_79_31 : ab_ft (ab_CM 79) 31 = some (.lreturn, 0, 0) := by decide +kernel
theorem my_79_94 : sg_may 1 79 94 = true := by decide +kernel
theorem my_79_95 : sg_may 1 79 95 = true := by decide +kernel
theorem mr_79 : ab_MR 79 = (11, 0, 2, 3, 3, 1, 20) := by decide +kernel
theorem rk_79 : (ab_MR 79).2.2.2.2.1 = 3 := by decide +kernel
theorem f_80_0 : ab_ft (ab_CM 80) 0 = some (.aload_n 0, 0, 0) := by decide +kernel
theorem f_80_1 : ab_ft (ab_CM 80) 1 = some (.getfield 710, 60, 379) := by decide +kernel
theorem f_80_4 : ab_ft (ab_CM 80) 4 = some (.getfield 256, 110, 327) := by decide +kernel
theorem f_80_7 : ab_ft (ab_CM 80) 7 = some (.iload_n 1, 0, 0) := by decide +kernel
theorem f_80_8 : ab_ft (ab_CM 80) 8 = some (.iload_n 2, 0, 0) := by decide +kernel
theorem f_80_9 : ab_ft (ab_CM 80) 9 = some (.invokevirtual 33, 123, 541) := by decide +kernel
theorem f_80_12 : ab_ft (ab_CM 80) 12 = some (.ifCond .eq 30, 0, 0) := by decide +kernel
theorem f_80_15 : ab_ft (ab_CM 80) 15 = some (.aload_n 0, 0, 0) := by decide +kernel
theorem f_80_16 : ab_ft (ab_CM 80) 16 = some (.getfield 710, 60, 379) := by decide +kernel
theorem f_80_19 : ab_ft (ab_CM 80) 19 = some (.getfield 256, 110, 327) := by decide +kernel
theorem f_80_22 : ab_ft (ab_CM 80) 22 = some (.iload_n 1, 0, 0) := by decide +kernel
theorem f_80_23 : ab_ft (ab_CM 80) 23 = some (.iload_n 2, 0, 0) := by decide +kernel
theorem f_80_24 : ab_ft (ab_CM 80) 24 = some (.invokevirtual 34, 127, 542) := by decide +kernel
theorem f_80_27 : ab_ft (ab_CM 80) 27 = some (.goto 33, 0, 0) := by decide +kernel
theorem f_80_30 : ab_ft (ab_CM 80) 30 = some (.sipush (-1001), 0, 0) := by decide +kernel
theorem f_80_33 : ab_ft (ab_CM 80) 33 = some (.ireturn, 0, 0) := by decide +kernel
theorem my_80_33 : sg_may 0 80 33 = true := by decide +kernel
theorem my_80_34 : sg_may 0 80 34 = true := by decide +kernel
theorem mr_80 : ab_MR 80 = (11, 0, 2, 3, 1, 2, 44) := by decide +kernel
theorem rk_80 : (ab_MR 80).2.2.2.2.1 = 1 := by decide +kernel
theorem f_81_0 : ab_ft (ab_CM 81) 0 = some (.iload_n 1, 0, 0) := by decide +kernel
theorem f_81_1 : ab_ft (ab_CM 81) 1 = some (.invokestatic 94, 178, 623) := by decide +kernel
theorem f_81_4 : ab_ft (ab_CM 81) 4 = some (.ifCond .ne 9, 0, 0) := by decide +kernel
theorem f_81_7 : ab_ft (ab_CM 81) 7 = some (.iconst (-1), 0, 0) := by decide +kernel
theorem f_81_8 : ab_ft (ab_CM 81) 8 = some (.ireturn, 0, 0) := by decide +kernel
theorem f_81_9 : ab_ft (ab_CM 81) 9 = some (.iload_n 2, 0, 0) := by decide +kernel
theorem f_81_10 : ab_ft (ab_CM 81) 10 = some (.tableswitch 122 0 6 #[52, 62, 72, 82, 92, 102, 112], 42, 0) := by decide +kernel
theorem f_81_52 : ab_ft (ab_CM 81) 52 = some (.aload_n 0, 0, 0) := by decide +kernel
theorem f_81_53 : ab_ft (ab_CM 81) 53 = some (.getfield 704, 10, 373) := by decide +kernel
theorem f_81_56 : ab_ft (ab_CM 81) 56 = some (.getfield 576, 190, 119) := by decide +kernel
theorem f_81_59 : ab_ft (ab_CM 81) 59 = some (.iload_n 1, 0, 0) := by decide +kernel
theorem f_81_60 : ab_ft (ab_CM 81) 60 = some (.iaload, 0, 0) := by decide +kernel
theorem f_81_61 : ab_ft (ab_CM 81) 61 = some (.ireturn, 0, 0) := by decide +kernel
theorem f_81_62 : ab_ft (ab_CM 81) 62 = some (.aload_n 0, 0, 0) := by decide +kernel
theorem f_81_63 : ab_ft (ab_CM 81) 63 = some (.getfield 704, 10, 373) := by decide +kernel
theorem f_81_66 : ab_ft (ab_CM 81) 66 = some (.getfield 577, 194, 121) := by decide +kernel
theorem f_81_69 : ab_ft (ab_CM 81) 69 = some (.iload_n 1, 0, 0) := by decide +kernel
theorem f_81_70 : ab_ft (ab_CM 81) 70 = some (.iaload, 0, 0) := by decide +kernel
theorem f_81_71 : ab_ft (ab_CM 81) 71 = some (.ireturn, 0, 0) := by decide +kernel
theorem f_81_72 : ab_ft (ab_CM 81) 72 = some (.aload_n 0, 0, 0) := by decide +kernel
theorem f_81_73 : ab_ft (ab_CM 81) 73 = some (.getfield 704, 10, 373) := by decide +kernel
theorem f_81_76 : ab_ft (ab_CM 81) 76 = some (.getfield 578, 197, 123) := by decide +kernel
theorem f_81_79 : ab_ft (ab_CM 81) 79 = some (.iload_n 1, 0, 0) := by decide +kernel
theorem f_81_80 : ab_ft (ab_CM 81) 80 = some (.iaload, 0, 0) := by decide +kernel
theorem f_81_81 : ab_ft (ab_CM 81) 81 = some (.ireturn, 0, 0) := by decide +kernel
theorem f_81_82 : ab_ft (ab_CM 81) 82 = some (.aload_n 0, 0, 0) := by decide +kernel
theorem f_81_83 : ab_ft (ab_CM 81) 83 = some (.getfield 704, 10, 373) := by decide +kernel
theorem f_81_86 : ab_ft (ab_CM 81) 86 = some (.getfield 579, 200, 125) := by decide +kernel
theorem f_81_89 : ab_ft (ab_CM 81) 89 = some (.iload_n 1, 0, 0) := by decide +kernel
theorem f_81_90 : ab_ft (ab_CM 81) 90 = some (.iaload, 0, 0) := by decide +kernel
theorem f_81_91 : ab_ft (ab_CM 81) 91 = some (.ireturn, 0, 0) := by decide +kernel
theorem f_81_92 : ab_ft (ab_CM 81) 92 = some (.aload_n 0, 0, 0) := by decide +kernel
theorem f_81_93 : ab_ft (ab_CM 81) 93 = some (.getfield 704, 10, 373) := by decide +kernel
theorem f_81_96 : ab_ft (ab_CM 81) 96 = some (.getfield 580, 203, 127) := by decide +kernel
theorem f_81_99 : ab_ft (ab_CM 81) 99 = some (.iload_n 1, 0, 0) := by decide +kernel
theorem f_81_100 : ab_ft (ab_CM 81) 100 = some (.iaload, 0, 0) := by decide +kernel
theorem f_81_101 : ab_ft (ab_CM 81) 101 = some (.ireturn, 0, 0) := by decide +kernel
theorem f_81_102 : ab_ft (ab_CM 81) 102 = some (.aload_n 0, 0, 0) := by decide +kernel
theorem f_81_103 : ab_ft (ab_CM 81) 103 = some (.getfield 705, 21, 374) := by decide +kernel
theorem f_81_106 : ab_ft (ab_CM 81) 106 = some (.getfield 1, 206, 181) := by decide +kernel
theorem f_81_109 : ab_ft (ab_CM 81) 109 = some (.iload_n 1, 0, 0) := by decide +kernel
theorem f_81_110 : ab_ft (ab_CM 81) 110 = some (.iaload, 0, 0) := by decide +kernel
theorem f_81_111 : ab_ft (ab_CM 81) 111 = some (.ireturn, 0, 0) := by decide +kernel
theorem f_81_112 : ab_ft (ab_CM 81) 112 = some (.aload_n 0, 0, 0) := by decide +kernel
theorem f_81_113 : ab_ft (ab_CM 81) 113 = some (.getfield 704, 10, 373) := by decide +kernel
theorem f_81_116 : ab_ft (ab_CM 81) 116 = some (.getfield 581, 209, 129) := by decide +kernel
theorem f_81_119 : ab_ft (ab_CM 81) 119 = some (.iload_n 1, 0, 0) := by decide +kernel
theorem f_81_120 : ab_ft (ab_CM 81) 120 = some (.iaload, 0, 0) := by decide +kernel
theorem f_81_121 : ab_ft (ab_CM 81) 121 = some (.ireturn, 0, 0) := by decide +kernel
theorem f_81_122 : ab_ft (ab_CM 81) 122 = some (.iconst (-1), 0, 0) := by decide +kernel
theorem f_81_123 : ab_ft (ab_CM 81) 123 = some (.ireturn, 0, 0) := by decide +kernel
theorem my_81_94 : sg_may 1 81 94 = true := by decide +kernel
theorem mr_81 : ab_MR 81 = (11, 0, 2, 3, 1, 1, 20) := by decide +kernel
theorem rk_81 : (ab_MR 81).2.2.2.2.1 = 1 := by decide +kernel
theorem f_82_0 : ab_ft (ab_CM 82) 0 = some (.iload_n 1, 0, 0) := by decide +kernel
theorem f_82_1 : ab_ft (ab_CM 82) 1 = some (.invokestatic 94, 178, 623) := by decide +kernel
theorem f_82_4 : ab_ft (ab_CM 82) 4 = some (.ifCond .eq 11, 0, 0) := by decide +kernel
theorem f_82_7 : ab_ft (ab_CM 82) 7 = some (.iload_n 2, 0, 0) := by decide +kernel
theorem f_82_8 : ab_ft (ab_CM 82) 8 = some (.ifCond .ge 13, 0, 0) := by decide +kernel
theorem f_82_11 : ab_ft (ab_CM 82) 11 = some (.iconst (-1), 0, 0) := by decide +kernel
theorem f_82_12 : ab_ft (ab_CM 82) 12 = some (.ireturn, 0, 0) := by decide +kernel
theorem f_82_13 : ab_ft (ab_CM 82) 13 = some (.aload_n 0, 0, 0) := by decide +kernel
theorem f_82_14 : ab_ft (ab_CM 82) 14 = some (.getfield 704, 10, 373) := by decide +kernel
theorem f_82_17 : ab_ft (ab_CM 82) 17 = some (.iload_n 1, 0, 0) := by decide +kernel
theorem f_82_18 : ab_ft (ab_CM 82) 18 = some (.iload_n 2, 0, 0) := by decide +kernel
theorem f_82_19 : ab_ft (ab_CM 82) 19 = some (.invokevirtual 56, 212, 649) := by decide +kernel
theorem f_82_22 : ab_ft (ab_CM 82) 22 = some (.ireturn, 0, 0) := by decide +kernel
theorem my_82_56 : sg_may 0 82 56 = true := by decide +kernel
theorem my_82_94 : sg_may 1 82 94 = true := by decide +kernel
theorem mr_82 : ab_MR 82 = (11, 0, 2, 3, 1, 1, 24) := by decide +kernel
theorem rk_82 : (ab_MR 82).2.2.2.2.1 = 1 := by decide +kernel
theorem f_83_0 : ab_ft (ab_CM 83) 0 = some (.iload_n 1, 0, 0) := by decide +kernel
theorem f_83_1 : ab_ft (ab_CM 83) 1 = some (.invokestatic 94, 178, 623) := by decide +kernel
theorem f_83_4 : ab_ft (ab_CM 83) 4 = some (.ifCond .eq 16, 0, 0) := by decide +kernel
theorem f_83_7 : ab_ft (ab_CM 83) 7 = some (.iload_n 2, 0, 0) := by decide +kernel
theorem f_83_8 : ab_ft (ab_CM 83) 8 = some (.ifCond .lt 16, 0, 0) := by decide +kernel
theorem f_83_11 : ab_ft (ab_CM 83) 11 = some (.iload_n 3, 0, 0) := by decide +kernel
theorem f_83_12 : ab_ft (ab_CM 83) 12 = some (.iconst (-1), 0, 0) := by decide +kernel
theorem f_83_13 : ab_ft (ab_CM 83) 13 = some (.if_icmp .ge 18, 0, 0) := by decide +kernel
theorem f_83_16 : ab_ft (ab_CM 83) 16 = some (.iconst (-1), 0, 0) := by decide +kernel
theorem f_83_17 : ab_ft (ab_CM 83) 17 = some (.ireturn, 0, 0) := by decide +kernel
theorem f_83_18 : ab_ft (ab_CM 83) 18 = some (.iload_n 2, 0, 0) := by decide +kernel
theorem f_83_19 : ab_ft (ab_CM 83) 19 = some (.aload_n 0, 0, 0) := by decide +kernel
theorem f_83_20 : ab_ft (ab_CM 83) 20 = some (.getfield 705, 21, 374) := by decide +kernel
theorem f_83_23 : ab_ft (ab_CM 83) 23 = some (.getfield 1, 206, 181) := by decide +kernel
theorem f_83_26 : ab_ft (ab_CM 83) 26 = some (.iload_n 1, 0, 0) := by decide +kernel
theorem f_83_27 : ab_ft (ab_CM 83) 27 = some (.iaload, 0, 0) := by decide +kernel
theorem f_83_28 : ab_ft (ab_CM 83) 28 = some (.if_icmp .lt 34, 0, 0) := by decide +kernel
theorem f_83_31 : ab_ft (ab_CM 83) 31 = some (.bipush (-9), 0, 0) := by decide +kernel
theorem f_83_33 : ab_ft (ab_CM 83) 33 = some (.ireturn, 0, 0) := by decide +kernel
theorem f_83_34 : ab_ft (ab_CM 83) 34 = some (.aload_n 0, 0, 0) := by decide +kernel
theorem f_83_35 : ab_ft (ab_CM 83) 35 = some (.getfield 705, 21, 374) := by decide +kernel
theorem f_83_38 : ab_ft (ab_CM 83) 38 = some (.getfield 0, 215, 179) := by decide +kernel
theorem f_83_41 : ab_ft (ab_CM 83) 41 = some (.iload_n 1, 0, 0) := by decide +kernel
theorem f_83_42 : ab_ft (ab_CM 83) 42 = some (.iaload, 0, 0) := by decide +kernel
theorem f_83_43 : ab_ft (ab_CM 83) 43 = some (.iload_n 2, 0, 0) := by decide +kernel
theorem f_83_44 : ab_ft (ab_CM 83) 44 = some (.iadd, 0, 0) := by decide +kernel
theorem f_83_45 : ab_ft (ab_CM 83) 45 = some (.istore 4, 0, 0) := by decide +kernel
theorem f_83_47 : ab_ft (ab_CM 83) 47 = some (.iload_n 3, 0, 0) := by decide +kernel
theorem f_83_48 : ab_ft (ab_CM 83) 48 = some (.iconst (-1), 0, 0) := by decide +kernel
theorem f_83_49 : ab_ft (ab_CM 83) 49 = some (.if_icmp .ne 65, 0, 0) := by decide +kernel
theorem f_83_52 : ab_ft (ab_CM 83) 52 = some (.aload_n 0, 0, 0) := by decide +kernel
theorem f_83_53 : ab_ft (ab_CM 83) 53 = some (.getfield 705, 21, 374) := by decide +kernel
theorem f_83_56 : ab_ft (ab_CM 83) 56 = some (.getfield 2, 218, 183) := by decide +kernel
theorem f_83_59 : ab_ft (ab_CM 83) 59 = some (.iload 4, 0, 0) := by decide +kernel
theorem f_83_61 : ab_ft (ab_CM 83) 61 = some (.iaload, 0, 0) := by decide +kernel
theorem f_83_62 : ab_ft (ab_CM 83) 62 = some (.goto 75, 0, 0) := by decide +kernel
theorem f_83_65 : ab_ft (ab_CM 83) 65 = some (.aload_n 0, 0, 0) := by decide +kernel
theorem f_83_66 : ab_ft (ab_CM 83) 66 = some (.getfield 705, 21, 374) := by decide +kernel
theorem f_83_69 : ab_ft (ab_CM 83) 69 = some (.iload 4, 0, 0) := by decide +kernel
theorem f_83_71 : ab_ft (ab_CM 83) 71 = some (.iload_n 3, 0, 0) := by decide +kernel
theorem f_83_72 : ab_ft (ab_CM 83) 72 = some (.invokevirtual 5, 221, 657) := by decide +kernel
theorem f_83_75 : ab_ft (ab_CM 83) 75 = some (.ireturn, 0, 0) := by decide +kernel
theorem my_83_5 : sg_may 0 83 5 = true := by decide +kernel
theorem my_83_94 : sg_may 1 83 94 = true := by decide +kernel
theorem mr_83 : ab_MR 83 = (11, 0, 3, 5, 1, 1, 22) := by decide +kernel
theorem rk_83 : (ab_MR 83).2.2.2.2.1 = 1 := by decide +kernel
theorem f_84_0 : ab_ft (ab_CM 84) 0 = some (.iload_n 1, 0, 0) := by decide +kernel
theorem f_84_1 : ab_ft (ab_CM 84) 1 = some (.invokestatic 94, 178, 623) := by decide +kernel
theorem f_84_4 : ab_ft (ab_CM 84) 4 = some (.ifCond .eq 28, 0, 0) := by decide +kernel
theorem f_84_7 : ab_ft (ab_CM 84) 7 = some (.iload_n 2, 0, 0) := by decide +kernel
theorem f_84_8 : ab_ft (ab_CM 84) 8 = some (.invokestatic 94, 178, 623) := by decide +kernel
theorem f_84_11 : ab_ft (ab_CM 84) 11 = some (.ifCond .eq 28, 0, 0) := by decide +kernel
theorem f_84_14 : ab_ft (ab_CM 84) 14 = some (.aload_n 0, 0, 0) := by decide +kernel
theorem f_84_15 : ab_ft (ab_CM 84) 15 = some (.getfield 704, 10, 373) := by decide +kernel
theorem f_84_18 : ab_ft (ab_CM 84) 18 = some (.getfield 583, 224, 133) := by decide +kernel
theorem f_84_21 : ab_ft (ab_CM 84) 21 = some (.iload_n 1, 0, 0) := by decide +kernel
theorem f_84_22 : ab_ft (ab_CM 84) 22 = some (.aaload, 0, 0) := by decide +kernel
theorem f_84_23 : ab_ft (ab_CM 84) 23 = some (.iload_n 2, 0, 0) := by decide +kernel
theorem f_84_24 : ab_ft (ab_CM 84) 24 = some (.iaload, 0, 0) := by decide +kernel
theorem f_84_25 : ab_ft (ab_CM 84) 25 = some (.goto 29, 0, 0) := by decide +kernel
theorem f_84_28 : ab_ft (ab_CM 84) 28 = some (.iconst (-1), 0, 0) := by decide +kernel
theorem f_84_29 : ab_ft (ab_CM 84) 29 = some (.ireturn, 0, 0) := by decide +kernel
theorem my_84_94 : sg_may 1 84 94 = true := by decide +kernel
theorem mr_84 : ab_MR 84 = (11, 0, 2, 3, 1, 1, 20) := by decide +kernel
theorem rk_84 : (ab_MR 84).2.2.2.2.1 = 1 := by decide +kernel
theorem f_85_0 : ab_ft (ab_CM 85) 0 = some (.iload_n 1, 0, 0) := by decide +kernel
theorem f_85_1 : ab_ft (ab_CM 85) 1 = some (.invokestatic 94, 178, 623) := by decide +kernel
theorem f_85_4 : ab_ft (ab_CM 85) 4 = some (.ifCond .eq 26, 0, 0) := by decide +kernel
theorem f_85_7 : ab_ft (ab_CM 85) 7 = some (.iload_n 2, 0, 0) := by decide +kernel
theorem f_85_8 : ab_ft (ab_CM 85) 8 = some (.invokestatic 94, 178, 623) := by decide +kernel
theorem f_85_11 : ab_ft (ab_CM 85) 11 = some (.ifCond .eq 26, 0, 0) := by decide +kernel
theorem f_85_14 : ab_ft (ab_CM 85) 14 = some (.aload_n 0, 0, 0) := by decide +kernel
theorem f_85_15 : ab_ft (ab_CM 85) 15 = some (.getfield 705, 21, 374) := by decide +kernel
theorem f_85_18 : ab_ft (ab_CM 85) 18 = some (.iload_n 1, 0, 0) := by decide +kernel
theorem f_85_19 : ab_ft (ab_CM 85) 19 = some (.iload_n 2, 0, 0) := by decide +kernel
theorem f_85_20 : ab_ft (ab_CM 85) 20 = some (.invokevirtual 6, 228, 669) := by decide +kernel
theorem f_85_23 : ab_ft (ab_CM 85) 23 = some (.goto 27, 0, 0) := by decide +kernel
theorem f_85_26 : ab_ft (ab_CM 85) 26 = some (.iconst (-1), 0, 0) := by decide +kernel
theorem f_85_27 : ab_ft (ab_CM 85) 27 = some (.ireturn, 0, 0) := by decide +kernel
theorem my_85_94 : sg_may 1 85 94 = true := by decide +kernel
theorem my_85_6 : sg_may 0 85 6 = true := by decide +kernel
theorem mr_85 : ab_MR 85 = (11, 0, 2, 3, 1, 1, 24) := by decide +kernel
theorem rk_85 : (ab_MR 85).2.2.2.2.1 = 1 := by decide +kernel
theorem f_86_0 : ab_ft (ab_CM 86) 0 = some (.iload_n 1, 0, 0) := by decide +kernel
theorem f_86_1 : ab_ft (ab_CM 86) 1 = some (.invokestatic 95, 135, 551) := by decide +kernel
theorem f_86_4 : ab_ft (ab_CM 86) 4 = some (.ifCond .ne 9, 0, 0) := by decide +kernel
theorem f_86_7 : ab_ft (ab_CM 86) 7 = some (.iconst (-1), 0, 0) := by decide +kernel
theorem f_86_8 : ab_ft (ab_CM 86) 8 = some (.ireturn, 0, 0) := by decide +kernel
theorem f_86_9 : ab_ft (ab_CM 86) 9 = some (.iload_n 2, 0, 0) := by decide +kernel
theorem f_86_10 : ab_ft (ab_CM 86) 10 = some (.tableswitch 101 0 2 #[36, 60, 84], 26, 0) := by decide +kernel
theorem f_86_36 : ab_ft (ab_CM 86) 36 = some (.aload_n 0, 0, 0) := by decide +kernel
theorem f_86_37 : ab_ft (ab_CM 86) 37 = some (.getfield 704, 10, 373) := by decide +kernel
theorem f_86_40 : ab_ft (ab_CM 86) 40 = some (.aload_n 0, 0, 0) := by decide +kernel
theorem f_86_41 : ab_ft (ab_CM 86) 41 = some (.getfield 710, 60, 379) := by decide +kernel
theorem f_86_44 : ab_ft (ab_CM 86) 44 = some (.getfield 257, 146, 329) := by decide +kernel
theorem f_86_47 : ab_ft (ab_CM 86) 47 = some (.iload_n 1, 0, 0) := by decide +kernel
theorem f_86_48 : ab_ft (ab_CM 86) 48 = some (.aaload, 0, 0) := by decide +kernel
theorem f_86_49 : ab_ft (ab_CM 86) 49 = some (.aload_n 0, 0, 0) := by decide +kernel
theorem f_86_50 : ab_ft (ab_CM 86) 50 = some (.getfield 704, 10, 373) := by decide +kernel
theorem f_86_53 : ab_ft (ab_CM 86) 53 = some (.getfield 582, 150, 131) := by decide +kernel
theorem f_86_56 : ab_ft (ab_CM 86) 56 = some (.invokevirtual 59, 175, 570) := by decide +kernel
theorem f_86_59 : ab_ft (ab_CM 86) 59 = some (.ireturn, 0, 0) := by decide +kernel
theorem f_86_60 : ab_ft (ab_CM 86) 60 = some (.aload_n 0, 0, 0) := by decide +kernel
theorem f_86_61 : ab_ft (ab_CM 86) 61 = some (.getfield 704, 10, 373) := by decide +kernel
theorem f_86_64 : ab_ft (ab_CM 86) 64 = some (.aload_n 0, 0, 0) := by decide +kernel
theorem f_86_65 : ab_ft (ab_CM 86) 65 = some (.getfield 710, 60, 379) := by decide +kernel
theorem f_86_68 : ab_ft (ab_CM 86) 68 = some (.getfield 257, 146, 329) := by decide +kernel
theorem f_86_71 : ab_ft (ab_CM 86) 71 = some (.iload_n 1, 0, 0) := by decide +kernel
theorem f_86_72 : ab_ft (ab_CM 86) 72 = some (.aaload, 0, 0) := by decide +kernel
theorem f_86_73 : ab_ft (ab_CM 86) 73 = some (.aload_n 0, 0, 0) := by decide +kernel
theorem f_86_74 : ab_ft (ab_CM 86) 74 = some (.getfield 704, 10, 373) := by decide +kernel
theorem f_86_77 : ab_ft (ab_CM 86) 77 = some (.getfield 582, 150, 131) := by decide +kernel
theorem f_86_80 : ab_ft (ab_CM 86) 80 = some (.invokevirtual 58, 153, 582) := by decide +kernel
theorem f_86_83 : ab_ft (ab_CM 86) 83 = some (.ireturn, 0, 0) := by decide +kernel
theorem f_86_84 : ab_ft (ab_CM 86) 84 = some (.aload_n 0, 0, 0) := by decide +kernel
theorem f_86_85 : ab_ft (ab_CM 86) 85 = some (.getfield 704, 10, 373) := by decide +kernel
theorem f_86_88 : ab_ft (ab_CM 86) 88 = some (.aload_n 0, 0, 0) := by decide +kernel
theorem f_86_89 : ab_ft (ab_CM 86) 89 = some (.getfield 710, 60, 379) := by decide +kernel
theorem f_86_92 : ab_ft (ab_CM 86) 92 = some (.getfield 257, 146, 329) := by decide +kernel
theorem f_86_95 : ab_ft (ab_CM 86) 95 = some (.iload_n 1, 0, 0) := by decide +kernel
theorem f_86_96 : ab_ft (ab_CM 86) 96 = some (.aaload, 0, 0) := by decide +kernel
theorem f_86_97 : ab_ft (ab_CM 86) 97 = some (.invokevirtual 60, 231, 677) := by decide +kernel
theorem f_86_100 : ab_ft (ab_CM 86) 100 = some (.ireturn, 0, 0) := by decide +kernel
theorem f_86_101 : ab_ft (ab_CM 86) 101 = some (.iconst (-1), 0, 0) := by decide +kernel
theorem f_86_102 : ab_ft (ab_CM 86) 102 = some (.ireturn, 0, 0) := by decide +kernel
theorem my_86_58 : sg_may 0 86 58 = true := by decide +kernel
theorem my_86_59 : sg_may 0 86 59 = true := by decide +kernel
theorem my_86_60 : sg_may 0 86 60 = true := by decide +kernel
theorem my_86_95 : sg_may 1 86 95 = true := by decide +kernel
theorem mr_86 : ab_MR 86 = (11, 0, 2, 3, 1, 2, 46) := by decide +kernel
theorem rk_86 : (ab_MR 86).2.2.2.2.1 = 1 := by decide +kernel
theorem f_87_0 : ab_ft (ab_CM 87) 0 = some (.iload_n 1, 0, 0) := by decide +kernel
theorem f_87_1 : ab_ft (ab_CM 87) 1 = some (.invokestatic 95, 135, 551) := by decide +kernel
theorem f_87_4 : ab_ft (ab_CM 87) 4 = some (.ifCond .eq 14, 0, 0) := by decide +kernel
theorem f_87_7 : ab_ft (ab_CM 87) 7 = some (.iload_n 2, 0, 0) := by decide +kernel
theorem f_87_8 : ab_ft (ab_CM 87) 8 = some (.invokestatic 95, 135, 551) := by decide +kernel
theorem f_87_11 : ab_ft (ab_CM 87) 11 = some (.ifCond .ne 16, 0, 0) := by decide +kernel
theorem f_87_14 : ab_ft (ab_CM 87) 14 = some (.iconst (-1), 0, 0) := by decide +kernel
theorem f_87_15 : ab_ft (ab_CM 87) 15 = some (.ireturn, 0, 0) := by decide +kernel
theorem f_87_16 : ab_ft (ab_CM 87) 16 = some (.aload_n 0, 0, 0) := by decide +kernel
theorem f_87_17 : ab_ft (ab_CM 87) 17 = some (.getfield 704, 10, 373) := by decide +kernel
theorem f_87_20 : ab_ft (ab_CM 87) 20 = some (.aload_n 0, 0, 0) := by decide +kernel
theorem f_87_21 : ab_ft (ab_CM 87) 21 = some (.getfield 710, 60, 379) := by decide +kernel
theorem f_87_24 : ab_ft (ab_CM 87) 24 = some (.getfield 257, 146, 329) := by decide +kernel
theorem f_87_27 : ab_ft (ab_CM 87) 27 = some (.iload_n 1, 0, 0) := by decide +kernel
theorem f_87_28 : ab_ft (ab_CM 87) 28 = some (.aaload, 0, 0) := by decide +kernel
theorem f_87_29 : ab_ft (ab_CM 87) 29 = some (.aload_n 0, 0, 0) := by decide +kernel
theorem f_87_30 : ab_ft (ab_CM 87) 30 = some (.getfield 710, 60, 379) := by decide +kernel
theorem f_87_33 : ab_ft (ab_CM 87) 33 = some (.getfield 257, 146, 329) := by decide +kernel
theorem f_87_36 : ab_ft (ab_CM 87) 36 = some (.iload_n 2, 0, 0) := by decide +kernel
theorem f_87_37 : ab_ft (ab_CM 87) 37 = some (.aaload, 0, 0) := by decide +kernel
theorem f_87_38 : ab_ft (ab_CM 87) 38 = some (.invokevirtual 59, 175, 570) := by decide +kernel
theorem f_87_41 : ab_ft (ab_CM 87) 41 = some (.ireturn, 0, 0) := by decide +kernel
theorem my_87_59 : sg_may 0 87 59 = true := by decide +kernel
theorem my_87_95 : sg_may 1 87 95 = true := by decide +kernel
theorem mr_87 : ab_MR 87 = (11, 0, 2, 3, 1, 2, 46) := by decide +kernel
theorem rk_87 : (ab_MR 87).2.2.2.2.1 = 1 := by decide +kernel
theorem f_88_0 : ab_ft (ab_CM 88) 0 = some (.iload_n 1, 0, 0) := by decide +kernel
theorem f_88_1 : ab_ft (ab_CM 88) 1 = some (.invokestatic 94, 178, 623) := by decide +kernel
theorem f_88_4 : ab_ft (ab_CM 88) 4 = some (.ifCond .ne 9, 0, 0) := by decide +kernel
theorem f_88_7 : ab_ft (ab_CM 88) 7 = some (.iconst (-1), 0, 0) := by decide +kernel
theorem f_88_8 : ab_ft (ab_CM 88) 8 = some (.ireturn, 0, 0) := by decide +kernel
theorem f_88_9 : ab_ft (ab_CM 88) 9 = some (.aload_n 0, 0, 0) := by decide +kernel
theorem f_88_10 : ab_ft (ab_CM 88) 10 = some (.getfield 714, 82, 383) := by decide +kernel
theorem f_88_13 : ab_ft (ab_CM 88) 13 = some (.iload_n 1, 0, 0) := by decide +kernel
theorem f_88_14 : ab_ft (ab_CM 88) 14 = some (.lload_n 2, 0, 0) := by decide +kernel
theorem f_88_15 : ab_ft (ab_CM 88) 15 = some (.invokevirtual 25, 235, 689) := by decide +kernel
theorem f_88_18 : ab_ft (ab_CM 88) 18 = some (.ifCond .eq 31, 0, 0) := by decide +kernel
theorem f_88_21 : ab_ft (ab_CM 88) 21 = some (.aload_n 0, 0, 0) := by decide +kernel
theorem f_88_22 : ab_ft (ab_CM 88) 22 = some (.getfield 714, 82, 383) := by decide +kernel
theorem f_88_25 : ab_ft (ab_CM 88) 25 = some (.getfield 194, 239, 364) := by decide +kernel
theorem f_88_28 : ab_ft (ab_CM 88) 28 = some (.goto 33, 0, 0) := by decide +kernel
theorem f_88_31 : ab_ft (ab_CM 88) 31 = some (.bipush (-3), 0, 0) := by decide +kernel
theorem f_88_33 : ab_ft (ab_CM 88) 33 = some (.ireturn, 0, 0) := by decide +kernel
theorem my_88_25 : sg_may 0 88 25 = true := by decide +kernel
theorem my_88_94 : sg_may 1 88 94 = true := by decide +kernel
theorem mr_88 : ab_MR 88 = (11, 0, 2, 4, 1, 1, 23) := by decide +kernel
theorem rk_88 : (ab_MR 88).2.2.2.2.1 = 1 := by decide +kernel
theorem f_89_0 : ab_ft (ab_CM 89) 0 = some (.aload_n 0, 0, 0) := by decide +kernel
theorem f_89_1 : ab_ft (ab_CM 89) 1 = some (.getfield 714, 82, 383) := by decide +kernel
theorem f_89_4 : ab_ft (ab_CM 89) 4 = some (.invokevirtual 26, 240, 697) := by decide +kernel
theorem f_89_7 : ab_ft (ab_CM 89) 7 = some (.ireturn, 0, 0) := by decide +kernel
theorem my_89_26 : sg_may 0 89 26 = true := by decide +kernel
theorem mr_89 : ab_MR 89 = (11, 0, 0, 1, 1, 1, 21) := by decide +kernel
theorem rk_89 : (ab_MR 89).2.2.2.2.1 = 1 := by decide +kernel
theorem f_90_0 : ab_ft (ab_CM 90) 0 = some (.iconst 0, 0, 0) := by decide +kernel
theorem f_90_1 : ab_ft (ab_CM 90) 1 = some (.istore_n 1, 0, 0) := by decide +kernel
theorem f_90_2 : ab_ft (ab_CM 90) 2 = some (.iconst 0, 0, 0) := by decide +kernel
theorem f_90_3 : ab_ft (ab_CM 90) 3 = some (.istore_n 2, 0, 0) := by decide +kernel
theorem f_90_4 : ab_ft (ab_CM 90) 4 = some (.iload_n 2, 0, 0) := by decide +kernel
theorem f_90_5 : ab_ft (ab_CM 90) 5 = some (.bipush 6, 0, 0) := by decide +kernel
theorem f_90_7 : ab_ft (ab_CM 90) 7 = some (.if_icmp .ge 41, 0, 0) := by decide +kernel
theorem f_90_10 : ab_ft (ab_CM 90) 10 = some (.aload_n 0, 0, 0) := by decide +kernel
theorem f_90_11 : ab_ft (ab_CM 90) 11 = some (.getfield 714, 82, 383) := by decide +kernel
theorem f_90_14 : ab_ft (ab_CM 90) 14 = some (.aload_n 0, 0, 0) := by decide +kernel
theorem f_90_15 : ab_ft (ab_CM 90) 15 = some (.getfield 710, 60, 379) := by decide +kernel
theorem f_90_18 : ab_ft (ab_CM 90) 18 = some (.getfield 257, 146, 329) := by decide +kernel
theorem f_90_21 : ab_ft (ab_CM 90) 21 = some (.iload_n 2, 0, 0) := by decide +kernel
theorem f_90_22 : ab_ft (ab_CM 90) 22 = some (.aaload, 0, 0) := by decide +kernel
theorem f_90_23 : ab_ft (ab_CM 90) 23 = some (.invokevirtual 27, 241, 705) := by decide +kernel
theorem f_90_26 : ab_ft (ab_CM 90) 26 = some (.ifCond .eq 35, 0, 0) := by decide +kernel
theorem f_90_29 : ab_ft (ab_CM 90) 29 = some (.iload_n 1, 0, 0) := by decide +kernel
theorem f_90_30 : ab_ft (ab_CM 90) 30 = some (.iconst 1, 0, 0) := by decide +kernel
theorem f_90_31 : ab_ft (ab_CM 90) 31 = some (.iload_n 2, 0, 0) := by decide +kernel
theorem f_90_32 : ab_ft (ab_CM 90) 32 = some (.ishl, 0, 0) := by decide +kernel
theorem f_90_33 : ab_ft (ab_CM 90) 33 = some (.ior, 0, 0) := by decide +kernel
theorem f_90_34 : ab_ft (ab_CM 90) 34 = some (.istore_n 1, 0, 0) := by decide +kernel
theorem f_90_35 : ab_ft (ab_CM 90) 35 = some (.iinc 2 1, 0, 0) := by decide +kernel
theorem f_90_38 : ab_ft (ab_CM 90) 38 = some (.goto 4, 0, 0) := by decide +kernel
theorem f_90_41 : ab_ft (ab_CM 90) 41 = some (.iload_n 1, 0, 0) := by decide +kernel
theorem f_90_42 : ab_ft (ab_CM 90) 42 = some (.ireturn, 0, 0) := by decide +kernel
theorem my_90_27 : sg_may 0 90 27 = true := by decide +kernel
theorem mr_90 : ab_MR 90 = (11, 0, 0, 3, 1, 1, 22) := by decide +kernel
theorem rk_90 : (ab_MR 90).2.2.2.2.1 = 1 := by decide +kernel
theorem f_91_0 : ab_ft (ab_CM 91) 0 = some (.iload_n 1, 0, 0) := by decide +kernel
theorem f_91_1 : ab_ft (ab_CM 91) 1 = some (.invokestatic 96, 245, 713) := by decide +kernel
theorem f_91_4 : ab_ft (ab_CM 91) 4 = some (.ifCond .ne 9, 0, 0) := by decide +kernel
theorem f_91_7 : ab_ft (ab_CM 91) 7 = some (.iconst (-1), 0, 0) := by decide +kernel
theorem f_91_8 : ab_ft (ab_CM 91) 8 = some (.ireturn, 0, 0) := by decide +kernel
theorem f_91_9 : ab_ft (ab_CM 91) 9 = some (.aload_n 0, 0, 0) := by decide +kernel
theorem f_91_10 : ab_ft (ab_CM 91) 10 = some (.getfield 712, 71, 381) := by decide +kernel
theorem f_91_13 : ab_ft (ab_CM 91) 13 = some (.iload_n 1, 0, 0) := by decide +kernel
theorem f_91_14 : ab_ft (ab_CM 91) 14 = some (.aaload, 0, 0) := by decide +kernel
theorem f_91_15 : ab_ft (ab_CM 91) 15 = some (.aload_n 0, 0, 0) := by decide +kernel
theorem f_91_16 : ab_ft (ab_CM 91) 16 = some (.getfield 710, 60, 379) := by decide +kernel
theorem f_91_19 : ab_ft (ab_CM 91) 19 = some (.invokevirtual 29, 248, 716) := by decide +kernel
theorem f_91_22 : ab_ft (ab_CM 91) 22 = some (.aload_n 0, 0, 0) := by decide +kernel
theorem f_91_23 : ab_ft (ab_CM 91) 23 = some (.getfield 713, 75, 382) := by decide +kernel
theorem f_91_26 : ab_ft (ab_CM 91) 26 = some (.iload_n 1, 0, 0) := by decide +kernel
theorem f_91_27 : ab_ft (ab_CM 91) 27 = some (.iconst 1, 0, 0) := by decide +kernel
theorem f_91_28 : ab_ft (ab_CM 91) 28 = some (.bastore, 0, 0) := by decide +kernel
theorem f_91_29 : ab_ft (ab_CM 91) 29 = some (.aload_n 0, 0, 0) := by decide +kernel
theorem f_91_30 : ab_ft (ab_CM 91) 30 = some (.getfield 710, 60, 379) := by decide +kernel
theorem f_91_33 : ab_ft (ab_CM 91) 33 = some (.getfield 256, 110, 327) := by decide +kernel
theorem f_91_36 : ab_ft (ab_CM 91) 36 = some (.getfield 320, 250, 265) := by decide +kernel
theorem f_91_39 : ab_ft (ab_CM 91) 39 = some (.ireturn, 0, 0) := by decide +kernel
theorem my_91_96 : sg_may 1 91 96 = true := by decide +kernel
theorem my_91_29 : sg_may 0 91 29 = true := by decide +kernel
theorem mr_91 : ab_MR 91 = (11, 0, 1, 2, 1, 3, 69) := by decide +kernel
theorem rk_91 : (ab_MR 91).2.2.2.2.1 = 1 := by decide +kernel
theorem f_92_0 : ab_ft (ab_CM 92) 0 = some (.iload_n 1, 0, 0) := by decide +kernel
theorem f_92_1 : ab_ft (ab_CM 92) 1 = some (.invokestatic 96, 245, 713) := by decide +kernel
theorem f_92_4 : ab_ft (ab_CM 92) 4 = some (.ifCond .ne 9, 0, 0) := by decide +kernel
theorem f_92_7 : ab_ft (ab_CM 92) 7 = some (.iconst (-1), 0, 0) := by decide +kernel
theorem f_92_8 : ab_ft (ab_CM 92) 8 = some (.ireturn, 0, 0) := by decide +kernel
theorem f_92_9 : ab_ft (ab_CM 92) 9 = some (.aload_n 0, 0, 0) := by decide +kernel
theorem f_92_10 : ab_ft (ab_CM 92) 10 = some (.getfield 713, 75, 382) := by decide +kernel
theorem f_92_13 : ab_ft (ab_CM 92) 13 = some (.iload_n 1, 0, 0) := by decide +kernel
theorem f_92_14 : ab_ft (ab_CM 92) 14 = some (.baload, 0, 0) := by decide +kernel
theorem f_92_15 : ab_ft (ab_CM 92) 15 = some (.ifCond .ne 21, 0, 0) := by decide +kernel
theorem f_92_18 : ab_ft (ab_CM 92) 18 = some (.bipush (-2), 0, 0) := by decide +kernel
theorem f_92_20 : ab_ft (ab_CM 92) 20 = some (.ireturn, 0, 0) := by decide +kernel
theorem f_92_21 : ab_ft (ab_CM 92) 21 = some (.aload_n 0, 0, 0) := by decide +kernel
theorem f_92_22 : ab_ft (ab_CM 92) 22 = some (.getfield 710, 60, 379) := by decide +kernel
theorem f_92_25 : ab_ft (ab_CM 92) 25 = some (.aload_n 0, 0, 0) := by decide +kernel
theorem f_92_26 : ab_ft (ab_CM 92) 26 = some (.getfield 712, 71, 381) := by decide +kernel
theorem f_92_29 : ab_ft (ab_CM 92) 29 = some (.iload_n 1, 0, 0) := by decide +kernel
theorem f_92_30 : ab_ft (ab_CM 92) 30 = some (.aaload, 0, 0) := by decide +kernel
theorem f_92_31 : ab_ft (ab_CM 92) 31 = some (.invokevirtual 29, 248, 716) := by decide +kernel
theorem f_92_34 : ab_ft (ab_CM 92) 34 = some (.aload_n 0, 0, 0) := by decide +kernel
theorem f_92_35 : ab_ft (ab_CM 92) 35 = some (.getfield 711, 67, 380) := by decide +kernel
theorem f_92_38 : ab_ft (ab_CM 92) 38 = some (.invokevirtual 23, 253, 721) := by decide +kernel
theorem f_92_41 : ab_ft (ab_CM 92) 41 = some (.aload_n 0, 0, 0) := by decide +kernel
theorem f_92_42 : ab_ft (ab_CM 92) 42 = some (.getfield 710, 60, 379) := by decide +kernel
theorem f_92_45 : ab_ft (ab_CM 92) 45 = some (.getfield 256, 110, 327) := by decide +kernel
theorem f_92_48 : ab_ft (ab_CM 92) 48 = some (.getfield 320, 250, 265) := by decide +kernel
theorem f_92_51 : ab_ft (ab_CM 92) 51 = some (.ireturn, 0, 0) := by decide +kernel
theorem my_92_96 : sg_may 1 92 96 = true := by decide +kernel
theorem my_92_29 : sg_may 0 92 29 = true := by decide +kernel
theorem my_92_23 : sg_may 0 92 23 = true := by decide +kernel
theorem mr_92 : ab_MR 92 = (11, 0, 1, 2, 1, 3, 69) := by decide +kernel
theorem rk_92 : (ab_MR 92).2.2.2.2.1 = 1 := by decide +kernel
theorem f_93_0 : ab_ft (ab_CM 93) 0 = some (.iload_n 1, 0, 0) := by decide +kernel
theorem f_93_1 : ab_ft (ab_CM 93) 1 = some (.tableswitch 67 0 3 #[32, 43, 51, 59], 31, 0) := by decide +kernel
theorem f_93_32 : ab_ft (ab_CM 93) 32 = some (.aload_n 0, 0, 0) := by decide +kernel
theorem f_93_33 : ab_ft (ab_CM 93) 33 = some (.getfield 710, 60, 379) := by decide +kernel
theorem f_93_36 : ab_ft (ab_CM 93) 36 = some (.getfield 256, 110, 327) := by decide +kernel
theorem f_93_39 : ab_ft (ab_CM 93) 39 = some (.getfield 320, 250, 265) := by decide +kernel
theorem f_93_42 : ab_ft (ab_CM 93) 42 = some (.ireturn, 0, 0) := by decide +kernel
theorem f_93_43 : ab_ft (ab_CM 93) 43 = some (.aload_n 0, 0, 0) := by decide +kernel
theorem f_93_44 : ab_ft (ab_CM 93) 44 = some (.getfield 714, 82, 383) := by decide +kernel
theorem f_93_47 : ab_ft (ab_CM 93) 47 = some (.getfield 194, 239, 364) := by decide +kernel
theorem f_93_50 : ab_ft (ab_CM 93) 50 = some (.ireturn, 0, 0) := by decide +kernel
theorem f_93_51 : ab_ft (ab_CM 93) 51 = some (.aload_n 0, 0, 0) := by decide +kernel
theorem f_93_52 : ab_ft (ab_CM 93) 52 = some (.getfield 707, 35, 376) := by decide +kernel
theorem f_93_55 : ab_ft (ab_CM 93) 55 = some (.getfield 385, 94, 221) := by decide +kernel
theorem f_93_58 : ab_ft (ab_CM 93) 58 = some (.ireturn, 0, 0) := by decide +kernel
theorem f_93_59 : ab_ft (ab_CM 93) 59 = some (.aload_n 0, 0, 0) := by decide +kernel
theorem f_93_60 : ab_ft (ab_CM 93) 60 = some (.getfield 711, 67, 380) := by decide +kernel
theorem f_93_63 : ab_ft (ab_CM 93) 63 = some (.getfield 130, 185, 347) := by decide +kernel
theorem f_93_66 : ab_ft (ab_CM 93) 66 = some (.ireturn, 0, 0) := by decide +kernel
theorem f_93_67 : ab_ft (ab_CM 93) 67 = some (.iconst (-1), 0, 0) := by decide +kernel
theorem f_93_68 : ab_ft (ab_CM 93) 68 = some (.ireturn, 0, 0) := by decide +kernel
theorem mr_93 : ab_MR 93 = (11, 0, 1, 2, 1, 0, 0) := by decide +kernel
theorem rk_93 : (ab_MR 93).2.2.2.2.1 = 1 := by decide +kernel
theorem f_94_0 : ab_ft (ab_CM 94) 0 = some (.iload_n 0, 0, 0) := by decide +kernel
theorem f_94_1 : ab_ft (ab_CM 94) 1 = some (.ifCond .lt 14, 0, 0) := by decide +kernel
theorem f_94_4 : ab_ft (ab_CM 94) 4 = some (.iload_n 0, 0, 0) := by decide +kernel
theorem f_94_5 : ab_ft (ab_CM 94) 5 = some (.bipush 17, 0, 0) := by decide +kernel
theorem f_94_7 : ab_ft (ab_CM 94) 7 = some (.if_icmp .ge 14, 0, 0) := by decide +kernel
theorem f_94_10 : ab_ft (ab_CM 94) 10 = some (.iconst 1, 0, 0) := by decide +kernel
theorem f_94_11 : ab_ft (ab_CM 94) 11 = some (.goto 15, 0, 0) := by decide +kernel
theorem f_94_14 : ab_ft (ab_CM 94) 14 = some (.iconst 0, 0, 0) := by decide +kernel
theorem f_94_15 : ab_ft (ab_CM 94) 15 = some (.ireturn, 0, 0) := by decide +kernel
theorem mr_94 : ab_MR 94 = (11, 1, 1, 1, 2, 0, 0) := by decide +kernel
theorem rk_94 : (ab_MR 94).2.2.2.2.1 = 2 := by decide +kernel
theorem f_95_0 : ab_ft (ab_CM 95) 0 = some (.iload_n 0, 0, 0) := by decide +kernel
theorem f_95_1 : ab_ft (ab_CM 95) 1 = some (.ifCond .lt 14, 0, 0) := by decide +kernel
theorem f_95_4 : ab_ft (ab_CM 95) 4 = some (.iload_n 0, 0, 0) := by decide +kernel
theorem f_95_5 : ab_ft (ab_CM 95) 5 = some (.bipush 6, 0, 0) := by decide +kernel
theorem f_95_7 : ab_ft (ab_CM 95) 7 = some (.if_icmp .ge 14, 0, 0) := by decide +kernel
theorem f_95_10 : ab_ft (ab_CM 95) 10 = some (.iconst 1, 0, 0) := by decide +kernel
theorem f_95_11 : ab_ft (ab_CM 95) 11 = some (.goto 15, 0, 0) := by decide +kernel
theorem f_95_14 : ab_ft (ab_CM 95) 14 = some (.iconst 0, 0, 0) := by decide +kernel
theorem f_95_15 : ab_ft (ab_CM 95) 15 = some (.ireturn, 0, 0) := by decide +kernel
theorem mr_95 : ab_MR 95 = (11, 1, 1, 1, 2, 0, 0) := by decide +kernel
theorem rk_95 : (ab_MR 95).2.2.2.2.1 = 2 := by decide +kernel
theorem f_96_0 : ab_ft (ab_CM 96) 0 = some (.iload_n 0, 0, 0) := by decide +kernel
theorem f_96_1 : ab_ft (ab_CM 96) 1 = some (.ifCond .lt 13, 0, 0) := by decide +kernel
theorem f_96_4 : ab_ft (ab_CM 96) 4 = some (.iload_n 0, 0, 0) := by decide +kernel
theorem f_96_5 : ab_ft (ab_CM 96) 5 = some (.iconst 2, 0, 0) := by decide +kernel
theorem ki_2 : Int32.ofInt (2) = nI 2 := by decide +kernel
theorem f_96_6 : ab_ft (ab_CM 96) 6 = some (.if_icmp .ge 13, 0, 0) := by decide +kernel
theorem f_96_9 : ab_ft (ab_CM 96) 9 = some (.iconst 1, 0, 0) := by decide +kernel
theorem f_96_10 : ab_ft (ab_CM 96) 10 = some (.goto 14, 0, 0) := by decide +kernel
theorem f_96_13 : ab_ft (ab_CM 96) 13 = some (.iconst 0, 0, 0) := by decide +kernel
theorem f_96_14 : ab_ft (ab_CM 96) 14 = some (.ireturn, 0, 0) := by decide +kernel
theorem mr_96 : ab_MR 96 = (11, 1, 1, 1, 2, 0, 0) := by decide +kernel
theorem rk_96 : (ab_MR 96).2.2.2.2.1 = 2 := by decide +kernel
theorem f_97_0 : ab_ft (ab_CM 97) 0 = some (.aload_n 0, 0, 0) := by decide +kernel
theorem f_97_1 : ab_ft (ab_CM 97) 1 = some (.getfield 711, 67, 380) := by decide +kernel
theorem f_97_4 : ab_ft (ab_CM 97) 4 = some (.aload_n 0, 0, 0) := by decide +kernel
theorem f_97_5 : ab_ft (ab_CM 97) 5 = some (.getfield 710, 60, 379) := by decide +kernel
theorem f_97_8 : ab_ft (ab_CM 97) 8 = some (.invokevirtual 21, 106, 519) := by decide +kernel
theorem f_97_11 : ab_ft (ab_CM 97) 11 = some (.aload_n 0, 0, 0) := by decide +kernel
theorem f_97_12 : ab_ft (ab_CM 97) 12 = some (.getfield 715, 86, 384) := by decide +kernel
theorem f_97_15 : ab_ft (ab_CM 97) 15 = some (.iconst 0, 0, 0) := by decide +kernel
theorem f_97_16 : ab_ft (ab_CM 97) 16 = some (.aload_n 0, 0, 0) := by decide +kernel
theorem f_97_17 : ab_ft (ab_CM 97) 17 = some (.getfield 710, 60, 379) := by decide +kernel
theorem f_97_20 : ab_ft (ab_CM 97) 20 = some (.getfield 257, 146, 329) := by decide +kernel
theorem f_97_23 : ab_ft (ab_CM 97) 23 = some (.iload_n 1, 0, 0) := by decide +kernel
theorem f_97_24 : ab_ft (ab_CM 97) 24 = some (.aaload, 0, 0) := by decide +kernel
theorem f_97_25 : ab_ft (ab_CM 97) 25 = some (.iconst 0, 0, 0) := by decide +kernel
theorem f_97_26 : ab_ft (ab_CM 97) 26 = some (.bipush 17, 0, 0) := by decide +kernel
theorem f_97_28 : ab_ft (ab_CM 97) 28 = some (.invokestatic 901, 157, 569) := by decide +kernel
theorem f_97_31 : ab_ft (ab_CM 97) 31 = some (.aload_n 0, 0, 0) := by decide +kernel
theorem f_97_32 : ab_ft (ab_CM 97) 32 = some (.getfield 704, 10, 373) := by decide +kernel
theorem f_97_35 : ab_ft (ab_CM 97) 35 = some (.aload_n 0, 0, 0) := by decide +kernel
theorem f_97_36 : ab_ft (ab_CM 97) 36 = some (.getfield 715, 86, 384) := by decide +kernel
theorem f_97_39 : ab_ft (ab_CM 97) 39 = some (.aload_n 0, 0, 0) := by decide +kernel
theorem f_97_40 : ab_ft (ab_CM 97) 40 = some (.getfield 704, 10, 373) := by decide +kernel
theorem f_97_43 : ab_ft (ab_CM 97) 43 = some (.getfield 582, 150, 131) := by decide +kernel
theorem f_97_46 : ab_ft (ab_CM 97) 46 = some (.invokevirtual 59, 175, 570) := by decide +kernel
theorem f_97_49 : ab_ft (ab_CM 97) 49 = some (.ireturn, 0, 0) := by decide +kernel
theorem my_97_59 : sg_may 0 97 59 = true := by decide +kernel
theorem my_97_21 : sg_may 0 97 21 = true := by decide +kernel
theorem mr_97 : ab_MR 97 = (11, 0, 1, 2, 1, 4, 90) := by decide +kernel
theorem rk_97 : (ab_MR 97).2.2.2.2.1 = 1 := by decide +kernel
theorem ra_97 : (Nat.ble 1 (ab_MR 97).2.2.2.2.2.1 && Nat.ble 26 (ab_MR 97).2.2.2.2.2.2) = true := by decide +kernel
theorem f_99_0 : ab_ft (ab_CM 99) 0 = some (.lload_n 0, 0, 0) := by decide +kernel
theorem f_99_1 : ab_ft (ab_CM 99) 1 = some (.lload_n 2, 0, 0) := by decide +kernel
theorem f_99_2 : ab_ft (ab_CM 99) 2 = some (.lcmp, 0, 0) := by decide +kernel
theorem f_99_3 : ab_ft (ab_CM 99) 3 = some (.ifCond .lt 17, 0, 0) := by decide +kernel
theorem f_99_6 : ab_ft (ab_CM 99) 6 = some (.lload_n 0, 0, 0) := by decide +kernel
theorem f_99_7 : ab_ft (ab_CM 99) 7 = some (.lload 4, 0, 0) := by decide +kernel
theorem f_99_9 : ab_ft (ab_CM 99) 9 = some (.lcmp, 0, 0) := by decide +kernel
theorem f_99_10 : ab_ft (ab_CM 99) 10 = some (.ifCond .gt 17, 0, 0) := by decide +kernel
theorem f_99_13 : ab_ft (ab_CM 99) 13 = some (.iconst 1, 0, 0) := by decide +kernel
theorem f_99_14 : ab_ft (ab_CM 99) 14 = some (.goto 18, 0, 0) := by decide +kernel
theorem f_99_17 : ab_ft (ab_CM 99) 17 = some (.iconst 0, 0, 0) := by decide +kernel
theorem f_99_18 : ab_ft (ab_CM 99) 18 = some (.ireturn, 0, 0) := by decide +kernel
theorem mr_99 : ab_MR 99 = (12, 1, 3, 6, 2, 0, 0) := by decide +kernel
theorem rk_99 : (ab_MR 99).2.2.2.2.1 = 2 := by decide +kernel
theorem f_100_0 : ab_ft (ab_CM 100) 0 = some (.iload_n 0, 0, 0) := by decide +kernel
theorem f_100_1 : ab_ft (ab_CM 100) 1 = some (.i2l, 0, 0) := by decide +kernel
theorem f_100_2 : ab_ft (ab_CM 100) 2 = some (.lconst 0, 0, 0) := by decide +kernel
theorem f_100_3 : ab_ft (ab_CM 100) 3 = some (.ldc2_w 2, 98, 875) := by decide +kernel
theorem f_100_6 : ab_ft (ab_CM 100) 6 = some (.invokestatic 99, 100, 876) := by decide +kernel
theorem f_100_9 : ab_ft (ab_CM 100) 9 = some (.ireturn, 0, 0) := by decide +kernel
theorem my_100_99 : sg_may 1 100 99 = true := by decide +kernel
theorem mr_100 : ab_MR 100 = (12, 1, 1, 1, 2, 1, 25) := by decide +kernel
theorem rk_100 : (ab_MR 100).2.2.2.2.1 = 2 := by decide +kernel
theorem f_101_0 : ab_ft (ab_CM 101) 0 = some (.iload_n 0, 0, 0) := by decide +kernel
theorem f_101_1 : ab_ft (ab_CM 101) 1 = some (.i2l, 0, 0) := by decide +kernel
theorem f_101_2 : ab_ft (ab_CM 101) 2 = some (.lconst 0, 0, 0) := by decide +kernel
theorem f_101_3 : ab_ft (ab_CM 101) 3 = some (.ldc2_w 3, 104, 967) := by decide +kernel
theorem f_101_6 : ab_ft (ab_CM 101) 6 = some (.invokestatic 99, 100, 876) := by decide +kernel
theorem f_101_9 : ab_ft (ab_CM 101) 9 = some (.ireturn, 0, 0) := by decide +kernel
theorem my_101_99 : sg_may 1 101 99 = true := by decide +kernel
theorem mr_101 : ab_MR 101 = (12, 1, 1, 1, 2, 1, 25) := by decide +kernel
theorem rk_101 : (ab_MR 101).2.2.2.2.1 = 2 := by decide +kernel
theorem f_103_0 : ab_ft (ab_CM 103) 0 = some (.aload_n 0, 0, 0) := by decide +kernel
theorem f_103_1 : ab_ft (ab_CM 103) 1 = some (.getfield 793, 110, 784) := by decide +kernel
theorem f_103_4 : ab_ft (ab_CM 103) 4 = some (.istore_n 2, 0, 0) := by decide +kernel
theorem f_103_5 : ab_ft (ab_CM 103) 5 = some (.iload_n 2, 0, 0) := by decide +kernel
theorem f_103_6 : ab_ft (ab_CM 103) 6 = some (.ifCond .le 41, 0, 0) := by decide +kernel
theorem f_103_9 : ab_ft (ab_CM 103) 9 = some (.aload_n 0, 0, 0) := by decide +kernel
theorem f_103_10 : ab_ft (ab_CM 103) 10 = some (.getfield 792, 72, 783) := by decide +kernel
theorem f_103_13 : ab_ft (ab_CM 103) 13 = some (.iload_n 2, 0, 0) := by decide +kernel
theorem f_103_14 : ab_ft (ab_CM 103) 14 = some (.iconst 1, 0, 0) := by decide +kernel
theorem f_103_15 : ab_ft (ab_CM 103) 15 = some (.isub, 0, 0) := by decide +kernel
theorem f_103_16 : ab_ft (ab_CM 103) 16 = some (.iaload, 0, 0) := by decide +kernel
theorem f_103_17 : ab_ft (ab_CM 103) 17 = some (.iload_n 1, 0, 0) := by decide +kernel
theorem f_103_18 : ab_ft (ab_CM 103) 18 = some (.if_icmp .ge 41, 0, 0) := by decide +kernel
theorem f_103_21 : ab_ft (ab_CM 103) 21 = some (.aload_n 0, 0, 0) := by decide +kernel
theorem f_103_22 : ab_ft (ab_CM 103) 22 = some (.getfield 792, 72, 783) := by decide +kernel
theorem f_103_25 : ab_ft (ab_CM 103) 25 = some (.iload_n 2, 0, 0) := by decide +kernel
theorem f_103_26 : ab_ft (ab_CM 103) 26 = some (.aload_n 0, 0, 0) := by decide +kernel
theorem f_103_27 : ab_ft (ab_CM 103) 27 = some (.getfield 792, 72, 783) := by decide +kernel
theorem f_103_30 : ab_ft (ab_CM 103) 30 = some (.iload_n 2, 0, 0) := by decide +kernel
theorem f_103_31 : ab_ft (ab_CM 103) 31 = some (.iconst 1, 0, 0) := by decide +kernel
theorem f_103_32 : ab_ft (ab_CM 103) 32 = some (.isub, 0, 0) := by decide +kernel
theorem f_103_33 : ab_ft (ab_CM 103) 33 = some (.iaload, 0, 0) := by decide +kernel
theorem f_103_34 : ab_ft (ab_CM 103) 34 = some (.iastore, 0, 0) := by decide +kernel
theorem f_103_35 : ab_ft (ab_CM 103) 35 = some (.iinc 2 (-1), 0, 0) := by decide +kernel
theorem f_103_38 : ab_ft (ab_CM 103) 38 = some (.goto 5, 0, 0) := by decide +kernel
theorem f_103_41 : ab_ft (ab_CM 103) 41 = some (.aload_n 0, 0, 0) := by decide +kernel
theorem f_103_42 : ab_ft (ab_CM 103) 42 = some (.getfield 792, 72, 783) := by decide +kernel
theorem f_103_45 : ab_ft (ab_CM 103) 45 = some (.iload_n 2, 0, 0) := by decide +kernel
theorem f_103_46 : ab_ft (ab_CM 103) 46 = some (.iload_n 1, 0, 0) := by decide +kernel
theorem f_103_47 : ab_ft (ab_CM 103) 47 = some (.iastore, 0, 0) := by decide +kernel
theorem f_103_48 : ab_ft (ab_CM 103) 48 = some (.aload_n 0, 0, 0) := by decide +kernel
theorem f_103_49 : ab_ft (ab_CM 103) 49 = some (.dup, 0, 0) := by decide +kernel
theorem f_103_50 : ab_ft (ab_CM 103) 50 = some (.getfield 793, 110, 784) := by decide +kernel
theorem f_103_53 : ab_ft (ab_CM 103) 53 = some (.iconst 1, 0, 0) := by decide +kernel
theorem f_103_54 : ab_ft (ab_CM 103) 54 = some (.iadd, 0, 0) := by decide +kernel
theorem f_103_55 : ab_ft (ab_CM 103) 55 = some (.putfield 4889, 110, 784) := by decide +kernel
theorem f_103_58 : ab_ft (ab_CM 103) 58 = some (.return_, 0, 0) := by decide +kernel
theorem mr_103 : ab_MR 103 = (12, 0, 1, 3, 0, 0, 0) := by decide +kernel
theorem rk_103 : (ab_MR 103).2.2.2.2.1 = 0 := by decide +kernel
theorem f_104_0 : ab_ft (ab_CM 104) 0 = some (.bipush (-9), 0, 0) := by decide +kernel
theorem f_104_2 : ab_ft (ab_CM 104) 2 = some (.istore_n 1, 0, 0) := by decide +kernel
theorem f_104_3 : ab_ft (ab_CM 104) 3 = some (.iconst 0, 0, 0) := by decide +kernel
theorem f_104_4 : ab_ft (ab_CM 104) 4 = some (.istore_n 2, 0, 0) := by decide +kernel
theorem f_104_5 : ab_ft (ab_CM 104) 5 = some (.iload_n 2, 0, 0) := by decide +kernel
theorem f_104_6 : ab_ft (ab_CM 104) 6 = some (.bipush 17, 0, 0) := by decide +kernel
theorem f_104_8 : ab_ft (ab_CM 104) 8 = some (.if_icmp .ge 95, 0, 0) := by decide +kernel
theorem f_104_11 : ab_ft (ab_CM 104) 11 = some (.aload_n 0, 0, 0) := by decide +kernel
theorem f_104_12 : ab_ft (ab_CM 104) 12 = some (.getfield 769, 13, 760) := by decide +kernel
theorem f_104_15 : ab_ft (ab_CM 104) 15 = some (.iload_n 2, 0, 0) := by decide +kernel
theorem f_104_16 : ab_ft (ab_CM 104) 16 = some (.iaload, 0, 0) := by decide +kernel
theorem f_104_17 : ab_ft (ab_CM 104) 17 = some (.aload_n 0, 0, 0) := by decide +kernel
theorem f_104_18 : ab_ft (ab_CM 104) 18 = some (.getfield 793, 110, 784) := by decide +kernel
theorem f_104_21 : ab_ft (ab_CM 104) 21 = some (.if_icmp .ne 28, 0, 0) := by decide +kernel
theorem f_104_24 : ab_ft (ab_CM 104) 24 = some (.iconst 1, 0, 0) := by decide +kernel
theorem f_104_25 : ab_ft (ab_CM 104) 25 = some (.goto 29, 0, 0) := by decide +kernel
theorem f_104_28 : ab_ft (ab_CM 104) 28 = some (.iconst 0, 0, 0) := by decide +kernel
theorem f_104_29 : ab_ft (ab_CM 104) 29 = some (.istore_n 3, 0, 0) := by decide +kernel
theorem f_104_30 : ab_ft (ab_CM 104) 30 = some (.iconst 0, 0, 0) := by decide +kernel
theorem f_104_31 : ab_ft (ab_CM 104) 31 = some (.istore 4, 0, 0) := by decide +kernel
theorem f_104_33 : ab_ft (ab_CM 104) 33 = some (.iload 4, 0, 0) := by decide +kernel
theorem f_104_35 : ab_ft (ab_CM 104) 35 = some (.aload_n 0, 0, 0) := by decide +kernel
theorem f_104_36 : ab_ft (ab_CM 104) 36 = some (.getfield 793, 110, 784) := by decide +kernel
theorem f_104_39 : ab_ft (ab_CM 104) 39 = some (.if_icmp .ge 79, 0, 0) := by decide +kernel
theorem f_104_42 : ab_ft (ab_CM 104) 42 = some (.iload_n 3, 0, 0) := by decide +kernel
theorem f_104_43 : ab_ft (ab_CM 104) 43 = some (.ifCond .eq 79, 0, 0) := by decide +kernel
theorem f_104_46 : ab_ft (ab_CM 104) 46 = some (.aload_n 0, 0, 0) := by decide +kernel
theorem f_104_47 : ab_ft (ab_CM 104) 47 = some (.getfield 768, 7, 759) := by decide +kernel
theorem f_104_50 : ab_ft (ab_CM 104) 50 = some (.iconst 4, 0, 0) := by decide +kernel
theorem f_104_51 : ab_ft (ab_CM 104) 51 = some (.iload_n 2, 0, 0) := by decide +kernel
theorem f_104_52 : ab_ft (ab_CM 104) 52 = some (.imul, 0, 0) := by decide +kernel
theorem f_104_53 : ab_ft (ab_CM 104) 53 = some (.iload 4, 0, 0) := by decide +kernel
theorem f_104_55 : ab_ft (ab_CM 104) 55 = some (.iadd, 0, 0) := by decide +kernel
theorem f_104_56 : ab_ft (ab_CM 104) 56 = some (.iaload, 0, 0) := by decide +kernel
theorem f_104_57 : ab_ft (ab_CM 104) 57 = some (.aload_n 0, 0, 0) := by decide +kernel
theorem f_104_58 : ab_ft (ab_CM 104) 58 = some (.getfield 792, 72, 783) := by decide +kernel
theorem f_104_61 : ab_ft (ab_CM 104) 61 = some (.iload 4, 0, 0) := by decide +kernel
theorem f_104_63 : ab_ft (ab_CM 104) 63 = some (.iaload, 0, 0) := by decide +kernel
theorem f_104_64 : ab_ft (ab_CM 104) 64 = some (.if_icmp .ne 71, 0, 0) := by decide +kernel
theorem f_104_67 : ab_ft (ab_CM 104) 67 = some (.iconst 1, 0, 0) := by decide +kernel
theorem f_104_68 : ab_ft (ab_CM 104) 68 = some (.goto 72, 0, 0) := by decide +kernel
theorem f_104_71 : ab_ft (ab_CM 104) 71 = some (.iconst 0, 0, 0) := by decide +kernel
theorem f_104_72 : ab_ft (ab_CM 104) 72 = some (.istore_n 3, 0, 0) := by decide +kernel
theorem f_104_73 : ab_ft (ab_CM 104) 73 = some (.iinc 4 1, 0, 0) := by decide +kernel
theorem f_104_76 : ab_ft (ab_CM 104) 76 = some (.goto 33, 0, 0) := by decide +kernel
theorem f_104_79 : ab_ft (ab_CM 104) 79 = some (.iload_n 3, 0, 0) := by decide +kernel
theorem f_104_80 : ab_ft (ab_CM 104) 80 = some (.ifCond .eq 87, 0, 0) := by decide +kernel
theorem f_104_83 : ab_ft (ab_CM 104) 83 = some (.iload_n 2, 0, 0) := by decide +kernel
theorem f_104_84 : ab_ft (ab_CM 104) 84 = some (.goto 88, 0, 0) := by decide +kernel
theorem f_104_87 : ab_ft (ab_CM 104) 87 = some (.iload_n 1, 0, 0) := by decide +kernel
theorem f_104_88 : ab_ft (ab_CM 104) 88 = some (.istore_n 1, 0, 0) := by decide +kernel
theorem f_104_89 : ab_ft (ab_CM 104) 89 = some (.iinc 2 1, 0, 0) := by decide +kernel
theorem f_104_92 : ab_ft (ab_CM 104) 92 = some (.goto 5, 0, 0) := by decide +kernel
theorem f_104_95 : ab_ft (ab_CM 104) 95 = some (.iload_n 1, 0, 0) := by decide +kernel
theorem f_104_96 : ab_ft (ab_CM 104) 96 = some (.ireturn, 0, 0) := by decide +kernel
theorem mr_104 : ab_MR 104 = (12, 0, 0, 5, 1, 0, 0) := by decide +kernel
theorem rk_104 : (ab_MR 104).2.2.2.2.1 = 1 := by decide +kernel
theorem f_105_0 : ab_ft (ab_CM 105) 0 = some (.aload_n 0, 0, 0) := by decide +kernel
theorem f_105_1 : ab_ft (ab_CM 105) 1 = some (.getfield 775, 28, 766) := by decide +kernel
theorem f_105_4 : ab_ft (ab_CM 105) 4 = some (.iload_n 1, 0, 0) := by decide +kernel
theorem f_105_5 : ab_ft (ab_CM 105) 5 = some (.iconst 1, 0, 0) := by decide +kernel
theorem f_105_6 : ab_ft (ab_CM 105) 6 = some (.iadd, 0, 0) := by decide +kernel
theorem f_105_7 : ab_ft (ab_CM 105) 7 = some (.iaload, 0, 0) := by decide +kernel
theorem f_105_8 : ab_ft (ab_CM 105) 8 = some (.aload_n 0, 0, 0) := by decide +kernel
theorem f_105_9 : ab_ft (ab_CM 105) 9 = some (.getfield 775, 28, 766) := by decide +kernel
theorem f_105_12 : ab_ft (ab_CM 105) 12 = some (.iload_n 1, 0, 0) := by decide +kernel
theorem f_105_13 : ab_ft (ab_CM 105) 13 = some (.iaload, 0, 0) := by decide +kernel
theorem f_105_14 : ab_ft (ab_CM 105) 14 = some (.isub, 0, 0) := by decide +kernel
theorem f_105_15 : ab_ft (ab_CM 105) 15 = some (.ireturn, 0, 0) := by decide +kernel
theorem mr_105 : ab_MR 105 = (12, 0, 1, 2, 1, 0, 0) := by decide +kernel
theorem rk_105 : (ab_MR 105).2.2.2.2.1 = 1 := by decide +kernel
theorem f_108_0 : ab_ft (ab_CM 108) 0 = some (.aload_n 0, 0, 0) := by decide +kernel
theorem f_108_1 : ab_ft (ab_CM 108) 1 = some (.getfield 770, 16, 761) := by decide +kernel
theorem f_108_4 : ab_ft (ab_CM 108) 4 = some (.iload_n 1, 0, 0) := by decide +kernel
theorem f_108_5 : ab_ft (ab_CM 108) 5 = some (.iaload, 0, 0) := by decide +kernel
theorem f_108_6 : ab_ft (ab_CM 108) 6 = some (.aload_n 0, 0, 0) := by decide +kernel
theorem f_108_7 : ab_ft (ab_CM 108) 7 = some (.getfield 770, 16, 761) := by decide +kernel
theorem f_108_10 : ab_ft (ab_CM 108) 10 = some (.iload_n 2, 0, 0) := by decide +kernel
theorem f_108_11 : ab_ft (ab_CM 108) 11 = some (.iaload, 0, 0) := by decide +kernel
theorem f_108_12 : ab_ft (ab_CM 108) 12 = some (.iadd, 0, 0) := by decide +kernel
theorem f_108_13 : ab_ft (ab_CM 108) 13 = some (.iconst 5, 0, 0) := by decide +kernel
theorem f_108_14 : ab_ft (ab_CM 108) 14 = some (.if_icmp .le 20, 0, 0) := by decide +kernel
theorem f_108_17 : ab_ft (ab_CM 108) 17 = some (.bipush (-9), 0, 0) := by decide +kernel
theorem f_108_19 : ab_ft (ab_CM 108) 19 = some (.ireturn, 0, 0) := by decide +kernel
theorem f_108_20 : ab_ft (ab_CM 108) 20 = some (.aload_n 0, 0, 0) := by decide +kernel
theorem f_108_21 : ab_ft (ab_CM 108) 21 = some (.iconst 0, 0, 0) := by decide +kernel
theorem f_108_22 : ab_ft (ab_CM 108) 22 = some (.putfield 4889, 110, 784) := by decide +kernel
theorem f_108_25 : ab_ft (ab_CM 108) 25 = some (.iconst 0, 0, 0) := by decide +kernel
theorem f_108_26 : ab_ft (ab_CM 108) 26 = some (.istore_n 3, 0, 0) := by decide +kernel
theorem f_108_27 : ab_ft (ab_CM 108) 27 = some (.iload_n 3, 0, 0) := by decide +kernel
theorem f_108_28 : ab_ft (ab_CM 108) 28 = some (.aload_n 0, 0, 0) := by decide +kernel
theorem f_108_29 : ab_ft (ab_CM 108) 29 = some (.getfield 769, 13, 760) := by decide +kernel
theorem f_108_32 : ab_ft (ab_CM 108) 32 = some (.iload_n 1, 0, 0) := by decide +kernel
theorem f_108_33 : ab_ft (ab_CM 108) 33 = some (.iaload, 0, 0) := by decide +kernel
theorem f_108_34 : ab_ft (ab_CM 108) 34 = some (.if_icmp .ge 57, 0, 0) := by decide +kernel
theorem f_108_37 : ab_ft (ab_CM 108) 37 = some (.aload_n 0, 0, 0) := by decide +kernel
theorem f_108_38 : ab_ft (ab_CM 108) 38 = some (.aload_n 0, 0, 0) := by decide +kernel
theorem f_108_39 : ab_ft (ab_CM 108) 39 = some (.getfield 768, 7, 759) := by decide +kernel
theorem f_108_42 : ab_ft (ab_CM 108) 42 = some (.iconst 4, 0, 0) := by decide +kernel
theorem f_108_43 : ab_ft (ab_CM 108) 43 = some (.iload_n 1, 0, 0) := by decide +kernel
theorem f_108_44 : ab_ft (ab_CM 108) 44 = some (.imul, 0, 0) := by decide +kernel
theorem f_108_45 : ab_ft (ab_CM 108) 45 = some (.iload_n 3, 0, 0) := by decide +kernel
theorem f_108_46 : ab_ft (ab_CM 108) 46 = some (.iadd, 0, 0) := by decide +kernel
theorem f_108_47 : ab_ft (ab_CM 108) 47 = some (.iaload, 0, 0) := by decide +kernel
theorem f_108_48 : ab_ft (ab_CM 108) 48 = some (.invokevirtual 103, 117, 751) := by decide +kernel
theorem f_108_51 : ab_ft (ab_CM 108) 51 = some (.iinc 3 1, 0, 0) := by decide +kernel
theorem f_108_54 : ab_ft (ab_CM 108) 54 = some (.goto 27, 0, 0) := by decide +kernel
theorem f_108_57 : ab_ft (ab_CM 108) 57 = some (.aload_n 0, 0, 0) := by decide +kernel
theorem f_108_58 : ab_ft (ab_CM 108) 58 = some (.iload_n 2, 0, 0) := by decide +kernel
theorem f_108_59 : ab_ft (ab_CM 108) 59 = some (.invokevirtual 103, 117, 751) := by decide +kernel
theorem f_108_62 : ab_ft (ab_CM 108) 62 = some (.aload_n 0, 0, 0) := by decide +kernel
theorem f_108_63 : ab_ft (ab_CM 108) 63 = some (.invokevirtual 104, 120, 755) := by decide +kernel
theorem f_108_66 : ab_ft (ab_CM 108) 66 = some (.ireturn, 0, 0) := by decide +kernel
theorem my_108_104 : sg_may 0 108 104 = true := by decide +kernel
theorem my_108_103 : sg_may 0 108 103 = true := by decide +kernel
theorem mr_108 : ab_MR 108 = (12, 0, 2, 4, 1, 1, 24) := by decide +kernel
theorem rk_108 : (ab_MR 108).2.2.2.2.1 = 1 := by decide +kernel
theorem f_109_0 : ab_ft (ab_CM 109) 0 = some (.iconst 1, 0, 0) := by decide +kernel
theorem f_109_1 : ab_ft (ab_CM 109) 1 = some (.istore_n 1, 0, 0) := by decide +kernel
theorem f_109_2 : ab_ft (ab_CM 109) 2 = some (.iconst 2, 0, 0) := by decide +kernel
theorem f_109_3 : ab_ft (ab_CM 109) 3 = some (.istore_n 2, 0, 0) := by decide +kernel
theorem f_109_4 : ab_ft (ab_CM 109) 4 = some (.iload_n 2, 0, 0) := by decide +kernel
theorem f_109_5 : ab_ft (ab_CM 109) 5 = some (.iload_n 0, 0, 0) := by decide +kernel
theorem f_109_6 : ab_ft (ab_CM 109) 6 = some (.if_icmp .gt 19, 0, 0) := by decide +kernel
theorem f_109_9 : ab_ft (ab_CM 109) 9 = some (.iload_n 1, 0, 0) := by decide +kernel
theorem f_109_10 : ab_ft (ab_CM 109) 10 = some (.iload_n 2, 0, 0) := by decide +kernel
theorem f_109_11 : ab_ft (ab_CM 109) 11 = some (.imul, 0, 0) := by decide +kernel
theorem f_109_12 : ab_ft (ab_CM 109) 12 = some (.istore_n 1, 0, 0) := by decide +kernel
theorem f_109_13 : ab_ft (ab_CM 109) 13 = some (.iinc 2 1, 0, 0) := by decide +kernel
theorem f_109_16 : ab_ft (ab_CM 109) 16 = some (.goto 4, 0, 0) := by decide +kernel
theorem f_109_19 : ab_ft (ab_CM 109) 19 = some (.iload_n 1, 0, 0) := by decide +kernel
theorem f_109_20 : ab_ft (ab_CM 109) 20 = some (.ireturn, 0, 0) := by decide +kernel
theorem mr_109 : ab_MR 109 = (12, 1, 1, 3, 1, 0, 0) := by decide +kernel
theorem rk_109 : (ab_MR 109).2.2.2.2.1 = 1 := by decide +kernel
theorem f_110_0 : ab_ft (ab_CM 110) 0 = some (.iload_n 1, 0, 0) := by decide +kernel
theorem f_110_1 : ab_ft (ab_CM 110) 1 = some (.invokestatic 100, 128, 872) := by decide +kernel
theorem f_110_4 : ab_ft (ab_CM 110) 4 = some (.ifCond .ne 9, 0, 0) := by decide +kernel
theorem f_110_7 : ab_ft (ab_CM 110) 7 = some (.iconst (-1), 0, 0) := by decide +kernel
theorem f_110_8 : ab_ft (ab_CM 110) 8 = some (.ireturn, 0, 0) := by decide +kernel
theorem f_110_9 : ab_ft (ab_CM 110) 9 = some (.iload_n 2, 0, 0) := by decide +kernel
theorem f_110_10 : ab_ft (ab_CM 110) 10 = some (.tableswitch 110 0 6 #[52, 59, 66, 73, 80, 87, 93], 42, 0) := by decide +kernel
theorem f_110_52 : ab_ft (ab_CM 110) 52 = some (.aload_n 0, 0, 0) := by decide +kernel
theorem f_110_53 : ab_ft (ab_CM 110) 53 = some (.getfield 770, 16, 761) := by decide +kernel
theorem f_110_56 : ab_ft (ab_CM 110) 56 = some (.iload_n 1, 0, 0) := by decide +kernel
theorem f_110_57 : ab_ft (ab_CM 110) 57 = some (.iaload, 0, 0) := by decide +kernel
theorem f_110_58 : ab_ft (ab_CM 110) 58 = some (.ireturn, 0, 0) := by decide +kernel
theorem f_110_59 : ab_ft (ab_CM 110) 59 = some (.aload_n 0, 0, 0) := by decide +kernel
theorem f_110_60 : ab_ft (ab_CM 110) 60 = some (.getfield 769, 13, 760) := by decide +kernel
theorem f_110_63 : ab_ft (ab_CM 110) 63 = some (.iload_n 1, 0, 0) := by decide +kernel
theorem f_110_64 : ab_ft (ab_CM 110) 64 = some (.iaload, 0, 0) := by decide +kernel
theorem f_110_65 : ab_ft (ab_CM 110) 65 = some (.ireturn, 0, 0) := by decide +kernel
theorem f_110_66 : ab_ft (ab_CM 110) 66 = some (.aload_n 0, 0, 0) := by decide +kernel
theorem f_110_67 : ab_ft (ab_CM 110) 67 = some (.getfield 771, 19, 762) := by decide +kernel
theorem f_110_70 : ab_ft (ab_CM 110) 70 = some (.iload_n 1, 0, 0) := by decide +kernel
theorem f_110_71 : ab_ft (ab_CM 110) 71 = some (.iaload, 0, 0) := by decide +kernel
theorem f_110_72 : ab_ft (ab_CM 110) 72 = some (.ireturn, 0, 0) := by decide +kernel
theorem f_110_73 : ab_ft (ab_CM 110) 73 = some (.aload_n 0, 0, 0) := by decide +kernel
theorem f_110_74 : ab_ft (ab_CM 110) 74 = some (.getfield 772, 22, 763) := by decide +kernel
theorem f_110_77 : ab_ft (ab_CM 110) 77 = some (.iload_n 1, 0, 0) := by decide +kernel
theorem f_110_78 : ab_ft (ab_CM 110) 78 = some (.iaload, 0, 0) := by decide +kernel
theorem f_110_79 : ab_ft (ab_CM 110) 79 = some (.ireturn, 0, 0) := by decide +kernel
theorem f_110_80 : ab_ft (ab_CM 110) 80 = some (.aload_n 0, 0, 0) := by decide +kernel
theorem f_110_81 : ab_ft (ab_CM 110) 81 = some (.getfield 773, 25, 764) := by decide +kernel
theorem f_110_84 : ab_ft (ab_CM 110) 84 = some (.iload_n 1, 0, 0) := by decide +kernel
theorem f_110_85 : ab_ft (ab_CM 110) 85 = some (.iaload, 0, 0) := by decide +kernel
theorem f_110_86 : ab_ft (ab_CM 110) 86 = some (.ireturn, 0, 0) := by decide +kernel
theorem f_110_87 : ab_ft (ab_CM 110) 87 = some (.aload_n 0, 0, 0) := by decide +kernel
theorem f_110_88 : ab_ft (ab_CM 110) 88 = some (.iload_n 1, 0, 0) := by decide +kernel
theorem f_110_89 : ab_ft (ab_CM 110) 89 = some (.invokevirtual 105, 113, 743) := by decide +kernel
theorem f_110_92 : ab_ft (ab_CM 110) 92 = some (.ireturn, 0, 0) := by decide +kernel
theorem f_110_93 : ab_ft (ab_CM 110) 93 = some (.aload_n 0, 0, 0) := by decide +kernel
theorem f_110_94 : ab_ft (ab_CM 110) 94 = some (.getfield 770, 16, 761) := by decide +kernel
theorem f_110_97 : ab_ft (ab_CM 110) 97 = some (.iload_n 1, 0, 0) := by decide +kernel
theorem f_110_98 : ab_ft (ab_CM 110) 98 = some (.iaload, 0, 0) := by decide +kernel
theorem f_110_99 : ab_ft (ab_CM 110) 99 = some (.invokestatic 109, 132, 879) := by decide +kernel
theorem f_110_102 : ab_ft (ab_CM 110) 102 = some (.aload_n 0, 0, 0) := by decide +kernel
theorem f_110_103 : ab_ft (ab_CM 110) 103 = some (.getfield 771, 19, 762) := by decide +kernel
theorem f_110_106 : ab_ft (ab_CM 110) 106 = some (.iload_n 1, 0, 0) := by decide +kernel
theorem f_110_107 : ab_ft (ab_CM 110) 107 = some (.iaload, 0, 0) := by decide +kernel
theorem f_110_108 : ab_ft (ab_CM 110) 108 = some (.idiv, 0, 0) := by decide +kernel
theorem f_110_109 : ab_ft (ab_CM 110) 109 = some (.ireturn, 0, 0) := by decide +kernel
theorem f_110_110 : ab_ft (ab_CM 110) 110 = some (.iconst (-1), 0, 0) := by decide +kernel
theorem f_110_111 : ab_ft (ab_CM 110) 111 = some (.ireturn, 0, 0) := by decide +kernel
theorem my_110_105 : sg_may 0 110 105 = true := by decide +kernel
theorem my_110_100 : sg_may 1 110 100 = true := by decide +kernel
theorem my_110_109 : sg_may 1 110 109 = true := by decide +kernel
theorem mr_110 : ab_MR 110 = (12, 0, 2, 3, 1, 2, 45) := by decide +kernel
theorem rk_110 : (ab_MR 110).2.2.2.2.1 = 1 := by decide +kernel
theorem f_111_0 : ab_ft (ab_CM 111) 0 = some (.iload_n 1, 0, 0) := by decide +kernel
theorem f_111_1 : ab_ft (ab_CM 111) 1 = some (.invokestatic 100, 128, 872) := by decide +kernel
theorem f_111_4 : ab_ft (ab_CM 111) 4 = some (.ifCond .eq 11, 0, 0) := by decide +kernel
theorem f_111_7 : ab_ft (ab_CM 111) 7 = some (.iload_n 2, 0, 0) := by decide +kernel
theorem f_111_8 : ab_ft (ab_CM 111) 8 = some (.ifCond .ge 13, 0, 0) := by decide +kernel
theorem f_111_11 : ab_ft (ab_CM 111) 11 = some (.iconst (-1), 0, 0) := by decide +kernel
theorem f_111_12 : ab_ft (ab_CM 111) 12 = some (.ireturn, 0, 0) := by decide +kernel
theorem f_111_13 : ab_ft (ab_CM 111) 13 = some (.iload_n 2, 0, 0) := by decide +kernel
theorem f_111_14 : ab_ft (ab_CM 111) 14 = some (.aload_n 0, 0, 0) := by decide +kernel
theorem f_111_15 : ab_ft (ab_CM 111) 15 = some (.getfield 769, 13, 760) := by decide +kernel
theorem f_111_18 : ab_ft (ab_CM 111) 18 = some (.iload_n 1, 0, 0) := by decide +kernel
theorem f_111_19 : ab_ft (ab_CM 111) 19 = some (.iaload, 0, 0) := by decide +kernel
theorem f_111_20 : ab_ft (ab_CM 111) 20 = some (.if_icmp .ge 36, 0, 0) := by decide +kernel
theorem f_111_23 : ab_ft (ab_CM 111) 23 = some (.aload_n 0, 0, 0) := by decide +kernel
theorem f_111_24 : ab_ft (ab_CM 111) 24 = some (.getfield 768, 7, 759) := by decide +kernel
theorem f_111_27 : ab_ft (ab_CM 111) 27 = some (.iconst 4, 0, 0) := by decide +kernel
theorem f_111_28 : ab_ft (ab_CM 111) 28 = some (.iload_n 1, 0, 0) := by decide +kernel
theorem f_111_29 : ab_ft (ab_CM 111) 29 = some (.imul, 0, 0) := by decide +kernel
theorem f_111_30 : ab_ft (ab_CM 111) 30 = some (.iload_n 2, 0, 0) := by decide +kernel
theorem f_111_31 : ab_ft (ab_CM 111) 31 = some (.iadd, 0, 0) := by decide +kernel
theorem f_111_32 : ab_ft (ab_CM 111) 32 = some (.iaload, 0, 0) := by decide +kernel
theorem f_111_33 : ab_ft (ab_CM 111) 33 = some (.goto 38, 0, 0) := by decide +kernel
theorem f_111_36 : ab_ft (ab_CM 111) 36 = some (.bipush (-9), 0, 0) := by decide +kernel
theorem f_111_38 : ab_ft (ab_CM 111) 38 = some (.ireturn, 0, 0) := by decide +kernel
theorem my_111_100 : sg_may 1 111 100 = true := by decide +kernel
theorem mr_111 : ab_MR 111 = (12, 0, 2, 3, 1, 2, 45) := by decide +kernel
theorem rk_111 : (ab_MR 111).2.2.2.2.1 = 1 := by decide +kernel
theorem f_112_0 : ab_ft (ab_CM 112) 0 = some (.iload_n 1, 0, 0) := by decide +kernel
theorem f_112_1 : ab_ft (ab_CM 112) 1 = some (.invokestatic 100, 128, 872) := by decide +kernel
theorem f_112_4 : ab_ft (ab_CM 112) 4 = some (.ifCond .eq 16, 0, 0) := by decide +kernel
theorem f_112_7 : ab_ft (ab_CM 112) 7 = some (.iload_n 2, 0, 0) := by decide +kernel
theorem f_112_8 : ab_ft (ab_CM 112) 8 = some (.ifCond .lt 16, 0, 0) := by decide +kernel
theorem f_112_11 : ab_ft (ab_CM 112) 11 = some (.iload_n 3, 0, 0) := by decide +kernel
theorem f_112_12 : ab_ft (ab_CM 112) 12 = some (.iconst (-1), 0, 0) := by decide +kernel
theorem f_112_13 : ab_ft (ab_CM 112) 13 = some (.if_icmp .ge 18, 0, 0) := by decide +kernel
theorem f_112_16 : ab_ft (ab_CM 112) 16 = some (.iconst (-1), 0, 0) := by decide +kernel
theorem f_112_17 : ab_ft (ab_CM 112) 17 = some (.ireturn, 0, 0) := by decide +kernel
theorem f_112_18 : ab_ft (ab_CM 112) 18 = some (.iload_n 2, 0, 0) := by decide +kernel
theorem f_112_19 : ab_ft (ab_CM 112) 19 = some (.aload_n 0, 0, 0) := by decide +kernel
theorem f_112_20 : ab_ft (ab_CM 112) 20 = some (.iload_n 1, 0, 0) := by decide +kernel
theorem f_112_21 : ab_ft (ab_CM 112) 21 = some (.invokevirtual 105, 113, 743) := by decide +kernel
theorem f_112_24 : ab_ft (ab_CM 112) 24 = some (.if_icmp .lt 30, 0, 0) := by decide +kernel
theorem f_112_27 : ab_ft (ab_CM 112) 27 = some (.bipush (-9), 0, 0) := by decide +kernel
theorem f_112_29 : ab_ft (ab_CM 112) 29 = some (.ireturn, 0, 0) := by decide +kernel
theorem f_112_30 : ab_ft (ab_CM 112) 30 = some (.aload_n 0, 0, 0) := by decide +kernel
theorem f_112_31 : ab_ft (ab_CM 112) 31 = some (.getfield 775, 28, 766) := by decide +kernel
theorem f_112_34 : ab_ft (ab_CM 112) 34 = some (.iload_n 1, 0, 0) := by decide +kernel
theorem f_112_35 : ab_ft (ab_CM 112) 35 = some (.iaload, 0, 0) := by decide +kernel
theorem f_112_36 : ab_ft (ab_CM 112) 36 = some (.iload_n 2, 0, 0) := by decide +kernel
theorem f_112_37 : ab_ft (ab_CM 112) 37 = some (.iadd, 0, 0) := by decide +kernel
theorem f_112_38 : ab_ft (ab_CM 112) 38 = some (.istore 4, 0, 0) := by decide +kernel
theorem f_112_40 : ab_ft (ab_CM 112) 40 = some (.iload_n 3, 0, 0) := by decide +kernel
theorem f_112_41 : ab_ft (ab_CM 112) 41 = some (.iconst (-1), 0, 0) := by decide +kernel
theorem f_112_42 : ab_ft (ab_CM 112) 42 = some (.if_icmp .ne 55, 0, 0) := by decide +kernel
theorem f_112_45 : ab_ft (ab_CM 112) 45 = some (.aload_n 0, 0, 0) := by decide +kernel
theorem f_112_46 : ab_ft (ab_CM 112) 46 = some (.getfield 776, 31, 767) := by decide +kernel
theorem f_112_49 : ab_ft (ab_CM 112) 49 = some (.iload 4, 0, 0) := by decide +kernel
theorem f_112_51 : ab_ft (ab_CM 112) 51 = some (.iaload, 0, 0) := by decide +kernel
theorem f_112_52 : ab_ft (ab_CM 112) 52 = some (.goto 82, 0, 0) := by decide +kernel
theorem f_112_55 : ab_ft (ab_CM 112) 55 = some (.iload_n 3, 0, 0) := by decide +kernel
theorem f_112_56 : ab_ft (ab_CM 112) 56 = some (.aload_n 0, 0, 0) := by decide +kernel
theorem f_112_57 : ab_ft (ab_CM 112) 57 = some (.getfield 778, 37, 769) := by decide +kernel
theorem f_112_60 : ab_ft (ab_CM 112) 60 = some (.iload 4, 0, 0) := by decide +kernel
theorem f_112_62 : ab_ft (ab_CM 112) 62 = some (.iaload, 0, 0) := by decide +kernel
theorem f_112_63 : ab_ft (ab_CM 112) 63 = some (.if_icmp .ge 80, 0, 0) := by decide +kernel
theorem f_112_66 : ab_ft (ab_CM 112) 66 = some (.aload_n 0, 0, 0) := by decide +kernel
theorem f_112_67 : ab_ft (ab_CM 112) 67 = some (.getfield 777, 34, 768) := by decide +kernel
theorem f_112_70 : ab_ft (ab_CM 112) 70 = some (.iconst 4, 0, 0) := by decide +kernel
theorem f_112_71 : ab_ft (ab_CM 112) 71 = some (.iload 4, 0, 0) := by decide +kernel
theorem f_112_73 : ab_ft (ab_CM 112) 73 = some (.imul, 0, 0) := by decide +kernel
theorem f_112_74 : ab_ft (ab_CM 112) 74 = some (.iload_n 3, 0, 0) := by decide +kernel
theorem f_112_75 : ab_ft (ab_CM 112) 75 = some (.iadd, 0, 0) := by decide +kernel
theorem f_112_76 : ab_ft (ab_CM 112) 76 = some (.iaload, 0, 0) := by decide +kernel
theorem f_112_77 : ab_ft (ab_CM 112) 77 = some (.goto 82, 0, 0) := by decide +kernel
theorem f_112_80 : ab_ft (ab_CM 112) 80 = some (.bipush (-9), 0, 0) := by decide +kernel
theorem f_112_82 : ab_ft (ab_CM 112) 82 = some (.ireturn, 0, 0) := by decide +kernel
theorem my_112_105 : sg_may 0 112 105 = true := by decide +kernel
theorem my_112_100 : sg_may 1 112 100 = true := by decide +kernel
theorem mr_112 : ab_MR 112 = (12, 0, 3, 5, 1, 2, 45) := by decide +kernel
theorem rk_112 : (ab_MR 112).2.2.2.2.1 = 1 := by decide +kernel
theorem f_113_0 : ab_ft (ab_CM 113) 0 = some (.iload_n 1, 0, 0) := by decide +kernel
theorem f_113_1 : ab_ft (ab_CM 113) 1 = some (.invokestatic 100, 128, 872) := by decide +kernel
theorem f_113_4 : ab_ft (ab_CM 113) 4 = some (.ifCond .eq 23, 0, 0) := by decide +kernel
theorem f_113_7 : ab_ft (ab_CM 113) 7 = some (.iload_n 2, 0, 0) := by decide +kernel
theorem f_113_8 : ab_ft (ab_CM 113) 8 = some (.invokestatic 100, 128, 872) := by decide +kernel
theorem f_113_11 : ab_ft (ab_CM 113) 11 = some (.ifCond .eq 23, 0, 0) := by decide +kernel
theorem f_113_14 : ab_ft (ab_CM 113) 14 = some (.aload_n 0, 0, 0) := by decide +kernel
theorem f_113_15 : ab_ft (ab_CM 113) 15 = some (.iload_n 1, 0, 0) := by decide +kernel
theorem f_113_16 : ab_ft (ab_CM 113) 16 = some (.iload_n 2, 0, 0) := by decide +kernel
theorem f_113_17 : ab_ft (ab_CM 113) 17 = some (.invokevirtual 108, 135, 894) := by decide +kernel
theorem f_113_20 : ab_ft (ab_CM 113) 20 = some (.goto 24, 0, 0) := by decide +kernel
theorem f_113_23 : ab_ft (ab_CM 113) 23 = some (.iconst (-1), 0, 0) := by decide +kernel
theorem f_113_24 : ab_ft (ab_CM 113) 24 = some (.ireturn, 0, 0) := by decide +kernel
theorem my_113_108 : sg_may 0 113 108 = true := by decide +kernel
theorem my_113_100 : sg_may 1 113 100 = true := by decide +kernel
theorem mr_113 : ab_MR 113 = (12, 0, 2, 3, 1, 2, 47) := by decide +kernel
theorem rk_113 : (ab_MR 113).2.2.2.2.1 = 1 := by decide +kernel
theorem f_114_0 : ab_ft (ab_CM 114) 0 = some (.iload_n 1, 0, 0) := by decide +kernel
theorem f_114_1 : ab_ft (ab_CM 114) 1 = some (.invokestatic 100, 128, 872) := by decide +kernel
theorem f_114_4 : ab_ft (ab_CM 114) 4 = some (.ifCond .eq 14, 0, 0) := by decide +kernel
theorem f_114_7 : ab_ft (ab_CM 114) 7 = some (.iload_n 2, 0, 0) := by decide +kernel
theorem f_114_8 : ab_ft (ab_CM 114) 8 = some (.invokestatic 100, 128, 872) := by decide +kernel
theorem f_114_11 : ab_ft (ab_CM 114) 11 = some (.ifCond .ne 16, 0, 0) := by decide +kernel
theorem f_114_14 : ab_ft (ab_CM 114) 14 = some (.iconst (-1), 0, 0) := by decide +kernel
theorem f_114_15 : ab_ft (ab_CM 114) 15 = some (.ireturn, 0, 0) := by decide +kernel
theorem f_114_16 : ab_ft (ab_CM 114) 16 = some (.iconst 0, 0, 0) := by decide +kernel
theorem f_114_17 : ab_ft (ab_CM 114) 17 = some (.istore_n 3, 0, 0) := by decide +kernel
theorem f_114_18 : ab_ft (ab_CM 114) 18 = some (.aload_n 0, 0, 0) := by decide +kernel
theorem f_114_19 : ab_ft (ab_CM 114) 19 = some (.getfield 775, 28, 766) := by decide +kernel
theorem f_114_22 : ab_ft (ab_CM 114) 22 = some (.iload_n 1, 0, 0) := by decide +kernel
theorem f_114_23 : ab_ft (ab_CM 114) 23 = some (.iaload, 0, 0) := by decide +kernel
theorem f_114_24 : ab_ft (ab_CM 114) 24 = some (.istore 4, 0, 0) := by decide +kernel
theorem f_114_26 : ab_ft (ab_CM 114) 26 = some (.iload 4, 0, 0) := by decide +kernel
theorem f_114_28 : ab_ft (ab_CM 114) 28 = some (.aload_n 0, 0, 0) := by decide +kernel
theorem f_114_29 : ab_ft (ab_CM 114) 29 = some (.getfield 775, 28, 766) := by decide +kernel
theorem f_114_32 : ab_ft (ab_CM 114) 32 = some (.iload_n 1, 0, 0) := by decide +kernel
theorem f_114_33 : ab_ft (ab_CM 114) 33 = some (.iconst 1, 0, 0) := by decide +kernel
theorem f_114_34 : ab_ft (ab_CM 114) 34 = some (.iadd, 0, 0) := by decide +kernel
theorem f_114_35 : ab_ft (ab_CM 114) 35 = some (.iaload, 0, 0) := by decide +kernel
theorem f_114_36 : ab_ft (ab_CM 114) 36 = some (.if_icmp .ge 64, 0, 0) := by decide +kernel
theorem f_114_39 : ab_ft (ab_CM 114) 39 = some (.iload_n 3, 0, 0) := by decide +kernel
theorem f_114_40 : ab_ft (ab_CM 114) 40 = some (.aload_n 0, 0, 0) := by decide +kernel
theorem f_114_41 : ab_ft (ab_CM 114) 41 = some (.getfield 776, 31, 767) := by decide +kernel
theorem f_114_44 : ab_ft (ab_CM 114) 44 = some (.iload 4, 0, 0) := by decide +kernel
theorem f_114_46 : ab_ft (ab_CM 114) 46 = some (.iaload, 0, 0) := by decide +kernel
theorem f_114_47 : ab_ft (ab_CM 114) 47 = some (.iload_n 2, 0, 0) := by decide +kernel
theorem f_114_48 : ab_ft (ab_CM 114) 48 = some (.if_icmp .ne 55, 0, 0) := by decide +kernel
theorem f_114_51 : ab_ft (ab_CM 114) 51 = some (.iconst 1, 0, 0) := by decide +kernel
theorem f_114_52 : ab_ft (ab_CM 114) 52 = some (.goto 56, 0, 0) := by decide +kernel
theorem f_114_55 : ab_ft (ab_CM 114) 55 = some (.iconst 0, 0, 0) := by decide +kernel
theorem f_114_56 : ab_ft (ab_CM 114) 56 = some (.iadd, 0, 0) := by decide +kernel
theorem f_114_57 : ab_ft (ab_CM 114) 57 = some (.istore_n 3, 0, 0) := by decide +kernel
theorem f_114_58 : ab_ft (ab_CM 114) 58 = some (.iinc 4 1, 0, 0) := by decide +kernel
theorem f_114_61 : ab_ft (ab_CM 114) 61 = some (.goto 26, 0, 0) := by decide +kernel
theorem f_114_64 : ab_ft (ab_CM 114) 64 = some (.iload_n 3, 0, 0) := by decide +kernel
theorem f_114_65 : ab_ft (ab_CM 114) 65 = some (.ireturn, 0, 0) := by decide +kernel
theorem my_114_100 : sg_may 1 114 100 = true := by decide +kernel
theorem mr_114 : ab_MR 114 = (12, 0, 2, 5, 1, 2, 45) := by decide +kernel
theorem rk_114 : (ab_MR 114).2.2.2.2.1 = 1 := by decide +kernel
theorem f_115_0 : ab_ft (ab_CM 115) 0 = some (.iload_n 1, 0, 0) := by decide +kernel
theorem f_115_1 : ab_ft (ab_CM 115) 1 = some (.i2l, 0, 0) := by decide +kernel
theorem f_115_2 : ab_ft (ab_CM 115) 2 = some (.lconst 0, 0, 0) := by decide +kernel
theorem f_115_3 : ab_ft (ab_CM 115) 3 = some (.ldc2_w 4, 139, 906) := by decide +kernel
theorem f_115_6 : ab_ft (ab_CM 115) 6 = some (.invokestatic 99, 100, 876) := by decide +kernel
theorem f_115_9 : ab_ft (ab_CM 115) 9 = some (.ifCond .ne 14, 0, 0) := by decide +kernel
theorem f_115_12 : ab_ft (ab_CM 115) 12 = some (.iconst (-1), 0, 0) := by decide +kernel
theorem f_115_13 : ab_ft (ab_CM 115) 13 = some (.ireturn, 0, 0) := by decide +kernel
theorem f_115_14 : ab_ft (ab_CM 115) 14 = some (.aload_n 0, 0, 0) := by decide +kernel
theorem f_115_15 : ab_ft (ab_CM 115) 15 = some (.getfield 780, 141, 771) := by decide +kernel
theorem f_115_18 : ab_ft (ab_CM 115) 18 = some (.sipush 160, 0, 0) := by decide +kernel
theorem f_115_21 : ab_ft (ab_CM 115) 21 = some (.if_icmp .ne 27, 0, 0) := by decide +kernel
theorem f_115_24 : ab_ft (ab_CM 115) 24 = some (.bipush (-3), 0, 0) := by decide +kernel
theorem f_115_26 : ab_ft (ab_CM 115) 26 = some (.ireturn, 0, 0) := by decide +kernel
theorem f_115_27 : ab_ft (ab_CM 115) 27 = some (.aload_n 0, 0, 0) := by decide +kernel
theorem f_115_28 : ab_ft (ab_CM 115) 28 = some (.getfield 779, 40, 770) := by decide +kernel
theorem f_115_31 : ab_ft (ab_CM 115) 31 = some (.aload_n 0, 0, 0) := by decide +kernel
theorem f_115_32 : ab_ft (ab_CM 115) 32 = some (.getfield 780, 141, 771) := by decide +kernel
theorem f_115_35 : ab_ft (ab_CM 115) 35 = some (.iload_n 1, 0, 0) := by decide +kernel
theorem f_115_36 : ab_ft (ab_CM 115) 36 = some (.iastore, 0, 0) := by decide +kernel
theorem f_115_37 : ab_ft (ab_CM 115) 37 = some (.aload_n 0, 0, 0) := by decide +kernel
theorem f_115_38 : ab_ft (ab_CM 115) 38 = some (.dup, 0, 0) := by decide +kernel
theorem f_115_39 : ab_ft (ab_CM 115) 39 = some (.getfield 780, 141, 771) := by decide +kernel
theorem f_115_42 : ab_ft (ab_CM 115) 42 = some (.iconst 1, 0, 0) := by decide +kernel
theorem f_115_43 : ab_ft (ab_CM 115) 43 = some (.iadd, 0, 0) := by decide +kernel
theorem f_115_44 : ab_ft (ab_CM 115) 44 = some (.putfield 4876, 141, 771) := by decide +kernel
theorem f_115_47 : ab_ft (ab_CM 115) 47 = some (.aload_n 0, 0, 0) := by decide +kernel
theorem f_115_48 : ab_ft (ab_CM 115) 48 = some (.getfield 780, 141, 771) := by decide +kernel
theorem f_115_51 : ab_ft (ab_CM 115) 51 = some (.ireturn, 0, 0) := by decide +kernel
theorem my_115_99 : sg_may 1 115 99 = true := by decide +kernel
theorem mr_115 : ab_MR 115 = (12, 0, 1, 2, 1, 1, 25) := by decide +kernel
theorem rk_115 : (ab_MR 115).2.2.2.2.1 = 1 := by decide +kernel
theorem f_116_0 : ab_ft (ab_CM 116) 0 = some (.aload_n 0, 0, 0) := by decide +kernel
theorem f_116_1 : ab_ft (ab_CM 116) 1 = some (.getfield 780, 141, 771) := by decide +kernel
theorem f_116_4 : ab_ft (ab_CM 116) 4 = some (.istore_n 1, 0, 0) := by decide +kernel
theorem f_116_5 : ab_ft (ab_CM 116) 5 = some (.aload_n 0, 0, 0) := by decide +kernel
theorem f_116_6 : ab_ft (ab_CM 116) 6 = some (.iconst 0, 0, 0) := by decide +kernel
theorem f_116_7 : ab_ft (ab_CM 116) 7 = some (.putfield 4876, 141, 771) := by decide +kernel
theorem f_116_10 : ab_ft (ab_CM 116) 10 = some (.iload_n 1, 0, 0) := by decide +kernel
theorem f_116_11 : ab_ft (ab_CM 116) 11 = some (.ireturn, 0, 0) := by decide +kernel
theorem mr_116 : ab_MR 116 = (12, 0, 0, 2, 1, 0, 0) := by decide +kernel
theorem rk_116 : (ab_MR 116).2.2.2.2.1 = 1 := by decide +kernel
theorem f_117_0 : ab_ft (ab_CM 117) 0 = some (.iconst 0, 0, 0) := by decide +kernel
theorem f_117_1 : ab_ft (ab_CM 117) 1 = some (.istore_n 1, 0, 0) := by decide +kernel
theorem f_117_2 : ab_ft (ab_CM 117) 2 = some (.iconst 0, 0, 0) := by decide +kernel
theorem f_117_3 : ab_ft (ab_CM 117) 3 = some (.istore_n 2, 0, 0) := by decide +kernel
theorem f_117_4 : ab_ft (ab_CM 117) 4 = some (.bipush (-9), 0, 0) := by decide +kernel
theorem f_117_6 : ab_ft (ab_CM 117) 6 = some (.istore_n 3, 0, 0) := by decide +kernel
theorem f_117_7 : ab_ft (ab_CM 117) 7 = some (.iconst 0, 0, 0) := by decide +kernel
theorem f_117_8 : ab_ft (ab_CM 117) 8 = some (.istore 4, 0, 0) := by decide +kernel
theorem f_117_10 : ab_ft (ab_CM 117) 10 = some (.iload 4, 0, 0) := by decide +kernel
theorem f_117_12 : ab_ft (ab_CM 117) 12 = some (.aload_n 0, 0, 0) := by decide +kernel
theorem f_117_13 : ab_ft (ab_CM 117) 13 = some (.getfield 780, 141, 771) := by decide +kernel
theorem f_117_16 : ab_ft (ab_CM 117) 16 = some (.if_icmp .ge 208, 0, 0) := by decide +kernel
theorem f_117_19 : ab_ft (ab_CM 117) 19 = some (.aload_n 0, 0, 0) := by decide +kernel
theorem f_117_20 : ab_ft (ab_CM 117) 20 = some (.getfield 779, 40, 770) := by decide +kernel
theorem f_117_23 : ab_ft (ab_CM 117) 23 = some (.iload 4, 0, 0) := by decide +kernel
theorem f_117_25 : ab_ft (ab_CM 117) 25 = some (.iaload, 0, 0) := by decide +kernel
theorem f_117_26 : ab_ft (ab_CM 117) 26 = some (.istore 5, 0, 0) := by decide +kernel
theorem f_117_28 : ab_ft (ab_CM 117) 28 = some (.iload 5, 0, 0) := by decide +kernel
theorem f_117_30 : ab_ft (ab_CM 117) 30 = some (.bipush 32, 0, 0) := by decide +kernel
theorem f_117_32 : ab_ft (ab_CM 117) 32 = some (.if_icmp .ne 38, 0, 0) := by decide +kernel
theorem f_117_35 : ab_ft (ab_CM 117) 35 = some (.goto 202, 0, 0) := by decide +kernel
theorem f_117_38 : ab_ft (ab_CM 117) 38 = some (.iload_n 3, 0, 0) := by decide +kernel
theorem f_117_39 : ab_ft (ab_CM 117) 39 = some (.bipush (-9), 0, 0) := by decide +kernel
theorem f_117_41 : ab_ft (ab_CM 117) 41 = some (.if_icmp .ne 81, 0, 0) := by decide +kernel
theorem f_117_44 : ab_ft (ab_CM 117) 44 = some (.iload 5, 0, 0) := by decide +kernel
theorem f_117_46 : ab_ft (ab_CM 117) 46 = some (.bipush 40, 0, 0) := by decide +kernel
theorem f_117_48 : ab_ft (ab_CM 117) 48 = some (.if_icmp .eq 58, 0, 0) := by decide +kernel
theorem f_117_51 : ab_ft (ab_CM 117) 51 = some (.iload 5, 0, 0) := by decide +kernel
theorem f_117_53 : ab_ft (ab_CM 117) 53 = some (.bipush 41, 0, 0) := by decide +kernel
theorem f_117_55 : ab_ft (ab_CM 117) 55 = some (.if_icmp .ne 81, 0, 0) := by decide +kernel
theorem f_117_58 : ab_ft (ab_CM 117) 58 = some (.iload 5, 0, 0) := by decide +kernel
theorem f_117_60 : ab_ft (ab_CM 117) 60 = some (.bipush 41, 0, 0) := by decide +kernel
theorem f_117_62 : ab_ft (ab_CM 117) 62 = some (.if_icmp .ne 69, 0, 0) := by decide +kernel
theorem f_117_65 : ab_ft (ab_CM 117) 65 = some (.iload_n 1, 0, 0) := by decide +kernel
theorem f_117_66 : ab_ft (ab_CM 117) 66 = some (.ifCond .eq 81, 0, 0) := by decide +kernel
theorem f_117_69 : ab_ft (ab_CM 117) 69 = some (.iload 5, 0, 0) := by decide +kernel
theorem f_117_71 : ab_ft (ab_CM 117) 71 = some (.bipush 40, 0, 0) := by decide +kernel
theorem f_117_73 : ab_ft (ab_CM 117) 73 = some (.if_icmp .ne 87, 0, 0) := by decide +kernel
theorem f_117_76 : ab_ft (ab_CM 117) 76 = some (.iload_n 2, 0, 0) := by decide +kernel
theorem f_117_77 : ab_ft (ab_CM 117) 77 = some (.iconst 5, 0, 0) := by decide +kernel
theorem f_117_78 : ab_ft (ab_CM 117) 78 = some (.if_icmp .ne 87, 0, 0) := by decide +kernel
theorem f_117_81 : ab_ft (ab_CM 117) 81 = some (.bipush (-10), 0, 0) := by decide +kernel
theorem f_117_83 : ab_ft (ab_CM 117) 83 = some (.iload 4, 0, 0) := by decide +kernel
theorem f_117_85 : ab_ft (ab_CM 117) 85 = some (.isub, 0, 0) := by decide +kernel
theorem f_117_86 : ab_ft (ab_CM 117) 86 = some (.ireturn, 0, 0) := by decide +kernel
theorem f_117_87 : ab_ft (ab_CM 117) 87 = some (.iload 5, 0, 0) := by decide +kernel
theorem f_117_89 : ab_ft (ab_CM 117) 89 = some (.bipush 40, 0, 0) := by decide +kernel
theorem f_117_91 : ab_ft (ab_CM 117) 91 = some (.if_icmp .ne 110, 0, 0) := by decide +kernel
theorem f_117_94 : ab_ft (ab_CM 117) 94 = some (.aload_n 0, 0, 0) := by decide +kernel
theorem f_117_95 : ab_ft (ab_CM 117) 95 = some (.getfield 795, 78, 786) := by decide +kernel
theorem f_117_98 : ab_ft (ab_CM 117) 98 = some (.iload_n 1, 0, 0) := by decide +kernel
theorem f_117_99 : ab_ft (ab_CM 117) 99 = some (.iconst 0, 0, 0) := by decide +kernel
theorem f_117_100 : ab_ft (ab_CM 117) 100 = some (.iastore, 0, 0) := by decide +kernel
theorem f_117_101 : ab_ft (ab_CM 117) 101 = some (.iinc 1 1, 0, 0) := by decide +kernel
theorem f_117_104 : ab_ft (ab_CM 117) 104 = some (.iinc 2 1, 0, 0) := by decide +kernel
theorem f_117_107 : ab_ft (ab_CM 117) 107 = some (.goto 202, 0, 0) := by decide +kernel
theorem f_117_110 : ab_ft (ab_CM 117) 110 = some (.iinc 1 (-1), 0, 0) := by decide +kernel
theorem f_117_113 : ab_ft (ab_CM 117) 113 = some (.aload_n 0, 0, 0) := by decide +kernel
theorem f_117_114 : ab_ft (ab_CM 117) 114 = some (.iconst 0, 0, 0) := by decide +kernel
theorem f_117_115 : ab_ft (ab_CM 117) 115 = some (.putfield 4889, 110, 784) := by decide +kernel
theorem f_117_118 : ab_ft (ab_CM 117) 118 = some (.iconst 0, 0, 0) := by decide +kernel
theorem f_117_119 : ab_ft (ab_CM 117) 119 = some (.istore 6, 0, 0) := by decide +kernel
theorem f_117_121 : ab_ft (ab_CM 117) 121 = some (.iload 6, 0, 0) := by decide +kernel
theorem f_117_123 : ab_ft (ab_CM 117) 123 = some (.aload_n 0, 0, 0) := by decide +kernel
theorem f_117_124 : ab_ft (ab_CM 117) 124 = some (.getfield 795, 78, 786) := by decide +kernel
theorem f_117_127 : ab_ft (ab_CM 117) 127 = some (.iload_n 1, 0, 0) := by decide +kernel
theorem f_117_128 : ab_ft (ab_CM 117) 128 = some (.iaload, 0, 0) := by decide +kernel
theorem f_117_129 : ab_ft (ab_CM 117) 129 = some (.if_icmp .ge 153, 0, 0) := by decide +kernel
theorem f_117_132 : ab_ft (ab_CM 117) 132 = some (.aload_n 0, 0, 0) := by decide +kernel
theorem f_117_133 : ab_ft (ab_CM 117) 133 = some (.aload_n 0, 0, 0) := by decide +kernel
theorem f_117_134 : ab_ft (ab_CM 117) 134 = some (.getfield 794, 75, 785) := by decide +kernel
theorem f_117_137 : ab_ft (ab_CM 117) 137 = some (.iconst 5, 0, 0) := by decide +kernel
theorem f_117_138 : ab_ft (ab_CM 117) 138 = some (.iload_n 1, 0, 0) := by decide +kernel
theorem f_117_139 : ab_ft (ab_CM 117) 139 = some (.imul, 0, 0) := by decide +kernel
theorem f_117_140 : ab_ft (ab_CM 117) 140 = some (.iload 6, 0, 0) := by decide +kernel
theorem f_117_142 : ab_ft (ab_CM 117) 142 = some (.iadd, 0, 0) := by decide +kernel
theorem f_117_143 : ab_ft (ab_CM 117) 143 = some (.iaload, 0, 0) := by decide +kernel
theorem f_117_144 : ab_ft (ab_CM 117) 144 = some (.invokevirtual 103, 117, 751) := by decide +kernel
theorem f_117_147 : ab_ft (ab_CM 117) 147 = some (.iinc 6 1, 0, 0) := by decide +kernel
theorem f_117_150 : ab_ft (ab_CM 117) 150 = some (.goto 121, 0, 0) := by decide +kernel
theorem f_117_153 : ab_ft (ab_CM 117) 153 = some (.aload_n 0, 0, 0) := by decide +kernel
theorem f_117_154 : ab_ft (ab_CM 117) 154 = some (.invokevirtual 104, 120, 755) := by decide +kernel
theorem f_117_157 : ab_ft (ab_CM 117) 157 = some (.istore 6, 0, 0) := by decide +kernel
theorem f_117_159 : ab_ft (ab_CM 117) 159 = some (.iload_n 1, 0, 0) := by decide +kernel
theorem f_117_160 : ab_ft (ab_CM 117) 160 = some (.ifCond .ne 169, 0, 0) := by decide +kernel
theorem f_117_163 : ab_ft (ab_CM 117) 163 = some (.iload 6, 0, 0) := by decide +kernel
theorem f_117_165 : ab_ft (ab_CM 117) 165 = some (.istore_n 3, 0, 0) := by decide +kernel
theorem f_117_166 : ab_ft (ab_CM 117) 166 = some (.goto 202, 0, 0) := by decide +kernel
theorem f_117_169 : ab_ft (ab_CM 117) 169 = some (.aload_n 0, 0, 0) := by decide +kernel
theorem f_117_170 : ab_ft (ab_CM 117) 170 = some (.getfield 794, 75, 785) := by decide +kernel
theorem f_117_173 : ab_ft (ab_CM 117) 173 = some (.iconst 5, 0, 0) := by decide +kernel
theorem f_117_174 : ab_ft (ab_CM 117) 174 = some (.iload_n 1, 0, 0) := by decide +kernel
theorem f_117_175 : ab_ft (ab_CM 117) 175 = some (.imul, 0, 0) := by decide +kernel
theorem f_117_176 : ab_ft (ab_CM 117) 176 = some (.iconst 5, 0, 0) := by decide +kernel
theorem f_117_177 : ab_ft (ab_CM 117) 177 = some (.isub, 0, 0) := by decide +kernel
theorem f_117_178 : ab_ft (ab_CM 117) 178 = some (.aload_n 0, 0, 0) := by decide +kernel
theorem f_117_179 : ab_ft (ab_CM 117) 179 = some (.getfield 795, 78, 786) := by decide +kernel
theorem f_117_182 : ab_ft (ab_CM 117) 182 = some (.iload_n 1, 0, 0) := by decide +kernel
theorem f_117_183 : ab_ft (ab_CM 117) 183 = some (.iconst 1, 0, 0) := by decide +kernel
theorem f_117_184 : ab_ft (ab_CM 117) 184 = some (.isub, 0, 0) := by decide +kernel
theorem f_117_185 : ab_ft (ab_CM 117) 185 = some (.iaload, 0, 0) := by decide +kernel
theorem f_117_186 : ab_ft (ab_CM 117) 186 = some (.iadd, 0, 0) := by decide +kernel
theorem f_117_187 : ab_ft (ab_CM 117) 187 = some (.iload 6, 0, 0) := by decide +kernel
theorem f_117_189 : ab_ft (ab_CM 117) 189 = some (.iastore, 0, 0) := by decide +kernel
theorem f_117_190 : ab_ft (ab_CM 117) 190 = some (.aload_n 0, 0, 0) := by decide +kernel
theorem f_117_191 : ab_ft (ab_CM 117) 191 = some (.getfield 795, 78, 786) := by decide +kernel
theorem f_117_194 : ab_ft (ab_CM 117) 194 = some (.iload_n 1, 0, 0) := by decide +kernel
theorem f_117_195 : ab_ft (ab_CM 117) 195 = some (.iconst 1, 0, 0) := by decide +kernel
theorem f_117_196 : ab_ft (ab_CM 117) 196 = some (.isub, 0, 0) := by decide +kernel
theorem f_117_197 : ab_ft (ab_CM 117) 197 = some (.dup2, 0, 0) := by decide +kernel
theorem f_117_198 : ab_ft (ab_CM 117) 198 = some (.iaload, 0, 0) := by decide +kernel
theorem f_117_199 : ab_ft (ab_CM 117) 199 = some (.iconst 1, 0, 0) := by decide +kernel
theorem f_117_200 : ab_ft (ab_CM 117) 200 = some (.iadd, 0, 0) := by decide +kernel
theorem f_117_201 : ab_ft (ab_CM 117) 201 = some (.iastore, 0, 0) := by decide +kernel
theorem f_117_202 : ab_ft (ab_CM 117) 202 = some (.iinc 4 1, 0, 0) := by decide +kernel
theorem f_117_205 : ab_ft (ab_CM 117) 205 = some (.goto 10, 0, 0) := by decide +kernel
theorem f_117_208 : ab_ft (ab_CM 117) 208 = some (.iload_n 3, 0, 0) := by decide +kernel
theorem f_117_209 : ab_ft (ab_CM 117) 209 = some (.bipush (-9), 0, 0) := by decide +kernel
theorem f_117_211 : ab_ft (ab_CM 117) 211 = some (.if_icmp .ne 222, 0, 0) := by decide +kernel
theorem f_117_214 : ab_ft (ab_CM 117) 214 = some (.bipush (-10), 0, 0) := by decide +kernel
theorem f_117_216 : ab_ft (ab_CM 117) 216 = some (.aload_n 0, 0, 0) := by decide +kernel
theorem f_117_217 : ab_ft (ab_CM 117) 217 = some (.getfield 780, 141, 771) := by decide +kernel
theorem f_117_220 : ab_ft (ab_CM 117) 220 = some (.isub, 0, 0) := by decide +kernel
theorem f_117_221 : ab_ft (ab_CM 117) 221 = some (.ireturn, 0, 0) := by decide +kernel
theorem f_117_222 : ab_ft (ab_CM 117) 222 = some (.aload_n 0, 0, 0) := by decide +kernel
theorem f_117_223 : ab_ft (ab_CM 117) 223 = some (.iconst 0, 0, 0) := by decide +kernel
theorem f_117_224 : ab_ft (ab_CM 117) 224 = some (.putfield 4876, 141, 771) := by decide +kernel
theorem f_117_227 : ab_ft (ab_CM 117) 227 = some (.iload_n 3, 0, 0) := by decide +kernel
theorem f_117_228 : ab_ft (ab_CM 117) 228 = some (.ireturn, 0, 0) := by decide +kernel
theorem my_117_104 : sg_may 0 117 104 = true := by decide +kernel
theorem my_117_103 : sg_may 0 117 103 = true := by decide +kernel
theorem mr_117 : ab_MR 117 = (12, 0, 0, 7, 1, 1, 24) := by decide +kernel
theorem rk_117 : (ab_MR 117).2.2.2.2.1 = 1 := by decide +kernel
theorem f_118_0 : ab_ft (ab_CM 118) 0 = some (.aload_n 0, 0, 0) := by decide +kernel
theorem f_118_1 : ab_ft (ab_CM 118) 1 = some (.getfield 796, 144, 787) := by decide +kernel
theorem f_118_4 : ab_ft (ab_CM 118) 4 = some (.aload_n 0, 0, 0) := by decide +kernel
theorem f_118_5 : ab_ft (ab_CM 118) 5 = some (.getfield 780, 141, 771) := by decide +kernel
theorem f_118_8 : ab_ft (ab_CM 118) 8 = some (.if_icmp .ge 38, 0, 0) := by decide +kernel
theorem f_118_11 : ab_ft (ab_CM 118) 11 = some (.aload_n 0, 0, 0) := by decide +kernel
theorem f_118_12 : ab_ft (ab_CM 118) 12 = some (.getfield 779, 40, 770) := by decide +kernel
theorem f_118_15 : ab_ft (ab_CM 118) 15 = some (.aload_n 0, 0, 0) := by decide +kernel
theorem f_118_16 : ab_ft (ab_CM 118) 16 = some (.getfield 796, 144, 787) := by decide +kernel
theorem f_118_19 : ab_ft (ab_CM 118) 19 = some (.iaload, 0, 0) := by decide +kernel
theorem f_118_20 : ab_ft (ab_CM 118) 20 = some (.bipush 32, 0, 0) := by decide +kernel
theorem f_118_22 : ab_ft (ab_CM 118) 22 = some (.if_icmp .ne 38, 0, 0) := by decide +kernel
theorem f_118_25 : ab_ft (ab_CM 118) 25 = some (.aload_n 0, 0, 0) := by decide +kernel
theorem f_118_26 : ab_ft (ab_CM 118) 26 = some (.dup, 0, 0) := by decide +kernel
theorem f_118_27 : ab_ft (ab_CM 118) 27 = some (.getfield 796, 144, 787) := by decide +kernel
theorem f_118_30 : ab_ft (ab_CM 118) 30 = some (.iconst 1, 0, 0) := by decide +kernel
theorem f_118_31 : ab_ft (ab_CM 118) 31 = some (.iadd, 0, 0) := by decide +kernel
theorem f_118_32 : ab_ft (ab_CM 118) 32 = some (.putfield 4892, 144, 787) := by decide +kernel
theorem f_118_35 : ab_ft (ab_CM 118) 35 = some (.goto 0, 0, 0) := by decide +kernel
theorem f_118_38 : ab_ft (ab_CM 118) 38 = some (.aload_n 0, 0, 0) := by decide +kernel
theorem f_118_39 : ab_ft (ab_CM 118) 39 = some (.aload_n 0, 0, 0) := by decide +kernel
theorem f_118_40 : ab_ft (ab_CM 118) 40 = some (.getfield 796, 144, 787) := by decide +kernel
theorem f_118_43 : ab_ft (ab_CM 118) 43 = some (.putfield 4893, 147, 788) := by decide +kernel
theorem f_118_46 : ab_ft (ab_CM 118) 46 = some (.aload_n 0, 0, 0) := by decide +kernel
theorem f_118_47 : ab_ft (ab_CM 118) 47 = some (.getfield 796, 144, 787) := by decide +kernel
theorem f_118_50 : ab_ft (ab_CM 118) 50 = some (.aload_n 0, 0, 0) := by decide +kernel
theorem f_118_51 : ab_ft (ab_CM 118) 51 = some (.getfield 780, 141, 771) := by decide +kernel
theorem f_118_54 : ab_ft (ab_CM 118) 54 = some (.if_icmp .ge 69, 0, 0) := by decide +kernel
theorem f_118_57 : ab_ft (ab_CM 118) 57 = some (.aload_n 0, 0, 0) := by decide +kernel
theorem f_118_58 : ab_ft (ab_CM 118) 58 = some (.getfield 779, 40, 770) := by decide +kernel
theorem f_118_61 : ab_ft (ab_CM 118) 61 = some (.aload_n 0, 0, 0) := by decide +kernel
theorem f_118_62 : ab_ft (ab_CM 118) 62 = some (.getfield 796, 144, 787) := by decide +kernel
theorem f_118_65 : ab_ft (ab_CM 118) 65 = some (.iaload, 0, 0) := by decide +kernel
theorem f_118_66 : ab_ft (ab_CM 118) 66 = some (.goto 70, 0, 0) := by decide +kernel
theorem f_118_69 : ab_ft (ab_CM 118) 69 = some (.iconst 0, 0, 0) := by decide +kernel
theorem f_118_70 : ab_ft (ab_CM 118) 70 = some (.istore_n 1, 0, 0) := by decide +kernel
theorem f_118_71 : ab_ft (ab_CM 118) 71 = some (.aload_n 0, 0, 0) := by decide +kernel
theorem f_118_72 : ab_ft (ab_CM 118) 72 = some (.getfield 796, 144, 787) := by decide +kernel
theorem f_118_75 : ab_ft (ab_CM 118) 75 = some (.aload_n 0, 0, 0) := by decide +kernel
theorem f_118_76 : ab_ft (ab_CM 118) 76 = some (.getfield 780, 141, 771) := by decide +kernel
theorem f_118_79 : ab_ft (ab_CM 118) 79 = some (.if_icmp .ne 90, 0, 0) := by decide +kernel
theorem f_118_82 : ab_ft (ab_CM 118) 82 = some (.aload_n 0, 0, 0) := by decide +kernel
theorem f_118_83 : ab_ft (ab_CM 118) 83 = some (.iconst 2, 0, 0) := by decide +kernel
theorem f_118_84 : ab_ft (ab_CM 118) 84 = some (.putfield 4894, 150, 789) := by decide +kernel
theorem f_118_87 : ab_ft (ab_CM 118) 87 = some (.goto 286, 0, 0) := by decide +kernel
theorem f_118_90 : ab_ft (ab_CM 118) 90 = some (.iload_n 1, 0, 0) := by decide +kernel
theorem f_118_91 : ab_ft (ab_CM 118) 91 = some (.i2l, 0, 0) := by decide +kernel
theorem f_118_92 : ab_ft (ab_CM 118) 92 = some (.ldc2_w 5, 153, 927) := by decide +kernel
theorem f_118_95 : ab_ft (ab_CM 118) 95 = some (.ldc2_w 6, 155, 928) := by decide +kernel
theorem f_118_98 : ab_ft (ab_CM 118) 98 = some (.invokestatic 99, 100, 876) := by decide +kernel
theorem f_118_101 : ab_ft (ab_CM 118) 101 = some (.ifCond .eq 237, 0, 0) := by decide +kernel
theorem f_118_104 : ab_ft (ab_CM 118) 104 = some (.aload_n 0, 0, 0) := by decide +kernel
theorem f_118_105 : ab_ft (ab_CM 118) 105 = some (.iconst 0, 0, 0) := by decide +kernel
theorem f_118_106 : ab_ft (ab_CM 118) 106 = some (.putfield 4895, 157, 790) := by decide +kernel
theorem f_118_109 : ab_ft (ab_CM 118) 109 = some (.aload_n 0, 0, 0) := by decide +kernel
theorem f_118_110 : ab_ft (ab_CM 118) 110 = some (.getfield 796, 144, 787) := by decide +kernel
theorem f_118_113 : ab_ft (ab_CM 118) 113 = some (.aload_n 0, 0, 0) := by decide +kernel
theorem f_118_114 : ab_ft (ab_CM 118) 114 = some (.getfield 780, 141, 771) := by decide +kernel
theorem f_118_117 : ab_ft (ab_CM 118) 117 = some (.if_icmp .ge 196, 0, 0) := by decide +kernel
theorem f_118_120 : ab_ft (ab_CM 118) 120 = some (.aload_n 0, 0, 0) := by decide +kernel
theorem f_118_121 : ab_ft (ab_CM 118) 121 = some (.getfield 779, 40, 770) := by decide +kernel
theorem f_118_124 : ab_ft (ab_CM 118) 124 = some (.aload_n 0, 0, 0) := by decide +kernel
theorem f_118_125 : ab_ft (ab_CM 118) 125 = some (.getfield 796, 144, 787) := by decide +kernel
theorem f_118_128 : ab_ft (ab_CM 118) 128 = some (.iaload, 0, 0) := by decide +kernel
theorem f_118_129 : ab_ft (ab_CM 118) 129 = some (.i2l, 0, 0) := by decide +kernel
theorem f_118_130 : ab_ft (ab_CM 118) 130 = some (.ldc2_w 5, 153, 927) := by decide +kernel
theorem f_118_133 : ab_ft (ab_CM 118) 133 = some (.ldc2_w 6, 155, 928) := by decide +kernel
theorem f_118_136 : ab_ft (ab_CM 118) 136 = some (.invokestatic 99, 100, 876) := by decide +kernel
theorem f_118_139 : ab_ft (ab_CM 118) 139 = some (.ifCond .eq 196, 0, 0) := by decide +kernel
theorem f_118_142 : ab_ft (ab_CM 118) 142 = some (.aload_n 0, 0, 0) := by decide +kernel
theorem f_118_143 : ab_ft (ab_CM 118) 143 = some (.aload_n 0, 0, 0) := by decide +kernel
theorem f_118_144 : ab_ft (ab_CM 118) 144 = some (.getfield 799, 157, 790) := by decide +kernel
theorem f_118_147 : ab_ft (ab_CM 118) 147 = some (.sipush 999, 0, 0) := by decide +kernel
theorem f_118_150 : ab_ft (ab_CM 118) 150 = some (.if_icmp .le 160, 0, 0) := by decide +kernel
theorem f_118_153 : ab_ft (ab_CM 118) 153 = some (.aload_n 0, 0, 0) := by decide +kernel
theorem f_118_154 : ab_ft (ab_CM 118) 154 = some (.getfield 799, 157, 790) := by decide +kernel
theorem f_118_157 : ab_ft (ab_CM 118) 157 = some (.goto 180, 0, 0) := by decide +kernel
theorem f_118_160 : ab_ft (ab_CM 118) 160 = some (.bipush 10, 0, 0) := by decide +kernel
theorem f_118_162 : ab_ft (ab_CM 118) 162 = some (.aload_n 0, 0, 0) := by decide +kernel
theorem f_118_163 : ab_ft (ab_CM 118) 163 = some (.getfield 799, 157, 790) := by decide +kernel
theorem f_118_166 : ab_ft (ab_CM 118) 166 = some (.imul, 0, 0) := by decide +kernel
theorem f_118_167 : ab_ft (ab_CM 118) 167 = some (.aload_n 0, 0, 0) := by decide +kernel
theorem f_118_168 : ab_ft (ab_CM 118) 168 = some (.getfield 779, 40, 770) := by decide +kernel
theorem f_118_171 : ab_ft (ab_CM 118) 171 = some (.aload_n 0, 0, 0) := by decide +kernel
theorem f_118_172 : ab_ft (ab_CM 118) 172 = some (.getfield 796, 144, 787) := by decide +kernel
theorem f_118_175 : ab_ft (ab_CM 118) 175 = some (.iaload, 0, 0) := by decide +kernel
theorem f_118_176 : ab_ft (ab_CM 118) 176 = some (.iadd, 0, 0) := by decide +kernel
theorem f_118_177 : ab_ft (ab_CM 118) 177 = some (.bipush 48, 0, 0) := by decide +kernel
theorem f_118_179 : ab_ft (ab_CM 118) 179 = some (.isub, 0, 0) := by decide +kernel
theorem f_118_180 : ab_ft (ab_CM 118) 180 = some (.putfield 4895, 157, 790) := by decide +kernel
theorem f_118_183 : ab_ft (ab_CM 118) 183 = some (.aload_n 0, 0, 0) := by decide +kernel
theorem f_118_184 : ab_ft (ab_CM 118) 184 = some (.dup, 0, 0) := by decide +kernel
theorem f_118_185 : ab_ft (ab_CM 118) 185 = some (.getfield 796, 144, 787) := by decide +kernel
theorem f_118_188 : ab_ft (ab_CM 118) 188 = some (.iconst 1, 0, 0) := by decide +kernel
theorem f_118_189 : ab_ft (ab_CM 118) 189 = some (.iadd, 0, 0) := by decide +kernel
theorem f_118_190 : ab_ft (ab_CM 118) 190 = some (.putfield 4892, 144, 787) := by decide +kernel
theorem f_118_193 : ab_ft (ab_CM 118) 193 = some (.goto 109, 0, 0) := by decide +kernel
theorem f_118_196 : ab_ft (ab_CM 118) 196 = some (.aload_n 0, 0, 0) := by decide +kernel
theorem f_118_197 : ab_ft (ab_CM 118) 197 = some (.aload_n 0, 0, 0) := by decide +kernel
theorem f_118_198 : ab_ft (ab_CM 118) 198 = some (.getfield 799, 157, 790) := by decide +kernel
theorem f_118_201 : ab_ft (ab_CM 118) 201 = some (.sipush 999, 0, 0) := by decide +kernel
theorem f_118_204 : ab_ft (ab_CM 118) 204 = some (.if_icmp .gt 226, 0, 0) := by decide +kernel
theorem f_118_207 : ab_ft (ab_CM 118) 207 = some (.iload_n 1, 0, 0) := by decide +kernel
theorem f_118_208 : ab_ft (ab_CM 118) 208 = some (.bipush 48, 0, 0) := by decide +kernel
theorem f_118_210 : ab_ft (ab_CM 118) 210 = some (.if_icmp .ne 230, 0, 0) := by decide +kernel
theorem f_118_213 : ab_ft (ab_CM 118) 213 = some (.aload_n 0, 0, 0) := by decide +kernel
theorem f_118_214 : ab_ft (ab_CM 118) 214 = some (.getfield 796, 144, 787) := by decide +kernel
theorem f_118_217 : ab_ft (ab_CM 118) 217 = some (.aload_n 0, 0, 0) := by decide +kernel
theorem f_118_218 : ab_ft (ab_CM 118) 218 = some (.getfield 797, 147, 788) := by decide +kernel
theorem f_118_221 : ab_ft (ab_CM 118) 221 = some (.iconst 1, 0, 0) := by decide +kernel
theorem f_118_222 : ab_ft (ab_CM 118) 222 = some (.iadd, 0, 0) := by decide +kernel
theorem f_118_223 : ab_ft (ab_CM 118) 223 = some (.if_icmp .le 230, 0, 0) := by decide +kernel
theorem f_118_226 : ab_ft (ab_CM 118) 226 = some (.iconst 3, 0, 0) := by decide +kernel
theorem f_118_227 : ab_ft (ab_CM 118) 227 = some (.goto 231, 0, 0) := by decide +kernel
theorem f_118_230 : ab_ft (ab_CM 118) 230 = some (.iconst 1, 0, 0) := by decide +kernel
theorem f_118_231 : ab_ft (ab_CM 118) 231 = some (.putfield 4894, 150, 789) := by decide +kernel
theorem f_118_234 : ab_ft (ab_CM 118) 234 = some (.goto 286, 0, 0) := by decide +kernel
theorem f_118_237 : ab_ft (ab_CM 118) 237 = some (.aload_n 0, 0, 0) := by decide +kernel
theorem f_118_238 : ab_ft (ab_CM 118) 238 = some (.iload_n 1, 0, 0) := by decide +kernel
theorem f_118_239 : ab_ft (ab_CM 118) 239 = some (.bipush 115, 0, 0) := by decide +kernel
theorem kb_115 : (Int8.ofInt (115)).toInt32 = nI 115 := by decide +kernel
theorem f_118_241 : ab_ft (ab_CM 118) 241 = some (.if_icmp .eq 268, 0, 0) := by decide +kernel
theorem f_118_244 : ab_ft (ab_CM 118) 244 = some (.iload_n 1, 0, 0) := by decide +kernel
theorem f_118_245 : ab_ft (ab_CM 118) 245 = some (.bipush 97, 0, 0) := by decide +kernel
theorem kb_97 : (Int8.ofInt (97)).toInt32 = nI 97 := by decide +kernel
theorem f_118_247 : ab_ft (ab_CM 118) 247 = some (.if_icmp .eq 268, 0, 0) := by decide +kernel
theorem f_118_250 : ab_ft (ab_CM 118) 250 = some (.iload_n 1, 0, 0) := by decide +kernel
theorem f_118_251 : ab_ft (ab_CM 118) 251 = some (.bipush 98, 0, 0) := by decide +kernel
theorem kb_98 : (Int8.ofInt (98)).toInt32 = nI 98 := by decide +kernel
theorem f_118_253 : ab_ft (ab_CM 118) 253 = some (.if_icmp .eq 268, 0, 0) := by decide +kernel
theorem f_118_256 : ab_ft (ab_CM 118) 256 = some (.iload_n 1, 0, 0) := by decide +kernel
theorem f_118_257 : ab_ft (ab_CM 118) 257 = some (.bipush 45, 0, 0) := by decide +kernel
theorem f_118_259 : ab_ft (ab_CM 118) 259 = some (.if_icmp .eq 268, 0, 0) := by decide +kernel
theorem f_118_262 : ab_ft (ab_CM 118) 262 = some (.iload_n 1, 0, 0) := by decide +kernel
theorem f_118_263 : ab_ft (ab_CM 118) 263 = some (.bipush 59, 0, 0) := by decide +kernel
theorem f_118_265 : ab_ft (ab_CM 118) 265 = some (.if_icmp .ne 272, 0, 0) := by decide +kernel
theorem f_118_268 : ab_ft (ab_CM 118) 268 = some (.iload_n 1, 0, 0) := by decide +kernel
theorem f_118_269 : ab_ft (ab_CM 118) 269 = some (.goto 273, 0, 0) := by decide +kernel
theorem f_118_272 : ab_ft (ab_CM 118) 272 = some (.iconst 3, 0, 0) := by decide +kernel
theorem f_118_273 : ab_ft (ab_CM 118) 273 = some (.putfield 4894, 150, 789) := by decide +kernel
theorem f_118_276 : ab_ft (ab_CM 118) 276 = some (.aload_n 0, 0, 0) := by decide +kernel
theorem f_118_277 : ab_ft (ab_CM 118) 277 = some (.dup, 0, 0) := by decide +kernel
theorem f_118_278 : ab_ft (ab_CM 118) 278 = some (.getfield 796, 144, 787) := by decide +kernel
theorem f_118_281 : ab_ft (ab_CM 118) 281 = some (.iconst 1, 0, 0) := by decide +kernel
theorem f_118_282 : ab_ft (ab_CM 118) 282 = some (.iadd, 0, 0) := by decide +kernel
theorem f_118_283 : ab_ft (ab_CM 118) 283 = some (.putfield 4892, 144, 787) := by decide +kernel
theorem f_118_286 : ab_ft (ab_CM 118) 286 = some (.return_, 0, 0) := by decide +kernel
theorem my_118_99 : sg_may 1 118 99 = true := by decide +kernel
theorem mr_118 : ab_MR 118 = (12, 0, 0, 2, 0, 1, 25) := by decide +kernel
theorem rk_118 : (ab_MR 118).2.2.2.2.1 = 0 := by decide +kernel
theorem f_119_0 : ab_ft (ab_CM 119) 0 = some (.aload_n 0, 0, 0) := by decide +kernel
theorem f_119_1 : ab_ft (ab_CM 119) 1 = some (.invokevirtual 118, 160, 923) := by decide +kernel
theorem f_119_4 : ab_ft (ab_CM 119) 4 = some (.aload_n 0, 0, 0) := by decide +kernel
theorem f_119_5 : ab_ft (ab_CM 119) 5 = some (.getfield 798, 150, 789) := by decide +kernel
theorem f_119_8 : ab_ft (ab_CM 119) 8 = some (.iconst 1, 0, 0) := by decide +kernel
theorem f_119_9 : ab_ft (ab_CM 119) 9 = some (.if_icmp .ne 31, 0, 0) := by decide +kernel
theorem f_119_12 : ab_ft (ab_CM 119) 12 = some (.aload_n 0, 0, 0) := by decide +kernel
theorem f_119_13 : ab_ft (ab_CM 119) 13 = some (.getfield 799, 157, 790) := by decide +kernel
theorem f_119_16 : ab_ft (ab_CM 119) 16 = some (.i2l, 0, 0) := by decide +kernel
theorem f_119_17 : ab_ft (ab_CM 119) 17 = some (.iload_n 1, 0, 0) := by decide +kernel
theorem f_119_18 : ab_ft (ab_CM 119) 18 = some (.i2l, 0, 0) := by decide +kernel
theorem f_119_19 : ab_ft (ab_CM 119) 19 = some (.iload_n 2, 0, 0) := by decide +kernel
theorem f_119_20 : ab_ft (ab_CM 119) 20 = some (.i2l, 0, 0) := by decide +kernel
theorem f_119_21 : ab_ft (ab_CM 119) 21 = some (.invokestatic 99, 100, 876) := by decide +kernel
theorem f_119_24 : ab_ft (ab_CM 119) 24 = some (.ifCond .eq 31, 0, 0) := by decide +kernel
theorem f_119_27 : ab_ft (ab_CM 119) 27 = some (.iconst 1, 0, 0) := by decide +kernel
theorem f_119_28 : ab_ft (ab_CM 119) 28 = some (.goto 32, 0, 0) := by decide +kernel
theorem f_119_31 : ab_ft (ab_CM 119) 31 = some (.iconst 0, 0, 0) := by decide +kernel
theorem f_119_32 : ab_ft (ab_CM 119) 32 = some (.ireturn, 0, 0) := by decide +kernel
theorem my_119_99 : sg_may 1 119 99 = true := by decide +kernel
theorem my_119_118 : sg_may 0 119 118 = true := by decide +kernel
theorem mr_119 : ab_MR 119 = (12, 0, 2, 3, 2, 2, 46) := by decide +kernel
theorem rk_119 : (ab_MR 119).2.2.2.2.1 = 2 := by decide +kernel
theorem f_120_0 : ab_ft (ab_CM 120) 0 = some (.aload_n 0, 0, 0) := by decide +kernel
theorem f_120_1 : ab_ft (ab_CM 120) 1 = some (.getfield 798, 150, 789) := by decide +kernel
theorem f_120_4 : ab_ft (ab_CM 120) 4 = some (.istore_n 1, 0, 0) := by decide +kernel
theorem f_120_5 : ab_ft (ab_CM 120) 5 = some (.iload_n 1, 0, 0) := by decide +kernel
theorem f_120_6 : ab_ft (ab_CM 120) 6 = some (.bipush 115, 0, 0) := by decide +kernel
theorem f_120_8 : ab_ft (ab_CM 120) 8 = some (.if_icmp .ne 42, 0, 0) := by decide +kernel
theorem f_120_11 : ab_ft (ab_CM 120) 11 = some (.aload_n 0, 0, 0) := by decide +kernel
theorem f_120_12 : ab_ft (ab_CM 120) 12 = some (.getfield 801, 163, 792) := by decide +kernel
theorem f_120_15 : ab_ft (ab_CM 120) 15 = some (.ifCond .gt 27, 0, 0) := by decide +kernel
theorem f_120_18 : ab_ft (ab_CM 120) 18 = some (.aload_n 0, 0, 0) := by decide +kernel
theorem f_120_19 : ab_ft (ab_CM 120) 19 = some (.iconst 1, 0, 0) := by decide +kernel
theorem f_120_20 : ab_ft (ab_CM 120) 20 = some (.iconst 4, 0, 0) := by decide +kernel
theorem f_120_21 : ab_ft (ab_CM 120) 21 = some (.invokevirtual 119, 166, 933) := by decide +kernel
theorem f_120_24 : ab_ft (ab_CM 120) 24 = some (.ifCond .ne 29, 0, 0) := by decide +kernel
theorem f_120_27 : ab_ft (ab_CM 120) 27 = some (.iconst 0, 0, 0) := by decide +kernel
theorem f_120_28 : ab_ft (ab_CM 120) 28 = some (.ireturn, 0, 0) := by decide +kernel
theorem f_120_29 : ab_ft (ab_CM 120) 29 = some (.aload_n 0, 0, 0) := by decide +kernel
theorem f_120_30 : ab_ft (ab_CM 120) 30 = some (.getfield 800, 81, 791) := by decide +kernel
theorem f_120_33 : ab_ft (ab_CM 120) 33 = some (.iconst 0, 0, 0) := by decide +kernel
theorem f_120_34 : ab_ft (ab_CM 120) 34 = some (.aload_n 0, 0, 0) := by decide +kernel
theorem f_120_35 : ab_ft (ab_CM 120) 35 = some (.getfield 799, 157, 790) := by decide +kernel
theorem f_120_38 : ab_ft (ab_CM 120) 38 = some (.iastore, 0, 0) := by decide +kernel
theorem f_120_39 : ab_ft (ab_CM 120) 39 = some (.goto 202, 0, 0) := by decide +kernel
theorem f_120_42 : ab_ft (ab_CM 120) 42 = some (.iload_n 1, 0, 0) := by decide +kernel
theorem f_120_43 : ab_ft (ab_CM 120) 43 = some (.bipush 97, 0, 0) := by decide +kernel
theorem f_120_45 : ab_ft (ab_CM 120) 45 = some (.if_icmp .eq 54, 0, 0) := by decide +kernel
theorem f_120_48 : ab_ft (ab_CM 120) 48 = some (.iload_n 1, 0, 0) := by decide +kernel
theorem f_120_49 : ab_ft (ab_CM 120) 49 = some (.bipush 98, 0, 0) := by decide +kernel
theorem f_120_51 : ab_ft (ab_CM 120) 51 = some (.if_icmp .ne 200, 0, 0) := by decide +kernel
theorem f_120_54 : ab_ft (ab_CM 120) 54 = some (.aload_n 0, 0, 0) := by decide +kernel
theorem f_120_55 : ab_ft (ab_CM 120) 55 = some (.iconst 0, 0, 0) := by decide +kernel
theorem f_120_56 : ab_ft (ab_CM 120) 56 = some (.aload_n 0, 0, 0) := by decide +kernel
theorem f_120_57 : ab_ft (ab_CM 120) 57 = some (.getfield 800, 81, 791) := by decide +kernel
theorem f_120_60 : ab_ft (ab_CM 120) 60 = some (.iconst 0, 0, 0) := by decide +kernel
theorem f_120_61 : ab_ft (ab_CM 120) 61 = some (.iaload, 0, 0) := by decide +kernel
theorem f_120_62 : ab_ft (ab_CM 120) 62 = some (.iconst 1, 0, 0) := by decide +kernel
theorem f_120_63 : ab_ft (ab_CM 120) 63 = some (.isub, 0, 0) := by decide +kernel
theorem f_120_64 : ab_ft (ab_CM 120) 64 = some (.invokevirtual 119, 166, 933) := by decide +kernel
theorem f_120_67 : ab_ft (ab_CM 120) 67 = some (.ifCond .ne 72, 0, 0) := by decide +kernel
theorem f_120_70 : ab_ft (ab_CM 120) 70 = some (.iconst 0, 0, 0) := by decide +kernel
theorem f_120_71 : ab_ft (ab_CM 120) 71 = some (.ireturn, 0, 0) := by decide +kernel
theorem f_120_72 : ab_ft (ab_CM 120) 72 = some (.iload_n 1, 0, 0) := by decide +kernel
theorem f_120_73 : ab_ft (ab_CM 120) 73 = some (.bipush 97, 0, 0) := by decide +kernel
theorem f_120_75 : ab_ft (ab_CM 120) 75 = some (.if_icmp .ne 89, 0, 0) := by decide +kernel
theorem f_120_78 : ab_ft (ab_CM 120) 78 = some (.iconst 1, 0, 0) := by decide +kernel
theorem f_120_79 : ab_ft (ab_CM 120) 79 = some (.iconst 4, 0, 0) := by decide +kernel
theorem f_120_80 : ab_ft (ab_CM 120) 80 = some (.aload_n 0, 0, 0) := by decide +kernel
theorem f_120_81 : ab_ft (ab_CM 120) 81 = some (.getfield 799, 157, 790) := by decide +kernel
theorem f_120_84 : ab_ft (ab_CM 120) 84 = some (.imul, 0, 0) := by decide +kernel
theorem f_120_85 : ab_ft (ab_CM 120) 85 = some (.iadd, 0, 0) := by decide +kernel
theorem f_120_86 : ab_ft (ab_CM 120) 86 = some (.goto 96, 0, 0) := by decide +kernel
theorem f_120_89 : ab_ft (ab_CM 120) 89 = some (.bipush 17, 0, 0) := by decide +kernel
theorem f_120_91 : ab_ft (ab_CM 120) 91 = some (.aload_n 0, 0, 0) := by decide +kernel
theorem f_120_92 : ab_ft (ab_CM 120) 92 = some (.getfield 799, 157, 790) := by decide +kernel
theorem f_120_95 : ab_ft (ab_CM 120) 95 = some (.iadd, 0, 0) := by decide +kernel
theorem f_120_96 : ab_ft (ab_CM 120) 96 = some (.istore_n 2, 0, 0) := by decide +kernel
theorem f_120_97 : ab_ft (ab_CM 120) 97 = some (.iload_n 1, 0, 0) := by decide +kernel
theorem f_120_98 : ab_ft (ab_CM 120) 98 = some (.bipush 97, 0, 0) := by decide +kernel
theorem f_120_100 : ab_ft (ab_CM 120) 100 = some (.if_icmp .ne 128, 0, 0) := by decide +kernel
theorem f_120_103 : ab_ft (ab_CM 120) 103 = some (.aload_n 0, 0, 0) := by decide +kernel
theorem f_120_104 : ab_ft (ab_CM 120) 104 = some (.iconst 0, 0, 0) := by decide +kernel
theorem f_120_105 : ab_ft (ab_CM 120) 105 = some (.aload_n 0, 0, 0) := by decide +kernel
theorem f_120_106 : ab_ft (ab_CM 120) 106 = some (.getfield 800, 81, 791) := by decide +kernel
theorem f_120_109 : ab_ft (ab_CM 120) 109 = some (.iconst 0, 0, 0) := by decide +kernel
theorem f_120_110 : ab_ft (ab_CM 120) 110 = some (.iaload, 0, 0) := by decide +kernel
theorem f_120_111 : ab_ft (ab_CM 120) 111 = some (.iconst 1, 0, 0) := by decide +kernel
theorem f_120_112 : ab_ft (ab_CM 120) 112 = some (.isub, 0, 0) := by decide +kernel
theorem f_120_113 : ab_ft (ab_CM 120) 113 = some (.invokevirtual 119, 166, 933) := by decide +kernel
theorem f_120_116 : ab_ft (ab_CM 120) 116 = some (.ifCond .ne 121, 0, 0) := by decide +kernel
theorem f_120_119 : ab_ft (ab_CM 120) 119 = some (.iconst 0, 0, 0) := by decide +kernel
theorem f_120_120 : ab_ft (ab_CM 120) 120 = some (.ireturn, 0, 0) := by decide +kernel
theorem f_120_121 : ab_ft (ab_CM 120) 121 = some (.iload_n 2, 0, 0) := by decide +kernel
theorem f_120_122 : ab_ft (ab_CM 120) 122 = some (.aload_n 0, 0, 0) := by decide +kernel
theorem f_120_123 : ab_ft (ab_CM 120) 123 = some (.getfield 799, 157, 790) := by decide +kernel
theorem f_120_126 : ab_ft (ab_CM 120) 126 = some (.iadd, 0, 0) := by decide +kernel
theorem f_120_127 : ab_ft (ab_CM 120) 127 = some (.istore_n 2, 0, 0) := by decide +kernel
theorem f_120_128 : ab_ft (ab_CM 120) 128 = some (.aload_n 0, 0, 0) := by decide +kernel
theorem f_120_129 : ab_ft (ab_CM 120) 129 = some (.invokevirtual 118, 160, 923) := by decide +kernel
theorem f_120_132 : ab_ft (ab_CM 120) 132 = some (.aload_n 0, 0, 0) := by decide +kernel
theorem f_120_133 : ab_ft (ab_CM 120) 133 = some (.getfield 798, 150, 789) := by decide +kernel
theorem f_120_136 : ab_ft (ab_CM 120) 136 = some (.bipush 45, 0, 0) := by decide +kernel
theorem f_120_138 : ab_ft (ab_CM 120) 138 = some (.if_icmp .ne 145, 0, 0) := by decide +kernel
theorem f_120_141 : ab_ft (ab_CM 120) 141 = some (.iconst 1, 0, 0) := by decide +kernel
theorem f_120_142 : ab_ft (ab_CM 120) 142 = some (.goto 146, 0, 0) := by decide +kernel
theorem f_120_145 : ab_ft (ab_CM 120) 145 = some (.iconst 0, 0, 0) := by decide +kernel
theorem f_120_146 : ab_ft (ab_CM 120) 146 = some (.istore_n 3, 0, 0) := by decide +kernel
theorem f_120_147 : ab_ft (ab_CM 120) 147 = some (.iload_n 3, 0, 0) := by decide +kernel
theorem f_120_148 : ab_ft (ab_CM 120) 148 = some (.ifCond .eq 155, 0, 0) := by decide +kernel
theorem f_120_151 : ab_ft (ab_CM 120) 151 = some (.aload_n 0, 0, 0) := by decide +kernel
theorem f_120_152 : ab_ft (ab_CM 120) 152 = some (.invokevirtual 118, 160, 923) := by decide +kernel
theorem f_120_155 : ab_ft (ab_CM 120) 155 = some (.aload_n 0, 0, 0) := by decide +kernel
theorem f_120_156 : ab_ft (ab_CM 120) 156 = some (.getfield 798, 150, 789) := by decide +kernel
theorem f_120_159 : ab_ft (ab_CM 120) 159 = some (.iconst 1, 0, 0) := by decide +kernel
theorem f_120_160 : ab_ft (ab_CM 120) 160 = some (.if_icmp .ne 173, 0, 0) := by decide +kernel
theorem f_120_163 : ab_ft (ab_CM 120) 163 = some (.aload_n 0, 0, 0) := by decide +kernel
theorem f_120_164 : ab_ft (ab_CM 120) 164 = some (.getfield 799, 157, 790) := by decide +kernel
theorem f_120_167 : ab_ft (ab_CM 120) 167 = some (.sipush 600, 0, 0) := by decide +kernel
theorem f_120_170 : ab_ft (ab_CM 120) 170 = some (.if_icmp .le 175, 0, 0) := by decide +kernel
theorem f_120_173 : ab_ft (ab_CM 120) 173 = some (.iconst 0, 0, 0) := by decide +kernel
theorem f_120_174 : ab_ft (ab_CM 120) 174 = some (.ireturn, 0, 0) := by decide +kernel
theorem f_120_175 : ab_ft (ab_CM 120) 175 = some (.aload_n 0, 0, 0) := by decide +kernel
theorem f_120_176 : ab_ft (ab_CM 120) 176 = some (.getfield 800, 81, 791) := by decide +kernel
theorem f_120_179 : ab_ft (ab_CM 120) 179 = some (.iload_n 2, 0, 0) := by decide +kernel
theorem f_120_180 : ab_ft (ab_CM 120) 180 = some (.iload_n 3, 0, 0) := by decide +kernel
theorem f_120_181 : ab_ft (ab_CM 120) 181 = some (.ifCond .eq 192, 0, 0) := by decide +kernel
theorem f_120_184 : ab_ft (ab_CM 120) 184 = some (.aload_n 0, 0, 0) := by decide +kernel
theorem f_120_185 : ab_ft (ab_CM 120) 185 = some (.getfield 799, 157, 790) := by decide +kernel
theorem f_120_188 : ab_ft (ab_CM 120) 188 = some (.ineg, 0, 0) := by decide +kernel
theorem f_120_189 : ab_ft (ab_CM 120) 189 = some (.goto 196, 0, 0) := by decide +kernel
theorem f_120_192 : ab_ft (ab_CM 120) 192 = some (.aload_n 0, 0, 0) := by decide +kernel
theorem f_120_193 : ab_ft (ab_CM 120) 193 = some (.getfield 799, 157, 790) := by decide +kernel
theorem f_120_196 : ab_ft (ab_CM 120) 196 = some (.iastore, 0, 0) := by decide +kernel
theorem f_120_197 : ab_ft (ab_CM 120) 197 = some (.goto 202, 0, 0) := by decide +kernel
theorem f_120_200 : ab_ft (ab_CM 120) 200 = some (.iconst 0, 0, 0) := by decide +kernel
theorem f_120_201 : ab_ft (ab_CM 120) 201 = some (.ireturn, 0, 0) := by decide +kernel
theorem f_120_202 : ab_ft (ab_CM 120) 202 = some (.aload_n 0, 0, 0) := by decide +kernel
theorem f_120_203 : ab_ft (ab_CM 120) 203 = some (.invokevirtual 118, 160, 923) := by decide +kernel
theorem f_120_206 : ab_ft (ab_CM 120) 206 = some (.aload_n 0, 0, 0) := by decide +kernel
theorem f_120_207 : ab_ft (ab_CM 120) 207 = some (.dup, 0, 0) := by decide +kernel
theorem f_120_208 : ab_ft (ab_CM 120) 208 = some (.getfield 801, 163, 792) := by decide +kernel
theorem f_120_211 : ab_ft (ab_CM 120) 211 = some (.iconst 1, 0, 0) := by decide +kernel
theorem f_120_212 : ab_ft (ab_CM 120) 212 = some (.iadd, 0, 0) := by decide +kernel
theorem f_120_213 : ab_ft (ab_CM 120) 213 = some (.putfield 4897, 163, 792) := by decide +kernel
theorem f_120_216 : ab_ft (ab_CM 120) 216 = some (.aload_n 0, 0, 0) := by decide +kernel
theorem f_120_217 : ab_ft (ab_CM 120) 217 = some (.getfield 798, 150, 789) := by decide +kernel
theorem f_120_220 : ab_ft (ab_CM 120) 220 = some (.bipush 59, 0, 0) := by decide +kernel
theorem f_120_222 : ab_ft (ab_CM 120) 222 = some (.if_icmp .ne 229, 0, 0) := by decide +kernel
theorem f_120_225 : ab_ft (ab_CM 120) 225 = some (.iconst 1, 0, 0) := by decide +kernel
theorem f_120_226 : ab_ft (ab_CM 120) 226 = some (.goto 230, 0, 0) := by decide +kernel
theorem f_120_229 : ab_ft (ab_CM 120) 229 = some (.iconst 0, 0, 0) := by decide +kernel
theorem f_120_230 : ab_ft (ab_CM 120) 230 = some (.ireturn, 0, 0) := by decide +kernel
theorem my_120_118 : sg_may 0 120 118 = true := by decide +kernel
theorem my_120_119 : sg_may 0 120 119 = true := by decide +kernel
theorem mr_120 : ab_MR 120 = (12, 0, 0, 4, 2, 3, 68) := by decide +kernel
theorem rk_120 : (ab_MR 120).2.2.2.2.1 = 2 := by decide +kernel
theorem f_121_0 : ab_ft (ab_CM 121) 0 = some (.iconst 0, 0, 0) := by decide +kernel
theorem f_121_1 : ab_ft (ab_CM 121) 1 = some (.istore_n 1, 0, 0) := by decide +kernel
theorem f_121_2 : ab_ft (ab_CM 121) 2 = some (.iload_n 1, 0, 0) := by decide +kernel
theorem f_121_3 : ab_ft (ab_CM 121) 3 = some (.bipush 21, 0, 0) := by decide +kernel
theorem kb_21 : (Int8.ofInt (21)).toInt32 = nI 21 := by decide +kernel
theorem f_121_5 : ab_ft (ab_CM 121) 5 = some (.if_icmp .ge 29, 0, 0) := by decide +kernel
theorem f_121_8 : ab_ft (ab_CM 121) 8 = some (.aload_n 0, 0, 0) := by decide +kernel
theorem f_121_9 : ab_ft (ab_CM 121) 9 = some (.getfield 800, 81, 791) := by decide +kernel
theorem f_121_12 : ab_ft (ab_CM 121) 12 = some (.iload_n 1, 0, 0) := by decide +kernel
theorem f_121_13 : ab_ft (ab_CM 121) 13 = some (.iload_n 1, 0, 0) := by decide +kernel
theorem f_121_14 : ab_ft (ab_CM 121) 14 = some (.ifCond .ne 21, 0, 0) := by decide +kernel
theorem f_121_17 : ab_ft (ab_CM 121) 17 = some (.iconst 1, 0, 0) := by decide +kernel
theorem f_121_18 : ab_ft (ab_CM 121) 18 = some (.goto 22, 0, 0) := by decide +kernel
theorem f_121_21 : ab_ft (ab_CM 121) 21 = some (.iconst 0, 0, 0) := by decide +kernel
theorem f_121_22 : ab_ft (ab_CM 121) 22 = some (.iastore, 0, 0) := by decide +kernel
theorem f_121_23 : ab_ft (ab_CM 121) 23 = some (.iinc 1 1, 0, 0) := by decide +kernel
theorem f_121_26 : ab_ft (ab_CM 121) 26 = some (.goto 2, 0, 0) := by decide +kernel
theorem f_121_29 : ab_ft (ab_CM 121) 29 = some (.aload_n 0, 0, 0) := by decide +kernel
theorem f_121_30 : ab_ft (ab_CM 121) 30 = some (.iconst 0, 0, 0) := by decide +kernel
theorem f_121_31 : ab_ft (ab_CM 121) 31 = some (.putfield 4892, 144, 787) := by decide +kernel
theorem f_121_34 : ab_ft (ab_CM 121) 34 = some (.aload_n 0, 0, 0) := by decide +kernel
theorem f_121_35 : ab_ft (ab_CM 121) 35 = some (.iconst 0, 0, 0) := by decide +kernel
theorem f_121_36 : ab_ft (ab_CM 121) 36 = some (.putfield 4897, 163, 792) := by decide +kernel
theorem f_121_39 : ab_ft (ab_CM 121) 39 = some (.aload_n 0, 0, 0) := by decide +kernel
theorem f_121_40 : ab_ft (ab_CM 121) 40 = some (.invokevirtual 118, 160, 923) := by decide +kernel
theorem f_121_43 : ab_ft (ab_CM 121) 43 = some (.aload_n 0, 0, 0) := by decide +kernel
theorem f_121_44 : ab_ft (ab_CM 121) 44 = some (.getfield 798, 150, 789) := by decide +kernel
theorem f_121_47 : ab_ft (ab_CM 121) 47 = some (.iconst 2, 0, 0) := by decide +kernel
theorem f_121_48 : ab_ft (ab_CM 121) 48 = some (.if_icmp .eq 70, 0, 0) := by decide +kernel
theorem f_121_51 : ab_ft (ab_CM 121) 51 = some (.aload_n 0, 0, 0) := by decide +kernel
theorem f_121_52 : ab_ft (ab_CM 121) 52 = some (.invokevirtual 120, 170, 929) := by decide +kernel
theorem f_121_55 : ab_ft (ab_CM 121) 55 = some (.ifCond .ne 63, 0, 0) := by decide +kernel
theorem f_121_58 : ab_ft (ab_CM 121) 58 = some (.aload_n 0, 0, 0) := by decide +kernel
theorem f_121_59 : ab_ft (ab_CM 121) 59 = some (.getfield 797, 147, 788) := by decide +kernel
theorem f_121_62 : ab_ft (ab_CM 121) 62 = some (.ireturn, 0, 0) := by decide +kernel
theorem f_121_63 : ab_ft (ab_CM 121) 63 = some (.aload_n 0, 0, 0) := by decide +kernel
theorem f_121_64 : ab_ft (ab_CM 121) 64 = some (.invokevirtual 118, 160, 923) := by decide +kernel
theorem f_121_67 : ab_ft (ab_CM 121) 67 = some (.goto 43, 0, 0) := by decide +kernel
theorem f_121_70 : ab_ft (ab_CM 121) 70 = some (.bipush (-9), 0, 0) := by decide +kernel
theorem f_121_72 : ab_ft (ab_CM 121) 72 = some (.ireturn, 0, 0) := by decide +kernel
theorem my_121_120 : sg_may 0 121 120 = true := by decide +kernel
theorem my_121_118 : sg_may 0 121 118 = true := by decide +kernel
theorem mr_121 : ab_MR 121 = (12, 0, 0, 2, 1, 4, 91) := by decide +kernel
theorem rk_121 : (ab_MR 121).2.2.2.2.1 = 1 := by decide +kernel
theorem f_122_0 : ab_ft (ab_CM 122) 0 = some (.aload_n 0, 0, 0) := by decide +kernel
theorem f_122_1 : ab_ft (ab_CM 122) 1 = some (.invokevirtual 121, 174, 919) := by decide +kernel
theorem f_122_4 : ab_ft (ab_CM 122) 4 = some (.istore_n 1, 0, 0) := by decide +kernel
theorem f_122_5 : ab_ft (ab_CM 122) 5 = some (.iload_n 1, 0, 0) := by decide +kernel
theorem f_122_6 : ab_ft (ab_CM 122) 6 = some (.bipush (-9), 0, 0) := by decide +kernel
theorem f_122_8 : ab_ft (ab_CM 122) 8 = some (.if_icmp .eq 16, 0, 0) := by decide +kernel
theorem f_122_11 : ab_ft (ab_CM 122) 11 = some (.bipush (-10), 0, 0) := by decide +kernel
theorem f_122_13 : ab_ft (ab_CM 122) 13 = some (.iload_n 1, 0, 0) := by decide +kernel
theorem f_122_14 : ab_ft (ab_CM 122) 14 = some (.isub, 0, 0) := by decide +kernel
theorem f_122_15 : ab_ft (ab_CM 122) 15 = some (.ireturn, 0, 0) := by decide +kernel
theorem f_122_16 : ab_ft (ab_CM 122) 16 = some (.aload_n 0, 0, 0) := by decide +kernel
theorem f_122_17 : ab_ft (ab_CM 122) 17 = some (.invokevirtual 123, 177, 937) := by decide +kernel
theorem f_122_20 : ab_ft (ab_CM 122) 20 = some (.iconst 0, 0, 0) := by decide +kernel
theorem f_122_21 : ab_ft (ab_CM 122) 21 = some (.istore_n 2, 0, 0) := by decide +kernel
theorem f_122_22 : ab_ft (ab_CM 122) 22 = some (.iload_n 2, 0, 0) := by decide +kernel
theorem f_122_23 : ab_ft (ab_CM 122) 23 = some (.bipush 21, 0, 0) := by decide +kernel
theorem f_122_25 : ab_ft (ab_CM 122) 25 = some (.if_icmp .ge 46, 0, 0) := by decide +kernel
theorem f_122_28 : ab_ft (ab_CM 122) 28 = some (.aload_n 0, 0, 0) := by decide +kernel
theorem f_122_29 : ab_ft (ab_CM 122) 29 = some (.getfield 781, 43, 772) := by decide +kernel
theorem f_122_32 : ab_ft (ab_CM 122) 32 = some (.iload_n 2, 0, 0) := by decide +kernel
theorem f_122_33 : ab_ft (ab_CM 122) 33 = some (.aload_n 0, 0, 0) := by decide +kernel
theorem f_122_34 : ab_ft (ab_CM 122) 34 = some (.getfield 800, 81, 791) := by decide +kernel
theorem f_122_37 : ab_ft (ab_CM 122) 37 = some (.iload_n 2, 0, 0) := by decide +kernel
theorem f_122_38 : ab_ft (ab_CM 122) 38 = some (.iaload, 0, 0) := by decide +kernel
theorem f_122_39 : ab_ft (ab_CM 122) 39 = some (.iastore, 0, 0) := by decide +kernel
theorem f_122_40 : ab_ft (ab_CM 122) 40 = some (.iinc 2 1, 0, 0) := by decide +kernel
theorem f_122_43 : ab_ft (ab_CM 122) 43 = some (.goto 22, 0, 0) := by decide +kernel
theorem f_122_46 : ab_ft (ab_CM 122) 46 = some (.aload_n 0, 0, 0) := by decide +kernel
theorem f_122_47 : ab_ft (ab_CM 122) 47 = some (.iconst 0, 0, 0) := by decide +kernel
theorem f_122_48 : ab_ft (ab_CM 122) 48 = some (.putfield 4876, 141, 771) := by decide +kernel
theorem f_122_51 : ab_ft (ab_CM 122) 51 = some (.aload_n 0, 0, 0) := by decide +kernel
theorem f_122_52 : ab_ft (ab_CM 122) 52 = some (.getfield 801, 163, 792) := by decide +kernel
theorem f_122_55 : ab_ft (ab_CM 122) 55 = some (.ireturn, 0, 0) := by decide +kernel
theorem my_122_121 : sg_may 0 122 121 = true := by decide +kernel
theorem my_122_123 : sg_may 0 122 123 = true := by decide +kernel
theorem mr_122 : ab_MR 122 = (12, 0, 0, 3, 1, 5, 112) := by decide +kernel
theorem rk_122 : (ab_MR 122).2.2.2.2.1 = 1 := by decide +kernel
theorem f_123_0 : ab_ft (ab_CM 123) 0 = some (.aload_n 0, 0, 0) := by decide +kernel
theorem f_123_1 : ab_ft (ab_CM 123) 1 = some (.getfield 785, 180, 776) := by decide +kernel
theorem f_123_4 : ab_ft (ab_CM 123) 4 = some (.bipush 6, 0, 0) := by decide +kernel
theorem f_123_6 : ab_ft (ab_CM 123) 6 = some (.if_icmp .ne 78, 0, 0) := by decide +kernel
theorem f_123_9 : ab_ft (ab_CM 123) 9 = some (.iconst 0, 0, 0) := by decide +kernel
theorem f_123_10 : ab_ft (ab_CM 123) 10 = some (.istore_n 1, 0, 0) := by decide +kernel
theorem f_123_11 : ab_ft (ab_CM 123) 11 = some (.iload_n 1, 0, 0) := by decide +kernel
theorem f_123_12 : ab_ft (ab_CM 123) 12 = some (.bipush 105, 0, 0) := by decide +kernel
theorem kb_105 : (Int8.ofInt (105)).toInt32 = nI 105 := by decide +kernel
theorem f_123_14 : ab_ft (ab_CM 123) 14 = some (.if_icmp .ge 38, 0, 0) := by decide +kernel
theorem f_123_17 : ab_ft (ab_CM 123) 17 = some (.aload_n 0, 0, 0) := by decide +kernel
theorem f_123_18 : ab_ft (ab_CM 123) 18 = some (.getfield 783, 50, 774) := by decide +kernel
theorem f_123_21 : ab_ft (ab_CM 123) 21 = some (.iload_n 1, 0, 0) := by decide +kernel
theorem f_123_22 : ab_ft (ab_CM 123) 22 = some (.aload_n 0, 0, 0) := by decide +kernel
theorem f_123_23 : ab_ft (ab_CM 123) 23 = some (.getfield 783, 50, 774) := by decide +kernel
theorem f_123_26 : ab_ft (ab_CM 123) 26 = some (.iload_n 1, 0, 0) := by decide +kernel
theorem f_123_27 : ab_ft (ab_CM 123) 27 = some (.bipush 21, 0, 0) := by decide +kernel
theorem f_123_29 : ab_ft (ab_CM 123) 29 = some (.iadd, 0, 0) := by decide +kernel
theorem f_123_30 : ab_ft (ab_CM 123) 30 = some (.iaload, 0, 0) := by decide +kernel
theorem f_123_31 : ab_ft (ab_CM 123) 31 = some (.iastore, 0, 0) := by decide +kernel
theorem f_123_32 : ab_ft (ab_CM 123) 32 = some (.iinc 1 1, 0, 0) := by decide +kernel
theorem f_123_35 : ab_ft (ab_CM 123) 35 = some (.goto 11, 0, 0) := by decide +kernel
theorem f_123_38 : ab_ft (ab_CM 123) 38 = some (.iconst 0, 0, 0) := by decide +kernel
theorem f_123_39 : ab_ft (ab_CM 123) 39 = some (.istore_n 1, 0, 0) := by decide +kernel
theorem f_123_40 : ab_ft (ab_CM 123) 40 = some (.iload_n 1, 0, 0) := by decide +kernel
theorem f_123_41 : ab_ft (ab_CM 123) 41 = some (.sipush 510, 0, 0) := by decide +kernel
theorem ks_510 : (Int16.ofInt (510)).toInt32 = nI 510 := by decide +kernel
theorem f_123_44 : ab_ft (ab_CM 123) 44 = some (.if_icmp .ge 68, 0, 0) := by decide +kernel
theorem f_123_47 : ab_ft (ab_CM 123) 47 = some (.aload_n 0, 0, 0) := by decide +kernel
theorem f_123_48 : ab_ft (ab_CM 123) 48 = some (.getfield 784, 53, 775) := by decide +kernel
theorem f_123_51 : ab_ft (ab_CM 123) 51 = some (.iload_n 1, 0, 0) := by decide +kernel
theorem f_123_52 : ab_ft (ab_CM 123) 52 = some (.aload_n 0, 0, 0) := by decide +kernel
theorem f_123_53 : ab_ft (ab_CM 123) 53 = some (.getfield 784, 53, 775) := by decide +kernel
theorem f_123_56 : ab_ft (ab_CM 123) 56 = some (.iload_n 1, 0, 0) := by decide +kernel
theorem f_123_57 : ab_ft (ab_CM 123) 57 = some (.bipush 102, 0, 0) := by decide +kernel
theorem kb_102 : (Int8.ofInt (102)).toInt32 = nI 102 := by decide +kernel
theorem f_123_59 : ab_ft (ab_CM 123) 59 = some (.iadd, 0, 0) := by decide +kernel
theorem f_123_60 : ab_ft (ab_CM 123) 60 = some (.laload, 0, 0) := by decide +kernel
theorem f_123_61 : ab_ft (ab_CM 123) 61 = some (.lastore, 0, 0) := by decide +kernel
theorem f_123_62 : ab_ft (ab_CM 123) 62 = some (.iinc 1 1, 0, 0) := by decide +kernel
theorem f_123_65 : ab_ft (ab_CM 123) 65 = some (.goto 40, 0, 0) := by decide +kernel
theorem f_123_68 : ab_ft (ab_CM 123) 68 = some (.aload_n 0, 0, 0) := by decide +kernel
theorem f_123_69 : ab_ft (ab_CM 123) 69 = some (.dup, 0, 0) := by decide +kernel
theorem f_123_70 : ab_ft (ab_CM 123) 70 = some (.getfield 785, 180, 776) := by decide +kernel
theorem f_123_73 : ab_ft (ab_CM 123) 73 = some (.iconst 1, 0, 0) := by decide +kernel
theorem f_123_74 : ab_ft (ab_CM 123) 74 = some (.isub, 0, 0) := by decide +kernel
theorem f_123_75 : ab_ft (ab_CM 123) 75 = some (.putfield 4881, 180, 776) := by decide +kernel
theorem f_123_78 : ab_ft (ab_CM 123) 78 = some (.iconst 0, 0, 0) := by decide +kernel
theorem f_123_79 : ab_ft (ab_CM 123) 79 = some (.istore_n 1, 0, 0) := by decide +kernel
theorem f_123_80 : ab_ft (ab_CM 123) 80 = some (.iload_n 1, 0, 0) := by decide +kernel
theorem f_123_81 : ab_ft (ab_CM 123) 81 = some (.bipush 21, 0, 0) := by decide +kernel
theorem f_123_83 : ab_ft (ab_CM 123) 83 = some (.if_icmp .ge 112, 0, 0) := by decide +kernel
theorem f_123_86 : ab_ft (ab_CM 123) 86 = some (.aload_n 0, 0, 0) := by decide +kernel
theorem f_123_87 : ab_ft (ab_CM 123) 87 = some (.getfield 783, 50, 774) := by decide +kernel
theorem f_123_90 : ab_ft (ab_CM 123) 90 = some (.bipush 21, 0, 0) := by decide +kernel
theorem f_123_92 : ab_ft (ab_CM 123) 92 = some (.aload_n 0, 0, 0) := by decide +kernel
theorem f_123_93 : ab_ft (ab_CM 123) 93 = some (.getfield 785, 180, 776) := by decide +kernel
theorem f_123_96 : ab_ft (ab_CM 123) 96 = some (.imul, 0, 0) := by decide +kernel
theorem f_123_97 : ab_ft (ab_CM 123) 97 = some (.iload_n 1, 0, 0) := by decide +kernel
theorem f_123_98 : ab_ft (ab_CM 123) 98 = some (.iadd, 0, 0) := by decide +kernel
theorem f_123_99 : ab_ft (ab_CM 123) 99 = some (.aload_n 0, 0, 0) := by decide +kernel
theorem f_123_100 : ab_ft (ab_CM 123) 100 = some (.getfield 781, 43, 772) := by decide +kernel
theorem f_123_103 : ab_ft (ab_CM 123) 103 = some (.iload_n 1, 0, 0) := by decide +kernel
theorem f_123_104 : ab_ft (ab_CM 123) 104 = some (.iaload, 0, 0) := by decide +kernel
theorem f_123_105 : ab_ft (ab_CM 123) 105 = some (.iastore, 0, 0) := by decide +kernel
theorem f_123_106 : ab_ft (ab_CM 123) 106 = some (.iinc 1 1, 0, 0) := by decide +kernel
theorem f_123_109 : ab_ft (ab_CM 123) 109 = some (.goto 80, 0, 0) := by decide +kernel
theorem f_123_112 : ab_ft (ab_CM 123) 112 = some (.iconst 0, 0, 0) := by decide +kernel
theorem f_123_113 : ab_ft (ab_CM 123) 113 = some (.istore_n 1, 0, 0) := by decide +kernel
theorem f_123_114 : ab_ft (ab_CM 123) 114 = some (.iload_n 1, 0, 0) := by decide +kernel
theorem f_123_115 : ab_ft (ab_CM 123) 115 = some (.bipush 102, 0, 0) := by decide +kernel
theorem f_123_117 : ab_ft (ab_CM 123) 117 = some (.if_icmp .ge 146, 0, 0) := by decide +kernel
theorem f_123_120 : ab_ft (ab_CM 123) 120 = some (.aload_n 0, 0, 0) := by decide +kernel
theorem f_123_121 : ab_ft (ab_CM 123) 121 = some (.getfield 784, 53, 775) := by decide +kernel
theorem f_123_124 : ab_ft (ab_CM 123) 124 = some (.bipush 102, 0, 0) := by decide +kernel
theorem f_123_126 : ab_ft (ab_CM 123) 126 = some (.aload_n 0, 0, 0) := by decide +kernel
theorem f_123_127 : ab_ft (ab_CM 123) 127 = some (.getfield 785, 180, 776) := by decide +kernel
theorem f_123_130 : ab_ft (ab_CM 123) 130 = some (.imul, 0, 0) := by decide +kernel
theorem f_123_131 : ab_ft (ab_CM 123) 131 = some (.iload_n 1, 0, 0) := by decide +kernel
theorem f_123_132 : ab_ft (ab_CM 123) 132 = some (.iadd, 0, 0) := by decide +kernel
theorem f_123_133 : ab_ft (ab_CM 123) 133 = some (.aload_n 0, 0, 0) := by decide +kernel
theorem f_123_134 : ab_ft (ab_CM 123) 134 = some (.getfield 782, 46, 773) := by decide +kernel
theorem f_123_137 : ab_ft (ab_CM 123) 137 = some (.iload_n 1, 0, 0) := by decide +kernel
theorem f_123_138 : ab_ft (ab_CM 123) 138 = some (.laload, 0, 0) := by decide +kernel
theorem f_123_139 : ab_ft (ab_CM 123) 139 = some (.lastore, 0, 0) := by decide +kernel
theorem f_123_140 : ab_ft (ab_CM 123) 140 = some (.iinc 1 1, 0, 0) := by decide +kernel
theorem f_123_143 : ab_ft (ab_CM 123) 143 = some (.goto 114, 0, 0) := by decide +kernel
theorem f_123_146 : ab_ft (ab_CM 123) 146 = some (.aload_n 0, 0, 0) := by decide +kernel
theorem f_123_147 : ab_ft (ab_CM 123) 147 = some (.dup, 0, 0) := by decide +kernel
theorem f_123_148 : ab_ft (ab_CM 123) 148 = some (.getfield 785, 180, 776) := by decide +kernel
theorem f_123_151 : ab_ft (ab_CM 123) 151 = some (.iconst 1, 0, 0) := by decide +kernel
theorem f_123_152 : ab_ft (ab_CM 123) 152 = some (.iadd, 0, 0) := by decide +kernel
theorem f_123_153 : ab_ft (ab_CM 123) 153 = some (.putfield 4881, 180, 776) := by decide +kernel
theorem f_123_156 : ab_ft (ab_CM 123) 156 = some (.return_, 0, 0) := by decide +kernel
theorem mr_123 : ab_MR 123 = (12, 0, 0, 2, 0, 0, 0) := by decide +kernel
theorem rk_123 : (ab_MR 123).2.2.2.2.1 = 0 := by decide +kernel
theorem f_124_0 : ab_ft (ab_CM 124) 0 = some (.aload_n 0, 0, 0) := by decide +kernel
theorem f_124_1 : ab_ft (ab_CM 124) 1 = some (.getfield 785, 180, 776) := by decide +kernel
theorem f_124_4 : ab_ft (ab_CM 124) 4 = some (.ifCond .ne 10, 0, 0) := by decide +kernel
theorem f_124_7 : ab_ft (ab_CM 124) 7 = some (.bipush (-2), 0, 0) := by decide +kernel
theorem f_124_9 : ab_ft (ab_CM 124) 9 = some (.ireturn, 0, 0) := by decide +kernel
theorem f_124_10 : ab_ft (ab_CM 124) 10 = some (.aload_n 0, 0, 0) := by decide +kernel
theorem f_124_11 : ab_ft (ab_CM 124) 11 = some (.dup, 0, 0) := by decide +kernel
theorem f_124_12 : ab_ft (ab_CM 124) 12 = some (.getfield 785, 180, 776) := by decide +kernel
theorem f_124_15 : ab_ft (ab_CM 124) 15 = some (.iconst 1, 0, 0) := by decide +kernel
theorem f_124_16 : ab_ft (ab_CM 124) 16 = some (.isub, 0, 0) := by decide +kernel
theorem f_124_17 : ab_ft (ab_CM 124) 17 = some (.putfield 4881, 180, 776) := by decide +kernel
theorem f_124_20 : ab_ft (ab_CM 124) 20 = some (.iconst 0, 0, 0) := by decide +kernel
theorem f_124_21 : ab_ft (ab_CM 124) 21 = some (.istore_n 1, 0, 0) := by decide +kernel
theorem f_124_22 : ab_ft (ab_CM 124) 22 = some (.iload_n 1, 0, 0) := by decide +kernel
theorem f_124_23 : ab_ft (ab_CM 124) 23 = some (.bipush 21, 0, 0) := by decide +kernel
theorem f_124_25 : ab_ft (ab_CM 124) 25 = some (.if_icmp .ge 54, 0, 0) := by decide +kernel
theorem f_124_28 : ab_ft (ab_CM 124) 28 = some (.aload_n 0, 0, 0) := by decide +kernel
theorem f_124_29 : ab_ft (ab_CM 124) 29 = some (.getfield 781, 43, 772) := by decide +kernel
theorem f_124_32 : ab_ft (ab_CM 124) 32 = some (.iload_n 1, 0, 0) := by decide +kernel
theorem f_124_33 : ab_ft (ab_CM 124) 33 = some (.aload_n 0, 0, 0) := by decide +kernel
theorem f_124_34 : ab_ft (ab_CM 124) 34 = some (.getfield 783, 50, 774) := by decide +kernel
theorem f_124_37 : ab_ft (ab_CM 124) 37 = some (.bipush 21, 0, 0) := by decide +kernel
theorem f_124_39 : ab_ft (ab_CM 124) 39 = some (.aload_n 0, 0, 0) := by decide +kernel
theorem f_124_40 : ab_ft (ab_CM 124) 40 = some (.getfield 785, 180, 776) := by decide +kernel
theorem f_124_43 : ab_ft (ab_CM 124) 43 = some (.imul, 0, 0) := by decide +kernel
theorem f_124_44 : ab_ft (ab_CM 124) 44 = some (.iload_n 1, 0, 0) := by decide +kernel
theorem f_124_45 : ab_ft (ab_CM 124) 45 = some (.iadd, 0, 0) := by decide +kernel
theorem f_124_46 : ab_ft (ab_CM 124) 46 = some (.iaload, 0, 0) := by decide +kernel
theorem f_124_47 : ab_ft (ab_CM 124) 47 = some (.iastore, 0, 0) := by decide +kernel
theorem f_124_48 : ab_ft (ab_CM 124) 48 = some (.iinc 1 1, 0, 0) := by decide +kernel
theorem f_124_51 : ab_ft (ab_CM 124) 51 = some (.goto 22, 0, 0) := by decide +kernel
theorem f_124_54 : ab_ft (ab_CM 124) 54 = some (.iconst 0, 0, 0) := by decide +kernel
theorem f_124_55 : ab_ft (ab_CM 124) 55 = some (.istore_n 1, 0, 0) := by decide +kernel
theorem f_124_56 : ab_ft (ab_CM 124) 56 = some (.iload_n 1, 0, 0) := by decide +kernel
theorem f_124_57 : ab_ft (ab_CM 124) 57 = some (.bipush 102, 0, 0) := by decide +kernel
theorem f_124_59 : ab_ft (ab_CM 124) 59 = some (.if_icmp .ge 88, 0, 0) := by decide +kernel
theorem f_124_62 : ab_ft (ab_CM 124) 62 = some (.aload_n 0, 0, 0) := by decide +kernel
theorem f_124_63 : ab_ft (ab_CM 124) 63 = some (.getfield 782, 46, 773) := by decide +kernel
theorem f_124_66 : ab_ft (ab_CM 124) 66 = some (.iload_n 1, 0, 0) := by decide +kernel
theorem f_124_67 : ab_ft (ab_CM 124) 67 = some (.aload_n 0, 0, 0) := by decide +kernel
theorem f_124_68 : ab_ft (ab_CM 124) 68 = some (.getfield 784, 53, 775) := by decide +kernel
theorem f_124_71 : ab_ft (ab_CM 124) 71 = some (.bipush 102, 0, 0) := by decide +kernel
theorem f_124_73 : ab_ft (ab_CM 124) 73 = some (.aload_n 0, 0, 0) := by decide +kernel
theorem f_124_74 : ab_ft (ab_CM 124) 74 = some (.getfield 785, 180, 776) := by decide +kernel
theorem f_124_77 : ab_ft (ab_CM 124) 77 = some (.imul, 0, 0) := by decide +kernel
theorem f_124_78 : ab_ft (ab_CM 124) 78 = some (.iload_n 1, 0, 0) := by decide +kernel
theorem f_124_79 : ab_ft (ab_CM 124) 79 = some (.iadd, 0, 0) := by decide +kernel
theorem f_124_80 : ab_ft (ab_CM 124) 80 = some (.laload, 0, 0) := by decide +kernel
theorem f_124_81 : ab_ft (ab_CM 124) 81 = some (.lastore, 0, 0) := by decide +kernel
theorem f_124_82 : ab_ft (ab_CM 124) 82 = some (.iinc 1 1, 0, 0) := by decide +kernel
theorem f_124_85 : ab_ft (ab_CM 124) 85 = some (.goto 56, 0, 0) := by decide +kernel
theorem f_124_88 : ab_ft (ab_CM 124) 88 = some (.aload_n 0, 0, 0) := by decide +kernel
theorem f_124_89 : ab_ft (ab_CM 124) 89 = some (.getfield 785, 180, 776) := by decide +kernel
theorem f_124_92 : ab_ft (ab_CM 124) 92 = some (.ireturn, 0, 0) := by decide +kernel
theorem mr_124 : ab_MR 124 = (12, 0, 0, 2, 1, 0, 0) := by decide +kernel
theorem rk_124 : (ab_MR 124).2.2.2.2.1 = 1 := by decide +kernel
theorem f_125_0 : ab_ft (ab_CM 125) 0 = some (.iload_n 1, 0, 0) := by decide +kernel
theorem f_125_1 : ab_ft (ab_CM 125) 1 = some (.i2l, 0, 0) := by decide +kernel
theorem f_125_2 : ab_ft (ab_CM 125) 2 = some (.lconst 0, 0, 0) := by decide +kernel
theorem f_125_3 : ab_ft (ab_CM 125) 3 = some (.aload_n 0, 0, 0) := by decide +kernel
theorem f_125_4 : ab_ft (ab_CM 125) 4 = some (.getfield 781, 43, 772) := by decide +kernel
theorem f_125_7 : ab_ft (ab_CM 125) 7 = some (.iconst 0, 0, 0) := by decide +kernel
theorem f_125_8 : ab_ft (ab_CM 125) 8 = some (.iaload, 0, 0) := by decide +kernel
theorem f_125_9 : ab_ft (ab_CM 125) 9 = some (.iconst 1, 0, 0) := by decide +kernel
theorem f_125_10 : ab_ft (ab_CM 125) 10 = some (.isub, 0, 0) := by decide +kernel
theorem f_125_11 : ab_ft (ab_CM 125) 11 = some (.i2l, 0, 0) := by decide +kernel
theorem f_125_12 : ab_ft (ab_CM 125) 12 = some (.invokestatic 99, 100, 876) := by decide +kernel
theorem f_125_15 : ab_ft (ab_CM 125) 15 = some (.ifCond .eq 38, 0, 0) := by decide +kernel
theorem f_125_18 : ab_ft (ab_CM 125) 18 = some (.iload_n 2, 0, 0) := by decide +kernel
theorem f_125_19 : ab_ft (ab_CM 125) 19 = some (.i2l, 0, 0) := by decide +kernel
theorem f_125_20 : ab_ft (ab_CM 125) 20 = some (.ldc2_w 7, 183, 953) := by decide +kernel
theorem f_125_23 : ab_ft (ab_CM 125) 23 = some (.aload_n 0, 0, 0) := by decide +kernel
theorem f_125_24 : ab_ft (ab_CM 125) 24 = some (.getfield 781, 43, 772) := by decide +kernel
theorem f_125_27 : ab_ft (ab_CM 125) 27 = some (.iconst 0, 0, 0) := by decide +kernel
theorem f_125_28 : ab_ft (ab_CM 125) 28 = some (.iaload, 0, 0) := by decide +kernel
theorem f_125_29 : ab_ft (ab_CM 125) 29 = some (.iconst 1, 0, 0) := by decide +kernel
theorem f_125_30 : ab_ft (ab_CM 125) 30 = some (.isub, 0, 0) := by decide +kernel
theorem f_125_31 : ab_ft (ab_CM 125) 31 = some (.i2l, 0, 0) := by decide +kernel
theorem f_125_32 : ab_ft (ab_CM 125) 32 = some (.invokestatic 99, 100, 876) := by decide +kernel
theorem f_125_35 : ab_ft (ab_CM 125) 35 = some (.ifCond .ne 41, 0, 0) := by decide +kernel
theorem f_125_38 : ab_ft (ab_CM 125) 38 = some (.bipush (-9), 0, 0) := by decide +kernel
theorem f_125_40 : ab_ft (ab_CM 125) 40 = some (.ireturn, 0, 0) := by decide +kernel
theorem f_125_41 : ab_ft (ab_CM 125) 41 = some (.iload_n 2, 0, 0) := by decide +kernel
theorem f_125_42 : ab_ft (ab_CM 125) 42 = some (.iconst (-1), 0, 0) := by decide +kernel
theorem f_125_43 : ab_ft (ab_CM 125) 43 = some (.if_icmp .ne 53, 0, 0) := by decide +kernel
theorem f_125_46 : ab_ft (ab_CM 125) 46 = some (.bipush 17, 0, 0) := by decide +kernel
theorem f_125_48 : ab_ft (ab_CM 125) 48 = some (.iload_n 1, 0, 0) := by decide +kernel
theorem f_125_49 : ab_ft (ab_CM 125) 49 = some (.iadd, 0, 0) := by decide +kernel
theorem f_125_50 : ab_ft (ab_CM 125) 50 = some (.goto 60, 0, 0) := by decide +kernel
theorem f_125_53 : ab_ft (ab_CM 125) 53 = some (.iconst 1, 0, 0) := by decide +kernel
theorem f_125_54 : ab_ft (ab_CM 125) 54 = some (.iconst 4, 0, 0) := by decide +kernel
theorem f_125_55 : ab_ft (ab_CM 125) 55 = some (.iload_n 1, 0, 0) := by decide +kernel
theorem f_125_56 : ab_ft (ab_CM 125) 56 = some (.imul, 0, 0) := by decide +kernel
theorem f_125_57 : ab_ft (ab_CM 125) 57 = some (.iadd, 0, 0) := by decide +kernel
theorem f_125_58 : ab_ft (ab_CM 125) 58 = some (.iload_n 2, 0, 0) := by decide +kernel
theorem f_125_59 : ab_ft (ab_CM 125) 59 = some (.iadd, 0, 0) := by decide +kernel
theorem f_125_60 : ab_ft (ab_CM 125) 60 = some (.ireturn, 0, 0) := by decide +kernel
theorem my_125_99 : sg_may 1 125 99 = true := by decide +kernel
theorem mr_125 : ab_MR 125 = (12, 0, 2, 3, 1, 1, 25) := by decide +kernel
theorem rk_125 : (ab_MR 125).2.2.2.2.1 = 1 := by decide +kernel
theorem f_126_0 : ab_ft (ab_CM 126) 0 = some (.aload_n 0, 0, 0) := by decide +kernel
theorem f_126_1 : ab_ft (ab_CM 126) 1 = some (.iload_n 1, 0, 0) := by decide +kernel
theorem f_126_2 : ab_ft (ab_CM 126) 2 = some (.iload_n 2, 0, 0) := by decide +kernel
theorem f_126_3 : ab_ft (ab_CM 126) 3 = some (.invokevirtual 125, 185, 949) := by decide +kernel
theorem f_126_6 : ab_ft (ab_CM 126) 6 = some (.istore 4, 0, 0) := by decide +kernel
theorem f_126_8 : ab_ft (ab_CM 126) 8 = some (.iload 4, 0, 0) := by decide +kernel
theorem f_126_10 : ab_ft (ab_CM 126) 10 = some (.bipush (-9), 0, 0) := by decide +kernel
theorem f_126_12 : ab_ft (ab_CM 126) 12 = some (.if_icmp .eq 29, 0, 0) := by decide +kernel
theorem f_126_15 : ab_ft (ab_CM 126) 15 = some (.iload_n 3, 0, 0) := by decide +kernel
theorem f_126_16 : ab_ft (ab_CM 126) 16 = some (.i2l, 0, 0) := by decide +kernel
theorem f_126_17 : ab_ft (ab_CM 126) 17 = some (.ldc2_w 8, 188, 954) := by decide +kernel
theorem f_126_20 : ab_ft (ab_CM 126) 20 = some (.ldc2_w 9, 190, 955) := by decide +kernel
theorem f_126_23 : ab_ft (ab_CM 126) 23 = some (.invokestatic 99, 100, 876) := by decide +kernel
theorem f_126_26 : ab_ft (ab_CM 126) 26 = some (.ifCond .ne 33, 0, 0) := by decide +kernel
theorem f_126_29 : ab_ft (ab_CM 126) 29 = some (.sipush (-1001), 0, 0) := by decide +kernel
theorem f_126_32 : ab_ft (ab_CM 126) 32 = some (.ireturn, 0, 0) := by decide +kernel
theorem f_126_33 : ab_ft (ab_CM 126) 33 = some (.aload_n 0, 0, 0) := by decide +kernel
theorem f_126_34 : ab_ft (ab_CM 126) 34 = some (.getfield 781, 43, 772) := by decide +kernel
theorem f_126_37 : ab_ft (ab_CM 126) 37 = some (.iload 4, 0, 0) := by decide +kernel
theorem f_126_39 : ab_ft (ab_CM 126) 39 = some (.iaload, 0, 0) := by decide +kernel
theorem f_126_40 : ab_ft (ab_CM 126) 40 = some (.iload_n 3, 0, 0) := by decide +kernel
theorem f_126_41 : ab_ft (ab_CM 126) 41 = some (.if_icmp .ne 48, 0, 0) := by decide +kernel
theorem f_126_44 : ab_ft (ab_CM 126) 44 = some (.sipush (-1002), 0, 0) := by decide +kernel
theorem f_126_47 : ab_ft (ab_CM 126) 47 = some (.ireturn, 0, 0) := by decide +kernel
theorem f_126_48 : ab_ft (ab_CM 126) 48 = some (.aload_n 0, 0, 0) := by decide +kernel
theorem f_126_49 : ab_ft (ab_CM 126) 49 = some (.invokevirtual 123, 177, 937) := by decide +kernel
theorem f_126_52 : ab_ft (ab_CM 126) 52 = some (.aload_n 0, 0, 0) := by decide +kernel
theorem f_126_53 : ab_ft (ab_CM 126) 53 = some (.getfield 781, 43, 772) := by decide +kernel
theorem f_126_56 : ab_ft (ab_CM 126) 56 = some (.iload 4, 0, 0) := by decide +kernel
theorem f_126_58 : ab_ft (ab_CM 126) 58 = some (.iaload, 0, 0) := by decide +kernel
theorem f_126_59 : ab_ft (ab_CM 126) 59 = some (.istore 5, 0, 0) := by decide +kernel
theorem f_126_61 : ab_ft (ab_CM 126) 61 = some (.aload_n 0, 0, 0) := by decide +kernel
theorem f_126_62 : ab_ft (ab_CM 126) 62 = some (.getfield 781, 43, 772) := by decide +kernel
theorem f_126_65 : ab_ft (ab_CM 126) 65 = some (.iload 4, 0, 0) := by decide +kernel
theorem f_126_67 : ab_ft (ab_CM 126) 67 = some (.iload_n 3, 0, 0) := by decide +kernel
theorem f_126_68 : ab_ft (ab_CM 126) 68 = some (.iastore, 0, 0) := by decide +kernel
theorem f_126_69 : ab_ft (ab_CM 126) 69 = some (.iload 5, 0, 0) := by decide +kernel
theorem f_126_71 : ab_ft (ab_CM 126) 71 = some (.ireturn, 0, 0) := by decide +kernel
theorem my_126_123 : sg_may 0 126 123 = true := by decide +kernel
theorem my_126_99 : sg_may 1 126 99 = true := by decide +kernel
theorem my_126_125 : sg_may 0 126 125 = true := by decide +kernel
theorem mr_126 : ab_MR 126 = (12, 0, 3, 6, 1, 2, 47) := by decide +kernel
theorem rk_126 : (ab_MR 126).2.2.2.2.1 = 1 := by decide +kernel
theorem f_127_0 : ab_ft (ab_CM 127) 0 = some (.aload_n 0, 0, 0) := by decide +kernel
theorem f_127_1 : ab_ft (ab_CM 127) 1 = some (.iload_n 1, 0, 0) := by decide +kernel
theorem f_127_2 : ab_ft (ab_CM 127) 2 = some (.iload_n 2, 0, 0) := by decide +kernel
theorem f_127_3 : ab_ft (ab_CM 127) 3 = some (.invokevirtual 125, 185, 949) := by decide +kernel
theorem f_127_6 : ab_ft (ab_CM 127) 6 = some (.istore_n 3, 0, 0) := by decide +kernel
theorem f_127_7 : ab_ft (ab_CM 127) 7 = some (.iload_n 3, 0, 0) := by decide +kernel
theorem f_127_8 : ab_ft (ab_CM 127) 8 = some (.bipush (-9), 0, 0) := by decide +kernel
theorem f_127_10 : ab_ft (ab_CM 127) 10 = some (.if_icmp .ne 19, 0, 0) := by decide +kernel
theorem f_127_13 : ab_ft (ab_CM 127) 13 = some (.sipush (-1001), 0, 0) := by decide +kernel
theorem f_127_16 : ab_ft (ab_CM 127) 16 = some (.goto 25, 0, 0) := by decide +kernel
theorem f_127_19 : ab_ft (ab_CM 127) 19 = some (.aload_n 0, 0, 0) := by decide +kernel
theorem f_127_20 : ab_ft (ab_CM 127) 20 = some (.getfield 781, 43, 772) := by decide +kernel
theorem f_127_23 : ab_ft (ab_CM 127) 23 = some (.iload_n 3, 0, 0) := by decide +kernel
theorem f_127_24 : ab_ft (ab_CM 127) 24 = some (.iaload, 0, 0) := by decide +kernel
theorem f_127_25 : ab_ft (ab_CM 127) 25 = some (.ireturn, 0, 0) := by decide +kernel
theorem my_127_125 : sg_may 0 127 125 = true := by decide +kernel
theorem mr_127 : ab_MR 127 = (12, 0, 2, 4, 1, 2, 47) := by decide +kernel
theorem rk_127 : (ab_MR 127).2.2.2.2.1 = 1 := by decide +kernel
theorem f_128_0 : ab_ft (ab_CM 128) 0 = some (.lconst 1, 0, 0) := by decide +kernel
theorem f_128_1 : ab_ft (ab_CM 128) 1 = some (.lstore_n 3, 0, 0) := by decide +kernel
theorem f_128_2 : ab_ft (ab_CM 128) 2 = some (.iconst 0, 0, 0) := by decide +kernel
theorem f_128_3 : ab_ft (ab_CM 128) 3 = some (.istore 5, 0, 0) := by decide +kernel
theorem f_128_5 : ab_ft (ab_CM 128) 5 = some (.iload 5, 0, 0) := by decide +kernel
theorem f_128_7 : ab_ft (ab_CM 128) 7 = some (.iload_n 2, 0, 0) := by decide +kernel
theorem f_128_8 : ab_ft (ab_CM 128) 8 = some (.if_icmp .ge 21, 0, 0) := by decide +kernel
theorem f_128_11 : ab_ft (ab_CM 128) 11 = some (.lload_n 3, 0, 0) := by decide +kernel
theorem f_128_12 : ab_ft (ab_CM 128) 12 = some (.lload_n 0, 0, 0) := by decide +kernel
theorem f_128_13 : ab_ft (ab_CM 128) 13 = some (.lmul, 0, 0) := by decide +kernel
theorem f_128_14 : ab_ft (ab_CM 128) 14 = some (.lstore_n 3, 0, 0) := by decide +kernel
theorem f_128_15 : ab_ft (ab_CM 128) 15 = some (.iinc 5 1, 0, 0) := by decide +kernel
theorem f_128_18 : ab_ft (ab_CM 128) 18 = some (.goto 5, 0, 0) := by decide +kernel
theorem f_128_21 : ab_ft (ab_CM 128) 21 = some (.lload_n 3, 0, 0) := by decide +kernel
theorem f_128_22 : ab_ft (ab_CM 128) 22 = some (.lreturn, 0, 0) := by decide +kernel
theorem mr_128 : ab_MR 128 = (12, 1, 2, 6, 3, 0, 0) := by decide +kernel
theorem rk_128 : (ab_MR 128).2.2.2.2.1 = 3 := by decide +kernel
theorem f_129_0 : ab_ft (ab_CM 129) 0 = some (.ldc2_w 0, 192, 984) := by decide +kernel
theorem f_129_3 : ab_ft (ab_CM 129) 3 = some (.aload_n 0, 0, 0) := by decide +kernel
theorem f_129_4 : ab_ft (ab_CM 129) 4 = some (.getfield 770, 16, 761) := by decide +kernel
theorem f_129_7 : ab_ft (ab_CM 129) 7 = some (.iload_n 1, 0, 0) := by decide +kernel
theorem f_129_8 : ab_ft (ab_CM 129) 8 = some (.iaload, 0, 0) := by decide +kernel
theorem f_129_9 : ab_ft (ab_CM 129) 9 = some (.invokestatic 128, 194, 985) := by decide +kernel
theorem f_129_12 : ab_ft (ab_CM 129) 12 = some (.aload_n 0, 0, 0) := by decide +kernel
theorem f_129_13 : ab_ft (ab_CM 129) 13 = some (.getfield 771, 19, 762) := by decide +kernel
theorem f_129_16 : ab_ft (ab_CM 129) 16 = some (.iload_n 1, 0, 0) := by decide +kernel
theorem f_129_17 : ab_ft (ab_CM 129) 17 = some (.iaload, 0, 0) := by decide +kernel
theorem f_129_18 : ab_ft (ab_CM 129) 18 = some (.i2l, 0, 0) := by decide +kernel
theorem f_129_19 : ab_ft (ab_CM 129) 19 = some (.ldiv, 0, 0) := by decide +kernel
theorem f_129_20 : ab_ft (ab_CM 129) 20 = some (.lreturn, 0, 0) := by decide +kernel
theorem my_129_128 : sg_may 1 129 128 = true := by decide +kernel
theorem mr_129 : ab_MR 129 = (12, 0, 1, 2, 3, 1, 25) := by decide +kernel
theorem rk_129 : (ab_MR 129).2.2.2.2.1 = 3 := by decide +kernel
theorem f_130_0 : ab_ft (ab_CM 130) 0 = some (.iconst 0, 0, 0) := by decide +kernel
theorem f_130_1 : ab_ft (ab_CM 130) 1 = some (.istore_n 1, 0, 0) := by decide +kernel
theorem f_130_2 : ab_ft (ab_CM 130) 2 = some (.iload_n 1, 0, 0) := by decide +kernel
theorem f_130_3 : ab_ft (ab_CM 130) 3 = some (.bipush 17, 0, 0) := by decide +kernel
theorem f_130_5 : ab_ft (ab_CM 130) 5 = some (.if_icmp .ge 166, 0, 0) := by decide +kernel
theorem f_130_8 : ab_ft (ab_CM 130) 8 = some (.aload_n 0, 0, 0) := by decide +kernel
theorem f_130_9 : ab_ft (ab_CM 130) 9 = some (.getfield 802, 84, 793) := by decide +kernel
theorem f_130_12 : ab_ft (ab_CM 130) 12 = some (.iload_n 1, 0, 0) := by decide +kernel
theorem f_130_13 : ab_ft (ab_CM 130) 13 = some (.lconst 0, 0, 0) := by decide +kernel
theorem f_130_14 : ab_ft (ab_CM 130) 14 = some (.lastore, 0, 0) := by decide +kernel
theorem f_130_15 : ab_ft (ab_CM 130) 15 = some (.iconst 0, 0, 0) := by decide +kernel
theorem f_130_16 : ab_ft (ab_CM 130) 16 = some (.istore_n 2, 0, 0) := by decide +kernel
theorem f_130_17 : ab_ft (ab_CM 130) 17 = some (.iload_n 2, 0, 0) := by decide +kernel
theorem f_130_18 : ab_ft (ab_CM 130) 18 = some (.aload_n 0, 0, 0) := by decide +kernel
theorem f_130_19 : ab_ft (ab_CM 130) 19 = some (.getfield 781, 43, 772) := by decide +kernel
theorem f_130_22 : ab_ft (ab_CM 130) 22 = some (.iconst 0, 0, 0) := by decide +kernel
theorem f_130_23 : ab_ft (ab_CM 130) 23 = some (.iaload, 0, 0) := by decide +kernel
theorem f_130_24 : ab_ft (ab_CM 130) 24 = some (.if_icmp .ge 160, 0, 0) := by decide +kernel
theorem f_130_27 : ab_ft (ab_CM 130) 27 = some (.lconst 1, 0, 0) := by decide +kernel
theorem f_130_28 : ab_ft (ab_CM 130) 28 = some (.lstore_n 3, 0, 0) := by decide +kernel
theorem f_130_29 : ab_ft (ab_CM 130) 29 = some (.iconst 0, 0, 0) := by decide +kernel
theorem f_130_30 : ab_ft (ab_CM 130) 30 = some (.istore 5, 0, 0) := by decide +kernel
theorem f_130_32 : ab_ft (ab_CM 130) 32 = some (.iload 5, 0, 0) := by decide +kernel
theorem f_130_34 : ab_ft (ab_CM 130) 34 = some (.aload_n 0, 0, 0) := by decide +kernel
theorem f_130_35 : ab_ft (ab_CM 130) 35 = some (.getfield 769, 13, 760) := by decide +kernel
theorem f_130_38 : ab_ft (ab_CM 130) 38 = some (.iload_n 1, 0, 0) := by decide +kernel
theorem f_130_39 : ab_ft (ab_CM 130) 39 = some (.iaload, 0, 0) := by decide +kernel
theorem f_130_40 : ab_ft (ab_CM 130) 40 = some (.if_icmp .ge 122, 0, 0) := by decide +kernel
theorem f_130_43 : ab_ft (ab_CM 130) 43 = some (.aload_n 0, 0, 0) := by decide +kernel
theorem f_130_44 : ab_ft (ab_CM 130) 44 = some (.getfield 768, 7, 759) := by decide +kernel
theorem f_130_47 : ab_ft (ab_CM 130) 47 = some (.iconst 4, 0, 0) := by decide +kernel
theorem f_130_48 : ab_ft (ab_CM 130) 48 = some (.iload_n 1, 0, 0) := by decide +kernel
theorem f_130_49 : ab_ft (ab_CM 130) 49 = some (.imul, 0, 0) := by decide +kernel
theorem f_130_50 : ab_ft (ab_CM 130) 50 = some (.iload 5, 0, 0) := by decide +kernel
theorem f_130_52 : ab_ft (ab_CM 130) 52 = some (.iadd, 0, 0) := by decide +kernel
theorem f_130_53 : ab_ft (ab_CM 130) 53 = some (.iaload, 0, 0) := by decide +kernel
theorem f_130_54 : ab_ft (ab_CM 130) 54 = some (.istore 6, 0, 0) := by decide +kernel
theorem f_130_56 : ab_ft (ab_CM 130) 56 = some (.lconst 0, 0, 0) := by decide +kernel
theorem f_130_57 : ab_ft (ab_CM 130) 57 = some (.lstore 7, 0, 0) := by decide +kernel
theorem f_130_59 : ab_ft (ab_CM 130) 59 = some (.iconst 0, 0, 0) := by decide +kernel
theorem f_130_60 : ab_ft (ab_CM 130) 60 = some (.istore 9, 0, 0) := by decide +kernel
theorem f_130_62 : ab_ft (ab_CM 130) 62 = some (.iload 9, 0, 0) := by decide +kernel
theorem f_130_64 : ab_ft (ab_CM 130) 64 = some (.aload_n 0, 0, 0) := by decide +kernel
theorem f_130_65 : ab_ft (ab_CM 130) 65 = some (.getfield 781, 43, 772) := by decide +kernel
theorem f_130_68 : ab_ft (ab_CM 130) 68 = some (.iconst 0, 0, 0) := by decide +kernel
theorem f_130_69 : ab_ft (ab_CM 130) 69 = some (.iaload, 0, 0) := by decide +kernel
theorem f_130_70 : ab_ft (ab_CM 130) 70 = some (.if_icmp .ge 111, 0, 0) := by decide +kernel
theorem f_130_73 : ab_ft (ab_CM 130) 73 = some (.lload 7, 0, 0) := by decide +kernel
theorem f_130_75 : ab_ft (ab_CM 130) 75 = some (.aload_n 0, 0, 0) := by decide +kernel
theorem f_130_76 : ab_ft (ab_CM 130) 76 = some (.getfield 781, 43, 772) := by decide +kernel
theorem f_130_79 : ab_ft (ab_CM 130) 79 = some (.iconst 1, 0, 0) := by decide +kernel
theorem f_130_80 : ab_ft (ab_CM 130) 80 = some (.iconst 4, 0, 0) := by decide +kernel
theorem f_130_81 : ab_ft (ab_CM 130) 81 = some (.iload_n 2, 0, 0) := by decide +kernel
theorem f_130_82 : ab_ft (ab_CM 130) 82 = some (.imul, 0, 0) := by decide +kernel
theorem f_130_83 : ab_ft (ab_CM 130) 83 = some (.iadd, 0, 0) := by decide +kernel
theorem f_130_84 : ab_ft (ab_CM 130) 84 = some (.iload 9, 0, 0) := by decide +kernel
theorem f_130_86 : ab_ft (ab_CM 130) 86 = some (.iadd, 0, 0) := by decide +kernel
theorem f_130_87 : ab_ft (ab_CM 130) 87 = some (.iaload, 0, 0) := by decide +kernel
theorem f_130_88 : ab_ft (ab_CM 130) 88 = some (.i2l, 0, 0) := by decide +kernel
theorem f_130_89 : ab_ft (ab_CM 130) 89 = some (.aload_n 0, 0, 0) := by decide +kernel
theorem f_130_90 : ab_ft (ab_CM 130) 90 = some (.getfield 803, 87, 794) := by decide +kernel
theorem f_130_93 : ab_ft (ab_CM 130) 93 = some (.iconst 4, 0, 0) := by decide +kernel
theorem f_130_94 : ab_ft (ab_CM 130) 94 = some (.iload 6, 0, 0) := by decide +kernel
theorem f_130_96 : ab_ft (ab_CM 130) 96 = some (.imul, 0, 0) := by decide +kernel
theorem f_130_97 : ab_ft (ab_CM 130) 97 = some (.iload 9, 0, 0) := by decide +kernel
theorem f_130_99 : ab_ft (ab_CM 130) 99 = some (.iadd, 0, 0) := by decide +kernel
theorem f_130_100 : ab_ft (ab_CM 130) 100 = some (.laload, 0, 0) := by decide +kernel
theorem f_130_101 : ab_ft (ab_CM 130) 101 = some (.lmul, 0, 0) := by decide +kernel
theorem f_130_102 : ab_ft (ab_CM 130) 102 = some (.ladd, 0, 0) := by decide +kernel
theorem f_130_103 : ab_ft (ab_CM 130) 103 = some (.lstore 7, 0, 0) := by decide +kernel
theorem f_130_105 : ab_ft (ab_CM 130) 105 = some (.iinc 9 1, 0, 0) := by decide +kernel
theorem f_130_108 : ab_ft (ab_CM 130) 108 = some (.goto 62, 0, 0) := by decide +kernel
theorem f_130_111 : ab_ft (ab_CM 130) 111 = some (.lload_n 3, 0, 0) := by decide +kernel
theorem f_130_112 : ab_ft (ab_CM 130) 112 = some (.lload 7, 0, 0) := by decide +kernel
theorem f_130_114 : ab_ft (ab_CM 130) 114 = some (.lmul, 0, 0) := by decide +kernel
theorem f_130_115 : ab_ft (ab_CM 130) 115 = some (.lstore_n 3, 0, 0) := by decide +kernel
theorem f_130_116 : ab_ft (ab_CM 130) 116 = some (.iinc 5 1, 0, 0) := by decide +kernel
theorem f_130_119 : ab_ft (ab_CM 130) 119 = some (.goto 32, 0, 0) := by decide +kernel
theorem f_130_122 : ab_ft (ab_CM 130) 122 = some (.aload_n 0, 0, 0) := by decide +kernel
theorem f_130_123 : ab_ft (ab_CM 130) 123 = some (.getfield 803, 87, 794) := by decide +kernel
theorem f_130_126 : ab_ft (ab_CM 130) 126 = some (.iconst 4, 0, 0) := by decide +kernel
theorem f_130_127 : ab_ft (ab_CM 130) 127 = some (.iload_n 1, 0, 0) := by decide +kernel
theorem f_130_128 : ab_ft (ab_CM 130) 128 = some (.imul, 0, 0) := by decide +kernel
theorem f_130_129 : ab_ft (ab_CM 130) 129 = some (.iload_n 2, 0, 0) := by decide +kernel
theorem f_130_130 : ab_ft (ab_CM 130) 130 = some (.iadd, 0, 0) := by decide +kernel
theorem f_130_131 : ab_ft (ab_CM 130) 131 = some (.lload_n 3, 0, 0) := by decide +kernel
theorem f_130_132 : ab_ft (ab_CM 130) 132 = some (.lastore, 0, 0) := by decide +kernel
theorem f_130_133 : ab_ft (ab_CM 130) 133 = some (.aload_n 0, 0, 0) := by decide +kernel
theorem f_130_134 : ab_ft (ab_CM 130) 134 = some (.getfield 802, 84, 793) := by decide +kernel
theorem f_130_137 : ab_ft (ab_CM 130) 137 = some (.iload_n 1, 0, 0) := by decide +kernel
theorem f_130_138 : ab_ft (ab_CM 130) 138 = some (.dup2, 0, 0) := by decide +kernel
theorem f_130_139 : ab_ft (ab_CM 130) 139 = some (.laload, 0, 0) := by decide +kernel
theorem f_130_140 : ab_ft (ab_CM 130) 140 = some (.aload_n 0, 0, 0) := by decide +kernel
theorem f_130_141 : ab_ft (ab_CM 130) 141 = some (.getfield 781, 43, 772) := by decide +kernel
theorem f_130_144 : ab_ft (ab_CM 130) 144 = some (.bipush 17, 0, 0) := by decide +kernel
theorem f_130_146 : ab_ft (ab_CM 130) 146 = some (.iload_n 2, 0, 0) := by decide +kernel
theorem f_130_147 : ab_ft (ab_CM 130) 147 = some (.iadd, 0, 0) := by decide +kernel
theorem f_130_148 : ab_ft (ab_CM 130) 148 = some (.iaload, 0, 0) := by decide +kernel
theorem f_130_149 : ab_ft (ab_CM 130) 149 = some (.i2l, 0, 0) := by decide +kernel
theorem f_130_150 : ab_ft (ab_CM 130) 150 = some (.lload_n 3, 0, 0) := by decide +kernel
theorem f_130_151 : ab_ft (ab_CM 130) 151 = some (.lmul, 0, 0) := by decide +kernel
theorem f_130_152 : ab_ft (ab_CM 130) 152 = some (.ladd, 0, 0) := by decide +kernel
theorem f_130_153 : ab_ft (ab_CM 130) 153 = some (.lastore, 0, 0) := by decide +kernel
theorem f_130_154 : ab_ft (ab_CM 130) 154 = some (.iinc 2 1, 0, 0) := by decide +kernel
theorem f_130_157 : ab_ft (ab_CM 130) 157 = some (.goto 17, 0, 0) := by decide +kernel
theorem f_130_160 : ab_ft (ab_CM 130) 160 = some (.iinc 1 1, 0, 0) := by decide +kernel
theorem f_130_163 : ab_ft (ab_CM 130) 163 = some (.goto 2, 0, 0) := by decide +kernel
theorem f_130_166 : ab_ft (ab_CM 130) 166 = some (.return_, 0, 0) := by decide +kernel
theorem mr_130 : ab_MR 130 = (12, 0, 0, 10, 0, 0, 0) := by decide +kernel
theorem rk_130 : (ab_MR 130).2.2.2.2.1 = 0 := by decide +kernel
theorem f_131_0 : ab_ft (ab_CM 131) 0 = some (.lconst 1, 0, 0) := by decide +kernel
theorem f_131_1 : ab_ft (ab_CM 131) 1 = some (.lstore_n 3, 0, 0) := by decide +kernel
theorem f_131_2 : ab_ft (ab_CM 131) 2 = some (.iconst 0, 0, 0) := by decide +kernel
theorem f_131_3 : ab_ft (ab_CM 131) 3 = some (.istore 5, 0, 0) := by decide +kernel
theorem f_131_5 : ab_ft (ab_CM 131) 5 = some (.iload 5, 0, 0) := by decide +kernel
theorem f_131_7 : ab_ft (ab_CM 131) 7 = some (.aload_n 0, 0, 0) := by decide +kernel
theorem f_131_8 : ab_ft (ab_CM 131) 8 = some (.getfield 778, 37, 769) := by decide +kernel
theorem f_131_11 : ab_ft (ab_CM 131) 11 = some (.iload_n 2, 0, 0) := by decide +kernel
theorem f_131_12 : ab_ft (ab_CM 131) 12 = some (.iaload, 0, 0) := by decide +kernel
theorem f_131_13 : ab_ft (ab_CM 131) 13 = some (.if_icmp .ge 46, 0, 0) := by decide +kernel
theorem f_131_16 : ab_ft (ab_CM 131) 16 = some (.lload_n 3, 0, 0) := by decide +kernel
theorem f_131_17 : ab_ft (ab_CM 131) 17 = some (.aload_n 0, 0, 0) := by decide +kernel
theorem f_131_18 : ab_ft (ab_CM 131) 18 = some (.getfield 782, 46, 773) := by decide +kernel
theorem f_131_21 : ab_ft (ab_CM 131) 21 = some (.bipush 17, 0, 0) := by decide +kernel
theorem f_131_23 : ab_ft (ab_CM 131) 23 = some (.iload_n 1, 0, 0) := by decide +kernel
theorem f_131_24 : ab_ft (ab_CM 131) 24 = some (.imul, 0, 0) := by decide +kernel
theorem f_131_25 : ab_ft (ab_CM 131) 25 = some (.aload_n 0, 0, 0) := by decide +kernel
theorem f_131_26 : ab_ft (ab_CM 131) 26 = some (.getfield 777, 34, 768) := by decide +kernel
theorem f_131_29 : ab_ft (ab_CM 131) 29 = some (.iconst 4, 0, 0) := by decide +kernel
theorem f_131_30 : ab_ft (ab_CM 131) 30 = some (.iload_n 2, 0, 0) := by decide +kernel
theorem f_131_31 : ab_ft (ab_CM 131) 31 = some (.imul, 0, 0) := by decide +kernel
theorem f_131_32 : ab_ft (ab_CM 131) 32 = some (.iload 5, 0, 0) := by decide +kernel
theorem f_131_34 : ab_ft (ab_CM 131) 34 = some (.iadd, 0, 0) := by decide +kernel
theorem f_131_35 : ab_ft (ab_CM 131) 35 = some (.iaload, 0, 0) := by decide +kernel
theorem f_131_36 : ab_ft (ab_CM 131) 36 = some (.iadd, 0, 0) := by decide +kernel
theorem f_131_37 : ab_ft (ab_CM 131) 37 = some (.laload, 0, 0) := by decide +kernel
theorem f_131_38 : ab_ft (ab_CM 131) 38 = some (.lmul, 0, 0) := by decide +kernel
theorem f_131_39 : ab_ft (ab_CM 131) 39 = some (.lstore_n 3, 0, 0) := by decide +kernel
theorem f_131_40 : ab_ft (ab_CM 131) 40 = some (.iinc 5 1, 0, 0) := by decide +kernel
theorem f_131_43 : ab_ft (ab_CM 131) 43 = some (.goto 5, 0, 0) := by decide +kernel
theorem f_131_46 : ab_ft (ab_CM 131) 46 = some (.lload_n 3, 0, 0) := by decide +kernel
theorem f_131_47 : ab_ft (ab_CM 131) 47 = some (.lreturn, 0, 0) := by decide +kernel
theorem mr_131 : ab_MR 131 = (12, 0, 2, 6, 3, 0, 0) := by decide +kernel
theorem rk_131 : (ab_MR 131).2.2.2.2.1 = 3 := by decide +kernel
theorem f_132_0 : ab_ft (ab_CM 132) 0 = some (.iconst 0, 0, 0) := by decide +kernel
theorem f_132_1 : ab_ft (ab_CM 132) 1 = some (.istore_n 3, 0, 0) := by decide +kernel
theorem f_132_2 : ab_ft (ab_CM 132) 2 = some (.iload_n 3, 0, 0) := by decide +kernel
theorem f_132_3 : ab_ft (ab_CM 132) 3 = some (.bipush 17, 0, 0) := by decide +kernel
theorem f_132_5 : ab_ft (ab_CM 132) 5 = some (.if_icmp .ge 92, 0, 0) := by decide +kernel
theorem f_132_8 : ab_ft (ab_CM 132) 8 = some (.aload_n 0, 0, 0) := by decide +kernel
theorem f_132_9 : ab_ft (ab_CM 132) 9 = some (.getfield 782, 46, 773) := by decide +kernel
theorem f_132_12 : ab_ft (ab_CM 132) 12 = some (.bipush 17, 0, 0) := by decide +kernel
theorem f_132_14 : ab_ft (ab_CM 132) 14 = some (.iload_n 1, 0, 0) := by decide +kernel
theorem f_132_15 : ab_ft (ab_CM 132) 15 = some (.imul, 0, 0) := by decide +kernel
theorem f_132_16 : ab_ft (ab_CM 132) 16 = some (.iload_n 3, 0, 0) := by decide +kernel
theorem f_132_17 : ab_ft (ab_CM 132) 17 = some (.iadd, 0, 0) := by decide +kernel
theorem f_132_18 : ab_ft (ab_CM 132) 18 = some (.laload, 0, 0) := by decide +kernel
theorem f_132_19 : ab_ft (ab_CM 132) 19 = some (.lstore 4, 0, 0) := by decide +kernel
theorem f_132_21 : ab_ft (ab_CM 132) 21 = some (.aload_n 0, 0, 0) := by decide +kernel
theorem f_132_22 : ab_ft (ab_CM 132) 22 = some (.getfield 775, 28, 766) := by decide +kernel
theorem f_132_25 : ab_ft (ab_CM 132) 25 = some (.iload_n 3, 0, 0) := by decide +kernel
theorem f_132_26 : ab_ft (ab_CM 132) 26 = some (.iaload, 0, 0) := by decide +kernel
theorem f_132_27 : ab_ft (ab_CM 132) 27 = some (.istore 6, 0, 0) := by decide +kernel
theorem f_132_29 : ab_ft (ab_CM 132) 29 = some (.iload 6, 0, 0) := by decide +kernel
theorem f_132_31 : ab_ft (ab_CM 132) 31 = some (.aload_n 0, 0, 0) := by decide +kernel
theorem f_132_32 : ab_ft (ab_CM 132) 32 = some (.getfield 775, 28, 766) := by decide +kernel
theorem f_132_35 : ab_ft (ab_CM 132) 35 = some (.iload_n 3, 0, 0) := by decide +kernel
theorem f_132_36 : ab_ft (ab_CM 132) 36 = some (.iconst 1, 0, 0) := by decide +kernel
theorem f_132_37 : ab_ft (ab_CM 132) 37 = some (.iadd, 0, 0) := by decide +kernel
theorem f_132_38 : ab_ft (ab_CM 132) 38 = some (.iaload, 0, 0) := by decide +kernel
theorem f_132_39 : ab_ft (ab_CM 132) 39 = some (.if_icmp .ge 78, 0, 0) := by decide +kernel
theorem f_132_42 : ab_ft (ab_CM 132) 42 = some (.lload 4, 0, 0) := by decide +kernel
theorem f_132_44 : ab_ft (ab_CM 132) 44 = some (.aload_n 0, 0, 0) := by decide +kernel
theorem f_132_45 : ab_ft (ab_CM 132) 45 = some (.iload_n 1, 0, 0) := by decide +kernel
theorem f_132_46 : ab_ft (ab_CM 132) 46 = some (.iload 6, 0, 0) := by decide +kernel
theorem f_132_48 : ab_ft (ab_CM 132) 48 = some (.invokevirtual 131, 198, 1000) := by decide +kernel
theorem f_132_51 : ab_ft (ab_CM 132) 51 = some (.aload_n 0, 0, 0) := by decide +kernel
theorem f_132_52 : ab_ft (ab_CM 132) 52 = some (.getfield 782, 46, 773) := by decide +kernel
theorem f_132_55 : ab_ft (ab_CM 132) 55 = some (.bipush 17, 0, 0) := by decide +kernel
theorem f_132_57 : ab_ft (ab_CM 132) 57 = some (.iload_n 2, 0, 0) := by decide +kernel
theorem f_132_58 : ab_ft (ab_CM 132) 58 = some (.imul, 0, 0) := by decide +kernel
theorem f_132_59 : ab_ft (ab_CM 132) 59 = some (.aload_n 0, 0, 0) := by decide +kernel
theorem f_132_60 : ab_ft (ab_CM 132) 60 = some (.getfield 776, 31, 767) := by decide +kernel
theorem f_132_63 : ab_ft (ab_CM 132) 63 = some (.iload 6, 0, 0) := by decide +kernel
theorem f_132_65 : ab_ft (ab_CM 132) 65 = some (.iaload, 0, 0) := by decide +kernel
theorem f_132_66 : ab_ft (ab_CM 132) 66 = some (.iadd, 0, 0) := by decide +kernel
theorem f_132_67 : ab_ft (ab_CM 132) 67 = some (.laload, 0, 0) := by decide +kernel
theorem f_132_68 : ab_ft (ab_CM 132) 68 = some (.lmul, 0, 0) := by decide +kernel
theorem f_132_69 : ab_ft (ab_CM 132) 69 = some (.ladd, 0, 0) := by decide +kernel
theorem f_132_70 : ab_ft (ab_CM 132) 70 = some (.lstore 4, 0, 0) := by decide +kernel
theorem f_132_72 : ab_ft (ab_CM 132) 72 = some (.iinc 6 1, 0, 0) := by decide +kernel
theorem f_132_75 : ab_ft (ab_CM 132) 75 = some (.goto 29, 0, 0) := by decide +kernel
theorem f_132_78 : ab_ft (ab_CM 132) 78 = some (.aload_n 0, 0, 0) := by decide +kernel
theorem f_132_79 : ab_ft (ab_CM 132) 79 = some (.getfield 802, 84, 793) := by decide +kernel
theorem f_132_82 : ab_ft (ab_CM 132) 82 = some (.iload_n 3, 0, 0) := by decide +kernel
theorem f_132_83 : ab_ft (ab_CM 132) 83 = some (.lload 4, 0, 0) := by decide +kernel
theorem f_132_85 : ab_ft (ab_CM 132) 85 = some (.lastore, 0, 0) := by decide +kernel
theorem f_132_86 : ab_ft (ab_CM 132) 86 = some (.iinc 3 1, 0, 0) := by decide +kernel
theorem f_132_89 : ab_ft (ab_CM 132) 89 = some (.goto 2, 0, 0) := by decide +kernel
theorem f_132_92 : ab_ft (ab_CM 132) 92 = some (.return_, 0, 0) := by decide +kernel
theorem my_132_131 : sg_may 0 132 131 = true := by decide +kernel
theorem mr_132 : ab_MR 132 = (12, 0, 2, 7, 0, 1, 25) := by decide +kernel
theorem rk_132 : (ab_MR 132).2.2.2.2.1 = 0 := by decide +kernel
theorem f_133_0 : ab_ft (ab_CM 133) 0 = some (.iconst 0, 0, 0) := by decide +kernel
theorem f_133_1 : ab_ft (ab_CM 133) 1 = some (.istore_n 2, 0, 0) := by decide +kernel
theorem f_133_2 : ab_ft (ab_CM 133) 2 = some (.iload_n 2, 0, 0) := by decide +kernel
theorem f_133_3 : ab_ft (ab_CM 133) 3 = some (.bipush 17, 0, 0) := by decide +kernel
theorem f_133_5 : ab_ft (ab_CM 133) 5 = some (.if_icmp .ge 98, 0, 0) := by decide +kernel
theorem f_133_8 : ab_ft (ab_CM 133) 8 = some (.aload_n 0, 0, 0) := by decide +kernel
theorem f_133_9 : ab_ft (ab_CM 133) 9 = some (.getfield 782, 46, 773) := by decide +kernel
theorem f_133_12 : ab_ft (ab_CM 133) 12 = some (.bipush 17, 0, 0) := by decide +kernel
theorem f_133_14 : ab_ft (ab_CM 133) 14 = some (.iload_n 1, 0, 0) := by decide +kernel
theorem f_133_15 : ab_ft (ab_CM 133) 15 = some (.imul, 0, 0) := by decide +kernel
theorem f_133_16 : ab_ft (ab_CM 133) 16 = some (.iload_n 2, 0, 0) := by decide +kernel
theorem f_133_17 : ab_ft (ab_CM 133) 17 = some (.iadd, 0, 0) := by decide +kernel
theorem f_133_18 : ab_ft (ab_CM 133) 18 = some (.laload, 0, 0) := by decide +kernel
theorem f_133_19 : ab_ft (ab_CM 133) 19 = some (.lstore_n 3, 0, 0) := by decide +kernel
theorem f_133_20 : ab_ft (ab_CM 133) 20 = some (.aload_n 0, 0, 0) := by decide +kernel
theorem f_133_21 : ab_ft (ab_CM 133) 21 = some (.getfield 775, 28, 766) := by decide +kernel
theorem f_133_24 : ab_ft (ab_CM 133) 24 = some (.iload_n 2, 0, 0) := by decide +kernel
theorem f_133_25 : ab_ft (ab_CM 133) 25 = some (.iaload, 0, 0) := by decide +kernel
theorem f_133_26 : ab_ft (ab_CM 133) 26 = some (.istore 5, 0, 0) := by decide +kernel
theorem f_133_28 : ab_ft (ab_CM 133) 28 = some (.iload 5, 0, 0) := by decide +kernel
theorem f_133_30 : ab_ft (ab_CM 133) 30 = some (.aload_n 0, 0, 0) := by decide +kernel
theorem f_133_31 : ab_ft (ab_CM 133) 31 = some (.getfield 775, 28, 766) := by decide +kernel
theorem f_133_34 : ab_ft (ab_CM 133) 34 = some (.iload_n 2, 0, 0) := by decide +kernel
theorem f_133_35 : ab_ft (ab_CM 133) 35 = some (.iconst 1, 0, 0) := by decide +kernel
theorem f_133_36 : ab_ft (ab_CM 133) 36 = some (.iadd, 0, 0) := by decide +kernel
theorem f_133_37 : ab_ft (ab_CM 133) 37 = some (.iaload, 0, 0) := by decide +kernel
theorem f_133_38 : ab_ft (ab_CM 133) 38 = some (.if_icmp .ge 84, 0, 0) := by decide +kernel
theorem f_133_41 : ab_ft (ab_CM 133) 41 = some (.lload_n 3, 0, 0) := by decide +kernel
theorem f_133_42 : ab_ft (ab_CM 133) 42 = some (.aload_n 0, 0, 0) := by decide +kernel
theorem f_133_43 : ab_ft (ab_CM 133) 43 = some (.getfield 778, 37, 769) := by decide +kernel
theorem f_133_46 : ab_ft (ab_CM 133) 46 = some (.iload 5, 0, 0) := by decide +kernel
theorem f_133_48 : ab_ft (ab_CM 133) 48 = some (.iaload, 0, 0) := by decide +kernel
theorem f_133_49 : ab_ft (ab_CM 133) 49 = some (.ifCond .ne 56, 0, 0) := by decide +kernel
theorem f_133_52 : ab_ft (ab_CM 133) 52 = some (.lconst 0, 0, 0) := by decide +kernel
theorem f_133_53 : ab_ft (ab_CM 133) 53 = some (.goto 76, 0, 0) := by decide +kernel
theorem f_133_56 : ab_ft (ab_CM 133) 56 = some (.aload_n 0, 0, 0) := by decide +kernel
theorem f_133_57 : ab_ft (ab_CM 133) 57 = some (.iload_n 1, 0, 0) := by decide +kernel
theorem f_133_58 : ab_ft (ab_CM 133) 58 = some (.iload 5, 0, 0) := by decide +kernel
theorem f_133_60 : ab_ft (ab_CM 133) 60 = some (.invokevirtual 131, 198, 1000) := by decide +kernel
theorem f_133_63 : ab_ft (ab_CM 133) 63 = some (.aload_n 0, 0, 0) := by decide +kernel
theorem f_133_64 : ab_ft (ab_CM 133) 64 = some (.getfield 802, 84, 793) := by decide +kernel
theorem f_133_67 : ab_ft (ab_CM 133) 67 = some (.aload_n 0, 0, 0) := by decide +kernel
theorem f_133_68 : ab_ft (ab_CM 133) 68 = some (.getfield 776, 31, 767) := by decide +kernel
theorem f_133_71 : ab_ft (ab_CM 133) 71 = some (.iload 5, 0, 0) := by decide +kernel
theorem f_133_73 : ab_ft (ab_CM 133) 73 = some (.iaload, 0, 0) := by decide +kernel
theorem f_133_74 : ab_ft (ab_CM 133) 74 = some (.laload, 0, 0) := by decide +kernel
theorem f_133_75 : ab_ft (ab_CM 133) 75 = some (.lmul, 0, 0) := by decide +kernel
theorem f_133_76 : ab_ft (ab_CM 133) 76 = some (.ladd, 0, 0) := by decide +kernel
theorem f_133_77 : ab_ft (ab_CM 133) 77 = some (.lstore_n 3, 0, 0) := by decide +kernel
theorem f_133_78 : ab_ft (ab_CM 133) 78 = some (.iinc 5 1, 0, 0) := by decide +kernel
theorem f_133_81 : ab_ft (ab_CM 133) 81 = some (.goto 28, 0, 0) := by decide +kernel
theorem f_133_84 : ab_ft (ab_CM 133) 84 = some (.aload_n 0, 0, 0) := by decide +kernel
theorem f_133_85 : ab_ft (ab_CM 133) 85 = some (.getfield 802, 84, 793) := by decide +kernel
theorem f_133_88 : ab_ft (ab_CM 133) 88 = some (.iload_n 2, 0, 0) := by decide +kernel
theorem f_133_89 : ab_ft (ab_CM 133) 89 = some (.lload_n 3, 0, 0) := by decide +kernel
theorem f_133_90 : ab_ft (ab_CM 133) 90 = some (.lneg, 0, 0) := by decide +kernel
theorem f_133_91 : ab_ft (ab_CM 133) 91 = some (.lastore, 0, 0) := by decide +kernel
theorem f_133_92 : ab_ft (ab_CM 133) 92 = some (.iinc 2 1, 0, 0) := by decide +kernel
theorem f_133_95 : ab_ft (ab_CM 133) 95 = some (.goto 2, 0, 0) := by decide +kernel
theorem f_133_98 : ab_ft (ab_CM 133) 98 = some (.return_, 0, 0) := by decide +kernel
theorem my_133_131 : sg_may 0 133 131 = true := by decide +kernel
theorem mr_133 : ab_MR 133 = (12, 0, 1, 6, 0, 1, 25) := by decide +kernel
theorem rk_133 : (ab_MR 133).2.2.2.2.1 = 0 := by decide +kernel
theorem f_134_0 : ab_ft (ab_CM 134) 0 = some (.iconst 0, 0, 0) := by decide +kernel
theorem f_134_1 : ab_ft (ab_CM 134) 1 = some (.istore_n 3, 0, 0) := by decide +kernel
theorem f_134_2 : ab_ft (ab_CM 134) 2 = some (.iload_n 3, 0, 0) := by decide +kernel
theorem f_134_3 : ab_ft (ab_CM 134) 3 = some (.bipush 17, 0, 0) := by decide +kernel
theorem f_134_5 : ab_ft (ab_CM 134) 5 = some (.if_icmp .ge 33, 0, 0) := by decide +kernel
theorem f_134_8 : ab_ft (ab_CM 134) 8 = some (.aload_n 0, 0, 0) := by decide +kernel
theorem f_134_9 : ab_ft (ab_CM 134) 9 = some (.getfield 802, 84, 793) := by decide +kernel
theorem f_134_12 : ab_ft (ab_CM 134) 12 = some (.iload_n 3, 0, 0) := by decide +kernel
theorem f_134_13 : ab_ft (ab_CM 134) 13 = some (.dup2, 0, 0) := by decide +kernel
theorem f_134_14 : ab_ft (ab_CM 134) 14 = some (.laload, 0, 0) := by decide +kernel
theorem f_134_15 : ab_ft (ab_CM 134) 15 = some (.lload_n 1, 0, 0) := by decide +kernel
theorem f_134_16 : ab_ft (ab_CM 134) 16 = some (.aload_n 0, 0, 0) := by decide +kernel
theorem f_134_17 : ab_ft (ab_CM 134) 17 = some (.getfield 770, 16, 761) := by decide +kernel
theorem f_134_20 : ab_ft (ab_CM 134) 20 = some (.iload_n 3, 0, 0) := by decide +kernel
theorem f_134_21 : ab_ft (ab_CM 134) 21 = some (.iaload, 0, 0) := by decide +kernel
theorem f_134_22 : ab_ft (ab_CM 134) 22 = some (.invokestatic 128, 194, 985) := by decide +kernel
theorem f_134_25 : ab_ft (ab_CM 134) 25 = some (.lmul, 0, 0) := by decide +kernel
theorem f_134_26 : ab_ft (ab_CM 134) 26 = some (.lastore, 0, 0) := by decide +kernel
theorem f_134_27 : ab_ft (ab_CM 134) 27 = some (.iinc 3 1, 0, 0) := by decide +kernel
theorem f_134_30 : ab_ft (ab_CM 134) 30 = some (.goto 2, 0, 0) := by decide +kernel
theorem f_134_33 : ab_ft (ab_CM 134) 33 = some (.return_, 0, 0) := by decide +kernel
theorem my_134_128 : sg_may 1 134 128 = true := by decide +kernel
theorem mr_134 : ab_MR 134 = (12, 0, 1, 4, 0, 1, 25) := by decide +kernel
theorem rk_134 : (ab_MR 134).2.2.2.2.1 = 0 := by decide +kernel
theorem f_135_0 : ab_ft (ab_CM 135) 0 = some (.iconst 0, 0, 0) := by decide +kernel
theorem f_135_1 : ab_ft (ab_CM 135) 1 = some (.istore_n 2, 0, 0) := by decide +kernel
theorem f_135_2 : ab_ft (ab_CM 135) 2 = some (.iload_n 2, 0, 0) := by decide +kernel
theorem f_135_3 : ab_ft (ab_CM 135) 3 = some (.bipush 17, 0, 0) := by decide +kernel
theorem f_135_5 : ab_ft (ab_CM 135) 5 = some (.if_icmp .ge 31, 0, 0) := by decide +kernel
theorem f_135_8 : ab_ft (ab_CM 135) 8 = some (.aload_n 0, 0, 0) := by decide +kernel
theorem f_135_9 : ab_ft (ab_CM 135) 9 = some (.getfield 802, 84, 793) := by decide +kernel
theorem f_135_12 : ab_ft (ab_CM 135) 12 = some (.iload_n 2, 0, 0) := by decide +kernel
theorem f_135_13 : ab_ft (ab_CM 135) 13 = some (.aload_n 0, 0, 0) := by decide +kernel
theorem f_135_14 : ab_ft (ab_CM 135) 14 = some (.getfield 782, 46, 773) := by decide +kernel
theorem f_135_17 : ab_ft (ab_CM 135) 17 = some (.bipush 17, 0, 0) := by decide +kernel
theorem f_135_19 : ab_ft (ab_CM 135) 19 = some (.iload_n 1, 0, 0) := by decide +kernel
theorem f_135_20 : ab_ft (ab_CM 135) 20 = some (.imul, 0, 0) := by decide +kernel
theorem f_135_21 : ab_ft (ab_CM 135) 21 = some (.iload_n 2, 0, 0) := by decide +kernel
theorem f_135_22 : ab_ft (ab_CM 135) 22 = some (.iadd, 0, 0) := by decide +kernel
theorem f_135_23 : ab_ft (ab_CM 135) 23 = some (.laload, 0, 0) := by decide +kernel
theorem f_135_24 : ab_ft (ab_CM 135) 24 = some (.lastore, 0, 0) := by decide +kernel
theorem f_135_25 : ab_ft (ab_CM 135) 25 = some (.iinc 2 1, 0, 0) := by decide +kernel
theorem f_135_28 : ab_ft (ab_CM 135) 28 = some (.goto 2, 0, 0) := by decide +kernel
theorem f_135_31 : ab_ft (ab_CM 135) 31 = some (.return_, 0, 0) := by decide +kernel
theorem mr_135 : ab_MR 135 = (12, 0, 1, 3, 0, 0, 0) := by decide +kernel
theorem rk_135 : (ab_MR 135).2.2.2.2.1 = 0 := by decide +kernel
theorem f_136_0 : ab_ft (ab_CM 136) 0 = some (.iconst 5, 0, 0) := by decide +kernel
theorem f_136_1 : ab_ft (ab_CM 136) 1 = some (.istore_n 2, 0, 0) := by decide +kernel
theorem f_136_2 : ab_ft (ab_CM 136) 2 = some (.bipush 16, 0, 0) := by decide +kernel
theorem kb_16 : (Int8.ofInt (16)).toInt32 = nI 16 := by decide +kernel
theorem f_136_4 : ab_ft (ab_CM 136) 4 = some (.istore_n 3, 0, 0) := by decide +kernel
theorem f_136_5 : ab_ft (ab_CM 136) 5 = some (.iload_n 3, 0, 0) := by decide +kernel
theorem f_136_6 : ab_ft (ab_CM 136) 6 = some (.ifCond .lt 48, 0, 0) := by decide +kernel
theorem f_136_9 : ab_ft (ab_CM 136) 9 = some (.aload_n 0, 0, 0) := by decide +kernel
theorem f_136_10 : ab_ft (ab_CM 136) 10 = some (.getfield 782, 46, 773) := by decide +kernel
theorem f_136_13 : ab_ft (ab_CM 136) 13 = some (.bipush 17, 0, 0) := by decide +kernel
theorem f_136_15 : ab_ft (ab_CM 136) 15 = some (.iload_n 1, 0, 0) := by decide +kernel
theorem f_136_16 : ab_ft (ab_CM 136) 16 = some (.imul, 0, 0) := by decide +kernel
theorem f_136_17 : ab_ft (ab_CM 136) 17 = some (.iload_n 3, 0, 0) := by decide +kernel
theorem f_136_18 : ab_ft (ab_CM 136) 18 = some (.iadd, 0, 0) := by decide +kernel
theorem f_136_19 : ab_ft (ab_CM 136) 19 = some (.laload, 0, 0) := by decide +kernel
theorem f_136_20 : ab_ft (ab_CM 136) 20 = some (.aload_n 0, 0, 0) := by decide +kernel
theorem f_136_21 : ab_ft (ab_CM 136) 21 = some (.iload_n 3, 0, 0) := by decide +kernel
theorem f_136_22 : ab_ft (ab_CM 136) 22 = some (.invokevirtual 129, 202, 980) := by decide +kernel
theorem f_136_25 : ab_ft (ab_CM 136) 25 = some (.lcmp, 0, 0) := by decide +kernel
theorem f_136_26 : ab_ft (ab_CM 136) 26 = some (.ifCond .ne 33, 0, 0) := by decide +kernel
theorem f_136_29 : ab_ft (ab_CM 136) 29 = some (.iload_n 2, 0, 0) := by decide +kernel
theorem f_136_30 : ab_ft (ab_CM 136) 30 = some (.goto 41, 0, 0) := by decide +kernel
theorem f_136_33 : ab_ft (ab_CM 136) 33 = some (.aload_n 0, 0, 0) := by decide +kernel
theorem f_136_34 : ab_ft (ab_CM 136) 34 = some (.getfield 770, 16, 761) := by decide +kernel
theorem f_136_37 : ab_ft (ab_CM 136) 37 = some (.iload_n 3, 0, 0) := by decide +kernel
theorem f_136_38 : ab_ft (ab_CM 136) 38 = some (.iaload, 0, 0) := by decide +kernel
theorem f_136_39 : ab_ft (ab_CM 136) 39 = some (.iconst 1, 0, 0) := by decide +kernel
theorem f_136_40 : ab_ft (ab_CM 136) 40 = some (.isub, 0, 0) := by decide +kernel
theorem f_136_41 : ab_ft (ab_CM 136) 41 = some (.istore_n 2, 0, 0) := by decide +kernel
theorem f_136_42 : ab_ft (ab_CM 136) 42 = some (.iinc 3 (-1), 0, 0) := by decide +kernel
theorem f_136_45 : ab_ft (ab_CM 136) 45 = some (.goto 5, 0, 0) := by decide +kernel
theorem f_136_48 : ab_ft (ab_CM 136) 48 = some (.iload_n 2, 0, 0) := by decide +kernel
theorem f_136_49 : ab_ft (ab_CM 136) 49 = some (.ireturn, 0, 0) := by decide +kernel
theorem my_136_129 : sg_may 0 136 129 = true := by decide +kernel
theorem mr_136 : ab_MR 136 = (12, 0, 1, 4, 1, 2, 46) := by decide +kernel
theorem rk_136 : (ab_MR 136).2.2.2.2.1 = 1 := by decide +kernel
theorem f_137_0 : ab_ft (ab_CM 137) 0 = some (.aload_n 0, 0, 0) := by decide +kernel
theorem f_137_1 : ab_ft (ab_CM 137) 1 = some (.invokevirtual 123, 177, 937) := by decide +kernel
theorem f_137_4 : ab_ft (ab_CM 137) 4 = some (.iconst 0, 0, 0) := by decide +kernel
theorem f_137_5 : ab_ft (ab_CM 137) 5 = some (.istore_n 2, 0, 0) := by decide +kernel
theorem f_137_6 : ab_ft (ab_CM 137) 6 = some (.iload_n 2, 0, 0) := by decide +kernel
theorem f_137_7 : ab_ft (ab_CM 137) 7 = some (.bipush 17, 0, 0) := by decide +kernel
theorem f_137_9 : ab_ft (ab_CM 137) 9 = some (.if_icmp .ge 35, 0, 0) := by decide +kernel
theorem f_137_12 : ab_ft (ab_CM 137) 12 = some (.aload_n 0, 0, 0) := by decide +kernel
theorem f_137_13 : ab_ft (ab_CM 137) 13 = some (.getfield 782, 46, 773) := by decide +kernel
theorem f_137_16 : ab_ft (ab_CM 137) 16 = some (.bipush 17, 0, 0) := by decide +kernel
theorem f_137_18 : ab_ft (ab_CM 137) 18 = some (.iload_n 1, 0, 0) := by decide +kernel
theorem f_137_19 : ab_ft (ab_CM 137) 19 = some (.imul, 0, 0) := by decide +kernel
theorem f_137_20 : ab_ft (ab_CM 137) 20 = some (.iload_n 2, 0, 0) := by decide +kernel
theorem f_137_21 : ab_ft (ab_CM 137) 21 = some (.iadd, 0, 0) := by decide +kernel
theorem f_137_22 : ab_ft (ab_CM 137) 22 = some (.aload_n 0, 0, 0) := by decide +kernel
theorem f_137_23 : ab_ft (ab_CM 137) 23 = some (.getfield 802, 84, 793) := by decide +kernel
theorem f_137_26 : ab_ft (ab_CM 137) 26 = some (.iload_n 2, 0, 0) := by decide +kernel
theorem f_137_27 : ab_ft (ab_CM 137) 27 = some (.laload, 0, 0) := by decide +kernel
theorem f_137_28 : ab_ft (ab_CM 137) 28 = some (.lastore, 0, 0) := by decide +kernel
theorem f_137_29 : ab_ft (ab_CM 137) 29 = some (.iinc 2 1, 0, 0) := by decide +kernel
theorem f_137_32 : ab_ft (ab_CM 137) 32 = some (.goto 6, 0, 0) := by decide +kernel
theorem f_137_35 : ab_ft (ab_CM 137) 35 = some (.aload_n 0, 0, 0) := by decide +kernel
theorem f_137_36 : ab_ft (ab_CM 137) 36 = some (.iload_n 1, 0, 0) := by decide +kernel
theorem f_137_37 : ab_ft (ab_CM 137) 37 = some (.invokevirtual 136, 206, 976) := by decide +kernel
theorem f_137_40 : ab_ft (ab_CM 137) 40 = some (.ireturn, 0, 0) := by decide +kernel
theorem my_137_136 : sg_may 0 137 136 = true := by decide +kernel
theorem my_137_123 : sg_may 0 137 123 = true := by decide +kernel
theorem mr_137 : ab_MR 137 = (12, 0, 1, 3, 1, 3, 69) := by decide +kernel
theorem rk_137 : (ab_MR 137).2.2.2.2.1 = 1 := by decide +kernel
theorem f_138_0 : ab_ft (ab_CM 138) 0 = some (.iload_n 1, 0, 0) := by decide +kernel
theorem f_138_1 : ab_ft (ab_CM 138) 1 = some (.invokestatic 101, 209, 964) := by decide +kernel
theorem f_138_4 : ab_ft (ab_CM 138) 4 = some (.ifCond .ne 9, 0, 0) := by decide +kernel
theorem f_138_7 : ab_ft (ab_CM 138) 7 = some (.iconst (-1), 0, 0) := by decide +kernel
theorem f_138_8 : ab_ft (ab_CM 138) 8 = some (.ireturn, 0, 0) := by decide +kernel
theorem f_138_9 : ab_ft (ab_CM 138) 9 = some (.aload_n 0, 0, 0) := by decide +kernel
theorem f_138_10 : ab_ft (ab_CM 138) 10 = some (.invokevirtual 130, 212, 968) := by decide +kernel
theorem f_138_13 : ab_ft (ab_CM 138) 13 = some (.aload_n 0, 0, 0) := by decide +kernel
theorem f_138_14 : ab_ft (ab_CM 138) 14 = some (.iload_n 1, 0, 0) := by decide +kernel
theorem f_138_15 : ab_ft (ab_CM 138) 15 = some (.invokevirtual 137, 215, 972) := by decide +kernel
theorem f_138_18 : ab_ft (ab_CM 138) 18 = some (.ireturn, 0, 0) := by decide +kernel
theorem my_138_137 : sg_may 0 138 137 = true := by decide +kernel
theorem my_138_130 : sg_may 0 138 130 = true := by decide +kernel
theorem my_138_101 : sg_may 1 138 101 = true := by decide +kernel
theorem mr_138 : ab_MR 138 = (12, 0, 1, 2, 1, 4, 91) := by decide +kernel
theorem rk_138 : (ab_MR 138).2.2.2.2.1 = 1 := by decide +kernel
theorem f_139_0 : ab_ft (ab_CM 139) 0 = some (.iload_n 1, 0, 0) := by decide +kernel
theorem f_139_1 : ab_ft (ab_CM 139) 1 = some (.invokestatic 101, 209, 964) := by decide +kernel
theorem f_139_4 : ab_ft (ab_CM 139) 4 = some (.ifCond .ne 9, 0, 0) := by decide +kernel
theorem f_139_7 : ab_ft (ab_CM 139) 7 = some (.iconst (-1), 0, 0) := by decide +kernel
theorem f_139_8 : ab_ft (ab_CM 139) 8 = some (.ireturn, 0, 0) := by decide +kernel
theorem f_139_9 : ab_ft (ab_CM 139) 9 = some (.aload_n 0, 0, 0) := by decide +kernel
theorem f_139_10 : ab_ft (ab_CM 139) 10 = some (.iload_n 1, 0, 0) := by decide +kernel
theorem f_139_11 : ab_ft (ab_CM 139) 11 = some (.invokevirtual 136, 206, 976) := by decide +kernel
theorem f_139_14 : ab_ft (ab_CM 139) 14 = some (.iconst 5, 0, 0) := by decide +kernel
theorem f_139_15 : ab_ft (ab_CM 139) 15 = some (.if_icmp .ne 21, 0, 0) := by decide +kernel
theorem f_139_18 : ab_ft (ab_CM 139) 18 = some (.bipush (-2), 0, 0) := by decide +kernel
theorem f_139_20 : ab_ft (ab_CM 139) 20 = some (.ireturn, 0, 0) := by decide +kernel
theorem f_139_21 : ab_ft (ab_CM 139) 21 = some (.iconst 0, 0, 0) := by decide +kernel
theorem f_139_22 : ab_ft (ab_CM 139) 22 = some (.istore_n 2, 0, 0) := by decide +kernel
theorem f_139_23 : ab_ft (ab_CM 139) 23 = some (.iload_n 2, 0, 0) := by decide +kernel
theorem f_139_24 : ab_ft (ab_CM 139) 24 = some (.bipush 17, 0, 0) := by decide +kernel
theorem f_139_26 : ab_ft (ab_CM 139) 26 = some (.if_icmp .ge 46, 0, 0) := by decide +kernel
theorem f_139_29 : ab_ft (ab_CM 139) 29 = some (.aload_n 0, 0, 0) := by decide +kernel
theorem f_139_30 : ab_ft (ab_CM 139) 30 = some (.getfield 802, 84, 793) := by decide +kernel
theorem f_139_33 : ab_ft (ab_CM 139) 33 = some (.iload_n 2, 0, 0) := by decide +kernel
theorem f_139_34 : ab_ft (ab_CM 139) 34 = some (.aload_n 0, 0, 0) := by decide +kernel
theorem f_139_35 : ab_ft (ab_CM 139) 35 = some (.iload_n 2, 0, 0) := by decide +kernel
theorem f_139_36 : ab_ft (ab_CM 139) 36 = some (.invokevirtual 129, 202, 980) := by decide +kernel
theorem f_139_39 : ab_ft (ab_CM 139) 39 = some (.lastore, 0, 0) := by decide +kernel
theorem f_139_40 : ab_ft (ab_CM 139) 40 = some (.iinc 2 1, 0, 0) := by decide +kernel
theorem f_139_43 : ab_ft (ab_CM 139) 43 = some (.goto 23, 0, 0) := by decide +kernel
theorem f_139_46 : ab_ft (ab_CM 139) 46 = some (.aload_n 0, 0, 0) := by decide +kernel
theorem f_139_47 : ab_ft (ab_CM 139) 47 = some (.iload_n 1, 0, 0) := by decide +kernel
theorem f_139_48 : ab_ft (ab_CM 139) 48 = some (.invokevirtual 137, 215, 972) := by decide +kernel
theorem f_139_51 : ab_ft (ab_CM 139) 51 = some (.istore_n 2, 0, 0) := by decide +kernel
theorem f_139_52 : ab_ft (ab_CM 139) 52 = some (.iconst 1, 0, 0) := by decide +kernel
theorem f_139_53 : ab_ft (ab_CM 139) 53 = some (.ireturn, 0, 0) := by decide +kernel
theorem my_139_136 : sg_may 0 139 136 = true := by decide +kernel
theorem my_139_129 : sg_may 0 139 129 = true := by decide +kernel
theorem my_139_137 : sg_may 0 139 137 = true := by decide +kernel
theorem my_139_101 : sg_may 1 139 101 = true := by decide +kernel
theorem mr_139 : ab_MR 139 = (12, 0, 1, 3, 1, 4, 91) := by decide +kernel
theorem rk_139 : (ab_MR 139).2.2.2.2.1 = 1 := by decide +kernel
theorem f_140_0 : ab_ft (ab_CM 140) 0 = some (.iload_n 1, 0, 0) := by decide +kernel
theorem f_140_1 : ab_ft (ab_CM 140) 1 = some (.invokestatic 101, 209, 964) := by decide +kernel
theorem f_140_4 : ab_ft (ab_CM 140) 4 = some (.ifCond .eq 21, 0, 0) := by decide +kernel
theorem f_140_7 : ab_ft (ab_CM 140) 7 = some (.iload_n 2, 0, 0) := by decide +kernel
theorem f_140_8 : ab_ft (ab_CM 140) 8 = some (.invokestatic 101, 209, 964) := by decide +kernel
theorem f_140_11 : ab_ft (ab_CM 140) 11 = some (.ifCond .eq 21, 0, 0) := by decide +kernel
theorem f_140_14 : ab_ft (ab_CM 140) 14 = some (.iload_n 3, 0, 0) := by decide +kernel
theorem f_140_15 : ab_ft (ab_CM 140) 15 = some (.invokestatic 101, 209, 964) := by decide +kernel
theorem f_140_18 : ab_ft (ab_CM 140) 18 = some (.ifCond .ne 23, 0, 0) := by decide +kernel
theorem f_140_21 : ab_ft (ab_CM 140) 21 = some (.iconst (-1), 0, 0) := by decide +kernel
theorem f_140_22 : ab_ft (ab_CM 140) 22 = some (.ireturn, 0, 0) := by decide +kernel
theorem f_140_23 : ab_ft (ab_CM 140) 23 = some (.aload_n 0, 0, 0) := by decide +kernel
theorem f_140_24 : ab_ft (ab_CM 140) 24 = some (.iload_n 2, 0, 0) := by decide +kernel
theorem f_140_25 : ab_ft (ab_CM 140) 25 = some (.iload_n 3, 0, 0) := by decide +kernel
theorem f_140_26 : ab_ft (ab_CM 140) 26 = some (.invokevirtual 132, 218, 996) := by decide +kernel
theorem f_140_29 : ab_ft (ab_CM 140) 29 = some (.aload_n 0, 0, 0) := by decide +kernel
theorem f_140_30 : ab_ft (ab_CM 140) 30 = some (.iload_n 1, 0, 0) := by decide +kernel
theorem f_140_31 : ab_ft (ab_CM 140) 31 = some (.invokevirtual 137, 215, 972) := by decide +kernel
theorem f_140_34 : ab_ft (ab_CM 140) 34 = some (.ireturn, 0, 0) := by decide +kernel
theorem my_140_137 : sg_may 0 140 137 = true := by decide +kernel
theorem my_140_132 : sg_may 0 140 132 = true := by decide +kernel
theorem my_140_101 : sg_may 1 140 101 = true := by decide +kernel
theorem mr_140 : ab_MR 140 = (12, 0, 3, 4, 1, 4, 91) := by decide +kernel
theorem rk_140 : (ab_MR 140).2.2.2.2.1 = 1 := by decide +kernel
theorem f_141_0 : ab_ft (ab_CM 141) 0 = some (.iload_n 1, 0, 0) := by decide +kernel
theorem f_141_1 : ab_ft (ab_CM 141) 1 = some (.invokestatic 101, 209, 964) := by decide +kernel
theorem f_141_4 : ab_ft (ab_CM 141) 4 = some (.ifCond .eq 14, 0, 0) := by decide +kernel
theorem f_141_7 : ab_ft (ab_CM 141) 7 = some (.iload_n 2, 0, 0) := by decide +kernel
theorem f_141_8 : ab_ft (ab_CM 141) 8 = some (.invokestatic 101, 209, 964) := by decide +kernel
theorem f_141_11 : ab_ft (ab_CM 141) 11 = some (.ifCond .ne 16, 0, 0) := by decide +kernel
theorem f_141_14 : ab_ft (ab_CM 141) 14 = some (.iconst (-1), 0, 0) := by decide +kernel
theorem f_141_15 : ab_ft (ab_CM 141) 15 = some (.ireturn, 0, 0) := by decide +kernel
theorem f_141_16 : ab_ft (ab_CM 141) 16 = some (.aload_n 0, 0, 0) := by decide +kernel
theorem f_141_17 : ab_ft (ab_CM 141) 17 = some (.iload_n 2, 0, 0) := by decide +kernel
theorem f_141_18 : ab_ft (ab_CM 141) 18 = some (.invokevirtual 133, 221, 1008) := by decide +kernel
theorem f_141_21 : ab_ft (ab_CM 141) 21 = some (.aload_n 0, 0, 0) := by decide +kernel
theorem f_141_22 : ab_ft (ab_CM 141) 22 = some (.iload_n 1, 0, 0) := by decide +kernel
theorem f_141_23 : ab_ft (ab_CM 141) 23 = some (.invokevirtual 137, 215, 972) := by decide +kernel
theorem f_141_26 : ab_ft (ab_CM 141) 26 = some (.ireturn, 0, 0) := by decide +kernel
theorem my_141_137 : sg_may 0 141 137 = true := by decide +kernel
theorem my_141_101 : sg_may 1 141 101 = true := by decide +kernel
theorem my_141_133 : sg_may 0 141 133 = true := by decide +kernel
theorem mr_141 : ab_MR 141 = (12, 0, 2, 3, 1, 4, 91) := by decide +kernel
theorem rk_141 : (ab_MR 141).2.2.2.2.1 = 1 := by decide +kernel
theorem f_142_0 : ab_ft (ab_CM 142) 0 = some (.iload_n 1, 0, 0) := by decide +kernel
theorem f_142_1 : ab_ft (ab_CM 142) 1 = some (.invokestatic 101, 209, 964) := by decide +kernel
theorem f_142_4 : ab_ft (ab_CM 142) 4 = some (.ifCond .eq 28, 0, 0) := by decide +kernel
theorem f_142_7 : ab_ft (ab_CM 142) 7 = some (.iload_n 2, 0, 0) := by decide +kernel
theorem f_142_8 : ab_ft (ab_CM 142) 8 = some (.invokestatic 101, 209, 964) := by decide +kernel
theorem f_142_11 : ab_ft (ab_CM 142) 11 = some (.ifCond .eq 28, 0, 0) := by decide +kernel
theorem f_142_14 : ab_ft (ab_CM 142) 14 = some (.iload_n 3, 0, 0) := by decide +kernel
theorem f_142_15 : ab_ft (ab_CM 142) 15 = some (.i2l, 0, 0) := by decide +kernel
theorem f_142_16 : ab_ft (ab_CM 142) 16 = some (.ldc2_w 10, 224, 1016) := by decide +kernel
theorem f_142_19 : ab_ft (ab_CM 142) 19 = some (.ldc2_w 11, 226, 1017) := by decide +kernel
theorem f_142_22 : ab_ft (ab_CM 142) 22 = some (.invokestatic 99, 100, 876) := by decide +kernel
theorem f_142_25 : ab_ft (ab_CM 142) 25 = some (.ifCond .ne 30, 0, 0) := by decide +kernel
theorem f_142_28 : ab_ft (ab_CM 142) 28 = some (.iconst (-1), 0, 0) := by decide +kernel
theorem f_142_29 : ab_ft (ab_CM 142) 29 = some (.ireturn, 0, 0) := by decide +kernel
theorem f_142_30 : ab_ft (ab_CM 142) 30 = some (.aload_n 0, 0, 0) := by decide +kernel
theorem f_142_31 : ab_ft (ab_CM 142) 31 = some (.iload_n 2, 0, 0) := by decide +kernel
theorem f_142_32 : ab_ft (ab_CM 142) 32 = some (.invokevirtual 135, 228, 1018) := by decide +kernel
theorem f_142_35 : ab_ft (ab_CM 142) 35 = some (.aload_n 0, 0, 0) := by decide +kernel
theorem f_142_36 : ab_ft (ab_CM 142) 36 = some (.iload_n 3, 0, 0) := by decide +kernel
theorem f_142_37 : ab_ft (ab_CM 142) 37 = some (.i2l, 0, 0) := by decide +kernel
theorem f_142_38 : ab_ft (ab_CM 142) 38 = some (.invokevirtual 134, 231, 1022) := by decide +kernel
theorem f_142_41 : ab_ft (ab_CM 142) 41 = some (.aload_n 0, 0, 0) := by decide +kernel
theorem f_142_42 : ab_ft (ab_CM 142) 42 = some (.iload_n 1, 0, 0) := by decide +kernel
theorem f_142_43 : ab_ft (ab_CM 142) 43 = some (.invokevirtual 137, 215, 972) := by decide +kernel
theorem f_142_46 : ab_ft (ab_CM 142) 46 = some (.ireturn, 0, 0) := by decide +kernel
theorem my_142_99 : sg_may 1 142 99 = true := by decide +kernel
theorem my_142_101 : sg_may 1 142 101 = true := by decide +kernel
theorem my_142_134 : sg_may 0 142 134 = true := by decide +kernel
theorem my_142_135 : sg_may 0 142 135 = true := by decide +kernel
theorem my_142_137 : sg_may 0 142 137 = true := by decide +kernel
theorem mr_142 : ab_MR 142 = (12, 0, 3, 4, 1, 4, 91) := by decide +kernel
theorem rk_142 : (ab_MR 142).2.2.2.2.1 = 1 := by decide +kernel
theorem f_143_0 : ab_ft (ab_CM 143) 0 = some (.iload_n 1, 0, 0) := by decide +kernel
theorem f_143_1 : ab_ft (ab_CM 143) 1 = some (.invokestatic 101, 209, 964) := by decide +kernel
theorem f_143_4 : ab_ft (ab_CM 143) 4 = some (.ifCond .eq 14, 0, 0) := by decide +kernel
theorem f_143_7 : ab_ft (ab_CM 143) 7 = some (.iload_n 2, 0, 0) := by decide +kernel
theorem f_143_8 : ab_ft (ab_CM 143) 8 = some (.invokestatic 101, 209, 964) := by decide +kernel
theorem f_143_11 : ab_ft (ab_CM 143) 11 = some (.ifCond .ne 16, 0, 0) := by decide +kernel
theorem f_143_14 : ab_ft (ab_CM 143) 14 = some (.iconst (-1), 0, 0) := by decide +kernel
theorem f_143_15 : ab_ft (ab_CM 143) 15 = some (.ireturn, 0, 0) := by decide +kernel
theorem f_143_16 : ab_ft (ab_CM 143) 16 = some (.aload_n 0, 0, 0) := by decide +kernel
theorem f_143_17 : ab_ft (ab_CM 143) 17 = some (.iload_n 2, 0, 0) := by decide +kernel
theorem f_143_18 : ab_ft (ab_CM 143) 18 = some (.invokevirtual 133, 221, 1008) := by decide +kernel
theorem f_143_21 : ab_ft (ab_CM 143) 21 = some (.aload_n 0, 0, 0) := by decide +kernel
theorem f_143_22 : ab_ft (ab_CM 143) 22 = some (.ldc2_w 7, 183, 953) := by decide +kernel
theorem f_143_25 : ab_ft (ab_CM 143) 25 = some (.invokevirtual 134, 231, 1022) := by decide +kernel
theorem f_143_28 : ab_ft (ab_CM 143) 28 = some (.iconst 5, 0, 0) := by decide +kernel
theorem f_143_29 : ab_ft (ab_CM 143) 29 = some (.istore_n 3, 0, 0) := by decide +kernel
theorem f_143_30 : ab_ft (ab_CM 143) 30 = some (.bipush 16, 0, 0) := by decide +kernel
theorem f_143_32 : ab_ft (ab_CM 143) 32 = some (.istore 4, 0, 0) := by decide +kernel
theorem f_143_34 : ab_ft (ab_CM 143) 34 = some (.iload 4, 0, 0) := by decide +kernel
theorem f_143_36 : ab_ft (ab_CM 143) 36 = some (.ifCond .lt 82, 0, 0) := by decide +kernel
theorem f_143_39 : ab_ft (ab_CM 143) 39 = some (.aload_n 0, 0, 0) := by decide +kernel
theorem f_143_40 : ab_ft (ab_CM 143) 40 = some (.getfield 802, 84, 793) := by decide +kernel
theorem f_143_43 : ab_ft (ab_CM 143) 43 = some (.iload 4, 0, 0) := by decide +kernel
theorem f_143_45 : ab_ft (ab_CM 143) 45 = some (.laload, 0, 0) := by decide +kernel
theorem f_143_46 : ab_ft (ab_CM 143) 46 = some (.aload_n 0, 0, 0) := by decide +kernel
theorem f_143_47 : ab_ft (ab_CM 143) 47 = some (.getfield 782, 46, 773) := by decide +kernel
theorem f_143_50 : ab_ft (ab_CM 143) 50 = some (.bipush 17, 0, 0) := by decide +kernel
theorem f_143_52 : ab_ft (ab_CM 143) 52 = some (.iload_n 2, 0, 0) := by decide +kernel
theorem f_143_53 : ab_ft (ab_CM 143) 53 = some (.imul, 0, 0) := by decide +kernel
theorem f_143_54 : ab_ft (ab_CM 143) 54 = some (.iload 4, 0, 0) := by decide +kernel
theorem f_143_56 : ab_ft (ab_CM 143) 56 = some (.iadd, 0, 0) := by decide +kernel
theorem f_143_57 : ab_ft (ab_CM 143) 57 = some (.laload, 0, 0) := by decide +kernel
theorem f_143_58 : ab_ft (ab_CM 143) 58 = some (.lcmp, 0, 0) := by decide +kernel
theorem f_143_59 : ab_ft (ab_CM 143) 59 = some (.ifCond .ne 66, 0, 0) := by decide +kernel
theorem f_143_62 : ab_ft (ab_CM 143) 62 = some (.iload_n 3, 0, 0) := by decide +kernel
theorem f_143_63 : ab_ft (ab_CM 143) 63 = some (.goto 75, 0, 0) := by decide +kernel
theorem f_143_66 : ab_ft (ab_CM 143) 66 = some (.aload_n 0, 0, 0) := by decide +kernel
theorem f_143_67 : ab_ft (ab_CM 143) 67 = some (.getfield 770, 16, 761) := by decide +kernel
theorem f_143_70 : ab_ft (ab_CM 143) 70 = some (.iload 4, 0, 0) := by decide +kernel
theorem f_143_72 : ab_ft (ab_CM 143) 72 = some (.iaload, 0, 0) := by decide +kernel
theorem f_143_73 : ab_ft (ab_CM 143) 73 = some (.iconst 1, 0, 0) := by decide +kernel
theorem f_143_74 : ab_ft (ab_CM 143) 74 = some (.isub, 0, 0) := by decide +kernel
theorem f_143_75 : ab_ft (ab_CM 143) 75 = some (.istore_n 3, 0, 0) := by decide +kernel
theorem f_143_76 : ab_ft (ab_CM 143) 76 = some (.iinc 4 (-1), 0, 0) := by decide +kernel
theorem f_143_79 : ab_ft (ab_CM 143) 79 = some (.goto 34, 0, 0) := by decide +kernel
theorem f_143_82 : ab_ft (ab_CM 143) 82 = some (.aload_n 0, 0, 0) := by decide +kernel
theorem f_143_83 : ab_ft (ab_CM 143) 83 = some (.iload_n 1, 0, 0) := by decide +kernel
theorem f_143_84 : ab_ft (ab_CM 143) 84 = some (.invokevirtual 137, 215, 972) := by decide +kernel
theorem f_143_87 : ab_ft (ab_CM 143) 87 = some (.istore 4, 0, 0) := by decide +kernel
theorem f_143_89 : ab_ft (ab_CM 143) 89 = some (.iload_n 3, 0, 0) := by decide +kernel
theorem f_143_90 : ab_ft (ab_CM 143) 90 = some (.ireturn, 0, 0) := by decide +kernel
theorem my_143_137 : sg_may 0 143 137 = true := by decide +kernel
theorem my_143_134 : sg_may 0 143 134 = true := by decide +kernel
theorem my_143_101 : sg_may 1 143 101 = true := by decide +kernel
theorem my_143_133 : sg_may 0 143 133 = true := by decide +kernel
theorem mr_143 : ab_MR 143 = (12, 0, 2, 5, 1, 4, 91) := by decide +kernel
theorem rk_143 : (ab_MR 143).2.2.2.2.1 = 1 := by decide +kernel
theorem f_144_0 : ab_ft (ab_CM 144) 0 = some (.iload_n 1, 0, 0) := by decide +kernel
theorem f_144_1 : ab_ft (ab_CM 144) 1 = some (.invokestatic 101, 209, 964) := by decide +kernel
theorem f_144_4 : ab_ft (ab_CM 144) 4 = some (.ifCond .eq 14, 0, 0) := by decide +kernel
theorem f_144_7 : ab_ft (ab_CM 144) 7 = some (.iload_n 2, 0, 0) := by decide +kernel
theorem f_144_8 : ab_ft (ab_CM 144) 8 = some (.invokestatic 100, 128, 872) := by decide +kernel
theorem f_144_11 : ab_ft (ab_CM 144) 11 = some (.ifCond .ne 16, 0, 0) := by decide +kernel
theorem f_144_14 : ab_ft (ab_CM 144) 14 = some (.iconst (-1), 0, 0) := by decide +kernel
theorem f_144_15 : ab_ft (ab_CM 144) 15 = some (.ireturn, 0, 0) := by decide +kernel
theorem f_144_16 : ab_ft (ab_CM 144) 16 = some (.aload_n 0, 0, 0) := by decide +kernel
theorem f_144_17 : ab_ft (ab_CM 144) 17 = some (.getfield 782, 46, 773) := by decide +kernel
theorem f_144_20 : ab_ft (ab_CM 144) 20 = some (.bipush 17, 0, 0) := by decide +kernel
theorem f_144_22 : ab_ft (ab_CM 144) 22 = some (.iload_n 1, 0, 0) := by decide +kernel
theorem f_144_23 : ab_ft (ab_CM 144) 23 = some (.imul, 0, 0) := by decide +kernel
theorem f_144_24 : ab_ft (ab_CM 144) 24 = some (.iload_n 2, 0, 0) := by decide +kernel
theorem f_144_25 : ab_ft (ab_CM 144) 25 = some (.iadd, 0, 0) := by decide +kernel
theorem f_144_26 : ab_ft (ab_CM 144) 26 = some (.laload, 0, 0) := by decide +kernel
theorem f_144_27 : ab_ft (ab_CM 144) 27 = some (.iload_n 3, 0, 0) := by decide +kernel
theorem f_144_28 : ab_ft (ab_CM 144) 28 = some (.i2l, 0, 0) := by decide +kernel
theorem f_144_29 : ab_ft (ab_CM 144) 29 = some (.lcmp, 0, 0) := by decide +kernel
theorem f_144_30 : ab_ft (ab_CM 144) 30 = some (.ifCond .ne 36, 0, 0) := by decide +kernel
theorem f_144_33 : ab_ft (ab_CM 144) 33 = some (.bipush (-2), 0, 0) := by decide +kernel
theorem f_144_35 : ab_ft (ab_CM 144) 35 = some (.ireturn, 0, 0) := by decide +kernel
theorem f_144_36 : ab_ft (ab_CM 144) 36 = some (.aload_n 0, 0, 0) := by decide +kernel
theorem f_144_37 : ab_ft (ab_CM 144) 37 = some (.invokevirtual 123, 177, 937) := by decide +kernel
theorem f_144_40 : ab_ft (ab_CM 144) 40 = some (.aload_n 0, 0, 0) := by decide +kernel
theorem f_144_41 : ab_ft (ab_CM 144) 41 = some (.getfield 782, 46, 773) := by decide +kernel
theorem f_144_44 : ab_ft (ab_CM 144) 44 = some (.bipush 17, 0, 0) := by decide +kernel
theorem f_144_46 : ab_ft (ab_CM 144) 46 = some (.iload_n 1, 0, 0) := by decide +kernel
theorem f_144_47 : ab_ft (ab_CM 144) 47 = some (.imul, 0, 0) := by decide +kernel
theorem f_144_48 : ab_ft (ab_CM 144) 48 = some (.iload_n 2, 0, 0) := by decide +kernel
theorem f_144_49 : ab_ft (ab_CM 144) 49 = some (.iadd, 0, 0) := by decide +kernel
theorem f_144_50 : ab_ft (ab_CM 144) 50 = some (.iload_n 3, 0, 0) := by decide +kernel
theorem f_144_51 : ab_ft (ab_CM 144) 51 = some (.i2l, 0, 0) := by decide +kernel
theorem f_144_52 : ab_ft (ab_CM 144) 52 = some (.lastore, 0, 0) := by decide +kernel
theorem f_144_53 : ab_ft (ab_CM 144) 53 = some (.iconst 1, 0, 0) := by decide +kernel
theorem f_144_54 : ab_ft (ab_CM 144) 54 = some (.ireturn, 0, 0) := by decide +kernel
theorem my_144_123 : sg_may 0 144 123 = true := by decide +kernel
theorem my_144_100 : sg_may 1 144 100 = true := by decide +kernel
theorem my_144_101 : sg_may 1 144 101 = true := by decide +kernel
theorem mr_144 : ab_MR 144 = (12, 0, 3, 4, 1, 2, 45) := by decide +kernel
theorem rk_144 : (ab_MR 144).2.2.2.2.1 = 1 := by decide +kernel
theorem f_145_0 : ab_ft (ab_CM 145) 0 = some (.iload_n 1, 0, 0) := by decide +kernel
theorem f_145_1 : ab_ft (ab_CM 145) 1 = some (.invokestatic 101, 209, 964) := by decide +kernel
theorem f_145_4 : ab_ft (ab_CM 145) 4 = some (.ifCond .eq 28, 0, 0) := by decide +kernel
theorem f_145_7 : ab_ft (ab_CM 145) 7 = some (.iload_n 2, 0, 0) := by decide +kernel
theorem f_145_8 : ab_ft (ab_CM 145) 8 = some (.invokestatic 100, 128, 872) := by decide +kernel
theorem f_145_11 : ab_ft (ab_CM 145) 11 = some (.ifCond .eq 28, 0, 0) := by decide +kernel
theorem f_145_14 : ab_ft (ab_CM 145) 14 = some (.aload_n 0, 0, 0) := by decide +kernel
theorem f_145_15 : ab_ft (ab_CM 145) 15 = some (.getfield 782, 46, 773) := by decide +kernel
theorem f_145_18 : ab_ft (ab_CM 145) 18 = some (.bipush 17, 0, 0) := by decide +kernel
theorem f_145_20 : ab_ft (ab_CM 145) 20 = some (.iload_n 1, 0, 0) := by decide +kernel
theorem f_145_21 : ab_ft (ab_CM 145) 21 = some (.imul, 0, 0) := by decide +kernel
theorem f_145_22 : ab_ft (ab_CM 145) 22 = some (.iload_n 2, 0, 0) := by decide +kernel
theorem f_145_23 : ab_ft (ab_CM 145) 23 = some (.iadd, 0, 0) := by decide +kernel
theorem f_145_24 : ab_ft (ab_CM 145) 24 = some (.laload, 0, 0) := by decide +kernel
theorem f_145_25 : ab_ft (ab_CM 145) 25 = some (.goto 31, 0, 0) := by decide +kernel
theorem f_145_28 : ab_ft (ab_CM 145) 28 = some (.ldc2_w 1, 235, 1038) := by decide +kernel
theorem f_145_31 : ab_ft (ab_CM 145) 31 = some (.lreturn, 0, 0) := by decide +kernel
theorem my_145_100 : sg_may 1 145 100 = true := by decide +kernel
theorem my_145_101 : sg_may 1 145 101 = true := by decide +kernel
theorem mr_145 : ab_MR 145 = (12, 0, 2, 3, 3, 2, 45) := by decide +kernel
theorem rk_145 : (ab_MR 145).2.2.2.2.1 = 3 := by decide +kernel
theorem f_146_0 : ab_ft (ab_CM 146) 0 = some (.iconst 0, 0, 0) := by decide +kernel
theorem f_146_1 : ab_ft (ab_CM 146) 1 = some (.istore_n 2, 0, 0) := by decide +kernel
theorem f_146_2 : ab_ft (ab_CM 146) 2 = some (.iload_n 2, 0, 0) := by decide +kernel
theorem f_146_3 : ab_ft (ab_CM 146) 3 = some (.bipush 17, 0, 0) := by decide +kernel
theorem f_146_5 : ab_ft (ab_CM 146) 5 = some (.if_icmp .ge 36, 0, 0) := by decide +kernel
theorem f_146_8 : ab_ft (ab_CM 146) 8 = some (.aload_n 0, 0, 0) := by decide +kernel
theorem f_146_9 : ab_ft (ab_CM 146) 9 = some (.getfield 782, 46, 773) := by decide +kernel
theorem f_146_12 : ab_ft (ab_CM 146) 12 = some (.bipush 17, 0, 0) := by decide +kernel
theorem f_146_14 : ab_ft (ab_CM 146) 14 = some (.iload_n 1, 0, 0) := by decide +kernel
theorem f_146_15 : ab_ft (ab_CM 146) 15 = some (.imul, 0, 0) := by decide +kernel
theorem f_146_16 : ab_ft (ab_CM 146) 16 = some (.iload_n 2, 0, 0) := by decide +kernel
theorem f_146_17 : ab_ft (ab_CM 146) 17 = some (.iadd, 0, 0) := by decide +kernel
theorem f_146_18 : ab_ft (ab_CM 146) 18 = some (.laload, 0, 0) := by decide +kernel
theorem f_146_19 : ab_ft (ab_CM 146) 19 = some (.aload_n 0, 0, 0) := by decide +kernel
theorem f_146_20 : ab_ft (ab_CM 146) 20 = some (.iload_n 2, 0, 0) := by decide +kernel
theorem f_146_21 : ab_ft (ab_CM 146) 21 = some (.invokevirtual 129, 202, 980) := by decide +kernel
theorem f_146_24 : ab_ft (ab_CM 146) 24 = some (.lcmp, 0, 0) := by decide +kernel
theorem f_146_25 : ab_ft (ab_CM 146) 25 = some (.ifCond .eq 30, 0, 0) := by decide +kernel
theorem f_146_28 : ab_ft (ab_CM 146) 28 = some (.iload_n 2, 0, 0) := by decide +kernel
theorem f_146_29 : ab_ft (ab_CM 146) 29 = some (.ireturn, 0, 0) := by decide +kernel
theorem f_146_30 : ab_ft (ab_CM 146) 30 = some (.iinc 2 1, 0, 0) := by decide +kernel
theorem f_146_33 : ab_ft (ab_CM 146) 33 = some (.goto 2, 0, 0) := by decide +kernel
theorem f_146_36 : ab_ft (ab_CM 146) 36 = some (.bipush (-9), 0, 0) := by decide +kernel
theorem f_146_38 : ab_ft (ab_CM 146) 38 = some (.ireturn, 0, 0) := by decide +kernel
theorem my_146_129 : sg_may 0 146 129 = true := by decide +kernel
theorem mr_146 : ab_MR 146 = (12, 0, 1, 3, 1, 2, 46) := by decide +kernel
theorem rk_146 : (ab_MR 146).2.2.2.2.1 = 1 := by decide +kernel
theorem f_147_0 : ab_ft (ab_CM 147) 0 = some (.iconst 0, 0, 0) := by decide +kernel
theorem f_147_1 : ab_ft (ab_CM 147) 1 = some (.istore_n 2, 0, 0) := by decide +kernel
theorem f_147_2 : ab_ft (ab_CM 147) 2 = some (.iload_n 2, 0, 0) := by decide +kernel
theorem f_147_3 : ab_ft (ab_CM 147) 3 = some (.bipush 17, 0, 0) := by decide +kernel
theorem f_147_5 : ab_ft (ab_CM 147) 5 = some (.if_icmp .ge 110, 0, 0) := by decide +kernel
theorem f_147_8 : ab_ft (ab_CM 147) 8 = some (.iconst 0, 0, 0) := by decide +kernel
theorem f_147_9 : ab_ft (ab_CM 147) 9 = some (.istore_n 3, 0, 0) := by decide +kernel
theorem f_147_10 : ab_ft (ab_CM 147) 10 = some (.iload_n 3, 0, 0) := by decide +kernel
theorem f_147_11 : ab_ft (ab_CM 147) 11 = some (.bipush 17, 0, 0) := by decide +kernel
theorem f_147_13 : ab_ft (ab_CM 147) 13 = some (.if_icmp .ge 104, 0, 0) := by decide +kernel
theorem f_147_16 : ab_ft (ab_CM 147) 16 = some (.aload_n 0, 0, 0) := by decide +kernel
theorem f_147_17 : ab_ft (ab_CM 147) 17 = some (.iload_n 2, 0, 0) := by decide +kernel
theorem f_147_18 : ab_ft (ab_CM 147) 18 = some (.iload_n 3, 0, 0) := by decide +kernel
theorem f_147_19 : ab_ft (ab_CM 147) 19 = some (.invokevirtual 108, 135, 894) := by decide +kernel
theorem f_147_22 : ab_ft (ab_CM 147) 22 = some (.istore 4, 0, 0) := by decide +kernel
theorem f_147_24 : ab_ft (ab_CM 147) 24 = some (.aload_n 0, 0, 0) := by decide +kernel
theorem f_147_25 : ab_ft (ab_CM 147) 25 = some (.iload_n 3, 0, 0) := by decide +kernel
theorem f_147_26 : ab_ft (ab_CM 147) 26 = some (.iload_n 2, 0, 0) := by decide +kernel
theorem f_147_27 : ab_ft (ab_CM 147) 27 = some (.invokevirtual 108, 135, 894) := by decide +kernel
theorem f_147_30 : ab_ft (ab_CM 147) 30 = some (.istore 5, 0, 0) := by decide +kernel
theorem f_147_32 : ab_ft (ab_CM 147) 32 = some (.iload 4, 0, 0) := by decide +kernel
theorem f_147_34 : ab_ft (ab_CM 147) 34 = some (.bipush (-9), 0, 0) := by decide +kernel
theorem f_147_36 : ab_ft (ab_CM 147) 36 = some (.if_icmp .eq 98, 0, 0) := by decide +kernel
theorem f_147_39 : ab_ft (ab_CM 147) 39 = some (.aload_n 0, 0, 0) := by decide +kernel
theorem f_147_40 : ab_ft (ab_CM 147) 40 = some (.getfield 782, 46, 773) := by decide +kernel
theorem f_147_43 : ab_ft (ab_CM 147) 43 = some (.bipush 17, 0, 0) := by decide +kernel
theorem f_147_45 : ab_ft (ab_CM 147) 45 = some (.iload_n 1, 0, 0) := by decide +kernel
theorem f_147_46 : ab_ft (ab_CM 147) 46 = some (.imul, 0, 0) := by decide +kernel
theorem f_147_47 : ab_ft (ab_CM 147) 47 = some (.iload 4, 0, 0) := by decide +kernel
theorem f_147_49 : ab_ft (ab_CM 147) 49 = some (.iadd, 0, 0) := by decide +kernel
theorem f_147_50 : ab_ft (ab_CM 147) 50 = some (.laload, 0, 0) := by decide +kernel
theorem f_147_51 : ab_ft (ab_CM 147) 51 = some (.aload_n 0, 0, 0) := by decide +kernel
theorem f_147_52 : ab_ft (ab_CM 147) 52 = some (.getfield 782, 46, 773) := by decide +kernel
theorem f_147_55 : ab_ft (ab_CM 147) 55 = some (.bipush 17, 0, 0) := by decide +kernel
theorem f_147_57 : ab_ft (ab_CM 147) 57 = some (.iload_n 1, 0, 0) := by decide +kernel
theorem f_147_58 : ab_ft (ab_CM 147) 58 = some (.imul, 0, 0) := by decide +kernel
theorem f_147_59 : ab_ft (ab_CM 147) 59 = some (.iload 5, 0, 0) := by decide +kernel
theorem f_147_61 : ab_ft (ab_CM 147) 61 = some (.iadd, 0, 0) := by decide +kernel
theorem f_147_62 : ab_ft (ab_CM 147) 62 = some (.laload, 0, 0) := by decide +kernel
theorem f_147_63 : ab_ft (ab_CM 147) 63 = some (.ladd, 0, 0) := by decide +kernel
theorem f_147_64 : ab_ft (ab_CM 147) 64 = some (.aload_n 0, 0, 0) := by decide +kernel
theorem f_147_65 : ab_ft (ab_CM 147) 65 = some (.getfield 782, 46, 773) := by decide +kernel
theorem f_147_68 : ab_ft (ab_CM 147) 68 = some (.bipush 17, 0, 0) := by decide +kernel
theorem f_147_70 : ab_ft (ab_CM 147) 70 = some (.iload_n 1, 0, 0) := by decide +kernel
theorem f_147_71 : ab_ft (ab_CM 147) 71 = some (.imul, 0, 0) := by decide +kernel
theorem f_147_72 : ab_ft (ab_CM 147) 72 = some (.iload_n 2, 0, 0) := by decide +kernel
theorem f_147_73 : ab_ft (ab_CM 147) 73 = some (.iadd, 0, 0) := by decide +kernel
theorem f_147_74 : ab_ft (ab_CM 147) 74 = some (.laload, 0, 0) := by decide +kernel
theorem f_147_75 : ab_ft (ab_CM 147) 75 = some (.aload_n 0, 0, 0) := by decide +kernel
theorem f_147_76 : ab_ft (ab_CM 147) 76 = some (.getfield 782, 46, 773) := by decide +kernel
theorem f_147_79 : ab_ft (ab_CM 147) 79 = some (.bipush 17, 0, 0) := by decide +kernel
theorem f_147_81 : ab_ft (ab_CM 147) 81 = some (.iload_n 1, 0, 0) := by decide +kernel
theorem f_147_82 : ab_ft (ab_CM 147) 82 = some (.imul, 0, 0) := by decide +kernel
theorem f_147_83 : ab_ft (ab_CM 147) 83 = some (.iload_n 3, 0, 0) := by decide +kernel
theorem f_147_84 : ab_ft (ab_CM 147) 84 = some (.iadd, 0, 0) := by decide +kernel
theorem f_147_85 : ab_ft (ab_CM 147) 85 = some (.laload, 0, 0) := by decide +kernel
theorem f_147_86 : ab_ft (ab_CM 147) 86 = some (.lmul, 0, 0) := by decide +kernel
theorem f_147_87 : ab_ft (ab_CM 147) 87 = some (.lcmp, 0, 0) := by decide +kernel
theorem f_147_88 : ab_ft (ab_CM 147) 88 = some (.ifCond .eq 98, 0, 0) := by decide +kernel
theorem f_147_91 : ab_ft (ab_CM 147) 91 = some (.bipush 17, 0, 0) := by decide +kernel
theorem f_147_93 : ab_ft (ab_CM 147) 93 = some (.iload_n 2, 0, 0) := by decide +kernel
theorem f_147_94 : ab_ft (ab_CM 147) 94 = some (.imul, 0, 0) := by decide +kernel
theorem f_147_95 : ab_ft (ab_CM 147) 95 = some (.iload_n 3, 0, 0) := by decide +kernel
theorem f_147_96 : ab_ft (ab_CM 147) 96 = some (.iadd, 0, 0) := by decide +kernel
theorem f_147_97 : ab_ft (ab_CM 147) 97 = some (.ireturn, 0, 0) := by decide +kernel
theorem f_147_98 : ab_ft (ab_CM 147) 98 = some (.iinc 3 1, 0, 0) := by decide +kernel
theorem f_147_101 : ab_ft (ab_CM 147) 101 = some (.goto 10, 0, 0) := by decide +kernel
theorem f_147_104 : ab_ft (ab_CM 147) 104 = some (.iinc 2 1, 0, 0) := by decide +kernel
theorem f_147_107 : ab_ft (ab_CM 147) 107 = some (.goto 2, 0, 0) := by decide +kernel
theorem f_147_110 : ab_ft (ab_CM 147) 110 = some (.bipush (-9), 0, 0) := by decide +kernel
theorem f_147_112 : ab_ft (ab_CM 147) 112 = some (.ireturn, 0, 0) := by decide +kernel
theorem my_147_108 : sg_may 0 147 108 = true := by decide +kernel
theorem mr_147 : ab_MR 147 = (12, 0, 1, 6, 1, 2, 47) := by decide +kernel
theorem rk_147 : (ab_MR 147).2.2.2.2.1 = 1 := by decide +kernel
theorem f_148_0 : ab_ft (ab_CM 148) 0 = some (.iload_n 1, 0, 0) := by decide +kernel
theorem f_148_1 : ab_ft (ab_CM 148) 1 = some (.invokestatic 101, 209, 964) := by decide +kernel
theorem f_148_4 : ab_ft (ab_CM 148) 4 = some (.ifCond .eq 19, 0, 0) := by decide +kernel
theorem f_148_7 : ab_ft (ab_CM 148) 7 = some (.iload_n 2, 0, 0) := by decide +kernel
theorem f_148_8 : ab_ft (ab_CM 148) 8 = some (.i2l, 0, 0) := by decide +kernel
theorem f_148_9 : ab_ft (ab_CM 148) 9 = some (.lconst 0, 0, 0) := by decide +kernel
theorem f_148_10 : ab_ft (ab_CM 148) 10 = some (.ldc2_w 12, 237, 1043) := by decide +kernel
theorem f_148_13 : ab_ft (ab_CM 148) 13 = some (.invokestatic 99, 100, 876) := by decide +kernel
theorem f_148_16 : ab_ft (ab_CM 148) 16 = some (.ifCond .ne 21, 0, 0) := by decide +kernel
theorem f_148_19 : ab_ft (ab_CM 148) 19 = some (.iconst (-1), 0, 0) := by decide +kernel
theorem f_148_20 : ab_ft (ab_CM 148) 20 = some (.ireturn, 0, 0) := by decide +kernel
theorem f_148_21 : ab_ft (ab_CM 148) 21 = some (.iload_n 2, 0, 0) := by decide +kernel
theorem f_148_22 : ab_ft (ab_CM 148) 22 = some (.ifCond .ne 33, 0, 0) := by decide +kernel
theorem f_148_25 : ab_ft (ab_CM 148) 25 = some (.aload_n 0, 0, 0) := by decide +kernel
theorem f_148_26 : ab_ft (ab_CM 148) 26 = some (.iload_n 1, 0, 0) := by decide +kernel
theorem f_148_27 : ab_ft (ab_CM 148) 27 = some (.invokevirtual 136, 206, 976) := by decide +kernel
theorem f_148_30 : ab_ft (ab_CM 148) 30 = some (.goto 51, 0, 0) := by decide +kernel
theorem f_148_33 : ab_ft (ab_CM 148) 33 = some (.iload_n 2, 0, 0) := by decide +kernel
theorem f_148_34 : ab_ft (ab_CM 148) 34 = some (.iconst 1, 0, 0) := by decide +kernel
theorem f_148_35 : ab_ft (ab_CM 148) 35 = some (.if_icmp .ne 46, 0, 0) := by decide +kernel
theorem f_148_38 : ab_ft (ab_CM 148) 38 = some (.aload_n 0, 0, 0) := by decide +kernel
theorem f_148_39 : ab_ft (ab_CM 148) 39 = some (.iload_n 1, 0, 0) := by decide +kernel
theorem f_148_40 : ab_ft (ab_CM 148) 40 = some (.invokevirtual 146, 239, 1044) := by decide +kernel
theorem f_148_43 : ab_ft (ab_CM 148) 43 = some (.goto 51, 0, 0) := by decide +kernel
theorem f_148_46 : ab_ft (ab_CM 148) 46 = some (.aload_n 0, 0, 0) := by decide +kernel
theorem f_148_47 : ab_ft (ab_CM 148) 47 = some (.iload_n 1, 0, 0) := by decide +kernel
theorem f_148_48 : ab_ft (ab_CM 148) 48 = some (.invokevirtual 147, 242, 1048) := by decide +kernel
theorem f_148_51 : ab_ft (ab_CM 148) 51 = some (.ireturn, 0, 0) := by decide +kernel
theorem my_148_99 : sg_may 1 148 99 = true := by decide +kernel
theorem my_148_101 : sg_may 1 148 101 = true := by decide +kernel
theorem my_148_136 : sg_may 0 148 136 = true := by decide +kernel
theorem my_148_146 : sg_may 0 148 146 = true := by decide +kernel
theorem my_148_147 : sg_may 0 148 147 = true := by decide +kernel
theorem mr_148 : ab_MR 148 = (12, 0, 2, 3, 1, 3, 72) := by decide +kernel
theorem rk_148 : (ab_MR 148).2.2.2.2.1 = 1 := by decide +kernel
theorem f_149_0 : ab_ft (ab_CM 149) 0 = some (.iload_n 1, 0, 0) := by decide +kernel
theorem f_149_1 : ab_ft (ab_CM 149) 1 = some (.invokestatic 101, 209, 964) := by decide +kernel
theorem f_149_4 : ab_ft (ab_CM 149) 4 = some (.ifCond .eq 14, 0, 0) := by decide +kernel
theorem f_149_7 : ab_ft (ab_CM 149) 7 = some (.iload_n 2, 0, 0) := by decide +kernel
theorem f_149_8 : ab_ft (ab_CM 149) 8 = some (.invokestatic 101, 209, 964) := by decide +kernel
theorem f_149_11 : ab_ft (ab_CM 149) 11 = some (.ifCond .ne 16, 0, 0) := by decide +kernel
theorem f_149_14 : ab_ft (ab_CM 149) 14 = some (.iconst (-1), 0, 0) := by decide +kernel
theorem f_149_15 : ab_ft (ab_CM 149) 15 = some (.ireturn, 0, 0) := by decide +kernel
theorem f_149_16 : ab_ft (ab_CM 149) 16 = some (.iconst 5, 0, 0) := by decide +kernel
theorem f_149_17 : ab_ft (ab_CM 149) 17 = some (.istore_n 3, 0, 0) := by decide +kernel
theorem f_149_18 : ab_ft (ab_CM 149) 18 = some (.bipush 16, 0, 0) := by decide +kernel
theorem f_149_20 : ab_ft (ab_CM 149) 20 = some (.istore 4, 0, 0) := by decide +kernel
theorem f_149_22 : ab_ft (ab_CM 149) 22 = some (.iload 4, 0, 0) := by decide +kernel
theorem f_149_24 : ab_ft (ab_CM 149) 24 = some (.ifCond .lt 75, 0, 0) := by decide +kernel
theorem f_149_27 : ab_ft (ab_CM 149) 27 = some (.aload_n 0, 0, 0) := by decide +kernel
theorem f_149_28 : ab_ft (ab_CM 149) 28 = some (.getfield 782, 46, 773) := by decide +kernel
theorem f_149_31 : ab_ft (ab_CM 149) 31 = some (.bipush 17, 0, 0) := by decide +kernel
theorem f_149_33 : ab_ft (ab_CM 149) 33 = some (.iload_n 1, 0, 0) := by decide +kernel
theorem f_149_34 : ab_ft (ab_CM 149) 34 = some (.imul, 0, 0) := by decide +kernel
theorem f_149_35 : ab_ft (ab_CM 149) 35 = some (.iload 4, 0, 0) := by decide +kernel
theorem f_149_37 : ab_ft (ab_CM 149) 37 = some (.iadd, 0, 0) := by decide +kernel
theorem f_149_38 : ab_ft (ab_CM 149) 38 = some (.laload, 0, 0) := by decide +kernel
theorem f_149_39 : ab_ft (ab_CM 149) 39 = some (.aload_n 0, 0, 0) := by decide +kernel
theorem f_149_40 : ab_ft (ab_CM 149) 40 = some (.getfield 782, 46, 773) := by decide +kernel
theorem f_149_43 : ab_ft (ab_CM 149) 43 = some (.bipush 17, 0, 0) := by decide +kernel
theorem f_149_45 : ab_ft (ab_CM 149) 45 = some (.iload_n 2, 0, 0) := by decide +kernel
theorem f_149_46 : ab_ft (ab_CM 149) 46 = some (.imul, 0, 0) := by decide +kernel
theorem f_149_47 : ab_ft (ab_CM 149) 47 = some (.iload 4, 0, 0) := by decide +kernel
theorem f_149_49 : ab_ft (ab_CM 149) 49 = some (.iadd, 0, 0) := by decide +kernel
theorem f_149_50 : ab_ft (ab_CM 149) 50 = some (.laload, 0, 0) := by decide +kernel
theorem f_149_51 : ab_ft (ab_CM 149) 51 = some (.lcmp, 0, 0) := by decide +kernel
theorem f_149_52 : ab_ft (ab_CM 149) 52 = some (.ifCond .ne 59, 0, 0) := by decide +kernel
theorem f_149_55 : ab_ft (ab_CM 149) 55 = some (.iload_n 3, 0, 0) := by decide +kernel
theorem f_149_56 : ab_ft (ab_CM 149) 56 = some (.goto 68, 0, 0) := by decide +kernel
theorem f_149_59 : ab_ft (ab_CM 149) 59 = some (.aload_n 0, 0, 0) := by decide +kernel
theorem f_149_60 : ab_ft (ab_CM 149) 60 = some (.getfield 770, 16, 761) := by decide +kernel
theorem f_149_63 : ab_ft (ab_CM 149) 63 = some (.iload 4, 0, 0) := by decide +kernel
theorem f_149_65 : ab_ft (ab_CM 149) 65 = some (.iaload, 0, 0) := by decide +kernel
theorem f_149_66 : ab_ft (ab_CM 149) 66 = some (.iconst 1, 0, 0) := by decide +kernel
theorem f_149_67 : ab_ft (ab_CM 149) 67 = some (.isub, 0, 0) := by decide +kernel
theorem f_149_68 : ab_ft (ab_CM 149) 68 = some (.istore_n 3, 0, 0) := by decide +kernel
theorem f_149_69 : ab_ft (ab_CM 149) 69 = some (.iinc 4 (-1), 0, 0) := by decide +kernel
theorem f_149_72 : ab_ft (ab_CM 149) 72 = some (.goto 22, 0, 0) := by decide +kernel
theorem f_149_75 : ab_ft (ab_CM 149) 75 = some (.iload_n 3, 0, 0) := by decide +kernel
theorem f_149_76 : ab_ft (ab_CM 149) 76 = some (.ireturn, 0, 0) := by decide +kernel
theorem my_149_101 : sg_may 1 149 101 = true := by decide +kernel
theorem mr_149 : ab_MR 149 = (12, 0, 2, 5, 1, 2, 45) := by decide +kernel
theorem rk_149 : (ab_MR 149).2.2.2.2.1 = 1 := by decide +kernel
theorem f_150_0 : ab_ft (ab_CM 150) 0 = some (.iload_n 1, 0, 0) := by decide +kernel
theorem f_150_1 : ab_ft (ab_CM 150) 1 = some (.invokestatic 100, 128, 872) := by decide +kernel
theorem f_150_4 : ab_ft (ab_CM 150) 4 = some (.ifCond .ne 9, 0, 0) := by decide +kernel
theorem f_150_7 : ab_ft (ab_CM 150) 7 = some (.iconst (-1), 0, 0) := by decide +kernel
theorem f_150_8 : ab_ft (ab_CM 150) 8 = some (.ireturn, 0, 0) := by decide +kernel
theorem f_150_9 : ab_ft (ab_CM 150) 9 = some (.aload_n 0, 0, 0) := by decide +kernel
theorem f_150_10 : ab_ft (ab_CM 150) 10 = some (.getfield 791, 245, 782) := by decide +kernel
theorem f_150_13 : ab_ft (ab_CM 150) 13 = some (.bipush 6, 0, 0) := by decide +kernel
theorem f_150_15 : ab_ft (ab_CM 150) 15 = some (.if_icmp .ne 21, 0, 0) := by decide +kernel
theorem f_150_18 : ab_ft (ab_CM 150) 18 = some (.bipush (-3), 0, 0) := by decide +kernel
theorem f_150_20 : ab_ft (ab_CM 150) 20 = some (.ireturn, 0, 0) := by decide +kernel
theorem f_150_21 : ab_ft (ab_CM 150) 21 = some (.aload_n 0, 0, 0) := by decide +kernel
theorem f_150_22 : ab_ft (ab_CM 150) 22 = some (.getfield 789, 66, 780) := by decide +kernel
theorem f_150_25 : ab_ft (ab_CM 150) 25 = some (.aload_n 0, 0, 0) := by decide +kernel
theorem f_150_26 : ab_ft (ab_CM 150) 26 = some (.getfield 791, 245, 782) := by decide +kernel
theorem f_150_29 : ab_ft (ab_CM 150) 29 = some (.iload_n 1, 0, 0) := by decide +kernel
theorem f_150_30 : ab_ft (ab_CM 150) 30 = some (.iastore, 0, 0) := by decide +kernel
theorem f_150_31 : ab_ft (ab_CM 150) 31 = some (.aload_n 0, 0, 0) := by decide +kernel
theorem f_150_32 : ab_ft (ab_CM 150) 32 = some (.getfield 790, 69, 781) := by decide +kernel
theorem f_150_35 : ab_ft (ab_CM 150) 35 = some (.aload_n 0, 0, 0) := by decide +kernel
theorem f_150_36 : ab_ft (ab_CM 150) 36 = some (.getfield 791, 245, 782) := by decide +kernel
theorem f_150_39 : ab_ft (ab_CM 150) 39 = some (.lload_n 2, 0, 0) := by decide +kernel
theorem f_150_40 : ab_ft (ab_CM 150) 40 = some (.lastore, 0, 0) := by decide +kernel
theorem f_150_41 : ab_ft (ab_CM 150) 41 = some (.aload_n 0, 0, 0) := by decide +kernel
theorem f_150_42 : ab_ft (ab_CM 150) 42 = some (.dup, 0, 0) := by decide +kernel
theorem f_150_43 : ab_ft (ab_CM 150) 43 = some (.getfield 791, 245, 782) := by decide +kernel
theorem f_150_46 : ab_ft (ab_CM 150) 46 = some (.iconst 1, 0, 0) := by decide +kernel
theorem f_150_47 : ab_ft (ab_CM 150) 47 = some (.iadd, 0, 0) := by decide +kernel
theorem f_150_48 : ab_ft (ab_CM 150) 48 = some (.putfield 4887, 245, 782) := by decide +kernel
theorem f_150_51 : ab_ft (ab_CM 150) 51 = some (.aload_n 0, 0, 0) := by decide +kernel
theorem f_150_52 : ab_ft (ab_CM 150) 52 = some (.getfield 791, 245, 782) := by decide +kernel
theorem f_150_55 : ab_ft (ab_CM 150) 55 = some (.ireturn, 0, 0) := by decide +kernel
theorem my_150_100 : sg_may 1 150 100 = true := by decide +kernel
theorem mr_150 : ab_MR 150 = (12, 0, 2, 4, 1, 2, 45) := by decide +kernel
theorem rk_150 : (ab_MR 150).2.2.2.2.1 = 1 := by decide +kernel
theorem f_151_0 : ab_ft (ab_CM 151) 0 = some (.aload_n 0, 0, 0) := by decide +kernel
theorem f_151_1 : ab_ft (ab_CM 151) 1 = some (.getfield 791, 245, 782) := by decide +kernel
theorem f_151_4 : ab_ft (ab_CM 151) 4 = some (.istore_n 1, 0, 0) := by decide +kernel
theorem f_151_5 : ab_ft (ab_CM 151) 5 = some (.aload_n 0, 0, 0) := by decide +kernel
theorem f_151_6 : ab_ft (ab_CM 151) 6 = some (.iconst 0, 0, 0) := by decide +kernel
theorem f_151_7 : ab_ft (ab_CM 151) 7 = some (.putfield 4887, 245, 782) := by decide +kernel
theorem f_151_10 : ab_ft (ab_CM 151) 10 = some (.iload_n 1, 0, 0) := by decide +kernel
theorem f_151_11 : ab_ft (ab_CM 151) 11 = some (.ireturn, 0, 0) := by decide +kernel
theorem mr_151 : ab_MR 151 = (12, 0, 0, 2, 1, 0, 0) := by decide +kernel
theorem rk_151 : (ab_MR 151).2.2.2.2.1 = 1 := by decide +kernel
theorem f_152_0 : ab_ft (ab_CM 152) 0 = some (.iconst 0, 0, 0) := by decide +kernel
theorem f_152_1 : ab_ft (ab_CM 152) 1 = some (.istore_n 1, 0, 0) := by decide +kernel
theorem f_152_2 : ab_ft (ab_CM 152) 2 = some (.iconst 0, 0, 0) := by decide +kernel
theorem f_152_3 : ab_ft (ab_CM 152) 3 = some (.istore_n 2, 0, 0) := by decide +kernel
theorem f_152_4 : ab_ft (ab_CM 152) 4 = some (.iload_n 2, 0, 0) := by decide +kernel
theorem f_152_5 : ab_ft (ab_CM 152) 5 = some (.bipush 6, 0, 0) := by decide +kernel
theorem f_152_7 : ab_ft (ab_CM 152) 7 = some (.if_icmp .ge 88, 0, 0) := by decide +kernel
theorem f_152_10 : ab_ft (ab_CM 152) 10 = some (.iconst 1, 0, 0) := by decide +kernel
theorem f_152_11 : ab_ft (ab_CM 152) 11 = some (.istore_n 3, 0, 0) := by decide +kernel
theorem f_152_12 : ab_ft (ab_CM 152) 12 = some (.iconst 0, 0, 0) := by decide +kernel
theorem f_152_13 : ab_ft (ab_CM 152) 13 = some (.istore 4, 0, 0) := by decide +kernel
theorem f_152_15 : ab_ft (ab_CM 152) 15 = some (.iload 4, 0, 0) := by decide +kernel
theorem f_152_17 : ab_ft (ab_CM 152) 17 = some (.aload_n 0, 0, 0) := by decide +kernel
theorem f_152_18 : ab_ft (ab_CM 152) 18 = some (.getfield 791, 245, 782) := by decide +kernel
theorem f_152_21 : ab_ft (ab_CM 152) 21 = some (.if_icmp .ge 68, 0, 0) := by decide +kernel
theorem f_152_24 : ab_ft (ab_CM 152) 24 = some (.iload_n 3, 0, 0) := by decide +kernel
theorem f_152_25 : ab_ft (ab_CM 152) 25 = some (.ifCond .eq 60, 0, 0) := by decide +kernel
theorem f_152_28 : ab_ft (ab_CM 152) 28 = some (.aload_n 0, 0, 0) := by decide +kernel
theorem f_152_29 : ab_ft (ab_CM 152) 29 = some (.getfield 782, 46, 773) := by decide +kernel
theorem f_152_32 : ab_ft (ab_CM 152) 32 = some (.bipush 17, 0, 0) := by decide +kernel
theorem f_152_34 : ab_ft (ab_CM 152) 34 = some (.iload_n 2, 0, 0) := by decide +kernel
theorem f_152_35 : ab_ft (ab_CM 152) 35 = some (.imul, 0, 0) := by decide +kernel
theorem f_152_36 : ab_ft (ab_CM 152) 36 = some (.aload_n 0, 0, 0) := by decide +kernel
theorem f_152_37 : ab_ft (ab_CM 152) 37 = some (.getfield 789, 66, 780) := by decide +kernel
theorem f_152_40 : ab_ft (ab_CM 152) 40 = some (.iload 4, 0, 0) := by decide +kernel
theorem f_152_42 : ab_ft (ab_CM 152) 42 = some (.iaload, 0, 0) := by decide +kernel
theorem f_152_43 : ab_ft (ab_CM 152) 43 = some (.iadd, 0, 0) := by decide +kernel
theorem f_152_44 : ab_ft (ab_CM 152) 44 = some (.laload, 0, 0) := by decide +kernel
theorem f_152_45 : ab_ft (ab_CM 152) 45 = some (.aload_n 0, 0, 0) := by decide +kernel
theorem f_152_46 : ab_ft (ab_CM 152) 46 = some (.getfield 790, 69, 781) := by decide +kernel
theorem f_152_49 : ab_ft (ab_CM 152) 49 = some (.iload 4, 0, 0) := by decide +kernel
theorem f_152_51 : ab_ft (ab_CM 152) 51 = some (.laload, 0, 0) := by decide +kernel
theorem f_152_52 : ab_ft (ab_CM 152) 52 = some (.lcmp, 0, 0) := by decide +kernel
theorem f_152_53 : ab_ft (ab_CM 152) 53 = some (.ifCond .ne 60, 0, 0) := by decide +kernel
theorem f_152_56 : ab_ft (ab_CM 152) 56 = some (.iconst 1, 0, 0) := by decide +kernel
theorem f_152_57 : ab_ft (ab_CM 152) 57 = some (.goto 61, 0, 0) := by decide +kernel
theorem f_152_60 : ab_ft (ab_CM 152) 60 = some (.iconst 0, 0, 0) := by decide +kernel
theorem f_152_61 : ab_ft (ab_CM 152) 61 = some (.istore_n 3, 0, 0) := by decide +kernel
theorem f_152_62 : ab_ft (ab_CM 152) 62 = some (.iinc 4 1, 0, 0) := by decide +kernel
theorem f_152_65 : ab_ft (ab_CM 152) 65 = some (.goto 15, 0, 0) := by decide +kernel
theorem f_152_68 : ab_ft (ab_CM 152) 68 = some (.iload_n 1, 0, 0) := by decide +kernel
theorem f_152_69 : ab_ft (ab_CM 152) 69 = some (.iload_n 3, 0, 0) := by decide +kernel
theorem f_152_70 : ab_ft (ab_CM 152) 70 = some (.ifCond .eq 79, 0, 0) := by decide +kernel
theorem f_152_73 : ab_ft (ab_CM 152) 73 = some (.iconst 1, 0, 0) := by decide +kernel
theorem f_152_74 : ab_ft (ab_CM 152) 74 = some (.iload_n 2, 0, 0) := by decide +kernel
theorem f_152_75 : ab_ft (ab_CM 152) 75 = some (.ishl, 0, 0) := by decide +kernel
theorem f_152_76 : ab_ft (ab_CM 152) 76 = some (.goto 80, 0, 0) := by decide +kernel
theorem f_152_79 : ab_ft (ab_CM 152) 79 = some (.iconst 0, 0, 0) := by decide +kernel
theorem f_152_80 : ab_ft (ab_CM 152) 80 = some (.ior, 0, 0) := by decide +kernel
theorem f_152_81 : ab_ft (ab_CM 152) 81 = some (.istore_n 1, 0, 0) := by decide +kernel
theorem f_152_82 : ab_ft (ab_CM 152) 82 = some (.iinc 2 1, 0, 0) := by decide +kernel
theorem f_152_85 : ab_ft (ab_CM 152) 85 = some (.goto 4, 0, 0) := by decide +kernel
theorem f_152_88 : ab_ft (ab_CM 152) 88 = some (.iload_n 1, 0, 0) := by decide +kernel
theorem f_152_89 : ab_ft (ab_CM 152) 89 = some (.ireturn, 0, 0) := by decide +kernel
theorem mr_152 : ab_MR 152 = (12, 0, 0, 5, 1, 0, 0) := by decide +kernel
theorem rk_152 : (ab_MR 152).2.2.2.2.1 = 1 := by decide +kernel
theorem f_153_0 : ab_ft (ab_CM 153) 0 = some (.iload_n 1, 0, 0) := by decide +kernel
theorem f_153_1 : ab_ft (ab_CM 153) 1 = some (.i2l, 0, 0) := by decide +kernel
theorem f_153_2 : ab_ft (ab_CM 153) 2 = some (.lconst 0, 0, 0) := by decide +kernel
theorem f_153_3 : ab_ft (ab_CM 153) 3 = some (.lconst 1, 0, 0) := by decide +kernel
theorem f_153_4 : ab_ft (ab_CM 153) 4 = some (.invokestatic 99, 100, 876) := by decide +kernel
theorem f_153_7 : ab_ft (ab_CM 153) 7 = some (.ifCond .ne 12, 0, 0) := by decide +kernel
theorem f_153_10 : ab_ft (ab_CM 153) 10 = some (.iconst (-1), 0, 0) := by decide +kernel
theorem f_153_11 : ab_ft (ab_CM 153) 11 = some (.ireturn, 0, 0) := by decide +kernel
theorem f_153_12 : ab_ft (ab_CM 153) 12 = some (.iconst 0, 0, 0) := by decide +kernel
theorem f_153_13 : ab_ft (ab_CM 153) 13 = some (.istore_n 2, 0, 0) := by decide +kernel
theorem f_153_14 : ab_ft (ab_CM 153) 14 = some (.iload_n 2, 0, 0) := by decide +kernel
theorem f_153_15 : ab_ft (ab_CM 153) 15 = some (.bipush 21, 0, 0) := by decide +kernel
theorem f_153_17 : ab_ft (ab_CM 153) 17 = some (.if_icmp .ge 43, 0, 0) := by decide +kernel
theorem f_153_20 : ab_ft (ab_CM 153) 20 = some (.aload_n 0, 0, 0) := by decide +kernel
theorem f_153_21 : ab_ft (ab_CM 153) 21 = some (.getfield 786, 56, 777) := by decide +kernel
theorem f_153_24 : ab_ft (ab_CM 153) 24 = some (.bipush 21, 0, 0) := by decide +kernel
theorem f_153_26 : ab_ft (ab_CM 153) 26 = some (.iload_n 1, 0, 0) := by decide +kernel
theorem f_153_27 : ab_ft (ab_CM 153) 27 = some (.imul, 0, 0) := by decide +kernel
theorem f_153_28 : ab_ft (ab_CM 153) 28 = some (.iload_n 2, 0, 0) := by decide +kernel
theorem f_153_29 : ab_ft (ab_CM 153) 29 = some (.iadd, 0, 0) := by decide +kernel
theorem f_153_30 : ab_ft (ab_CM 153) 30 = some (.aload_n 0, 0, 0) := by decide +kernel
theorem f_153_31 : ab_ft (ab_CM 153) 31 = some (.getfield 781, 43, 772) := by decide +kernel
theorem f_153_34 : ab_ft (ab_CM 153) 34 = some (.iload_n 2, 0, 0) := by decide +kernel
theorem f_153_35 : ab_ft (ab_CM 153) 35 = some (.iaload, 0, 0) := by decide +kernel
theorem f_153_36 : ab_ft (ab_CM 153) 36 = some (.iastore, 0, 0) := by decide +kernel
theorem f_153_37 : ab_ft (ab_CM 153) 37 = some (.iinc 2 1, 0, 0) := by decide +kernel
theorem f_153_40 : ab_ft (ab_CM 153) 40 = some (.goto 14, 0, 0) := by decide +kernel
theorem f_153_43 : ab_ft (ab_CM 153) 43 = some (.iconst 0, 0, 0) := by decide +kernel
theorem f_153_44 : ab_ft (ab_CM 153) 44 = some (.istore_n 2, 0, 0) := by decide +kernel
theorem f_153_45 : ab_ft (ab_CM 153) 45 = some (.iload_n 2, 0, 0) := by decide +kernel
theorem f_153_46 : ab_ft (ab_CM 153) 46 = some (.bipush 102, 0, 0) := by decide +kernel
theorem f_153_48 : ab_ft (ab_CM 153) 48 = some (.if_icmp .ge 74, 0, 0) := by decide +kernel
theorem f_153_51 : ab_ft (ab_CM 153) 51 = some (.aload_n 0, 0, 0) := by decide +kernel
theorem f_153_52 : ab_ft (ab_CM 153) 52 = some (.getfield 787, 59, 778) := by decide +kernel
theorem f_153_55 : ab_ft (ab_CM 153) 55 = some (.bipush 102, 0, 0) := by decide +kernel
theorem f_153_57 : ab_ft (ab_CM 153) 57 = some (.iload_n 1, 0, 0) := by decide +kernel
theorem f_153_58 : ab_ft (ab_CM 153) 58 = some (.imul, 0, 0) := by decide +kernel
theorem f_153_59 : ab_ft (ab_CM 153) 59 = some (.iload_n 2, 0, 0) := by decide +kernel
theorem f_153_60 : ab_ft (ab_CM 153) 60 = some (.iadd, 0, 0) := by decide +kernel
theorem f_153_61 : ab_ft (ab_CM 153) 61 = some (.aload_n 0, 0, 0) := by decide +kernel
theorem f_153_62 : ab_ft (ab_CM 153) 62 = some (.getfield 782, 46, 773) := by decide +kernel
theorem f_153_65 : ab_ft (ab_CM 153) 65 = some (.iload_n 2, 0, 0) := by decide +kernel
theorem f_153_66 : ab_ft (ab_CM 153) 66 = some (.laload, 0, 0) := by decide +kernel
theorem f_153_67 : ab_ft (ab_CM 153) 67 = some (.lastore, 0, 0) := by decide +kernel
theorem f_153_68 : ab_ft (ab_CM 153) 68 = some (.iinc 2 1, 0, 0) := by decide +kernel
theorem f_153_71 : ab_ft (ab_CM 153) 71 = some (.goto 45, 0, 0) := by decide +kernel
theorem f_153_74 : ab_ft (ab_CM 153) 74 = some (.aload_n 0, 0, 0) := by decide +kernel
theorem f_153_75 : ab_ft (ab_CM 153) 75 = some (.getfield 788, 62, 779) := by decide +kernel
theorem f_153_78 : ab_ft (ab_CM 153) 78 = some (.iload_n 1, 0, 0) := by decide +kernel
theorem f_153_79 : ab_ft (ab_CM 153) 79 = some (.iconst 1, 0, 0) := by decide +kernel
theorem f_153_80 : ab_ft (ab_CM 153) 80 = some (.bastore, 0, 0) := by decide +kernel
theorem f_153_81 : ab_ft (ab_CM 153) 81 = some (.aload_n 0, 0, 0) := by decide +kernel
theorem f_153_82 : ab_ft (ab_CM 153) 82 = some (.getfield 781, 43, 772) := by decide +kernel
theorem f_153_85 : ab_ft (ab_CM 153) 85 = some (.iconst 0, 0, 0) := by decide +kernel
theorem f_153_86 : ab_ft (ab_CM 153) 86 = some (.iaload, 0, 0) := by decide +kernel
theorem f_153_87 : ab_ft (ab_CM 153) 87 = some (.ireturn, 0, 0) := by decide +kernel
theorem my_153_99 : sg_may 1 153 99 = true := by decide +kernel
theorem mr_153 : ab_MR 153 = (12, 0, 1, 3, 1, 1, 25) := by decide +kernel
theorem rk_153 : (ab_MR 153).2.2.2.2.1 = 1 := by decide +kernel
theorem f_154_0 : ab_ft (ab_CM 154) 0 = some (.iload_n 1, 0, 0) := by decide +kernel
theorem f_154_1 : ab_ft (ab_CM 154) 1 = some (.i2l, 0, 0) := by decide +kernel
theorem f_154_2 : ab_ft (ab_CM 154) 2 = some (.lconst 0, 0, 0) := by decide +kernel
theorem f_154_3 : ab_ft (ab_CM 154) 3 = some (.lconst 1, 0, 0) := by decide +kernel
theorem f_154_4 : ab_ft (ab_CM 154) 4 = some (.invokestatic 99, 100, 876) := by decide +kernel
theorem f_154_7 : ab_ft (ab_CM 154) 7 = some (.ifCond .ne 12, 0, 0) := by decide +kernel
theorem f_154_10 : ab_ft (ab_CM 154) 10 = some (.iconst (-1), 0, 0) := by decide +kernel
theorem f_154_11 : ab_ft (ab_CM 154) 11 = some (.ireturn, 0, 0) := by decide +kernel
theorem f_154_12 : ab_ft (ab_CM 154) 12 = some (.aload_n 0, 0, 0) := by decide +kernel
theorem f_154_13 : ab_ft (ab_CM 154) 13 = some (.getfield 788, 62, 779) := by decide +kernel
theorem f_154_16 : ab_ft (ab_CM 154) 16 = some (.iload_n 1, 0, 0) := by decide +kernel
theorem f_154_17 : ab_ft (ab_CM 154) 17 = some (.baload, 0, 0) := by decide +kernel
theorem f_154_18 : ab_ft (ab_CM 154) 18 = some (.ifCond .ne 24, 0, 0) := by decide +kernel
theorem f_154_21 : ab_ft (ab_CM 154) 21 = some (.bipush (-2), 0, 0) := by decide +kernel
theorem f_154_23 : ab_ft (ab_CM 154) 23 = some (.ireturn, 0, 0) := by decide +kernel
theorem f_154_24 : ab_ft (ab_CM 154) 24 = some (.iconst 0, 0, 0) := by decide +kernel
theorem f_154_25 : ab_ft (ab_CM 154) 25 = some (.istore_n 2, 0, 0) := by decide +kernel
theorem f_154_26 : ab_ft (ab_CM 154) 26 = some (.iload_n 2, 0, 0) := by decide +kernel
theorem f_154_27 : ab_ft (ab_CM 154) 27 = some (.bipush 21, 0, 0) := by decide +kernel
theorem f_154_29 : ab_ft (ab_CM 154) 29 = some (.if_icmp .ge 55, 0, 0) := by decide +kernel
theorem f_154_32 : ab_ft (ab_CM 154) 32 = some (.aload_n 0, 0, 0) := by decide +kernel
theorem f_154_33 : ab_ft (ab_CM 154) 33 = some (.getfield 781, 43, 772) := by decide +kernel
theorem f_154_36 : ab_ft (ab_CM 154) 36 = some (.iload_n 2, 0, 0) := by decide +kernel
theorem f_154_37 : ab_ft (ab_CM 154) 37 = some (.aload_n 0, 0, 0) := by decide +kernel
theorem f_154_38 : ab_ft (ab_CM 154) 38 = some (.getfield 786, 56, 777) := by decide +kernel
theorem f_154_41 : ab_ft (ab_CM 154) 41 = some (.bipush 21, 0, 0) := by decide +kernel
theorem f_154_43 : ab_ft (ab_CM 154) 43 = some (.iload_n 1, 0, 0) := by decide +kernel
theorem f_154_44 : ab_ft (ab_CM 154) 44 = some (.imul, 0, 0) := by decide +kernel
theorem f_154_45 : ab_ft (ab_CM 154) 45 = some (.iload_n 2, 0, 0) := by decide +kernel
theorem f_154_46 : ab_ft (ab_CM 154) 46 = some (.iadd, 0, 0) := by decide +kernel
theorem f_154_47 : ab_ft (ab_CM 154) 47 = some (.iaload, 0, 0) := by decide +kernel
theorem f_154_48 : ab_ft (ab_CM 154) 48 = some (.iastore, 0, 0) := by decide +kernel
theorem f_154_49 : ab_ft (ab_CM 154) 49 = some (.iinc 2 1, 0, 0) := by decide +kernel
theorem f_154_52 : ab_ft (ab_CM 154) 52 = some (.goto 26, 0, 0) := by decide +kernel
theorem f_154_55 : ab_ft (ab_CM 154) 55 = some (.iconst 0, 0, 0) := by decide +kernel
theorem f_154_56 : ab_ft (ab_CM 154) 56 = some (.istore_n 2, 0, 0) := by decide +kernel
theorem f_154_57 : ab_ft (ab_CM 154) 57 = some (.iload_n 2, 0, 0) := by decide +kernel
theorem f_154_58 : ab_ft (ab_CM 154) 58 = some (.bipush 102, 0, 0) := by decide +kernel
theorem f_154_60 : ab_ft (ab_CM 154) 60 = some (.if_icmp .ge 86, 0, 0) := by decide +kernel
theorem f_154_63 : ab_ft (ab_CM 154) 63 = some (.aload_n 0, 0, 0) := by decide +kernel
theorem f_154_64 : ab_ft (ab_CM 154) 64 = some (.getfield 782, 46, 773) := by decide +kernel
theorem f_154_67 : ab_ft (ab_CM 154) 67 = some (.iload_n 2, 0, 0) := by decide +kernel
theorem f_154_68 : ab_ft (ab_CM 154) 68 = some (.aload_n 0, 0, 0) := by decide +kernel
theorem f_154_69 : ab_ft (ab_CM 154) 69 = some (.getfield 787, 59, 778) := by decide +kernel
theorem f_154_72 : ab_ft (ab_CM 154) 72 = some (.bipush 102, 0, 0) := by decide +kernel
theorem f_154_74 : ab_ft (ab_CM 154) 74 = some (.iload_n 1, 0, 0) := by decide +kernel
theorem f_154_75 : ab_ft (ab_CM 154) 75 = some (.imul, 0, 0) := by decide +kernel
theorem f_154_76 : ab_ft (ab_CM 154) 76 = some (.iload_n 2, 0, 0) := by decide +kernel
theorem f_154_77 : ab_ft (ab_CM 154) 77 = some (.iadd, 0, 0) := by decide +kernel
theorem f_154_78 : ab_ft (ab_CM 154) 78 = some (.laload, 0, 0) := by decide +kernel
theorem f_154_79 : ab_ft (ab_CM 154) 79 = some (.lastore, 0, 0) := by decide +kernel
theorem f_154_80 : ab_ft (ab_CM 154) 80 = some (.iinc 2 1, 0, 0) := by decide +kernel
theorem f_154_83 : ab_ft (ab_CM 154) 83 = some (.goto 57, 0, 0) := by decide +kernel
theorem f_154_86 : ab_ft (ab_CM 154) 86 = some (.aload_n 0, 0, 0) := by decide +kernel
theorem f_154_87 : ab_ft (ab_CM 154) 87 = some (.iconst 0, 0, 0) := by decide +kernel
theorem f_154_88 : ab_ft (ab_CM 154) 88 = some (.putfield 4881, 180, 776) := by decide +kernel
theorem f_154_91 : ab_ft (ab_CM 154) 91 = some (.aload_n 0, 0, 0) := by decide +kernel
theorem f_154_92 : ab_ft (ab_CM 154) 92 = some (.getfield 781, 43, 772) := by decide +kernel
theorem f_154_95 : ab_ft (ab_CM 154) 95 = some (.iconst 0, 0, 0) := by decide +kernel
theorem f_154_96 : ab_ft (ab_CM 154) 96 = some (.iaload, 0, 0) := by decide +kernel
theorem f_154_97 : ab_ft (ab_CM 154) 97 = some (.ireturn, 0, 0) := by decide +kernel
theorem my_154_99 : sg_may 1 154 99 = true := by decide +kernel
theorem mr_154 : ab_MR 154 = (12, 0, 1, 3, 1, 1, 25) := by decide +kernel
theorem rk_154 : (ab_MR 154).2.2.2.2.1 = 1 := by decide +kernel
theorem f_155_0 : ab_ft (ab_CM 155) 0 = some (.iload_n 1, 0, 0) := by decide +kernel
theorem f_155_1 : ab_ft (ab_CM 155) 1 = some (.tableswitch 54 0 3 #[32, 39, 44, 49], 31, 0) := by decide +kernel
theorem f_155_32 : ab_ft (ab_CM 155) 32 = some (.aload_n 0, 0, 0) := by decide +kernel
theorem f_155_33 : ab_ft (ab_CM 155) 33 = some (.getfield 781, 43, 772) := by decide +kernel
theorem f_155_36 : ab_ft (ab_CM 155) 36 = some (.iconst 0, 0, 0) := by decide +kernel
theorem f_155_37 : ab_ft (ab_CM 155) 37 = some (.iaload, 0, 0) := by decide +kernel
theorem f_155_38 : ab_ft (ab_CM 155) 38 = some (.ireturn, 0, 0) := by decide +kernel
theorem f_155_39 : ab_ft (ab_CM 155) 39 = some (.aload_n 0, 0, 0) := by decide +kernel
theorem f_155_40 : ab_ft (ab_CM 155) 40 = some (.getfield 791, 245, 782) := by decide +kernel
theorem f_155_43 : ab_ft (ab_CM 155) 43 = some (.ireturn, 0, 0) := by decide +kernel
theorem f_155_44 : ab_ft (ab_CM 155) 44 = some (.aload_n 0, 0, 0) := by decide +kernel
theorem f_155_45 : ab_ft (ab_CM 155) 45 = some (.getfield 780, 141, 771) := by decide +kernel
theorem f_155_48 : ab_ft (ab_CM 155) 48 = some (.ireturn, 0, 0) := by decide +kernel
theorem f_155_49 : ab_ft (ab_CM 155) 49 = some (.aload_n 0, 0, 0) := by decide +kernel
theorem f_155_50 : ab_ft (ab_CM 155) 50 = some (.getfield 785, 180, 776) := by decide +kernel
theorem f_155_53 : ab_ft (ab_CM 155) 53 = some (.ireturn, 0, 0) := by decide +kernel
theorem f_155_54 : ab_ft (ab_CM 155) 54 = some (.iconst (-1), 0, 0) := by decide +kernel
theorem f_155_55 : ab_ft (ab_CM 155) 55 = some (.ireturn, 0, 0) := by decide +kernel
theorem mr_155 : ab_MR 155 = (12, 0, 1, 2, 1, 0, 0) := by decide +kernel
theorem rk_155 : (ab_MR 155).2.2.2.2.1 = 1 := by decide +kernel
theorem f_156_0 : ab_ft (ab_CM 156) 0 = some (.iconst 0, 0, 0) := by decide +kernel
theorem f_156_1 : ab_ft (ab_CM 156) 1 = some (.istore_n 2, 0, 0) := by decide +kernel
theorem f_156_2 : ab_ft (ab_CM 156) 2 = some (.aload_n 0, 0, 0) := by decide +kernel
theorem f_156_3 : ab_ft (ab_CM 156) 3 = some (.arraylength, 0, 0) := by decide +kernel
theorem f_156_4 : ab_ft (ab_CM 156) 4 = some (.istore_n 3, 0, 0) := by decide +kernel
theorem f_156_5 : ab_ft (ab_CM 156) 5 = some (.iload_n 2, 0, 0) := by decide +kernel
theorem f_156_6 : ab_ft (ab_CM 156) 6 = some (.iload_n 3, 0, 0) := by decide +kernel
theorem f_156_7 : ab_ft (ab_CM 156) 7 = some (.if_icmp .ge 20, 0, 0) := by decide +kernel
theorem f_156_10 : ab_ft (ab_CM 156) 10 = some (.aload_n 0, 0, 0) := by decide +kernel
theorem f_156_11 : ab_ft (ab_CM 156) 11 = some (.iload_n 2, 0, 0) := by decide +kernel
theorem f_156_12 : ab_ft (ab_CM 156) 12 = some (.iload_n 1, 0, 0) := by decide +kernel
theorem f_156_13 : ab_ft (ab_CM 156) 13 = some (.iastore, 0, 0) := by decide +kernel
theorem f_156_14 : ab_ft (ab_CM 156) 14 = some (.iinc 2 1, 0, 0) := by decide +kernel
theorem f_156_17 : ab_ft (ab_CM 156) 17 = some (.goto 5, 0, 0) := by decide +kernel
theorem f_156_20 : ab_ft (ab_CM 156) 20 = some (.return_, 0, 0) := by decide +kernel
theorem mr_156 : ab_MR 156 = (13, 1, 2, 4, 0, 0, 0) := by decide +kernel
theorem rk_156 : (ab_MR 156).2.2.2.2.1 = 0 := by decide +kernel
theorem sh_x_0 : sg_sh tx_H 0 = some (11, 12) := by decide +kernel
theorem fd_x_0_704 : sg_fld tx_H 0 704 = some (.ref 1) := by decide +kernel
theorem fd_x_0_705 : sg_fld tx_H 0 705 = some (.ref 29) := by decide +kernel
theorem fd_x_0_706 : sg_fld tx_H 0 706 = some (.ref 35) := by decide +kernel
theorem fd_x_0_707 : sg_fld tx_H 0 707 = some (.ref 46) := by decide +kernel
theorem fd_x_0_708 : sg_fld tx_H 0 708 = some (.ref 48) := by decide +kernel
theorem fd_x_0_709 : sg_fld tx_H 0 709 = some (.ref 50) := by decide +kernel
theorem fd_x_0_710 : sg_fld tx_H 0 710 = some (.ref 55) := by decide +kernel
theorem fd_x_0_711 : sg_fld tx_H 0 711 = some (.ref 66) := by decide +kernel
theorem fd_x_0_712 : sg_fld tx_H 0 712 = some (.ref 134) := by decide +kernel
theorem fd_x_0_713 : sg_fld tx_H 0 713 = some (.ref 157) := by decide +kernel
theorem fd_x_0_714 : sg_fld tx_H 0 714 = some (.ref 158) := by decide +kernel
theorem fd_x_0_715 : sg_fld tx_H 0 715 = some (.ref 161) := by decide +kernel
theorem sh_x_1 : sg_sh tx_H 1 = some (9, 8) := by decide +kernel
theorem fd_x_1_576 : sg_fld tx_H 1 576 = some (.ref 2) := by decide +kernel
theorem fd_x_1_577 : sg_fld tx_H 1 577 = some (.ref 3) := by decide +kernel
theorem fd_x_1_578 : sg_fld tx_H 1 578 = some (.ref 4) := by decide +kernel
theorem fd_x_1_579 : sg_fld tx_H 1 579 = some (.ref 5) := by decide +kernel
theorem fd_x_1_580 : sg_fld tx_H 1 580 = some (.ref 6) := by decide +kernel
theorem fd_x_1_581 : sg_fld tx_H 1 581 = some (.ref 7) := by decide +kernel
theorem fd_x_1_582 : sg_fld tx_H 1 582 = some (.ref 8) := by decide +kernel
theorem fd_x_1_583 : sg_fld tx_H 1 583 = some (.ref 9) := by decide +kernel
theorem sh_x_2 : sg_sh tx_H 2 = some (20, 17) := by decide +kernel
theorem sh_x_3 : sg_sh tx_H 3 = some (20, 17) := by decide +kernel
theorem sh_x_4 : sg_sh tx_H 4 = some (20, 17) := by decide +kernel
theorem sh_x_5 : sg_sh tx_H 5 = some (20, 17) := by decide +kernel
theorem sh_x_6 : sg_sh tx_H 6 = some (20, 17) := by decide +kernel
theorem sh_x_7 : sg_sh tx_H 7 = some (20, 17) := by decide +kernel
theorem sh_x_8 : sg_sh tx_H 8 = some (21, 17) := by decide +kernel
theorem sh_x_9 : sg_sh tx_H 9 = some (23, 17) := by decide +kernel
theorem sh_x_10 : sg_sh tx_H 10 = some (20, 17) := by decide +kernel
theorem sh_x_11 : sg_sh tx_H 11 = some (20, 17) := by decide +kernel
theorem sh_x_12 : sg_sh tx_H 12 = some (20, 17) := by decide +kernel
theorem sh_x_13 : sg_sh tx_H 13 = some (20, 17) := by decide +kernel
theorem sh_x_14 : sg_sh tx_H 14 = some (20, 17) := by decide +kernel
theorem sh_x_15 : sg_sh tx_H 15 = some (20, 17) := by decide +kernel
theorem sh_x_16 : sg_sh tx_H 16 = some (20, 17) := by decide +kernel
theorem sh_x_17 : sg_sh tx_H 17 = some (20, 17) := by decide +kernel
theorem sh_x_18 : sg_sh tx_H 18 = some (20, 17) := by decide +kernel
theorem sh_x_19 : sg_sh tx_H 19 = some (20, 17) := by decide +kernel
theorem sh_x_20 : sg_sh tx_H 20 = some (20, 17) := by decide +kernel
theorem sh_x_21 : sg_sh tx_H 21 = some (20, 17) := by decide +kernel
theorem sh_x_22 : sg_sh tx_H 22 = some (20, 17) := by decide +kernel
theorem sh_x_23 : sg_sh tx_H 23 = some (20, 17) := by decide +kernel
theorem sh_x_24 : sg_sh tx_H 24 = some (20, 17) := by decide +kernel
theorem sh_x_25 : sg_sh tx_H 25 = some (20, 17) := by decide +kernel
theorem sh_x_26 : sg_sh tx_H 26 = some (20, 17) := by decide +kernel
theorem sh_x_27 : sg_sh tx_H 27 = some (20, 17) := by decide +kernel
theorem sh_x_28 : sg_sh tx_H 28 = some (20, 17) := by decide +kernel
theorem sh_x_29 : sg_sh tx_H 29 = some (0, 5) := by decide +kernel
theorem fd_x_29_0 : sg_fld tx_H 29 0 = some (.ref 30) := by decide +kernel
theorem fd_x_29_1 : sg_fld tx_H 29 1 = some (.ref 31) := by decide +kernel
theorem fd_x_29_2 : sg_fld tx_H 29 2 = some (.ref 32) := by decide +kernel
theorem fd_x_29_3 : sg_fld tx_H 29 3 = some (.ref 33) := by decide +kernel
theorem fd_x_29_4 : sg_fld tx_H 29 4 = some (.ref 34) := by decide +kernel
theorem sh_x_30 : sg_sh tx_H 30 = some (20, 17) := by decide +kernel
theorem sh_x_31 : sg_sh tx_H 31 = some (20, 17) := by decide +kernel
theorem sh_x_32 : sg_sh tx_H 32 = some (20, 115) := by decide +kernel
theorem sh_x_33 : sg_sh tx_H 33 = some (20, 115) := by decide +kernel
theorem sh_x_34 : sg_sh tx_H 34 = some (20, 460) := by decide +kernel
theorem sh_x_35 : sg_sh tx_H 35 = some (10, 2) := by decide +kernel
theorem fd_x_35_640 : sg_fld tx_H 35 640 = some (.ref 36) := by decide +kernel
theorem fd_x_35_641 : sg_fld tx_H 35 641 = some (.ref 41) := by decide +kernel
theorem sh_x_36 : sg_sh tx_H 36 = some (24, 4) := by decide +kernel
theorem sh_x_37 : sg_sh tx_H 37 = some (21, 17) := by decide +kernel
theorem sh_x_38 : sg_sh tx_H 38 = some (21, 17) := by decide +kernel
theorem sh_x_39 : sg_sh tx_H 39 = some (21, 17) := by decide +kernel
theorem sh_x_40 : sg_sh tx_H 40 = some (21, 17) := by decide +kernel
theorem sh_x_41 : sg_sh tx_H 41 = some (24, 4) := by decide +kernel
theorem sh_x_42 : sg_sh tx_H 42 = some (21, 17) := by decide +kernel
theorem sh_x_43 : sg_sh tx_H 43 = some (21, 17) := by decide +kernel
theorem sh_x_44 : sg_sh tx_H 44 = some (21, 17) := by decide +kernel
theorem sh_x_45 : sg_sh tx_H 45 = some (21, 17) := by decide +kernel
theorem sh_x_46 : sg_sh tx_H 46 = some (6, 2) := by decide +kernel
theorem fd_x_46_384 : sg_fld tx_H 46 384 = some (.ref 47) := by decide +kernel
theorem fd_x_46_385 : sg_fld tx_H 46 385 = some (.int 0) := by decide +kernel
theorem sh_x_47 : sg_sh tx_H 47 = some (20, 160) := by decide +kernel
theorem sh_x_48 : sg_sh tx_H 48 = some (8, 5) := by decide +kernel
theorem fd_x_48_512 : sg_fld tx_H 48 512 = some (.ref 1) := by decide +kernel
theorem fd_x_48_513 : sg_fld tx_H 48 513 = some (.ref 46) := by decide +kernel
theorem fd_x_48_514 : sg_fld tx_H 48 514 = some (.ref 49) := by decide +kernel
theorem fd_x_48_515 : sg_fld tx_H 48 515 = some (.int 0) := by decide +kernel
theorem fd_x_48_516 : sg_fld tx_H 48 516 = some (.int 0) := by decide +kernel
theorem sh_x_49 : sg_sh tx_H 49 = some (20, 5) := by decide +kernel
theorem sh_x_50 : sg_sh tx_H 50 = some (1, 5) := by decide +kernel
theorem fd_x_50_64 : sg_fld tx_H 50 64 = some (.ref 51) := by decide +kernel
theorem fd_x_50_65 : sg_fld tx_H 50 65 = some (.ref 54) := by decide +kernel
theorem fd_x_50_66 : sg_fld tx_H 50 66 = some (.int 0) := by decide +kernel
theorem fd_x_50_67 : sg_fld tx_H 50 67 = some (.int 0) := by decide +kernel
theorem fd_x_50_68 : sg_fld tx_H 50 68 = some (.int 0) := by decide +kernel
theorem sh_x_51 : sg_sh tx_H 51 = some (5, 3) := by decide +kernel
theorem fd_x_51_320 : sg_fld tx_H 51 320 = some (.int 1) := by decide +kernel
theorem fd_x_51_321 : sg_fld tx_H 51 321 = some (.ref 52) := by decide +kernel
theorem fd_x_51_322 : sg_fld tx_H 51 322 = some (.ref 53) := by decide +kernel
theorem sh_x_52 : sg_sh tx_H 52 = some (20, 16) := by decide +kernel
theorem sh_x_53 : sg_sh tx_H 53 = some (20, 4) := by decide +kernel
theorem sh_x_54 : sg_sh tx_H 54 = some (7, 5) := by decide +kernel
theorem fd_x_54_448 : sg_fld tx_H 54 448 = some (.ref 46) := by decide +kernel
theorem fd_x_54_449 : sg_fld tx_H 54 449 = some (.int 0) := by decide +kernel
theorem fd_x_54_450 : sg_fld tx_H 54 450 = some (.int (-1)) := by decide +kernel
theorem fd_x_54_451 : sg_fld tx_H 54 451 = some (.int 0) := by decide +kernel
theorem fd_x_54_452 : sg_fld tx_H 54 452 = some (.int 0) := by decide +kernel
theorem sh_x_55 : sg_sh tx_H 55 = some (4, 2) := by decide +kernel
theorem fd_x_55_256 : sg_fld tx_H 55 256 = some (.ref 56) := by decide +kernel
theorem fd_x_55_257 : sg_fld tx_H 55 257 = some (.ref 59) := by decide +kernel
theorem sh_x_56 : sg_sh tx_H 56 = some (5, 3) := by decide +kernel
theorem fd_x_56_320 : sg_fld tx_H 56 320 = some (.int 1) := by decide +kernel
theorem fd_x_56_321 : sg_fld tx_H 56 321 = some (.ref 57) := by decide +kernel
theorem fd_x_56_322 : sg_fld tx_H 56 322 = some (.ref 58) := by decide +kernel
theorem sh_x_57 : sg_sh tx_H 57 = some (20, 16) := by decide +kernel
theorem sh_x_58 : sg_sh tx_H 58 = some (20, 4) := by decide +kernel
theorem sh_x_59 : sg_sh tx_H 59 = some (24, 6) := by decide +kernel
theorem sh_x_60 : sg_sh tx_H 60 = some (21, 17) := by decide +kernel
theorem sh_x_61 : sg_sh tx_H 61 = some (21, 17) := by decide +kernel
theorem sh_x_62 : sg_sh tx_H 62 = some (21, 17) := by decide +kernel
theorem sh_x_63 : sg_sh tx_H 63 = some (21, 17) := by decide +kernel
theorem sh_x_64 : sg_sh tx_H 64 = some (21, 17) := by decide +kernel
theorem sh_x_65 : sg_sh tx_H 65 = some (21, 17) := by decide +kernel
theorem sh_x_66 : sg_sh tx_H 66 = some (2, 3) := by decide +kernel
theorem fd_x_66_128 : sg_fld tx_H 66 128 = some (.ref 67) := by decide +kernel
theorem fd_x_66_129 : sg_fld tx_H 66 129 = some (.int 0) := by decide +kernel
theorem fd_x_66_130 : sg_fld tx_H 66 130 = some (.int 0) := by decide +kernel
theorem sh_x_67 : sg_sh tx_H 67 = some (25, 6) := by decide +kernel
theorem sh_x_68 : sg_sh tx_H 68 = some (4, 2) := by decide +kernel
theorem fd_x_68_256 : sg_fld tx_H 68 256 = some (.ref 69) := by decide +kernel
theorem fd_x_68_257 : sg_fld tx_H 68 257 = some (.ref 72) := by decide +kernel
theorem sh_x_69 : sg_sh tx_H 69 = some (5, 3) := by decide +kernel
theorem fd_x_69_320 : sg_fld tx_H 69 320 = some (.int 1) := by decide +kernel
theorem fd_x_69_321 : sg_fld tx_H 69 321 = some (.ref 70) := by decide +kernel
theorem fd_x_69_322 : sg_fld tx_H 69 322 = some (.ref 71) := by decide +kernel
theorem sh_x_70 : sg_sh tx_H 70 = some (20, 16) := by decide +kernel
theorem sh_x_71 : sg_sh tx_H 71 = some (20, 4) := by decide +kernel
theorem sh_x_72 : sg_sh tx_H 72 = some (24, 6) := by decide +kernel
theorem sh_x_73 : sg_sh tx_H 73 = some (21, 17) := by decide +kernel
theorem sh_x_74 : sg_sh tx_H 74 = some (21, 17) := by decide +kernel
theorem sh_x_75 : sg_sh tx_H 75 = some (21, 17) := by decide +kernel
theorem sh_x_76 : sg_sh tx_H 76 = some (21, 17) := by decide +kernel
theorem sh_x_77 : sg_sh tx_H 77 = some (21, 17) := by decide +kernel
theorem sh_x_78 : sg_sh tx_H 78 = some (21, 17) := by decide +kernel
theorem sh_x_79 : sg_sh tx_H 79 = some (4, 2) := by decide +kernel
theorem fd_x_79_256 : sg_fld tx_H 79 256 = some (.ref 80) := by decide +kernel
theorem fd_x_79_257 : sg_fld tx_H 79 257 = some (.ref 83) := by decide +kernel
theorem sh_x_80 : sg_sh tx_H 80 = some (5, 3) := by decide +kernel
theorem fd_x_80_320 : sg_fld tx_H 80 320 = some (.int 1) := by decide +kernel
theorem fd_x_80_321 : sg_fld tx_H 80 321 = some (.ref 81) := by decide +kernel
theorem fd_x_80_322 : sg_fld tx_H 80 322 = some (.ref 82) := by decide +kernel
theorem sh_x_81 : sg_sh tx_H 81 = some (20, 16) := by decide +kernel
theorem sh_x_82 : sg_sh tx_H 82 = some (20, 4) := by decide +kernel
theorem sh_x_83 : sg_sh tx_H 83 = some (24, 6) := by decide +kernel
theorem sh_x_84 : sg_sh tx_H 84 = some (21, 17) := by decide +kernel
theorem sh_x_85 : sg_sh tx_H 85 = some (21, 17) := by decide +kernel
theorem sh_x_86 : sg_sh tx_H 86 = some (21, 17) := by decide +kernel
theorem sh_x_87 : sg_sh tx_H 87 = some (21, 17) := by decide +kernel
theorem sh_x_88 : sg_sh tx_H 88 = some (21, 17) := by decide +kernel
theorem sh_x_89 : sg_sh tx_H 89 = some (21, 17) := by decide +kernel
theorem sh_x_90 : sg_sh tx_H 90 = some (4, 2) := by decide +kernel
theorem fd_x_90_256 : sg_fld tx_H 90 256 = some (.ref 91) := by decide +kernel
theorem fd_x_90_257 : sg_fld tx_H 90 257 = some (.ref 94) := by decide +kernel
theorem sh_x_91 : sg_sh tx_H 91 = some (5, 3) := by decide +kernel
theorem fd_x_91_320 : sg_fld tx_H 91 320 = some (.int 1) := by decide +kernel
theorem fd_x_91_321 : sg_fld tx_H 91 321 = some (.ref 92) := by decide +kernel
theorem fd_x_91_322 : sg_fld tx_H 91 322 = some (.ref 93) := by decide +kernel
theorem sh_x_92 : sg_sh tx_H 92 = some (20, 16) := by decide +kernel
theorem sh_x_93 : sg_sh tx_H 93 = some (20, 4) := by decide +kernel
theorem sh_x_94 : sg_sh tx_H 94 = some (24, 6) := by decide +kernel
theorem sh_x_95 : sg_sh tx_H 95 = some (21, 17) := by decide +kernel
theorem sh_x_96 : sg_sh tx_H 96 = some (21, 17) := by decide +kernel
theorem sh_x_97 : sg_sh tx_H 97 = some (21, 17) := by decide +kernel
theorem sh_x_98 : sg_sh tx_H 98 = some (21, 17) := by decide +kernel
theorem sh_x_99 : sg_sh tx_H 99 = some (21, 17) := by decide +kernel
theorem sh_x_100 : sg_sh tx_H 100 = some (21, 17) := by decide +kernel
theorem sh_x_101 : sg_sh tx_H 101 = some (4, 2) := by decide +kernel
theorem fd_x_101_256 : sg_fld tx_H 101 256 = some (.ref 102) := by decide +kernel
theorem fd_x_101_257 : sg_fld tx_H 101 257 = some (.ref 105) := by decide +kernel
theorem sh_x_102 : sg_sh tx_H 102 = some (5, 3) := by decide +kernel
theorem fd_x_102_320 : sg_fld tx_H 102 320 = some (.int 1) := by decide +kernel
theorem fd_x_102_321 : sg_fld tx_H 102 321 = some (.ref 103) := by decide +kernel
theorem fd_x_102_322 : sg_fld tx_H 102 322 = some (.ref 104) := by decide +kernel
theorem sh_x_103 : sg_sh tx_H 103 = some (20, 16) := by decide +kernel
theorem sh_x_104 : sg_sh tx_H 104 = some (20, 4) := by decide +kernel
theorem sh_x_105 : sg_sh tx_H 105 = some (24, 6) := by decide +kernel
theorem sh_x_106 : sg_sh tx_H 106 = some (21, 17) := by decide +kernel
theorem sh_x_107 : sg_sh tx_H 107 = some (21, 17) := by decide +kernel
theorem sh_x_108 : sg_sh tx_H 108 = some (21, 17) := by decide +kernel
theorem sh_x_109 : sg_sh tx_H 109 = some (21, 17) := by decide +kernel
theorem sh_x_110 : sg_sh tx_H 110 = some (21, 17) := by decide +kernel
theorem sh_x_111 : sg_sh tx_H 111 = some (21, 17) := by decide +kernel
theorem sh_x_112 : sg_sh tx_H 112 = some (4, 2) := by decide +kernel
theorem fd_x_112_256 : sg_fld tx_H 112 256 = some (.ref 113) := by decide +kernel
theorem fd_x_112_257 : sg_fld tx_H 112 257 = some (.ref 116) := by decide +kernel
theorem sh_x_113 : sg_sh tx_H 113 = some (5, 3) := by decide +kernel
theorem fd_x_113_320 : sg_fld tx_H 113 320 = some (.int 1) := by decide +kernel
theorem fd_x_113_321 : sg_fld tx_H 113 321 = some (.ref 114) := by decide +kernel
theorem fd_x_113_322 : sg_fld tx_H 113 322 = some (.ref 115) := by decide +kernel
theorem sh_x_114 : sg_sh tx_H 114 = some (20, 16) := by decide +kernel
theorem sh_x_115 : sg_sh tx_H 115 = some (20, 4) := by decide +kernel
theorem sh_x_116 : sg_sh tx_H 116 = some (24, 6) := by decide +kernel
theorem sh_x_117 : sg_sh tx_H 117 = some (21, 17) := by decide +kernel
theorem sh_x_118 : sg_sh tx_H 118 = some (21, 17) := by decide +kernel
theorem sh_x_119 : sg_sh tx_H 119 = some (21, 17) := by decide +kernel
theorem sh_x_120 : sg_sh tx_H 120 = some (21, 17) := by decide +kernel
theorem sh_x_121 : sg_sh tx_H 121 = some (21, 17) := by decide +kernel
theorem sh_x_122 : sg_sh tx_H 122 = some (21, 17) := by decide +kernel
theorem sh_x_123 : sg_sh tx_H 123 = some (4, 2) := by decide +kernel
theorem fd_x_123_256 : sg_fld tx_H 123 256 = some (.ref 124) := by decide +kernel
theorem fd_x_123_257 : sg_fld tx_H 123 257 = some (.ref 127) := by decide +kernel
theorem sh_x_124 : sg_sh tx_H 124 = some (5, 3) := by decide +kernel
theorem fd_x_124_320 : sg_fld tx_H 124 320 = some (.int 1) := by decide +kernel
theorem fd_x_124_321 : sg_fld tx_H 124 321 = some (.ref 125) := by decide +kernel
theorem fd_x_124_322 : sg_fld tx_H 124 322 = some (.ref 126) := by decide +kernel
theorem sh_x_125 : sg_sh tx_H 125 = some (20, 16) := by decide +kernel
theorem sh_x_126 : sg_sh tx_H 126 = some (20, 4) := by decide +kernel
theorem sh_x_127 : sg_sh tx_H 127 = some (24, 6) := by decide +kernel
theorem sh_x_128 : sg_sh tx_H 128 = some (21, 17) := by decide +kernel
theorem sh_x_129 : sg_sh tx_H 129 = some (21, 17) := by decide +kernel
theorem sh_x_130 : sg_sh tx_H 130 = some (21, 17) := by decide +kernel
theorem sh_x_131 : sg_sh tx_H 131 = some (21, 17) := by decide +kernel
theorem sh_x_132 : sg_sh tx_H 132 = some (21, 17) := by decide +kernel
theorem sh_x_133 : sg_sh tx_H 133 = some (21, 17) := by decide +kernel
theorem sh_x_134 : sg_sh tx_H 134 = some (25, 2) := by decide +kernel
theorem sh_x_135 : sg_sh tx_H 135 = some (4, 2) := by decide +kernel
theorem fd_x_135_256 : sg_fld tx_H 135 256 = some (.ref 136) := by decide +kernel
theorem fd_x_135_257 : sg_fld tx_H 135 257 = some (.ref 139) := by decide +kernel
theorem sh_x_136 : sg_sh tx_H 136 = some (5, 3) := by decide +kernel
theorem fd_x_136_320 : sg_fld tx_H 136 320 = some (.int 1) := by decide +kernel
theorem fd_x_136_321 : sg_fld tx_H 136 321 = some (.ref 137) := by decide +kernel
theorem fd_x_136_322 : sg_fld tx_H 136 322 = some (.ref 138) := by decide +kernel
theorem sh_x_137 : sg_sh tx_H 137 = some (20, 16) := by decide +kernel
theorem sh_x_138 : sg_sh tx_H 138 = some (20, 4) := by decide +kernel
theorem sh_x_139 : sg_sh tx_H 139 = some (24, 6) := by decide +kernel
theorem sh_x_140 : sg_sh tx_H 140 = some (21, 17) := by decide +kernel
theorem sh_x_141 : sg_sh tx_H 141 = some (21, 17) := by decide +kernel
theorem sh_x_142 : sg_sh tx_H 142 = some (21, 17) := by decide +kernel
theorem sh_x_143 : sg_sh tx_H 143 = some (21, 17) := by decide +kernel
theorem sh_x_144 : sg_sh tx_H 144 = some (21, 17) := by decide +kernel
theorem sh_x_145 : sg_sh tx_H 145 = some (21, 17) := by decide +kernel
theorem sh_x_146 : sg_sh tx_H 146 = some (4, 2) := by decide +kernel
theorem fd_x_146_256 : sg_fld tx_H 146 256 = some (.ref 147) := by decide +kernel
theorem fd_x_146_257 : sg_fld tx_H 146 257 = some (.ref 150) := by decide +kernel
theorem sh_x_147 : sg_sh tx_H 147 = some (5, 3) := by decide +kernel
theorem fd_x_147_320 : sg_fld tx_H 147 320 = some (.int 1) := by decide +kernel
theorem fd_x_147_321 : sg_fld tx_H 147 321 = some (.ref 148) := by decide +kernel
theorem fd_x_147_322 : sg_fld tx_H 147 322 = some (.ref 149) := by decide +kernel
theorem sh_x_148 : sg_sh tx_H 148 = some (20, 16) := by decide +kernel
theorem sh_x_149 : sg_sh tx_H 149 = some (20, 4) := by decide +kernel
theorem sh_x_150 : sg_sh tx_H 150 = some (24, 6) := by decide +kernel
theorem sh_x_151 : sg_sh tx_H 151 = some (21, 17) := by decide +kernel
theorem sh_x_152 : sg_sh tx_H 152 = some (21, 17) := by decide +kernel
theorem sh_x_153 : sg_sh tx_H 153 = some (21, 17) := by decide +kernel
theorem sh_x_154 : sg_sh tx_H 154 = some (21, 17) := by decide +kernel
theorem sh_x_155 : sg_sh tx_H 155 = some (21, 17) := by decide +kernel
theorem sh_x_156 : sg_sh tx_H 156 = some (21, 17) := by decide +kernel
theorem sh_x_157 : sg_sh tx_H 157 = some (22, 2) := by decide +kernel
theorem sh_x_158 : sg_sh tx_H 158 = some (3, 3) := by decide +kernel
theorem fd_x_158_192 : sg_fld tx_H 158 192 = some (.ref 159) := by decide +kernel
theorem fd_x_158_193 : sg_fld tx_H 158 193 = some (.ref 160) := by decide +kernel
theorem fd_x_158_194 : sg_fld tx_H 158 194 = some (.int 0) := by decide +kernel
theorem sh_x_159 : sg_sh tx_H 159 = some (20, 6) := by decide +kernel
theorem sh_x_160 : sg_sh tx_H 160 = some (21, 6) := by decide +kernel
theorem sh_x_161 : sg_sh tx_H 161 = some (21, 17) := by decide +kernel
theorem sh_m_0 : sg_sh tm_H 0 = some (12, 36) := by decide +kernel
theorem fd_m_0_768 : sg_fld tm_H 0 768 = some (.ref 1) := by decide +kernel
theorem fd_m_0_769 : sg_fld tm_H 0 769 = some (.ref 2) := by decide +kernel
theorem fd_m_0_770 : sg_fld tm_H 0 770 = some (.ref 3) := by decide +kernel
theorem fd_m_0_771 : sg_fld tm_H 0 771 = some (.ref 4) := by decide +kernel
theorem fd_m_0_772 : sg_fld tm_H 0 772 = some (.ref 5) := by decide +kernel
theorem fd_m_0_773 : sg_fld tm_H 0 773 = some (.ref 6) := by decide +kernel
theorem fd_m_0_774 : sg_fld tm_H 0 774 = some (.int 17) := by decide +kernel
theorem fd_m_0_775 : sg_fld tm_H 0 775 = some (.ref 7) := by decide +kernel
theorem fd_m_0_776 : sg_fld tm_H 0 776 = some (.ref 8) := by decide +kernel
theorem fd_m_0_777 : sg_fld tm_H 0 777 = some (.ref 9) := by decide +kernel
theorem fd_m_0_778 : sg_fld tm_H 0 778 = some (.ref 10) := by decide +kernel
theorem fd_m_0_779 : sg_fld tm_H 0 779 = some (.ref 11) := by decide +kernel
theorem fd_m_0_780 : sg_fld tm_H 0 780 = some (.int 0) := by decide +kernel
theorem fd_m_0_781 : sg_fld tm_H 0 781 = some (.ref 12) := by decide +kernel
theorem fd_m_0_782 : sg_fld tm_H 0 782 = some (.ref 13) := by decide +kernel
theorem fd_m_0_783 : sg_fld tm_H 0 783 = some (.ref 14) := by decide +kernel
theorem fd_m_0_784 : sg_fld tm_H 0 784 = some (.ref 15) := by decide +kernel
theorem fd_m_0_785 : sg_fld tm_H 0 785 = some (.int 0) := by decide +kernel
theorem fd_m_0_786 : sg_fld tm_H 0 786 = some (.ref 16) := by decide +kernel
theorem fd_m_0_787 : sg_fld tm_H 0 787 = some (.ref 17) := by decide +kernel
theorem fd_m_0_788 : sg_fld tm_H 0 788 = some (.ref 18) := by decide +kernel
theorem fd_m_0_789 : sg_fld tm_H 0 789 = some (.ref 19) := by decide +kernel
theorem fd_m_0_790 : sg_fld tm_H 0 790 = some (.ref 20) := by decide +kernel
theorem fd_m_0_791 : sg_fld tm_H 0 791 = some (.int 0) := by decide +kernel
theorem fd_m_0_792 : sg_fld tm_H 0 792 = some (.ref 21) := by decide +kernel
theorem fd_m_0_793 : sg_fld tm_H 0 793 = some (.int 1) := by decide +kernel
theorem fd_m_0_794 : sg_fld tm_H 0 794 = some (.ref 22) := by decide +kernel
theorem fd_m_0_795 : sg_fld tm_H 0 795 = some (.ref 23) := by decide +kernel
theorem fd_m_0_796 : sg_fld tm_H 0 796 = some (.int 0) := by decide +kernel
theorem fd_m_0_797 : sg_fld tm_H 0 797 = some (.int 0) := by decide +kernel
theorem fd_m_0_798 : sg_fld tm_H 0 798 = some (.int 0) := by decide +kernel
theorem fd_m_0_799 : sg_fld tm_H 0 799 = some (.int 0) := by decide +kernel
theorem fd_m_0_800 : sg_fld tm_H 0 800 = some (.ref 24) := by decide +kernel
theorem fd_m_0_801 : sg_fld tm_H 0 801 = some (.int 0) := by decide +kernel
theorem fd_m_0_802 : sg_fld tm_H 0 802 = some (.ref 25) := by decide +kernel
theorem fd_m_0_803 : sg_fld tm_H 0 803 = some (.ref 26) := by decide +kernel
theorem sh_m_1 : sg_sh tm_H 1 = some (20, 68) := by decide +kernel
theorem sh_m_2 : sg_sh tm_H 2 = some (20, 17) := by decide +kernel
theorem sh_m_3 : sg_sh tm_H 3 = some (20, 17) := by decide +kernel
theorem sh_m_4 : sg_sh tm_H 4 = some (20, 17) := by decide +kernel
theorem sh_m_5 : sg_sh tm_H 5 = some (20, 17) := by decide +kernel
theorem sh_m_6 : sg_sh tm_H 6 = some (20, 17) := by decide +kernel
theorem sh_m_7 : sg_sh tm_H 7 = some (20, 18) := by decide +kernel
theorem sh_m_8 : sg_sh tm_H 8 = some (20, 272) := by decide +kernel
theorem sh_m_9 : sg_sh tm_H 9 = some (20, 1088) := by decide +kernel
theorem sh_m_10 : sg_sh tm_H 10 = some (20, 272) := by decide +kernel
theorem sh_m_11 : sg_sh tm_H 11 = some (20, 160) := by decide +kernel
theorem sh_m_12 : sg_sh tm_H 12 = some (20, 21) := by decide +kernel
theorem sh_m_13 : sg_sh tm_H 13 = some (21, 102) := by decide +kernel
theorem sh_m_14 : sg_sh tm_H 14 = some (20, 126) := by decide +kernel
theorem sh_m_15 : sg_sh tm_H 15 = some (21, 612) := by decide +kernel
theorem sh_m_16 : sg_sh tm_H 16 = some (20, 42) := by decide +kernel
theorem sh_m_17 : sg_sh tm_H 17 = some (21, 204) := by decide +kernel
theorem sh_m_18 : sg_sh tm_H 18 = some (22, 2) := by decide +kernel
theorem sh_m_19 : sg_sh tm_H 19 = some (20, 6) := by decide +kernel
theorem sh_m_20 : sg_sh tm_H 20 = some (21, 6) := by decide +kernel
theorem sh_m_21 : sg_sh tm_H 21 = some (20, 5) := by decide +kernel
theorem sh_m_22 : sg_sh tm_H 22 = some (20, 25) := by decide +kernel
theorem sh_m_23 : sg_sh tm_H 23 = some (20, 5) := by decide +kernel
theorem sh_m_24 : sg_sh tm_H 24 = some (20, 21) := by decide +kernel
theorem sh_m_25 : sg_sh tm_H 25 = some (21, 17) := by decide +kernel
theorem sh_m_26 : sg_sh tm_H 26 = some (21, 68) := by decide +kernel
