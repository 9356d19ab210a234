/-! the class: its calls, where an argument is out of range -/
theorem sx_73_bad0 {σ : sg_S} {a : Int32} (ha : sg_out a 6) {b : Int32} {c : Int32} : sg_D tx_H 73 0 [.ref 0, .int a, .int b, .int c] [] σ (some (.int (-1))) σ := by
  refine sg_iload_n f_73_0 rfl ?_
  refine sg_calls_i f_73_1 my_73_95 mr_95 (by decide) rfl (Nat.le_of_ble_eq_true rfl) (Nat.le_of_ble_eq_true rfl) rfl (sx_95_0 ha) ?_
  refine sg_if_eq 21 f_73_4 rfl (fun c4 => ?_) (fun c4 => ?_)
  · refine sg_iconst (-1) f_73_21 ki_m1 ?_
    exact (sg_iret f_73_22 rk_73)
  · exact absurd rfl c4
theorem sx_73_bad1 {σ : sg_S} {a : Nat} (ha : a < 6) {b : Int32} (hb : sg_out b 6) {c : Int32} : sg_D tx_H 73 0 [.ref 0, .int (nI a), .int b, .int c] [] σ (some (.int (-1))) σ := by
  refine sg_iload_n f_73_0 rfl ?_
  refine sg_calls_i f_73_1 my_73_95 mr_95 (by decide) rfl (Nat.le_of_ble_eq_true rfl) (Nat.le_of_ble_eq_true rfl) rfl (sx_95_1 ha) ?_
  refine sg_if_eq 21 f_73_4 rfl (fun c4 => ?_) (fun c4 => ?_)
  · exact absurd c4 (by decide)
  · refine sg_iload_n f_73_7 rfl ?_
    refine sg_calls_i f_73_8 my_73_95 mr_95 (by decide) rfl (Nat.le_of_ble_eq_true rfl) (Nat.le_of_ble_eq_true rfl) rfl (sx_95_0 hb) ?_
    refine sg_if_eq 21 f_73_11 rfl (fun c11 => ?_) (fun c11 => ?_)
    · refine sg_iconst (-1) f_73_21 ki_m1 ?_
      exact (sg_iret f_73_22 rk_73)
    · exact absurd rfl c11
theorem sx_73_bad2 {σ : sg_S} {a : Nat} (ha : a < 6) {b : Nat} (hb : b < 6) {c : Int32} (hc : sg_out c 6) : sg_D tx_H 73 0 [.ref 0, .int (nI a), .int (nI b), .int c] [] σ (some (.int (-1))) σ := by
  refine sg_iload_n f_73_0 rfl ?_
  refine sg_calls_i f_73_1 my_73_95 mr_95 (by decide) rfl (Nat.le_of_ble_eq_true rfl) (Nat.le_of_ble_eq_true rfl) rfl (sx_95_1 ha) ?_
  refine sg_if_eq 21 f_73_4 rfl (fun c4 => ?_) (fun c4 => ?_)
  · exact absurd c4 (by decide)
  · refine sg_iload_n f_73_7 rfl ?_
    refine sg_calls_i f_73_8 my_73_95 mr_95 (by decide) rfl (Nat.le_of_ble_eq_true rfl) (Nat.le_of_ble_eq_true rfl) rfl (sx_95_1 hb) ?_
    refine sg_if_eq 21 f_73_11 rfl (fun c11 => ?_) (fun c11 => ?_)
    · exact absurd c11 (by decide)
    · refine sg_iload_n f_73_14 rfl ?_
      refine sg_calls_i f_73_15 my_73_95 mr_95 (by decide) rfl (Nat.le_of_ble_eq_true rfl) (Nat.le_of_ble_eq_true rfl) rfl (sx_95_0 hc) ?_
      refine sg_if_ne 23 f_73_18 rfl (fun c18 => ?_) (fun c18 => ?_)
      · exact absurd rfl c18
      · refine sg_iconst (-1) f_73_21 ki_m1 ?_
        exact (sg_iret f_73_22 rk_73)
theorem sx_74_bad0 {σ : sg_S} {a : Int32} (ha : sg_out a 6) {b : Int32} : sg_D tx_H 74 0 [.ref 0, .int a, .int b] [] σ (some (.int (-1))) σ := by
  refine sg_iload_n f_74_0 rfl ?_
  refine sg_calls_i f_74_1 my_74_95 mr_95 (by decide) rfl (Nat.le_of_ble_eq_true rfl) (Nat.le_of_ble_eq_true rfl) rfl (sx_95_0 ha) ?_
  refine sg_if_eq 14 f_74_4 rfl (fun c4 => ?_) (fun c4 => ?_)
  · refine sg_iconst (-1) f_74_14 ki_m1 ?_
    exact (sg_iret f_74_15 rk_74)
  · exact absurd rfl c4
theorem sx_74_bad1 {σ : sg_S} {a : Nat} (ha : a < 6) {b : Int32} (hb : sg_out b 6) : sg_D tx_H 74 0 [.ref 0, .int (nI a), .int b] [] σ (some (.int (-1))) σ := by
  refine sg_iload_n f_74_0 rfl ?_
  refine sg_calls_i f_74_1 my_74_95 mr_95 (by decide) rfl (Nat.le_of_ble_eq_true rfl) (Nat.le_of_ble_eq_true rfl) rfl (sx_95_1 ha) ?_
  refine sg_if_eq 14 f_74_4 rfl (fun c4 => ?_) (fun c4 => ?_)
  · exact absurd c4 (by decide)
  · refine sg_iload_n f_74_7 rfl ?_
    refine sg_calls_i f_74_8 my_74_95 mr_95 (by decide) rfl (Nat.le_of_ble_eq_true rfl) (Nat.le_of_ble_eq_true rfl) rfl (sx_95_0 hb) ?_
    refine sg_if_ne 16 f_74_11 rfl (fun c11 => ?_) (fun c11 => ?_)
    · exact absurd rfl c11
    · refine sg_iconst (-1) f_74_14 ki_m1 ?_
      exact (sg_iret f_74_15 rk_74)
theorem sx_75_bad0 {σ : sg_S} {a : Int32} (ha : sg_out a 6) {b : Int32} {c : Int32} : sg_D tx_H 75 0 [.ref 0, .int a, .int b, .int c] [] σ (some (.int (-1))) σ := by
  refine sg_iload_n f_75_0 rfl ?_
  refine sg_calls_i f_75_1 my_75_95 mr_95 (by decide) rfl (Nat.le_of_ble_eq_true rfl) (Nat.le_of_ble_eq_true rfl) rfl (sx_95_0 ha) ?_
  refine sg_if_eq 25 f_75_4 rfl (fun c4 => ?_) (fun c4 => ?_)
  · refine sg_iconst (-1) f_75_25 ki_m1 ?_
    exact (sg_iret f_75_26 rk_75)
  · exact absurd rfl c4
theorem sx_75_bad1 {σ : sg_S} {a : Nat} (ha : a < 6) {b : Int32} (hb : sg_out b 6) {c : Int32} : sg_D tx_H 75 0 [.ref 0, .int (nI a), .int b, .int c] [] σ (some (.int (-1))) σ := by
  refine sg_iload_n f_75_0 rfl ?_
  refine sg_calls_i f_75_1 my_75_95 mr_95 (by decide) rfl (Nat.le_of_ble_eq_true rfl) (Nat.le_of_ble_eq_true rfl) rfl (sx_95_1 ha) ?_
  refine sg_if_eq 25 f_75_4 rfl (fun c4 => ?_) (fun c4 => ?_)
  · exact absurd c4 (by decide)
  · refine sg_iload_n f_75_7 rfl ?_
    refine sg_calls_i f_75_8 my_75_95 mr_95 (by decide) rfl (Nat.le_of_ble_eq_true rfl) (Nat.le_of_ble_eq_true rfl) rfl (sx_95_0 hb) ?_
    refine sg_if_eq 25 f_75_11 rfl (fun c11 => ?_) (fun c11 => ?_)
    · refine sg_iconst (-1) f_75_25 ki_m1 ?_
      exact (sg_iret f_75_26 rk_75)
    · exact absurd rfl c11
theorem sx_76_bad0 {σ : sg_S} {a : Int32} (ha : sg_out a 6) {b : Int32} : sg_D tx_H 76 0 [.ref 0, .int a, .int b, ab_u] [] σ (some (.int (-1))) σ := by
  refine sg_iload_n f_76_0 rfl ?_
  refine sg_calls_i f_76_1 my_76_95 mr_95 (by decide) rfl (Nat.le_of_ble_eq_true rfl) (Nat.le_of_ble_eq_true rfl) rfl (sx_95_0 ha) ?_
  refine sg_if_eq 14 f_76_4 rfl (fun c4 => ?_) (fun c4 => ?_)
  · refine sg_iconst (-1) f_76_14 ki_m1 ?_
    exact (sg_iret f_76_15 rk_76)
  · exact absurd rfl c4
theorem sx_76_bad1 {σ : sg_S} {a : Nat} (ha : a < 6) {b : Int32} (hb : sg_out b 6) : sg_D tx_H 76 0 [.ref 0, .int (nI a), .int b, ab_u] [] σ (some (.int (-1))) σ := by
  refine sg_iload_n f_76_0 rfl ?_
  refine sg_calls_i f_76_1 my_76_95 mr_95 (by decide) rfl (Nat.le_of_ble_eq_true rfl) (Nat.le_of_ble_eq_true rfl) rfl (sx_95_1 ha) ?_
  refine sg_if_eq 14 f_76_4 rfl (fun c4 => ?_) (fun c4 => ?_)
  · exact absurd c4 (by decide)
  · refine sg_iload_n f_76_7 rfl ?_
    refine sg_calls_i f_76_8 my_76_95 mr_95 (by decide) rfl (Nat.le_of_ble_eq_true rfl) (Nat.le_of_ble_eq_true rfl) rfl (sx_95_0 hb) ?_
    refine sg_if_ne 16 f_76_11 rfl (fun c11 => ?_) (fun c11 => ?_)
    · exact absurd rfl c11
    · refine sg_iconst (-1) f_76_14 ki_m1 ?_
      exact (sg_iret f_76_15 rk_76)
theorem sx_77_bad0 {σ : sg_S} {a : Int32} (ha : sg_out a 6) {b : Int32} {c : Int32} : sg_D tx_H 77 0 [.ref 0, .int a, .int b, .int c] [] σ (some (.int (-1))) σ := by
  refine sg_iload_n f_77_0 rfl ?_
  refine sg_calls_i f_77_1 my_77_95 mr_95 (by decide) rfl (Nat.le_of_ble_eq_true rfl) (Nat.le_of_ble_eq_true rfl) rfl (sx_95_0 ha) ?_
  refine sg_if_eq 14 f_77_4 rfl (fun c4 => ?_) (fun c4 => ?_)
  · refine sg_iconst (-1) f_77_14 ki_m1 ?_
    exact (sg_iret f_77_15 rk_77)
  · exact absurd rfl c4
theorem sx_77_bad1 {σ : sg_S} {a : Nat} (ha : a < 6) {b : Int32} (hb : sg_out b 17) {c : Int32} : sg_D tx_H 77 0 [.ref 0, .int (nI a), .int b, .int c] [] σ (some (.int (-1))) σ := by
  refine sg_iload_n f_77_0 rfl ?_
  refine sg_calls_i f_77_1 my_77_95 mr_95 (by decide) rfl (Nat.le_of_ble_eq_true rfl) (Nat.le_of_ble_eq_true rfl) rfl (sx_95_1 ha) ?_
  refine sg_if_eq 14 f_77_4 rfl (fun c4 => ?_) (fun c4 => ?_)
  · exact absurd c4 (by decide)
  · refine sg_iload_n f_77_7 rfl ?_
    refine sg_calls_i f_77_8 my_77_94 mr_94 (by decide) rfl (Nat.le_of_ble_eq_true rfl) (Nat.le_of_ble_eq_true rfl) rfl (sx_94_0 hb) ?_
    refine sg_if_ne 16 f_77_11 rfl (fun c11 => ?_) (fun c11 => ?_)
    · exact absurd rfl c11
    · refine sg_iconst (-1) f_77_14 ki_m1 ?_
      exact (sg_iret f_77_15 rk_77)
theorem sx_79_bad0 {σ : sg_S} {a : Int32} (ha : sg_out a 6) {b : Int32} : sg_D tx_H 79 0 [.ref 0, .int a, .int b] [] σ (some (.long (-9000000000000000000))) σ := by
  refine sg_iload_n f_79_0 rfl ?_
  refine sg_calls_i f_79_1 my_79_95 mr_95 (by decide) rfl (Nat.le_of_ble_eq_true rfl) (Nat.le_of_ble_eq_true rfl) rfl (sx_95_0 ha) ?_
  refine sg_if_eq 28 f_79_4 rfl (fun c4 => ?_) (fun c4 => ?_)
  · refine sg_ldc2_w (-9000000000000000000) f_79_28 rfl ?_
    exact (sg_lret f_79_31 rk_79)
  · exact absurd rfl c4
theorem sx_79_bad1 {σ : sg_S} {a : Nat} (ha : a < 6) {b : Int32} (hb : sg_out b 17) : sg_D tx_H 79 0 [.ref 0, .int (nI a), .int b] [] σ (some (.long (-9000000000000000000))) σ := by
  refine sg_iload_n f_79_0 rfl ?_
  refine sg_calls_i f_79_1 my_79_95 mr_95 (by decide) rfl (Nat.le_of_ble_eq_true rfl) (Nat.le_of_ble_eq_true rfl) rfl (sx_95_1 ha) ?_
  refine sg_if_eq 28 f_79_4 rfl (fun c4 => ?_) (fun c4 => ?_)
  · exact absurd c4 (by decide)
  · refine sg_iload_n f_79_7 rfl ?_
    refine sg_calls_i f_79_8 my_79_94 mr_94 (by decide) rfl (Nat.le_of_ble_eq_true rfl) (Nat.le_of_ble_eq_true rfl) rfl (sx_94_0 hb) ?_
    refine sg_if_eq 28 f_79_11 rfl (fun c11 => ?_) (fun c11 => ?_)
    · refine sg_ldc2_w (-9000000000000000000) f_79_28 rfl ?_
      exact (sg_lret f_79_31 rk_79)
    · exact absurd rfl c11
theorem sx_81_bad0 {σ : sg_S} {a : Int32} (ha : sg_out a 17) {b : Int32} : sg_D tx_H 81 0 [.ref 0, .int a, .int b] [] σ (some (.int (-1))) σ := by
  refine sg_iload_n f_81_0 rfl ?_
  refine sg_calls_i f_81_1 my_81_94 mr_94 (by decide) rfl (Nat.le_of_ble_eq_true rfl) (Nat.le_of_ble_eq_true rfl) rfl (sx_94_0 ha) ?_
  refine sg_if_ne 9 f_81_4 rfl (fun c4 => ?_) (fun c4 => ?_)
  · exact absurd rfl c4
  · refine sg_iconst (-1) f_81_7 ki_m1 ?_
    exact (sg_iret f_81_8 rk_81)
theorem sx_82_bad0 {σ : sg_S} {a : Int32} (ha : sg_out a 17) {b : Int32} : sg_D tx_H 82 0 [.ref 0, .int a, .int b] [] σ (some (.int (-1))) σ := by
  refine sg_iload_n f_82_0 rfl ?_
  refine sg_calls_i f_82_1 my_82_94 mr_94 (by decide) rfl (Nat.le_of_ble_eq_true rfl) (Nat.le_of_ble_eq_true rfl) rfl (sx_94_0 ha) ?_
  refine sg_if_eq 11 f_82_4 rfl (fun c4 => ?_) (fun c4 => ?_)
  · refine sg_iconst (-1) f_82_11 ki_m1 ?_
    exact (sg_iret f_82_12 rk_82)
  · exact absurd rfl c4
theorem sx_83_bad0 {σ : sg_S} {a : Int32} (ha : sg_out a 17) {b : Int32} {c : Int32} : sg_D tx_H 83 0 [.ref 0, .int a, .int b, .int c, ab_u] [] σ (some (.int (-1))) σ := by
  refine sg_iload_n f_83_0 rfl ?_
  refine sg_calls_i f_83_1 my_83_94 mr_94 (by decide) rfl (Nat.le_of_ble_eq_true rfl) (Nat.le_of_ble_eq_true rfl) rfl (sx_94_0 ha) ?_
  refine sg_if_eq 16 f_83_4 rfl (fun c4 => ?_) (fun c4 => ?_)
  · refine sg_iconst (-1) f_83_16 ki_m1 ?_
    exact (sg_iret f_83_17 rk_83)
  · exact absurd rfl c4
theorem sx_84_bad0 {σ : sg_S} {a : Int32} (ha : sg_out a 17) {b : Int32} : sg_D tx_H 84 0 [.ref 0, .int a, .int b] [] σ (some (.int (-1))) σ := by
  refine sg_iload_n f_84_0 rfl ?_
  refine sg_calls_i f_84_1 my_84_94 mr_94 (by decide) rfl (Nat.le_of_ble_eq_true rfl) (Nat.le_of_ble_eq_true rfl) rfl (sx_94_0 ha) ?_
  refine sg_if_eq 28 f_84_4 rfl (fun c4 => ?_) (fun c4 => ?_)
  · refine sg_iconst (-1) f_84_28 ki_m1 ?_
    exact (sg_iret f_84_29 rk_84)
  · exact absurd rfl c4
theorem sx_84_bad1 {σ : sg_S} {a : Nat} (ha : a < 17) {b : Int32} (hb : sg_out b 17) : sg_D tx_H 84 0 [.ref 0, .int (nI a), .int b] [] σ (some (.int (-1))) σ := by
  refine sg_iload_n f_84_0 rfl ?_
  refine sg_calls_i f_84_1 my_84_94 mr_94 (by decide) rfl (Nat.le_of_ble_eq_true rfl) (Nat.le_of_ble_eq_true rfl) rfl (sx_94_1 ha) ?_
  refine sg_if_eq 28 f_84_4 rfl (fun c4 => ?_) (fun c4 => ?_)
  · exact absurd c4 (by decide)
  · refine sg_iload_n f_84_7 rfl ?_
    refine sg_calls_i f_84_8 my_84_94 mr_94 (by decide) rfl (Nat.le_of_ble_eq_true rfl) (Nat.le_of_ble_eq_true rfl) rfl (sx_94_0 hb) ?_
    refine sg_if_eq 28 f_84_11 rfl (fun c11 => ?_) (fun c11 => ?_)
    · refine sg_iconst (-1) f_84_28 ki_m1 ?_
      exact (sg_iret f_84_29 rk_84)
    · exact absurd rfl c11
theorem sx_85_bad0 {σ : sg_S} {a : Int32} (ha : sg_out a 17) {b : Int32} : sg_D tx_H 85 0 [.ref 0, .int a, .int b] [] σ (some (.int (-1))) σ := by
  refine sg_iload_n f_85_0 rfl ?_
  refine sg_calls_i f_85_1 my_85_94 mr_94 (by decide) rfl (Nat.le_of_ble_eq_true rfl) (Nat.le_of_ble_eq_true rfl) rfl (sx_94_0 ha) ?_
  refine sg_if_eq 26 f_85_4 rfl (fun c4 => ?_) (fun c4 => ?_)
  · refine sg_iconst (-1) f_85_26 ki_m1 ?_
    exact (sg_iret f_85_27 rk_85)
  · exact absurd rfl c4
theorem sx_85_bad1 {σ : sg_S} {a : Nat} (ha : a < 17) {b : Int32} (hb : sg_out b 17) : sg_D tx_H 85 0 [.ref 0, .int (nI a), .int b] [] σ (some (.int (-1))) σ := by
  refine sg_iload_n f_85_0 rfl ?_
  refine sg_calls_i f_85_1 my_85_94 mr_94 (by decide) rfl (Nat.le_of_ble_eq_true rfl) (Nat.le_of_ble_eq_true rfl) rfl (sx_94_1 ha) ?_
  refine sg_if_eq 26 f_85_4 rfl (fun c4 => ?_) (fun c4 => ?_)
  · exact absurd c4 (by decide)
  · refine sg_iload_n f_85_7 rfl ?_
    refine sg_calls_i f_85_8 my_85_94 mr_94 (by decide) rfl (Nat.le_of_ble_eq_true rfl) (Nat.le_of_ble_eq_true rfl) rfl (sx_94_0 hb) ?_
    refine sg_if_eq 26 f_85_11 rfl (fun c11 => ?_) (fun c11 => ?_)
    · refine sg_iconst (-1) f_85_26 ki_m1 ?_
      exact (sg_iret f_85_27 rk_85)
    · exact absurd rfl c11
theorem sx_86_bad0 {σ : sg_S} {a : Int32} (ha : sg_out a 6) {b : Int32} : sg_D tx_H 86 0 [.ref 0, .int a, .int b] [] σ (some (.int (-1))) σ := by
  refine sg_iload_n f_86_0 rfl ?_
  refine sg_calls_i f_86_1 my_86_95 mr_95 (by decide) rfl (Nat.le_of_ble_eq_true rfl) (Nat.le_of_ble_eq_true rfl) rfl (sx_95_0 ha) ?_
  refine sg_if_ne 9 f_86_4 rfl (fun c4 => ?_) (fun c4 => ?_)
  · exact absurd rfl c4
  · refine sg_iconst (-1) f_86_7 ki_m1 ?_
    exact (sg_iret f_86_8 rk_86)
theorem sx_87_bad0 {σ : sg_S} {a : Int32} (ha : sg_out a 6) {b : Int32} : sg_D tx_H 87 0 [.ref 0, .int a, .int b] [] σ (some (.int (-1))) σ := by
  refine sg_iload_n f_87_0 rfl ?_
  refine sg_calls_i f_87_1 my_87_95 mr_95 (by decide) rfl (Nat.le_of_ble_eq_true rfl) (Nat.le_of_ble_eq_true rfl) rfl (sx_95_0 ha) ?_
  refine sg_if_eq 14 f_87_4 rfl (fun c4 => ?_) (fun c4 => ?_)
  · refine sg_iconst (-1) f_87_14 ki_m1 ?_
    exact (sg_iret f_87_15 rk_87)
  · exact absurd rfl c4
theorem sx_87_bad1 {σ : sg_S} {a : Nat} (ha : a < 6) {b : Int32} (hb : sg_out b 6) : sg_D tx_H 87 0 [.ref 0, .int (nI a), .int b] [] σ (some (.int (-1))) σ := by
  refine sg_iload_n f_87_0 rfl ?_
  refine sg_calls_i f_87_1 my_87_95 mr_95 (by decide) rfl (Nat.le_of_ble_eq_true rfl) (Nat.le_of_ble_eq_true rfl) rfl (sx_95_1 ha) ?_
  refine sg_if_eq 14 f_87_4 rfl (fun c4 => ?_) (fun c4 => ?_)
  · exact absurd c4 (by decide)
  · refine sg_iload_n f_87_7 rfl ?_
    refine sg_calls_i f_87_8 my_87_95 mr_95 (by decide) rfl (Nat.le_of_ble_eq_true rfl) (Nat.le_of_ble_eq_true rfl) rfl (sx_95_0 hb) ?_
    refine sg_if_ne 16 f_87_11 rfl (fun c11 => ?_) (fun c11 => ?_)
    · exact absurd rfl c11
    · refine sg_iconst (-1) f_87_14 ki_m1 ?_
      exact (sg_iret f_87_15 rk_87)
theorem sx_88_bad0 {σ : sg_S} {a : Int32} (ha : sg_out a 17) {b : Int64} : sg_D tx_H 88 0 [.ref 0, .int a, .long b, ab_u] [] σ (some (.int (-1))) σ := by
  refine sg_iload_n f_88_0 rfl ?_
  refine sg_calls_i f_88_1 my_88_94 mr_94 (by decide) rfl (Nat.le_of_ble_eq_true rfl) (Nat.le_of_ble_eq_true rfl) rfl (sx_94_0 ha) ?_
  refine sg_if_ne 9 f_88_4 rfl (fun c4 => ?_) (fun c4 => ?_)
  · exact absurd rfl c4
  · refine sg_iconst (-1) f_88_7 ki_m1 ?_
    exact (sg_iret f_88_8 rk_88)
theorem sx_91_bad0 {σ : sg_S} {a : Int32} (ha : sg_out a 2) : sg_D tx_H 91 0 [.ref 0, .int a] [] σ (some (.int (-1))) σ := by
  refine sg_iload_n f_91_0 rfl ?_
  refine sg_calls_i f_91_1 my_91_96 mr_96 (by decide) rfl (Nat.le_of_ble_eq_true rfl) (Nat.le_of_ble_eq_true rfl) rfl (sx_96_0 ha) ?_
  refine sg_if_ne 9 f_91_4 rfl (fun c4 => ?_) (fun c4 => ?_)
  · exact absurd rfl c4
  · refine sg_iconst (-1) f_91_7 ki_m1 ?_
    exact (sg_iret f_91_8 rk_91)
theorem sx_92_bad0 {σ : sg_S} {a : Int32} (ha : sg_out a 2) : sg_D tx_H 92 0 [.ref 0, .int a] [] σ (some (.int (-1))) σ := by
  refine sg_iload_n f_92_0 rfl ?_
  refine sg_calls_i f_92_1 my_92_96 mr_96 (by decide) rfl (Nat.le_of_ble_eq_true rfl) (Nat.le_of_ble_eq_true rfl) rfl (sx_96_0 ha) ?_
  refine sg_if_ne 9 f_92_4 rfl (fun c4 => ?_) (fun c4 => ?_)
  · exact absurd rfl c4
  · refine sg_iconst (-1) f_92_7 ki_m1 ?_
    exact (sg_iret f_92_8 rk_92)
/-! and where they are in range -/
theorem sx_87 {σ : sg_S} {a b : Nat} (hT : tx_Tab σ) (ha : a < 6) (hb : b < 6) : sg_D tx_H 87 0 [.ref 0, .int (nI a), .int (nI b)] [] σ (some (.int (nI (sx_lk (σ.2 (60 + a)) (σ.2 (60 + b)) 17 0)))) σ := by
  refine sg_iload_n f_87_0 rfl ?_
  refine sg_calls_i f_87_1 my_87_95 mr_95 (by decide) rfl (Nat.le_of_ble_eq_true rfl) (Nat.le_of_ble_eq_true rfl) rfl (sx_95_1 ha) ?_
  refine sg_if_eq 14 f_87_4 rfl (fun c4 => ?_) (fun c4 => ?_)
  · exact absurd c4 (by decide)
  · refine sg_iload_n f_87_7 rfl ?_
    refine sg_calls_i f_87_8 my_87_95 mr_95 (by decide) rfl (Nat.le_of_ble_eq_true rfl) (Nat.le_of_ble_eq_true rfl) rfl (sx_95_1 hb) ?_
    refine sg_if_ne 16 f_87_11 rfl (fun c11 => ?_) (fun c11 => ?_)
    · refine sg_aload_n f_87_16 rfl ?_
      refine sg_getf_r f_87_17 fd_x_0_704 ?_
      refine sg_aload_n f_87_20 rfl ?_
      refine sg_getf_r f_87_21 fd_x_0_710 ?_
      refine sg_getf_r f_87_24 fd_x_55_257 ?_
      refine sg_iload_n f_87_27 rfl ?_
      refine sg_aaload a f_87_28 rfl (sx_rs a ha).1 (by omega) ?_
      refine sg_aload_n f_87_29 rfl ?_
      refine sg_getf_r f_87_30 fd_x_0_710 ?_
      refine sg_getf_r f_87_33 fd_x_55_257 ?_
      refine sg_iload_n f_87_36 rfl ?_
      refine sg_aaload b f_87_37 rfl (sx_rs b hb).1 (by omega) ?_
      refine sg_callv_i f_87_38 my_87_59 mr_59 rfl (Nat.le_of_ble_eq_true rfl) (Nat.le_of_ble_eq_true rfl) sh_x_1 (by decide) rfl (sx_59 hT (sx_rs a ha).2 (sx_rs b hb).2) ?_
      exact (sg_iret f_87_41 rk_87)
    · exact absurd c11 (by decide)
theorem sx_79 {σ : sg_S} {a b : Nat} (ha : a < 6) (hb : b < 17) : sg_D tx_H 79 0 [.ref 0, .int (nI a), .int (nI b)] [] σ (some (.long (σ.2 (60 + a) b))) σ := by
  refine sg_iload_n f_79_0 rfl ?_
  refine sg_calls_i f_79_1 my_79_95 mr_95 (by decide) rfl (Nat.le_of_ble_eq_true rfl) (Nat.le_of_ble_eq_true rfl) rfl (sx_95_1 ha) ?_
  refine sg_if_eq 28 f_79_4 rfl (fun c4 => ?_) (fun c4 => ?_)
  · exact absurd c4 (by decide)
  · refine sg_iload_n f_79_7 rfl ?_
    refine sg_calls_i f_79_8 my_79_94 mr_94 (by decide) rfl (Nat.le_of_ble_eq_true rfl) (Nat.le_of_ble_eq_true rfl) rfl (sx_94_1 hb) ?_
    refine sg_if_eq 28 f_79_11 rfl (fun c11 => ?_) (fun c11 => ?_)
    · exact absurd c11 (by decide)
    · refine sg_aload_n f_79_14 rfl ?_
      refine sg_getf_r f_79_15 fd_x_0_710 ?_
      refine sg_getf_r f_79_18 fd_x_55_257 ?_
      refine sg_iload_n f_79_21 rfl ?_
      refine sg_aaload a f_79_22 rfl (sx_rs a ha).1 (by omega) ?_
      refine sg_iload_n f_79_23 rfl ?_
      refine sg_laload _ ok_x f_79_24 (sx_rs a ha).2 rfl (by omega) ?_
      refine sg_goto 31 f_79_25 rfl ?_
      exact (sg_lret f_79_31 rk_79)
theorem sx_85 {σ : sg_S} {a b : Nat} (hT : tx_Tab σ) (ha : a < 17) (hb : b < 17) : sg_D tx_H 85 0 [.ref 0, .int (nI a), .int (nI b)] [] σ (some (.int (nI (t_hm (t_st a) b (t_mn a) 0 0)))) σ := by
  refine sg_iload_n f_85_0 rfl ?_
  refine sg_calls_i f_85_1 my_85_94 mr_94 (by decide) rfl (Nat.le_of_ble_eq_true rfl) (Nat.le_of_ble_eq_true rfl) rfl (sx_94_1 ha) ?_
  refine sg_if_eq 26 f_85_4 rfl (fun c4 => ?_) (fun c4 => ?_)
  · exact absurd c4 (by decide)
  · refine sg_iload_n f_85_7 rfl ?_
    refine sg_calls_i f_85_8 my_85_94 mr_94 (by decide) rfl (Nat.le_of_ble_eq_true rfl) (Nat.le_of_ble_eq_true rfl) rfl (sx_94_1 hb) ?_
    refine sg_if_eq 26 f_85_11 rfl (fun c11 => ?_) (fun c11 => ?_)
    · exact absurd c11 (by decide)
    · refine sg_aload_n f_85_14 rfl ?_
      refine sg_getf_r f_85_15 fd_x_0_705 ?_
      refine sg_iload_n f_85_18 rfl ?_
      refine sg_iload_n f_85_19 rfl ?_
      refine sg_callv_i f_85_20 my_85_6 mr_6 rfl (Nat.le_of_ble_eq_true rfl) (Nat.le_of_ble_eq_true rfl) sh_x_29 (by decide) rfl (sx_6 hT ha hb) ?_
      refine sg_goto 27 f_85_23 rfl ?_
      exact (sg_iret f_85_27 rk_85)
theorem sx_82_neg {σ : sg_S} {a : Nat} {k : Int32} (ha : a < 17) (hk : k < 0) : sg_D tx_H 82 0 [.ref 0, .int (nI a), .int k] [] σ (some (.int (-1))) σ := by
  refine sg_iload_n f_82_0 rfl ?_
  refine sg_calls_i f_82_1 my_82_94 mr_94 (by decide) rfl (Nat.le_of_ble_eq_true rfl) (Nat.le_of_ble_eq_true rfl) rfl (sx_94_1 ha) ?_
  refine sg_if_eq 11 f_82_4 rfl (fun c4 => ?_) (fun c4 => ?_)
  · exact absurd c4 (by decide)
  · refine sg_iload_n f_82_7 rfl ?_
    refine sg_if_ge 13 f_82_8 rfl (fun c8 => ?_) (fun c8 => ?_)
    · exact absurd hk (Int32.not_lt.mpr c8)
    · refine sg_iconst (-1) f_82_11 ki_m1 ?_
      exact (sg_iret f_82_12 rk_82)
theorem sx_82 {σ : sg_S} {a k : Nat} (ha : a < 17) (hk : k < 2 ^ 31) : sg_D tx_H 82 0 [.ref 0, .int (nI a), .int (nI k)] [] σ (some (.int (t_cc a k))) σ := by
  refine sg_iload_n f_82_0 rfl ?_
  refine sg_calls_i f_82_1 my_82_94 mr_94 (by decide) rfl (Nat.le_of_ble_eq_true rfl) (Nat.le_of_ble_eq_true rfl) rfl (sx_94_1 ha) ?_
  refine sg_if_eq 11 f_82_4 rfl (fun c4 => ?_) (fun c4 => ?_)
  · exact absurd c4 (by decide)
  · refine sg_iload_n f_82_7 rfl ?_
    refine sg_if_ge 13 f_82_8 rfl (fun c8 => ?_) (fun c8 => ?_)
    · refine sg_aload_n f_82_13 rfl ?_
      refine sg_getf_r f_82_14 fd_x_0_704 ?_
      refine sg_iload_n f_82_17 rfl ?_
      refine sg_iload_n f_82_18 rfl ?_
      refine sg_callv_i f_82_19 my_82_56 mr_56 rfl (Nat.le_of_ble_eq_true rfl) (Nat.le_of_ble_eq_true rfl) sh_x_1 (by decide) rfl (sx_56 ha hk) ?_
      exact (sg_iret f_82_22 rk_82)
    · exact absurd (Int32.not_le.mp c8) (sg_nneg hk)
theorem sx_89 {σ : sg_S} : sg_D tx_H 89 0 [.ref 0] [] σ (some (.int (σ.1 158 2))) (sg_r1 σ 158 (upd (σ.1 158) 2 (nI 0))) := by
  refine sg_aload_n f_89_0 rfl ?_
  refine sg_getf_r f_89_1 fd_x_0_714 ?_
  refine sg_callv_i f_89_4 my_89_26 mr_26 rfl (Nat.le_of_ble_eq_true rfl) (Nat.le_of_ble_eq_true rfl) sh_x_158 (by decide) rfl sx_26 ?_
  exact (sg_iret f_89_7 rk_89)
theorem sx_88_full {σ : sg_S} {a : Nat} {v : Int64} (ha : a < 17) (hz : σ.1 158 2 = nI 6) : sg_D tx_H 88 0 [.ref 0, .int (nI a), .long v, ab_u] [] σ (some (.int (-3))) σ := by
  refine sg_iload_n f_88_0 rfl ?_
  refine sg_calls_i f_88_1 my_88_94 mr_94 (by decide) rfl (Nat.le_of_ble_eq_true rfl) (Nat.le_of_ble_eq_true rfl) rfl (sx_94_1 ha) ?_
  refine sg_if_ne 9 f_88_4 rfl (fun c4 => ?_) (fun c4 => ?_)
  · refine sg_aload_n f_88_9 rfl ?_
    refine sg_getf_r f_88_10 fd_x_0_714 ?_
    refine sg_iload_n f_88_13 rfl ?_
    refine sg_lload_n f_88_14 rfl ?_
    refine sg_callv_i f_88_15 my_88_25 mr_25 rfl (Nat.le_of_ble_eq_true rfl) (Nat.le_of_ble_eq_true rfl) sh_x_158 (by decide) rfl (sx_25_full hz) ?_
    refine sg_if_eq 31 f_88_18 rfl (fun c18 => ?_) (fun c18 => ?_)
    · refine sg_bipush (-3) f_88_31 kb_m3 ?_
      exact (sg_iret f_88_33 rk_88)
    · exact absurd rfl c18
  · exact absurd c4 (by decide)
theorem sx_88 {σ : sg_S} {a z : Nat} {v : Int64} (ha : a < 17) (hz : σ.1 158 2 = nI z) (hz6 : z < 6) : sg_D tx_H 88 0 [.ref 0, .int (nI a), .long v, ab_u] [] σ (some (.int (nI (z + 1)))) (sx_see σ z (nI a) v) := by
  have e : (sx_see σ z (nI a) v).1 158 2 = nI (z + 1) := by unfold sx_see; rw [sg_r1_eq]; simp [upd]
  refine sg_iload_n f_88_0 rfl ?_
  refine sg_calls_i f_88_1 my_88_94 mr_94 (by decide) rfl (Nat.le_of_ble_eq_true rfl) (Nat.le_of_ble_eq_true rfl) rfl (sx_94_1 ha) ?_
  refine sg_if_ne 9 f_88_4 rfl (fun c4 => ?_) (fun c4 => ?_)
  · refine sg_aload_n f_88_9 rfl ?_
    refine sg_getf_r f_88_10 fd_x_0_714 ?_
    refine sg_iload_n f_88_13 rfl ?_
    refine sg_lload_n f_88_14 rfl ?_
    refine sg_callv_i f_88_15 my_88_25 mr_25 rfl (Nat.le_of_ble_eq_true rfl) (Nat.le_of_ble_eq_true rfl) sh_x_158 (by decide) rfl (sx_25 hz hz6) ?_
    refine sg_if_eq 31 f_88_18 rfl (fun c18 => ?_) (fun c18 => ?_)
    · exact absurd c18 (by decide)
    · refine sg_aload_n f_88_21 rfl ?_
      refine sg_getf_r f_88_22 fd_x_0_714 ?_
      refine sg_getf_k f_88_25 fd_x_158_194 e ?_
      refine sg_goto 33 f_88_28 rfl ?_
      exact (sg_iret f_88_33 rk_88)
  · exact absurd c4 (by decide)
theorem sx_78_0 {σ : sg_S} (hz : σ.1 66 2 = nI 0) : sg_D tx_H 78 0 [.ref 0] [] σ (some (.int (-2))) σ := by
  refine sg_aload_n f_78_0 rfl ?_
  refine sg_getf_r f_78_1 fd_x_0_711 ?_
  refine sg_aload_n f_78_4 rfl ?_
  refine sg_getf_r f_78_5 fd_x_0_710 ?_
  refine sg_callv_i f_78_8 my_78_22 mr_22 rfl (Nat.le_of_ble_eq_true rfl) (Nat.le_of_ble_eq_true rfl) sh_x_66 (by decide) rfl (sx_22_0 hz) ?_
  refine sg_if_eq 24 f_78_11 rfl (fun c11 => ?_) (fun c11 => ?_)
  · refine sg_bipush (-2) f_78_24 kb_m2 ?_
    exact (sg_iret f_78_26 rk_78)
  · exact absurd rfl c11
theorem sx_75 {σ : sg_S} {p z r a : Nat} {h : Int32} (hT : tx_Tab σ) (hP : sx_P σ p z) (hr : r < 6) (ha : a < 6) (h1 : ¬ h < -3) (h2 : h ≤ nI 3) : sg_D tx_H 75 0 [.ref 0, .int (nI r), .int (nI a), .int h] [] σ (some (.int (nI (sx_lk (sx_str (σ.2 (60 + a)) h.toInt64 (σ.2 161) 17) (σ.2 8) 17 0)))) (sx_sto (sg_r2 σ 161 (sx_str (σ.2 (60 + a)) h.toInt64 (σ.2 161) 17)) p z r) := by
  refine sg_iload_n f_75_0 rfl ?_
  refine sg_calls_i f_75_1 my_75_95 mr_95 (by decide) rfl (Nat.le_of_ble_eq_true rfl) (Nat.le_of_ble_eq_true rfl) rfl (sx_95_1 hr) ?_
  refine sg_if_eq 25 f_75_4 rfl (fun c4 => ?_) (fun c4 => ?_)
  · exact absurd c4 (by decide)
  · refine sg_iload_n f_75_7 rfl ?_
    refine sg_calls_i f_75_8 my_75_95 mr_95 (by decide) rfl (Nat.le_of_ble_eq_true rfl) (Nat.le_of_ble_eq_true rfl) rfl (sx_95_1 ha) ?_
    refine sg_if_eq 25 f_75_11 rfl (fun c11 => ?_) (fun c11 => ?_)
    · exact absurd c11 (by decide)
    · refine sg_iload_n f_75_14 rfl ?_
      refine sg_bipush (-3) f_75_15 kb_m3 ?_
      refine sg_icmp_lt 25 f_75_17 rfl (fun c17 => ?_) (fun c17 => ?_)
      · exact absurd c17 h1
      · refine sg_iload_n f_75_20 rfl ?_
        refine sg_iconst (nI 3) f_75_21 ki_3 ?_
        refine sg_icmp_le 27 f_75_22 rfl (fun c22 => ?_) (fun c22 => ?_)
        · refine sg_aload_n f_75_27 rfl ?_
          refine sg_getf_r f_75_28 fd_x_0_704 ?_
          refine sg_aload_n f_75_31 rfl ?_
          refine sg_getf_r f_75_32 fd_x_0_710 ?_
          refine sg_getf_r f_75_35 fd_x_55_257 ?_
          refine sg_iload_n f_75_38 rfl ?_
          refine sg_aaload a f_75_39 rfl (sx_rs a ha).1 (by omega) ?_
          refine sg_iload_n f_75_40 rfl ?_
          refine sg_aload_n f_75_41 rfl ?_
          refine sg_getf_r f_75_42 fd_x_0_715 ?_
          refine sg_callv_v f_75_45 my_75_57 mr_57 rfl (Nat.le_of_ble_eq_true rfl) (Nat.le_of_ble_eq_true rfl) sh_x_1 (by decide) rfl (sx_57 hT (sx_rs a ha).2 sx_mS) ?_
          refine sg_aload_n f_75_48 rfl ?_
          refine sg_iload_n f_75_49 rfl ?_
          refine sg_callv_i f_75_50 my_75_97 mr_97 rfl (Nat.le_of_ble_eq_true rfl) (Nat.le_of_ble_eq_true rfl) sh_x_0 (by decide) rfl (sx_97m hT hP hr) ?_
          exact (sg_iret f_75_53 rk_75)
        · exact absurd h2 c22
theorem sx_75_bad2 {σ : sg_S} {r a : Nat} {h : Int32} (hr : r < 6) (ha : a < 6) (h1 : h < -3 ∨ ¬ h ≤ nI 3) : sg_D tx_H 75 0 [.ref 0, .int (nI r), .int (nI a), .int h] [] σ (some (.int (-1))) σ := by
  refine sg_iload_n f_75_0 rfl ?_
  refine sg_calls_i f_75_1 my_75_95 mr_95 (by decide) rfl (Nat.le_of_ble_eq_true rfl) (Nat.le_of_ble_eq_true rfl) rfl (sx_95_1 hr) ?_
  refine sg_if_eq 25 f_75_4 rfl (fun c4 => ?_) (fun c4 => ?_)
  · exact absurd c4 (by decide)
  · refine sg_iload_n f_75_7 rfl ?_
    refine sg_calls_i f_75_8 my_75_95 mr_95 (by decide) rfl (Nat.le_of_ble_eq_true rfl) (Nat.le_of_ble_eq_true rfl) rfl (sx_95_1 ha) ?_
    refine sg_if_eq 25 f_75_11 rfl (fun c11 => ?_) (fun c11 => ?_)
    · exact absurd c11 (by decide)
    · refine sg_iload_n f_75_14 rfl ?_
      refine sg_bipush (-3) f_75_15 kb_m3 ?_
      refine sg_icmp_lt 25 f_75_17 rfl (fun c17 => ?_) (fun c17 => ?_)
      · refine sg_iconst (-1) f_75_25 ki_m1 ?_
        exact (sg_iret f_75_26 rk_75)
      · refine sg_iload_n f_75_20 rfl ?_
        refine sg_iconst (nI 3) f_75_21 ki_3 ?_
        refine sg_icmp_le 27 f_75_22 rfl (fun c22 => ?_) (fun c22 => ?_)
        · exact absurd h1 (fun z => z.elim c17 (fun z => z c22))
        · refine sg_iconst (-1) f_75_25 ki_m1 ?_
          exact (sg_iret f_75_26 rk_75)
theorem sx_71 {σ : sg_S} {p z r s : Nat} (hT : tx_Tab σ) (hP : sx_P σ p z) (hr : r < 6) (hs : σ.1 56 0 = nI s) (hs4 : s ≤ 4) : ∃ σ1 : sg_S, sx_wI σ σ1 s 17 ∧ sg_D tx_H 71 0 [.ref 0, .int (nI r)] [] σ (some (.int (nI (sx_lk (σ1.2 161) (σ.2 8) 17 0)))) (sx_sto σ1 p z r) := by
  obtain ⟨σ1, hI, k1⟩ := sx_63 hs hs4
  have hT1 : tx_Tab σ1 := tx_Tab_of hT (fun a _ => by rw [hI.1]) (hI.2.1 8 (by omega))
  have k2 := sx_97 (p := p) (z := z) hT1 (by rw [hI.1]; exact hP.1) hP.2.1 (by rw [hI.1]; exact hP.2.2.1) hP.2.2.2 hr
  rw [hI.2.1 8 (by omega)] at k2
  refine ⟨σ1, hI, ?_⟩
  refine sg_iload_n f_71_0 rfl ?_
  refine sg_calls_i f_71_1 my_71_95 mr_95 (by decide) rfl (Nat.le_of_ble_eq_true rfl) (Nat.le_of_ble_eq_true rfl) rfl (sx_95_1 hr) ?_
  refine sg_if_ne 9 f_71_4 rfl (fun c4 => ?_) (fun c4 => ?_)
  · refine sg_aload_n f_71_9 rfl ?_
    refine sg_getf_r f_71_10 fd_x_0_706 ?_
    refine sg_aload_n f_71_13 rfl ?_
    refine sg_getf_r f_71_14 fd_x_0_710 ?_
    refine sg_getf_r f_71_17 fd_x_55_256 ?_
    refine sg_aload_n f_71_20 rfl ?_
    refine sg_getf_r f_71_21 fd_x_0_715 ?_
    refine sg_callv_v f_71_24 my_71_63 mr_63 rfl (Nat.le_of_ble_eq_true rfl) (Nat.le_of_ble_eq_true rfl) sh_x_35 (by decide) rfl k1 ?_
    refine sg_aload_n f_71_27 rfl ?_
    refine sg_iload_n f_71_28 rfl ?_
    refine sg_callv_i f_71_29 my_71_97 mr_97 rfl (Nat.le_of_ble_eq_true rfl) (Nat.le_of_ble_eq_true rfl) sh_x_0 (by decide) rfl k2 ?_
    exact (sg_iret f_71_32 rk_71)
  · exact absurd c4 (by decide)
theorem sx_76 {σ : sg_S} {p z r a : Nat} {g : Nat → Int64} (hT : tx_Tab σ) (hP : sx_P σ p z) (hr : r < 6) (ha : a < 6) (hg : g = sx_str (t_iv (σ.2 (60 + a)) (σ.2 161) 17) (Int32.toInt64 (-1)) (t_iv (σ.2 (60 + a)) (σ.2 161) 17) 17) : sg_D tx_H 76 0 [.ref 0, .int (nI r), .int (nI a), ab_u] [] σ (some (.int (nI (sx_lk g (σ.2 (60 + a)) 17 0)))) (sx_sto (sg_r2 σ 161 g) p z r) := by
  have k57 := sx_57 (σ := sg_r2 σ 161 (t_iv (σ.2 (60 + a)) (σ.2 161) 17)) (a := 161) (b := 161) (h := -1) (tx_Tab_r2 hT (by decide)) sx_mS sx_mS
  rw [sg_r2_eq, sg_r2_r2, ← hg] at k57
  have k59 := sx_59 (σ := sg_r2 σ 161 g) (a := 161) (b := 60 + a) (tx_Tab_r2 hT (by decide)) sx_mS (sx_rs a ha).2
  rw [sg_r2_eq, sg_r2_ne (by omega)] at k59
  refine sg_iload_n f_76_0 rfl ?_
  refine sg_calls_i f_76_1 my_76_95 mr_95 (by decide) rfl (Nat.le_of_ble_eq_true rfl) (Nat.le_of_ble_eq_true rfl) rfl (sx_95_1 hr) ?_
  refine sg_if_eq 14 f_76_4 rfl (fun c4 => ?_) (fun c4 => ?_)
  · exact absurd c4 (by decide)
  · refine sg_iload_n f_76_7 rfl ?_
    refine sg_calls_i f_76_8 my_76_95 mr_95 (by decide) rfl (Nat.le_of_ble_eq_true rfl) (Nat.le_of_ble_eq_true rfl) rfl (sx_95_1 ha) ?_
    refine sg_if_ne 16 f_76_11 rfl (fun c11 => ?_) (fun c11 => ?_)
    · refine sg_aload_n f_76_16 rfl ?_
      refine sg_getf_r f_76_17 fd_x_0_705 ?_
      refine sg_aload_n f_76_20 rfl ?_
      refine sg_getf_r f_76_21 fd_x_0_710 ?_
      refine sg_getf_r f_76_24 fd_x_55_257 ?_
      refine sg_iload_n f_76_27 rfl ?_
      refine sg_aaload a f_76_28 rfl (sx_rs a ha).1 (by omega) ?_
      refine sg_aload_n f_76_29 rfl ?_
      refine sg_getf_r f_76_30 fd_x_0_715 ?_
      refine sg_callv_v f_76_33 my_76_10 mr_10 rfl (Nat.le_of_ble_eq_true rfl) (Nat.le_of_ble_eq_true rfl) sh_x_29 (by decide) rfl (sx_10 hT (sx_rs a ha).2 sx_mS (by omega) (by decide)) ?_
      refine sg_aload_n f_76_36 rfl ?_
      refine sg_getf_r f_76_37 fd_x_0_704 ?_
      refine sg_aload_n f_76_40 rfl ?_
      refine sg_getf_r f_76_41 fd_x_0_715 ?_
      refine sg_iconst (-1) f_76_44 ki_m1 ?_
      refine sg_aload_n f_76_45 rfl ?_
      refine sg_getf_r f_76_46 fd_x_0_715 ?_
      refine sg_callv_v f_76_49 my_76_57 mr_57 rfl (Nat.le_of_ble_eq_true rfl) (Nat.le_of_ble_eq_true rfl) sh_x_1 (by decide) rfl k57 ?_
      refine sg_aload_n f_76_52 rfl ?_
      refine sg_getf_r f_76_53 fd_x_0_704 ?_
      refine sg_aload_n f_76_56 rfl ?_
      refine sg_getf_r f_76_57 fd_x_0_715 ?_
      refine sg_aload_n f_76_60 rfl ?_
      refine sg_getf_r f_76_61 fd_x_0_710 ?_
      refine sg_getf_r f_76_64 fd_x_55_257 ?_
      refine sg_iload_n f_76_67 rfl ?_
      refine sg_aaload a f_76_68 rfl (sx_rs a ha).1 (by omega) ?_
      refine sg_callv_i f_76_69 my_76_59 mr_59 rfl (Nat.le_of_ble_eq_true rfl) (Nat.le_of_ble_eq_true rfl) sh_x_1 (by decide) rfl k59 ?_
      refine sg_istore_n [_, _, _, _] f_76_72 rfl ?_
      refine sg_aload_n f_76_73 rfl ?_
      refine sg_iload_n f_76_74 rfl ?_
      refine sg_callv_i f_76_75 my_76_97 mr_97 rfl (Nat.le_of_ble_eq_true rfl) (Nat.le_of_ble_eq_true rfl) sh_x_0 (by decide) rfl (sx_97m hT hP hr) ?_
      refine sg_pop f_76_78 ?_
      refine sg_iload_n f_76_79 rfl ?_
      exact (sg_iret f_76_80 rk_76)
    · exact absurd c11 (by decide)
theorem sx_77_st {σ : sg_S} {r t : Nat} {v : Int32} (hr : r < 6) (ht : t < 17) (h : σ.2 (60 + r) t = v.toInt64) : sg_D tx_H 77 0 [.ref 0, .int (nI r), .int (nI t), .int v] [] σ (some (.int (-2))) σ := by
  refine sg_iload_n f_77_0 rfl ?_
  refine sg_calls_i f_77_1 my_77_95 mr_95 (by decide) rfl (Nat.le_of_ble_eq_true rfl) (Nat.le_of_ble_eq_true rfl) rfl (sx_95_1 hr) ?_
  refine sg_if_eq 14 f_77_4 rfl (fun c4 => ?_) (fun c4 => ?_)
  · exact absurd c4 (by decide)
  · refine sg_iload_n f_77_7 rfl ?_
    refine sg_calls_i f_77_8 my_77_94 mr_94 (by decide) rfl (Nat.le_of_ble_eq_true rfl) (Nat.le_of_ble_eq_true rfl) rfl (sx_94_1 ht) ?_
    refine sg_if_ne 16 f_77_11 rfl (fun c11 => ?_) (fun c11 => ?_)
    · refine sg_aload_n f_77_16 rfl ?_
      refine sg_getf_r f_77_17 fd_x_0_710 ?_
      refine sg_getf_r f_77_20 fd_x_55_257 ?_
      refine sg_iload_n f_77_23 rfl ?_
      refine sg_aaload r f_77_24 rfl (sx_rs r hr).1 (by omega) ?_
      refine sg_iload_n f_77_25 rfl ?_
      refine sg_laload _ ok_x f_77_26 (sx_rs r hr).2 rfl (by omega) ?_
      refine sg_iload_n f_77_27 rfl ?_
      refine sg_i2l _ f_77_28 rfl ?_
      refine sg_lcmp f_77_29 ?_
      refine sg_if_ne 36 f_77_30 rfl (fun c30 => ?_) (fun c30 => ?_)
      · exact absurd (sg_cmp_eq.mpr h) c30
      · refine sg_bipush (-2) f_77_33 kb_m2 ?_
        exact (sg_iret f_77_35 rk_77)
    · exact absurd c11 (by decide)
theorem sx_77 {σ : sg_S} {p z r t : Nat} {v : Int32} (hP : sx_P σ p z) (hr : r < 6) (ht : t < 17) (h : σ.2 (60 + r) t ≠ v.toInt64) : sg_D tx_H 77 0 [.ref 0, .int (nI r), .int (nI t), .int v] [] σ (some (.int (nI 1))) (sg_r2 (sx_rem σ p z) (60 + r) (vp_updL (σ.2 (60 + r)) t v.toInt64)) := by
  have e : (sx_rem σ p z).2 (60 + r) = σ.2 (60 + r) := sx_rem_2 (by omega)
  refine sg_iload_n f_77_0 rfl ?_
  refine sg_calls_i f_77_1 my_77_95 mr_95 (by decide) rfl (Nat.le_of_ble_eq_true rfl) (Nat.le_of_ble_eq_true rfl) rfl (sx_95_1 hr) ?_
  refine sg_if_eq 14 f_77_4 rfl (fun c4 => ?_) (fun c4 => ?_)
  · exact absurd c4 (by decide)
  · refine sg_iload_n f_77_7 rfl ?_
    refine sg_calls_i f_77_8 my_77_94 mr_94 (by decide) rfl (Nat.le_of_ble_eq_true rfl) (Nat.le_of_ble_eq_true rfl) rfl (sx_94_1 ht) ?_
    refine sg_if_ne 16 f_77_11 rfl (fun c11 => ?_) (fun c11 => ?_)
    · refine sg_aload_n f_77_16 rfl ?_
      refine sg_getf_r f_77_17 fd_x_0_710 ?_
      refine sg_getf_r f_77_20 fd_x_55_257 ?_
      refine sg_iload_n f_77_23 rfl ?_
      refine sg_aaload r f_77_24 rfl (sx_rs r hr).1 (by omega) ?_
      refine sg_iload_n f_77_25 rfl ?_
      refine sg_laload _ ok_x f_77_26 (sx_rs r hr).2 rfl (by omega) ?_
      refine sg_iload_n f_77_27 rfl ?_
      refine sg_i2l _ f_77_28 rfl ?_
      refine sg_lcmp f_77_29 ?_
      refine sg_if_ne 36 f_77_30 rfl (fun c30 => ?_) (fun c30 => ?_)
      · refine sg_aload_n f_77_36 rfl ?_
        refine sg_getf_r f_77_37 fd_x_0_711 ?_
        refine sg_aload_n f_77_40 rfl ?_
        refine sg_getf_r f_77_41 fd_x_0_710 ?_
        refine sg_callv_v f_77_44 my_77_21 mr_21 rfl (Nat.le_of_ble_eq_true rfl) (Nat.le_of_ble_eq_true rfl) sh_x_66 (by decide) rfl (sx_21 hP.1 hP.2.1 hP.2.2.1 hP.2.2.2) ?_
        refine sg_aload_n f_77_47 rfl ?_
        refine sg_getf_r f_77_48 fd_x_0_710 ?_
        refine sg_getf_r f_77_51 fd_x_55_257 ?_
        refine sg_iload_n f_77_54 rfl ?_
        refine sg_aaload r f_77_55 rfl (sx_rs r hr).1 (by omega) ?_
        refine sg_iload_n f_77_56 rfl ?_
        refine sg_iload_n f_77_57 rfl ?_
        refine sg_i2l _ f_77_58 rfl ?_
        refine sg_lastore _ ok_x f_77_59 (sx_rs r hr).2 rfl (by omega) ?_
        rw [e]
        refine sg_iconst (nI 1) f_77_60 ki_1 ?_
        exact (sg_iret f_77_61 rk_77)
      · exact absurd (sg_cmp_eq.mp c30) h
    · exact absurd c11 (by decide)
theorem sx_78 {σ : sg_S} {p z : Nat} (hp : σ.1 66 1 = nI p) (hp6 : p < 6) (hz : σ.1 66 2 = nI (z + 1)) (hz6 : z + 1 ≤ 6) : sg_D tx_H 78 0 [.ref 0] [] σ (some (.int (nI z))) (sx_rec σ p (z + 1)) := by
  have e : (sx_rec σ p (z + 1)).1 66 2 = nI z := by
    unfold sx_rec
    rw [sx_cpS_1 (by omega), sg_r1_eq]
    simp [upd]
  refine sg_aload_n f_78_0 rfl ?_
  refine sg_getf_r f_78_1 fd_x_0_711 ?_
  refine sg_aload_n f_78_4 rfl ?_
  refine sg_getf_r f_78_5 fd_x_0_710 ?_
  refine sg_callv_i f_78_8 my_78_22 mr_22 rfl (Nat.le_of_ble_eq_true rfl) (Nat.le_of_ble_eq_true rfl) sh_x_66 (by decide) rfl (sx_22 hp hp6 hz hz6) ?_
  refine sg_if_eq 24 f_78_11 rfl (fun c11 => ?_) (fun c11 => ?_)
  · exact absurd c11 (by decide)
  · refine sg_aload_n f_78_14 rfl ?_
    refine sg_getf_r f_78_15 fd_x_0_711 ?_
    refine sg_getf_k f_78_18 fd_x_66_130 e ?_
    refine sg_goto 26 f_78_21 rfl ?_
    exact (sg_iret f_78_26 rk_78)
theorem sx_84 {σ : sg_S} {a b : Nat} (hT : tx_Tab σ) (ha : a < 17) (hb : b < 17) : sg_D tx_H 84 0 [.ref 0, .int (nI a), .int (nI b)] [] σ (some (.int (if t_gr (17 * a + b) = 17 then -9 else nI (t_gr (17 * a + b))))) σ := by
  have hg : ∀ j, j < 17 → sg_el tx_H 9 j = some (.ref (10 + j)) ∧ sg_sh tx_H (10 + j) = some (20, 17) := by decide +kernel
  refine sg_iload_n f_84_0 rfl ?_
  refine sg_calls_i f_84_1 my_84_94 mr_94 (by decide) rfl (Nat.le_of_ble_eq_true rfl) (Nat.le_of_ble_eq_true rfl) rfl (sx_94_1 ha) ?_
  refine sg_if_eq 28 f_84_4 rfl (fun c4 => ?_) (fun c4 => ?_)
  · exact absurd c4 (by decide)
  · refine sg_iload_n f_84_7 rfl ?_
    refine sg_calls_i f_84_8 my_84_94 mr_94 (by decide) rfl (Nat.le_of_ble_eq_true rfl) (Nat.le_of_ble_eq_true rfl) rfl (sx_94_1 hb) ?_
    refine sg_if_eq 28 f_84_11 rfl (fun c11 => ?_) (fun c11 => ?_)
    · exact absurd c11 (by decide)
    · refine sg_aload_n f_84_14 rfl ?_
      refine sg_getf_r f_84_15 fd_x_0_704 ?_
      refine sg_getf_r f_84_18 fd_x_1_583 ?_
      refine sg_iload_n f_84_21 rfl ?_
      refine sg_aaload a f_84_22 rfl (hg a ha).1 (by omega) ?_
      refine sg_iload_n f_84_23 rfl ?_
      refine sg_iaload_k b ok_x f_84_24 (hg a ha).2 rfl (by omega) (hT.2.1 a ha b hb) ?_ (by decide) (by omega)
      refine sg_goto 29 f_84_25 rfl ?_
      exact (sg_iret f_84_29 rk_84)
theorem sx_81_0 {σ : sg_S} {a : Nat} (hT : tx_Tab σ) (ha : a < 17) : sg_D tx_H 81 0 [.ref 0, .int (nI a), .int (nI 0)] [] σ (some (.int (nI (t_nd a)))) σ := by
  refine sg_iload_n f_81_0 rfl ?_
  refine sg_calls_i f_81_1 my_81_94 mr_94 (by decide) rfl (Nat.le_of_ble_eq_true rfl) (Nat.le_of_ble_eq_true rfl) rfl (sx_94_1 ha) ?_
  refine sg_if_ne 9 f_81_4 rfl (fun c4 => ?_) (fun c4 => ?_)
  · refine sg_iload_n f_81_9 rfl ?_
    refine sg_tsw_in 52 0 f_81_10 rfl (by omega) (by omega) rfl rfl ?_
    · refine sg_aload_n f_81_52 rfl ?_
      refine sg_getf_r f_81_53 fd_x_0_704 ?_
      refine sg_getf_r f_81_56 fd_x_1_576 ?_
      refine sg_iload_n f_81_59 rfl ?_
      refine sg_iaload_k a ok_x f_81_60 sh_x_2 rfl (by omega) (hT.1 a ha).1 ?_
      exact (sg_iret f_81_61 rk_81)
  · exact absurd c4 (by decide)
theorem sx_81_1 {σ : sg_S} {a : Nat} (hT : tx_Tab σ) (ha : a < 17) : sg_D tx_H 81 0 [.ref 0, .int (nI a), .int (nI 1)] [] σ (some (.int (nI (t_wd a)))) σ := by
  refine sg_iload_n f_81_0 rfl ?_
  refine sg_calls_i f_81_1 my_81_94 mr_94 (by decide) rfl (Nat.le_of_ble_eq_true rfl) (Nat.le_of_ble_eq_true rfl) rfl (sx_94_1 ha) ?_
  refine sg_if_ne 9 f_81_4 rfl (fun c4 => ?_) (fun c4 => ?_)
  · refine sg_iload_n f_81_9 rfl ?_
    refine sg_tsw_in 62 1 f_81_10 rfl (by omega) (by omega) rfl rfl ?_
    · refine sg_aload_n f_81_62 rfl ?_
      refine sg_getf_r f_81_63 fd_x_0_704 ?_
      refine sg_getf_r f_81_66 fd_x_1_577 ?_
      refine sg_iload_n f_81_69 rfl ?_
      refine sg_iaload_k a ok_x f_81_70 sh_x_3 rfl (by omega) (hT.1 a ha).2.1 ?_
      exact (sg_iret f_81_71 rk_81)
  · exact absurd c4 (by decide)
theorem sx_81_2 {σ : sg_S} {a : Nat} (hT : tx_Tab σ) (ha : a < 17) : sg_D tx_H 81 0 [.ref 0, .int (nI a), .int (nI 2)] [] σ (some (.int (nI (t_dn a)))) σ := by
  refine sg_iload_n f_81_0 rfl ?_
  refine sg_calls_i f_81_1 my_81_94 mr_94 (by decide) rfl (Nat.le_of_ble_eq_true rfl) (Nat.le_of_ble_eq_true rfl) rfl (sx_94_1 ha) ?_
  refine sg_if_ne 9 f_81_4 rfl (fun c4 => ?_) (fun c4 => ?_)
  · refine sg_iload_n f_81_9 rfl ?_
    refine sg_tsw_in 72 2 f_81_10 rfl (by omega) (by omega) rfl rfl ?_
    · refine sg_aload_n f_81_72 rfl ?_
      refine sg_getf_r f_81_73 fd_x_0_704 ?_
      refine sg_getf_r f_81_76 fd_x_1_578 ?_
      refine sg_iload_n f_81_79 rfl ?_
      refine sg_iaload_k a ok_x f_81_80 sh_x_4 rfl (by omega) (hT.1 a ha).2.2.1 ?_
      exact (sg_iret f_81_81 rk_81)
  · exact absurd c4 (by decide)
theorem sx_81_3 {σ : sg_S} {a : Nat} (hT : tx_Tab σ) (ha : a < 17) : sg_D tx_H 81 0 [.ref 0, .int (nI a), .int (nI 3)] [] σ (some (.int (nI (t_sy a)))) σ := by
  refine sg_iload_n f_81_0 rfl ?_
  refine sg_calls_i f_81_1 my_81_94 mr_94 (by decide) rfl (Nat.le_of_ble_eq_true rfl) (Nat.le_of_ble_eq_true rfl) rfl (sx_94_1 ha) ?_
  refine sg_if_ne 9 f_81_4 rfl (fun c4 => ?_) (fun c4 => ?_)
  · refine sg_iload_n f_81_9 rfl ?_
    refine sg_tsw_in 82 3 f_81_10 rfl (by omega) (by omega) rfl rfl ?_
    · refine sg_aload_n f_81_82 rfl ?_
      refine sg_getf_r f_81_83 fd_x_0_704 ?_
      refine sg_getf_r f_81_86 fd_x_1_579 ?_
      refine sg_iload_n f_81_89 rfl ?_
      refine sg_iaload_k a ok_x f_81_90 sh_x_5 rfl (by omega) (hT.1 a ha).2.2.2.1 ?_
      exact (sg_iret f_81_91 rk_81)
  · exact absurd c4 (by decide)
theorem sx_81_4 {σ : sg_S} {a : Nat} (hT : tx_Tab σ) (ha : a < 17) : sg_D tx_H 81 0 [.ref 0, .int (nI a), .int (nI 4)] [] σ (some (.int (nI (t_hg a)))) σ := by
  refine sg_iload_n f_81_0 rfl ?_
  refine sg_calls_i f_81_1 my_81_94 mr_94 (by decide) rfl (Nat.le_of_ble_eq_true rfl) (Nat.le_of_ble_eq_true rfl) rfl (sx_94_1 ha) ?_
  refine sg_if_ne 9 f_81_4 rfl (fun c4 => ?_) (fun c4 => ?_)
  · refine sg_iload_n f_81_9 rfl ?_
    refine sg_tsw_in 92 4 f_81_10 rfl (by omega) (by omega) rfl rfl ?_
    · refine sg_aload_n f_81_92 rfl ?_
      refine sg_getf_r f_81_93 fd_x_0_704 ?_
      refine sg_getf_r f_81_96 fd_x_1_580 ?_
      refine sg_iload_n f_81_99 rfl ?_
      refine sg_iaload_k a ok_x f_81_100 sh_x_6 rfl (by omega) (hT.1 a ha).2.2.2.2.1 ?_
      exact (sg_iret f_81_101 rk_81)
  · exact absurd c4 (by decide)
theorem sx_81_5 {σ : sg_S} {a : Nat} (hT : tx_Tab σ) (ha : a < 17) : sg_D tx_H 81 0 [.ref 0, .int (nI a), .int (nI 5)] [] σ (some (.int (nI (t_mn a)))) σ := by
  refine sg_iload_n f_81_0 rfl ?_
  refine sg_calls_i f_81_1 my_81_94 mr_94 (by decide) rfl (Nat.le_of_ble_eq_true rfl) (Nat.le_of_ble_eq_true rfl) rfl (sx_94_1 ha) ?_
  refine sg_if_ne 9 f_81_4 rfl (fun c4 => ?_) (fun c4 => ?_)
  · refine sg_iload_n f_81_9 rfl ?_
    refine sg_tsw_in 102 5 f_81_10 rfl (by omega) (by omega) rfl rfl ?_
    · refine sg_aload_n f_81_102 rfl ?_
      refine sg_getf_r f_81_103 fd_x_0_705 ?_
      refine sg_getf_r f_81_106 fd_x_29_1 ?_
      refine sg_iload_n f_81_109 rfl ?_
      refine sg_iaload_k a ok_x f_81_110 sh_x_31 rfl (by omega) (hT.1 a ha).2.2.2.2.2.2.2.2 ?_
      exact (sg_iret f_81_111 rk_81)
  · exact absurd c4 (by decide)
theorem sx_81_6 {σ : sg_S} {a : Nat} (hT : tx_Tab σ) (ha : a < 17) : sg_D tx_H 81 0 [.ref 0, .int (nI a), .int (nI 6)] [] σ (some (.int (nI (t_wy a)))) σ := by
  refine sg_iload_n f_81_0 rfl ?_
  refine sg_calls_i f_81_1 my_81_94 mr_94 (by decide) rfl (Nat.le_of_ble_eq_true rfl) (Nat.le_of_ble_eq_true rfl) rfl (sx_94_1 ha) ?_
  refine sg_if_ne 9 f_81_4 rfl (fun c4 => ?_) (fun c4 => ?_)
  · refine sg_iload_n f_81_9 rfl ?_
    refine sg_tsw_in 112 6 f_81_10 rfl (by omega) (by omega) rfl rfl ?_
    · refine sg_aload_n f_81_112 rfl ?_
      refine sg_getf_r f_81_113 fd_x_0_704 ?_
      refine sg_getf_r f_81_116 fd_x_1_581 ?_
      refine sg_iload_n f_81_119 rfl ?_
      refine sg_iaload_k a ok_x f_81_120 sh_x_7 rfl (by omega) (hT.1 a ha).2.2.2.2.2.1 ?_
      exact (sg_iret f_81_121 rk_81)
  · exact absurd c4 (by decide)
theorem sg_out_i {v : Int32} {n m : Nat} (h : sg_out v n) (hm : m + 1 = n) (hn : n < 2 ^ 31) : v.toInt < 0 ∨ (m : Int) < v.toInt := by
  rcases h with h | h
  · exact Or.inl (Int32.lt_iff_toInt_lt.mp h)
  · have := Int32.le_iff_toInt_le.mp h
    rw [nI_toInt hn] at this
    exact Or.inr (by omega)
theorem sx_81_out {σ : sg_S} {a : Nat} {k : Int32} (ha : a < 17) (hk : sg_out k 7) : sg_D tx_H 81 0 [.ref 0, .int (nI a), .int k] [] σ (some (.int (-1))) σ := by
  refine sg_iload_n f_81_0 rfl ?_
  refine sg_calls_i f_81_1 my_81_94 mr_94 (by decide) rfl (Nat.le_of_ble_eq_true rfl) (Nat.le_of_ble_eq_true rfl) rfl (sx_94_1 ha) ?_
  refine sg_if_ne 9 f_81_4 rfl (fun c4 => ?_) (fun c4 => ?_)
  · refine sg_iload_n f_81_9 rfl ?_
    refine sg_tsw_out 122 f_81_10 (sg_out_i hk rfl (by omega)) rfl ?_
    · refine sg_iconst (-1) f_81_122 ki_m1 ?_
      exact (sg_iret f_81_123 rk_81)
  · exact absurd c4 (by decide)
theorem sx_86_out {σ : sg_S} {a : Nat} {k : Int32} (ha : a < 6) (hk : sg_out k 3) : sg_D tx_H 86 0 [.ref 0, .int (nI a), .int k] [] σ (some (.int (-1))) σ := by
  refine sg_iload_n f_86_0 rfl ?_
  refine sg_calls_i f_86_1 my_86_95 mr_95 (by decide) rfl (Nat.le_of_ble_eq_true rfl) (Nat.le_of_ble_eq_true rfl) rfl (sx_95_1 ha) ?_
  refine sg_if_ne 9 f_86_4 rfl (fun c4 => ?_) (fun c4 => ?_)
  · refine sg_iload_n f_86_9 rfl ?_
    refine sg_tsw_out 101 f_86_10 (sg_out_i hk rfl (by omega)) rfl ?_
    · refine sg_iconst (-1) f_86_101 ki_m1 ?_
      exact (sg_iret f_86_102 rk_86)
  · exact absurd c4 (by decide)
theorem sx_86_0 {σ : sg_S} {a : Nat} (hT : tx_Tab σ) (ha : a < 6) : sg_D tx_H 86 0 [.ref 0, .int (nI a), .int (nI 0)] [] σ (some (.int (nI (sx_lk (σ.2 (60 + a)) (σ.2 8) 17 0)))) σ := by
  refine sg_iload_n f_86_0 rfl ?_
  refine sg_calls_i f_86_1 my_86_95 mr_95 (by decide) rfl (Nat.le_of_ble_eq_true rfl) (Nat.le_of_ble_eq_true rfl) rfl (sx_95_1 ha) ?_
  refine sg_if_ne 9 f_86_4 rfl (fun c4 => ?_) (fun c4 => ?_)
  · refine sg_iload_n f_86_9 rfl ?_
    refine sg_tsw_in 36 0 f_86_10 rfl (by omega) (by omega) rfl rfl ?_
    · refine sg_aload_n f_86_36 rfl ?_
      refine sg_getf_r f_86_37 fd_x_0_704 ?_
      refine sg_aload_n f_86_40 rfl ?_
      refine sg_getf_r f_86_41 fd_x_0_710 ?_
      refine sg_getf_r f_86_44 fd_x_55_257 ?_
      refine sg_iload_n f_86_47 rfl ?_
      refine sg_aaload a f_86_48 rfl (sx_rs a ha).1 (by omega) ?_
      refine sg_aload_n f_86_49 rfl ?_
      refine sg_getf_r f_86_50 fd_x_0_704 ?_
      refine sg_getf_r f_86_53 fd_x_1_582 ?_
      refine sg_callv_i f_86_56 my_86_59 mr_59 rfl (Nat.le_of_ble_eq_true rfl) (Nat.le_of_ble_eq_true rfl) sh_x_1 (by decide) rfl (sx_59 hT (sx_rs a ha).2 sx_fS) ?_
      exact (sg_iret f_86_59 rk_86)
  · exact absurd c4 (by decide)
theorem sx_86_1 {σ : sg_S} {a : Nat} (ha : a < 6) : sg_D tx_H 86 0 [.ref 0, .int (nI a), .int (nI 1)] [] σ (some (.int (sx_fu (σ.2 (60 + a)) (σ.2 8) 17 0))) σ := by
  refine sg_iload_n f_86_0 rfl ?_
  refine sg_calls_i f_86_1 my_86_95 mr_95 (by decide) rfl (Nat.le_of_ble_eq_true rfl) (Nat.le_of_ble_eq_true rfl) rfl (sx_95_1 ha) ?_
  refine sg_if_ne 9 f_86_4 rfl (fun c4 => ?_) (fun c4 => ?_)
  · refine sg_iload_n f_86_9 rfl ?_
    refine sg_tsw_in 60 1 f_86_10 rfl (by omega) (by omega) rfl rfl ?_
    · refine sg_aload_n f_86_60 rfl ?_
      refine sg_getf_r f_86_61 fd_x_0_704 ?_
      refine sg_aload_n f_86_64 rfl ?_
      refine sg_getf_r f_86_65 fd_x_0_710 ?_
      refine sg_getf_r f_86_68 fd_x_55_257 ?_
      refine sg_iload_n f_86_71 rfl ?_
      refine sg_aaload a f_86_72 rfl (sx_rs a ha).1 (by omega) ?_
      refine sg_aload_n f_86_73 rfl ?_
      refine sg_getf_r f_86_74 fd_x_0_704 ?_
      refine sg_getf_r f_86_77 fd_x_1_582 ?_
      refine sg_callv_i f_86_80 my_86_58 mr_58 rfl (Nat.le_of_ble_eq_true rfl) (Nat.le_of_ble_eq_true rfl) sh_x_1 (by decide) rfl (sx_58 (sx_rs a ha).2 sx_fS) ?_
      exact (sg_iret f_86_83 rk_86)
  · exact absurd c4 (by decide)
theorem sx_86_2 {σ : sg_S} {a : Nat} (hT : tx_Tab σ) (ha : a < 6) : sg_D tx_H 86 0 [.ref 0, .int (nI a), .int (nI 2)] [] σ (some (.int (t_fb (σ.2 (60 + a)) 289 0 0))) σ := by
  refine sg_iload_n f_86_0 rfl ?_
  refine sg_calls_i f_86_1 my_86_95 mr_95 (by decide) rfl (Nat.le_of_ble_eq_true rfl) (Nat.le_of_ble_eq_true rfl) rfl (sx_95_1 ha) ?_
  refine sg_if_ne 9 f_86_4 rfl (fun c4 => ?_) (fun c4 => ?_)
  · refine sg_iload_n f_86_9 rfl ?_
    refine sg_tsw_in 84 2 f_86_10 rfl (by omega) (by omega) rfl rfl ?_
    · refine sg_aload_n f_86_84 rfl ?_
      refine sg_getf_r f_86_85 fd_x_0_704 ?_
      refine sg_aload_n f_86_88 rfl ?_
      refine sg_getf_r f_86_89 fd_x_0_710 ?_
      refine sg_getf_r f_86_92 fd_x_55_257 ?_
      refine sg_iload_n f_86_95 rfl ?_
      refine sg_aaload a f_86_96 rfl (sx_rs a ha).1 (by omega) ?_
      refine sg_callv_i f_86_97 my_86_60 mr_60 rfl (Nat.le_of_ble_eq_true rfl) (Nat.le_of_ble_eq_true rfl) sh_x_1 (by decide) rfl (sx_60 hT (sx_rs a ha).2) ?_
      exact (sg_iret f_86_100 rk_86)
  · exact absurd c4 (by decide)
theorem sx_93_out {σ : sg_S} {k : Int32} (hk : sg_out k 4) : sg_D tx_H 93 0 [.ref 0, .int k] [] σ (some (.int (-1))) σ := by
  refine sg_iload_n f_93_0 rfl ?_
  refine sg_tsw_out 67 f_93_1 (sg_out_i hk rfl (by omega)) rfl ?_
  · refine sg_iconst (-1) f_93_67 ki_m1 ?_
    exact (sg_iret f_93_68 rk_93)
theorem sx_93_0 {σ : sg_S} : sg_D tx_H 93 0 [.ref 0, .int (nI 0)] [] σ (some (.int (σ.1 56 0))) σ := by
  refine sg_iload_n f_93_0 rfl ?_
  refine sg_tsw_in 32 0 f_93_1 rfl (by omega) (by omega) rfl rfl ?_
  · refine sg_aload_n f_93_32 rfl ?_
    refine sg_getf_r f_93_33 fd_x_0_710 ?_
    refine sg_getf_r f_93_36 fd_x_55_256 ?_
    refine sg_getf_j 0 f_93_39 fd_x_56_320 rfl ?_
    exact (sg_iret f_93_42 rk_93)
theorem sx_93_1 {σ : sg_S} : sg_D tx_H 93 0 [.ref 0, .int (nI 1)] [] σ (some (.int (σ.1 158 2))) σ := by
  refine sg_iload_n f_93_0 rfl ?_
  refine sg_tsw_in 43 1 f_93_1 rfl (by omega) (by omega) rfl rfl ?_
  · refine sg_aload_n f_93_43 rfl ?_
    refine sg_getf_r f_93_44 fd_x_0_714 ?_
    refine sg_getf_j 2 f_93_47 fd_x_158_194 rfl ?_
    exact (sg_iret f_93_50 rk_93)
theorem sx_93_2 {σ : sg_S} : sg_D tx_H 93 0 [.ref 0, .int (nI 2)] [] σ (some (.int (σ.1 46 1))) σ := by
  refine sg_iload_n f_93_0 rfl ?_
  refine sg_tsw_in 51 2 f_93_1 rfl (by omega) (by omega) rfl rfl ?_
  · refine sg_aload_n f_93_51 rfl ?_
    refine sg_getf_r f_93_52 fd_x_0_707 ?_
    refine sg_getf_j 1 f_93_55 fd_x_46_385 rfl ?_
    exact (sg_iret f_93_58 rk_93)
theorem sx_93_3 {σ : sg_S} : sg_D tx_H 93 0 [.ref 0, .int (nI 3)] [] σ (some (.int (σ.1 66 2))) σ := by
  refine sg_iload_n f_93_0 rfl ?_
  refine sg_tsw_in 59 3 f_93_1 rfl (by omega) (by omega) rfl rfl ?_
  · refine sg_aload_n f_93_59 rfl ?_
    refine sg_getf_r f_93_60 fd_x_0_711 ?_
    refine sg_getf_j 2 f_93_63 fd_x_66_130 rfl ?_
    exact (sg_iret f_93_66 rk_93)
