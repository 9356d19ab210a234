/-! what the words say of classes and methods -/
def ab_mok (mid : Nat) : Bool := match ab_PL.getD mid (0, 0, 0, 0) with
  | (p1, p2, p3, p4) => decide (lw_tbl[p1]? = some (.code (ab_YM mid) (ab_BM mid) (ab_MT.getD mid (0, 0, 0, 0, 0, 0, 0)).2.2.2.1 (ab_RT (ab_MT.getD mid (0, 0, 0, 0, 0, 0, 0)).2.2.2.2.1)))
    && (match (ab_MT.getD mid (0, 0, 0, 0, 0, 0, 0)).2.1 with
      | 0 => decide (lw_tbl[p2]? = some (.instanceMethod (ab_YM mid))) && decide (lw_tbl[p3]? = some (.selects (ab_YM mid).cls (ab_YM mid) (ab_YM mid)))
      | 1 => decide (lw_tbl[p2]? = some (.static (ab_YM mid)))
      | _ => decide (lw_tbl[p2]? = some (.instanceMethod (ab_YM mid))) && decide ((ab_YM mid).name = "<init>"))
    && decide (lw_tbl[p4]? = some (.initialized (ab_YM mid).cls)) && decide ((ab_YM mid).cls = ab_RC (ab_MT.getD mid (0, 0, 0, 0, 0, 0, 0)).1) && plainName (ab_YM mid).cls
    && decide ((ab_YM mid).cls ≠ "java/lang/invoke/MethodHandle") && decide ((ab_YM mid).cls ≠ "java/lang/invoke/VarHandle")
    && decide ((parseMethodDescriptor (ab_YM mid).desc).map (fun d => d.parameters.length) = some (ab_MT.getD mid (0, 0, 0, 0, 0, 0, 0)).2.2.1)
set_option maxRecDepth 100000 in
theorem mk_0 : ab_mok 0 = true := by decide +kernel
set_option maxRecDepth 100000 in
theorem mk_1 : ab_mok 1 = true := by decide +kernel
set_option maxRecDepth 100000 in
theorem mk_2 : ab_mok 2 = true := by decide +kernel
set_option maxRecDepth 100000 in
theorem mk_3 : ab_mok 3 = true := by decide +kernel
set_option maxRecDepth 100000 in
theorem mk_4 : ab_mok 4 = true := by decide +kernel
set_option maxRecDepth 100000 in
theorem mk_5 : ab_mok 5 = true := by decide +kernel
set_option maxRecDepth 100000 in
theorem mk_6 : ab_mok 6 = true := by decide +kernel
set_option maxRecDepth 100000 in
theorem mk_7 : ab_mok 7 = true := by decide +kernel
set_option maxRecDepth 100000 in
theorem mk_8 : ab_mok 8 = true := by decide +kernel
set_option maxRecDepth 100000 in
theorem mk_9 : ab_mok 9 = true := by decide +kernel
set_option maxRecDepth 100000 in
theorem mk_10 : ab_mok 10 = true := by decide +kernel
set_option maxRecDepth 100000 in
theorem mk_11 : ab_mok 11 = true := by decide +kernel
set_option maxRecDepth 100000 in
theorem mk_12 : ab_mok 12 = true := by decide +kernel
set_option maxRecDepth 100000 in
theorem mk_13 : ab_mok 13 = true := by decide +kernel
set_option maxRecDepth 100000 in
theorem mk_14 : ab_mok 14 = true := by decide +kernel
set_option maxRecDepth 100000 in
theorem mk_15 : ab_mok 15 = true := by decide +kernel
set_option maxRecDepth 100000 in
theorem mk_16 : ab_mok 16 = true := by decide +kernel
set_option maxRecDepth 100000 in
theorem mk_17 : ab_mok 17 = true := by decide +kernel
set_option maxRecDepth 100000 in
theorem mk_18 : ab_mok 18 = true := by decide +kernel
set_option maxRecDepth 100000 in
theorem mk_19 : ab_mok 19 = true := by decide +kernel
set_option maxRecDepth 100000 in
theorem mk_20 : ab_mok 20 = true := by decide +kernel
set_option maxRecDepth 100000 in
theorem mk_21 : ab_mok 21 = true := by decide +kernel
set_option maxRecDepth 100000 in
theorem mk_22 : ab_mok 22 = true := by decide +kernel
set_option maxRecDepth 100000 in
theorem mk_23 : ab_mok 23 = true := by decide +kernel
set_option maxRecDepth 100000 in
theorem mk_24 : ab_mok 24 = true := by decide +kernel
set_option maxRecDepth 100000 in
theorem mk_25 : ab_mok 25 = true := by decide +kernel
set_option maxRecDepth 100000 in
theorem mk_26 : ab_mok 26 = true := by decide +kernel
set_option maxRecDepth 100000 in
theorem mk_27 : ab_mok 27 = true := by decide +kernel
set_option maxRecDepth 100000 in
theorem mk_28 : ab_mok 28 = true := by decide +kernel
set_option maxRecDepth 100000 in
theorem mk_29 : ab_mok 29 = true := by decide +kernel
set_option maxRecDepth 100000 in
theorem mk_30 : ab_mok 30 = true := by decide +kernel
set_option maxRecDepth 100000 in
theorem mk_31 : ab_mok 31 = true := by decide +kernel
set_option maxRecDepth 100000 in
theorem mk_32 : ab_mok 32 = true := by decide +kernel
set_option maxRecDepth 100000 in
theorem mk_33 : ab_mok 33 = true := by decide +kernel
set_option maxRecDepth 100000 in
theorem mk_34 : ab_mok 34 = true := by decide +kernel
set_option maxRecDepth 100000 in
theorem mk_35 : ab_mok 35 = true := by decide +kernel
set_option maxRecDepth 100000 in
theorem mk_36 : ab_mok 36 = true := by decide +kernel
set_option maxRecDepth 100000 in
theorem mk_37 : ab_mok 37 = true := by decide +kernel
set_option maxRecDepth 100000 in
theorem mk_38 : ab_mok 38 = true := by decide +kernel
set_option maxRecDepth 100000 in
theorem mk_39 : ab_mok 39 = true := by decide +kernel
set_option maxRecDepth 100000 in
theorem mk_40 : ab_mok 40 = true := by decide +kernel
set_option maxRecDepth 100000 in
theorem mk_41 : ab_mok 41 = true := by decide +kernel
set_option maxRecDepth 100000 in
theorem mk_42 : ab_mok 42 = true := by decide +kernel
set_option maxRecDepth 100000 in
theorem mk_43 : ab_mok 43 = true := by decide +kernel
set_option maxRecDepth 100000 in
theorem mk_44 : ab_mok 44 = true := by decide +kernel
set_option maxRecDepth 100000 in
theorem mk_45 : ab_mok 45 = true := by decide +kernel
set_option maxRecDepth 100000 in
theorem mk_46 : ab_mok 46 = true := by decide +kernel
set_option maxRecDepth 100000 in
theorem mk_47 : ab_mok 47 = true := by decide +kernel
set_option maxRecDepth 100000 in
theorem mk_48 : ab_mok 48 = true := by decide +kernel
set_option maxRecDepth 100000 in
theorem mk_49 : ab_mok 49 = true := by decide +kernel
set_option maxRecDepth 100000 in
theorem mk_50 : ab_mok 50 = true := by decide +kernel
set_option maxRecDepth 100000 in
theorem mk_51 : ab_mok 51 = true := by decide +kernel
set_option maxRecDepth 100000 in
theorem mk_52 : ab_mok 52 = true := by decide +kernel
set_option maxRecDepth 100000 in
theorem mk_53 : ab_mok 53 = true := by decide +kernel
set_option maxRecDepth 100000 in
theorem mk_54 : ab_mok 54 = true := by decide +kernel
set_option maxRecDepth 100000 in
theorem mk_55 : ab_mok 55 = true := by decide +kernel
set_option maxRecDepth 100000 in
theorem mk_56 : ab_mok 56 = true := by decide +kernel
set_option maxRecDepth 100000 in
theorem mk_57 : ab_mok 57 = true := by decide +kernel
set_option maxRecDepth 100000 in
theorem mk_58 : ab_mok 58 = true := by decide +kernel
set_option maxRecDepth 100000 in
theorem mk_59 : ab_mok 59 = true := by decide +kernel
set_option maxRecDepth 100000 in
theorem mk_60 : ab_mok 60 = true := by decide +kernel
set_option maxRecDepth 100000 in
theorem mk_61 : ab_mok 61 = true := by decide +kernel
set_option maxRecDepth 100000 in
theorem mk_62 : ab_mok 62 = true := by decide +kernel
set_option maxRecDepth 100000 in
theorem mk_63 : ab_mok 63 = true := by decide +kernel
set_option maxRecDepth 100000 in
theorem mk_64 : ab_mok 64 = true := by decide +kernel
set_option maxRecDepth 100000 in
theorem mk_65 : ab_mok 65 = true := by decide +kernel
set_option maxRecDepth 100000 in
theorem mk_66 : ab_mok 66 = true := by decide +kernel
set_option maxRecDepth 100000 in
theorem mk_67 : ab_mok 67 = true := by decide +kernel
set_option maxRecDepth 100000 in
theorem mk_68 : ab_mok 68 = true := by decide +kernel
set_option maxRecDepth 100000 in
theorem mk_69 : ab_mok 69 = true := by decide +kernel
set_option maxRecDepth 100000 in
theorem mk_70 : ab_mok 70 = true := by decide +kernel
set_option maxRecDepth 100000 in
theorem mk_71 : ab_mok 71 = true := by decide +kernel
set_option maxRecDepth 100000 in
theorem mk_72 : ab_mok 72 = true := by decide +kernel
set_option maxRecDepth 100000 in
theorem mk_73 : ab_mok 73 = true := by decide +kernel
set_option maxRecDepth 100000 in
theorem mk_74 : ab_mok 74 = true := by decide +kernel
set_option maxRecDepth 100000 in
theorem mk_75 : ab_mok 75 = true := by decide +kernel
set_option maxRecDepth 100000 in
theorem mk_76 : ab_mok 76 = true := by decide +kernel
set_option maxRecDepth 100000 in
theorem mk_77 : ab_mok 77 = true := by decide +kernel
set_option maxRecDepth 100000 in
theorem mk_78 : ab_mok 78 = true := by decide +kernel
set_option maxRecDepth 100000 in
theorem mk_79 : ab_mok 79 = true := by decide +kernel
set_option maxRecDepth 100000 in
theorem mk_80 : ab_mok 80 = true := by decide +kernel
set_option maxRecDepth 100000 in
theorem mk_81 : ab_mok 81 = true := by decide +kernel
set_option maxRecDepth 100000 in
theorem mk_82 : ab_mok 82 = true := by decide +kernel
set_option maxRecDepth 100000 in
theorem mk_83 : ab_mok 83 = true := by decide +kernel
set_option maxRecDepth 100000 in
theorem mk_84 : ab_mok 84 = true := by decide +kernel
set_option maxRecDepth 100000 in
theorem mk_85 : ab_mok 85 = true := by decide +kernel
set_option maxRecDepth 100000 in
theorem mk_86 : ab_mok 86 = true := by decide +kernel
set_option maxRecDepth 100000 in
theorem mk_87 : ab_mok 87 = true := by decide +kernel
set_option maxRecDepth 100000 in
theorem mk_88 : ab_mok 88 = true := by decide +kernel
set_option maxRecDepth 100000 in
theorem mk_89 : ab_mok 89 = true := by decide +kernel
set_option maxRecDepth 100000 in
theorem mk_90 : ab_mok 90 = true := by decide +kernel
set_option maxRecDepth 100000 in
theorem mk_91 : ab_mok 91 = true := by decide +kernel
set_option maxRecDepth 100000 in
theorem mk_92 : ab_mok 92 = true := by decide +kernel
set_option maxRecDepth 100000 in
theorem mk_93 : ab_mok 93 = true := by decide +kernel
set_option maxRecDepth 100000 in
theorem mk_94 : ab_mok 94 = true := by decide +kernel
set_option maxRecDepth 100000 in
theorem mk_95 : ab_mok 95 = true := by decide +kernel
set_option maxRecDepth 100000 in
theorem mk_96 : ab_mok 96 = true := by decide +kernel
set_option maxRecDepth 100000 in
theorem mk_97 : ab_mok 97 = true := by decide +kernel
set_option maxRecDepth 100000 in
theorem mk_98 : ab_mok 98 = true := by decide +kernel
set_option maxRecDepth 100000 in
theorem mk_99 : ab_mok 99 = true := by decide +kernel
set_option maxRecDepth 100000 in
theorem mk_100 : ab_mok 100 = true := by decide +kernel
set_option maxRecDepth 100000 in
theorem mk_101 : ab_mok 101 = true := by decide +kernel
set_option maxRecDepth 100000 in
theorem mk_102 : ab_mok 102 = true := by decide +kernel
set_option maxRecDepth 100000 in
theorem mk_103 : ab_mok 103 = true := by decide +kernel
set_option maxRecDepth 100000 in
theorem mk_104 : ab_mok 104 = true := by decide +kernel
set_option maxRecDepth 100000 in
theorem mk_105 : ab_mok 105 = true := by decide +kernel
set_option maxRecDepth 100000 in
theorem mk_106 : ab_mok 106 = true := by decide +kernel
set_option maxRecDepth 100000 in
theorem mk_107 : ab_mok 107 = true := by decide +kernel
set_option maxRecDepth 100000 in
theorem mk_108 : ab_mok 108 = true := by decide +kernel
set_option maxRecDepth 100000 in
theorem mk_109 : ab_mok 109 = true := by decide +kernel
set_option maxRecDepth 100000 in
theorem mk_110 : ab_mok 110 = true := by decide +kernel
set_option maxRecDepth 100000 in
theorem mk_111 : ab_mok 111 = true := by decide +kernel
set_option maxRecDepth 100000 in
theorem mk_112 : ab_mok 112 = true := by decide +kernel
set_option maxRecDepth 100000 in
theorem mk_113 : ab_mok 113 = true := by decide +kernel
set_option maxRecDepth 100000 in
theorem mk_114 : ab_mok 114 = true := by decide +kernel
set_option maxRecDepth 100000 in
theorem mk_115 : ab_mok 115 = true := by decide +kernel
set_option maxRecDepth 100000 in
theorem mk_116 : ab_mok 116 = true := by decide +kernel
set_option maxRecDepth 100000 in
theorem mk_117 : ab_mok 117 = true := by decide +kernel
set_option maxRecDepth 100000 in
theorem mk_118 : ab_mok 118 = true := by decide +kernel
set_option maxRecDepth 100000 in
theorem mk_119 : ab_mok 119 = true := by decide +kernel
set_option maxRecDepth 100000 in
theorem mk_120 : ab_mok 120 = true := by decide +kernel
set_option maxRecDepth 100000 in
theorem mk_121 : ab_mok 121 = true := by decide +kernel
set_option maxRecDepth 100000 in
theorem mk_122 : ab_mok 122 = true := by decide +kernel
set_option maxRecDepth 100000 in
theorem mk_123 : ab_mok 123 = true := by decide +kernel
set_option maxRecDepth 100000 in
theorem mk_124 : ab_mok 124 = true := by decide +kernel
set_option maxRecDepth 100000 in
theorem mk_125 : ab_mok 125 = true := by decide +kernel
set_option maxRecDepth 100000 in
theorem mk_126 : ab_mok 126 = true := by decide +kernel
set_option maxRecDepth 100000 in
theorem mk_127 : ab_mok 127 = true := by decide +kernel
set_option maxRecDepth 100000 in
theorem mk_128 : ab_mok 128 = true := by decide +kernel
set_option maxRecDepth 100000 in
theorem mk_129 : ab_mok 129 = true := by decide +kernel
set_option maxRecDepth 100000 in
theorem mk_130 : ab_mok 130 = true := by decide +kernel
set_option maxRecDepth 100000 in
theorem mk_131 : ab_mok 131 = true := by decide +kernel
set_option maxRecDepth 100000 in
theorem mk_132 : ab_mok 132 = true := by decide +kernel
set_option maxRecDepth 100000 in
theorem mk_133 : ab_mok 133 = true := by decide +kernel
set_option maxRecDepth 100000 in
theorem mk_134 : ab_mok 134 = true := by decide +kernel
set_option maxRecDepth 100000 in
theorem mk_135 : ab_mok 135 = true := by decide +kernel
set_option maxRecDepth 100000 in
theorem mk_136 : ab_mok 136 = true := by decide +kernel
set_option maxRecDepth 100000 in
theorem mk_137 : ab_mok 137 = true := by decide +kernel
set_option maxRecDepth 100000 in
theorem mk_138 : ab_mok 138 = true := by decide +kernel
set_option maxRecDepth 100000 in
theorem mk_139 : ab_mok 139 = true := by decide +kernel
set_option maxRecDepth 100000 in
theorem mk_140 : ab_mok 140 = true := by decide +kernel
set_option maxRecDepth 100000 in
theorem mk_141 : ab_mok 141 = true := by decide +kernel
set_option maxRecDepth 100000 in
theorem mk_142 : ab_mok 142 = true := by decide +kernel
set_option maxRecDepth 100000 in
theorem mk_143 : ab_mok 143 = true := by decide +kernel
set_option maxRecDepth 100000 in
theorem mk_144 : ab_mok 144 = true := by decide +kernel
set_option maxRecDepth 100000 in
theorem mk_145 : ab_mok 145 = true := by decide +kernel
set_option maxRecDepth 100000 in
theorem mk_146 : ab_mok 146 = true := by decide +kernel
set_option maxRecDepth 100000 in
theorem mk_147 : ab_mok 147 = true := by decide +kernel
set_option maxRecDepth 100000 in
theorem mk_148 : ab_mok 148 = true := by decide +kernel
set_option maxRecDepth 100000 in
theorem mk_149 : ab_mok 149 = true := by decide +kernel
set_option maxRecDepth 100000 in
theorem mk_150 : ab_mok 150 = true := by decide +kernel
set_option maxRecDepth 100000 in
theorem mk_151 : ab_mok 151 = true := by decide +kernel
set_option maxRecDepth 100000 in
theorem mk_152 : ab_mok 152 = true := by decide +kernel
set_option maxRecDepth 100000 in
theorem mk_153 : ab_mok 153 = true := by decide +kernel
set_option maxRecDepth 100000 in
theorem mk_154 : ab_mok 154 = true := by decide +kernel
set_option maxRecDepth 100000 in
theorem mk_155 : ab_mok 155 = true := by decide +kernel
set_option maxRecDepth 100000 in
theorem mk_156 : ab_mok 156 = true := by decide +kernel
theorem ab_MR_eq (mid : Nat) : ab_MR mid = ab_MT.getD mid (0, 0, 0, 0, 0, 0, 0) := by
  unfold ab_MR
  rw [ab_nth_eq, List.getD_eq_getElem?_getD]
  cases ab_MT[mid]? <;> rfl
theorem ab_mk {mid : Nat} (h : mid < 157) : ab_mok mid = true := by
  match mid, h with
  | 0, _ => exact mk_0
  | 1, _ => exact mk_1
  | 2, _ => exact mk_2
  | 3, _ => exact mk_3
  | 4, _ => exact mk_4
  | 5, _ => exact mk_5
  | 6, _ => exact mk_6
  | 7, _ => exact mk_7
  | 8, _ => exact mk_8
  | 9, _ => exact mk_9
  | 10, _ => exact mk_10
  | 11, _ => exact mk_11
  | 12, _ => exact mk_12
  | 13, _ => exact mk_13
  | 14, _ => exact mk_14
  | 15, _ => exact mk_15
  | 16, _ => exact mk_16
  | 17, _ => exact mk_17
  | 18, _ => exact mk_18
  | 19, _ => exact mk_19
  | 20, _ => exact mk_20
  | 21, _ => exact mk_21
  | 22, _ => exact mk_22
  | 23, _ => exact mk_23
  | 24, _ => exact mk_24
  | 25, _ => exact mk_25
  | 26, _ => exact mk_26
  | 27, _ => exact mk_27
  | 28, _ => exact mk_28
  | 29, _ => exact mk_29
  | 30, _ => exact mk_30
  | 31, _ => exact mk_31
  | 32, _ => exact mk_32
  | 33, _ => exact mk_33
  | 34, _ => exact mk_34
  | 35, _ => exact mk_35
  | 36, _ => exact mk_36
  | 37, _ => exact mk_37
  | 38, _ => exact mk_38
  | 39, _ => exact mk_39
  | 40, _ => exact mk_40
  | 41, _ => exact mk_41
  | 42, _ => exact mk_42
  | 43, _ => exact mk_43
  | 44, _ => exact mk_44
  | 45, _ => exact mk_45
  | 46, _ => exact mk_46
  | 47, _ => exact mk_47
  | 48, _ => exact mk_48
  | 49, _ => exact mk_49
  | 50, _ => exact mk_50
  | 51, _ => exact mk_51
  | 52, _ => exact mk_52
  | 53, _ => exact mk_53
  | 54, _ => exact mk_54
  | 55, _ => exact mk_55
  | 56, _ => exact mk_56
  | 57, _ => exact mk_57
  | 58, _ => exact mk_58
  | 59, _ => exact mk_59
  | 60, _ => exact mk_60
  | 61, _ => exact mk_61
  | 62, _ => exact mk_62
  | 63, _ => exact mk_63
  | 64, _ => exact mk_64
  | 65, _ => exact mk_65
  | 66, _ => exact mk_66
  | 67, _ => exact mk_67
  | 68, _ => exact mk_68
  | 69, _ => exact mk_69
  | 70, _ => exact mk_70
  | 71, _ => exact mk_71
  | 72, _ => exact mk_72
  | 73, _ => exact mk_73
  | 74, _ => exact mk_74
  | 75, _ => exact mk_75
  | 76, _ => exact mk_76
  | 77, _ => exact mk_77
  | 78, _ => exact mk_78
  | 79, _ => exact mk_79
  | 80, _ => exact mk_80
  | 81, _ => exact mk_81
  | 82, _ => exact mk_82
  | 83, _ => exact mk_83
  | 84, _ => exact mk_84
  | 85, _ => exact mk_85
  | 86, _ => exact mk_86
  | 87, _ => exact mk_87
  | 88, _ => exact mk_88
  | 89, _ => exact mk_89
  | 90, _ => exact mk_90
  | 91, _ => exact mk_91
  | 92, _ => exact mk_92
  | 93, _ => exact mk_93
  | 94, _ => exact mk_94
  | 95, _ => exact mk_95
  | 96, _ => exact mk_96
  | 97, _ => exact mk_97
  | 98, _ => exact mk_98
  | 99, _ => exact mk_99
  | 100, _ => exact mk_100
  | 101, _ => exact mk_101
  | 102, _ => exact mk_102
  | 103, _ => exact mk_103
  | 104, _ => exact mk_104
  | 105, _ => exact mk_105
  | 106, _ => exact mk_106
  | 107, _ => exact mk_107
  | 108, _ => exact mk_108
  | 109, _ => exact mk_109
  | 110, _ => exact mk_110
  | 111, _ => exact mk_111
  | 112, _ => exact mk_112
  | 113, _ => exact mk_113
  | 114, _ => exact mk_114
  | 115, _ => exact mk_115
  | 116, _ => exact mk_116
  | 117, _ => exact mk_117
  | 118, _ => exact mk_118
  | 119, _ => exact mk_119
  | 120, _ => exact mk_120
  | 121, _ => exact mk_121
  | 122, _ => exact mk_122
  | 123, _ => exact mk_123
  | 124, _ => exact mk_124
  | 125, _ => exact mk_125
  | 126, _ => exact mk_126
  | 127, _ => exact mk_127
  | 128, _ => exact mk_128
  | 129, _ => exact mk_129
  | 130, _ => exact mk_130
  | 131, _ => exact mk_131
  | 132, _ => exact mk_132
  | 133, _ => exact mk_133
  | 134, _ => exact mk_134
  | 135, _ => exact mk_135
  | 136, _ => exact mk_136
  | 137, _ => exact mk_137
  | 138, _ => exact mk_138
  | 139, _ => exact mk_139
  | 140, _ => exact mk_140
  | 141, _ => exact mk_141
  | 142, _ => exact mk_142
  | 143, _ => exact mk_143
  | 144, _ => exact mk_144
  | 145, _ => exact mk_145
  | 146, _ => exact mk_146
  | 147, _ => exact mk_147
  | 148, _ => exact mk_148
  | 149, _ => exact mk_149
  | 150, _ => exact mk_150
  | 151, _ => exact mk_151
  | 152, _ => exact mk_152
  | 153, _ => exact mk_153
  | 154, _ => exact mk_154
  | 155, _ => exact mk_155
  | 156, _ => exact mk_156
  | n + 157, h => omega
theorem ab_in {p : Nat} {w : Cond} (h : lw_tbl[p]? = some w) (hg : goodWord w = true) : w ∈ ab_TG := List.mem_filter.mpr ⟨List.mem_of_getElem? h, hg⟩
/-- the facts of a method -/
theorem ab_mf {mid : Nat} (h : mid < 157) : Cond.code (ab_YM mid) (ab_BM mid) (ab_MR mid).2.2.2.1 (ab_RT (ab_MR mid).2.2.2.2.1) ∈ ab_TG ∧ Cond.initialized (ab_YM mid).cls ∈ ab_TG ∧ (ab_YM mid).cls = ab_RC (ab_MR mid).1 ∧ plainName (ab_YM mid).cls = true ∧ ((ab_YM mid).cls ≠ "java/lang/invoke/MethodHandle" ∧ (ab_YM mid).cls ≠ "java/lang/invoke/VarHandle" ∧ (parseMethodDescriptor (ab_YM mid).desc).map (fun d => d.parameters.length) = some (ab_MR mid).2.2.1) ∧
    ((ab_MR mid).2.1 = 0 → Cond.instanceMethod (ab_YM mid) ∈ ab_TG ∧ Cond.selects (ab_YM mid).cls (ab_YM mid) (ab_YM mid) ∈ ab_TG) ∧ ((ab_MR mid).2.1 = 1 → Cond.static (ab_YM mid) ∈ ab_TG) ∧ ((ab_MR mid).2.1 = 2 → Cond.instanceMethod (ab_YM mid) ∈ ab_TG ∧ (ab_YM mid).name = "<init>") := by
  have hk := ab_mk h
  rw [ab_MR_eq]
  unfold ab_mok at hk
  split at hk
  simp only [Bool.and_eq_true, decide_eq_true_eq] at hk
  obtain ⟨⟨⟨⟨⟨⟨⟨h1, h2⟩, h3⟩, h4⟩, h5⟩, h6⟩, h7⟩, h8⟩ := hk
  refine ⟨ab_in h1 rfl, ab_in h3 rfl, h4, h5, ⟨h6, h7, h8⟩, fun e => ?_, fun e => ?_, fun e => ?_⟩
  · rw [e] at h2
    simp only [Bool.and_eq_true, decide_eq_true_eq] at h2
    exact ⟨ab_in h2.1 rfl, ab_in h2.2 rfl⟩
  · rw [e] at h2
    simp only [decide_eq_true_eq] at h2
    exact ab_in h2 rfl
  · rw [e] at h2
    simp only [Bool.and_eq_true, decide_eq_true_eq] at h2
    exact ⟨ab_in h2.1 rfl, h2.2⟩
/-! classes -/
def ab_clp (C : String) (T : u_T) (N ci : Nat) (ty : Nat → FieldType) : Prop := (∀ w ∈ u_ws C T N, w ∈ ab_TG) ∧ (∀ k, k < N → parseFieldDescriptor (T k).2.2.1 = some (ty k)) ∧ (∀ a, a < N → ∀ b, b < N → a ≠ b → (T a).2.1 ≠ (T b).2.1) ∧ (∀ k, k < N → (T k).1 = C) ∧ C = ab_RC ci ∧ Cond.instantiable C N ∈ ab_TG ∧ Cond.initialized C ∈ ab_TG ∧
  (∀ fs, ab_DF[ci]? = some fs → fs.length = N ∧ ∀ j, j < N → defaultValue (ty j) = fs.getD j .null)
theorem ab_ws_in {C : String} {T : u_T} {N : Nat} (ps : List Nat) (h : u_ws C T N = ps.filterMap (fun i => lw_tbl[i]?)) (hg : (u_ws C T N).all goodWord = true) : ∀ w ∈ u_ws C T N, w ∈ ab_TG := by
  intro w hw
  have h1 := List.all_eq_true.mp hg w hw
  rw [h] at hw
  obtain ⟨i, -, hi⟩ := List.mem_filterMap.mp hw
  exact ab_in hi h1
set_option maxRecDepth 100000 in
theorem cp_0 : ab_clp RX0 TX0 5 0 tyX0 := ⟨ab_ws_in [186, 188, 190, 192, 194] (by decide +kernel) (by decide +kernel), tyX0_ok, nmX0, by decide +kernel, by decide +kernel, ab_in (p := 154) (by decide +kernel) rfl, ab_in (p := 51) (by decide +kernel) rfl, fun fs h => by cases h; exact ⟨rfl, by decide +kernel⟩⟩
set_option maxRecDepth 100000 in
theorem cp_1 : ab_clp RX1 TX1 5 1 tyX1 := ⟨ab_ws_in [306, 308, 310, 312, 314] (by decide +kernel) (by decide +kernel), tyX1_ok, nmX1, by decide +kernel, by decide +kernel, ab_in (p := 251) (by decide +kernel) rfl, ab_in (p := 55) (by decide +kernel) rfl, fun fs h => by cases h; exact ⟨rfl, by decide +kernel⟩⟩
set_option maxRecDepth 100000 in
theorem cp_2 : ab_clp RX2 TX2 3 2 tyX2 := ⟨ab_ws_in [348, 350, 352] (by decide +kernel) (by decide +kernel), tyX2_ok, nmX2, by decide +kernel, by decide +kernel, ab_in (p := 336) (by decide +kernel) rfl, ab_in (p := 59) (by decide +kernel) rfl, fun fs h => by cases h; exact ⟨rfl, by decide +kernel⟩⟩
set_option maxRecDepth 100000 in
theorem cp_3 : ab_clp RX3 TX3 3 3 tyX3 := ⟨ab_ws_in [365, 367, 369] (by decide +kernel) (by decide +kernel), tyX3_ok, nmX3, by decide +kernel, by decide +kernel, ab_in (p := 356) (by decide +kernel) rfl, ab_in (p := 60) (by decide +kernel) rfl, fun fs h => by cases h; exact ⟨rfl, by decide +kernel⟩⟩
set_option maxRecDepth 100000 in
theorem cp_4 : ab_clp RX4 TX4 2 4 tyX4 := ⟨ab_ws_in [330, 332] (by decide +kernel) (by decide +kernel), tyX4_ok, nmX4, by decide +kernel, by decide +kernel, ab_in (p := 318) (by decide +kernel) rfl, ab_in (p := 58) (by decide +kernel) rfl, fun fs h => by cases h; exact ⟨rfl, by decide +kernel⟩⟩
set_option maxRecDepth 100000 in
theorem cp_5 : ab_clp RX5 TX5 3 5 tyX5 := ⟨ab_ws_in [268, 270, 272] (by decide +kernel) (by decide +kernel), tyX5_ok, nmX5, by decide +kernel, by decide +kernel, ab_in (p := 257) (by decide +kernel) rfl, ab_in (p := 56) (by decide +kernel) rfl, fun fs h => by cases h; exact ⟨rfl, by decide +kernel⟩⟩
set_option maxRecDepth 100000 in
theorem cp_6 : ab_clp RX6 TX6 2 6 tyX6 := ⟨ab_ws_in [223, 225] (by decide +kernel) (by decide +kernel), tyX6_ok, nmX6, by decide +kernel, by decide +kernel, ab_in (p := 213) (by decide +kernel) rfl, ab_in (p := 53) (by decide +kernel) rfl, fun fs h => by cases h; exact ⟨rfl, by decide +kernel⟩⟩
set_option maxRecDepth 100000 in
theorem cp_7 : ab_clp RX7 TX7 5 7 tyX7 := ⟨ab_ws_in [289, 291, 293, 295, 297] (by decide +kernel) (by decide +kernel), tyX7_ok, nmX7, by decide +kernel, by decide +kernel, ab_in (p := 276) (by decide +kernel) rfl, ab_in (p := 57) (by decide +kernel) rfl, fun fs h => by cases h; exact ⟨rfl, by decide +kernel⟩⟩
set_option maxRecDepth 100000 in
theorem cp_8 : ab_clp RX8 TX8 5 8 tyX8 := ⟨ab_ws_in [239, 241, 243, 245, 247] (by decide +kernel) (by decide +kernel), tyX8_ok, nmX8, by decide +kernel, by decide +kernel, ab_in (p := 229) (by decide +kernel) rfl, ab_in (p := 54) (by decide +kernel) rfl, fun fs h => by cases h; exact ⟨rfl, by decide +kernel⟩⟩
set_option maxRecDepth 100000 in
theorem cp_9 : ab_clp RX9 TX9 8 9 tyX9 := ⟨ab_ws_in [134, 136, 138, 140, 142, 144, 146, 148] (by decide +kernel) (by decide +kernel), tyX9_ok, nmX9, by decide +kernel, by decide +kernel, ab_in (p := 72) (by decide +kernel) rfl, ab_in (p := 48) (by decide +kernel) rfl, fun fs h => by cases h; exact ⟨rfl, by decide +kernel⟩⟩
set_option maxRecDepth 100000 in
theorem cp_10 : ab_clp RX10 TX10 2 10 tyX10 := ⟨ab_ws_in [207, 209] (by decide +kernel) (by decide +kernel), tyX10_ok, nmX10, by decide +kernel, by decide +kernel, ab_in (p := 198) (by decide +kernel) rfl, ab_in (p := 52) (by decide +kernel) rfl, fun fs h => by cases h; exact ⟨rfl, by decide +kernel⟩⟩
set_option maxRecDepth 100000 in
theorem cp_11 : ab_clp RX11 TX11 12 11 tyX11 := ⟨ab_ws_in [385, 387, 389, 391, 393, 395, 397, 399, 401, 403, 405, 407] (by decide +kernel) (by decide +kernel), tyX11_ok, nmX11, by decide +kernel, by decide +kernel, ab_in (p := 64) (by decide +kernel) rfl, ab_in (p := 47) (by decide +kernel) rfl, fun fs h => by cases h; exact ⟨rfl, by decide +kernel⟩⟩
set_option maxRecDepth 100000 in
theorem cp_12 : ab_clp RX12 TX12 36 12 tyX12 := ⟨ab_ws_in [795, 797, 799, 801, 803, 805, 807, 809, 811, 813, 815, 817, 819, 821, 823, 825, 827, 829, 831, 833, 835, 837, 839, 841, 843, 845, 847, 849, 851, 853, 855, 857, 859, 861, 863, 865] (by decide +kernel) (by decide +kernel), tyX12_ok, nmX12, by decide +kernel, by decide +kernel, ab_in (p := 730) (by decide +kernel) rfl, ab_in (p := 61) (by decide +kernel) rfl, fun fs h => by cases h; exact ⟨rfl, by decide +kernel⟩⟩
theorem ab_cp {ci N : Nat} {C : String} {T : u_T} (h : ab_cl[ci]? = some (C, T, N)) : ∃ ty, ab_clp C T N ci ty := by
  match ci, h with
  | 0, h => cases h; exact ⟨_, cp_0⟩
  | 1, h => cases h; exact ⟨_, cp_1⟩
  | 2, h => cases h; exact ⟨_, cp_2⟩
  | 3, h => cases h; exact ⟨_, cp_3⟩
  | 4, h => cases h; exact ⟨_, cp_4⟩
  | 5, h => cases h; exact ⟨_, cp_5⟩
  | 6, h => cases h; exact ⟨_, cp_6⟩
  | 7, h => cases h; exact ⟨_, cp_7⟩
  | 8, h => cases h; exact ⟨_, cp_8⟩
  | 9, h => cases h; exact ⟨_, cp_9⟩
  | 10, h => cases h; exact ⟨_, cp_10⟩
  | 11, h => cases h; exact ⟨_, cp_11⟩
  | 12, h => cases h; exact ⟨_, cp_12⟩
  | n + 13, h => simp [ab_cl] at h
