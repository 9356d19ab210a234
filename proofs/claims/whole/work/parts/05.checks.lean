/-! the checks, a row a method -/
set_option maxRecDepth 100000 in
theorem ck_0 : ab_oka 0 cX0_init 0 cd_X0_init = true := by decide +kernel
set_option maxRecDepth 100000 in
theorem ck_1 : ab_oka 0 cX0_countPlaces 0 cd_X0_countPlaces = true := by decide +kernel
set_option maxRecDepth 100000 in
theorem ck_2 : ab_oka 0 cX0_cutTree 0 cd_X0_cutTree = true := by decide +kernel
set_option maxRecDepth 100000 in
theorem ck_3 : ab_oka 0 cX0_prune 0 cd_X0_prune = true := by decide +kernel
set_option maxRecDepth 100000 in
theorem ck_4 : ab_oka 0 cX0_pruneLikewise 0 cd_X0_pruneLikewise = true := by decide +kernel
set_option maxRecDepth 100000 in
theorem ck_5 : ab_oka 0 cX0_prunedAt 0 cd_X0_prunedAt = true := by decide +kernel
set_option maxRecDepth 100000 in
theorem ck_6 : ab_oka 0 cX0_howManyLeave 0 cd_X0_howManyLeave = true := by decide +kernel
set_option maxRecDepth 100000 in
theorem ck_7 : ab_oka 0 cX0_ofForest 0 cd_X0_ofForest = true := by decide +kernel
set_option maxRecDepth 100000 in
theorem ck_8 : ab_oka 0 cX0_together 0 cd_X0_together = true := by decide +kernel
set_option maxRecDepth 100000 in
theorem ck_9 : ab_oka 0 cX0_multiply 0 cd_X0_multiply = true := by decide +kernel
set_option maxRecDepth 100000 in
theorem ck_10 : ab_oka 0 cX0_invert 0 cd_X0_invert = true := by decide +kernel
set_option maxRecDepth 100000 in
theorem ck_11 : ab_oka 1 cX1_init 0 cd_X1_init = true := by decide +kernel
set_option maxRecDepth 100000 in
theorem ck_12 : ab_oka 1 cX1_read 0 cd_X1_read = true := by decide +kernel
set_option maxRecDepth 100000 in
theorem ck_13 : ab_oka 1 cX1_takesItem 0 cd_X1_takesItem = true := by decide +kernel
set_option maxRecDepth 100000 in
theorem ck_14 : ab_oka 1 cX1_takesStages 0 cd_X1_takesStages = true := by decide +kernel
set_option maxRecDepth 100000 in
theorem ck_15 : ab_oka 1 cX1_takesRow 0 cd_X1_takesRow = true := by decide +kernel
set_option maxRecDepth 100000 in
theorem ck_16 : ab_oka 1 cX1_takesColumn 0 cd_X1_takesColumn = true := by decide +kernel
set_option maxRecDepth 100000 in
theorem ck_17 : ab_oka 1 cX1_takesNumber 0 cd_X1_takesNumber = true := by decide +kernel
set_option maxRecDepth 100000 in
theorem ck_18 : ab_oka 1 cX1_takesEnd 0 cd_X1_takesEnd = true := by decide +kernel
set_option maxRecDepth 100000 in
theorem ck_19 : ab_oka 1 cX1_isSize 0 cd_X1_isSize = true := by decide +kernel
set_option maxRecDepth 100000 in
theorem ck_20 : ab_oka 2 cX2_init 0 cd_X2_init = true := by decide +kernel
set_option maxRecDepth 100000 in
theorem ck_21 : ab_oka 2 cX2_remember 0 cd_X2_remember = true := by decide +kernel
set_option maxRecDepth 100000 in
theorem ck_22 : ab_oka 2 cX2_recall 0 cd_X2_recall = true := by decide +kernel
set_option maxRecDepth 100000 in
theorem ck_23 : ab_oka 2 cX2_empty 0 cd_X2_empty = true := by decide +kernel
set_option maxRecDepth 100000 in
theorem ck_24 : ab_oka 3 cX3_init 0 cd_X3_init = true := by decide +kernel
set_option maxRecDepth 100000 in
theorem ck_25 : ab_oka 3 cX3_add 0 cd_X3_add = true := by decide +kernel
set_option maxRecDepth 100000 in
theorem ck_26 : ab_oka 3 cX3_empty 0 cd_X3_empty = true := by decide +kernel
set_option maxRecDepth 100000 in
theorem ck_27 : ab_oka 3 cX3_fit 0 cd_X3_fit = true := by decide +kernel
set_option maxRecDepth 100000 in
theorem ck_28 : ab_oka 4 cX4_init 0 cd_X4_init = true := by decide +kernel
set_option maxRecDepth 100000 in
theorem ck_29 : ab_oka 4 cX4_become 0 cd_X4_become = true := by decide +kernel
set_option maxRecDepth 100000 in
theorem ck_30 : ab_oka 5 cX5_init 0 cd_X5_init = true := by decide +kernel
set_option maxRecDepth 100000 in
theorem ck_31 : ab_oka 5 cX5_reset 0 cd_X5_reset = true := by decide +kernel
set_option maxRecDepth 100000 in
theorem ck_32 : ab_oka 5 cX5_become 0 cd_X5_become = true := by decide +kernel
set_option maxRecDepth 100000 in
theorem ck_33 : ab_oka 5 cX5_has 0 cd_X5_has = true := by decide +kernel
set_option maxRecDepth 100000 in
theorem ck_34 : ab_oka 5 cX5_get 0 cd_X5_get = true := by decide +kernel
set_option maxRecDepth 100000 in
theorem ck_35 : ab_oka 5 cX5_set 0 cd_X5_set = true := by decide +kernel
set_option maxRecDepth 100000 in
theorem ck_36 : ab_oka 6 cX6_init 0 cd_X6_init = true := by decide +kernel
set_option maxRecDepth 100000 in
theorem ck_37 : ab_oka 6 cX6_append 0 cd_X6_append = true := by decide +kernel
set_option maxRecDepth 100000 in
theorem ck_38 : ab_oka 6 cX6_empty 0 cd_X6_empty = true := by decide +kernel
set_option maxRecDepth 100000 in
theorem ck_39 : ab_oka 6 cX6_letterAt 0 cd_X6_letterAt = true := by decide +kernel
set_option maxRecDepth 100000 in
theorem ck_40 : ab_oka 7 cX7_init 0 cd_X7_init = true := by decide +kernel
set_option maxRecDepth 100000 in
theorem ck_41 : ab_oka 7 cX7_restart 0 cd_X7_restart = true := by decide +kernel
set_option maxRecDepth 100000 in
theorem ck_42 : ab_oka 7 cX7_advance 0 cd_X7_advance = true := by decide +kernel
set_option maxRecDepth 100000 in
theorem ck_43 : ab_oka 7 cX7_takeFigures 0 cd_X7_takeFigures = true := by decide +kernel
set_option maxRecDepth 100000 in
theorem ck_44 : ab_oka 7 cX7_isFigure 0 cd_X7_isFigure = true := by decide +kernel
set_option maxRecDepth 100000 in
theorem ck_45 : ab_oka 7 cX7_kindOf 0 cd_X7_kindOf = true := by decide +kernel
set_option maxRecDepth 100000 in
theorem ck_46 : ab_oka 8 cX8_init 0 cd_X8_init = true := by decide +kernel
set_option maxRecDepth 100000 in
theorem ck_47 : ab_oka 8 cX8_read 0 cd_X8_read = true := by decide +kernel
set_option maxRecDepth 100000 in
theorem ck_48 : ab_oka 8 cX8_isWhole 0 cd_X8_isWhole = true := by decide +kernel
set_option maxRecDepth 100000 in
theorem ck_49 : ab_oka 8 cX8_takes 0 cd_X8_takes = true := by decide +kernel
set_option maxRecDepth 100000 in
theorem ck_50 : ab_oka 9 cX9_init 0 cd_X9_init = true := by decide +kernel
set_option maxRecDepth 100000 in
theorem ck_51 : ab_oka 9 cX9_measure 0 cd_X9_measure = true := by decide +kernel
set_option maxRecDepth 100000 in
theorem ck_52 : ab_oka 9 cX9_findDensities 0 cd_X9_findDensities = true := by decide +kernel
set_option maxRecDepth 100000 in
theorem ck_53 : ab_oka 9 cX9_graftAtTheHead 0 cd_X9_graftAtTheHead = true := by decide +kernel
set_option maxRecDepth 100000 in
theorem ck_54 : ab_oka 9 cX9_graftFurtherOn 0 cd_X9_graftFurtherOn = true := by decide +kernel
set_option maxRecDepth 100000 in
theorem ck_55 : ab_oka 9 cX9_graftOrNone 0 cd_X9_graftOrNone = true := by decide +kernel
set_option maxRecDepth 100000 in
theorem ck_56 : ab_oka 9 cX9_childAt 0 cd_X9_childAt = true := by decide +kernel
set_option maxRecDepth 100000 in
theorem ck_57 : ab_oka 9 cX9_stretch 0 cd_X9_stretch = true := by decide +kernel
set_option maxRecDepth 100000 in
theorem ck_58 : ab_oka 9 cX9_firstUnlike 0 cd_X9_firstUnlike = true := by decide +kernel
set_option maxRecDepth 100000 in
theorem ck_59 : ab_oka 9 cX9_likeness 0 cd_X9_likeness = true := by decide +kernel
set_option maxRecDepth 100000 in
theorem ck_60 : ab_oka 9 cX9_firstBreak 0 cd_X9_firstBreak = true := by decide +kernel
set_option maxRecDepth 100000 in
theorem ck_61 : ab_oka 9 cX9_power 0 cd_X9_power = true := by decide +kernel
set_option maxRecDepth 100000 in
theorem ck_62 : ab_oka 10 cX10_init 0 cd_X10_init = true := by decide +kernel
set_option maxRecDepth 100000 in
theorem ck_63 : ab_oka 10 cX10_weigh 0 cd_X10_weigh = true := by decide +kernel
set_option maxRecDepth 100000 in
theorem ck_64 : ab_oka 10 cX10_giveAsChild 0 cd_X10_giveAsChild = true := by decide +kernel
set_option maxRecDepth 100000 in
theorem ck_65 : ab_oka 11 cX11_init 0 cd_X11_init = true := by decide +kernel
set_option maxRecDepth 100000 in
theorem ck_66 : ab_oka 11 cX11_type 0 cd_X11_type = true := by decide +kernel
set_option maxRecDepth 100000 in
theorem ck_67 : ab_oka 11 cX11_clear 0 cd_X11_clear = true := by decide +kernel
set_option maxRecDepth 100000 in
theorem ck_68 : ab_oka 11 cX11_tree 0 cd_X11_tree = true := by decide +kernel
set_option maxRecDepth 100000 in
theorem ck_69 : ab_oka 11 cX11_method 0 cd_X11_method = true := by decide +kernel
set_option maxRecDepth 100000 in
theorem ck_70 : ab_oka 11 cX11_tells 0 cd_X11_tells = true := by decide +kernel
set_option maxRecDepth 100000 in
theorem ck_71 : ab_oka 11 cX11_loads 0 cd_X11_loads = true := by decide +kernel
set_option maxRecDepth 100000 in
theorem ck_72 : ab_oka 11 cX11_flows 0 cd_X11_flows = true := by decide +kernel
set_option maxRecDepth 100000 in
theorem ck_73 : ab_oka 11 cX11_composes 0 cd_X11_composes = true := by decide +kernel
set_option maxRecDepth 100000 in
theorem ck_74 : ab_oka 11 cX11_inverts 0 cd_X11_inverts = true := by decide +kernel
set_option maxRecDepth 100000 in
theorem ck_75 : ab_oka 11 cX11_stretches 0 cd_X11_stretches = true := by decide +kernel
set_option maxRecDepth 100000 in
theorem ck_76 : ab_oka 11 cX11_reverses 0 cd_X11_reverses = true := by decide +kernel
set_option maxRecDepth 100000 in
theorem ck_77 : ab_oka 11 cX11_puts 0 cd_X11_puts = true := by decide +kernel
set_option maxRecDepth 100000 in
theorem ck_78 : ab_oka 11 cX11_undo 0 cd_X11_undo = true := by decide +kernel
set_option maxRecDepth 100000 in
theorem ck_79 : ab_oka 11 cX11_value 0 cd_X11_value = true := by decide +kernel
set_option maxRecDepth 100000 in
theorem ck_80 : ab_oka 11 cX11_number 0 cd_X11_number = true := by decide +kernel
set_option maxRecDepth 100000 in
theorem ck_81 : ab_oka 11 cX11_about 0 cd_X11_about = true := by decide +kernel
set_option maxRecDepth 100000 in
theorem ck_82 : ab_oka 11 cX11_child 0 cd_X11_child = true := by decide +kernel
set_option maxRecDepth 100000 in
theorem ck_83 : ab_oka 11 cX11_cut 0 cd_X11_cut = true := by decide +kernel
set_option maxRecDepth 100000 in
theorem ck_84 : ab_oka 11 cX11_grafted 0 cd_X11_grafted = true := by decide +kernel
set_option maxRecDepth 100000 in
theorem ck_85 : ab_oka 11 cX11_leaves 0 cd_X11_leaves = true := by decide +kernel
set_option maxRecDepth 100000 in
theorem ck_86 : ab_oka 11 cX11_order 0 cd_X11_order = true := by decide +kernel
set_option maxRecDepth 100000 in
theorem ck_87 : ab_oka 11 cX11_like 0 cd_X11_like = true := by decide +kernel
set_option maxRecDepth 100000 in
theorem ck_88 : ab_oka 11 cX11_sees 0 cd_X11_sees = true := by decide +kernel
set_option maxRecDepth 100000 in
theorem ck_89 : ab_oka 11 cX11_forget 0 cd_X11_forget = true := by decide +kernel
set_option maxRecDepth 100000 in
theorem ck_90 : ab_oka 11 cX11_which 0 cd_X11_which = true := by decide +kernel
set_option maxRecDepth 100000 in
theorem ck_91 : ab_oka 11 cX11_keep 0 cd_X11_keep = true := by decide +kernel
set_option maxRecDepth 100000 in
theorem ck_92 : ab_oka 11 cX11_back 0 cd_X11_back = true := by decide +kernel
set_option maxRecDepth 100000 in
theorem ck_93 : ab_oka 11 cX11_count 0 cd_X11_count = true := by decide +kernel
set_option maxRecDepth 100000 in
theorem ck_94 : ab_oka 11 cX11_isTree 0 cd_X11_isTree = true := by decide +kernel
set_option maxRecDepth 100000 in
theorem ck_95 : ab_oka 11 cX11_isRegister 0 cd_X11_isRegister = true := by decide +kernel
set_option maxRecDepth 100000 in
theorem ck_96 : ab_oka 11 cX11_isImage 0 cd_X11_isImage = true := by decide +kernel
set_option maxRecDepth 100000 in
theorem ck_97 : ab_oka 11 cX11_storeMade 0 cd_X11_storeMade = true := by decide +kernel
set_option maxRecDepth 100000 in
theorem ck_98 : ab_oka 12 cX12_init 0 cd_X12_init = true := by decide +kernel
set_option maxRecDepth 100000 in
theorem ck_99 : ab_oka 12 cX12_in 0 cd_X12_in = true := by decide +kernel
set_option maxRecDepth 100000 in
theorem ck_100 : ab_oka 12 cX12_isTree 0 cd_X12_isTree = true := by decide +kernel
set_option maxRecDepth 100000 in
theorem ck_101 : ab_oka 12 cX12_isRegister 0 cd_X12_isRegister = true := by decide +kernel
set_option maxRecDepth 100000 in
theorem ck_102 : ab_oka 12 cX12_addTree 0 cd_X12_addTree = true := by decide +kernel
set_option maxRecDepth 100000 in
theorem ck_103 : ab_oka 12 cX12_putInRow 0 cd_X12_putInRow = true := by decide +kernel
set_option maxRecDepth 100000 in
theorem ck_104 : ab_oka 12 cX12_treeOfRow 0 cd_X12_treeOfRow = true := by decide +kernel
set_option maxRecDepth 100000 in
theorem ck_105 : ab_oka 12 cX12_cutsOf 0 cd_X12_cutsOf = true := by decide +kernel
set_option maxRecDepth 100000 in
theorem ck_106 : ab_oka 12 cX12_addCut 0 cd_X12_addCut = true := by decide +kernel
set_option maxRecDepth 100000 in
theorem ck_107 : ab_oka 12 cX12_addCuts 0 cd_X12_addCuts = true := by decide +kernel
set_option maxRecDepth 100000 in
theorem ck_108 : ab_oka 12 cX12_graft 0 cd_X12_graft = true := by decide +kernel
set_option maxRecDepth 100000 in
theorem ck_109 : ab_oka 12 cX12_factorial 0 cd_X12_factorial = true := by decide +kernel
set_option maxRecDepth 100000 in
theorem ck_110 : ab_oka 12 cX12_about 0 cd_X12_about = true := by decide +kernel
set_option maxRecDepth 100000 in
theorem ck_111 : ab_oka 12 cX12_child 0 cd_X12_child = true := by decide +kernel
set_option maxRecDepth 100000 in
theorem ck_112 : ab_oka 12 cX12_cut 0 cd_X12_cut = true := by decide +kernel
set_option maxRecDepth 100000 in
theorem ck_113 : ab_oka 12 cX12_grafted 0 cd_X12_grafted = true := by decide +kernel
set_option maxRecDepth 100000 in
theorem ck_114 : ab_oka 12 cX12_leaves 0 cd_X12_leaves = true := by decide +kernel
set_option maxRecDepth 100000 in
theorem ck_115 : ab_oka 12 cX12_type 0 cd_X12_type = true := by decide +kernel
set_option maxRecDepth 100000 in
theorem ck_116 : ab_oka 12 cX12_clear 0 cd_X12_clear = true := by decide +kernel
set_option maxRecDepth 100000 in
theorem ck_117 : ab_oka 12 cX12_tree 0 cd_X12_tree = true := by decide +kernel
set_option maxRecDepth 100000 in
theorem ck_118 : ab_oka 12 cX12_scan 0 cd_X12_scan = true := by decide +kernel
set_option maxRecDepth 100000 in
theorem ck_119 : ab_oka 12 cX12_scanNumber 0 cd_X12_scanNumber = true := by decide +kernel
set_option maxRecDepth 100000 in
theorem ck_120 : ab_oka 12 cX12_readItem 0 cd_X12_readItem = true := by decide +kernel
set_option maxRecDepth 100000 in
theorem ck_121 : ab_oka 12 cX12_readMethod 0 cd_X12_readMethod = true := by decide +kernel
set_option maxRecDepth 100000 in
theorem ck_122 : ab_oka 12 cX12_method 0 cd_X12_method = true := by decide +kernel
set_option maxRecDepth 100000 in
theorem ck_123 : ab_oka 12 cX12_note 0 cd_X12_note = true := by decide +kernel
set_option maxRecDepth 100000 in
theorem ck_124 : ab_oka 12 cX12_undo 0 cd_X12_undo = true := by decide +kernel
set_option maxRecDepth 100000 in
theorem ck_125 : ab_oka 12 cX12_placeOf 0 cd_X12_placeOf = true := by decide +kernel
set_option maxRecDepth 100000 in
theorem ck_126 : ab_oka 12 cX12_tells 0 cd_X12_tells = true := by decide +kernel
set_option maxRecDepth 100000 in
theorem ck_127 : ab_oka 12 cX12_number 0 cd_X12_number = true := by decide +kernel
set_option maxRecDepth 100000 in
theorem ck_128 : ab_oka 12 cX12_power 0 cd_X12_power = true := by decide +kernel
set_option maxRecDepth 100000 in
theorem ck_129 : ab_oka 12 cX12_flowOf 0 cd_X12_flowOf = true := by decide +kernel
set_option maxRecDepth 100000 in
theorem ck_130 : ab_oka 12 cX12_makeWeight 0 cd_X12_makeWeight = true := by decide +kernel
set_option maxRecDepth 100000 in
theorem ck_131 : ab_oka 12 cX12_forestOf 0 cd_X12_forestOf = true := by decide +kernel
set_option maxRecDepth 100000 in
theorem ck_132 : ab_oka 12 cX12_makeProduct 0 cd_X12_makeProduct = true := by decide +kernel
set_option maxRecDepth 100000 in
theorem ck_133 : ab_oka 12 cX12_makeInverse 0 cd_X12_makeInverse = true := by decide +kernel
set_option maxRecDepth 100000 in
theorem ck_134 : ab_oka 12 cX12_makeLonger 0 cd_X12_makeLonger = true := by decide +kernel
set_option maxRecDepth 100000 in
theorem ck_135 : ab_oka 12 cX12_makeLike 0 cd_X12_makeLike = true := by decide +kernel
set_option maxRecDepth 100000 in
theorem ck_136 : ab_oka 12 cX12_orderOf 0 cd_X12_orderOf = true := by decide +kernel
set_option maxRecDepth 100000 in
theorem ck_137 : ab_oka 12 cX12_putMade 0 cd_X12_putMade = true := by decide +kernel
set_option maxRecDepth 100000 in
theorem ck_138 : ab_oka 12 cX12_loads 0 cd_X12_loads = true := by decide +kernel
set_option maxRecDepth 100000 in
theorem ck_139 : ab_oka 12 cX12_flows 0 cd_X12_flows = true := by decide +kernel
set_option maxRecDepth 100000 in
theorem ck_140 : ab_oka 12 cX12_composes 0 cd_X12_composes = true := by decide +kernel
set_option maxRecDepth 100000 in
theorem ck_141 : ab_oka 12 cX12_inverts 0 cd_X12_inverts = true := by decide +kernel
set_option maxRecDepth 100000 in
theorem ck_142 : ab_oka 12 cX12_stretches 0 cd_X12_stretches = true := by decide +kernel
set_option maxRecDepth 100000 in
theorem ck_143 : ab_oka 12 cX12_reverses 0 cd_X12_reverses = true := by decide +kernel
set_option maxRecDepth 100000 in
theorem ck_144 : ab_oka 12 cX12_puts 0 cd_X12_puts = true := by decide +kernel
set_option maxRecDepth 100000 in
theorem ck_145 : ab_oka 12 cX12_value 0 cd_X12_value = true := by decide +kernel
set_option maxRecDepth 100000 in
theorem ck_146 : ab_oka 12 cX12_firstFail 0 cd_X12_firstFail = true := by decide +kernel
set_option maxRecDepth 100000 in
theorem ck_147 : ab_oka 12 cX12_firstBreak 0 cd_X12_firstBreak = true := by decide +kernel
set_option maxRecDepth 100000 in
theorem ck_148 : ab_oka 12 cX12_order 0 cd_X12_order = true := by decide +kernel
set_option maxRecDepth 100000 in
theorem ck_149 : ab_oka 12 cX12_like 0 cd_X12_like = true := by decide +kernel
set_option maxRecDepth 100000 in
theorem ck_150 : ab_oka 12 cX12_sees 0 cd_X12_sees = true := by decide +kernel
set_option maxRecDepth 100000 in
theorem ck_151 : ab_oka 12 cX12_forget 0 cd_X12_forget = true := by decide +kernel
set_option maxRecDepth 100000 in
theorem ck_152 : ab_oka 12 cX12_which 0 cd_X12_which = true := by decide +kernel
set_option maxRecDepth 100000 in
theorem ck_153 : ab_oka 12 cX12_keep 0 cd_X12_keep = true := by decide +kernel
set_option maxRecDepth 100000 in
theorem ck_154 : ab_oka 12 cX12_back 0 cd_X12_back = true := by decide +kernel
set_option maxRecDepth 100000 in
theorem ck_155 : ab_oka 12 cX12_count 0 cd_X12_count = true := by decide +kernel
set_option maxRecDepth 100000 in
theorem ck_156 : ab_oka 13 cJ7_fill_53178 0 cd_J7_fill_53178 = true := by decide +kernel
theorem ab_ck : ∀ mid, mid < 157 → ab_oka (ab_MR mid).1 (ab_BM mid) 0 (ab_CM mid) = true
  | 0, _ => ck_0
  | 1, _ => ck_1
  | 2, _ => ck_2
  | 3, _ => ck_3
  | 4, _ => ck_4
  | 5, _ => ck_5
  | 6, _ => ck_6
  | 7, _ => ck_7
  | 8, _ => ck_8
  | 9, _ => ck_9
  | 10, _ => ck_10
  | 11, _ => ck_11
  | 12, _ => ck_12
  | 13, _ => ck_13
  | 14, _ => ck_14
  | 15, _ => ck_15
  | 16, _ => ck_16
  | 17, _ => ck_17
  | 18, _ => ck_18
  | 19, _ => ck_19
  | 20, _ => ck_20
  | 21, _ => ck_21
  | 22, _ => ck_22
  | 23, _ => ck_23
  | 24, _ => ck_24
  | 25, _ => ck_25
  | 26, _ => ck_26
  | 27, _ => ck_27
  | 28, _ => ck_28
  | 29, _ => ck_29
  | 30, _ => ck_30
  | 31, _ => ck_31
  | 32, _ => ck_32
  | 33, _ => ck_33
  | 34, _ => ck_34
  | 35, _ => ck_35
  | 36, _ => ck_36
  | 37, _ => ck_37
  | 38, _ => ck_38
  | 39, _ => ck_39
  | 40, _ => ck_40
  | 41, _ => ck_41
  | 42, _ => ck_42
  | 43, _ => ck_43
  | 44, _ => ck_44
  | 45, _ => ck_45
  | 46, _ => ck_46
  | 47, _ => ck_47
  | 48, _ => ck_48
  | 49, _ => ck_49
  | 50, _ => ck_50
  | 51, _ => ck_51
  | 52, _ => ck_52
  | 53, _ => ck_53
  | 54, _ => ck_54
  | 55, _ => ck_55
  | 56, _ => ck_56
  | 57, _ => ck_57
  | 58, _ => ck_58
  | 59, _ => ck_59
  | 60, _ => ck_60
  | 61, _ => ck_61
  | 62, _ => ck_62
  | 63, _ => ck_63
  | 64, _ => ck_64
  | 65, _ => ck_65
  | 66, _ => ck_66
  | 67, _ => ck_67
  | 68, _ => ck_68
  | 69, _ => ck_69
  | 70, _ => ck_70
  | 71, _ => ck_71
  | 72, _ => ck_72
  | 73, _ => ck_73
  | 74, _ => ck_74
  | 75, _ => ck_75
  | 76, _ => ck_76
  | 77, _ => ck_77
  | 78, _ => ck_78
  | 79, _ => ck_79
  | 80, _ => ck_80
  | 81, _ => ck_81
  | 82, _ => ck_82
  | 83, _ => ck_83
  | 84, _ => ck_84
  | 85, _ => ck_85
  | 86, _ => ck_86
  | 87, _ => ck_87
  | 88, _ => ck_88
  | 89, _ => ck_89
  | 90, _ => ck_90
  | 91, _ => ck_91
  | 92, _ => ck_92
  | 93, _ => ck_93
  | 94, _ => ck_94
  | 95, _ => ck_95
  | 96, _ => ck_96
  | 97, _ => ck_97
  | 98, _ => ck_98
  | 99, _ => ck_99
  | 100, _ => ck_100
  | 101, _ => ck_101
  | 102, _ => ck_102
  | 103, _ => ck_103
  | 104, _ => ck_104
  | 105, _ => ck_105
  | 106, _ => ck_106
  | 107, _ => ck_107
  | 108, _ => ck_108
  | 109, _ => ck_109
  | 110, _ => ck_110
  | 111, _ => ck_111
  | 112, _ => ck_112
  | 113, _ => ck_113
  | 114, _ => ck_114
  | 115, _ => ck_115
  | 116, _ => ck_116
  | 117, _ => ck_117
  | 118, _ => ck_118
  | 119, _ => ck_119
  | 120, _ => ck_120
  | 121, _ => ck_121
  | 122, _ => ck_122
  | 123, _ => ck_123
  | 124, _ => ck_124
  | 125, _ => ck_125
  | 126, _ => ck_126
  | 127, _ => ck_127
  | 128, _ => ck_128
  | 129, _ => ck_129
  | 130, _ => ck_130
  | 131, _ => ck_131
  | 132, _ => ck_132
  | 133, _ => ck_133
  | 134, _ => ck_134
  | 135, _ => ck_135
  | 136, _ => ck_136
  | 137, _ => ck_137
  | 138, _ => ck_138
  | 139, _ => ck_139
  | 140, _ => ck_140
  | 141, _ => ck_141
  | 142, _ => ck_142
  | 143, _ => ck_143
  | 144, _ => ck_144
  | 145, _ => ck_145
  | 146, _ => ck_146
  | 147, _ => ck_147
  | 148, _ => ck_148
  | 149, _ => ck_149
  | 150, _ => ck_150
  | 151, _ => ck_151
  | 152, _ => ck_152
  | 153, _ => ck_153
  | 154, _ => ck_154
  | 155, _ => ck_155
  | 156, _ => ck_156
  | n + 157, h => absurd h (by omega)
