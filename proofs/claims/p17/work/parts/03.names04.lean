theorem dX12_becomes_111 : decode cX12_becomes 111 = .ok (.aload_n 0, 1) := kd_r kbX12_becomes ki_0 rfl
theorem dX12_becomes_112 : decode cX12_becomes 112 = .ok (.getfield 99, 3) := kd_r kbX12_becomes ki_744 rfl
theorem dX12_becomes_115 : decode cX12_becomes 115 = .ok (.iload_n 3, 1) := kd_r kbX12_becomes ki_55 rfl
theorem dX12_becomes_116 : decode cX12_becomes 116 = .ok (.iastore, 1) := kd_r kbX12_becomes ki_28 rfl
theorem dX12_becomes_117 : decode cX12_becomes 117 = .ok (.aload_n 0, 1) := kd_r kbX12_becomes ki_0 rfl
theorem dX12_becomes_118 : decode cX12_becomes 118 = .ok (.getfield 22, 3) := kd_r kbX12_becomes ki_48 rfl
theorem dX12_becomes_121 : decode cX12_becomes 121 = .ok (.aload_n 0, 1) := kd_r kbX12_becomes ki_0 rfl
theorem dX12_becomes_122 : decode cX12_becomes 122 = .ok (.getfield 99, 3) := kd_r kbX12_becomes ki_744 rfl
theorem dX12_becomes_125 : decode cX12_becomes 125 = .ok (.iload_n 2, 1) := kd_r kbX12_becomes ki_11 rfl
theorem dX12_becomes_126 : decode cX12_becomes 126 = .ok (.iastore, 1) := kd_r kbX12_becomes ki_28 rfl
theorem dX12_becomes_127 : decode cX12_becomes 127 = .ok (.aload_n 0, 1) := kd_r kbX12_becomes ki_0 rfl
theorem dX12_becomes_128 : decode cX12_becomes 128 = .ok (.dup, 1) := kd_r kbX12_becomes ki_29 rfl
theorem dX12_becomes_129 : decode cX12_becomes 129 = .ok (.getfield 99, 3) := kd_r kbX12_becomes ki_744 rfl
theorem dX12_becomes_132 : decode cX12_becomes 132 = .ok (.iconst 1, 1) := kd_r kbX12_becomes ki_16 rfl
theorem dX12_becomes_133 : decode cX12_becomes 133 = .ok (.iadd, 1) := kd_r kbX12_becomes ki_30 rfl
theorem dX12_becomes_134 : decode cX12_becomes 134 = .ok (.putfield 99, 3) := kd_r kbX12_becomes ki_747 rfl
theorem dX12_becomes_137 : decode cX12_becomes 137 = .ok (.aload_n 0, 1) := kd_r kbX12_becomes ki_0 rfl
theorem dX12_becomes_138 : decode cX12_becomes 138 = .ok (.aload_n 0, 1) := kd_r kbX12_becomes ki_0 rfl
theorem dX12_becomes_139 : decode cX12_becomes 139 = .ok (.getfield 99, 3) := kd_r kbX12_becomes ki_744 rfl
theorem dX12_becomes_142 : decode cX12_becomes 142 = .ok (.putfield 103, 3) := kd_r kbX12_becomes ki_748 rfl
theorem dX12_becomes_145 : decode cX12_becomes 145 = .ok (.aload_n 0, 1) := kd_r kbX12_becomes ki_0 rfl
theorem dX12_becomes_146 : decode cX12_becomes 146 = .ok (.getfield 13, 3) := kd_r kbX12_becomes ki_53 rfl
theorem dX12_becomes_149 : decode cX12_becomes 149 = .ok (.iload_n 1, 1) := kd_r kbX12_becomes ki_8 rfl
theorem dX12_becomes_150 : decode cX12_becomes 150 = .ok (.iload_n 2, 1) := kd_r kbX12_becomes ki_11 rfl
theorem dX12_becomes_151 : decode cX12_becomes 151 = .ok (.iastore, 1) := kd_r kbX12_becomes ki_28 rfl
theorem dX12_becomes_152 : decode cX12_becomes 152 = .ok (.iload_n 3, 1) := kd_r kbX12_becomes ki_55 rfl
theorem dX12_becomes_153 : decode cX12_becomes 153 = .ok (.ireturn, 1) := kd_r kbX12_becomes ki_7 rfl
theorem dX12_undo_0 : decode cX12_undo 0 = .ok (.aload_n 0, 1) := kd_r kbX12_undo ki_0 rfl
theorem dX12_undo_1 : decode cX12_undo 1 = .ok (.getfield 99, 3) := kd_r kbX12_undo ki_744 rfl
theorem dX12_undo_4 : decode cX12_undo 4 = .ok (.ifCond .ne 6, 3) := kd_r kbX12_undo ki_388 rfl
theorem dX12_undo_7 : decode cX12_undo 7 = .ok (.bipush (-5), 2) := kd_r kbX12_undo ki_635 rfl
theorem dX12_undo_9 : decode cX12_undo 9 = .ok (.ireturn, 1) := kd_r kbX12_undo ki_7 rfl
theorem dX12_undo_10 : decode cX12_undo 10 = .ok (.aload_n 0, 1) := kd_r kbX12_undo ki_0 rfl
theorem dX12_undo_11 : decode cX12_undo 11 = .ok (.dup, 1) := kd_r kbX12_undo ki_29 rfl
theorem dX12_undo_12 : decode cX12_undo 12 = .ok (.getfield 99, 3) := kd_r kbX12_undo ki_744 rfl
theorem dX12_undo_15 : decode cX12_undo 15 = .ok (.iconst 1, 1) := kd_r kbX12_undo ki_16 rfl
theorem dX12_undo_16 : decode cX12_undo 16 = .ok (.isub, 1) := kd_r kbX12_undo ki_50 rfl
theorem dX12_undo_17 : decode cX12_undo 17 = .ok (.putfield 99, 3) := kd_r kbX12_undo ki_747 rfl
theorem dX12_undo_20 : decode cX12_undo 20 = .ok (.aload_n 0, 1) := kd_r kbX12_undo ki_0 rfl
theorem dX12_undo_21 : decode cX12_undo 21 = .ok (.getfield 13, 3) := kd_r kbX12_undo ki_53 rfl
theorem dX12_undo_24 : decode cX12_undo 24 = .ok (.aload_n 0, 1) := kd_r kbX12_undo ki_0 rfl
theorem dX12_undo_25 : decode cX12_undo 25 = .ok (.getfield 16, 3) := kd_r kbX12_undo ki_54 rfl
theorem dX12_undo_28 : decode cX12_undo 28 = .ok (.aload_n 0, 1) := kd_r kbX12_undo ki_0 rfl
theorem dX12_undo_29 : decode cX12_undo 29 = .ok (.getfield 99, 3) := kd_r kbX12_undo ki_744 rfl
theorem dX12_undo_32 : decode cX12_undo 32 = .ok (.iaload, 1) := kd_r kbX12_undo ki_14 rfl
theorem dX12_undo_33 : decode cX12_undo 33 = .ok (.aload_n 0, 1) := kd_r kbX12_undo ki_0 rfl
theorem dX12_undo_34 : decode cX12_undo 34 = .ok (.getfield 19, 3) := kd_r kbX12_undo ki_56 rfl
theorem dX12_undo_37 : decode cX12_undo 37 = .ok (.aload_n 0, 1) := kd_r kbX12_undo ki_0 rfl
theorem dX12_undo_38 : decode cX12_undo 38 = .ok (.getfield 99, 3) := kd_r kbX12_undo ki_744 rfl
theorem dX12_undo_41 : decode cX12_undo 41 = .ok (.iaload, 1) := kd_r kbX12_undo ki_14 rfl
theorem dX12_undo_42 : decode cX12_undo 42 = .ok (.iastore, 1) := kd_r kbX12_undo ki_28 rfl
theorem dX12_undo_43 : decode cX12_undo 43 = .ok (.aload_n 0, 1) := kd_r kbX12_undo ki_0 rfl
theorem dX12_undo_44 : decode cX12_undo 44 = .ok (.getfield 99, 3) := kd_r kbX12_undo ki_744 rfl
theorem dX12_undo_47 : decode cX12_undo 47 = .ok (.ireturn, 1) := kd_r kbX12_undo ki_7 rfl
theorem dX12_redo_0 : decode cX12_redo 0 = .ok (.aload_n 0, 1) := kd_r kbX12_redo ki_0 rfl
theorem dX12_redo_1 : decode cX12_redo 1 = .ok (.getfield 99, 3) := kd_r kbX12_redo ki_744 rfl
theorem dX12_redo_4 : decode cX12_redo 4 = .ok (.aload_n 0, 1) := kd_r kbX12_redo ki_0 rfl
theorem dX12_redo_5 : decode cX12_redo 5 = .ok (.getfield 103, 3) := kd_r kbX12_redo ki_749 rfl
theorem dX12_redo_8 : decode cX12_redo 8 = .ok (.if_icmp .ne 6, 3) := kd_r kbX12_redo ki_604 rfl
theorem dX12_redo_11 : decode cX12_redo 11 = .ok (.bipush (-5), 2) := kd_r kbX12_redo ki_635 rfl
theorem dX12_redo_13 : decode cX12_redo 13 = .ok (.ireturn, 1) := kd_r kbX12_redo ki_7 rfl
theorem dX12_redo_14 : decode cX12_redo 14 = .ok (.aload_n 0, 1) := kd_r kbX12_redo ki_0 rfl
theorem dX12_redo_15 : decode cX12_redo 15 = .ok (.getfield 13, 3) := kd_r kbX12_redo ki_53 rfl
theorem dX12_redo_18 : decode cX12_redo 18 = .ok (.aload_n 0, 1) := kd_r kbX12_redo ki_0 rfl
theorem dX12_redo_19 : decode cX12_redo 19 = .ok (.getfield 16, 3) := kd_r kbX12_redo ki_54 rfl
theorem dX12_redo_22 : decode cX12_redo 22 = .ok (.aload_n 0, 1) := kd_r kbX12_redo ki_0 rfl
theorem dX12_redo_23 : decode cX12_redo 23 = .ok (.getfield 99, 3) := kd_r kbX12_redo ki_744 rfl
theorem dX12_redo_26 : decode cX12_redo 26 = .ok (.iaload, 1) := kd_r kbX12_redo ki_14 rfl
theorem dX12_redo_27 : decode cX12_redo 27 = .ok (.aload_n 0, 1) := kd_r kbX12_redo ki_0 rfl
theorem dX12_redo_28 : decode cX12_redo 28 = .ok (.getfield 22, 3) := kd_r kbX12_redo ki_48 rfl
theorem dX12_redo_31 : decode cX12_redo 31 = .ok (.aload_n 0, 1) := kd_r kbX12_redo ki_0 rfl
theorem dX12_redo_32 : decode cX12_redo 32 = .ok (.getfield 99, 3) := kd_r kbX12_redo ki_744 rfl
theorem dX12_redo_35 : decode cX12_redo 35 = .ok (.iaload, 1) := kd_r kbX12_redo ki_14 rfl
theorem dX12_redo_36 : decode cX12_redo 36 = .ok (.iastore, 1) := kd_r kbX12_redo ki_28 rfl
theorem dX12_redo_37 : decode cX12_redo 37 = .ok (.aload_n 0, 1) := kd_r kbX12_redo ki_0 rfl
theorem dX12_redo_38 : decode cX12_redo 38 = .ok (.dup, 1) := kd_r kbX12_redo ki_29 rfl
theorem dX12_redo_39 : decode cX12_redo 39 = .ok (.getfield 99, 3) := kd_r kbX12_redo ki_744 rfl
theorem dX12_redo_42 : decode cX12_redo 42 = .ok (.iconst 1, 1) := kd_r kbX12_redo ki_16 rfl
theorem dX12_redo_43 : decode cX12_redo 43 = .ok (.iadd, 1) := kd_r kbX12_redo ki_30 rfl
theorem dX12_redo_44 : decode cX12_redo 44 = .ok (.putfield 99, 3) := kd_r kbX12_redo ki_747 rfl
theorem dX12_redo_47 : decode cX12_redo 47 = .ok (.aload_n 0, 1) := kd_r kbX12_redo ki_0 rfl
theorem dX12_redo_48 : decode cX12_redo 48 = .ok (.getfield 103, 3) := kd_r kbX12_redo ki_749 rfl
theorem dX12_redo_51 : decode cX12_redo 51 = .ok (.aload_n 0, 1) := kd_r kbX12_redo ki_0 rfl
theorem dX12_redo_52 : decode cX12_redo 52 = .ok (.getfield 99, 3) := kd_r kbX12_redo ki_744 rfl
theorem dX12_redo_55 : decode cX12_redo 55 = .ok (.isub, 1) := kd_r kbX12_redo ki_50 rfl
theorem dX12_redo_56 : decode cX12_redo 56 = .ok (.ireturn, 1) := kd_r kbX12_redo ki_7 rfl
set_option maxRecDepth 20000 in
theorem ggX12_isStreet_X12_within : GoodIn wsX12_isStreet wsX12_within := goodIn_r _ [5] rfl (by decide +kernel)
set_option maxRecDepth 20000 in
theorem gX12_isStreet_X12_within : GoodIn wsX12_isStreet (va_wsS RX12 109 yX12_within wsX12_within) := goodIn_app (goodIn_of _ (by decide +kernel)) ggX12_isStreet_X12_within
theorem dX12_isStreet_0 : decode cX12_isStreet 0 = .ok (.iload_n 1, 1) := kd_r kbX12_isStreet ki_8 rfl
theorem dX12_isStreet_1 : decode cX12_isStreet 1 = .ok (.i2l, 1) := kd_r kbX12_isStreet ki_399 rfl
theorem dX12_isStreet_2 : decode cX12_isStreet 2 = .ok (.lconst 0, 1) := kd_r kbX12_isStreet ki_172 rfl
theorem dX12_isStreet_3 : decode cX12_isStreet 3 = .ok (.aload_n 0, 1) := kd_r kbX12_isStreet ki_0 rfl
theorem dX12_isStreet_4 : decode cX12_isStreet 4 = .ok (.getfield 106, 3) := kd_r kbX12_isStreet ki_750 rfl
theorem dX12_isStreet_7 : decode cX12_isStreet 7 = .ok (.iconst 1, 1) := kd_r kbX12_isStreet ki_16 rfl
theorem dX12_isStreet_8 : decode cX12_isStreet 8 = .ok (.isub, 1) := kd_r kbX12_isStreet ki_50 rfl
theorem dX12_isStreet_9 : decode cX12_isStreet 9 = .ok (.i2l, 1) := kd_r kbX12_isStreet ki_399 rfl
theorem dX12_isStreet_10 : decode cX12_isStreet 10 = .ok (.invokestatic 109, 3) := kd_r kbX12_isStreet ki_751 rfl
theorem dX12_isStreet_13 : decode cX12_isStreet 13 = .ok (.ireturn, 1) := kd_r kbX12_isStreet ki_7 rfl
theorem dX12_width_0 : decode cX12_width 0 = .ok (.aload_n 0, 1) := kd_r kbX12_width ki_0 rfl
theorem dX12_width_1 : decode cX12_width 1 = .ok (.getfield 13, 3) := kd_r kbX12_width ki_53 rfl
theorem dX12_width_4 : decode cX12_width 4 = .ok (.bipush 40, 2) := kd_r kbX12_width ki_44 rfl
theorem dX12_width_6 : decode cX12_width 6 = .ok (.iload_n 1, 1) := kd_r kbX12_width ki_8 rfl
theorem dX12_width_7 : decode cX12_width 7 = .ok (.imul, 1) := kd_r kbX12_width ki_114 rfl
theorem dX12_width_8 : decode cX12_width 8 = .ok (.iload_n 2, 1) := kd_r kbX12_width ki_11 rfl
theorem dX12_width_9 : decode cX12_width 9 = .ok (.iadd, 1) := kd_r kbX12_width ki_30 rfl
theorem dX12_width_10 : decode cX12_width 10 = .ok (.iaload, 1) := kd_r kbX12_width ki_14 rfl
theorem dX12_width_11 : decode cX12_width 11 = .ok (.ireturn, 1) := kd_r kbX12_width ki_7 rfl
theorem dX12_depth_0 : decode cX12_depth 0 = .ok (.aload_n 0, 1) := kd_r kbX12_depth ki_0 rfl
theorem dX12_depth_1 : decode cX12_depth 1 = .ok (.getfield 13, 3) := kd_r kbX12_depth ki_53 rfl
theorem dX12_depth_4 : decode cX12_depth 4 = .ok (.sipush 280, 3) := kd_r kbX12_depth ki_752 rfl
theorem dX12_depth_7 : decode cX12_depth 7 = .ok (.bipush 40, 2) := kd_r kbX12_depth ki_44 rfl
theorem dX12_depth_9 : decode cX12_depth 9 = .ok (.iload_n 1, 1) := kd_r kbX12_depth ki_8 rfl
theorem dX12_depth_10 : decode cX12_depth 10 = .ok (.imul, 1) := kd_r kbX12_depth ki_114 rfl
theorem dX12_depth_11 : decode cX12_depth 11 = .ok (.iadd, 1) := kd_r kbX12_depth ki_30 rfl
theorem dX12_depth_12 : decode cX12_depth 12 = .ok (.iload_n 2, 1) := kd_r kbX12_depth ki_11 rfl
theorem dX12_depth_13 : decode cX12_depth 13 = .ok (.iadd, 1) := kd_r kbX12_depth ki_30 rfl
theorem dX12_depth_14 : decode cX12_depth 14 = .ok (.iaload, 1) := kd_r kbX12_depth ki_14 rfl
theorem dX12_depth_15 : decode cX12_depth 15 = .ok (.ireturn, 1) := kd_r kbX12_depth ki_7 rfl
theorem dX12_aside_0 : decode cX12_aside 0 = .ok (.aload_n 0, 1) := kd_r kbX12_aside ki_0 rfl
theorem dX12_aside_1 : decode cX12_aside 1 = .ok (.getfield 13, 3) := kd_r kbX12_aside ki_53 rfl
theorem dX12_aside_4 : decode cX12_aside 4 = .ok (.sipush 560, 3) := kd_r kbX12_aside ki_753 rfl
theorem dX12_aside_7 : decode cX12_aside 7 = .ok (.bipush 40, 2) := kd_r kbX12_aside ki_44 rfl
theorem dX12_aside_9 : decode cX12_aside 9 = .ok (.iload_n 1, 1) := kd_r kbX12_aside ki_8 rfl
theorem dX12_aside_10 : decode cX12_aside 10 = .ok (.imul, 1) := kd_r kbX12_aside ki_114 rfl
theorem dX12_aside_11 : decode cX12_aside 11 = .ok (.iadd, 1) := kd_r kbX12_aside ki_30 rfl
theorem dX12_aside_12 : decode cX12_aside 12 = .ok (.iload_n 2, 1) := kd_r kbX12_aside ki_11 rfl
theorem dX12_aside_13 : decode cX12_aside 13 = .ok (.iadd, 1) := kd_r kbX12_aside ki_30 rfl
theorem dX12_aside_14 : decode cX12_aside 14 = .ok (.iaload, 1) := kd_r kbX12_aside ki_14 rfl
theorem dX12_aside_15 : decode cX12_aside 15 = .ok (.ireturn, 1) := kd_r kbX12_aside ki_7 rfl
set_option maxRecDepth 20000 in
theorem ggX12_atOf_X12_width : GoodIn wsX12_atOf wsX12_width := goodIn_r _ [5, 6, 7, 8, 9, 10, 11, 12, 13, 14, 15, 16, 17, 18, 19, 20, 21, 22, 23, 24, 25, 26, 27, 28, 29, 30, 31, 32, 33, 34, 35, 36, 37, 38, 39, 40, 41, 42, 43, 44, 45, 46, 47, 48, 49, 50, 51, 52, 53, 54, 55] rfl (by decide +kernel)
set_option maxRecDepth 20000 in
theorem gX12_atOf_X12_width : GoodIn wsX12_atOf (wsV RX12 113 RX12 yX12_width wsX12_width) := goodIn_app (goodIn_of _ (by decide +kernel)) ggX12_atOf_X12_width
theorem dX12_atOf_0 : decode cX12_atOf 0 = .ok (.iconst 0, 1) := kd_r kbX12_atOf ki_20 rfl
theorem dX12_atOf_1 : decode cX12_atOf 1 = .ok (.istore_n 3, 1) := kd_r kbX12_atOf ki_108 rfl
theorem dX12_atOf_2 : decode cX12_atOf 2 = .ok (.iconst 0, 1) := kd_r kbX12_atOf ki_20 rfl
theorem dX12_atOf_3 : decode cX12_atOf 3 = .ok (.istore 4, 2) := kd_r kbX12_atOf ki_129 rfl
theorem dX12_atOf_5 : decode cX12_atOf 5 = .ok (.iload 4, 2) := kd_r kbX12_atOf ki_57 rfl
theorem dX12_atOf_7 : decode cX12_atOf 7 = .ok (.iload_n 2, 1) := kd_r kbX12_atOf ki_11 rfl
theorem dX12_atOf_8 : decode cX12_atOf 8 = .ok (.if_icmp .ge 19, 3) := kd_r kbX12_atOf ki_146 rfl
theorem dX12_atOf_11 : decode cX12_atOf 11 = .ok (.iload_n 3, 1) := kd_r kbX12_atOf ki_55 rfl
theorem dX12_atOf_12 : decode cX12_atOf 12 = .ok (.aload_n 0, 1) := kd_r kbX12_atOf ki_0 rfl
theorem dX12_atOf_13 : decode cX12_atOf 13 = .ok (.iload_n 1, 1) := kd_r kbX12_atOf ki_8 rfl
theorem dX12_atOf_14 : decode cX12_atOf 14 = .ok (.iload 4, 2) := kd_r kbX12_atOf ki_57 rfl
theorem dX12_atOf_16 : decode cX12_atOf 16 = .ok (.invokevirtual 113, 3) := kd_r kbX12_atOf ki_754 rfl
theorem dX12_atOf_19 : decode cX12_atOf 19 = .ok (.iadd, 1) := kd_r kbX12_atOf ki_30 rfl
theorem dX12_atOf_20 : decode cX12_atOf 20 = .ok (.istore_n 3, 1) := kd_r kbX12_atOf ki_108 rfl
theorem dX12_atOf_21 : decode cX12_atOf 21 = .ok (.iinc 4 1, 3) := kd_r kbX12_atOf ki_144 rfl
theorem dX12_atOf_24 : decode cX12_atOf 24 = .ok (.goto (-19), 3) := kd_r kbX12_atOf ki_148 rfl
theorem dX12_atOf_27 : decode cX12_atOf 27 = .ok (.iload_n 3, 1) := kd_r kbX12_atOf ki_55 rfl
theorem dX12_atOf_28 : decode cX12_atOf 28 = .ok (.ireturn, 1) := kd_r kbX12_atOf ki_7 rfl
set_option maxRecDepth 20000 in
theorem ggX12_kinksOf_X12_aside : GoodIn wsX12_kinksOf wsX12_aside := goodIn_r _ [6, 7, 8, 9, 10, 11, 12, 13, 14, 15, 16, 17, 18, 19, 20, 21, 22, 23, 24, 25, 26, 27, 28, 29, 30, 31, 32, 33, 34, 35, 36, 37, 38, 39, 40, 41, 42, 43, 44, 45, 46, 47, 48, 49, 50, 51, 52, 53, 54, 55, 56] rfl (by decide +kernel)
set_option maxRecDepth 20000 in
theorem gX12_kinksOf_X12_aside : GoodIn wsX12_kinksOf (wsV RX12 117 RX12 yX12_aside wsX12_aside) := goodIn_app (goodIn_of _ (by decide +kernel)) ggX12_kinksOf_X12_aside
theorem dX12_kinksOf_0 : decode cX12_kinksOf 0 = .ok (.iconst 0, 1) := kd_r kbX12_kinksOf ki_20 rfl
theorem dX12_kinksOf_1 : decode cX12_kinksOf 1 = .ok (.istore_n 2, 1) := kd_r kbX12_kinksOf ki_32 rfl
theorem dX12_kinksOf_2 : decode cX12_kinksOf 2 = .ok (.iconst 0, 1) := kd_r kbX12_kinksOf ki_20 rfl
theorem dX12_kinksOf_3 : decode cX12_kinksOf 3 = .ok (.istore_n 3, 1) := kd_r kbX12_kinksOf ki_108 rfl
theorem dX12_kinksOf_4 : decode cX12_kinksOf 4 = .ok (.iload_n 3, 1) := kd_r kbX12_kinksOf ki_55 rfl
theorem dX12_kinksOf_5 : decode cX12_kinksOf 5 = .ok (.aload_n 0, 1) := kd_r kbX12_kinksOf ki_0 rfl
theorem dX12_kinksOf_6 : decode cX12_kinksOf 6 = .ok (.getfield 9, 3) := kd_r kbX12_kinksOf ki_13 rfl
theorem dX12_kinksOf_9 : decode cX12_kinksOf 9 = .ok (.iload_n 1, 1) := kd_r kbX12_kinksOf ki_8 rfl
theorem dX12_kinksOf_10 : decode cX12_kinksOf 10 = .ok (.iaload, 1) := kd_r kbX12_kinksOf ki_14 rfl
theorem dX12_kinksOf_11 : decode cX12_kinksOf 11 = .ok (.if_icmp .ge 26, 3) := kd_r kbX12_kinksOf ki_418 rfl
theorem dX12_kinksOf_14 : decode cX12_kinksOf 14 = .ok (.iload_n 2, 1) := kd_r kbX12_kinksOf ki_11 rfl
theorem dX12_kinksOf_15 : decode cX12_kinksOf 15 = .ok (.aload_n 0, 1) := kd_r kbX12_kinksOf ki_0 rfl
theorem dX12_kinksOf_16 : decode cX12_kinksOf 16 = .ok (.iload_n 1, 1) := kd_r kbX12_kinksOf ki_8 rfl
theorem dX12_kinksOf_17 : decode cX12_kinksOf 17 = .ok (.iload_n 3, 1) := kd_r kbX12_kinksOf ki_55 rfl
theorem dX12_kinksOf_18 : decode cX12_kinksOf 18 = .ok (.invokevirtual 117, 3) := kd_r kbX12_kinksOf ki_755 rfl
theorem dX12_kinksOf_21 : decode cX12_kinksOf 21 = .ok (.ifCond .eq 7, 3) := kd_r kbX12_kinksOf ki_18 rfl
theorem dX12_kinksOf_24 : decode cX12_kinksOf 24 = .ok (.iconst 1, 1) := kd_r kbX12_kinksOf ki_16 rfl
theorem dX12_kinksOf_25 : decode cX12_kinksOf 25 = .ok (.goto 4, 3) := kd_r kbX12_kinksOf ki_19 rfl
theorem dX12_kinksOf_28 : decode cX12_kinksOf 28 = .ok (.iconst 0, 1) := kd_r kbX12_kinksOf ki_20 rfl
theorem dX12_kinksOf_29 : decode cX12_kinksOf 29 = .ok (.iadd, 1) := kd_r kbX12_kinksOf ki_30 rfl
theorem dX12_kinksOf_30 : decode cX12_kinksOf 30 = .ok (.istore_n 2, 1) := kd_r kbX12_kinksOf ki_32 rfl
theorem dX12_kinksOf_31 : decode cX12_kinksOf 31 = .ok (.iinc 3 1, 3) := kd_r kbX12_kinksOf ki_116 rfl
theorem dX12_kinksOf_34 : decode cX12_kinksOf 34 = .ok (.goto (-30), 3) := kd_r kbX12_kinksOf ki_756 rfl
theorem dX12_kinksOf_37 : decode cX12_kinksOf 37 = .ok (.iload_n 2, 1) := kd_r kbX12_kinksOf ki_11 rfl
theorem dX12_kinksOf_38 : decode cX12_kinksOf 38 = .ok (.ireturn, 1) := kd_r kbX12_kinksOf ki_7 rfl
theorem dX12_street_0 : decode cX12_street 0 = .ok (.aload_n 0, 1) := kd_r kbX12_street ki_0 rfl
theorem dX12_street_1 : decode cX12_street 1 = .ok (.getfield 106, 3) := kd_r kbX12_street ki_750 rfl
theorem dX12_street_4 : decode cX12_street 4 = .ok (.bipush 6, 2) := kd_r kbX12_street ki_2 rfl
theorem dX12_street_6 : decode cX12_street 6 = .ok (.if_icmp .ne 6, 3) := kd_r kbX12_street ki_604 rfl
theorem dX12_street_9 : decode cX12_street 9 = .ok (.bipush (-3), 2) := kd_r kbX12_street ki_293 rfl
theorem dX12_street_11 : decode cX12_street 11 = .ok (.ireturn, 1) := kd_r kbX12_street ki_7 rfl
theorem dX12_street_12 : decode cX12_street 12 = .ok (.aload_n 0, 1) := kd_r kbX12_street ki_0 rfl
theorem dX12_street_13 : decode cX12_street 13 = .ok (.getfield 9, 3) := kd_r kbX12_street ki_13 rfl
theorem dX12_street_16 : decode cX12_street 16 = .ok (.aload_n 0, 1) := kd_r kbX12_street ki_0 rfl
theorem dX12_street_17 : decode cX12_street 17 = .ok (.getfield 106, 3) := kd_r kbX12_street ki_750 rfl
theorem dX12_street_20 : decode cX12_street 20 = .ok (.iconst 0, 1) := kd_r kbX12_street ki_20 rfl
theorem dX12_street_21 : decode cX12_street 21 = .ok (.iastore, 1) := kd_r kbX12_street ki_28 rfl
theorem dX12_street_22 : decode cX12_street 22 = .ok (.aload_n 0, 1) := kd_r kbX12_street ki_0 rfl
theorem dX12_street_23 : decode cX12_street 23 = .ok (.dup, 1) := kd_r kbX12_street ki_29 rfl
theorem dX12_street_24 : decode cX12_street 24 = .ok (.getfield 106, 3) := kd_r kbX12_street ki_750 rfl
theorem dX12_street_27 : decode cX12_street 27 = .ok (.iconst 1, 1) := kd_r kbX12_street ki_16 rfl
theorem dX12_street_28 : decode cX12_street 28 = .ok (.iadd, 1) := kd_r kbX12_street ki_30 rfl
theorem dX12_street_29 : decode cX12_street 29 = .ok (.putfield 106, 3) := kd_r kbX12_street ki_757 rfl
theorem dX12_street_32 : decode cX12_street 32 = .ok (.aload_n 0, 1) := kd_r kbX12_street ki_0 rfl
theorem dX12_street_33 : decode cX12_street 33 = .ok (.getfield 106, 3) := kd_r kbX12_street ki_750 rfl
theorem dX12_street_36 : decode cX12_street 36 = .ok (.iconst 1, 1) := kd_r kbX12_street ki_16 rfl
theorem dX12_street_37 : decode cX12_street 37 = .ok (.isub, 1) := kd_r kbX12_street ki_50 rfl
theorem dX12_street_38 : decode cX12_street 38 = .ok (.ireturn, 1) := kd_r kbX12_street ki_7 rfl
theorem dX12_sets_0 : decode cX12_sets 0 = .ok (.aload_n 0, 1) := kd_r kbX12_sets ki_0 rfl
theorem dX12_sets_1 : decode cX12_sets 1 = .ok (.getfield 13, 3) := kd_r kbX12_sets ki_53 rfl
theorem dX12_sets_4 : decode cX12_sets 4 = .ok (.bipush 40, 2) := kd_r kbX12_sets ki_44 rfl
theorem dX12_sets_6 : decode cX12_sets 6 = .ok (.iload_n 1, 1) := kd_r kbX12_sets ki_8 rfl
theorem dX12_sets_7 : decode cX12_sets 7 = .ok (.imul, 1) := kd_r kbX12_sets ki_114 rfl
theorem dX12_sets_8 : decode cX12_sets 8 = .ok (.iload_n 2, 1) := kd_r kbX12_sets ki_11 rfl
theorem dX12_sets_9 : decode cX12_sets 9 = .ok (.iadd, 1) := kd_r kbX12_sets ki_30 rfl
theorem dX12_sets_10 : decode cX12_sets 10 = .ok (.iload_n 3, 1) := kd_r kbX12_sets ki_55 rfl
theorem dX12_sets_11 : decode cX12_sets 11 = .ok (.iastore, 1) := kd_r kbX12_sets ki_28 rfl
theorem dX12_sets_12 : decode cX12_sets 12 = .ok (.aload_n 0, 1) := kd_r kbX12_sets ki_0 rfl
theorem dX12_sets_13 : decode cX12_sets 13 = .ok (.getfield 13, 3) := kd_r kbX12_sets ki_53 rfl
theorem dX12_sets_16 : decode cX12_sets 16 = .ok (.sipush 280, 3) := kd_r kbX12_sets ki_752 rfl
theorem dX12_sets_19 : decode cX12_sets 19 = .ok (.bipush 40, 2) := kd_r kbX12_sets ki_44 rfl
theorem dX12_sets_21 : decode cX12_sets 21 = .ok (.iload_n 1, 1) := kd_r kbX12_sets ki_8 rfl
theorem dX12_sets_22 : decode cX12_sets 22 = .ok (.imul, 1) := kd_r kbX12_sets ki_114 rfl
theorem dX12_sets_23 : decode cX12_sets 23 = .ok (.iadd, 1) := kd_r kbX12_sets ki_30 rfl
theorem dX12_sets_24 : decode cX12_sets 24 = .ok (.iload_n 2, 1) := kd_r kbX12_sets ki_11 rfl
theorem dX12_sets_25 : decode cX12_sets 25 = .ok (.iadd, 1) := kd_r kbX12_sets ki_30 rfl
theorem dX12_sets_26 : decode cX12_sets 26 = .ok (.iload 4, 2) := kd_r kbX12_sets ki_57 rfl
theorem dX12_sets_28 : decode cX12_sets 28 = .ok (.iastore, 1) := kd_r kbX12_sets ki_28 rfl
theorem dX12_sets_29 : decode cX12_sets 29 = .ok (.aload_n 0, 1) := kd_r kbX12_sets ki_0 rfl
theorem dX12_sets_30 : decode cX12_sets 30 = .ok (.getfield 13, 3) := kd_r kbX12_sets ki_53 rfl
theorem dX12_sets_33 : decode cX12_sets 33 = .ok (.sipush 560, 3) := kd_r kbX12_sets ki_753 rfl
theorem dX12_sets_36 : decode cX12_sets 36 = .ok (.bipush 40, 2) := kd_r kbX12_sets ki_44 rfl
theorem dX12_sets_38 : decode cX12_sets 38 = .ok (.iload_n 1, 1) := kd_r kbX12_sets ki_8 rfl
theorem dX12_sets_39 : decode cX12_sets 39 = .ok (.imul, 1) := kd_r kbX12_sets ki_114 rfl
theorem dX12_sets_40 : decode cX12_sets 40 = .ok (.iadd, 1) := kd_r kbX12_sets ki_30 rfl
theorem dX12_sets_41 : decode cX12_sets 41 = .ok (.iload_n 2, 1) := kd_r kbX12_sets ki_11 rfl
theorem dX12_sets_42 : decode cX12_sets 42 = .ok (.iadd, 1) := kd_r kbX12_sets ki_30 rfl
theorem dX12_sets_43 : decode cX12_sets 43 = .ok (.iload 5, 2) := kd_r kbX12_sets ki_134 rfl
theorem dX12_sets_45 : decode cX12_sets 45 = .ok (.iastore, 1) := kd_r kbX12_sets ki_28 rfl
theorem dX12_sets_46 : decode cX12_sets 46 = .ok (.return_, 1) := kd_r kbX12_sets ki_5 rfl
set_option maxRecDepth 20000 in
theorem ggX12_mayCome_X12_within : GoodIn wsX12_mayCome wsX12_within := goodIn_r _ [8] rfl (by decide +kernel)
set_option maxRecDepth 20000 in
theorem gX12_mayCome_X12_within : GoodIn wsX12_mayCome (va_wsS RX12 109 yX12_within wsX12_within) := goodIn_app (goodIn_of _ (by decide +kernel)) ggX12_mayCome_X12_within
theorem dX12_mayCome_0 : decode cX12_mayCome 0 = .ok (.iload_n 2, 1) := kd_r kbX12_mayCome ki_11 rfl
theorem dX12_mayCome_1 : decode cX12_mayCome 1 = .ok (.i2l, 1) := kd_r kbX12_mayCome ki_399 rfl
theorem dX12_mayCome_2 : decode cX12_mayCome 2 = .ok (.lconst 1, 1) := kd_r kbX12_mayCome ki_124 rfl
theorem dX12_mayCome_3 : decode cX12_mayCome 3 = .ok (.ldc2_w 120, 3) := kd_r kbX12_mayCome ki_758 rfl
theorem dX12_mayCome_6 : decode cX12_mayCome 6 = .ok (.invokestatic 109, 3) := kd_r kbX12_mayCome ki_751 rfl
theorem dX12_mayCome_9 : decode cX12_mayCome 9 = .ok (.ifCond .eq 48, 3) := kd_r kbX12_mayCome ki_759 rfl
theorem dX12_mayCome_12 : decode cX12_mayCome 12 = .ok (.iload_n 3, 1) := kd_r kbX12_mayCome ki_55 rfl
theorem dX12_mayCome_13 : decode cX12_mayCome 13 = .ok (.i2l, 1) := kd_r kbX12_mayCome ki_399 rfl
theorem dX12_mayCome_14 : decode cX12_mayCome 14 = .ok (.lconst 0, 1) := kd_r kbX12_mayCome ki_172 rfl
theorem dX12_mayCome_15 : decode cX12_mayCome 15 = .ok (.ldc2_w 120, 3) := kd_r kbX12_mayCome ki_758 rfl
theorem dX12_mayCome_18 : decode cX12_mayCome 18 = .ok (.invokestatic 109, 3) := kd_r kbX12_mayCome ki_751 rfl
theorem dX12_mayCome_21 : decode cX12_mayCome 21 = .ok (.ifCond .eq 36, 3) := kd_r kbX12_mayCome ki_760 rfl
theorem dX12_mayCome_24 : decode cX12_mayCome 24 = .ok (.iload 4, 2) := kd_r kbX12_mayCome ki_57 rfl
theorem dX12_mayCome_26 : decode cX12_mayCome 26 = .ok (.i2l, 1) := kd_r kbX12_mayCome ki_399 rfl
theorem dX12_mayCome_27 : decode cX12_mayCome 27 = .ok (.ldc2_w 122, 3) := kd_r kbX12_mayCome ki_761 rfl
theorem dX12_mayCome_30 : decode cX12_mayCome 30 = .ok (.ldc2_w 124, 3) := kd_r kbX12_mayCome ki_762 rfl
theorem dX12_mayCome_33 : decode cX12_mayCome 33 = .ok (.invokestatic 109, 3) := kd_r kbX12_mayCome ki_751 rfl
theorem dX12_mayCome_36 : decode cX12_mayCome 36 = .ok (.ifCond .eq 21, 3) := kd_r kbX12_mayCome ki_422 rfl
theorem dX12_mayCome_39 : decode cX12_mayCome 39 = .ok (.aload_n 0, 1) := kd_r kbX12_mayCome ki_0 rfl
theorem dX12_mayCome_40 : decode cX12_mayCome 40 = .ok (.getfield 9, 3) := kd_r kbX12_mayCome ki_13 rfl
theorem dX12_mayCome_43 : decode cX12_mayCome 43 = .ok (.iload_n 1, 1) := kd_r kbX12_mayCome ki_8 rfl
theorem dX12_mayCome_44 : decode cX12_mayCome 44 = .ok (.iaload, 1) := kd_r kbX12_mayCome ki_14 rfl
theorem dX12_mayCome_45 : decode cX12_mayCome 45 = .ok (.ifCond .gt 8, 3) := kd_r kbX12_mayCome ki_763 rfl
theorem dX12_mayCome_48 : decode cX12_mayCome 48 = .ok (.iload 4, 2) := kd_r kbX12_mayCome ki_57 rfl
theorem dX12_mayCome_50 : decode cX12_mayCome 50 = .ok (.ifCond .ne 7, 3) := kd_r kbX12_mayCome ki_260 rfl
theorem dX12_mayCome_53 : decode cX12_mayCome 53 = .ok (.iconst 1, 1) := kd_r kbX12_mayCome ki_16 rfl
theorem dX12_mayCome_54 : decode cX12_mayCome 54 = .ok (.goto 4, 3) := kd_r kbX12_mayCome ki_19 rfl
theorem dX12_mayCome_57 : decode cX12_mayCome 57 = .ok (.iconst 0, 1) := kd_r kbX12_mayCome ki_20 rfl
theorem dX12_mayCome_58 : decode cX12_mayCome 58 = .ok (.ireturn, 1) := kd_r kbX12_mayCome ki_7 rfl
set_option maxRecDepth 20000 in
theorem ggX12_plot_X12_isStreet : GoodIn wsX12_plot wsX12_isStreet := goodIn_r _ [6, 7, 8, 9, 5, 10, 23, 24, 25, 26, 27, 28, 29, 30, 31, 32, 33, 34, 35, 36, 37, 38, 39, 40, 41, 42, 43, 44, 45, 46, 47, 48, 49, 50, 51, 52, 53, 54, 55, 56, 57, 58, 59, 60, 61, 62, 63, 64, 65, 66, 67, 68, 69, 70, 71] rfl (by decide +kernel)
set_option maxRecDepth 20000 in
theorem gX12_plot_X12_isStreet : GoodIn wsX12_plot (wsV RX12 126 RX12 yX12_isStreet wsX12_isStreet) := goodIn_app (goodIn_of _ (by decide +kernel)) ggX12_plot_X12_isStreet
set_option maxRecDepth 20000 in
theorem ggX12_plot_X12_mayCome : GoodIn wsX12_plot wsX12_mayCome := goodIn_r _ [14, 15, 16, 17, 1, 8, 9, 5, 10, 23, 24, 25, 26, 27, 28, 29, 30, 31, 32, 33, 34, 35, 36, 37, 38, 39, 40, 41, 42, 43, 44, 45, 46, 47, 48, 49, 50, 51, 52, 53, 54, 55, 56, 57, 58, 59, 60, 61, 62, 63, 64, 65, 66, 67, 68, 69, 70, 71] rfl (by decide +kernel)
set_option maxRecDepth 20000 in
theorem gX12_plot_X12_mayCome : GoodIn wsX12_plot (wsV RX12 130 RX12 yX12_mayCome wsX12_mayCome) := goodIn_app (goodIn_of _ (by decide +kernel)) ggX12_plot_X12_mayCome
set_option maxRecDepth 20000 in
theorem ggX12_plot_X12_sets : GoodIn wsX12_plot wsX12_sets := goodIn_r _ [21, 22, 23, 24, 25, 26, 27, 28, 29, 30, 31, 32, 33, 34, 35, 36, 37, 38, 39, 40, 41, 42, 43, 44, 45, 46, 47, 48, 49, 50, 51, 52, 53, 54, 55, 56, 57, 58, 59, 60, 61, 62, 63, 64, 65, 66, 67, 68, 69, 70, 71] rfl (by decide +kernel)
set_option maxRecDepth 20000 in
theorem gX12_plot_X12_sets : GoodIn wsX12_plot (wsV RX12 134 RX12 yX12_sets wsX12_sets) := goodIn_app (goodIn_of _ (by decide +kernel)) ggX12_plot_X12_sets
theorem dX12_plot_0 : decode cX12_plot 0 = .ok (.aload_n 0, 1) := kd_r kbX12_plot ki_0 rfl
theorem dX12_plot_1 : decode cX12_plot 1 = .ok (.iload_n 1, 1) := kd_r kbX12_plot ki_8 rfl
theorem dX12_plot_2 : decode cX12_plot 2 = .ok (.invokevirtual 126, 3) := kd_r kbX12_plot ki_764 rfl
theorem dX12_plot_5 : decode cX12_plot 5 = .ok (.ifCond .eq 29, 3) := kd_r kbX12_plot ki_765 rfl
theorem dX12_plot_8 : decode cX12_plot 8 = .ok (.iload_n 3, 1) := kd_r kbX12_plot ki_55 rfl
theorem dX12_plot_9 : decode cX12_plot 9 = .ok (.ifCond .lt 25, 3) := kd_r kbX12_plot ki_267 rfl
theorem dX12_plot_12 : decode cX12_plot 12 = .ok (.aload_n 0, 1) := kd_r kbX12_plot ki_0 rfl
theorem dX12_plot_13 : decode cX12_plot 13 = .ok (.iload_n 1, 1) := kd_r kbX12_plot ki_8 rfl
theorem dX12_plot_14 : decode cX12_plot 14 = .ok (.iload_n 2, 1) := kd_r kbX12_plot ki_11 rfl
theorem dX12_plot_15 : decode cX12_plot 15 = .ok (.iload_n 3, 1) := kd_r kbX12_plot ki_55 rfl
theorem dX12_plot_16 : decode cX12_plot 16 = .ok (.sipush 1000, 3) := kd_r kbX12_plot ki_188 rfl
theorem dX12_plot_19 : decode cX12_plot 19 = .ok (.irem, 1) := kd_r kbX12_plot ki_227 rfl
theorem dX12_plot_20 : decode cX12_plot 20 = .ok (.iload_n 3, 1) := kd_r kbX12_plot ki_55 rfl
theorem dX12_plot_21 : decode cX12_plot 21 = .ok (.sipush 1000, 3) := kd_r kbX12_plot ki_188 rfl
theorem dX12_plot_24 : decode cX12_plot 24 = .ok (.idiv, 1) := kd_r kbX12_plot ki_225 rfl
theorem dX12_plot_25 : decode cX12_plot 25 = .ok (.bipush 99, 2) := kd_r kbX12_plot ki_411 rfl
theorem dX12_plot_27 : decode cX12_plot 27 = .ok (.isub, 1) := kd_r kbX12_plot ki_50 rfl
theorem dX12_plot_28 : decode cX12_plot 28 = .ok (.invokevirtual 130, 3) := kd_r kbX12_plot ki_766 rfl
theorem dX12_plot_31 : decode cX12_plot 31 = .ok (.ifCond .ne 5, 3) := kd_r kbX12_plot ki_36 rfl
theorem dX12_plot_34 : decode cX12_plot 34 = .ok (.iconst (-1), 1) := kd_r kbX12_plot ki_99 rfl
theorem dX12_plot_35 : decode cX12_plot 35 = .ok (.ireturn, 1) := kd_r kbX12_plot ki_7 rfl
theorem dX12_plot_36 : decode cX12_plot 36 = .ok (.aload_n 0, 1) := kd_r kbX12_plot ki_0 rfl
theorem dX12_plot_37 : decode cX12_plot 37 = .ok (.getfield 9, 3) := kd_r kbX12_plot ki_13 rfl
theorem dX12_plot_40 : decode cX12_plot 40 = .ok (.iload_n 1, 1) := kd_r kbX12_plot ki_8 rfl
theorem dX12_plot_41 : decode cX12_plot 41 = .ok (.iaload, 1) := kd_r kbX12_plot ki_14 rfl
theorem dX12_plot_42 : decode cX12_plot 42 = .ok (.bipush 40, 2) := kd_r kbX12_plot ki_44 rfl
theorem dX12_plot_44 : decode cX12_plot 44 = .ok (.if_icmp .ne 6, 3) := kd_r kbX12_plot ki_604 rfl
theorem dX12_plot_47 : decode cX12_plot 47 = .ok (.bipush (-3), 2) := kd_r kbX12_plot ki_293 rfl
theorem dX12_plot_49 : decode cX12_plot 49 = .ok (.ireturn, 1) := kd_r kbX12_plot ki_7 rfl
theorem dX12_plot_50 : decode cX12_plot 50 = .ok (.aload_n 0, 1) := kd_r kbX12_plot ki_0 rfl
theorem dX12_plot_51 : decode cX12_plot 51 = .ok (.iload_n 1, 1) := kd_r kbX12_plot ki_8 rfl
theorem dX12_plot_52 : decode cX12_plot 52 = .ok (.aload_n 0, 1) := kd_r kbX12_plot ki_0 rfl
theorem dX12_plot_53 : decode cX12_plot 53 = .ok (.getfield 9, 3) := kd_r kbX12_plot ki_13 rfl
theorem dX12_plot_56 : decode cX12_plot 56 = .ok (.iload_n 1, 1) := kd_r kbX12_plot ki_8 rfl
theorem dX12_plot_57 : decode cX12_plot 57 = .ok (.iaload, 1) := kd_r kbX12_plot ki_14 rfl
theorem dX12_plot_58 : decode cX12_plot 58 = .ok (.iload_n 2, 1) := kd_r kbX12_plot ki_11 rfl
theorem dX12_plot_59 : decode cX12_plot 59 = .ok (.iload_n 3, 1) := kd_r kbX12_plot ki_55 rfl
theorem dX12_plot_60 : decode cX12_plot 60 = .ok (.sipush 1000, 3) := kd_r kbX12_plot ki_188 rfl
theorem dX12_plot_63 : decode cX12_plot 63 = .ok (.irem, 1) := kd_r kbX12_plot ki_227 rfl
theorem dX12_plot_64 : decode cX12_plot 64 = .ok (.iload_n 3, 1) := kd_r kbX12_plot ki_55 rfl
theorem dX12_plot_65 : decode cX12_plot 65 = .ok (.sipush 1000, 3) := kd_r kbX12_plot ki_188 rfl
theorem dX12_plot_68 : decode cX12_plot 68 = .ok (.idiv, 1) := kd_r kbX12_plot ki_225 rfl
theorem dX12_plot_69 : decode cX12_plot 69 = .ok (.bipush 99, 2) := kd_r kbX12_plot ki_411 rfl
theorem dX12_plot_71 : decode cX12_plot 71 = .ok (.isub, 1) := kd_r kbX12_plot ki_50 rfl
theorem dX12_plot_72 : decode cX12_plot 72 = .ok (.invokevirtual 134, 3) := kd_r kbX12_plot ki_767 rfl
theorem dX12_plot_75 : decode cX12_plot 75 = .ok (.aload_n 0, 1) := kd_r kbX12_plot ki_0 rfl
theorem dX12_plot_76 : decode cX12_plot 76 = .ok (.getfield 9, 3) := kd_r kbX12_plot ki_13 rfl
theorem dX12_plot_79 : decode cX12_plot 79 = .ok (.iload_n 1, 1) := kd_r kbX12_plot ki_8 rfl
theorem dX12_plot_80 : decode cX12_plot 80 = .ok (.dup2, 1) := kd_r kbX12_plot ki_25 rfl
theorem dX12_plot_81 : decode cX12_plot 81 = .ok (.iaload, 1) := kd_r kbX12_plot ki_14 rfl
theorem dX12_plot_82 : decode cX12_plot 82 = .ok (.iconst 1, 1) := kd_r kbX12_plot ki_16 rfl
theorem dX12_plot_83 : decode cX12_plot 83 = .ok (.iadd, 1) := kd_r kbX12_plot ki_30 rfl
theorem dX12_plot_84 : decode cX12_plot 84 = .ok (.iastore, 1) := kd_r kbX12_plot ki_28 rfl
theorem dX12_plot_85 : decode cX12_plot 85 = .ok (.aload_n 0, 1) := kd_r kbX12_plot ki_0 rfl
theorem dX12_plot_86 : decode cX12_plot 86 = .ok (.getfield 9, 3) := kd_r kbX12_plot ki_13 rfl
theorem dX12_plot_89 : decode cX12_plot 89 = .ok (.iload_n 1, 1) := kd_r kbX12_plot ki_8 rfl
theorem dX12_plot_90 : decode cX12_plot 90 = .ok (.iaload, 1) := kd_r kbX12_plot ki_14 rfl
theorem dX12_plot_91 : decode cX12_plot 91 = .ok (.iconst 1, 1) := kd_r kbX12_plot ki_16 rfl
theorem dX12_plot_92 : decode cX12_plot 92 = .ok (.isub, 1) := kd_r kbX12_plot ki_50 rfl
theorem dX12_plot_93 : decode cX12_plot 93 = .ok (.ireturn, 1) := kd_r kbX12_plot ki_7 rfl
set_option maxRecDepth 20000 in
theorem ggX12_plots_X12_isStreet : GoodIn wsX12_plots wsX12_isStreet := goodIn_r _ [10, 11, 12, 13, 9, 14, 31, 32, 33, 34, 35, 36, 37, 38, 39, 40, 41, 42, 43, 44, 45, 46, 47, 48, 49, 50, 51, 52, 53, 54, 55, 56, 57, 58, 59, 60, 61, 62, 63, 64, 65, 66, 67, 68, 69, 70, 71, 72, 73, 74, 75, 76, 77, 78, 79] rfl (by decide +kernel)
set_option maxRecDepth 20000 in
theorem gX12_plots_X12_isStreet : GoodIn wsX12_plots (wsV RX12 126 RX12 yX12_isStreet wsX12_isStreet) := goodIn_app (goodIn_of _ (by decide +kernel)) ggX12_plots_X12_isStreet
set_option maxRecDepth 20000 in
theorem ggX12_plots_X12_isShelf : GoodIn wsX12_plots wsX12_isShelf := goodIn_r _ [17, 18, 12, 13, 9, 14] rfl (by decide +kernel)
set_option maxRecDepth 20000 in
theorem gX12_plots_X12_isShelf : GoodIn wsX12_plots (va_wsS RX12 138 yX12_isShelf wsX12_isShelf) := goodIn_app (goodIn_of _ (by decide +kernel)) ggX12_plots_X12_isShelf
set_option maxRecDepth 20000 in
theorem ggX12_plots_X12_within : GoodIn wsX12_plots wsX12_within := goodIn_r _ [14] rfl (by decide +kernel)
set_option maxRecDepth 20000 in
theorem gX12_plots_X12_within : GoodIn wsX12_plots (va_wsS RX12 109 yX12_within wsX12_within) := goodIn_app (goodIn_of _ (by decide +kernel)) ggX12_plots_X12_within
set_option maxRecDepth 20000 in
theorem ggX12_plots_X12_mayCome : GoodIn wsX12_plots wsX12_mayCome := goodIn_r _ [22, 23, 24, 25, 4, 12, 13, 9, 14, 31, 32, 33, 34, 35, 36, 37, 38, 39, 40, 41, 42, 43, 44, 45, 46, 47, 48, 49, 50, 51, 52, 53, 54, 55, 56, 57, 58, 59, 60, 61, 62, 63, 64, 65, 66, 67, 68, 69, 70, 71, 72, 73, 74, 75, 76, 77, 78, 79] rfl (by decide +kernel)
set_option maxRecDepth 20000 in
theorem gX12_plots_X12_mayCome : GoodIn wsX12_plots (wsV RX12 130 RX12 yX12_mayCome wsX12_mayCome) := goodIn_app (goodIn_of _ (by decide +kernel)) ggX12_plots_X12_mayCome
set_option maxRecDepth 20000 in
theorem ggX12_plots_X12_sets : GoodIn wsX12_plots wsX12_sets := goodIn_r _ [29, 30, 31, 32, 33, 34, 35, 36, 37, 38, 39, 40, 41, 42, 43, 44, 45, 46, 47, 48, 49, 50, 51, 52, 53, 54, 55, 56, 57, 58, 59, 60, 61, 62, 63, 64, 65, 66, 67, 68, 69, 70, 71, 72, 73, 74, 75, 76, 77, 78, 79] rfl (by decide +kernel)
set_option maxRecDepth 20000 in
theorem gX12_plots_X12_sets : GoodIn wsX12_plots (wsV RX12 134 RX12 yX12_sets wsX12_sets) := goodIn_app (goodIn_of _ (by decide +kernel)) ggX12_plots_X12_sets
theorem dX12_plots_0 : decode cX12_plots 0 = .ok (.aload_n 0, 1) := kd_r kbX12_plots ki_0 rfl
theorem dX12_plots_1 : decode cX12_plots 1 = .ok (.iload_n 1, 1) := kd_r kbX12_plots ki_8 rfl
theorem dX12_plots_2 : decode cX12_plots 2 = .ok (.invokevirtual 126, 3) := kd_r kbX12_plots ki_764 rfl
theorem dX12_plots_5 : decode cX12_plots 5 = .ok (.ifCond .eq 23, 3) := kd_r kbX12_plots ki_768 rfl
theorem dX12_plots_8 : decode cX12_plots 8 = .ok (.iload_n 2, 1) := kd_r kbX12_plots ki_11 rfl
theorem dX12_plots_9 : decode cX12_plots 9 = .ok (.invokestatic 138, 3) := kd_r kbX12_plots ki_769 rfl
theorem dX12_plots_12 : decode cX12_plots 12 = .ok (.ifCond .eq 16, 3) := kd_r kbX12_plots ki_35 rfl
theorem dX12_plots_15 : decode cX12_plots 15 = .ok (.iload 4, 2) := kd_r kbX12_plots ki_57 rfl
theorem dX12_plots_17 : decode cX12_plots 17 = .ok (.i2l, 1) := kd_r kbX12_plots ki_399 rfl
theorem dX12_plots_18 : decode cX12_plots 18 = .ok (.lconst 1, 1) := kd_r kbX12_plots ki_124 rfl
theorem dX12_plots_19 : decode cX12_plots 19 = .ok (.ldc2_w 141, 3) := kd_r kbX12_plots ki_770 rfl
theorem dX12_plots_22 : decode cX12_plots 22 = .ok (.invokestatic 109, 3) := kd_r kbX12_plots ki_751 rfl
theorem dX12_plots_25 : decode cX12_plots 25 = .ok (.ifCond .ne 5, 3) := kd_r kbX12_plots ki_36 rfl
theorem dX12_plots_28 : decode cX12_plots 28 = .ok (.iconst (-1), 1) := kd_r kbX12_plots ki_99 rfl
theorem dX12_plots_29 : decode cX12_plots 29 = .ok (.ireturn, 1) := kd_r kbX12_plots ki_7 rfl
theorem dX12_plots_30 : decode cX12_plots 30 = .ok (.aload_n 0, 1) := kd_r kbX12_plots ki_0 rfl
theorem dX12_plots_31 : decode cX12_plots 31 = .ok (.getfield 86, 3) := kd_r kbX12_plots ki_743 rfl
theorem dX12_plots_34 : decode cX12_plots 34 = .ok (.iload_n 2, 1) := kd_r kbX12_plots ki_11 rfl
theorem dX12_plots_35 : decode cX12_plots 35 = .ok (.iaload, 1) := kd_r kbX12_plots ki_14 rfl
theorem dX12_plots_36 : decode cX12_plots 36 = .ok (.ifCond .lt 17, 3) := kd_r kbX12_plots ki_771 rfl
theorem dX12_plots_39 : decode cX12_plots 39 = .ok (.aload_n 0, 1) := kd_r kbX12_plots ki_0 rfl
theorem dX12_plots_40 : decode cX12_plots 40 = .ok (.getfield 86, 3) := kd_r kbX12_plots ki_743 rfl
theorem dX12_plots_43 : decode cX12_plots 43 = .ok (.iload_n 2, 1) := kd_r kbX12_plots ki_11 rfl
theorem dX12_plots_44 : decode cX12_plots 44 = .ok (.iaload, 1) := kd_r kbX12_plots ki_14 rfl
theorem dX12_plots_45 : decode cX12_plots 45 = .ok (.bipush 51, 2) := kd_r kbX12_plots ki_772 rfl
theorem dX12_plots_47 : decode cX12_plots 47 = .ok (.if_icmp .eq 6, 3) := kd_r kbX12_plots ki_773 rfl
theorem dX12_plots_50 : decode cX12_plots 50 = .ok (.bipush (-12), 2) := kd_r kbX12_plots ki_389 rfl
theorem dX12_plots_52 : decode cX12_plots 52 = .ok (.ireturn, 1) := kd_r kbX12_plots ki_7 rfl
theorem dX12_plots_53 : decode cX12_plots 53 = .ok (.iconst 0, 1) := kd_r kbX12_plots ki_20 rfl
theorem dX12_plots_54 : decode cX12_plots 54 = .ok (.istore 5, 2) := kd_r kbX12_plots ki_133 rfl
theorem dX12_plots_56 : decode cX12_plots 56 = .ok (.aload_n 0, 1) := kd_r kbX12_plots ki_0 rfl
theorem dX12_plots_57 : decode cX12_plots 57 = .ok (.getfield 86, 3) := kd_r kbX12_plots ki_743 rfl
theorem dX12_plots_60 : decode cX12_plots 60 = .ok (.iload_n 2, 1) := kd_r kbX12_plots ki_11 rfl
theorem dX12_plots_61 : decode cX12_plots 61 = .ok (.iaload, 1) := kd_r kbX12_plots ki_14 rfl
theorem dX12_plots_62 : decode cX12_plots 62 = .ok (.bipush 51, 2) := kd_r kbX12_plots ki_772 rfl
theorem dX12_plots_64 : decode cX12_plots 64 = .ok (.if_icmp .ne 11, 3) := kd_r kbX12_plots ki_774 rfl
theorem dX12_plots_67 : decode cX12_plots 67 = .ok (.iload_n 3, 1) := kd_r kbX12_plots ki_55 rfl
theorem dX12_plots_68 : decode cX12_plots 68 = .ok (.ifCond .lt 7, 3) := kd_r kbX12_plots ki_775 rfl
theorem dX12_plots_71 : decode cX12_plots 71 = .ok (.iconst 1, 1) := kd_r kbX12_plots ki_16 rfl
theorem dX12_plots_72 : decode cX12_plots 72 = .ok (.goto 4, 3) := kd_r kbX12_plots ki_19 rfl
theorem dX12_plots_75 : decode cX12_plots 75 = .ok (.iconst 0, 1) := kd_r kbX12_plots ki_20 rfl
theorem dX12_plots_76 : decode cX12_plots 76 = .ok (.istore 6, 2) := kd_r kbX12_plots ki_199 rfl
theorem dX12_plots_78 : decode cX12_plots 78 = .ok (.iload 6, 2) := kd_r kbX12_plots ki_200 rfl
theorem dX12_plots_80 : decode cX12_plots 80 = .ok (.ifCond .eq 166, 3) := kd_r kbX12_plots ki_776 rfl
theorem dX12_plots_83 : decode cX12_plots 83 = .ok (.iload 5, 2) := kd_r kbX12_plots ki_134 rfl
theorem dX12_plots_85 : decode cX12_plots 85 = .ok (.iload 4, 2) := kd_r kbX12_plots ki_57 rfl
theorem dX12_plots_87 : decode cX12_plots 87 = .ok (.if_icmp .ge 159, 3) := kd_r kbX12_plots ki_777 rfl
theorem dX12_plots_90 : decode cX12_plots 90 = .ok (.iload_n 3, 1) := kd_r kbX12_plots ki_55 rfl
theorem dX12_plots_91 : decode cX12_plots 91 = .ok (.aload_n 0, 1) := kd_r kbX12_plots ki_0 rfl
theorem dX12_plots_92 : decode cX12_plots 92 = .ok (.getfield 89, 3) := kd_r kbX12_plots ki_778 rfl
theorem dX12_plots_95 : decode cX12_plots 95 = .ok (.iload_n 2, 1) := kd_r kbX12_plots ki_11 rfl
theorem dX12_plots_96 : decode cX12_plots 96 = .ok (.iaload, 1) := kd_r kbX12_plots ki_14 rfl
theorem dX12_plots_97 : decode cX12_plots 97 = .ok (.iconst 3, 1) := kd_r kbX12_plots ki_246 rfl
theorem dX12_plots_98 : decode cX12_plots 98 = .ok (.isub, 1) := kd_r kbX12_plots ki_50 rfl
theorem dX12_plots_99 : decode cX12_plots 99 = .ok (.iconst 3, 1) := kd_r kbX12_plots ki_246 rfl
theorem dX12_plots_100 : decode cX12_plots 100 = .ok (.iload 5, 2) := kd_r kbX12_plots ki_134 rfl
theorem dX12_plots_102 : decode cX12_plots 102 = .ok (.imul, 1) := kd_r kbX12_plots ki_114 rfl
theorem dX12_plots_103 : decode cX12_plots 103 = .ok (.isub, 1) := kd_r kbX12_plots ki_50 rfl
theorem dX12_plots_104 : decode cX12_plots 104 = .ok (.if_icmp .gt 18, 3) := kd_r kbX12_plots ki_402 rfl
theorem dX12_plots_107 : decode cX12_plots 107 = .ok (.aload_n 0, 1) := kd_r kbX12_plots ki_0 rfl
theorem dX12_plots_108 : decode cX12_plots 108 = .ok (.getfield 9, 3) := kd_r kbX12_plots ki_13 rfl
theorem dX12_plots_111 : decode cX12_plots 111 = .ok (.iload_n 1, 1) := kd_r kbX12_plots ki_8 rfl
theorem dX12_plots_112 : decode cX12_plots 112 = .ok (.iaload, 1) := kd_r kbX12_plots ki_14 rfl
theorem dX12_plots_113 : decode cX12_plots 113 = .ok (.bipush 40, 2) := kd_r kbX12_plots ki_44 rfl
theorem dX12_plots_115 : decode cX12_plots 115 = .ok (.if_icmp .ge 7, 3) := kd_r kbX12_plots ki_42 rfl
theorem dX12_plots_118 : decode cX12_plots 118 = .ok (.iconst 1, 1) := kd_r kbX12_plots ki_16 rfl
theorem dX12_plots_119 : decode cX12_plots 119 = .ok (.goto 4, 3) := kd_r kbX12_plots ki_19 rfl
theorem dX12_plots_122 : decode cX12_plots 122 = .ok (.iconst 0, 1) := kd_r kbX12_plots ki_20 rfl
theorem dX12_plots_123 : decode cX12_plots 123 = .ok (.istore 6, 2) := kd_r kbX12_plots ki_199 rfl
theorem dX12_plots_125 : decode cX12_plots 125 = .ok (.bipush 60, 2) := kd_r kbX12_plots ki_384 rfl
theorem dX12_plots_127 : decode cX12_plots 127 = .ok (.iload_n 2, 1) := kd_r kbX12_plots ki_11 rfl
theorem dX12_plots_128 : decode cX12_plots 128 = .ok (.imul, 1) := kd_r kbX12_plots ki_114 rfl
theorem dX12_plots_129 : decode cX12_plots 129 = .ok (.iload_n 3, 1) := kd_r kbX12_plots ki_55 rfl
theorem dX12_plots_130 : decode cX12_plots 130 = .ok (.iadd, 1) := kd_r kbX12_plots ki_30 rfl
theorem dX12_plots_131 : decode cX12_plots 131 = .ok (.iconst 3, 1) := kd_r kbX12_plots ki_246 rfl
theorem dX12_plots_132 : decode cX12_plots 132 = .ok (.iload 5, 2) := kd_r kbX12_plots ki_134 rfl
theorem dX12_plots_134 : decode cX12_plots 134 = .ok (.imul, 1) := kd_r kbX12_plots ki_114 rfl
theorem dX12_plots_135 : decode cX12_plots 135 = .ok (.iadd, 1) := kd_r kbX12_plots ki_30 rfl
theorem dX12_plots_136 : decode cX12_plots 136 = .ok (.istore 7, 2) := kd_r kbX12_plots ki_152 rfl
theorem dX12_plots_138 : decode cX12_plots 138 = .ok (.iload 6, 2) := kd_r kbX12_plots ki_200 rfl
theorem dX12_plots_140 : decode cX12_plots 140 = .ok (.ifCond .eq 43, 3) := kd_r kbX12_plots ki_779 rfl
theorem dX12_plots_143 : decode cX12_plots 143 = .ok (.aload_n 0, 1) := kd_r kbX12_plots ki_0 rfl
theorem dX12_plots_144 : decode cX12_plots 144 = .ok (.iload_n 1, 1) := kd_r kbX12_plots ki_8 rfl
theorem dX12_plots_145 : decode cX12_plots 145 = .ok (.aload_n 0, 1) := kd_r kbX12_plots ki_0 rfl
theorem dX12_plots_146 : decode cX12_plots 146 = .ok (.getfield 92, 3) := kd_r kbX12_plots ki_780 rfl
theorem dX12_plots_149 : decode cX12_plots 149 = .ok (.iload 7, 2) := kd_r kbX12_plots ki_153 rfl
theorem dX12_plots_151 : decode cX12_plots 151 = .ok (.laload, 1) := kd_r kbX12_plots ki_149 rfl
theorem dX12_plots_152 : decode cX12_plots 152 = .ok (.l2i, 1) := kd_r kbX12_plots ki_397 rfl
theorem dX12_plots_153 : decode cX12_plots 153 = .ok (.aload_n 0, 1) := kd_r kbX12_plots ki_0 rfl
theorem dX12_plots_154 : decode cX12_plots 154 = .ok (.getfield 92, 3) := kd_r kbX12_plots ki_780 rfl
theorem dX12_plots_157 : decode cX12_plots 157 = .ok (.iload 7, 2) := kd_r kbX12_plots ki_153 rfl
theorem dX12_plots_159 : decode cX12_plots 159 = .ok (.iconst 1, 1) := kd_r kbX12_plots ki_16 rfl
theorem dX12_plots_160 : decode cX12_plots 160 = .ok (.iadd, 1) := kd_r kbX12_plots ki_30 rfl
theorem dX12_plots_161 : decode cX12_plots 161 = .ok (.laload, 1) := kd_r kbX12_plots ki_149 rfl
theorem dX12_plots_162 : decode cX12_plots 162 = .ok (.l2i, 1) := kd_r kbX12_plots ki_397 rfl
theorem dX12_plots_163 : decode cX12_plots 163 = .ok (.aload_n 0, 1) := kd_r kbX12_plots ki_0 rfl
theorem dX12_plots_164 : decode cX12_plots 164 = .ok (.getfield 92, 3) := kd_r kbX12_plots ki_780 rfl
theorem dX12_plots_167 : decode cX12_plots 167 = .ok (.iload 7, 2) := kd_r kbX12_plots ki_153 rfl
theorem dX12_plots_169 : decode cX12_plots 169 = .ok (.iconst 2, 1) := kd_r kbX12_plots ki_244 rfl
theorem dX12_plots_170 : decode cX12_plots 170 = .ok (.iadd, 1) := kd_r kbX12_plots ki_30 rfl
theorem dX12_plots_171 : decode cX12_plots 171 = .ok (.laload, 1) := kd_r kbX12_plots ki_149 rfl
theorem dX12_plots_172 : decode cX12_plots 172 = .ok (.l2i, 1) := kd_r kbX12_plots ki_397 rfl
theorem dX12_plots_173 : decode cX12_plots 173 = .ok (.invokevirtual 130, 3) := kd_r kbX12_plots ki_766 rfl
theorem dX12_plots_176 : decode cX12_plots 176 = .ok (.ifCond .eq 7, 3) := kd_r kbX12_plots ki_18 rfl
theorem dX12_plots_179 : decode cX12_plots 179 = .ok (.iconst 1, 1) := kd_r kbX12_plots ki_16 rfl
theorem dX12_plots_180 : decode cX12_plots 180 = .ok (.goto 4, 3) := kd_r kbX12_plots ki_19 rfl
theorem dX12_plots_183 : decode cX12_plots 183 = .ok (.iconst 0, 1) := kd_r kbX12_plots ki_20 rfl
theorem dX12_plots_184 : decode cX12_plots 184 = .ok (.istore 6, 2) := kd_r kbX12_plots ki_199 rfl
theorem dX12_plots_186 : decode cX12_plots 186 = .ok (.iload 6, 2) := kd_r kbX12_plots ki_200 rfl
theorem dX12_plots_188 : decode cX12_plots 188 = .ok (.ifCond .eq 55, 3) := kd_r kbX12_plots ki_781 rfl
theorem dX12_plots_191 : decode cX12_plots 191 = .ok (.aload_n 0, 1) := kd_r kbX12_plots ki_0 rfl
theorem dX12_plots_192 : decode cX12_plots 192 = .ok (.iload_n 1, 1) := kd_r kbX12_plots ki_8 rfl
theorem dX12_plots_193 : decode cX12_plots 193 = .ok (.aload_n 0, 1) := kd_r kbX12_plots ki_0 rfl
theorem dX12_plots_194 : decode cX12_plots 194 = .ok (.getfield 9, 3) := kd_r kbX12_plots ki_13 rfl
theorem dX12_plots_197 : decode cX12_plots 197 = .ok (.iload_n 1, 1) := kd_r kbX12_plots ki_8 rfl
theorem dX12_plots_198 : decode cX12_plots 198 = .ok (.iaload, 1) := kd_r kbX12_plots ki_14 rfl
theorem dX12_plots_199 : decode cX12_plots 199 = .ok (.aload_n 0, 1) := kd_r kbX12_plots ki_0 rfl
theorem dX12_plots_200 : decode cX12_plots 200 = .ok (.getfield 92, 3) := kd_r kbX12_plots ki_780 rfl
theorem dX12_plots_203 : decode cX12_plots 203 = .ok (.iload 7, 2) := kd_r kbX12_plots ki_153 rfl
theorem dX12_plots_205 : decode cX12_plots 205 = .ok (.laload, 1) := kd_r kbX12_plots ki_149 rfl
theorem dX12_plots_206 : decode cX12_plots 206 = .ok (.l2i, 1) := kd_r kbX12_plots ki_397 rfl
theorem dX12_plots_207 : decode cX12_plots 207 = .ok (.aload_n 0, 1) := kd_r kbX12_plots ki_0 rfl
theorem dX12_plots_208 : decode cX12_plots 208 = .ok (.getfield 92, 3) := kd_r kbX12_plots ki_780 rfl
theorem dX12_plots_211 : decode cX12_plots 211 = .ok (.iload 7, 2) := kd_r kbX12_plots ki_153 rfl
theorem dX12_plots_213 : decode cX12_plots 213 = .ok (.iconst 1, 1) := kd_r kbX12_plots ki_16 rfl
theorem dX12_plots_214 : decode cX12_plots 214 = .ok (.iadd, 1) := kd_r kbX12_plots ki_30 rfl
theorem dX12_plots_215 : decode cX12_plots 215 = .ok (.laload, 1) := kd_r kbX12_plots ki_149 rfl
theorem dX12_plots_216 : decode cX12_plots 216 = .ok (.l2i, 1) := kd_r kbX12_plots ki_397 rfl
theorem dX12_plots_217 : decode cX12_plots 217 = .ok (.aload_n 0, 1) := kd_r kbX12_plots ki_0 rfl
theorem dX12_plots_218 : decode cX12_plots 218 = .ok (.getfield 92, 3) := kd_r kbX12_plots ki_780 rfl
theorem dX12_plots_221 : decode cX12_plots 221 = .ok (.iload 7, 2) := kd_r kbX12_plots ki_153 rfl
theorem dX12_plots_223 : decode cX12_plots 223 = .ok (.iconst 2, 1) := kd_r kbX12_plots ki_244 rfl
theorem dX12_plots_224 : decode cX12_plots 224 = .ok (.iadd, 1) := kd_r kbX12_plots ki_30 rfl
theorem dX12_plots_225 : decode cX12_plots 225 = .ok (.laload, 1) := kd_r kbX12_plots ki_149 rfl
theorem dX12_plots_226 : decode cX12_plots 226 = .ok (.l2i, 1) := kd_r kbX12_plots ki_397 rfl
theorem dX12_plots_227 : decode cX12_plots 227 = .ok (.invokevirtual 134, 3) := kd_r kbX12_plots ki_767 rfl
theorem dX12_plots_230 : decode cX12_plots 230 = .ok (.aload_n 0, 1) := kd_r kbX12_plots ki_0 rfl
theorem dX12_plots_231 : decode cX12_plots 231 = .ok (.getfield 9, 3) := kd_r kbX12_plots ki_13 rfl
theorem dX12_plots_234 : decode cX12_plots 234 = .ok (.iload_n 1, 1) := kd_r kbX12_plots ki_8 rfl
theorem dX12_plots_235 : decode cX12_plots 235 = .ok (.dup2, 1) := kd_r kbX12_plots ki_25 rfl
theorem dX12_plots_236 : decode cX12_plots 236 = .ok (.iaload, 1) := kd_r kbX12_plots ki_14 rfl
theorem dX12_plots_237 : decode cX12_plots 237 = .ok (.iconst 1, 1) := kd_r kbX12_plots ki_16 rfl
theorem dX12_plots_238 : decode cX12_plots 238 = .ok (.iadd, 1) := kd_r kbX12_plots ki_30 rfl
theorem dX12_plots_239 : decode cX12_plots 239 = .ok (.iastore, 1) := kd_r kbX12_plots ki_28 rfl
theorem dX12_plots_240 : decode cX12_plots 240 = .ok (.iinc 5 1, 3) := kd_r kbX12_plots ki_143 rfl
theorem dX12_plots_243 : decode cX12_plots 243 = .ok (.goto (-165), 3) := kd_r kbX12_plots ki_782 rfl
theorem dX12_plots_246 : decode cX12_plots 246 = .ok (.iload 5, 2) := kd_r kbX12_plots ki_134 rfl
theorem dX12_plots_248 : decode cX12_plots 248 = .ok (.ireturn, 1) := kd_r kbX12_plots ki_7 rfl
set_option maxRecDepth 20000 in
theorem ggX12_isPlot_X12_isStreet : GoodIn wsX12_isPlot wsX12_isStreet := goodIn_r _ [6, 7, 8, 9, 5, 10, 11, 12, 13, 14, 15, 16, 17, 18, 19, 20, 21, 22, 23, 24, 25, 26, 27, 28, 29, 30, 31, 32, 33, 34, 35, 36, 37, 38, 39, 40, 41, 42, 43, 44, 45, 46, 47, 48, 49, 50, 51, 52, 53, 54, 55, 56, 57, 58, 59] rfl (by decide +kernel)
set_option maxRecDepth 20000 in
theorem gX12_isPlot_X12_isStreet : GoodIn wsX12_isPlot (wsV RX12 126 RX12 yX12_isStreet wsX12_isStreet) := goodIn_app (goodIn_of _ (by decide +kernel)) ggX12_isPlot_X12_isStreet
set_option maxRecDepth 20000 in
theorem ggX12_isPlot_X12_within : GoodIn wsX12_isPlot wsX12_within := goodIn_r _ [10] rfl (by decide +kernel)
set_option maxRecDepth 20000 in
theorem gX12_isPlot_X12_within : GoodIn wsX12_isPlot (va_wsS RX12 109 yX12_within wsX12_within) := goodIn_app (goodIn_of _ (by decide +kernel)) ggX12_isPlot_X12_within
theorem dX12_isPlot_0 : decode cX12_isPlot 0 = .ok (.aload_n 0, 1) := kd_r kbX12_isPlot ki_0 rfl
theorem dX12_isPlot_1 : decode cX12_isPlot 1 = .ok (.iload_n 1, 1) := kd_r kbX12_isPlot ki_8 rfl
theorem dX12_isPlot_2 : decode cX12_isPlot 2 = .ok (.invokevirtual 126, 3) := kd_r kbX12_isPlot ki_764 rfl
theorem dX12_isPlot_5 : decode cX12_isPlot 5 = .ok (.ifCond .eq 25, 3) := kd_r kbX12_isPlot ki_783 rfl
theorem dX12_isPlot_8 : decode cX12_isPlot 8 = .ok (.iload_n 2, 1) := kd_r kbX12_isPlot ki_11 rfl
theorem dX12_isPlot_9 : decode cX12_isPlot 9 = .ok (.i2l, 1) := kd_r kbX12_isPlot ki_399 rfl
theorem dX12_isPlot_10 : decode cX12_isPlot 10 = .ok (.lconst 0, 1) := kd_r kbX12_isPlot ki_172 rfl
theorem dX12_isPlot_11 : decode cX12_isPlot 11 = .ok (.aload_n 0, 1) := kd_r kbX12_isPlot ki_0 rfl
theorem dX12_isPlot_12 : decode cX12_isPlot 12 = .ok (.getfield 9, 3) := kd_r kbX12_isPlot ki_13 rfl
theorem dX12_isPlot_15 : decode cX12_isPlot 15 = .ok (.iload_n 1, 1) := kd_r kbX12_isPlot ki_8 rfl
theorem dX12_isPlot_16 : decode cX12_isPlot 16 = .ok (.iaload, 1) := kd_r kbX12_isPlot ki_14 rfl
theorem dX12_isPlot_17 : decode cX12_isPlot 17 = .ok (.iconst 1, 1) := kd_r kbX12_isPlot ki_16 rfl
theorem dX12_isPlot_18 : decode cX12_isPlot 18 = .ok (.isub, 1) := kd_r kbX12_isPlot ki_50 rfl
theorem dX12_isPlot_19 : decode cX12_isPlot 19 = .ok (.i2l, 1) := kd_r kbX12_isPlot ki_399 rfl
theorem dX12_isPlot_20 : decode cX12_isPlot 20 = .ok (.invokestatic 109, 3) := kd_r kbX12_isPlot ki_751 rfl
theorem dX12_isPlot_23 : decode cX12_isPlot 23 = .ok (.ifCond .eq 7, 3) := kd_r kbX12_isPlot ki_18 rfl
theorem dX12_isPlot_26 : decode cX12_isPlot 26 = .ok (.iconst 1, 1) := kd_r kbX12_isPlot ki_16 rfl
theorem dX12_isPlot_27 : decode cX12_isPlot 27 = .ok (.goto 4, 3) := kd_r kbX12_isPlot ki_19 rfl
theorem dX12_isPlot_30 : decode cX12_isPlot 30 = .ok (.iconst 0, 1) := kd_r kbX12_isPlot ki_20 rfl
theorem dX12_isPlot_31 : decode cX12_isPlot 31 = .ok (.ireturn, 1) := kd_r kbX12_isPlot ki_7 rfl
set_option maxRecDepth 20000 in
theorem ggX12_mend_X12_isPlot : GoodIn wsX12_mend wsX12_isPlot := goodIn_r _ [10, 11, 12, 13, 14, 9, 15, 16, 17, 18, 19, 30, 31, 32, 33, 34, 35, 36, 37, 38, 39, 40, 41, 42, 43, 44, 45, 46, 47, 48, 49, 50, 51, 52, 53, 54, 55, 56, 57, 58, 59, 60, 61, 62, 63, 64, 65, 66, 67, 68, 69, 70, 71, 72, 73, 74, 75, 76, 77, 78] rfl (by decide +kernel)
set_option maxRecDepth 20000 in
theorem gX12_mend_X12_isPlot : GoodIn wsX12_mend (wsV RX12 143 RX12 yX12_isPlot wsX12_isPlot) := goodIn_app (goodIn_of _ (by decide +kernel)) ggX12_mend_X12_isPlot
set_option maxRecDepth 20000 in
theorem ggX12_mend_X12_within : GoodIn wsX12_mend wsX12_within := goodIn_r _ [19] rfl (by decide +kernel)
set_option maxRecDepth 20000 in
theorem gX12_mend_X12_within : GoodIn wsX12_mend (va_wsS RX12 109 yX12_within wsX12_within) := goodIn_app (goodIn_of _ (by decide +kernel)) ggX12_mend_X12_within
set_option maxRecDepth 20000 in
theorem ggX12_mend_X12_becomes : GoodIn wsX12_mend wsX12_becomes := goodIn_r _ [23, 24, 25, 26, 27, 28, 29, 30, 31, 32, 33, 34, 35, 36, 37, 38, 39, 40, 41, 42, 43, 44, 45, 46, 47, 48, 49, 50, 51, 52, 53, 54, 55, 56, 57, 58, 59, 60, 61, 62, 63, 64, 65, 66, 67, 68, 69, 70, 71, 72, 73, 74, 75, 76, 77, 78] rfl (by decide +kernel)
set_option maxRecDepth 20000 in
theorem gX12_mend_X12_becomes : GoodIn wsX12_mend (wsV RX12 150 RX12 yX12_becomes wsX12_becomes) := goodIn_app (goodIn_of _ (by decide +kernel)) ggX12_mend_X12_becomes
theorem dX12_mend_0 : decode cX12_mend 0 = .ok (.iload_n 1, 1) := kd_r kbX12_mend ki_8 rfl
theorem dX12_mend_1 : decode cX12_mend 1 = .ok (.ifCond .lt 30, 3) := kd_r kbX12_mend ki_784 rfl
theorem dX12_mend_4 : decode cX12_mend 4 = .ok (.aload_n 0, 1) := kd_r kbX12_mend ki_0 rfl
theorem dX12_mend_5 : decode cX12_mend 5 = .ok (.iload_n 1, 1) := kd_r kbX12_mend ki_8 rfl
theorem dX12_mend_6 : decode cX12_mend 6 = .ok (.bipush 100, 2) := kd_r kbX12_mend ki_228 rfl
theorem dX12_mend_8 : decode cX12_mend 8 = .ok (.idiv, 1) := kd_r kbX12_mend ki_225 rfl
theorem dX12_mend_9 : decode cX12_mend 9 = .ok (.iload_n 1, 1) := kd_r kbX12_mend ki_8 rfl
theorem dX12_mend_10 : decode cX12_mend 10 = .ok (.bipush 100, 2) := kd_r kbX12_mend ki_228 rfl
theorem dX12_mend_12 : decode cX12_mend 12 = .ok (.irem, 1) := kd_r kbX12_mend ki_227 rfl
theorem dX12_mend_13 : decode cX12_mend 13 = .ok (.invokevirtual 143, 3) := kd_r kbX12_mend ki_552 rfl
theorem dX12_mend_16 : decode cX12_mend 16 = .ok (.ifCond .eq 15, 3) := kd_r kbX12_mend ki_641 rfl
theorem dX12_mend_19 : decode cX12_mend 19 = .ok (.iload_n 2, 1) := kd_r kbX12_mend ki_11 rfl
theorem dX12_mend_20 : decode cX12_mend 20 = .ok (.i2l, 1) := kd_r kbX12_mend ki_399 rfl
theorem dX12_mend_21 : decode cX12_mend 21 = .ok (.lconst 0, 1) := kd_r kbX12_mend ki_172 rfl
theorem dX12_mend_22 : decode cX12_mend 22 = .ok (.ldc2_w 147, 3) := kd_r kbX12_mend ki_785 rfl
theorem dX12_mend_25 : decode cX12_mend 25 = .ok (.invokestatic 109, 3) := kd_r kbX12_mend ki_751 rfl
theorem dX12_mend_28 : decode cX12_mend 28 = .ok (.ifCond .ne 6, 3) := kd_r kbX12_mend ki_388 rfl
theorem dX12_mend_31 : decode cX12_mend 31 = .ok (.ldc 149, 2) := kd_r kbX12_mend ki_786 rfl
theorem dX12_mend_33 : decode cX12_mend 33 = .ok (.ireturn, 1) := kd_r kbX12_mend ki_7 rfl
theorem dX12_mend_34 : decode cX12_mend 34 = .ok (.iload_n 1, 1) := kd_r kbX12_mend ki_8 rfl
theorem dX12_mend_35 : decode cX12_mend 35 = .ok (.bipush 100, 2) := kd_r kbX12_mend ki_228 rfl
theorem dX12_mend_37 : decode cX12_mend 37 = .ok (.irem, 1) := kd_r kbX12_mend ki_227 rfl
theorem dX12_mend_38 : decode cX12_mend 38 = .ok (.istore 4, 2) := kd_r kbX12_mend ki_129 rfl
theorem dX12_mend_40 : decode cX12_mend 40 = .ok (.iload_n 2, 1) := kd_r kbX12_mend ki_11 rfl
theorem dX12_mend_41 : decode cX12_mend 41 = .ok (.ifCond .ne 15, 3) := kd_r kbX12_mend ki_407 rfl
theorem dX12_mend_44 : decode cX12_mend 44 = .ok (.iload_n 3, 1) := kd_r kbX12_mend ki_55 rfl
theorem dX12_mend_45 : decode cX12_mend 45 = .ok (.i2l, 1) := kd_r kbX12_mend ki_399 rfl
theorem dX12_mend_46 : decode cX12_mend 46 = .ok (.lconst 1, 1) := kd_r kbX12_mend ki_124 rfl
theorem dX12_mend_47 : decode cX12_mend 47 = .ok (.ldc2_w 120, 3) := kd_r kbX12_mend ki_758 rfl
theorem dX12_mend_50 : decode cX12_mend 50 = .ok (.invokestatic 109, 3) := kd_r kbX12_mend ki_751 rfl
theorem dX12_mend_53 : decode cX12_mend 53 = .ok (.goto 48, 3) := kd_r kbX12_mend ki_787 rfl
theorem dX12_mend_56 : decode cX12_mend 56 = .ok (.iload_n 2, 1) := kd_r kbX12_mend ki_11 rfl
theorem dX12_mend_57 : decode cX12_mend 57 = .ok (.iconst 1, 1) := kd_r kbX12_mend ki_16 rfl
theorem dX12_mend_58 : decode cX12_mend 58 = .ok (.if_icmp .ne 15, 3) := kd_r kbX12_mend ki_275 rfl
theorem dX12_mend_61 : decode cX12_mend 61 = .ok (.iload_n 3, 1) := kd_r kbX12_mend ki_55 rfl
theorem dX12_mend_62 : decode cX12_mend 62 = .ok (.i2l, 1) := kd_r kbX12_mend ki_399 rfl
theorem dX12_mend_63 : decode cX12_mend 63 = .ok (.lconst 0, 1) := kd_r kbX12_mend ki_172 rfl
theorem dX12_mend_64 : decode cX12_mend 64 = .ok (.ldc2_w 120, 3) := kd_r kbX12_mend ki_758 rfl
theorem dX12_mend_67 : decode cX12_mend 67 = .ok (.invokestatic 109, 3) := kd_r kbX12_mend ki_751 rfl
theorem dX12_mend_70 : decode cX12_mend 70 = .ok (.goto 31, 3) := kd_r kbX12_mend ki_788 rfl
theorem dX12_mend_73 : decode cX12_mend 73 = .ok (.iload_n 3, 1) := kd_r kbX12_mend ki_55 rfl
theorem dX12_mend_74 : decode cX12_mend 74 = .ok (.i2l, 1) := kd_r kbX12_mend ki_399 rfl
theorem dX12_mend_75 : decode cX12_mend 75 = .ok (.ldc2_w 122, 3) := kd_r kbX12_mend ki_761 rfl
theorem dX12_mend_78 : decode cX12_mend 78 = .ok (.ldc2_w 124, 3) := kd_r kbX12_mend ki_762 rfl
theorem dX12_mend_81 : decode cX12_mend 81 = .ok (.invokestatic 109, 3) := kd_r kbX12_mend ki_751 rfl
theorem dX12_mend_84 : decode cX12_mend 84 = .ok (.ifCond .eq 16, 3) := kd_r kbX12_mend ki_35 rfl
theorem dX12_mend_87 : decode cX12_mend 87 = .ok (.iload 4, 2) := kd_r kbX12_mend ki_57 rfl
theorem dX12_mend_89 : decode cX12_mend 89 = .ok (.ifCond .gt 7, 3) := kd_r kbX12_mend ki_717 rfl
theorem dX12_mend_92 : decode cX12_mend 92 = .ok (.iload_n 3, 1) := kd_r kbX12_mend ki_55 rfl
theorem dX12_mend_93 : decode cX12_mend 93 = .ok (.ifCond .ne 7, 3) := kd_r kbX12_mend ki_260 rfl
theorem dX12_mend_96 : decode cX12_mend 96 = .ok (.iconst 1, 1) := kd_r kbX12_mend ki_16 rfl
theorem dX12_mend_97 : decode cX12_mend 97 = .ok (.goto 4, 3) := kd_r kbX12_mend ki_19 rfl
theorem dX12_mend_100 : decode cX12_mend 100 = .ok (.iconst 0, 1) := kd_r kbX12_mend ki_20 rfl
theorem dX12_mend_101 : decode cX12_mend 101 = .ok (.istore 5, 2) := kd_r kbX12_mend ki_133 rfl
theorem dX12_mend_103 : decode cX12_mend 103 = .ok (.iload 5, 2) := kd_r kbX12_mend ki_134 rfl
theorem dX12_mend_105 : decode cX12_mend 105 = .ok (.ifCond .eq 27, 3) := kd_r kbX12_mend ki_10 rfl
theorem dX12_mend_108 : decode cX12_mend 108 = .ok (.aload_n 0, 1) := kd_r kbX12_mend ki_0 rfl
theorem dX12_mend_109 : decode cX12_mend 109 = .ok (.sipush 280, 3) := kd_r kbX12_mend ki_752 rfl
theorem dX12_mend_112 : decode cX12_mend 112 = .ok (.iload_n 2, 1) := kd_r kbX12_mend ki_11 rfl
theorem dX12_mend_113 : decode cX12_mend 113 = .ok (.imul, 1) := kd_r kbX12_mend ki_114 rfl
theorem dX12_mend_114 : decode cX12_mend 114 = .ok (.bipush 40, 2) := kd_r kbX12_mend ki_44 rfl
theorem dX12_mend_116 : decode cX12_mend 116 = .ok (.iload_n 1, 1) := kd_r kbX12_mend ki_8 rfl
theorem dX12_mend_117 : decode cX12_mend 117 = .ok (.bipush 100, 2) := kd_r kbX12_mend ki_228 rfl
theorem dX12_mend_119 : decode cX12_mend 119 = .ok (.idiv, 1) := kd_r kbX12_mend ki_225 rfl
theorem dX12_mend_120 : decode cX12_mend 120 = .ok (.imul, 1) := kd_r kbX12_mend ki_114 rfl
theorem dX12_mend_121 : decode cX12_mend 121 = .ok (.iadd, 1) := kd_r kbX12_mend ki_30 rfl
theorem dX12_mend_122 : decode cX12_mend 122 = .ok (.iload 4, 2) := kd_r kbX12_mend ki_57 rfl
theorem dX12_mend_124 : decode cX12_mend 124 = .ok (.iadd, 1) := kd_r kbX12_mend ki_30 rfl
theorem dX12_mend_125 : decode cX12_mend 125 = .ok (.iload_n 3, 1) := kd_r kbX12_mend ki_55 rfl
theorem dX12_mend_126 : decode cX12_mend 126 = .ok (.invokevirtual 150, 3) := kd_r kbX12_mend ki_789 rfl
theorem dX12_mend_129 : decode cX12_mend 129 = .ok (.goto 5, 3) := kd_r kbX12_mend ki_342 rfl
theorem dX12_mend_132 : decode cX12_mend 132 = .ok (.ldc 149, 2) := kd_r kbX12_mend ki_786 rfl
theorem dX12_mend_134 : decode cX12_mend 134 = .ok (.ireturn, 1) := kd_r kbX12_mend ki_7 rfl
set_option maxRecDepth 20000 in
theorem ggX12_of_X12_isStreet : GoodIn wsX12_of wsX12_isStreet := goodIn_r _ [9, 10, 11, 12, 8, 13, 39, 40, 41, 42, 43, 44, 45, 46, 47, 48, 49, 50, 51, 52, 53, 54, 55, 56, 57, 58, 59, 60, 61, 62, 63, 64, 65, 66, 67, 68, 69, 70, 71, 72, 73, 74, 75, 76, 77, 78, 79, 80, 81, 82, 83, 84, 85, 86, 87] rfl (by decide +kernel)
set_option maxRecDepth 20000 in
theorem gX12_of_X12_isStreet : GoodIn wsX12_of (wsV RX12 126 RX12 yX12_isStreet wsX12_isStreet) := goodIn_app (goodIn_of _ (by decide +kernel)) ggX12_of_X12_isStreet
set_option maxRecDepth 20000 in
theorem ggX12_of_X12_atOf : GoodIn wsX12_of wsX12_atOf := goodIn_r _ [17, 18, 19, 20, 8, 21, 22, 39, 40, 41, 42, 43, 44, 45, 46, 47, 48, 49, 50, 51, 52, 53, 54, 55, 56, 57, 58, 59, 60, 61, 62, 63, 64, 65, 66, 67, 68, 69, 70, 71, 72, 73, 74, 75, 76, 77, 78, 79, 80, 81, 82, 83, 84, 85, 86, 87] rfl (by decide +kernel)
set_option maxRecDepth 20000 in
theorem gX12_of_X12_atOf : GoodIn wsX12_of (wsV RX12 153 RX12 yX12_atOf wsX12_atOf) := goodIn_app (goodIn_of _ (by decide +kernel)) ggX12_of_X12_atOf
set_option maxRecDepth 20000 in
theorem ggX12_of_X12_kinksOf : GoodIn wsX12_of wsX12_kinksOf := goodIn_r _ [26, 2, 27, 28, 29, 8, 30, 22, 39, 40, 41, 42, 43, 44, 45, 46, 47, 48, 49, 50, 51, 52, 53, 54, 55, 56, 57, 58, 59, 60, 61, 62, 63, 64, 65, 66, 67, 68, 69, 70, 71, 72, 73, 74, 75, 76, 77, 78, 79, 80, 81, 82, 83, 84, 85, 86, 87] rfl (by decide +kernel)
set_option maxRecDepth 20000 in
theorem gX12_of_X12_kinksOf : GoodIn wsX12_of (wsV RX12 156 RX12 yX12_kinksOf wsX12_kinksOf) := goodIn_app (goodIn_of _ (by decide +kernel)) ggX12_of_X12_kinksOf
set_option maxRecDepth 20000 in
theorem ggX12_of_X12_within : GoodIn wsX12_of wsX12_within := goodIn_r _ [13] rfl (by decide +kernel)
set_option maxRecDepth 20000 in
theorem gX12_of_X12_within : GoodIn wsX12_of (va_wsS RX12 109 yX12_within wsX12_within) := goodIn_app (goodIn_of _ (by decide +kernel)) ggX12_of_X12_within
set_option maxRecDepth 20000 in
theorem ggX12_of_X12_isPlot : GoodIn wsX12_of wsX12_isPlot := goodIn_r _ [34, 2, 5, 6, 7, 8, 9, 10, 11, 12, 13, 39, 40, 41, 42, 43, 44, 45, 46, 47, 48, 49, 50, 51, 52, 53, 54, 55, 56, 57, 58, 59, 60, 61, 62, 63, 64, 65, 66, 67, 68, 69, 70, 71, 72, 73, 74, 75, 76, 77, 78, 79, 80, 81, 82, 83, 84, 85, 86, 87] rfl (by decide +kernel)
set_option maxRecDepth 20000 in
theorem gX12_of_X12_isPlot : GoodIn wsX12_of (wsV RX12 143 RX12 yX12_isPlot wsX12_isPlot) := goodIn_app (goodIn_of _ (by decide +kernel)) ggX12_of_X12_isPlot
set_option maxRecDepth 20000 in
theorem ggX12_of_X12_width : GoodIn wsX12_of wsX12_width := goodIn_r _ [21, 22, 39, 40, 41, 42, 43, 44, 45, 46, 47, 48, 49, 50, 51, 52, 53, 54, 55, 56, 57, 58, 59, 60, 61, 62, 63, 64, 65, 66, 67, 68, 69, 70, 71, 72, 73, 74, 75, 76, 77, 78, 79, 80, 81, 82, 83, 84, 85, 86, 87] rfl (by decide +kernel)
set_option maxRecDepth 20000 in
theorem gX12_of_X12_width : GoodIn wsX12_of (wsV RX12 113 RX12 yX12_width wsX12_width) := goodIn_app (goodIn_of _ (by decide +kernel)) ggX12_of_X12_width
set_option maxRecDepth 20000 in
theorem ggX12_of_X12_depth : GoodIn wsX12_of wsX12_depth := goodIn_r _ [38, 22, 39, 40, 41, 42, 43, 44, 45, 46, 47, 48, 49, 50, 51, 52, 53, 54, 55, 56, 57, 58, 59, 60, 61, 62, 63, 64, 65, 66, 67, 68, 69, 70, 71, 72, 73, 74, 75, 76, 77, 78, 79, 80, 81, 82, 83, 84, 85, 86, 87] rfl (by decide +kernel)
set_option maxRecDepth 20000 in
theorem gX12_of_X12_depth : GoodIn wsX12_of (wsV RX12 164 RX12 yX12_depth wsX12_depth) := goodIn_app (goodIn_of _ (by decide +kernel)) ggX12_of_X12_depth
set_option maxRecDepth 20000 in
theorem ggX12_of_X12_aside : GoodIn wsX12_of wsX12_aside := goodIn_r _ [30, 22, 39, 40, 41, 42, 43, 44, 45, 46, 47, 48, 49, 50, 51, 52, 53, 54, 55, 56, 57, 58, 59, 60, 61, 62, 63, 64, 65, 66, 67, 68, 69, 70, 71, 72, 73, 74, 75, 76, 77, 78, 79, 80, 81, 82, 83, 84, 85, 86, 87] rfl (by decide +kernel)
set_option maxRecDepth 20000 in
theorem gX12_of_X12_aside : GoodIn wsX12_of (wsV RX12 117 RX12 yX12_aside wsX12_aside) := goodIn_app (goodIn_of _ (by decide +kernel)) ggX12_of_X12_aside
theorem dX12_of_0 : decode cX12_of 0 = .ok (.aload_n 0, 1) := kd_r kbX12_of ki_0 rfl
theorem dX12_of_1 : decode cX12_of 1 = .ok (.iload_n 1, 1) := kd_r kbX12_of ki_8 rfl
theorem dX12_of_2 : decode cX12_of 2 = .ok (.invokevirtual 126, 3) := kd_r kbX12_of ki_764 rfl
theorem dX12_of_5 : decode cX12_of 5 = .ok (.ifCond .ne 6, 3) := kd_r kbX12_of ki_388 rfl
theorem dX12_of_8 : decode cX12_of 8 = .ok (.ldc 149, 2) := kd_r kbX12_of ki_786 rfl
theorem dX12_of_10 : decode cX12_of 10 = .ok (.ireturn, 1) := kd_r kbX12_of ki_7 rfl
theorem dX12_of_11 : decode cX12_of 11 = .ok (.iload_n 2, 1) := kd_r kbX12_of ki_11 rfl
theorem dX12_of_12 : decode cX12_of 12 = .ok (.tableswitch 53 0 2 #[28, 35, 47], 28) := by decide +kernel
theorem dX12_of_40 : decode cX12_of 40 = .ok (.aload_n 0, 1) := kd_r kbX12_of ki_0 rfl
theorem dX12_of_41 : decode cX12_of 41 = .ok (.getfield 9, 3) := kd_r kbX12_of ki_13 rfl
theorem dX12_of_44 : decode cX12_of 44 = .ok (.iload_n 1, 1) := kd_r kbX12_of ki_8 rfl
theorem dX12_of_45 : decode cX12_of 45 = .ok (.iaload, 1) := kd_r kbX12_of ki_14 rfl
theorem dX12_of_46 : decode cX12_of 46 = .ok (.ireturn, 1) := kd_r kbX12_of ki_7 rfl
theorem dX12_of_47 : decode cX12_of 47 = .ok (.aload_n 0, 1) := kd_r kbX12_of ki_0 rfl
theorem dX12_of_48 : decode cX12_of 48 = .ok (.iload_n 1, 1) := kd_r kbX12_of ki_8 rfl
theorem dX12_of_49 : decode cX12_of 49 = .ok (.aload_n 0, 1) := kd_r kbX12_of ki_0 rfl
theorem dX12_of_50 : decode cX12_of 50 = .ok (.getfield 9, 3) := kd_r kbX12_of ki_13 rfl
theorem dX12_of_53 : decode cX12_of 53 = .ok (.iload_n 1, 1) := kd_r kbX12_of ki_8 rfl
theorem dX12_of_54 : decode cX12_of 54 = .ok (.iaload, 1) := kd_r kbX12_of ki_14 rfl
theorem dX12_of_55 : decode cX12_of 55 = .ok (.invokevirtual 153, 3) := kd_r kbX12_of ki_790 rfl
theorem dX12_of_58 : decode cX12_of 58 = .ok (.ireturn, 1) := kd_r kbX12_of ki_7 rfl
theorem dX12_of_59 : decode cX12_of 59 = .ok (.aload_n 0, 1) := kd_r kbX12_of ki_0 rfl
theorem dX12_of_60 : decode cX12_of 60 = .ok (.iload_n 1, 1) := kd_r kbX12_of ki_8 rfl
theorem dX12_of_61 : decode cX12_of 61 = .ok (.invokevirtual 156, 3) := kd_r kbX12_of ki_791 rfl
theorem dX12_of_64 : decode cX12_of 64 = .ok (.ireturn, 1) := kd_r kbX12_of ki_7 rfl
theorem dX12_of_65 : decode cX12_of 65 = .ok (.iload_n 2, 1) := kd_r kbX12_of ki_11 rfl
theorem dX12_of_66 : decode cX12_of 66 = .ok (.bipush 100, 2) := kd_r kbX12_of ki_228 rfl
theorem dX12_of_68 : decode cX12_of 68 = .ok (.irem, 1) := kd_r kbX12_of ki_227 rfl
theorem dX12_of_69 : decode cX12_of 69 = .ok (.istore_n 3, 1) := kd_r kbX12_of ki_108 rfl
theorem dX12_of_70 : decode cX12_of 70 = .ok (.iload_n 2, 1) := kd_r kbX12_of ki_11 rfl
theorem dX12_of_71 : decode cX12_of 71 = .ok (.i2l, 1) := kd_r kbX12_of ki_399 rfl
theorem dX12_of_72 : decode cX12_of 72 = .ok (.ldc2_w 160, 3) := kd_r kbX12_of ki_792 rfl
theorem dX12_of_75 : decode cX12_of 75 = .ok (.ldc2_w 162, 3) := kd_r kbX12_of ki_793 rfl
theorem dX12_of_78 : decode cX12_of 78 = .ok (.invokestatic 109, 3) := kd_r kbX12_of ki_751 rfl
theorem dX12_of_81 : decode cX12_of 81 = .ok (.ifCond .eq 12, 3) := kd_r kbX12_of ki_122 rfl
theorem dX12_of_84 : decode cX12_of 84 = .ok (.aload_n 0, 1) := kd_r kbX12_of ki_0 rfl
theorem dX12_of_85 : decode cX12_of 85 = .ok (.iload_n 1, 1) := kd_r kbX12_of ki_8 rfl
theorem dX12_of_86 : decode cX12_of 86 = .ok (.iload_n 3, 1) := kd_r kbX12_of ki_55 rfl
theorem dX12_of_87 : decode cX12_of 87 = .ok (.invokevirtual 143, 3) := kd_r kbX12_of ki_552 rfl
theorem dX12_of_90 : decode cX12_of 90 = .ok (.ifCond .ne 6, 3) := kd_r kbX12_of ki_388 rfl
theorem dX12_of_93 : decode cX12_of 93 = .ok (.ldc 149, 2) := kd_r kbX12_of ki_786 rfl
theorem dX12_of_95 : decode cX12_of 95 = .ok (.ireturn, 1) := kd_r kbX12_of ki_7 rfl
theorem dX12_of_96 : decode cX12_of 96 = .ok (.iload_n 2, 1) := kd_r kbX12_of ki_11 rfl
theorem dX12_of_97 : decode cX12_of 97 = .ok (.sipush 200, 3) := kd_r kbX12_of ki_794 rfl
theorem dX12_of_100 : decode cX12_of 100 = .ok (.if_icmp .ge 12, 3) := kd_r kbX12_of ki_298 rfl
theorem dX12_of_103 : decode cX12_of 103 = .ok (.aload_n 0, 1) := kd_r kbX12_of ki_0 rfl
theorem dX12_of_104 : decode cX12_of 104 = .ok (.iload_n 1, 1) := kd_r kbX12_of ki_8 rfl
theorem dX12_of_105 : decode cX12_of 105 = .ok (.iload_n 3, 1) := kd_r kbX12_of ki_55 rfl
theorem dX12_of_106 : decode cX12_of 106 = .ok (.invokevirtual 113, 3) := kd_r kbX12_of ki_754 rfl
theorem dX12_of_109 : decode cX12_of 109 = .ok (.goto 41, 3) := kd_r kbX12_of ki_255 rfl
theorem dX12_of_112 : decode cX12_of 112 = .ok (.iload_n 2, 1) := kd_r kbX12_of ki_11 rfl
theorem dX12_of_113 : decode cX12_of 113 = .ok (.sipush 300, 3) := kd_r kbX12_of ki_795 rfl
theorem dX12_of_116 : decode cX12_of 116 = .ok (.if_icmp .ge 12, 3) := kd_r kbX12_of ki_298 rfl
theorem dX12_of_119 : decode cX12_of 119 = .ok (.aload_n 0, 1) := kd_r kbX12_of ki_0 rfl
theorem dX12_of_120 : decode cX12_of 120 = .ok (.iload_n 1, 1) := kd_r kbX12_of ki_8 rfl
theorem dX12_of_121 : decode cX12_of 121 = .ok (.iload_n 3, 1) := kd_r kbX12_of ki_55 rfl
theorem dX12_of_122 : decode cX12_of 122 = .ok (.invokevirtual 164, 3) := kd_r kbX12_of ki_796 rfl
theorem dX12_of_125 : decode cX12_of 125 = .ok (.goto 25, 3) := kd_r kbX12_of ki_609 rfl
theorem dX12_of_128 : decode cX12_of 128 = .ok (.iload_n 2, 1) := kd_r kbX12_of ki_11 rfl
theorem dX12_of_129 : decode cX12_of 129 = .ok (.sipush 400, 3) := kd_r kbX12_of ki_563 rfl
theorem dX12_of_132 : decode cX12_of 132 = .ok (.if_icmp .ge 12, 3) := kd_r kbX12_of ki_298 rfl
theorem dX12_of_135 : decode cX12_of 135 = .ok (.aload_n 0, 1) := kd_r kbX12_of ki_0 rfl
theorem dX12_of_136 : decode cX12_of 136 = .ok (.iload_n 1, 1) := kd_r kbX12_of ki_8 rfl
theorem dX12_of_137 : decode cX12_of 137 = .ok (.iload_n 3, 1) := kd_r kbX12_of ki_55 rfl
theorem dX12_of_138 : decode cX12_of 138 = .ok (.invokevirtual 117, 3) := kd_r kbX12_of ki_755 rfl
theorem dX12_of_141 : decode cX12_of 141 = .ok (.goto 9, 3) := kd_r kbX12_of ki_797 rfl
theorem dX12_of_144 : decode cX12_of 144 = .ok (.aload_n 0, 1) := kd_r kbX12_of ki_0 rfl
theorem dX12_of_145 : decode cX12_of 145 = .ok (.iload_n 1, 1) := kd_r kbX12_of ki_8 rfl
theorem dX12_of_146 : decode cX12_of 146 = .ok (.iload_n 3, 1) := kd_r kbX12_of ki_55 rfl
theorem dX12_of_147 : decode cX12_of 147 = .ok (.invokevirtual 153, 3) := kd_r kbX12_of ki_790 rfl
theorem dX12_of_150 : decode cX12_of 150 = .ok (.ireturn, 1) := kd_r kbX12_of ki_7 rfl
set_option maxRecDepth 20000 in
theorem ggX12_looks_X12_isStreet : GoodIn wsX12_looks wsX12_isStreet := goodIn_r _ [8, 9, 10, 11, 7, 12, 18, 19, 20, 21, 22, 23, 24, 25, 26, 27, 28, 29, 30, 31, 32, 33, 34, 35, 36, 37, 38, 39, 40, 41, 42, 43, 44, 45, 46, 47, 48, 49, 50, 51, 52, 53, 54, 55, 56, 57, 58, 59, 60, 61, 62, 63, 64, 65, 66] rfl (by decide +kernel)
set_option maxRecDepth 20000 in
theorem gX12_looks_X12_isStreet : GoodIn wsX12_looks (wsV RX12 126 RX12 yX12_isStreet wsX12_isStreet) := goodIn_app (goodIn_of _ (by decide +kernel)) ggX12_looks_X12_isStreet
set_option maxRecDepth 20000 in
theorem ggX12_looks_X12_width : GoodIn wsX12_looks wsX12_width := goodIn_r _ [16, 17, 18, 19, 20, 21, 22, 23, 24, 25, 26, 27, 28, 29, 30, 31, 32, 33, 34, 35, 36, 37, 38, 39, 40, 41, 42, 43, 44, 45, 46, 47, 48, 49, 50, 51, 52, 53, 54, 55, 56, 57, 58, 59, 60, 61, 62, 63, 64, 65, 66] rfl (by decide +kernel)
set_option maxRecDepth 20000 in
theorem gX12_looks_X12_width : GoodIn wsX12_looks (wsV RX12 113 RX12 yX12_width wsX12_width) := goodIn_app (goodIn_of _ (by decide +kernel)) ggX12_looks_X12_width
theorem dX12_looks_0 : decode cX12_looks 0 = .ok (.aload_n 0, 1) := kd_r kbX12_looks ki_0 rfl
theorem dX12_looks_1 : decode cX12_looks 1 = .ok (.iload_n 1, 1) := kd_r kbX12_looks ki_8 rfl
theorem dX12_looks_2 : decode cX12_looks 2 = .ok (.invokevirtual 126, 3) := kd_r kbX12_looks ki_764 rfl
theorem dX12_looks_5 : decode cX12_looks 5 = .ok (.ifCond .eq 31, 3) := kd_r kbX12_looks ki_798 rfl
theorem dX12_looks_8 : decode cX12_looks 8 = .ok (.iload_n 2, 1) := kd_r kbX12_looks ki_11 rfl
theorem dX12_looks_9 : decode cX12_looks 9 = .ok (.ifCond .lt 27, 3) := kd_r kbX12_looks ki_799 rfl
theorem dX12_looks_12 : decode cX12_looks 12 = .ok (.iload_n 2, 1) := kd_r kbX12_looks ki_11 rfl
theorem dX12_looks_13 : decode cX12_looks 13 = .ok (.bipush 100, 2) := kd_r kbX12_looks ki_228 rfl
theorem dX12_looks_15 : decode cX12_looks 15 = .ok (.idiv, 1) := kd_r kbX12_looks ki_225 rfl
theorem dX12_looks_16 : decode cX12_looks 16 = .ok (.iload_n 2, 1) := kd_r kbX12_looks ki_11 rfl
theorem dX12_looks_17 : decode cX12_looks 17 = .ok (.bipush 100, 2) := kd_r kbX12_looks ki_228 rfl
theorem dX12_looks_19 : decode cX12_looks 19 = .ok (.irem, 1) := kd_r kbX12_looks ki_227 rfl
theorem dX12_looks_20 : decode cX12_looks 20 = .ok (.if_icmp .gt 16, 3) := kd_r kbX12_looks ki_800 rfl
theorem dX12_looks_23 : decode cX12_looks 23 = .ok (.iload_n 2, 1) := kd_r kbX12_looks ki_11 rfl
theorem dX12_looks_24 : decode cX12_looks 24 = .ok (.bipush 100, 2) := kd_r kbX12_looks ki_228 rfl
theorem dX12_looks_26 : decode cX12_looks 26 = .ok (.irem, 1) := kd_r kbX12_looks ki_227 rfl
theorem dX12_looks_27 : decode cX12_looks 27 = .ok (.aload_n 0, 1) := kd_r kbX12_looks ki_0 rfl
theorem dX12_looks_28 : decode cX12_looks 28 = .ok (.getfield 9, 3) := kd_r kbX12_looks ki_13 rfl
theorem dX12_looks_31 : decode cX12_looks 31 = .ok (.iload_n 1, 1) := kd_r kbX12_looks ki_8 rfl
theorem dX12_looks_32 : decode cX12_looks 32 = .ok (.iaload, 1) := kd_r kbX12_looks ki_14 rfl
theorem dX12_looks_33 : decode cX12_looks 33 = .ok (.if_icmp .lt 5, 3) := kd_r kbX12_looks ki_193 rfl
theorem dX12_looks_36 : decode cX12_looks 36 = .ok (.iconst 0, 1) := kd_r kbX12_looks ki_20 rfl
theorem dX12_looks_37 : decode cX12_looks 37 = .ok (.ireturn, 1) := kd_r kbX12_looks ki_7 rfl
theorem dX12_looks_38 : decode cX12_looks 38 = .ok (.aload_n 0, 1) := kd_r kbX12_looks ki_0 rfl
theorem dX12_looks_39 : decode cX12_looks 39 = .ok (.iconst 0, 1) := kd_r kbX12_looks ki_20 rfl
theorem dX12_looks_40 : decode cX12_looks 40 = .ok (.putfield 167, 3) := kd_r kbX12_looks ki_801 rfl
theorem dX12_looks_43 : decode cX12_looks 43 = .ok (.iload_n 2, 1) := kd_r kbX12_looks ki_11 rfl
theorem dX12_looks_44 : decode cX12_looks 44 = .ok (.bipush 100, 2) := kd_r kbX12_looks ki_228 rfl
theorem dX12_looks_46 : decode cX12_looks 46 = .ok (.idiv, 1) := kd_r kbX12_looks ki_225 rfl
theorem dX12_looks_47 : decode cX12_looks 47 = .ok (.istore_n 3, 1) := kd_r kbX12_looks ki_108 rfl
theorem dX12_looks_48 : decode cX12_looks 48 = .ok (.iload_n 3, 1) := kd_r kbX12_looks ki_55 rfl
theorem dX12_looks_49 : decode cX12_looks 49 = .ok (.iload_n 2, 1) := kd_r kbX12_looks ki_11 rfl
theorem dX12_looks_50 : decode cX12_looks 50 = .ok (.bipush 100, 2) := kd_r kbX12_looks ki_228 rfl
theorem dX12_looks_52 : decode cX12_looks 52 = .ok (.irem, 1) := kd_r kbX12_looks ki_227 rfl
theorem dX12_looks_53 : decode cX12_looks 53 = .ok (.if_icmp .gt 34, 3) := kd_r kbX12_looks ki_802 rfl
theorem dX12_looks_56 : decode cX12_looks 56 = .ok (.aload_n 0, 1) := kd_r kbX12_looks ki_0 rfl
theorem dX12_looks_57 : decode cX12_looks 57 = .ok (.getfield 25, 3) := kd_r kbX12_looks ki_224 rfl
theorem dX12_looks_60 : decode cX12_looks 60 = .ok (.aload_n 0, 1) := kd_r kbX12_looks ki_0 rfl
theorem dX12_looks_61 : decode cX12_looks 61 = .ok (.getfield 167, 3) := kd_r kbX12_looks ki_803 rfl
theorem dX12_looks_64 : decode cX12_looks 64 = .ok (.aload_n 0, 1) := kd_r kbX12_looks ki_0 rfl
theorem dX12_looks_65 : decode cX12_looks 65 = .ok (.iload_n 1, 1) := kd_r kbX12_looks ki_8 rfl
theorem dX12_looks_66 : decode cX12_looks 66 = .ok (.iload_n 3, 1) := kd_r kbX12_looks ki_55 rfl
theorem dX12_looks_67 : decode cX12_looks 67 = .ok (.invokevirtual 113, 3) := kd_r kbX12_looks ki_754 rfl
theorem dX12_looks_70 : decode cX12_looks 70 = .ok (.iastore, 1) := kd_r kbX12_looks ki_28 rfl
theorem dX12_looks_71 : decode cX12_looks 71 = .ok (.aload_n 0, 1) := kd_r kbX12_looks ki_0 rfl
theorem dX12_looks_72 : decode cX12_looks 72 = .ok (.dup, 1) := kd_r kbX12_looks ki_29 rfl
theorem dX12_looks_73 : decode cX12_looks 73 = .ok (.getfield 167, 3) := kd_r kbX12_looks ki_803 rfl
theorem dX12_looks_76 : decode cX12_looks 76 = .ok (.iconst 1, 1) := kd_r kbX12_looks ki_16 rfl
theorem dX12_looks_77 : decode cX12_looks 77 = .ok (.iadd, 1) := kd_r kbX12_looks ki_30 rfl
theorem dX12_looks_78 : decode cX12_looks 78 = .ok (.putfield 167, 3) := kd_r kbX12_looks ki_801 rfl
theorem dX12_looks_81 : decode cX12_looks 81 = .ok (.iinc 3 1, 3) := kd_r kbX12_looks ki_116 rfl
theorem dX12_looks_84 : decode cX12_looks 84 = .ok (.goto (-36), 3) := kd_r kbX12_looks ki_318 rfl
theorem dX12_looks_87 : decode cX12_looks 87 = .ok (.iconst 1, 1) := kd_r kbX12_looks ki_16 rfl
theorem dX12_looks_88 : decode cX12_looks 88 = .ok (.ireturn, 1) := kd_r kbX12_looks ki_7 rfl
theorem dX12_misfitOf_0 : decode cX12_misfitOf 0 = .ok (.iconst 0, 1) := kd_r kbX12_misfitOf ki_20 rfl
theorem dX12_misfitOf_1 : decode cX12_misfitOf 1 = .ok (.istore_n 3, 1) := kd_r kbX12_misfitOf ki_108 rfl
theorem dX12_misfitOf_2 : decode cX12_misfitOf 2 = .ok (.iconst 0, 1) := kd_r kbX12_misfitOf ki_20 rfl
theorem dX12_misfitOf_3 : decode cX12_misfitOf 3 = .ok (.istore 4, 2) := kd_r kbX12_misfitOf ki_129 rfl
theorem dX12_misfitOf_5 : decode cX12_misfitOf 5 = .ok (.iload 4, 2) := kd_r kbX12_misfitOf ki_57 rfl
theorem dX12_misfitOf_7 : decode cX12_misfitOf 7 = .ok (.aload_n 0, 1) := kd_r kbX12_misfitOf ki_0 rfl
theorem dX12_misfitOf_8 : decode cX12_misfitOf 8 = .ok (.getfield 167, 3) := kd_r kbX12_misfitOf ki_803 rfl
theorem dX12_misfitOf_11 : decode cX12_misfitOf 11 = .ok (.if_icmp .ge 60, 3) := kd_r kbX12_misfitOf ki_804 rfl
theorem dX12_misfitOf_14 : decode cX12_misfitOf 14 = .ok (.iload_n 2, 1) := kd_r kbX12_misfitOf ki_11 rfl
theorem dX12_misfitOf_15 : decode cX12_misfitOf 15 = .ok (.aload_n 0, 1) := kd_r kbX12_misfitOf ki_0 rfl
theorem dX12_misfitOf_16 : decode cX12_misfitOf 16 = .ok (.getfield 25, 3) := kd_r kbX12_misfitOf ki_224 rfl
theorem dX12_misfitOf_19 : decode cX12_misfitOf 19 = .ok (.iload 4, 2) := kd_r kbX12_misfitOf ki_57 rfl
theorem dX12_misfitOf_21 : decode cX12_misfitOf 21 = .ok (.iaload, 1) := kd_r kbX12_misfitOf ki_14 rfl
theorem dX12_misfitOf_22 : decode cX12_misfitOf 22 = .ok (.imul, 1) := kd_r kbX12_misfitOf ki_114 rfl
theorem dX12_misfitOf_23 : decode cX12_misfitOf 23 = .ok (.istore 5, 2) := kd_r kbX12_misfitOf ki_133 rfl
theorem dX12_misfitOf_25 : decode cX12_misfitOf 25 = .ok (.iload 5, 2) := kd_r kbX12_misfitOf ki_134 rfl
theorem dX12_misfitOf_27 : decode cX12_misfitOf 27 = .ok (.iload_n 1, 1) := kd_r kbX12_misfitOf ki_8 rfl
theorem dX12_misfitOf_28 : decode cX12_misfitOf 28 = .ok (.irem, 1) := kd_r kbX12_misfitOf ki_227 rfl
theorem dX12_misfitOf_29 : decode cX12_misfitOf 29 = .ok (.istore 6, 2) := kd_r kbX12_misfitOf ki_199 rfl
theorem dX12_misfitOf_31 : decode cX12_misfitOf 31 = .ok (.iload_n 3, 1) := kd_r kbX12_misfitOf ki_55 rfl
theorem dX12_misfitOf_32 : decode cX12_misfitOf 32 = .ok (.iload 5, 2) := kd_r kbX12_misfitOf ki_134 rfl
theorem dX12_misfitOf_34 : decode cX12_misfitOf 34 = .ok (.iload_n 1, 1) := kd_r kbX12_misfitOf ki_8 rfl
theorem dX12_misfitOf_35 : decode cX12_misfitOf 35 = .ok (.if_icmp .ge 10, 3) := kd_r kbX12_misfitOf ki_805 rfl
theorem dX12_misfitOf_38 : decode cX12_misfitOf 38 = .ok (.iload_n 1, 1) := kd_r kbX12_misfitOf ki_8 rfl
theorem dX12_misfitOf_39 : decode cX12_misfitOf 39 = .ok (.iload 5, 2) := kd_r kbX12_misfitOf ki_134 rfl
theorem dX12_misfitOf_41 : decode cX12_misfitOf 41 = .ok (.isub, 1) := kd_r kbX12_misfitOf ki_50 rfl
theorem dX12_misfitOf_42 : decode cX12_misfitOf 42 = .ok (.goto 21, 3) := kd_r kbX12_misfitOf ki_277 rfl
theorem dX12_misfitOf_45 : decode cX12_misfitOf 45 = .ok (.iload 6, 2) := kd_r kbX12_misfitOf ki_200 rfl
theorem dX12_misfitOf_47 : decode cX12_misfitOf 47 = .ok (.iload_n 1, 1) := kd_r kbX12_misfitOf ki_8 rfl
theorem dX12_misfitOf_48 : decode cX12_misfitOf 48 = .ok (.iload 6, 2) := kd_r kbX12_misfitOf ki_200 rfl
theorem dX12_misfitOf_50 : decode cX12_misfitOf 50 = .ok (.isub, 1) := kd_r kbX12_misfitOf ki_50 rfl
theorem dX12_misfitOf_51 : decode cX12_misfitOf 51 = .ok (.if_icmp .ge 8, 3) := kd_r kbX12_misfitOf ki_323 rfl
theorem dX12_misfitOf_54 : decode cX12_misfitOf 54 = .ok (.iload 6, 2) := kd_r kbX12_misfitOf ki_200 rfl
theorem dX12_misfitOf_56 : decode cX12_misfitOf 56 = .ok (.goto 7, 3) := kd_r kbX12_misfitOf ki_416 rfl
theorem dX12_misfitOf_59 : decode cX12_misfitOf 59 = .ok (.iload_n 1, 1) := kd_r kbX12_misfitOf ki_8 rfl
theorem dX12_misfitOf_60 : decode cX12_misfitOf 60 = .ok (.iload 6, 2) := kd_r kbX12_misfitOf ki_200 rfl
theorem dX12_misfitOf_62 : decode cX12_misfitOf 62 = .ok (.isub, 1) := kd_r kbX12_misfitOf ki_50 rfl
theorem dX12_misfitOf_63 : decode cX12_misfitOf 63 = .ok (.iadd, 1) := kd_r kbX12_misfitOf ki_30 rfl
theorem dX12_misfitOf_64 : decode cX12_misfitOf 64 = .ok (.istore_n 3, 1) := kd_r kbX12_misfitOf ki_108 rfl
theorem dX12_misfitOf_65 : decode cX12_misfitOf 65 = .ok (.iinc 4 1, 3) := kd_r kbX12_misfitOf ki_144 rfl
theorem dX12_misfitOf_68 : decode cX12_misfitOf 68 = .ok (.goto (-63), 3) := kd_r kbX12_misfitOf ki_806 rfl
theorem dX12_misfitOf_71 : decode cX12_misfitOf 71 = .ok (.iload_n 3, 1) := kd_r kbX12_misfitOf ki_55 rfl
theorem dX12_misfitOf_72 : decode cX12_misfitOf 72 = .ok (.sipush 1000, 3) := kd_r kbX12_misfitOf ki_188 rfl
theorem dX12_misfitOf_75 : decode cX12_misfitOf 75 = .ok (.imul, 1) := kd_r kbX12_misfitOf ki_114 rfl
theorem dX12_misfitOf_76 : decode cX12_misfitOf 76 = .ok (.iload_n 1, 1) := kd_r kbX12_misfitOf ki_8 rfl
theorem dX12_misfitOf_77 : decode cX12_misfitOf 77 = .ok (.aload_n 0, 1) := kd_r kbX12_misfitOf ki_0 rfl
theorem dX12_misfitOf_78 : decode cX12_misfitOf 78 = .ok (.getfield 167, 3) := kd_r kbX12_misfitOf ki_803 rfl
theorem dX12_misfitOf_81 : decode cX12_misfitOf 81 = .ok (.imul, 1) := kd_r kbX12_misfitOf ki_114 rfl
theorem dX12_misfitOf_82 : decode cX12_misfitOf 82 = .ok (.idiv, 1) := kd_r kbX12_misfitOf ki_225 rfl
theorem dX12_misfitOf_83 : decode cX12_misfitOf 83 = .ok (.ireturn, 1) := kd_r kbX12_misfitOf ki_7 rfl
set_option maxRecDepth 20000 in
theorem ggX12_bestRod_X12_misfitOf : GoodIn wsX12_bestRod wsX12_misfitOf := goodIn_r _ [6, 7, 8, 9, 10, 11, 12, 13, 14, 15, 16, 17, 18, 19, 20, 21, 22, 23, 24, 25, 26, 27, 28, 29, 30, 31, 32, 33, 34, 35, 36, 37, 38, 39, 40, 41, 42, 43, 44, 45, 46, 47, 48, 49, 50, 51, 52, 53, 54, 55, 56, 57] rfl (by decide +kernel)
set_option maxRecDepth 20000 in
theorem gX12_bestRod_X12_misfitOf : GoodIn wsX12_bestRod (wsV RX12 170 RX12 yX12_misfitOf wsX12_misfitOf) := goodIn_app (goodIn_of _ (by decide +kernel)) ggX12_bestRod_X12_misfitOf
theorem dX12_bestRod_0 : decode cX12_bestRod 0 = .ok (.iconst 0, 1) := kd_r kbX12_bestRod ki_20 rfl
theorem dX12_bestRod_1 : decode cX12_bestRod 1 = .ok (.istore_n 2, 1) := kd_r kbX12_bestRod ki_32 rfl
theorem dX12_bestRod_2 : decode cX12_bestRod 2 = .ok (.sipush 330, 3) := kd_r kbX12_bestRod ki_351 rfl
theorem dX12_bestRod_5 : decode cX12_bestRod 5 = .ok (.istore_n 3, 1) := kd_r kbX12_bestRod ki_108 rfl
theorem dX12_bestRod_6 : decode cX12_bestRod 6 = .ok (.iload_n 3, 1) := kd_r kbX12_bestRod ki_55 rfl
theorem dX12_bestRod_7 : decode cX12_bestRod 7 = .ok (.bipush 40, 2) := kd_r kbX12_bestRod ki_44 rfl
theorem dX12_bestRod_9 : decode cX12_bestRod 9 = .ok (.if_icmp .lt 38, 3) := kd_r kbX12_bestRod ki_807 rfl
theorem dX12_bestRod_12 : decode cX12_bestRod 12 = .ok (.aload_n 0, 1) := kd_r kbX12_bestRod ki_0 rfl
theorem dX12_bestRod_13 : decode cX12_bestRod 13 = .ok (.iload_n 3, 1) := kd_r kbX12_bestRod ki_55 rfl
theorem dX12_bestRod_14 : decode cX12_bestRod 14 = .ok (.iload_n 1, 1) := kd_r kbX12_bestRod ki_8 rfl
theorem dX12_bestRod_15 : decode cX12_bestRod 15 = .ok (.invokevirtual 170, 3) := kd_r kbX12_bestRod ki_573 rfl
theorem dX12_bestRod_18 : decode cX12_bestRod 18 = .ok (.istore 4, 2) := kd_r kbX12_bestRod ki_129 rfl
theorem dX12_bestRod_20 : decode cX12_bestRod 20 = .ok (.iload_n 2, 1) := kd_r kbX12_bestRod ki_11 rfl
theorem dX12_bestRod_21 : decode cX12_bestRod 21 = .ok (.ifCond .eq 12, 3) := kd_r kbX12_bestRod ki_122 rfl
theorem dX12_bestRod_24 : decode cX12_bestRod 24 = .ok (.iload 4, 2) := kd_r kbX12_bestRod ki_57 rfl
theorem dX12_bestRod_26 : decode cX12_bestRod 26 = .ok (.aload_n 0, 1) := kd_r kbX12_bestRod ki_0 rfl
theorem dX12_bestRod_27 : decode cX12_bestRod 27 = .ok (.getfield 173, 3) := kd_r kbX12_bestRod ki_808 rfl
theorem dX12_bestRod_30 : decode cX12_bestRod 30 = .ok (.if_icmp .ge 11, 3) := kd_r kbX12_bestRod ki_809 rfl
theorem dX12_bestRod_33 : decode cX12_bestRod 33 = .ok (.iload_n 3, 1) := kd_r kbX12_bestRod ki_55 rfl
theorem dX12_bestRod_34 : decode cX12_bestRod 34 = .ok (.istore_n 2, 1) := kd_r kbX12_bestRod ki_32 rfl
theorem dX12_bestRod_35 : decode cX12_bestRod 35 = .ok (.aload_n 0, 1) := kd_r kbX12_bestRod ki_0 rfl
theorem dX12_bestRod_36 : decode cX12_bestRod 36 = .ok (.iload 4, 2) := kd_r kbX12_bestRod ki_57 rfl
theorem dX12_bestRod_38 : decode cX12_bestRod 38 = .ok (.putfield 173, 3) := kd_r kbX12_bestRod ki_810 rfl
theorem dX12_bestRod_41 : decode cX12_bestRod 41 = .ok (.iinc 3 (-1), 3) := kd_r kbX12_bestRod ki_337 rfl
theorem dX12_bestRod_44 : decode cX12_bestRod 44 = .ok (.goto (-38), 3) := kd_r kbX12_bestRod ki_100 rfl
theorem dX12_bestRod_47 : decode cX12_bestRod 47 = .ok (.iload_n 2, 1) := kd_r kbX12_bestRod ki_11 rfl
theorem dX12_bestRod_48 : decode cX12_bestRod 48 = .ok (.ireturn, 1) := kd_r kbX12_bestRod ki_7 rfl
set_option maxRecDepth 20000 in
theorem ggX12_misfit_X12_looks : GoodIn wsX12_misfit wsX12_looks := goodIn_r _ [8, 9, 10, 11, 12, 13, 14, 7, 15, 16, 17, 18, 19, 20, 21, 22, 23, 24, 29, 30, 31, 32, 33, 34, 35, 36, 37, 38, 39, 40, 41, 42, 43, 44, 45, 46, 47, 48, 49, 50, 51, 52, 53, 54, 55, 56, 57, 58, 59, 60, 61, 62, 63, 64, 65, 66, 67, 68, 69, 70, 71, 72, 73, 74, 75, 76, 77] rfl (by decide +kernel)
set_option maxRecDepth 20000 in
theorem gX12_misfit_X12_looks : GoodIn wsX12_misfit (wsV RX12 176 RX12 yX12_looks wsX12_looks) := goodIn_app (goodIn_of _ (by decide +kernel)) ggX12_misfit_X12_looks
set_option maxRecDepth 20000 in
theorem ggX12_misfit_X12_within : GoodIn wsX12_misfit wsX12_within := goodIn_r _ [19] rfl (by decide +kernel)
set_option maxRecDepth 20000 in
theorem gX12_misfit_X12_within : GoodIn wsX12_misfit (va_wsS RX12 109 yX12_within wsX12_within) := goodIn_app (goodIn_of _ (by decide +kernel)) ggX12_misfit_X12_within
set_option maxRecDepth 20000 in
theorem ggX12_misfit_X12_misfitOf : GoodIn wsX12_misfit wsX12_misfitOf := goodIn_r _ [28, 10, 11, 29, 30, 31, 32, 33, 34, 35, 36, 37, 38, 39, 40, 41, 42, 43, 44, 45, 46, 47, 48, 49, 50, 51, 52, 53, 54, 55, 56, 57, 58, 59, 60, 61, 62, 63, 64, 65, 66, 67, 68, 69, 70, 71, 72, 73, 74, 75, 76, 77] rfl (by decide +kernel)
set_option maxRecDepth 20000 in
theorem gX12_misfit_X12_misfitOf : GoodIn wsX12_misfit (wsV RX12 170 RX12 yX12_misfitOf wsX12_misfitOf) := goodIn_app (goodIn_of _ (by decide +kernel)) ggX12_misfit_X12_misfitOf
theorem dX12_misfit_0 : decode cX12_misfit 0 = .ok (.aload_n 0, 1) := kd_r kbX12_misfit ki_0 rfl
theorem dX12_misfit_1 : decode cX12_misfit 1 = .ok (.iload_n 1, 1) := kd_r kbX12_misfit ki_8 rfl
theorem dX12_misfit_2 : decode cX12_misfit 2 = .ok (.iload_n 2, 1) := kd_r kbX12_misfit ki_11 rfl
theorem dX12_misfit_3 : decode cX12_misfit 3 = .ok (.invokevirtual 176, 3) := kd_r kbX12_misfit ki_811 rfl
theorem dX12_misfit_6 : decode cX12_misfit 6 = .ok (.ifCond .eq 32, 3) := kd_r kbX12_misfit ki_481 rfl
theorem dX12_misfit_9 : decode cX12_misfit 9 = .ok (.iload_n 3, 1) := kd_r kbX12_misfit ki_55 rfl
theorem dX12_misfit_10 : decode cX12_misfit 10 = .ok (.i2l, 1) := kd_r kbX12_misfit ki_399 rfl
theorem dX12_misfit_11 : decode cX12_misfit 11 = .ok (.ldc2_w 179, 3) := kd_r kbX12_misfit ki_812 rfl
theorem dX12_misfit_14 : decode cX12_misfit 14 = .ok (.ldc2_w 181, 3) := kd_r kbX12_misfit ki_813 rfl
theorem dX12_misfit_17 : decode cX12_misfit 17 = .ok (.invokestatic 109, 3) := kd_r kbX12_misfit ki_751 rfl
theorem dX12_misfit_20 : decode cX12_misfit 20 = .ok (.ifCond .eq 18, 3) := kd_r kbX12_misfit ki_252 rfl
theorem dX12_misfit_23 : decode cX12_misfit 23 = .ok (.iload_n 3, 1) := kd_r kbX12_misfit ki_55 rfl
theorem dX12_misfit_24 : decode cX12_misfit 24 = .ok (.bipush 10, 2) := kd_r kbX12_misfit ki_71 rfl
theorem dX12_misfit_26 : decode cX12_misfit 26 = .ok (.irem, 1) := kd_r kbX12_misfit ki_227 rfl
theorem dX12_misfit_27 : decode cX12_misfit 27 = .ok (.i2l, 1) := kd_r kbX12_misfit ki_399 rfl
theorem dX12_misfit_28 : decode cX12_misfit 28 = .ok (.lconst 1, 1) := kd_r kbX12_misfit ki_124 rfl
theorem dX12_misfit_29 : decode cX12_misfit 29 = .ok (.ldc2_w 183, 3) := kd_r kbX12_misfit ki_814 rfl
theorem dX12_misfit_32 : decode cX12_misfit 32 = .ok (.invokestatic 109, 3) := kd_r kbX12_misfit ki_751 rfl
theorem dX12_misfit_35 : decode cX12_misfit 35 = .ok (.ifCond .ne 5, 3) := kd_r kbX12_misfit ki_36 rfl
theorem dX12_misfit_38 : decode cX12_misfit 38 = .ok (.iconst (-1), 1) := kd_r kbX12_misfit ki_99 rfl
theorem dX12_misfit_39 : decode cX12_misfit 39 = .ok (.ireturn, 1) := kd_r kbX12_misfit ki_7 rfl
theorem dX12_misfit_40 : decode cX12_misfit 40 = .ok (.aload_n 0, 1) := kd_r kbX12_misfit ki_0 rfl
theorem dX12_misfit_41 : decode cX12_misfit 41 = .ok (.iload_n 3, 1) := kd_r kbX12_misfit ki_55 rfl
theorem dX12_misfit_42 : decode cX12_misfit 42 = .ok (.bipush 10, 2) := kd_r kbX12_misfit ki_71 rfl
theorem dX12_misfit_44 : decode cX12_misfit 44 = .ok (.idiv, 1) := kd_r kbX12_misfit ki_225 rfl
theorem dX12_misfit_45 : decode cX12_misfit 45 = .ok (.iload_n 3, 1) := kd_r kbX12_misfit ki_55 rfl
theorem dX12_misfit_46 : decode cX12_misfit 46 = .ok (.bipush 10, 2) := kd_r kbX12_misfit ki_71 rfl
theorem dX12_misfit_48 : decode cX12_misfit 48 = .ok (.irem, 1) := kd_r kbX12_misfit ki_227 rfl
theorem dX12_misfit_49 : decode cX12_misfit 49 = .ok (.invokevirtual 170, 3) := kd_r kbX12_misfit ki_573 rfl
theorem dX12_misfit_52 : decode cX12_misfit 52 = .ok (.ireturn, 1) := kd_r kbX12_misfit ki_7 rfl
set_option maxRecDepth 20000 in
theorem ggX12_rod_X12_looks : GoodIn wsX12_rod wsX12_looks := goodIn_r _ [7, 8, 9, 10, 11, 12, 13, 6, 14, 15, 16, 17, 18, 19, 20, 21, 22, 23, 32, 33, 34, 35, 36, 37, 38, 39, 40, 41, 42, 43, 44, 45, 46, 47, 48, 49, 50, 51, 52, 53, 54, 55, 56, 57, 58, 59, 60, 61, 62, 63, 64, 65, 66, 67, 68, 69, 70, 71, 72, 73, 74, 75, 76, 77, 78, 79, 80] rfl (by decide +kernel)
set_option maxRecDepth 20000 in
theorem gX12_rod_X12_looks : GoodIn wsX12_rod (wsV RX12 176 RX12 yX12_looks wsX12_looks) := goodIn_app (goodIn_of _ (by decide +kernel)) ggX12_rod_X12_looks
set_option maxRecDepth 20000 in
theorem ggX12_rod_X12_within : GoodIn wsX12_rod wsX12_within := goodIn_r _ [18] rfl (by decide +kernel)
set_option maxRecDepth 20000 in
theorem gX12_rod_X12_within : GoodIn wsX12_rod (va_wsS RX12 109 yX12_within wsX12_within) := goodIn_app (goodIn_of _ (by decide +kernel)) ggX12_rod_X12_within
set_option maxRecDepth 20000 in
theorem ggX12_rod_X12_bestRod : GoodIn wsX12_rod wsX12_bestRod := goodIn_r _ [27, 2, 28, 29, 30, 6, 31, 9, 10, 32, 33, 34, 35, 36, 37, 38, 39, 40, 41, 42, 43, 44, 45, 46, 47, 48, 49, 50, 51, 52, 53, 54, 55, 56, 57, 58, 59, 60, 61, 62, 63, 64, 65, 66, 67, 68, 69, 70, 71, 72, 73, 74, 75, 76, 77, 78, 79, 80] rfl (by decide +kernel)
set_option maxRecDepth 20000 in
theorem gX12_rod_X12_bestRod : GoodIn wsX12_rod (wsV RX12 185 RX12 yX12_bestRod wsX12_bestRod) := goodIn_app (goodIn_of _ (by decide +kernel)) ggX12_rod_X12_bestRod
theorem dX12_rod_0 : decode cX12_rod 0 = .ok (.aload_n 0, 1) := kd_r kbX12_rod ki_0 rfl
theorem dX12_rod_1 : decode cX12_rod 1 = .ok (.iload_n 1, 1) := kd_r kbX12_rod ki_8 rfl
theorem dX12_rod_2 : decode cX12_rod 2 = .ok (.iload_n 2, 1) := kd_r kbX12_rod ki_11 rfl
theorem dX12_rod_3 : decode cX12_rod 3 = .ok (.invokevirtual 176, 3) := kd_r kbX12_rod ki_811 rfl
theorem dX12_rod_6 : decode cX12_rod 6 = .ok (.ifCond .eq 26, 3) := kd_r kbX12_rod ki_174 rfl
theorem dX12_rod_9 : decode cX12_rod 9 = .ok (.iload_n 3, 1) := kd_r kbX12_rod ki_55 rfl
theorem dX12_rod_10 : decode cX12_rod 10 = .ok (.i2l, 1) := kd_r kbX12_rod ki_399 rfl
theorem dX12_rod_11 : decode cX12_rod 11 = .ok (.lconst 1, 1) := kd_r kbX12_rod ki_124 rfl
theorem dX12_rod_12 : decode cX12_rod 12 = .ok (.ldc2_w 183, 3) := kd_r kbX12_rod ki_814 rfl
theorem dX12_rod_15 : decode cX12_rod 15 = .ok (.invokestatic 109, 3) := kd_r kbX12_rod ki_751 rfl
theorem dX12_rod_18 : decode cX12_rod 18 = .ok (.ifCond .eq 14, 3) := kd_r kbX12_rod ki_394 rfl
theorem dX12_rod_21 : decode cX12_rod 21 = .ok (.iload 4, 2) := kd_r kbX12_rod ki_57 rfl
theorem dX12_rod_23 : decode cX12_rod 23 = .ok (.i2l, 1) := kd_r kbX12_rod ki_399 rfl
theorem dX12_rod_24 : decode cX12_rod 24 = .ok (.lconst 0, 1) := kd_r kbX12_rod ki_172 rfl
theorem dX12_rod_25 : decode cX12_rod 25 = .ok (.lconst 1, 1) := kd_r kbX12_rod ki_124 rfl
theorem dX12_rod_26 : decode cX12_rod 26 = .ok (.invokestatic 109, 3) := kd_r kbX12_rod ki_751 rfl
theorem dX12_rod_29 : decode cX12_rod 29 = .ok (.ifCond .ne 5, 3) := kd_r kbX12_rod ki_36 rfl
theorem dX12_rod_32 : decode cX12_rod 32 = .ok (.iconst (-1), 1) := kd_r kbX12_rod ki_99 rfl
theorem dX12_rod_33 : decode cX12_rod 33 = .ok (.ireturn, 1) := kd_r kbX12_rod ki_7 rfl
theorem dX12_rod_34 : decode cX12_rod 34 = .ok (.aload_n 0, 1) := kd_r kbX12_rod ki_0 rfl
theorem dX12_rod_35 : decode cX12_rod 35 = .ok (.iload_n 3, 1) := kd_r kbX12_rod ki_55 rfl
theorem dX12_rod_36 : decode cX12_rod 36 = .ok (.invokevirtual 185, 3) := kd_r kbX12_rod ki_815 rfl
theorem dX12_rod_39 : decode cX12_rod 39 = .ok (.istore 5, 2) := kd_r kbX12_rod ki_133 rfl
theorem dX12_rod_41 : decode cX12_rod 41 = .ok (.iload 4, 2) := kd_r kbX12_rod ki_57 rfl
theorem dX12_rod_43 : decode cX12_rod 43 = .ok (.ifCond .ne 8, 3) := kd_r kbX12_rod ki_456 rfl
theorem dX12_rod_46 : decode cX12_rod 46 = .ok (.iload 5, 2) := kd_r kbX12_rod ki_134 rfl
theorem dX12_rod_48 : decode cX12_rod 48 = .ok (.goto 7, 3) := kd_r kbX12_rod ki_416 rfl
theorem dX12_rod_51 : decode cX12_rod 51 = .ok (.aload_n 0, 1) := kd_r kbX12_rod ki_0 rfl
theorem dX12_rod_52 : decode cX12_rod 52 = .ok (.getfield 173, 3) := kd_r kbX12_rod ki_808 rfl
theorem dX12_rod_55 : decode cX12_rod 55 = .ok (.ireturn, 1) := kd_r kbX12_rod ki_7 rfl
set_option maxRecDepth 20000 in
theorem ggX12_chance_X12_looks : GoodIn wsX12_chance wsX12_looks := goodIn_r _ [12, 13, 5, 7, 14, 15, 16, 11, 17, 18, 19, 20, 21, 22, 23, 24, 25, 26, 35, 36, 37, 38, 39, 40, 41, 42, 43, 44, 45, 46, 47, 48, 49, 50, 51, 52, 53, 54, 55, 56, 57, 58, 59, 60, 61, 62, 63, 64, 65, 66, 67, 68, 69, 70, 71, 72, 73, 74, 75, 76, 77, 78, 79, 80, 81, 82, 83] rfl (by decide +kernel)
set_option maxRecDepth 20000 in
theorem gX12_chance_X12_looks : GoodIn wsX12_chance (wsV RX12 176 RX12 yX12_looks wsX12_looks) := goodIn_app (goodIn_of _ (by decide +kernel)) ggX12_chance_X12_looks
set_option maxRecDepth 20000 in
theorem ggX12_chance_X12_within : GoodIn wsX12_chance wsX12_within := goodIn_r _ [21] rfl (by decide +kernel)
set_option maxRecDepth 20000 in
theorem gX12_chance_X12_within : GoodIn wsX12_chance (va_wsS RX12 109 yX12_within wsX12_within) := goodIn_app (goodIn_of _ (by decide +kernel)) ggX12_chance_X12_within
set_option maxRecDepth 20000 in
theorem ggX12_chance_X12_bestRod : GoodIn wsX12_chance wsX12_bestRod := goodIn_r _ [30, 4, 31, 32, 33, 11, 34, 5, 7, 35, 36, 37, 38, 39, 40, 41, 42, 43, 44, 45, 46, 47, 48, 49, 50, 51, 52, 53, 54, 55, 56, 57, 58, 59, 60, 61, 62, 63, 64, 65, 66, 67, 68, 69, 70, 71, 72, 73, 74, 75, 76, 77, 78, 79, 80, 81, 82, 83] rfl (by decide +kernel)
set_option maxRecDepth 20000 in
theorem gX12_chance_X12_bestRod : GoodIn wsX12_chance (wsV RX12 185 RX12 yX12_bestRod wsX12_bestRod) := goodIn_app (goodIn_of _ (by decide +kernel)) ggX12_chance_X12_bestRod
set_option maxRecDepth 20000 in
theorem ggX12_chance_X12_width : GoodIn wsX12_chance wsX12_width := goodIn_r _ [25, 26, 35, 36, 37, 38, 39, 40, 41, 42, 43, 44, 45, 46, 47, 48, 49, 50, 51, 52, 53, 54, 55, 56, 57, 58, 59, 60, 61, 62, 63, 64, 65, 66, 67, 68, 69, 70, 71, 72, 73, 74, 75, 76, 77, 78, 79, 80, 81, 82, 83] rfl (by decide +kernel)
set_option maxRecDepth 20000 in
theorem gX12_chance_X12_width : GoodIn wsX12_chance (wsV RX12 113 RX12 yX12_width wsX12_width) := goodIn_app (goodIn_of _ (by decide +kernel)) ggX12_chance_X12_width
theorem dX12_chance_0 : decode cX12_chance 0 = .ok (.aload_n 0, 1) := kd_r kbX12_chance ki_0 rfl
theorem dX12_chance_1 : decode cX12_chance 1 = .ok (.iload_n 1, 1) := kd_r kbX12_chance ki_8 rfl
theorem dX12_chance_2 : decode cX12_chance 2 = .ok (.iload_n 2, 1) := kd_r kbX12_chance ki_11 rfl
theorem dX12_chance_3 : decode cX12_chance 3 = .ok (.invokevirtual 176, 3) := kd_r kbX12_chance ki_811 rfl
theorem dX12_chance_6 : decode cX12_chance 6 = .ok (.ifCond .eq 32, 3) := kd_r kbX12_chance ki_481 rfl
theorem dX12_chance_9 : decode cX12_chance 9 = .ok (.iload_n 3, 1) := kd_r kbX12_chance ki_55 rfl
theorem dX12_chance_10 : decode cX12_chance 10 = .ok (.i2l, 1) := kd_r kbX12_chance ki_399 rfl
theorem dX12_chance_11 : decode cX12_chance 11 = .ok (.ldc2_w 160, 3) := kd_r kbX12_chance ki_792 rfl
theorem dX12_chance_14 : decode cX12_chance 14 = .ok (.ldc2_w 162, 3) := kd_r kbX12_chance ki_793 rfl
theorem dX12_chance_17 : decode cX12_chance 17 = .ok (.invokestatic 109, 3) := kd_r kbX12_chance ki_751 rfl
theorem dX12_chance_20 : decode cX12_chance 20 = .ok (.ifCond .eq 18, 3) := kd_r kbX12_chance ki_252 rfl
theorem dX12_chance_23 : decode cX12_chance 23 = .ok (.iload_n 3, 1) := kd_r kbX12_chance ki_55 rfl
theorem dX12_chance_24 : decode cX12_chance 24 = .ok (.bipush 100, 2) := kd_r kbX12_chance ki_228 rfl
theorem dX12_chance_26 : decode cX12_chance 26 = .ok (.irem, 1) := kd_r kbX12_chance ki_227 rfl
theorem dX12_chance_27 : decode cX12_chance 27 = .ok (.i2l, 1) := kd_r kbX12_chance ki_399 rfl
theorem dX12_chance_28 : decode cX12_chance 28 = .ok (.lconst 1, 1) := kd_r kbX12_chance ki_124 rfl
theorem dX12_chance_29 : decode cX12_chance 29 = .ok (.ldc2_w 188, 3) := kd_r kbX12_chance ki_816 rfl
theorem dX12_chance_32 : decode cX12_chance 32 = .ok (.invokestatic 109, 3) := kd_r kbX12_chance ki_751 rfl
theorem dX12_chance_35 : decode cX12_chance 35 = .ok (.ifCond .ne 5, 3) := kd_r kbX12_chance ki_36 rfl
theorem dX12_chance_38 : decode cX12_chance 38 = .ok (.iconst (-1), 1) := kd_r kbX12_chance ki_99 rfl
theorem dX12_chance_39 : decode cX12_chance 39 = .ok (.ireturn, 1) := kd_r kbX12_chance ki_7 rfl
theorem dX12_chance_40 : decode cX12_chance 40 = .ok (.iload_n 3, 1) := kd_r kbX12_chance ki_55 rfl
theorem dX12_chance_41 : decode cX12_chance 41 = .ok (.bipush 100, 2) := kd_r kbX12_chance ki_228 rfl
theorem dX12_chance_43 : decode cX12_chance 43 = .ok (.idiv, 1) := kd_r kbX12_chance ki_225 rfl
theorem dX12_chance_44 : decode cX12_chance 44 = .ok (.istore 5, 2) := kd_r kbX12_chance ki_133 rfl
theorem dX12_chance_46 : decode cX12_chance 46 = .ok (.aload_n 0, 1) := kd_r kbX12_chance ki_0 rfl
theorem dX12_chance_47 : decode cX12_chance 47 = .ok (.iload 5, 2) := kd_r kbX12_chance ki_134 rfl
theorem dX12_chance_49 : decode cX12_chance 49 = .ok (.invokevirtual 185, 3) := kd_r kbX12_chance ki_815 rfl
theorem dX12_chance_52 : decode cX12_chance 52 = .ok (.istore 6, 2) := kd_r kbX12_chance ki_199 rfl
theorem dX12_chance_54 : decode cX12_chance 54 = .ok (.aload_n 0, 1) := kd_r kbX12_chance ki_0 rfl
theorem dX12_chance_55 : decode cX12_chance 55 = .ok (.getfield 173, 3) := kd_r kbX12_chance ki_808 rfl
theorem dX12_chance_58 : decode cX12_chance 58 = .ok (.istore 7, 2) := kd_r kbX12_chance ki_152 rfl
theorem dX12_chance_60 : decode cX12_chance 60 = .ok (.iload 4, 2) := kd_r kbX12_chance ki_57 rfl
theorem dX12_chance_62 : decode cX12_chance 62 = .ok (.istore 8, 2) := kd_r kbX12_chance ki_155 rfl
theorem dX12_chance_64 : decode cX12_chance 64 = .ok (.iconst 0, 1) := kd_r kbX12_chance ki_20 rfl
theorem dX12_chance_65 : decode cX12_chance 65 = .ok (.istore 9, 2) := kd_r kbX12_chance ki_369 rfl
theorem dX12_chance_67 : decode cX12_chance 67 = .ok (.iconst 0, 1) := kd_r kbX12_chance ki_20 rfl
theorem dX12_chance_68 : decode cX12_chance 68 = .ok (.istore 10, 2) := kd_r kbX12_chance ki_372 rfl
theorem dX12_chance_70 : decode cX12_chance 70 = .ok (.iload 10, 2) := kd_r kbX12_chance ki_373 rfl
theorem dX12_chance_72 : decode cX12_chance 72 = .ok (.iload_n 3, 1) := kd_r kbX12_chance ki_55 rfl
theorem dX12_chance_73 : decode cX12_chance 73 = .ok (.bipush 100, 2) := kd_r kbX12_chance ki_228 rfl
theorem dX12_chance_75 : decode cX12_chance 75 = .ok (.irem, 1) := kd_r kbX12_chance ki_227 rfl
theorem dX12_chance_76 : decode cX12_chance 76 = .ok (.if_icmp .ge 101, 3) := kd_r kbX12_chance ki_817 rfl
theorem dX12_chance_79 : decode cX12_chance 79 = .ok (.iconst 0, 1) := kd_r kbX12_chance ki_20 rfl
theorem dX12_chance_80 : decode cX12_chance 80 = .ok (.istore 11, 2) := kd_r kbX12_chance ki_818 rfl
theorem dX12_chance_82 : decode cX12_chance 82 = .ok (.iload 11, 2) := kd_r kbX12_chance ki_819 rfl
theorem dX12_chance_84 : decode cX12_chance 84 = .ok (.aload_n 0, 1) := kd_r kbX12_chance ki_0 rfl
theorem dX12_chance_85 : decode cX12_chance 85 = .ok (.getfield 167, 3) := kd_r kbX12_chance ki_803 rfl
theorem dX12_chance_88 : decode cX12_chance 88 = .ok (.if_icmp .ge 56, 3) := kd_r kbX12_chance ki_600 rfl
theorem dX12_chance_91 : decode cX12_chance 91 = .ok (.aload_n 0, 1) := kd_r kbX12_chance ki_0 rfl
theorem dX12_chance_92 : decode cX12_chance 92 = .ok (.iload_n 1, 1) := kd_r kbX12_chance ki_8 rfl
theorem dX12_chance_93 : decode cX12_chance 93 = .ok (.iload_n 2, 1) := kd_r kbX12_chance ki_11 rfl
theorem dX12_chance_94 : decode cX12_chance 94 = .ok (.bipush 100, 2) := kd_r kbX12_chance ki_228 rfl
theorem dX12_chance_96 : decode cX12_chance 96 = .ok (.idiv, 1) := kd_r kbX12_chance ki_225 rfl
theorem dX12_chance_97 : decode cX12_chance 97 = .ok (.iload 11, 2) := kd_r kbX12_chance ki_819 rfl
theorem dX12_chance_99 : decode cX12_chance 99 = .ok (.iadd, 1) := kd_r kbX12_chance ki_30 rfl
theorem dX12_chance_100 : decode cX12_chance 100 = .ok (.invokevirtual 113, 3) := kd_r kbX12_chance ki_754 rfl
theorem dX12_chance_103 : decode cX12_chance 103 = .ok (.istore 12, 2) := kd_r kbX12_chance ki_820 rfl
theorem dX12_chance_105 : decode cX12_chance 105 = .ok (.iload 8, 2) := kd_r kbX12_chance ki_156 rfl
theorem dX12_chance_107 : decode cX12_chance 107 = .ok (.ldc 190, 2) := kd_r kbX12_chance ki_821 rfl
theorem dX12_chance_109 : decode cX12_chance 109 = .ok (.imul, 1) := kd_r kbX12_chance ki_114 rfl
theorem dX12_chance_110 : decode cX12_chance 110 = .ok (.sipush 12345, 3) := kd_r kbX12_chance ki_712 rfl
theorem dX12_chance_113 : decode cX12_chance 113 = .ok (.iadd, 1) := kd_r kbX12_chance ki_30 rfl
theorem dX12_chance_114 : decode cX12_chance 114 = .ok (.istore 8, 2) := kd_r kbX12_chance ki_155 rfl
theorem dX12_chance_116 : decode cX12_chance 116 = .ok (.aload_n 0, 1) := kd_r kbX12_chance ki_0 rfl
theorem dX12_chance_117 : decode cX12_chance 117 = .ok (.getfield 25, 3) := kd_r kbX12_chance ki_224 rfl
theorem dX12_chance_120 : decode cX12_chance 120 = .ok (.iload 11, 2) := kd_r kbX12_chance ki_819 rfl
theorem dX12_chance_122 : decode cX12_chance 122 = .ok (.iload 12, 2) := kd_r kbX12_chance ki_822 rfl
theorem dX12_chance_124 : decode cX12_chance 124 = .ok (.iconst 2, 1) := kd_r kbX12_chance ki_244 rfl
theorem dX12_chance_125 : decode cX12_chance 125 = .ok (.idiv, 1) := kd_r kbX12_chance ki_225 rfl
theorem dX12_chance_126 : decode cX12_chance 126 = .ok (.iload 8, 2) := kd_r kbX12_chance ki_156 rfl
theorem dX12_chance_128 : decode cX12_chance 128 = .ok (.bipush 8, 2) := kd_r kbX12_chance ki_74 rfl
theorem dX12_chance_130 : decode cX12_chance 130 = .ok (.iushr, 1) := kd_r kbX12_chance ki_15 rfl
theorem dX12_chance_131 : decode cX12_chance 131 = .ok (.iload 12, 2) := kd_r kbX12_chance ki_822 rfl
theorem dX12_chance_133 : decode cX12_chance 133 = .ok (.iconst 1, 1) := kd_r kbX12_chance ki_16 rfl
theorem dX12_chance_134 : decode cX12_chance 134 = .ok (.iadd, 1) := kd_r kbX12_chance ki_30 rfl
theorem dX12_chance_135 : decode cX12_chance 135 = .ok (.irem, 1) := kd_r kbX12_chance ki_227 rfl
theorem dX12_chance_136 : decode cX12_chance 136 = .ok (.iadd, 1) := kd_r kbX12_chance ki_30 rfl
theorem dX12_chance_137 : decode cX12_chance 137 = .ok (.iastore, 1) := kd_r kbX12_chance ki_28 rfl
theorem dX12_chance_138 : decode cX12_chance 138 = .ok (.iinc 11 1, 3) := kd_r kbX12_chance ki_823 rfl
theorem dX12_chance_141 : decode cX12_chance 141 = .ok (.goto (-59), 3) := kd_r kbX12_chance ki_824 rfl
theorem dX12_chance_144 : decode cX12_chance 144 = .ok (.aload_n 0, 1) := kd_r kbX12_chance ki_0 rfl
theorem dX12_chance_145 : decode cX12_chance 145 = .ok (.iload 5, 2) := kd_r kbX12_chance ki_134 rfl
theorem dX12_chance_147 : decode cX12_chance 147 = .ok (.invokevirtual 185, 3) := kd_r kbX12_chance ki_815 rfl
theorem dX12_chance_150 : decode cX12_chance 150 = .ok (.istore 6, 2) := kd_r kbX12_chance ki_199 rfl
theorem dX12_chance_152 : decode cX12_chance 152 = .ok (.iload 9, 2) := kd_r kbX12_chance ki_370 rfl
theorem dX12_chance_154 : decode cX12_chance 154 = .ok (.aload_n 0, 1) := kd_r kbX12_chance ki_0 rfl
theorem dX12_chance_155 : decode cX12_chance 155 = .ok (.getfield 173, 3) := kd_r kbX12_chance ki_808 rfl
theorem dX12_chance_158 : decode cX12_chance 158 = .ok (.iload 7, 2) := kd_r kbX12_chance ki_153 rfl
theorem dX12_chance_160 : decode cX12_chance 160 = .ok (.if_icmp .gt 7, 3) := kd_r kbX12_chance ki_191 rfl
theorem dX12_chance_163 : decode cX12_chance 163 = .ok (.iconst 1, 1) := kd_r kbX12_chance ki_16 rfl
theorem dX12_chance_164 : decode cX12_chance 164 = .ok (.goto 4, 3) := kd_r kbX12_chance ki_19 rfl
theorem dX12_chance_167 : decode cX12_chance 167 = .ok (.iconst 0, 1) := kd_r kbX12_chance ki_20 rfl
theorem dX12_chance_168 : decode cX12_chance 168 = .ok (.iadd, 1) := kd_r kbX12_chance ki_30 rfl
theorem dX12_chance_169 : decode cX12_chance 169 = .ok (.istore 9, 2) := kd_r kbX12_chance ki_369 rfl
theorem dX12_chance_171 : decode cX12_chance 171 = .ok (.iinc 10 1, 3) := kd_r kbX12_chance ki_377 rfl
theorem dX12_chance_174 : decode cX12_chance 174 = .ok (.goto (-104), 3) := kd_r kbX12_chance ki_825 rfl
theorem dX12_chance_177 : decode cX12_chance 177 = .ok (.iload 9, 2) := kd_r kbX12_chance ki_370 rfl
theorem dX12_chance_179 : decode cX12_chance 179 = .ok (.ireturn, 1) := kd_r kbX12_chance ki_7 rfl
set_option maxRecDepth 20000 in
theorem ggX12_isWs_X12_within : GoodIn wsX12_isWs wsX12_within := goodIn_r _ [6] rfl (by decide +kernel)
set_option maxRecDepth 20000 in
theorem gX12_isWs_X12_within : GoodIn wsX12_isWs (va_wsS RX12 109 yX12_within wsX12_within) := goodIn_app (goodIn_of _ (by decide +kernel)) ggX12_isWs_X12_within
theorem dX12_isWs_0 : decode cX12_isWs 0 = .ok (.iload_n 0, 1) := kd_r kbX12_isWs ki_40 rfl
theorem dX12_isWs_1 : decode cX12_isWs 1 = .ok (.i2l, 1) := kd_r kbX12_isWs ki_399 rfl
theorem dX12_isWs_2 : decode cX12_isWs 2 = .ok (.ldc2_w 191, 3) := kd_r kbX12_isWs ki_826 rfl
theorem dX12_isWs_5 : decode cX12_isWs 5 = .ok (.ldc2_w 193, 3) := kd_r kbX12_isWs ki_827 rfl
theorem dX12_isWs_8 : decode cX12_isWs 8 = .ok (.invokestatic 109, 3) := kd_r kbX12_isWs ki_751 rfl
theorem dX12_isWs_11 : decode cX12_isWs 11 = .ok (.ireturn, 1) := kd_r kbX12_isWs ki_7 rfl
set_option maxRecDepth 20000 in
theorem ggX12_findFirsts_X12_width : GoodIn wsX12_findFirsts wsX12_width := goodIn_r _ [11, 12, 16, 17, 18, 19, 20, 21, 22, 23, 24, 25, 26, 27, 28, 29, 30, 31, 32, 33, 34, 35, 36, 37, 38, 39, 40, 41, 42, 43, 44, 45, 46, 47, 48, 49, 50, 51, 52, 53, 54, 55, 56, 57, 58, 59, 60, 61, 62, 63, 64] rfl (by decide +kernel)
set_option maxRecDepth 20000 in
theorem gX12_findFirsts_X12_width : GoodIn wsX12_findFirsts (wsV RX12 113 RX12 yX12_width wsX12_width) := goodIn_app (goodIn_of _ (by decide +kernel)) ggX12_findFirsts_X12_width
set_option maxRecDepth 20000 in
theorem ggX12_findFirsts_X12_size : GoodIn wsX12_findFirsts wsX12_size := goodIn_r _ [15] rfl (by decide +kernel)
set_option maxRecDepth 20000 in
theorem gX12_findFirsts_X12_size : GoodIn wsX12_findFirsts (va_wsS RX12 196 yX12_size wsX12_size) := goodIn_app (goodIn_of _ (by decide +kernel)) ggX12_findFirsts_X12_size
theorem dX12_findFirsts_0 : decode cX12_findFirsts 0 = .ok (.aload_n 0, 1) := kd_r kbX12_findFirsts ki_0 rfl
theorem dX12_findFirsts_1 : decode cX12_findFirsts 1 = .ok (.getfield 9, 3) := kd_r kbX12_findFirsts ki_13 rfl
theorem dX12_findFirsts_4 : decode cX12_findFirsts 4 = .ok (.iload_n 1, 1) := kd_r kbX12_findFirsts ki_8 rfl
theorem dX12_findFirsts_5 : decode cX12_findFirsts 5 = .ok (.iaload, 1) := kd_r kbX12_findFirsts ki_14 rfl
theorem dX12_findFirsts_6 : decode cX12_findFirsts 6 = .ok (.istore_n 3, 1) := kd_r kbX12_findFirsts ki_108 rfl
theorem dX12_findFirsts_7 : decode cX12_findFirsts 7 = .ok (.aload_n 0, 1) := kd_r kbX12_findFirsts ki_0 rfl
theorem dX12_findFirsts_8 : decode cX12_findFirsts 8 = .ok (.getfield 28, 3) := kd_r kbX12_findFirsts ki_828 rfl
theorem dX12_findFirsts_11 : decode cX12_findFirsts 11 = .ok (.iload_n 3, 1) := kd_r kbX12_findFirsts ki_55 rfl
theorem dX12_findFirsts_12 : decode cX12_findFirsts 12 = .ok (.iconst 0, 1) := kd_r kbX12_findFirsts ki_20 rfl
theorem dX12_findFirsts_13 : decode cX12_findFirsts 13 = .ok (.iastore, 1) := kd_r kbX12_findFirsts ki_28 rfl
theorem dX12_findFirsts_14 : decode cX12_findFirsts 14 = .ok (.aload_n 0, 1) := kd_r kbX12_findFirsts ki_0 rfl
theorem dX12_findFirsts_15 : decode cX12_findFirsts 15 = .ok (.getfield 31, 3) := kd_r kbX12_findFirsts ki_829 rfl
theorem dX12_findFirsts_18 : decode cX12_findFirsts 18 = .ok (.iload_n 3, 1) := kd_r kbX12_findFirsts ki_55 rfl
theorem dX12_findFirsts_19 : decode cX12_findFirsts 19 = .ok (.iconst 0, 1) := kd_r kbX12_findFirsts ki_20 rfl
theorem dX12_findFirsts_20 : decode cX12_findFirsts 20 = .ok (.iastore, 1) := kd_r kbX12_findFirsts ki_28 rfl
theorem dX12_findFirsts_21 : decode cX12_findFirsts 21 = .ok (.iload_n 3, 1) := kd_r kbX12_findFirsts ki_55 rfl
theorem dX12_findFirsts_22 : decode cX12_findFirsts 22 = .ok (.iconst 1, 1) := kd_r kbX12_findFirsts ki_16 rfl
theorem dX12_findFirsts_23 : decode cX12_findFirsts 23 = .ok (.isub, 1) := kd_r kbX12_findFirsts ki_50 rfl
theorem dX12_findFirsts_24 : decode cX12_findFirsts 24 = .ok (.istore 4, 2) := kd_r kbX12_findFirsts ki_129 rfl
theorem dX12_findFirsts_26 : decode cX12_findFirsts 26 = .ok (.iload 4, 2) := kd_r kbX12_findFirsts ki_57 rfl
theorem dX12_findFirsts_28 : decode cX12_findFirsts 28 = .ok (.ifCond .lt 243, 3) := kd_r kbX12_findFirsts ki_830 rfl
theorem dX12_findFirsts_31 : decode cX12_findFirsts 31 = .ok (.aload_n 0, 1) := kd_r kbX12_findFirsts ki_0 rfl
theorem dX12_findFirsts_32 : decode cX12_findFirsts 32 = .ok (.getfield 28, 3) := kd_r kbX12_findFirsts ki_828 rfl
theorem dX12_findFirsts_35 : decode cX12_findFirsts 35 = .ok (.iload 4, 2) := kd_r kbX12_findFirsts ki_57 rfl
theorem dX12_findFirsts_37 : decode cX12_findFirsts 37 = .ok (.ldc 195, 2) := kd_r kbX12_findFirsts ki_831 rfl
theorem dX12_findFirsts_39 : decode cX12_findFirsts 39 = .ok (.iastore, 1) := kd_r kbX12_findFirsts ki_28 rfl
theorem dX12_findFirsts_40 : decode cX12_findFirsts 40 = .ok (.aload_n 0, 1) := kd_r kbX12_findFirsts ki_0 rfl
theorem dX12_findFirsts_41 : decode cX12_findFirsts 41 = .ok (.getfield 31, 3) := kd_r kbX12_findFirsts ki_829 rfl
theorem dX12_findFirsts_44 : decode cX12_findFirsts 44 = .ok (.iload 4, 2) := kd_r kbX12_findFirsts ki_57 rfl
theorem dX12_findFirsts_46 : decode cX12_findFirsts 46 = .ok (.iconst 0, 1) := kd_r kbX12_findFirsts ki_20 rfl
theorem dX12_findFirsts_47 : decode cX12_findFirsts 47 = .ok (.iastore, 1) := kd_r kbX12_findFirsts ki_28 rfl
theorem dX12_findFirsts_48 : decode cX12_findFirsts 48 = .ok (.iconst 0, 1) := kd_r kbX12_findFirsts ki_20 rfl
theorem dX12_findFirsts_49 : decode cX12_findFirsts 49 = .ok (.istore 5, 2) := kd_r kbX12_findFirsts ki_133 rfl
theorem dX12_findFirsts_51 : decode cX12_findFirsts 51 = .ok (.iconst 1, 1) := kd_r kbX12_findFirsts ki_16 rfl
theorem dX12_findFirsts_52 : decode cX12_findFirsts 52 = .ok (.istore 6, 2) := kd_r kbX12_findFirsts ki_199 rfl
theorem dX12_findFirsts_54 : decode cX12_findFirsts 54 = .ok (.iload 6, 2) := kd_r kbX12_findFirsts ki_200 rfl
theorem dX12_findFirsts_56 : decode cX12_findFirsts 56 = .ok (.bipush 6, 2) := kd_r kbX12_findFirsts ki_2 rfl
theorem dX12_findFirsts_58 : decode cX12_findFirsts 58 = .ok (.if_icmp .gt 207, 3) := kd_r kbX12_findFirsts ki_832 rfl
theorem dX12_findFirsts_61 : decode cX12_findFirsts 61 = .ok (.iload 4, 2) := kd_r kbX12_findFirsts ki_57 rfl
theorem dX12_findFirsts_63 : decode cX12_findFirsts 63 = .ok (.iload 6, 2) := kd_r kbX12_findFirsts ki_200 rfl
theorem dX12_findFirsts_65 : decode cX12_findFirsts 65 = .ok (.iadd, 1) := kd_r kbX12_findFirsts ki_30 rfl
theorem dX12_findFirsts_66 : decode cX12_findFirsts 66 = .ok (.iload_n 3, 1) := kd_r kbX12_findFirsts ki_55 rfl
theorem dX12_findFirsts_67 : decode cX12_findFirsts 67 = .ok (.if_icmp .gt 198, 3) := kd_r kbX12_findFirsts ki_833 rfl
theorem dX12_findFirsts_70 : decode cX12_findFirsts 70 = .ok (.iload 5, 2) := kd_r kbX12_findFirsts ki_134 rfl
theorem dX12_findFirsts_72 : decode cX12_findFirsts 72 = .ok (.aload_n 0, 1) := kd_r kbX12_findFirsts ki_0 rfl
theorem dX12_findFirsts_73 : decode cX12_findFirsts 73 = .ok (.iload_n 1, 1) := kd_r kbX12_findFirsts ki_8 rfl
theorem dX12_findFirsts_74 : decode cX12_findFirsts 74 = .ok (.iload 4, 2) := kd_r kbX12_findFirsts ki_57 rfl
theorem dX12_findFirsts_76 : decode cX12_findFirsts 76 = .ok (.iload 6, 2) := kd_r kbX12_findFirsts ki_200 rfl
theorem dX12_findFirsts_78 : decode cX12_findFirsts 78 = .ok (.iadd, 1) := kd_r kbX12_findFirsts ki_30 rfl
theorem dX12_findFirsts_79 : decode cX12_findFirsts 79 = .ok (.iconst 1, 1) := kd_r kbX12_findFirsts ki_16 rfl
theorem dX12_findFirsts_80 : decode cX12_findFirsts 80 = .ok (.isub, 1) := kd_r kbX12_findFirsts ki_50 rfl
theorem dX12_findFirsts_81 : decode cX12_findFirsts 81 = .ok (.invokevirtual 113, 3) := kd_r kbX12_findFirsts ki_754 rfl
theorem dX12_findFirsts_84 : decode cX12_findFirsts 84 = .ok (.iadd, 1) := kd_r kbX12_findFirsts ki_30 rfl
theorem dX12_findFirsts_85 : decode cX12_findFirsts 85 = .ok (.istore 5, 2) := kd_r kbX12_findFirsts ki_133 rfl
theorem dX12_findFirsts_87 : decode cX12_findFirsts 87 = .ok (.iconst 1, 1) := kd_r kbX12_findFirsts ki_16 rfl
theorem dX12_findFirsts_88 : decode cX12_findFirsts 88 = .ok (.istore 7, 2) := kd_r kbX12_findFirsts ki_152 rfl
theorem dX12_findFirsts_90 : decode cX12_findFirsts 90 = .ok (.iload 7, 2) := kd_r kbX12_findFirsts ki_153 rfl
theorem dX12_findFirsts_92 : decode cX12_findFirsts 92 = .ok (.bipush 6, 2) := kd_r kbX12_findFirsts ki_2 rfl
theorem dX12_findFirsts_94 : decode cX12_findFirsts 94 = .ok (.if_icmp .gt 165, 3) := kd_r kbX12_findFirsts ki_834 rfl
theorem dX12_findFirsts_97 : decode cX12_findFirsts 97 = .ok (.aload_n 0, 1) := kd_r kbX12_findFirsts ki_0 rfl
theorem dX12_findFirsts_98 : decode cX12_findFirsts 98 = .ok (.getfield 28, 3) := kd_r kbX12_findFirsts ki_828 rfl
theorem dX12_findFirsts_101 : decode cX12_findFirsts 101 = .ok (.iload 4, 2) := kd_r kbX12_findFirsts ki_57 rfl
theorem dX12_findFirsts_103 : decode cX12_findFirsts 103 = .ok (.iload 6, 2) := kd_r kbX12_findFirsts ki_200 rfl
theorem dX12_findFirsts_105 : decode cX12_findFirsts 105 = .ok (.iadd, 1) := kd_r kbX12_findFirsts ki_30 rfl
theorem dX12_findFirsts_106 : decode cX12_findFirsts 106 = .ok (.iaload, 1) := kd_r kbX12_findFirsts ki_14 rfl
theorem dX12_findFirsts_107 : decode cX12_findFirsts 107 = .ok (.iload 6, 2) := kd_r kbX12_findFirsts ki_200 rfl
theorem dX12_findFirsts_109 : decode cX12_findFirsts 109 = .ok (.iadd, 1) := kd_r kbX12_findFirsts ki_30 rfl
theorem dX12_findFirsts_110 : decode cX12_findFirsts 110 = .ok (.iload 7, 2) := kd_r kbX12_findFirsts ki_153 rfl
theorem dX12_findFirsts_112 : decode cX12_findFirsts 112 = .ok (.iadd, 1) := kd_r kbX12_findFirsts ki_30 rfl
theorem dX12_findFirsts_113 : decode cX12_findFirsts 113 = .ok (.iconst 2, 1) := kd_r kbX12_findFirsts ki_244 rfl
theorem dX12_findFirsts_114 : decode cX12_findFirsts 114 = .ok (.isub, 1) := kd_r kbX12_findFirsts ki_50 rfl
theorem dX12_findFirsts_115 : decode cX12_findFirsts 115 = .ok (.istore 8, 2) := kd_r kbX12_findFirsts ki_155 rfl
theorem dX12_findFirsts_117 : decode cX12_findFirsts 117 = .ok (.aload_n 0, 1) := kd_r kbX12_findFirsts ki_0 rfl
theorem dX12_findFirsts_118 : decode cX12_findFirsts 118 = .ok (.getfield 31, 3) := kd_r kbX12_findFirsts ki_829 rfl
theorem dX12_findFirsts_121 : decode cX12_findFirsts 121 = .ok (.iload 4, 2) := kd_r kbX12_findFirsts ki_57 rfl
theorem dX12_findFirsts_123 : decode cX12_findFirsts 123 = .ok (.iload 6, 2) := kd_r kbX12_findFirsts ki_200 rfl
theorem dX12_findFirsts_125 : decode cX12_findFirsts 125 = .ok (.iadd, 1) := kd_r kbX12_findFirsts ki_30 rfl
theorem dX12_findFirsts_126 : decode cX12_findFirsts 126 = .ok (.iaload, 1) := kd_r kbX12_findFirsts ki_14 rfl
theorem dX12_findFirsts_127 : decode cX12_findFirsts 127 = .ok (.iconst 1, 1) := kd_r kbX12_findFirsts ki_16 rfl
theorem dX12_findFirsts_128 : decode cX12_findFirsts 128 = .ok (.iadd, 1) := kd_r kbX12_findFirsts ki_30 rfl
theorem dX12_findFirsts_129 : decode cX12_findFirsts 129 = .ok (.istore 9, 2) := kd_r kbX12_findFirsts ki_369 rfl
theorem dX12_findFirsts_131 : decode cX12_findFirsts 131 = .ok (.iload 8, 2) := kd_r kbX12_findFirsts ki_156 rfl
theorem dX12_findFirsts_133 : decode cX12_findFirsts 133 = .ok (.aload_n 0, 1) := kd_r kbX12_findFirsts ki_0 rfl
theorem dX12_findFirsts_134 : decode cX12_findFirsts 134 = .ok (.getfield 28, 3) := kd_r kbX12_findFirsts ki_828 rfl
theorem dX12_findFirsts_137 : decode cX12_findFirsts 137 = .ok (.iload 4, 2) := kd_r kbX12_findFirsts ki_57 rfl
theorem dX12_findFirsts_139 : decode cX12_findFirsts 139 = .ok (.iaload, 1) := kd_r kbX12_findFirsts ki_14 rfl
theorem dX12_findFirsts_140 : decode cX12_findFirsts 140 = .ok (.if_icmp .lt 27, 3) := kd_r kbX12_findFirsts ki_835 rfl
theorem dX12_findFirsts_143 : decode cX12_findFirsts 143 = .ok (.iload 8, 2) := kd_r kbX12_findFirsts ki_156 rfl
theorem dX12_findFirsts_145 : decode cX12_findFirsts 145 = .ok (.aload_n 0, 1) := kd_r kbX12_findFirsts ki_0 rfl
theorem dX12_findFirsts_146 : decode cX12_findFirsts 146 = .ok (.getfield 28, 3) := kd_r kbX12_findFirsts ki_828 rfl
theorem dX12_findFirsts_149 : decode cX12_findFirsts 149 = .ok (.iload 4, 2) := kd_r kbX12_findFirsts ki_57 rfl
theorem dX12_findFirsts_151 : decode cX12_findFirsts 151 = .ok (.iaload, 1) := kd_r kbX12_findFirsts ki_14 rfl
theorem dX12_findFirsts_152 : decode cX12_findFirsts 152 = .ok (.if_icmp .ne 19, 3) := kd_r kbX12_findFirsts ki_259 rfl
theorem dX12_findFirsts_155 : decode cX12_findFirsts 155 = .ok (.iload 9, 2) := kd_r kbX12_findFirsts ki_370 rfl
theorem dX12_findFirsts_157 : decode cX12_findFirsts 157 = .ok (.aload_n 0, 1) := kd_r kbX12_findFirsts ki_0 rfl
theorem dX12_findFirsts_158 : decode cX12_findFirsts 158 = .ok (.getfield 31, 3) := kd_r kbX12_findFirsts ki_829 rfl
theorem dX12_findFirsts_161 : decode cX12_findFirsts 161 = .ok (.iload 4, 2) := kd_r kbX12_findFirsts ki_57 rfl
theorem dX12_findFirsts_163 : decode cX12_findFirsts 163 = .ok (.iaload, 1) := kd_r kbX12_findFirsts ki_14 rfl
theorem dX12_findFirsts_164 : decode cX12_findFirsts 164 = .ok (.if_icmp .ge 7, 3) := kd_r kbX12_findFirsts ki_42 rfl
theorem dX12_findFirsts_167 : decode cX12_findFirsts 167 = .ok (.iconst 1, 1) := kd_r kbX12_findFirsts ki_16 rfl
theorem dX12_findFirsts_168 : decode cX12_findFirsts 168 = .ok (.goto 4, 3) := kd_r kbX12_findFirsts ki_19 rfl
theorem dX12_findFirsts_171 : decode cX12_findFirsts 171 = .ok (.iconst 0, 1) := kd_r kbX12_findFirsts ki_20 rfl
theorem dX12_findFirsts_172 : decode cX12_findFirsts 172 = .ok (.istore 10, 2) := kd_r kbX12_findFirsts ki_372 rfl
theorem dX12_findFirsts_174 : decode cX12_findFirsts 174 = .ok (.iload 5, 2) := kd_r kbX12_findFirsts ki_134 rfl
theorem dX12_findFirsts_176 : decode cX12_findFirsts 176 = .ok (.iload 7, 2) := kd_r kbX12_findFirsts ki_153 rfl
theorem dX12_findFirsts_178 : decode cX12_findFirsts 178 = .ok (.iload_n 2, 1) := kd_r kbX12_findFirsts ki_11 rfl
theorem dX12_findFirsts_179 : decode cX12_findFirsts 179 = .ok (.bipush 100, 2) := kd_r kbX12_findFirsts ki_228 rfl
theorem dX12_findFirsts_181 : decode cX12_findFirsts 181 = .ok (.idiv, 1) := kd_r kbX12_findFirsts ki_225 rfl
theorem dX12_findFirsts_182 : decode cX12_findFirsts 182 = .ok (.imul, 1) := kd_r kbX12_findFirsts ki_114 rfl
theorem dX12_findFirsts_183 : decode cX12_findFirsts 183 = .ok (.isub, 1) := kd_r kbX12_findFirsts ki_50 rfl
theorem dX12_findFirsts_184 : decode cX12_findFirsts 184 = .ok (.invokestatic 196, 3) := kd_r kbX12_findFirsts ki_836 rfl
theorem dX12_findFirsts_187 : decode cX12_findFirsts 187 = .ok (.iload 7, 2) := kd_r kbX12_findFirsts ki_153 rfl
theorem dX12_findFirsts_189 : decode cX12_findFirsts 189 = .ok (.iload_n 2, 1) := kd_r kbX12_findFirsts ki_11 rfl
theorem dX12_findFirsts_190 : decode cX12_findFirsts 190 = .ok (.bipush 100, 2) := kd_r kbX12_findFirsts ki_228 rfl
theorem dX12_findFirsts_192 : decode cX12_findFirsts 192 = .ok (.irem, 1) := kd_r kbX12_findFirsts ki_227 rfl
theorem dX12_findFirsts_193 : decode cX12_findFirsts 193 = .ok (.imul, 1) := kd_r kbX12_findFirsts ki_114 rfl
theorem dX12_findFirsts_194 : decode cX12_findFirsts 194 = .ok (.if_icmp .gt 59, 3) := kd_r kbX12_findFirsts ki_837 rfl
theorem dX12_findFirsts_197 : decode cX12_findFirsts 197 = .ok (.aload_n 0, 1) := kd_r kbX12_findFirsts ki_0 rfl
theorem dX12_findFirsts_198 : decode cX12_findFirsts 198 = .ok (.getfield 28, 3) := kd_r kbX12_findFirsts ki_828 rfl
theorem dX12_findFirsts_201 : decode cX12_findFirsts 201 = .ok (.iload 4, 2) := kd_r kbX12_findFirsts ki_57 rfl
theorem dX12_findFirsts_203 : decode cX12_findFirsts 203 = .ok (.iload 6, 2) := kd_r kbX12_findFirsts ki_200 rfl
theorem dX12_findFirsts_205 : decode cX12_findFirsts 205 = .ok (.iadd, 1) := kd_r kbX12_findFirsts ki_30 rfl
theorem dX12_findFirsts_206 : decode cX12_findFirsts 206 = .ok (.iaload, 1) := kd_r kbX12_findFirsts ki_14 rfl
theorem dX12_findFirsts_207 : decode cX12_findFirsts 207 = .ok (.ldc 195, 2) := kd_r kbX12_findFirsts ki_831 rfl
theorem dX12_findFirsts_209 : decode cX12_findFirsts 209 = .ok (.if_icmp .ge 44, 3) := kd_r kbX12_findFirsts ki_447 rfl
theorem dX12_findFirsts_212 : decode cX12_findFirsts 212 = .ok (.iload 10, 2) := kd_r kbX12_findFirsts ki_373 rfl
theorem dX12_findFirsts_214 : decode cX12_findFirsts 214 = .ok (.ifCond .eq 39, 3) := kd_r kbX12_findFirsts ki_838 rfl
theorem dX12_findFirsts_217 : decode cX12_findFirsts 217 = .ok (.aload_n 0, 1) := kd_r kbX12_findFirsts ki_0 rfl
theorem dX12_findFirsts_218 : decode cX12_findFirsts 218 = .ok (.getfield 28, 3) := kd_r kbX12_findFirsts ki_828 rfl
theorem dX12_findFirsts_221 : decode cX12_findFirsts 221 = .ok (.iload 4, 2) := kd_r kbX12_findFirsts ki_57 rfl
theorem dX12_findFirsts_223 : decode cX12_findFirsts 223 = .ok (.iload 8, 2) := kd_r kbX12_findFirsts ki_156 rfl
theorem dX12_findFirsts_225 : decode cX12_findFirsts 225 = .ok (.iastore, 1) := kd_r kbX12_findFirsts ki_28 rfl
theorem dX12_findFirsts_226 : decode cX12_findFirsts 226 = .ok (.aload_n 0, 1) := kd_r kbX12_findFirsts ki_0 rfl
theorem dX12_findFirsts_227 : decode cX12_findFirsts 227 = .ok (.getfield 31, 3) := kd_r kbX12_findFirsts ki_829 rfl
theorem dX12_findFirsts_230 : decode cX12_findFirsts 230 = .ok (.iload 4, 2) := kd_r kbX12_findFirsts ki_57 rfl
theorem dX12_findFirsts_232 : decode cX12_findFirsts 232 = .ok (.iload 9, 2) := kd_r kbX12_findFirsts ki_370 rfl
theorem dX12_findFirsts_234 : decode cX12_findFirsts 234 = .ok (.iastore, 1) := kd_r kbX12_findFirsts ki_28 rfl
theorem dX12_findFirsts_235 : decode cX12_findFirsts 235 = .ok (.aload_n 0, 1) := kd_r kbX12_findFirsts ki_0 rfl
theorem dX12_findFirsts_236 : decode cX12_findFirsts 236 = .ok (.getfield 34, 3) := kd_r kbX12_findFirsts ki_839 rfl
theorem dX12_findFirsts_239 : decode cX12_findFirsts 239 = .ok (.iload 4, 2) := kd_r kbX12_findFirsts ki_57 rfl
theorem dX12_findFirsts_241 : decode cX12_findFirsts 241 = .ok (.iload 6, 2) := kd_r kbX12_findFirsts ki_200 rfl
theorem dX12_findFirsts_243 : decode cX12_findFirsts 243 = .ok (.iastore, 1) := kd_r kbX12_findFirsts ki_28 rfl
theorem dX12_findFirsts_244 : decode cX12_findFirsts 244 = .ok (.aload_n 0, 1) := kd_r kbX12_findFirsts ki_0 rfl
theorem dX12_findFirsts_245 : decode cX12_findFirsts 245 = .ok (.getfield 37, 3) := kd_r kbX12_findFirsts ki_579 rfl
theorem dX12_findFirsts_248 : decode cX12_findFirsts 248 = .ok (.iload 4, 2) := kd_r kbX12_findFirsts ki_57 rfl
theorem dX12_findFirsts_250 : decode cX12_findFirsts 250 = .ok (.iload 7, 2) := kd_r kbX12_findFirsts ki_153 rfl
theorem dX12_findFirsts_252 : decode cX12_findFirsts 252 = .ok (.iastore, 1) := kd_r kbX12_findFirsts ki_28 rfl
theorem dX12_findFirsts_253 : decode cX12_findFirsts 253 = .ok (.iinc 7 1, 3) := kd_r kbX12_findFirsts ki_164 rfl
theorem dX12_findFirsts_256 : decode cX12_findFirsts 256 = .ok (.goto (-166), 3) := kd_r kbX12_findFirsts ki_840 rfl
theorem dX12_findFirsts_259 : decode cX12_findFirsts 259 = .ok (.iinc 6 1, 3) := kd_r kbX12_findFirsts ki_208 rfl
theorem dX12_findFirsts_262 : decode cX12_findFirsts 262 = .ok (.goto (-208), 3) := kd_r kbX12_findFirsts ki_841 rfl
theorem dX12_findFirsts_265 : decode cX12_findFirsts 265 = .ok (.iinc 4 (-1), 3) := kd_r kbX12_findFirsts ki_842 rfl
theorem dX12_findFirsts_268 : decode cX12_findFirsts 268 = .ok (.goto (-242), 3) := kd_r kbX12_findFirsts ki_843 rfl
theorem dX12_findFirsts_271 : decode cX12_findFirsts 271 = .ok (.aload_n 0, 1) := kd_r kbX12_findFirsts ki_0 rfl
theorem dX12_findFirsts_272 : decode cX12_findFirsts 272 = .ok (.getfield 28, 3) := kd_r kbX12_findFirsts ki_828 rfl
theorem dX12_findFirsts_275 : decode cX12_findFirsts 275 = .ok (.iconst 0, 1) := kd_r kbX12_findFirsts ki_20 rfl
theorem dX12_findFirsts_276 : decode cX12_findFirsts 276 = .ok (.iaload, 1) := kd_r kbX12_findFirsts ki_14 rfl
theorem dX12_findFirsts_277 : decode cX12_findFirsts 277 = .ok (.ldc 195, 2) := kd_r kbX12_findFirsts ki_831 rfl
theorem dX12_findFirsts_279 : decode cX12_findFirsts 279 = .ok (.if_icmp .ge 7, 3) := kd_r kbX12_findFirsts ki_42 rfl
theorem dX12_findFirsts_282 : decode cX12_findFirsts 282 = .ok (.iconst 1, 1) := kd_r kbX12_findFirsts ki_16 rfl
theorem dX12_findFirsts_283 : decode cX12_findFirsts 283 = .ok (.goto 4, 3) := kd_r kbX12_findFirsts ki_19 rfl
theorem dX12_findFirsts_286 : decode cX12_findFirsts 286 = .ok (.iconst 0, 1) := kd_r kbX12_findFirsts ki_20 rfl
theorem dX12_findFirsts_287 : decode cX12_findFirsts 287 = .ok (.ireturn, 1) := kd_r kbX12_findFirsts ki_7 rfl
set_option maxRecDepth 20000 in
theorem ggX12_first_X12_isStreet : GoodIn wsX12_first wsX12_isStreet := goodIn_r _ [11, 12, 13, 14, 10, 15, 34, 35, 36, 37, 38, 39, 40, 41, 42, 43, 44, 45, 46, 47, 48, 49, 50, 51, 52, 53, 54, 55, 56, 57, 58, 59, 60, 61, 62, 63, 64, 65, 66, 67, 68, 69, 70, 71, 72, 73, 74, 75, 76, 77, 78, 79, 80, 81, 82] rfl (by decide +kernel)
set_option maxRecDepth 20000 in
theorem gX12_first_X12_isStreet : GoodIn wsX12_first (wsV RX12 126 RX12 yX12_isStreet wsX12_isStreet) := goodIn_app (goodIn_of _ (by decide +kernel)) ggX12_first_X12_isStreet
set_option maxRecDepth 20000 in
theorem ggX12_first_X12_isWs : GoodIn wsX12_first wsX12_isWs := goodIn_r _ [18, 19, 20, 13, 14, 10, 15] rfl (by decide +kernel)
set_option maxRecDepth 20000 in
theorem gX12_first_X12_isWs : GoodIn wsX12_first (va_wsS RX12 199 yX12_isWs wsX12_isWs) := goodIn_app (goodIn_of _ (by decide +kernel)) ggX12_first_X12_isWs
set_option maxRecDepth 20000 in
theorem ggX12_first_X12_within : GoodIn wsX12_first wsX12_within := goodIn_r _ [15] rfl (by decide +kernel)
set_option maxRecDepth 20000 in
theorem gX12_first_X12_within : GoodIn wsX12_first (va_wsS RX12 109 yX12_within wsX12_within) := goodIn_app (goodIn_of _ (by decide +kernel)) ggX12_first_X12_within
set_option maxRecDepth 20000 in
theorem ggX12_first_X12_findFirsts : GoodIn wsX12_first wsX12_findFirsts := goodIn_r _ [24, 2, 5, 6, 25, 4, 3, 26, 27, 28, 10, 29, 30, 31, 32, 33, 34, 35, 36, 37, 38, 39, 40, 41, 42, 43, 44, 45, 46, 47, 48, 49, 50, 51, 52, 53, 54, 55, 56, 57, 58, 59, 60, 61, 62, 63, 64, 65, 66, 67, 68, 69, 70, 71, 72, 73, 74, 75, 76, 77, 78, 79, 80, 81, 82] rfl (by decide +kernel)
set_option maxRecDepth 20000 in
theorem gX12_first_X12_findFirsts : GoodIn wsX12_first (wsV RX12 202 RX12 yX12_findFirsts wsX12_findFirsts) := goodIn_app (goodIn_of _ (by decide +kernel)) ggX12_first_X12_findFirsts
theorem dX12_first_0 : decode cX12_first 0 = .ok (.aload_n 0, 1) := kd_r kbX12_first ki_0 rfl
theorem dX12_first_1 : decode cX12_first 1 = .ok (.iload_n 1, 1) := kd_r kbX12_first ki_8 rfl
theorem dX12_first_2 : decode cX12_first 2 = .ok (.invokevirtual 126, 3) := kd_r kbX12_first ki_764 rfl
theorem dX12_first_5 : decode cX12_first 5 = .ok (.ifCond .eq 22, 3) := kd_r kbX12_first ki_288 rfl
theorem dX12_first_8 : decode cX12_first 8 = .ok (.iload_n 2, 1) := kd_r kbX12_first ki_11 rfl
theorem dX12_first_9 : decode cX12_first 9 = .ok (.invokestatic 199, 3) := kd_r kbX12_first ki_844 rfl
theorem dX12_first_12 : decode cX12_first 12 = .ok (.ifCond .eq 15, 3) := kd_r kbX12_first ki_641 rfl
theorem dX12_first_15 : decode cX12_first 15 = .ok (.iload_n 3, 1) := kd_r kbX12_first ki_55 rfl
theorem dX12_first_16 : decode cX12_first 16 = .ok (.i2l, 1) := kd_r kbX12_first ki_399 rfl
theorem dX12_first_17 : decode cX12_first 17 = .ok (.lconst 0, 1) := kd_r kbX12_first ki_172 rfl
theorem dX12_first_18 : decode cX12_first 18 = .ok (.ldc2_w 147, 3) := kd_r kbX12_first ki_785 rfl
theorem dX12_first_21 : decode cX12_first 21 = .ok (.invokestatic 109, 3) := kd_r kbX12_first ki_751 rfl
theorem dX12_first_24 : decode cX12_first 24 = .ok (.ifCond .ne 5, 3) := kd_r kbX12_first ki_36 rfl
theorem dX12_first_27 : decode cX12_first 27 = .ok (.iconst (-1), 1) := kd_r kbX12_first ki_99 rfl
theorem dX12_first_28 : decode cX12_first 28 = .ok (.ireturn, 1) := kd_r kbX12_first ki_7 rfl
theorem dX12_first_29 : decode cX12_first 29 = .ok (.aload_n 0, 1) := kd_r kbX12_first ki_0 rfl
theorem dX12_first_30 : decode cX12_first 30 = .ok (.iload_n 1, 1) := kd_r kbX12_first ki_8 rfl
theorem dX12_first_31 : decode cX12_first 31 = .ok (.iload_n 2, 1) := kd_r kbX12_first ki_11 rfl
theorem dX12_first_32 : decode cX12_first 32 = .ok (.invokevirtual 202, 3) := kd_r kbX12_first ki_595 rfl
theorem dX12_first_35 : decode cX12_first 35 = .ok (.ifCond .ne 6, 3) := kd_r kbX12_first ki_388 rfl
theorem dX12_first_38 : decode cX12_first 38 = .ok (.bipush (-2), 2) := kd_r kbX12_first ki_39 rfl
theorem dX12_first_40 : decode cX12_first 40 = .ok (.ireturn, 1) := kd_r kbX12_first ki_7 rfl
theorem dX12_first_41 : decode cX12_first 41 = .ok (.iconst 0, 1) := kd_r kbX12_first ki_20 rfl
theorem dX12_first_42 : decode cX12_first 42 = .ok (.istore 4, 2) := kd_r kbX12_first ki_129 rfl
theorem dX12_first_44 : decode cX12_first 44 = .ok (.iconst 0, 1) := kd_r kbX12_first ki_20 rfl
theorem dX12_first_45 : decode cX12_first 45 = .ok (.istore 5, 2) := kd_r kbX12_first ki_133 rfl
theorem dX12_first_47 : decode cX12_first 47 = .ok (.iload 5, 2) := kd_r kbX12_first ki_134 rfl
theorem dX12_first_49 : decode cX12_first 49 = .ok (.aload_n 0, 1) := kd_r kbX12_first ki_0 rfl
theorem dX12_first_50 : decode cX12_first 50 = .ok (.getfield 9, 3) := kd_r kbX12_first ki_13 rfl
theorem dX12_first_53 : decode cX12_first 53 = .ok (.iload_n 1, 1) := kd_r kbX12_first ki_8 rfl
theorem dX12_first_54 : decode cX12_first 54 = .ok (.iaload, 1) := kd_r kbX12_first ki_14 rfl
theorem dX12_first_55 : decode cX12_first 55 = .ok (.if_icmp .ge 30, 3) := kd_r kbX12_first ki_34 rfl
theorem dX12_first_58 : decode cX12_first 58 = .ok (.iload 4, 2) := kd_r kbX12_first ki_57 rfl
theorem dX12_first_60 : decode cX12_first 60 = .ok (.aload_n 0, 1) := kd_r kbX12_first ki_0 rfl
theorem dX12_first_61 : decode cX12_first 61 = .ok (.getfield 37, 3) := kd_r kbX12_first ki_579 rfl
theorem dX12_first_64 : decode cX12_first 64 = .ok (.iload 5, 2) := kd_r kbX12_first ki_134 rfl
theorem dX12_first_66 : decode cX12_first 66 = .ok (.iaload, 1) := kd_r kbX12_first ki_14 rfl
theorem dX12_first_67 : decode cX12_first 67 = .ok (.iadd, 1) := kd_r kbX12_first ki_30 rfl
theorem dX12_first_68 : decode cX12_first 68 = .ok (.istore 4, 2) := kd_r kbX12_first ki_129 rfl
theorem dX12_first_70 : decode cX12_first 70 = .ok (.iload 5, 2) := kd_r kbX12_first ki_134 rfl
theorem dX12_first_72 : decode cX12_first 72 = .ok (.aload_n 0, 1) := kd_r kbX12_first ki_0 rfl
theorem dX12_first_73 : decode cX12_first 73 = .ok (.getfield 34, 3) := kd_r kbX12_first ki_839 rfl
theorem dX12_first_76 : decode cX12_first 76 = .ok (.iload 5, 2) := kd_r kbX12_first ki_134 rfl
theorem dX12_first_78 : decode cX12_first 78 = .ok (.iaload, 1) := kd_r kbX12_first ki_14 rfl
theorem dX12_first_79 : decode cX12_first 79 = .ok (.iadd, 1) := kd_r kbX12_first ki_30 rfl
theorem dX12_first_80 : decode cX12_first 80 = .ok (.istore 5, 2) := kd_r kbX12_first ki_133 rfl
theorem dX12_first_82 : decode cX12_first 82 = .ok (.goto (-35), 3) := kd_r kbX12_first ki_845 rfl
theorem dX12_first_85 : decode cX12_first 85 = .ok (.iload_n 3, 1) := kd_r kbX12_first ki_55 rfl
theorem dX12_first_86 : decode cX12_first 86 = .ok (.ifCond .ne 12, 3) := kd_r kbX12_first ki_713 rfl
theorem dX12_first_89 : decode cX12_first 89 = .ok (.aload_n 0, 1) := kd_r kbX12_first ki_0 rfl
theorem dX12_first_90 : decode cX12_first 90 = .ok (.getfield 28, 3) := kd_r kbX12_first ki_828 rfl
theorem dX12_first_93 : decode cX12_first 93 = .ok (.iconst 0, 1) := kd_r kbX12_first ki_20 rfl
theorem dX12_first_94 : decode cX12_first 94 = .ok (.iaload, 1) := kd_r kbX12_first ki_14 rfl
theorem dX12_first_95 : decode cX12_first 95 = .ok (.goto 19, 3) := kd_r kbX12_first ki_238 rfl
theorem dX12_first_98 : decode cX12_first 98 = .ok (.iload_n 3, 1) := kd_r kbX12_first ki_55 rfl
theorem dX12_first_99 : decode cX12_first 99 = .ok (.iconst 1, 1) := kd_r kbX12_first ki_16 rfl
theorem dX12_first_100 : decode cX12_first 100 = .ok (.if_icmp .ne 12, 3) := kd_r kbX12_first ki_846 rfl
theorem dX12_first_103 : decode cX12_first 103 = .ok (.aload_n 0, 1) := kd_r kbX12_first ki_0 rfl
theorem dX12_first_104 : decode cX12_first 104 = .ok (.getfield 31, 3) := kd_r kbX12_first ki_829 rfl
theorem dX12_first_107 : decode cX12_first 107 = .ok (.iconst 0, 1) := kd_r kbX12_first ki_20 rfl
theorem dX12_first_108 : decode cX12_first 108 = .ok (.iaload, 1) := kd_r kbX12_first ki_14 rfl
theorem dX12_first_109 : decode cX12_first 109 = .ok (.goto 5, 3) := kd_r kbX12_first ki_342 rfl
theorem dX12_first_112 : decode cX12_first 112 = .ok (.iload 4, 2) := kd_r kbX12_first ki_57 rfl
theorem dX12_first_114 : decode cX12_first 114 = .ok (.ireturn, 1) := kd_r kbX12_first ki_7 rfl
set_option maxRecDepth 20000 in
theorem ggX12_led_X12_isPlot : GoodIn wsX12_led wsX12_isPlot := goodIn_r _ [7, 8, 9, 10, 11, 6, 12, 13, 14, 15, 16, 37, 38, 39, 40, 41, 42, 43, 44, 45, 46, 47, 48, 49, 50, 51, 52, 53, 54, 55, 56, 57, 58, 59, 60, 61, 62, 63, 64, 65, 66, 67, 68, 69, 70, 71, 72, 73, 74, 75, 76, 77, 78, 79, 80, 81, 82, 83, 84, 85] rfl (by decide +kernel)
set_option maxRecDepth 20000 in
theorem gX12_led_X12_isPlot : GoodIn wsX12_led (wsV RX12 143 RX12 yX12_isPlot wsX12_isPlot) := goodIn_app (goodIn_of _ (by decide +kernel)) ggX12_led_X12_isPlot
set_option maxRecDepth 20000 in
theorem ggX12_led_X12_isWs : GoodIn wsX12_led wsX12_isWs := goodIn_r _ [19, 20, 21, 14, 15, 6, 16] rfl (by decide +kernel)
set_option maxRecDepth 20000 in
theorem gX12_led_X12_isWs : GoodIn wsX12_led (va_wsS RX12 199 yX12_isWs wsX12_isWs) := goodIn_app (goodIn_of _ (by decide +kernel)) ggX12_led_X12_isWs
set_option maxRecDepth 20000 in
theorem ggX12_led_X12_findFirsts : GoodIn wsX12_led wsX12_findFirsts := goodIn_r _ [25, 8, 26, 27, 28, 1, 2, 29, 30, 31, 6, 32, 33, 34, 35, 36, 37, 38, 39, 40, 41, 42, 43, 44, 45, 46, 47, 48, 49, 50, 51, 52, 53, 54, 55, 56, 57, 58, 59, 60, 61, 62, 63, 64, 65, 66, 67, 68, 69, 70, 71, 72, 73, 74, 75, 76, 77, 78, 79, 80, 81, 82, 83, 84, 85] rfl (by decide +kernel)
set_option maxRecDepth 20000 in
theorem gX12_led_X12_findFirsts : GoodIn wsX12_led (wsV RX12 202 RX12 yX12_findFirsts wsX12_findFirsts) := goodIn_app (goodIn_of _ (by decide +kernel)) ggX12_led_X12_findFirsts
theorem dX12_led_0 : decode cX12_led 0 = .ok (.iload_n 1, 1) := kd_r kbX12_led ki_8 rfl
theorem dX12_led_1 : decode cX12_led 1 = .ok (.ifCond .lt 25, 3) := kd_r kbX12_led ki_267 rfl
theorem dX12_led_4 : decode cX12_led 4 = .ok (.aload_n 0, 1) := kd_r kbX12_led ki_0 rfl
theorem dX12_led_5 : decode cX12_led 5 = .ok (.iload_n 1, 1) := kd_r kbX12_led ki_8 rfl
theorem dX12_led_6 : decode cX12_led 6 = .ok (.bipush 100, 2) := kd_r kbX12_led ki_228 rfl
theorem dX12_led_8 : decode cX12_led 8 = .ok (.idiv, 1) := kd_r kbX12_led ki_225 rfl
theorem dX12_led_9 : decode cX12_led 9 = .ok (.iload_n 1, 1) := kd_r kbX12_led ki_8 rfl
theorem dX12_led_10 : decode cX12_led 10 = .ok (.bipush 100, 2) := kd_r kbX12_led ki_228 rfl
theorem dX12_led_12 : decode cX12_led 12 = .ok (.irem, 1) := kd_r kbX12_led ki_227 rfl
theorem dX12_led_13 : decode cX12_led 13 = .ok (.invokevirtual 143, 3) := kd_r kbX12_led ki_552 rfl
theorem dX12_led_16 : decode cX12_led 16 = .ok (.ifCond .eq 10, 3) := kd_r kbX12_led ki_306 rfl
theorem dX12_led_19 : decode cX12_led 19 = .ok (.iload_n 2, 1) := kd_r kbX12_led ki_11 rfl
theorem dX12_led_20 : decode cX12_led 20 = .ok (.invokestatic 199, 3) := kd_r kbX12_led ki_844 rfl
theorem dX12_led_23 : decode cX12_led 23 = .ok (.ifCond .ne 5, 3) := kd_r kbX12_led ki_36 rfl
theorem dX12_led_26 : decode cX12_led 26 = .ok (.iconst (-1), 1) := kd_r kbX12_led ki_99 rfl
theorem dX12_led_27 : decode cX12_led 27 = .ok (.ireturn, 1) := kd_r kbX12_led ki_7 rfl
theorem dX12_led_28 : decode cX12_led 28 = .ok (.aload_n 0, 1) := kd_r kbX12_led ki_0 rfl
theorem dX12_led_29 : decode cX12_led 29 = .ok (.iload_n 1, 1) := kd_r kbX12_led ki_8 rfl
theorem dX12_led_30 : decode cX12_led 30 = .ok (.bipush 100, 2) := kd_r kbX12_led ki_228 rfl
theorem dX12_led_32 : decode cX12_led 32 = .ok (.idiv, 1) := kd_r kbX12_led ki_225 rfl
theorem dX12_led_33 : decode cX12_led 33 = .ok (.iload_n 2, 1) := kd_r kbX12_led ki_11 rfl
theorem dX12_led_34 : decode cX12_led 34 = .ok (.invokevirtual 202, 3) := kd_r kbX12_led ki_595 rfl
theorem dX12_led_37 : decode cX12_led 37 = .ok (.ifCond .ne 6, 3) := kd_r kbX12_led ki_388 rfl
theorem dX12_led_40 : decode cX12_led 40 = .ok (.bipush (-2), 2) := kd_r kbX12_led ki_39 rfl
theorem dX12_led_42 : decode cX12_led 42 = .ok (.ireturn, 1) := kd_r kbX12_led ki_7 rfl
theorem dX12_led_43 : decode cX12_led 43 = .ok (.iconst 0, 1) := kd_r kbX12_led ki_20 rfl
theorem dX12_led_44 : decode cX12_led 44 = .ok (.istore_n 3, 1) := kd_r kbX12_led ki_108 rfl
theorem dX12_led_45 : decode cX12_led 45 = .ok (.iconst 0, 1) := kd_r kbX12_led ki_20 rfl
theorem dX12_led_46 : decode cX12_led 46 = .ok (.istore 4, 2) := kd_r kbX12_led ki_129 rfl
theorem dX12_led_48 : decode cX12_led 48 = .ok (.iload 4, 2) := kd_r kbX12_led ki_57 rfl
theorem dX12_led_50 : decode cX12_led 50 = .ok (.aload_n 0, 1) := kd_r kbX12_led ki_0 rfl
theorem dX12_led_51 : decode cX12_led 51 = .ok (.getfield 34, 3) := kd_r kbX12_led ki_839 rfl
theorem dX12_led_54 : decode cX12_led 54 = .ok (.iload 4, 2) := kd_r kbX12_led ki_57 rfl
theorem dX12_led_56 : decode cX12_led 56 = .ok (.iaload, 1) := kd_r kbX12_led ki_14 rfl
theorem dX12_led_57 : decode cX12_led 57 = .ok (.iadd, 1) := kd_r kbX12_led ki_30 rfl
theorem dX12_led_58 : decode cX12_led 58 = .ok (.iload_n 1, 1) := kd_r kbX12_led ki_8 rfl
theorem dX12_led_59 : decode cX12_led 59 = .ok (.bipush 100, 2) := kd_r kbX12_led ki_228 rfl
theorem dX12_led_61 : decode cX12_led 61 = .ok (.irem, 1) := kd_r kbX12_led ki_227 rfl
theorem dX12_led_62 : decode cX12_led 62 = .ok (.if_icmp .gt 28, 3) := kd_r kbX12_led ki_847 rfl
theorem dX12_led_65 : decode cX12_led 65 = .ok (.iload_n 3, 1) := kd_r kbX12_led ki_55 rfl
theorem dX12_led_66 : decode cX12_led 66 = .ok (.aload_n 0, 1) := kd_r kbX12_led ki_0 rfl
theorem dX12_led_67 : decode cX12_led 67 = .ok (.getfield 37, 3) := kd_r kbX12_led ki_579 rfl
theorem dX12_led_70 : decode cX12_led 70 = .ok (.iload 4, 2) := kd_r kbX12_led ki_57 rfl
theorem dX12_led_72 : decode cX12_led 72 = .ok (.iaload, 1) := kd_r kbX12_led ki_14 rfl
theorem dX12_led_73 : decode cX12_led 73 = .ok (.iadd, 1) := kd_r kbX12_led ki_30 rfl
theorem dX12_led_74 : decode cX12_led 74 = .ok (.istore_n 3, 1) := kd_r kbX12_led ki_108 rfl
theorem dX12_led_75 : decode cX12_led 75 = .ok (.iload 4, 2) := kd_r kbX12_led ki_57 rfl
theorem dX12_led_77 : decode cX12_led 77 = .ok (.aload_n 0, 1) := kd_r kbX12_led ki_0 rfl
theorem dX12_led_78 : decode cX12_led 78 = .ok (.getfield 34, 3) := kd_r kbX12_led ki_839 rfl
theorem dX12_led_81 : decode cX12_led 81 = .ok (.iload 4, 2) := kd_r kbX12_led ki_57 rfl
theorem dX12_led_83 : decode cX12_led 83 = .ok (.iaload, 1) := kd_r kbX12_led ki_14 rfl
theorem dX12_led_84 : decode cX12_led 84 = .ok (.iadd, 1) := kd_r kbX12_led ki_30 rfl
theorem dX12_led_85 : decode cX12_led 85 = .ok (.istore 4, 2) := kd_r kbX12_led ki_129 rfl
theorem dX12_led_87 : decode cX12_led 87 = .ok (.goto (-39), 3) := kd_r kbX12_led ki_305 rfl
theorem dX12_led_90 : decode cX12_led 90 = .ok (.iload_n 3, 1) := kd_r kbX12_led ki_55 rfl
theorem dX12_led_91 : decode cX12_led 91 = .ok (.ireturn, 1) := kd_r kbX12_led ki_7 rfl
set_option maxRecDepth 20000 in
theorem ggX12_costOf_X12_width : GoodIn wsX12_costOf wsX12_width := goodIn_r _ [6, 7, 15, 16, 17, 18, 19, 20, 21, 22, 23, 24, 25, 26, 27, 28, 29, 30, 31, 32, 33, 34, 35, 36, 37, 38, 39, 40, 41, 42, 43, 44, 45, 46, 47, 48, 49, 50, 51, 52, 53, 54, 55, 56, 57, 58, 59, 60, 61, 62, 63] rfl (by decide +kernel)
set_option maxRecDepth 20000 in
theorem gX12_costOf_X12_width : GoodIn wsX12_costOf (wsV RX12 113 RX12 yX12_width wsX12_width) := goodIn_app (goodIn_of _ (by decide +kernel)) ggX12_costOf_X12_width
set_option maxRecDepth 20000 in
theorem ggX12_costOf_X12_aside : GoodIn wsX12_costOf wsX12_aside := goodIn_r _ [11, 7, 15, 16, 17, 18, 19, 20, 21, 22, 23, 24, 25, 26, 27, 28, 29, 30, 31, 32, 33, 34, 35, 36, 37, 38, 39, 40, 41, 42, 43, 44, 45, 46, 47, 48, 49, 50, 51, 52, 53, 54, 55, 56, 57, 58, 59, 60, 61, 62, 63] rfl (by decide +kernel)
set_option maxRecDepth 20000 in
theorem gX12_costOf_X12_aside : GoodIn wsX12_costOf (wsV RX12 117 RX12 yX12_aside wsX12_aside) := goodIn_app (goodIn_of _ (by decide +kernel)) ggX12_costOf_X12_aside
set_option maxRecDepth 20000 in
theorem ggX12_costOf_X12_size : GoodIn wsX12_costOf wsX12_size := goodIn_r _ [14] rfl (by decide +kernel)
set_option maxRecDepth 20000 in
theorem gX12_costOf_X12_size : GoodIn wsX12_costOf (va_wsS RX12 196 yX12_size wsX12_size) := goodIn_app (goodIn_of _ (by decide +kernel)) ggX12_costOf_X12_size
theorem dX12_costOf_0 : decode cX12_costOf 0 = .ok (.iconst 0, 1) := kd_r kbX12_costOf ki_20 rfl
theorem dX12_costOf_1 : decode cX12_costOf 1 = .ok (.istore 5, 2) := kd_r kbX12_costOf ki_133 rfl
theorem dX12_costOf_3 : decode cX12_costOf 3 = .ok (.iload_n 2, 1) := kd_r kbX12_costOf ki_11 rfl
theorem dX12_costOf_4 : decode cX12_costOf 4 = .ok (.istore 6, 2) := kd_r kbX12_costOf ki_199 rfl
theorem dX12_costOf_6 : decode cX12_costOf 6 = .ok (.iload 6, 2) := kd_r kbX12_costOf ki_200 rfl
theorem dX12_costOf_8 : decode cX12_costOf 8 = .ok (.iload_n 3, 1) := kd_r kbX12_costOf ki_55 rfl
theorem dX12_costOf_9 : decode cX12_costOf 9 = .ok (.if_icmp .ge 75, 3) := kd_r kbX12_costOf ki_371 rfl
theorem dX12_costOf_12 : decode cX12_costOf 12 = .ok (.aload_n 0, 1) := kd_r kbX12_costOf ki_0 rfl
theorem dX12_costOf_13 : decode cX12_costOf 13 = .ok (.iload_n 1, 1) := kd_r kbX12_costOf ki_8 rfl
theorem dX12_costOf_14 : decode cX12_costOf 14 = .ok (.iload 6, 2) := kd_r kbX12_costOf ki_200 rfl
theorem dX12_costOf_16 : decode cX12_costOf 16 = .ok (.invokevirtual 113, 3) := kd_r kbX12_costOf ki_754 rfl
theorem dX12_costOf_19 : decode cX12_costOf 19 = .ok (.istore 7, 2) := kd_r kbX12_costOf ki_152 rfl
theorem dX12_costOf_21 : decode cX12_costOf 21 = .ok (.iload 5, 2) := kd_r kbX12_costOf ki_134 rfl
theorem dX12_costOf_23 : decode cX12_costOf 23 = .ok (.istore 8, 2) := kd_r kbX12_costOf ki_155 rfl
theorem dX12_costOf_25 : decode cX12_costOf 25 = .ok (.iload 8, 2) := kd_r kbX12_costOf ki_156 rfl
theorem dX12_costOf_27 : decode cX12_costOf 27 = .ok (.ifCond .le 39, 3) := kd_r kbX12_costOf ki_848 rfl
theorem dX12_costOf_30 : decode cX12_costOf 30 = .ok (.aload_n 0, 1) := kd_r kbX12_costOf ki_0 rfl
theorem dX12_costOf_31 : decode cX12_costOf 31 = .ok (.getfield 40, 3) := kd_r kbX12_costOf ki_322 rfl
theorem dX12_costOf_34 : decode cX12_costOf 34 = .ok (.iload 8, 2) := kd_r kbX12_costOf ki_156 rfl
theorem dX12_costOf_36 : decode cX12_costOf 36 = .ok (.iconst 1, 1) := kd_r kbX12_costOf ki_16 rfl
theorem dX12_costOf_37 : decode cX12_costOf 37 = .ok (.isub, 1) := kd_r kbX12_costOf ki_50 rfl
theorem dX12_costOf_38 : decode cX12_costOf 38 = .ok (.iaload, 1) := kd_r kbX12_costOf ki_14 rfl
theorem dX12_costOf_39 : decode cX12_costOf 39 = .ok (.iload 7, 2) := kd_r kbX12_costOf ki_153 rfl
theorem dX12_costOf_41 : decode cX12_costOf 41 = .ok (.if_icmp .le 25, 3) := kd_r kbX12_costOf ki_849 rfl
theorem dX12_costOf_44 : decode cX12_costOf 44 = .ok (.aload_n 0, 1) := kd_r kbX12_costOf ki_0 rfl
theorem dX12_costOf_45 : decode cX12_costOf 45 = .ok (.getfield 40, 3) := kd_r kbX12_costOf ki_322 rfl
theorem dX12_costOf_48 : decode cX12_costOf 48 = .ok (.iload 8, 2) := kd_r kbX12_costOf ki_156 rfl
theorem dX12_costOf_50 : decode cX12_costOf 50 = .ok (.aload_n 0, 1) := kd_r kbX12_costOf ki_0 rfl
theorem dX12_costOf_51 : decode cX12_costOf 51 = .ok (.getfield 40, 3) := kd_r kbX12_costOf ki_322 rfl
theorem dX12_costOf_54 : decode cX12_costOf 54 = .ok (.iload 8, 2) := kd_r kbX12_costOf ki_156 rfl
theorem dX12_costOf_56 : decode cX12_costOf 56 = .ok (.iconst 1, 1) := kd_r kbX12_costOf ki_16 rfl
theorem dX12_costOf_57 : decode cX12_costOf 57 = .ok (.isub, 1) := kd_r kbX12_costOf ki_50 rfl
theorem dX12_costOf_58 : decode cX12_costOf 58 = .ok (.iaload, 1) := kd_r kbX12_costOf ki_14 rfl
theorem dX12_costOf_59 : decode cX12_costOf 59 = .ok (.iastore, 1) := kd_r kbX12_costOf ki_28 rfl
theorem dX12_costOf_60 : decode cX12_costOf 60 = .ok (.iinc 8 (-1), 3) := kd_r kbX12_costOf ki_850 rfl
theorem dX12_costOf_63 : decode cX12_costOf 63 = .ok (.goto (-38), 3) := kd_r kbX12_costOf ki_100 rfl
theorem dX12_costOf_66 : decode cX12_costOf 66 = .ok (.aload_n 0, 1) := kd_r kbX12_costOf ki_0 rfl
theorem dX12_costOf_67 : decode cX12_costOf 67 = .ok (.getfield 40, 3) := kd_r kbX12_costOf ki_322 rfl
theorem dX12_costOf_70 : decode cX12_costOf 70 = .ok (.iload 8, 2) := kd_r kbX12_costOf ki_156 rfl
theorem dX12_costOf_72 : decode cX12_costOf 72 = .ok (.iload 7, 2) := kd_r kbX12_costOf ki_153 rfl
theorem dX12_costOf_74 : decode cX12_costOf 74 = .ok (.iastore, 1) := kd_r kbX12_costOf ki_28 rfl
theorem dX12_costOf_75 : decode cX12_costOf 75 = .ok (.iinc 5 1, 3) := kd_r kbX12_costOf ki_143 rfl
theorem dX12_costOf_78 : decode cX12_costOf 78 = .ok (.iinc 6 1, 3) := kd_r kbX12_costOf ki_208 rfl
theorem dX12_costOf_81 : decode cX12_costOf 81 = .ok (.goto (-75), 3) := kd_r kbX12_costOf ki_263 rfl
theorem dX12_costOf_84 : decode cX12_costOf 84 = .ok (.aload_n 0, 1) := kd_r kbX12_costOf ki_0 rfl
theorem dX12_costOf_85 : decode cX12_costOf 85 = .ok (.getfield 40, 3) := kd_r kbX12_costOf ki_322 rfl
theorem dX12_costOf_88 : decode cX12_costOf 88 = .ok (.iload 5, 2) := kd_r kbX12_costOf ki_134 rfl
theorem dX12_costOf_90 : decode cX12_costOf 90 = .ok (.iconst 1, 1) := kd_r kbX12_costOf ki_16 rfl
theorem dX12_costOf_91 : decode cX12_costOf 91 = .ok (.isub, 1) := kd_r kbX12_costOf ki_50 rfl
theorem dX12_costOf_92 : decode cX12_costOf 92 = .ok (.iconst 2, 1) := kd_r kbX12_costOf ki_244 rfl
theorem dX12_costOf_93 : decode cX12_costOf 93 = .ok (.idiv, 1) := kd_r kbX12_costOf ki_225 rfl
theorem dX12_costOf_94 : decode cX12_costOf 94 = .ok (.iaload, 1) := kd_r kbX12_costOf ki_14 rfl
theorem dX12_costOf_95 : decode cX12_costOf 95 = .ok (.istore 6, 2) := kd_r kbX12_costOf ki_199 rfl
theorem dX12_costOf_97 : decode cX12_costOf 97 = .ok (.aload_n 0, 1) := kd_r kbX12_costOf ki_0 rfl
theorem dX12_costOf_98 : decode cX12_costOf 98 = .ok (.iload_n 1, 1) := kd_r kbX12_costOf ki_8 rfl
theorem dX12_costOf_99 : decode cX12_costOf 99 = .ok (.iload_n 2, 1) := kd_r kbX12_costOf ki_11 rfl
theorem dX12_costOf_100 : decode cX12_costOf 100 = .ok (.invokevirtual 117, 3) := kd_r kbX12_costOf ki_755 rfl
theorem dX12_costOf_103 : decode cX12_costOf 103 = .ok (.ifCond .eq 7, 3) := kd_r kbX12_costOf ki_18 rfl
theorem dX12_costOf_106 : decode cX12_costOf 106 = .ok (.iconst 0, 1) := kd_r kbX12_costOf ki_20 rfl
theorem dX12_costOf_107 : decode cX12_costOf 107 = .ok (.goto 5, 3) := kd_r kbX12_costOf ki_342 rfl
theorem dX12_costOf_110 : decode cX12_costOf 110 = .ok (.iload 4, 2) := kd_r kbX12_costOf ki_57 rfl
theorem dX12_costOf_112 : decode cX12_costOf 112 = .ok (.istore 7, 2) := kd_r kbX12_costOf ki_152 rfl
theorem dX12_costOf_114 : decode cX12_costOf 114 = .ok (.iconst 0, 1) := kd_r kbX12_costOf ki_20 rfl
theorem dX12_costOf_115 : decode cX12_costOf 115 = .ok (.istore 8, 2) := kd_r kbX12_costOf ki_155 rfl
theorem dX12_costOf_117 : decode cX12_costOf 117 = .ok (.iload 8, 2) := kd_r kbX12_costOf ki_156 rfl
theorem dX12_costOf_119 : decode cX12_costOf 119 = .ok (.iload 5, 2) := kd_r kbX12_costOf ki_134 rfl
theorem dX12_costOf_121 : decode cX12_costOf 121 = .ok (.if_icmp .ge 27, 3) := kd_r kbX12_costOf ki_330 rfl
theorem dX12_costOf_124 : decode cX12_costOf 124 = .ok (.iload 7, 2) := kd_r kbX12_costOf ki_153 rfl
theorem dX12_costOf_126 : decode cX12_costOf 126 = .ok (.aload_n 0, 1) := kd_r kbX12_costOf ki_0 rfl
theorem dX12_costOf_127 : decode cX12_costOf 127 = .ok (.getfield 40, 3) := kd_r kbX12_costOf ki_322 rfl
theorem dX12_costOf_130 : decode cX12_costOf 130 = .ok (.iload 8, 2) := kd_r kbX12_costOf ki_156 rfl
theorem dX12_costOf_132 : decode cX12_costOf 132 = .ok (.iaload, 1) := kd_r kbX12_costOf ki_14 rfl
theorem dX12_costOf_133 : decode cX12_costOf 133 = .ok (.iload 6, 2) := kd_r kbX12_costOf ki_200 rfl
theorem dX12_costOf_135 : decode cX12_costOf 135 = .ok (.isub, 1) := kd_r kbX12_costOf ki_50 rfl
theorem dX12_costOf_136 : decode cX12_costOf 136 = .ok (.invokestatic 196, 3) := kd_r kbX12_costOf ki_836 rfl
theorem dX12_costOf_139 : decode cX12_costOf 139 = .ok (.iadd, 1) := kd_r kbX12_costOf ki_30 rfl
theorem dX12_costOf_140 : decode cX12_costOf 140 = .ok (.istore 7, 2) := kd_r kbX12_costOf ki_152 rfl
theorem dX12_costOf_142 : decode cX12_costOf 142 = .ok (.iinc 8 1, 3) := kd_r kbX12_costOf ki_162 rfl
theorem dX12_costOf_145 : decode cX12_costOf 145 = .ok (.goto (-28), 3) := kd_r kbX12_costOf ki_332 rfl
theorem dX12_costOf_148 : decode cX12_costOf 148 = .ok (.iload 7, 2) := kd_r kbX12_costOf ki_153 rfl
theorem dX12_costOf_150 : decode cX12_costOf 150 = .ok (.ireturn, 1) := kd_r kbX12_costOf ki_7 rfl
theorem dX12_pieceAt_0 : decode cX12_pieceAt 0 = .ok (.bipush 41, 2) := kd_r kbX12_pieceAt ki_187 rfl
theorem dX12_pieceAt_2 : decode cX12_pieceAt 2 = .ok (.iload_n 0, 1) := kd_r kbX12_pieceAt ki_40 rfl
theorem dX12_pieceAt_3 : decode cX12_pieceAt 3 = .ok (.imul, 1) := kd_r kbX12_pieceAt ki_114 rfl
theorem dX12_pieceAt_4 : decode cX12_pieceAt 4 = .ok (.iload_n 1, 1) := kd_r kbX12_pieceAt ki_8 rfl
theorem dX12_pieceAt_5 : decode cX12_pieceAt 5 = .ok (.iadd, 1) := kd_r kbX12_pieceAt ki_30 rfl
theorem dX12_pieceAt_6 : decode cX12_pieceAt 6 = .ok (.ireturn, 1) := kd_r kbX12_pieceAt ki_7 rfl
set_option maxRecDepth 20000 in
theorem ggX12_findPieces_X12_pieceAt : GoodIn wsX12_findPieces wsX12_pieceAt := goodIn_r _ [7] rfl (by decide +kernel)
set_option maxRecDepth 20000 in
theorem gX12_findPieces_X12_pieceAt : GoodIn wsX12_findPieces (va_wsS RX12 205 yX12_pieceAt wsX12_pieceAt) := goodIn_app (goodIn_of _ (by decide +kernel)) ggX12_findPieces_X12_pieceAt
set_option maxRecDepth 20000 in
theorem ggX12_findPieces_X12_costOf : GoodIn wsX12_findPieces wsX12_costOf := goodIn_r _ [11, 12, 13, 14, 15, 6, 16, 17, 18, 19, 20, 21, 22, 23, 24, 25, 26, 27, 28, 29, 30, 31, 32, 33, 34, 35, 36, 37, 38, 39, 40, 41, 42, 43, 44, 45, 46, 47, 48, 49, 50, 51, 52, 53, 54, 55, 56, 57, 58, 59, 60, 61, 62, 63, 64, 65, 66, 67, 68, 69, 70, 71, 72, 73] rfl (by decide +kernel)
set_option maxRecDepth 20000 in
theorem gX12_findPieces_X12_costOf : GoodIn wsX12_findPieces (wsV RX12 208 RX12 yX12_costOf wsX12_costOf) := goodIn_app (goodIn_of _ (by decide +kernel)) ggX12_findPieces_X12_costOf
theorem dX12_findPieces_0 : decode cX12_findPieces 0 = .ok (.aload_n 0, 1) := kd_r kbX12_findPieces ki_0 rfl
theorem dX12_findPieces_1 : decode cX12_findPieces 1 = .ok (.getfield 9, 3) := kd_r kbX12_findPieces ki_13 rfl
theorem dX12_findPieces_4 : decode cX12_findPieces 4 = .ok (.iload_n 1, 1) := kd_r kbX12_findPieces ki_8 rfl
theorem dX12_findPieces_5 : decode cX12_findPieces 5 = .ok (.iaload, 1) := kd_r kbX12_findPieces ki_14 rfl
theorem dX12_findPieces_6 : decode cX12_findPieces 6 = .ok (.istore_n 3, 1) := kd_r kbX12_findPieces ki_108 rfl
theorem dX12_findPieces_7 : decode cX12_findPieces 7 = .ok (.iconst 0, 1) := kd_r kbX12_findPieces ki_20 rfl
theorem dX12_findPieces_8 : decode cX12_findPieces 8 = .ok (.istore 4, 2) := kd_r kbX12_findPieces ki_129 rfl
theorem dX12_findPieces_10 : decode cX12_findPieces 10 = .ok (.iload 4, 2) := kd_r kbX12_findPieces ki_57 rfl
theorem dX12_findPieces_12 : decode cX12_findPieces 12 = .ok (.iconst 5, 1) := kd_r kbX12_findPieces ki_79 rfl
theorem dX12_findPieces_13 : decode cX12_findPieces 13 = .ok (.if_icmp .gt 141, 3) := kd_r kbX12_findPieces ki_851 rfl
theorem dX12_findPieces_16 : decode cX12_findPieces 16 = .ok (.iload_n 3, 1) := kd_r kbX12_findPieces ki_55 rfl
theorem dX12_findPieces_17 : decode cX12_findPieces 17 = .ok (.istore 5, 2) := kd_r kbX12_findPieces ki_133 rfl
theorem dX12_findPieces_19 : decode cX12_findPieces 19 = .ok (.iload 5, 2) := kd_r kbX12_findPieces ki_134 rfl
theorem dX12_findPieces_21 : decode cX12_findPieces 21 = .ok (.ifCond .lt 127, 3) := kd_r kbX12_findPieces ki_852 rfl
theorem dX12_findPieces_24 : decode cX12_findPieces 24 = .ok (.iload 4, 2) := kd_r kbX12_findPieces ki_57 rfl
theorem dX12_findPieces_26 : decode cX12_findPieces 26 = .ok (.ifCond .ne 13, 3) := kd_r kbX12_findPieces ki_581 rfl
theorem dX12_findPieces_29 : decode cX12_findPieces 29 = .ok (.iload 5, 2) := kd_r kbX12_findPieces ki_134 rfl
theorem dX12_findPieces_31 : decode cX12_findPieces 31 = .ok (.iload_n 3, 1) := kd_r kbX12_findPieces ki_55 rfl
theorem dX12_findPieces_32 : decode cX12_findPieces 32 = .ok (.if_icmp .ne 7, 3) := kd_r kbX12_findPieces ki_280 rfl
theorem dX12_findPieces_35 : decode cX12_findPieces 35 = .ok (.iconst 0, 1) := kd_r kbX12_findPieces ki_20 rfl
theorem dX12_findPieces_36 : decode cX12_findPieces 36 = .ok (.goto 5, 3) := kd_r kbX12_findPieces ki_342 rfl
theorem dX12_findPieces_39 : decode cX12_findPieces 39 = .ok (.ldc 195, 2) := kd_r kbX12_findPieces ki_831 rfl
theorem dX12_findPieces_41 : decode cX12_findPieces 41 = .ok (.istore 6, 2) := kd_r kbX12_findPieces ki_199 rfl
theorem dX12_findPieces_43 : decode cX12_findPieces 43 = .ok (.iload 5, 2) := kd_r kbX12_findPieces ki_134 rfl
theorem dX12_findPieces_45 : decode cX12_findPieces 45 = .ok (.iconst 2, 1) := kd_r kbX12_findPieces ki_244 rfl
theorem dX12_findPieces_46 : decode cX12_findPieces 46 = .ok (.iadd, 1) := kd_r kbX12_findPieces ki_30 rfl
theorem dX12_findPieces_47 : decode cX12_findPieces 47 = .ok (.istore 7, 2) := kd_r kbX12_findPieces ki_152 rfl
theorem dX12_findPieces_49 : decode cX12_findPieces 49 = .ok (.iload 4, 2) := kd_r kbX12_findPieces ki_57 rfl
theorem dX12_findPieces_51 : decode cX12_findPieces 51 = .ok (.ifCond .le 77, 3) := kd_r kbX12_findPieces ki_853 rfl
theorem dX12_findPieces_54 : decode cX12_findPieces 54 = .ok (.iload 7, 2) := kd_r kbX12_findPieces ki_153 rfl
theorem dX12_findPieces_56 : decode cX12_findPieces 56 = .ok (.iload_n 3, 1) := kd_r kbX12_findPieces ki_55 rfl
theorem dX12_findPieces_57 : decode cX12_findPieces 57 = .ok (.if_icmp .gt 71, 3) := kd_r kbX12_findPieces ki_854 rfl
theorem dX12_findPieces_60 : decode cX12_findPieces 60 = .ok (.aload_n 0, 1) := kd_r kbX12_findPieces ki_0 rfl
theorem dX12_findPieces_61 : decode cX12_findPieces 61 = .ok (.getfield 43, 3) := kd_r kbX12_findPieces ki_855 rfl
theorem dX12_findPieces_64 : decode cX12_findPieces 64 = .ok (.iload 4, 2) := kd_r kbX12_findPieces ki_57 rfl
theorem dX12_findPieces_66 : decode cX12_findPieces 66 = .ok (.iconst 1, 1) := kd_r kbX12_findPieces ki_16 rfl
theorem dX12_findPieces_67 : decode cX12_findPieces 67 = .ok (.isub, 1) := kd_r kbX12_findPieces ki_50 rfl
theorem dX12_findPieces_68 : decode cX12_findPieces 68 = .ok (.iload 7, 2) := kd_r kbX12_findPieces ki_153 rfl
theorem dX12_findPieces_70 : decode cX12_findPieces 70 = .ok (.invokestatic 205, 3) := kd_r kbX12_findPieces ki_856 rfl
theorem dX12_findPieces_73 : decode cX12_findPieces 73 = .ok (.iaload, 1) := kd_r kbX12_findPieces ki_14 rfl
theorem dX12_findPieces_74 : decode cX12_findPieces 74 = .ok (.ldc 195, 2) := kd_r kbX12_findPieces ki_831 rfl
theorem dX12_findPieces_76 : decode cX12_findPieces 76 = .ok (.if_icmp .ge 46, 3) := kd_r kbX12_findPieces ki_857 rfl
theorem dX12_findPieces_79 : decode cX12_findPieces 79 = .ok (.aload_n 0, 1) := kd_r kbX12_findPieces ki_0 rfl
theorem dX12_findPieces_80 : decode cX12_findPieces 80 = .ok (.iload_n 1, 1) := kd_r kbX12_findPieces ki_8 rfl
theorem dX12_findPieces_81 : decode cX12_findPieces 81 = .ok (.iload 5, 2) := kd_r kbX12_findPieces ki_134 rfl
theorem dX12_findPieces_83 : decode cX12_findPieces 83 = .ok (.iload 7, 2) := kd_r kbX12_findPieces ki_153 rfl
theorem dX12_findPieces_85 : decode cX12_findPieces 85 = .ok (.iload_n 2, 1) := kd_r kbX12_findPieces ki_11 rfl
theorem dX12_findPieces_86 : decode cX12_findPieces 86 = .ok (.invokevirtual 208, 3) := kd_r kbX12_findPieces ki_858 rfl
theorem dX12_findPieces_89 : decode cX12_findPieces 89 = .ok (.aload_n 0, 1) := kd_r kbX12_findPieces ki_0 rfl
theorem dX12_findPieces_90 : decode cX12_findPieces 90 = .ok (.getfield 43, 3) := kd_r kbX12_findPieces ki_855 rfl
theorem dX12_findPieces_93 : decode cX12_findPieces 93 = .ok (.iload 4, 2) := kd_r kbX12_findPieces ki_57 rfl
theorem dX12_findPieces_95 : decode cX12_findPieces 95 = .ok (.iconst 1, 1) := kd_r kbX12_findPieces ki_16 rfl
theorem dX12_findPieces_96 : decode cX12_findPieces 96 = .ok (.isub, 1) := kd_r kbX12_findPieces ki_50 rfl
theorem dX12_findPieces_97 : decode cX12_findPieces 97 = .ok (.iload 7, 2) := kd_r kbX12_findPieces ki_153 rfl
theorem dX12_findPieces_99 : decode cX12_findPieces 99 = .ok (.invokestatic 205, 3) := kd_r kbX12_findPieces ki_856 rfl
theorem dX12_findPieces_102 : decode cX12_findPieces 102 = .ok (.iaload, 1) := kd_r kbX12_findPieces ki_14 rfl
theorem dX12_findPieces_103 : decode cX12_findPieces 103 = .ok (.iadd, 1) := kd_r kbX12_findPieces ki_30 rfl
theorem dX12_findPieces_104 : decode cX12_findPieces 104 = .ok (.istore 8, 2) := kd_r kbX12_findPieces ki_155 rfl
theorem dX12_findPieces_106 : decode cX12_findPieces 106 = .ok (.iload 8, 2) := kd_r kbX12_findPieces ki_156 rfl
theorem dX12_findPieces_108 : decode cX12_findPieces 108 = .ok (.iload 6, 2) := kd_r kbX12_findPieces ki_200 rfl
theorem dX12_findPieces_110 : decode cX12_findPieces 110 = .ok (.if_icmp .ge 8, 3) := kd_r kbX12_findPieces ki_323 rfl
theorem dX12_findPieces_113 : decode cX12_findPieces 113 = .ok (.iload 8, 2) := kd_r kbX12_findPieces ki_156 rfl
theorem dX12_findPieces_115 : decode cX12_findPieces 115 = .ok (.goto 5, 3) := kd_r kbX12_findPieces ki_342 rfl
theorem dX12_findPieces_118 : decode cX12_findPieces 118 = .ok (.iload 6, 2) := kd_r kbX12_findPieces ki_200 rfl
theorem dX12_findPieces_120 : decode cX12_findPieces 120 = .ok (.istore 6, 2) := kd_r kbX12_findPieces ki_199 rfl
theorem dX12_findPieces_122 : decode cX12_findPieces 122 = .ok (.iinc 7 1, 3) := kd_r kbX12_findPieces ki_164 rfl
theorem dX12_findPieces_125 : decode cX12_findPieces 125 = .ok (.goto (-76), 3) := kd_r kbX12_findPieces ki_381 rfl
theorem dX12_findPieces_128 : decode cX12_findPieces 128 = .ok (.aload_n 0, 1) := kd_r kbX12_findPieces ki_0 rfl
theorem dX12_findPieces_129 : decode cX12_findPieces 129 = .ok (.getfield 43, 3) := kd_r kbX12_findPieces ki_855 rfl
theorem dX12_findPieces_132 : decode cX12_findPieces 132 = .ok (.iload 4, 2) := kd_r kbX12_findPieces ki_57 rfl
theorem dX12_findPieces_134 : decode cX12_findPieces 134 = .ok (.iload 5, 2) := kd_r kbX12_findPieces ki_134 rfl
theorem dX12_findPieces_136 : decode cX12_findPieces 136 = .ok (.invokestatic 205, 3) := kd_r kbX12_findPieces ki_856 rfl
theorem dX12_findPieces_139 : decode cX12_findPieces 139 = .ok (.iload 6, 2) := kd_r kbX12_findPieces ki_200 rfl
theorem dX12_findPieces_141 : decode cX12_findPieces 141 = .ok (.iastore, 1) := kd_r kbX12_findPieces ki_28 rfl
theorem dX12_findPieces_142 : decode cX12_findPieces 142 = .ok (.iinc 5 (-1), 3) := kd_r kbX12_findPieces ki_196 rfl
theorem dX12_findPieces_145 : decode cX12_findPieces 145 = .ok (.goto (-126), 3) := kd_r kbX12_findPieces ki_859 rfl
theorem dX12_findPieces_148 : decode cX12_findPieces 148 = .ok (.iinc 4 1, 3) := kd_r kbX12_findPieces ki_144 rfl
theorem dX12_findPieces_151 : decode cX12_findPieces 151 = .ok (.goto (-141), 3) := kd_r kbX12_findPieces ki_860 rfl
theorem dX12_findPieces_154 : decode cX12_findPieces 154 = .ok (.return_, 1) := kd_r kbX12_findPieces ki_5 rfl
set_option maxRecDepth 20000 in
theorem ggX12_pieces_X12_isStreet : GoodIn wsX12_pieces wsX12_isStreet := goodIn_r _ [9, 10, 11, 12, 8, 13, 38, 39, 40, 41, 42, 43, 44, 45, 46, 47, 48, 49, 50, 51, 52, 53, 54, 55, 56, 57, 58, 59, 60, 61, 62, 63, 64, 65, 66, 67, 68, 69, 70, 71, 72, 73, 74, 75, 76, 77, 78, 79, 80, 81, 82, 83, 84, 85, 86] rfl (by decide +kernel)
set_option maxRecDepth 20000 in
theorem gX12_pieces_X12_isStreet : GoodIn wsX12_pieces (wsV RX12 126 RX12 yX12_isStreet wsX12_isStreet) := goodIn_app (goodIn_of _ (by decide +kernel)) ggX12_pieces_X12_isStreet
set_option maxRecDepth 20000 in
theorem ggX12_pieces_X12_within : GoodIn wsX12_pieces wsX12_within := goodIn_r _ [13] rfl (by decide +kernel)
set_option maxRecDepth 20000 in
theorem gX12_pieces_X12_within : GoodIn wsX12_pieces (va_wsS RX12 109 yX12_within wsX12_within) := goodIn_app (goodIn_of _ (by decide +kernel)) ggX12_pieces_X12_within
set_option maxRecDepth 20000 in
theorem ggX12_pieces_X12_findPieces : GoodIn wsX12_pieces wsX12_findPieces := goodIn_r _ [17, 2, 4, 3, 18, 19, 8, 20, 21, 22, 23, 24, 25, 26, 27, 28, 29, 30, 31, 32, 33, 34, 35, 36, 37, 38, 39, 40, 41, 42, 43, 44, 45, 46, 47, 48, 49, 50, 51, 52, 53, 54, 55, 56, 57, 58, 59, 60, 61, 62, 63, 64, 65, 66, 67, 68, 69, 70, 71, 72, 73, 74, 75, 76, 77, 78, 79, 80, 81, 82, 83, 84, 85, 86] rfl (by decide +kernel)
set_option maxRecDepth 20000 in
theorem gX12_pieces_X12_findPieces : GoodIn wsX12_pieces (wsV RX12 214 RX12 yX12_findPieces wsX12_findPieces) := goodIn_app (goodIn_of _ (by decide +kernel)) ggX12_pieces_X12_findPieces
set_option maxRecDepth 20000 in
theorem ggX12_pieces_X12_pieceAt : GoodIn wsX12_pieces wsX12_pieceAt := goodIn_r _ [20] rfl (by decide +kernel)
set_option maxRecDepth 20000 in
theorem gX12_pieces_X12_pieceAt : GoodIn wsX12_pieces (va_wsS RX12 205 yX12_pieceAt wsX12_pieceAt) := goodIn_app (goodIn_of _ (by decide +kernel)) ggX12_pieces_X12_pieceAt
set_option maxRecDepth 20000 in
theorem ggX12_pieces_X12_costOf : GoodIn wsX12_pieces wsX12_costOf := goodIn_r _ [24, 25, 26, 27, 28, 8, 29, 30, 31, 32, 33, 34, 35, 36, 37, 38, 39, 40, 41, 42, 43, 44, 45, 46, 47, 48, 49, 50, 51, 52, 53, 54, 55, 56, 57, 58, 59, 60, 61, 62, 63, 64, 65, 66, 67, 68, 69, 70, 71, 72, 73, 74, 75, 76, 77, 78, 79, 80, 81, 82, 83, 84, 85, 86] rfl (by decide +kernel)
set_option maxRecDepth 20000 in
theorem gX12_pieces_X12_costOf : GoodIn wsX12_pieces (wsV RX12 208 RX12 yX12_costOf wsX12_costOf) := goodIn_app (goodIn_of _ (by decide +kernel)) ggX12_pieces_X12_costOf
theorem dX12_pieces_0 : decode cX12_pieces 0 = .ok (.aload_n 0, 1) := kd_r kbX12_pieces ki_0 rfl
theorem dX12_pieces_1 : decode cX12_pieces 1 = .ok (.iload_n 1, 1) := kd_r kbX12_pieces ki_8 rfl
theorem dX12_pieces_2 : decode cX12_pieces 2 = .ok (.invokevirtual 126, 3) := kd_r kbX12_pieces ki_764 rfl
theorem dX12_pieces_5 : decode cX12_pieces 5 = .ok (.ifCond .eq 21, 3) := kd_r kbX12_pieces ki_422 rfl
theorem dX12_pieces_8 : decode cX12_pieces 8 = .ok (.iload_n 2, 1) := kd_r kbX12_pieces ki_11 rfl
theorem dX12_pieces_9 : decode cX12_pieces 9 = .ok (.i2l, 1) := kd_r kbX12_pieces ki_399 rfl
theorem dX12_pieces_10 : decode cX12_pieces 10 = .ok (.lconst 0, 1) := kd_r kbX12_pieces ki_172 rfl
theorem dX12_pieces_11 : decode cX12_pieces 11 = .ok (.ldc2_w 212, 3) := kd_r kbX12_pieces ki_861 rfl
theorem dX12_pieces_14 : decode cX12_pieces 14 = .ok (.invokestatic 109, 3) := kd_r kbX12_pieces ki_751 rfl
theorem dX12_pieces_17 : decode cX12_pieces 17 = .ok (.ifCond .eq 9, 3) := kd_r kbX12_pieces ki_472 rfl
theorem dX12_pieces_20 : decode cX12_pieces 20 = .ok (.iload_n 3, 1) := kd_r kbX12_pieces ki_55 rfl
theorem dX12_pieces_21 : decode cX12_pieces 21 = .ok (.bipush (-2), 2) := kd_r kbX12_pieces ki_39 rfl
theorem dX12_pieces_23 : decode cX12_pieces 23 = .ok (.if_icmp .ge 5, 3) := kd_r kbX12_pieces ki_430 rfl
