theorem dX12_workOut_126 : decode cX12_workOut 126 = .ok (.invokevirtual 299, 3) := kd_r kbX12_workOut ki_668 rfl
theorem dX12_workOut_129 : decode cX12_workOut 129 = .ok (.ireturn, 1) := kd_r kbX12_workOut ki_7 rfl
theorem dX12_workOut_130 : decode cX12_workOut 130 = .ok (.iload 4, 2) := kd_r kbX12_workOut ki_57 rfl
theorem dX12_workOut_132 : decode cX12_workOut 132 = .ok (.ireturn, 1) := kd_r kbX12_workOut ki_7 rfl
set_option maxRecDepth 20000 in
theorem ggX12_law_X12_workOut : GoodIn wsX12_law wsX12_workOut := goodIn_r _ [11, 12, 13, 14, 3, 15, 16, 17, 18, 10, 19, 20, 21, 22, 23, 24, 25, 26, 27, 28, 29, 30, 5, 4, 31, 32, 33, 34, 35, 36, 37, 38, 39, 40, 41, 42, 43, 44, 45, 46, 47, 48, 49, 50, 51, 52, 53, 54, 55, 56, 57, 58, 59, 60, 61, 62, 63, 64, 65, 66, 67, 68, 69, 70, 71, 72, 73, 74, 75, 76, 77, 78, 79, 80, 81, 82, 83, 84, 85, 86, 87, 88, 89, 90, 91, 92, 93, 94, 95, 96, 97, 98, 99, 100, 101, 102, 103, 104] rfl (by decide +kernel)
set_option maxRecDepth 20000 in
theorem gX12_law_X12_workOut : GoodIn wsX12_law (wsV RX12 311 RX12 yX12_workOut wsX12_workOut) := goodIn_app (goodIn_of _ (by decide +kernel)) ggX12_law_X12_workOut
theorem dX12_law_0 : decode cX12_law 0 = .ok (.aload_n 0, 1) := kd_r kbX12_law ki_0 rfl
theorem dX12_law_1 : decode cX12_law 1 = .ok (.getfield 308, 3) := kd_r kbX12_law ki_963 rfl
theorem dX12_law_4 : decode cX12_law 4 = .ok (.iconst 4, 1) := kd_r kbX12_law ki_247 rfl
theorem dX12_law_5 : decode cX12_law 5 = .ok (.if_icmp .ne 6, 3) := kd_r kbX12_law ki_604 rfl
theorem dX12_law_8 : decode cX12_law 8 = .ok (.bipush (-3), 2) := kd_r kbX12_law ki_293 rfl
theorem dX12_law_10 : decode cX12_law 10 = .ok (.ireturn, 1) := kd_r kbX12_law ki_7 rfl
theorem dX12_law_11 : decode cX12_law 11 = .ok (.aload_n 0, 1) := kd_r kbX12_law ki_0 rfl
theorem dX12_law_12 : decode cX12_law 12 = .ok (.iconst (-1), 1) := kd_r kbX12_law ki_99 rfl
theorem dX12_law_13 : decode cX12_law 13 = .ok (.aload_n 0, 1) := kd_r kbX12_law ki_0 rfl
theorem dX12_law_14 : decode cX12_law 14 = .ok (.getfield 259, 3) := kd_r kbX12_law ki_643 rfl
theorem dX12_law_17 : decode cX12_law 17 = .ok (.invokevirtual 311, 3) := kd_r kbX12_law ki_672 rfl
theorem dX12_law_20 : decode cX12_law 20 = .ok (.istore_n 1, 1) := kd_r kbX12_law ki_60 rfl
theorem dX12_law_21 : decode cX12_law 21 = .ok (.aload_n 0, 1) := kd_r kbX12_law ki_0 rfl
theorem dX12_law_22 : decode cX12_law 22 = .ok (.getfield 259, 3) := kd_r kbX12_law ki_643 rfl
theorem dX12_law_25 : decode cX12_law 25 = .ok (.istore_n 2, 1) := kd_r kbX12_law ki_32 rfl
theorem dX12_law_26 : decode cX12_law 26 = .ok (.aload_n 0, 1) := kd_r kbX12_law ki_0 rfl
theorem dX12_law_27 : decode cX12_law 27 = .ok (.iconst 0, 1) := kd_r kbX12_law ki_20 rfl
theorem dX12_law_28 : decode cX12_law 28 = .ok (.putfield 259, 3) := kd_r kbX12_law ki_648 rfl
theorem dX12_law_31 : decode cX12_law 31 = .ok (.aload_n 0, 1) := kd_r kbX12_law ki_0 rfl
theorem dX12_law_32 : decode cX12_law 32 = .ok (.getfield 271, 3) := kd_r kbX12_law ki_931 rfl
theorem dX12_law_35 : decode cX12_law 35 = .ok (.ifCond .lt 11, 3) := kd_r kbX12_law ki_440 rfl
theorem dX12_law_38 : decode cX12_law 38 = .ok (.bipush (-100), 2) := kd_r kbX12_law ki_649 rfl
theorem dX12_law_40 : decode cX12_law 40 = .ok (.aload_n 0, 1) := kd_r kbX12_law ki_0 rfl
theorem dX12_law_41 : decode cX12_law 41 = .ok (.getfield 271, 3) := kd_r kbX12_law ki_931 rfl
theorem dX12_law_44 : decode cX12_law 44 = .ok (.isub, 1) := kd_r kbX12_law ki_50 rfl
theorem dX12_law_45 : decode cX12_law 45 = .ok (.ireturn, 1) := kd_r kbX12_law ki_7 rfl
theorem dX12_law_46 : decode cX12_law 46 = .ok (.iconst 0, 1) := kd_r kbX12_law ki_20 rfl
theorem dX12_law_47 : decode cX12_law 47 = .ok (.istore_n 3, 1) := kd_r kbX12_law ki_108 rfl
theorem dX12_law_48 : decode cX12_law 48 = .ok (.iload_n 3, 1) := kd_r kbX12_law ki_55 rfl
theorem dX12_law_49 : decode cX12_law 49 = .ok (.iload_n 2, 1) := kd_r kbX12_law ki_11 rfl
theorem dX12_law_50 : decode cX12_law 50 = .ok (.if_icmp .ge 29, 3) := kd_r kbX12_law ki_136 rfl
theorem dX12_law_53 : decode cX12_law 53 = .ok (.aload_n 0, 1) := kd_r kbX12_law ki_0 rfl
theorem dX12_law_54 : decode cX12_law 54 = .ok (.getfield 71, 3) := kd_r kbX12_law ki_516 rfl
theorem dX12_law_57 : decode cX12_law 57 = .ok (.bipush 120, 2) := kd_r kbX12_law ki_446 rfl
theorem dX12_law_59 : decode cX12_law 59 = .ok (.aload_n 0, 1) := kd_r kbX12_law ki_0 rfl
theorem dX12_law_60 : decode cX12_law 60 = .ok (.getfield 308, 3) := kd_r kbX12_law ki_963 rfl
theorem dX12_law_63 : decode cX12_law 63 = .ok (.imul, 1) := kd_r kbX12_law ki_114 rfl
theorem dX12_law_64 : decode cX12_law 64 = .ok (.iload_n 3, 1) := kd_r kbX12_law ki_55 rfl
theorem dX12_law_65 : decode cX12_law 65 = .ok (.iadd, 1) := kd_r kbX12_law ki_30 rfl
theorem dX12_law_66 : decode cX12_law 66 = .ok (.aload_n 0, 1) := kd_r kbX12_law ki_0 rfl
theorem dX12_law_67 : decode cX12_law 67 = .ok (.getfield 68, 3) := kd_r kbX12_law ki_926 rfl
theorem dX12_law_70 : decode cX12_law 70 = .ok (.iload_n 3, 1) := kd_r kbX12_law ki_55 rfl
theorem dX12_law_71 : decode cX12_law 71 = .ok (.iaload, 1) := kd_r kbX12_law ki_14 rfl
theorem dX12_law_72 : decode cX12_law 72 = .ok (.iastore, 1) := kd_r kbX12_law ki_28 rfl
theorem dX12_law_73 : decode cX12_law 73 = .ok (.iinc 3 1, 3) := kd_r kbX12_law ki_116 rfl
theorem dX12_law_76 : decode cX12_law 76 = .ok (.goto (-28), 3) := kd_r kbX12_law ki_332 rfl
theorem dX12_law_79 : decode cX12_law 79 = .ok (.aload_n 0, 1) := kd_r kbX12_law ki_0 rfl
theorem dX12_law_80 : decode cX12_law 80 = .ok (.getfield 74, 3) := kd_r kbX12_law ki_964 rfl
theorem dX12_law_83 : decode cX12_law 83 = .ok (.aload_n 0, 1) := kd_r kbX12_law ki_0 rfl
theorem dX12_law_84 : decode cX12_law 84 = .ok (.getfield 308, 3) := kd_r kbX12_law ki_963 rfl
theorem dX12_law_87 : decode cX12_law 87 = .ok (.iload_n 2, 1) := kd_r kbX12_law ki_11 rfl
theorem dX12_law_88 : decode cX12_law 88 = .ok (.iastore, 1) := kd_r kbX12_law ki_28 rfl
theorem dX12_law_89 : decode cX12_law 89 = .ok (.aload_n 0, 1) := kd_r kbX12_law ki_0 rfl
theorem dX12_law_90 : decode cX12_law 90 = .ok (.dup, 1) := kd_r kbX12_law ki_29 rfl
theorem dX12_law_91 : decode cX12_law 91 = .ok (.getfield 308, 3) := kd_r kbX12_law ki_963 rfl
theorem dX12_law_94 : decode cX12_law 94 = .ok (.iconst 1, 1) := kd_r kbX12_law ki_16 rfl
theorem dX12_law_95 : decode cX12_law 95 = .ok (.iadd, 1) := kd_r kbX12_law ki_30 rfl
theorem dX12_law_96 : decode cX12_law 96 = .ok (.putfield 308, 3) := kd_r kbX12_law ki_965 rfl
theorem dX12_law_99 : decode cX12_law 99 = .ok (.aload_n 0, 1) := kd_r kbX12_law ki_0 rfl
theorem dX12_law_100 : decode cX12_law 100 = .ok (.getfield 308, 3) := kd_r kbX12_law ki_963 rfl
theorem dX12_law_103 : decode cX12_law 103 = .ok (.iconst 1, 1) := kd_r kbX12_law ki_16 rfl
theorem dX12_law_104 : decode cX12_law 104 = .ok (.isub, 1) := kd_r kbX12_law ki_50 rfl
theorem dX12_law_105 : decode cX12_law 105 = .ok (.ireturn, 1) := kd_r kbX12_law ki_7 rfl
set_option maxRecDepth 20000 in
theorem ggX12_isLaw_X12_within : GoodIn wsX12_isLaw wsX12_within := goodIn_r _ [5] rfl (by decide +kernel)
set_option maxRecDepth 20000 in
theorem gX12_isLaw_X12_within : GoodIn wsX12_isLaw (va_wsS RX12 109 yX12_within wsX12_within) := goodIn_app (goodIn_of _ (by decide +kernel)) ggX12_isLaw_X12_within
theorem dX12_isLaw_0 : decode cX12_isLaw 0 = .ok (.iload_n 1, 1) := kd_r kbX12_isLaw ki_8 rfl
theorem dX12_isLaw_1 : decode cX12_isLaw 1 = .ok (.i2l, 1) := kd_r kbX12_isLaw ki_399 rfl
theorem dX12_isLaw_2 : decode cX12_isLaw 2 = .ok (.lconst 0, 1) := kd_r kbX12_isLaw ki_172 rfl
theorem dX12_isLaw_3 : decode cX12_isLaw 3 = .ok (.aload_n 0, 1) := kd_r kbX12_isLaw ki_0 rfl
theorem dX12_isLaw_4 : decode cX12_isLaw 4 = .ok (.getfield 308, 3) := kd_r kbX12_isLaw ki_963 rfl
theorem dX12_isLaw_7 : decode cX12_isLaw 7 = .ok (.iconst 1, 1) := kd_r kbX12_isLaw ki_16 rfl
theorem dX12_isLaw_8 : decode cX12_isLaw 8 = .ok (.isub, 1) := kd_r kbX12_isLaw ki_50 rfl
theorem dX12_isLaw_9 : decode cX12_isLaw 9 = .ok (.i2l, 1) := kd_r kbX12_isLaw ki_399 rfl
theorem dX12_isLaw_10 : decode cX12_isLaw 10 = .ok (.invokestatic 109, 3) := kd_r kbX12_isLaw ki_751 rfl
theorem dX12_isLaw_13 : decode cX12_isLaw 13 = .ok (.ireturn, 1) := kd_r kbX12_isLaw ki_7 rfl
set_option maxRecDepth 20000 in
theorem ggX12_copies_X12_width : GoodIn wsX12_copies wsX12_width := goodIn_r _ [5, 6, 19, 20, 21, 22, 23, 24, 25, 26, 27, 28, 29, 30, 31, 32, 33, 34, 35, 36, 37, 38, 39, 40, 41, 42, 43, 44, 45, 46, 47, 48, 49, 50, 51, 52, 53, 54, 55, 56, 57, 58, 59, 60, 61, 62, 63, 64, 65, 66, 67] rfl (by decide +kernel)
set_option maxRecDepth 20000 in
theorem gX12_copies_X12_width : GoodIn wsX12_copies (wsV RX12 113 RX12 yX12_width wsX12_width) := goodIn_app (goodIn_of _ (by decide +kernel)) ggX12_copies_X12_width
set_option maxRecDepth 20000 in
theorem ggX12_copies_X12_depth : GoodIn wsX12_copies wsX12_depth := goodIn_r _ [10, 6, 19, 20, 21, 22, 23, 24, 25, 26, 27, 28, 29, 30, 31, 32, 33, 34, 35, 36, 37, 38, 39, 40, 41, 42, 43, 44, 45, 46, 47, 48, 49, 50, 51, 52, 53, 54, 55, 56, 57, 58, 59, 60, 61, 62, 63, 64, 65, 66, 67] rfl (by decide +kernel)
set_option maxRecDepth 20000 in
theorem gX12_copies_X12_depth : GoodIn wsX12_copies (wsV RX12 164 RX12 yX12_depth wsX12_depth) := goodIn_app (goodIn_of _ (by decide +kernel)) ggX12_copies_X12_depth
set_option maxRecDepth 20000 in
theorem ggX12_copies_X12_aside : GoodIn wsX12_copies wsX12_aside := goodIn_r _ [14, 6, 19, 20, 21, 22, 23, 24, 25, 26, 27, 28, 29, 30, 31, 32, 33, 34, 35, 36, 37, 38, 39, 40, 41, 42, 43, 44, 45, 46, 47, 48, 49, 50, 51, 52, 53, 54, 55, 56, 57, 58, 59, 60, 61, 62, 63, 64, 65, 66, 67] rfl (by decide +kernel)
set_option maxRecDepth 20000 in
theorem gX12_copies_X12_aside : GoodIn wsX12_copies (wsV RX12 117 RX12 yX12_aside wsX12_aside) := goodIn_app (goodIn_of _ (by decide +kernel)) ggX12_copies_X12_aside
set_option maxRecDepth 20000 in
theorem ggX12_copies_X12_sets : GoodIn wsX12_copies wsX12_sets := goodIn_r _ [18, 6, 19, 20, 21, 22, 23, 24, 25, 26, 27, 28, 29, 30, 31, 32, 33, 34, 35, 36, 37, 38, 39, 40, 41, 42, 43, 44, 45, 46, 47, 48, 49, 50, 51, 52, 53, 54, 55, 56, 57, 58, 59, 60, 61, 62, 63, 64, 65, 66, 67] rfl (by decide +kernel)
set_option maxRecDepth 20000 in
theorem gX12_copies_X12_sets : GoodIn wsX12_copies (wsV RX12 134 RX12 yX12_sets wsX12_sets) := goodIn_app (goodIn_of _ (by decide +kernel)) ggX12_copies_X12_sets
theorem dX12_copies_0 : decode cX12_copies 0 = .ok (.aload_n 0, 1) := kd_r kbX12_copies ki_0 rfl
theorem dX12_copies_1 : decode cX12_copies 1 = .ok (.iload_n 1, 1) := kd_r kbX12_copies ki_8 rfl
theorem dX12_copies_2 : decode cX12_copies 2 = .ok (.iload_n 3, 1) := kd_r kbX12_copies ki_55 rfl
theorem dX12_copies_3 : decode cX12_copies 3 = .ok (.aload_n 0, 1) := kd_r kbX12_copies ki_0 rfl
theorem dX12_copies_4 : decode cX12_copies 4 = .ok (.iload_n 1, 1) := kd_r kbX12_copies ki_8 rfl
theorem dX12_copies_5 : decode cX12_copies 5 = .ok (.iload_n 2, 1) := kd_r kbX12_copies ki_11 rfl
theorem dX12_copies_6 : decode cX12_copies 6 = .ok (.invokevirtual 113, 3) := kd_r kbX12_copies ki_754 rfl
theorem dX12_copies_9 : decode cX12_copies 9 = .ok (.aload_n 0, 1) := kd_r kbX12_copies ki_0 rfl
theorem dX12_copies_10 : decode cX12_copies 10 = .ok (.iload_n 1, 1) := kd_r kbX12_copies ki_8 rfl
theorem dX12_copies_11 : decode cX12_copies 11 = .ok (.iload_n 2, 1) := kd_r kbX12_copies ki_11 rfl
theorem dX12_copies_12 : decode cX12_copies 12 = .ok (.invokevirtual 164, 3) := kd_r kbX12_copies ki_796 rfl
theorem dX12_copies_15 : decode cX12_copies 15 = .ok (.aload_n 0, 1) := kd_r kbX12_copies ki_0 rfl
theorem dX12_copies_16 : decode cX12_copies 16 = .ok (.iload_n 1, 1) := kd_r kbX12_copies ki_8 rfl
theorem dX12_copies_17 : decode cX12_copies 17 = .ok (.iload_n 2, 1) := kd_r kbX12_copies ki_11 rfl
theorem dX12_copies_18 : decode cX12_copies 18 = .ok (.invokevirtual 117, 3) := kd_r kbX12_copies ki_755 rfl
theorem dX12_copies_21 : decode cX12_copies 21 = .ok (.invokevirtual 134, 3) := kd_r kbX12_copies ki_767 rfl
theorem dX12_copies_24 : decode cX12_copies 24 = .ok (.return_, 1) := kd_r kbX12_copies ki_5 rfl
set_option maxRecDepth 20000 in
theorem ggX12_joins_X12_width : GoodIn wsX12_joins wsX12_width := goodIn_r _ [6, 7, 24, 25, 26, 27, 28, 29, 30, 31, 32, 33, 34, 35, 36, 37, 38, 39, 40, 41, 42, 43, 44, 45, 46, 47, 48, 49, 50, 51, 52, 53, 54, 55, 56, 57, 58, 59, 60, 61, 62, 63, 64, 65, 66, 67, 68, 69, 70, 71, 72] rfl (by decide +kernel)
set_option maxRecDepth 20000 in
theorem gX12_joins_X12_width : GoodIn wsX12_joins (wsV RX12 113 RX12 yX12_width wsX12_width) := goodIn_app (goodIn_of _ (by decide +kernel)) ggX12_joins_X12_width
set_option maxRecDepth 20000 in
theorem ggX12_joins_X12_depth : GoodIn wsX12_joins wsX12_depth := goodIn_r _ [11, 7, 24, 25, 26, 27, 28, 29, 30, 31, 32, 33, 34, 35, 36, 37, 38, 39, 40, 41, 42, 43, 44, 45, 46, 47, 48, 49, 50, 51, 52, 53, 54, 55, 56, 57, 58, 59, 60, 61, 62, 63, 64, 65, 66, 67, 68, 69, 70, 71, 72] rfl (by decide +kernel)
set_option maxRecDepth 20000 in
theorem gX12_joins_X12_depth : GoodIn wsX12_joins (wsV RX12 164 RX12 yX12_depth wsX12_depth) := goodIn_app (goodIn_of _ (by decide +kernel)) ggX12_joins_X12_depth
set_option maxRecDepth 20000 in
theorem ggX12_joins_X12_aside : GoodIn wsX12_joins wsX12_aside := goodIn_r _ [15, 7, 24, 25, 26, 27, 28, 29, 30, 31, 32, 33, 34, 35, 36, 37, 38, 39, 40, 41, 42, 43, 44, 45, 46, 47, 48, 49, 50, 51, 52, 53, 54, 55, 56, 57, 58, 59, 60, 61, 62, 63, 64, 65, 66, 67, 68, 69, 70, 71, 72] rfl (by decide +kernel)
set_option maxRecDepth 20000 in
theorem gX12_joins_X12_aside : GoodIn wsX12_joins (wsV RX12 117 RX12 yX12_aside wsX12_aside) := goodIn_app (goodIn_of _ (by decide +kernel)) ggX12_joins_X12_aside
set_option maxRecDepth 20000 in
theorem ggX12_joins_X12_sets : GoodIn wsX12_joins wsX12_sets := goodIn_r _ [19, 7, 24, 25, 26, 27, 28, 29, 30, 31, 32, 33, 34, 35, 36, 37, 38, 39, 40, 41, 42, 43, 44, 45, 46, 47, 48, 49, 50, 51, 52, 53, 54, 55, 56, 57, 58, 59, 60, 61, 62, 63, 64, 65, 66, 67, 68, 69, 70, 71, 72] rfl (by decide +kernel)
set_option maxRecDepth 20000 in
theorem gX12_joins_X12_sets : GoodIn wsX12_joins (wsV RX12 134 RX12 yX12_sets wsX12_sets) := goodIn_app (goodIn_of _ (by decide +kernel)) ggX12_joins_X12_sets
set_option maxRecDepth 20000 in
theorem ggX12_joins_X12_copies : GoodIn wsX12_joins wsX12_copies := goodIn_r _ [23, 2, 3, 4, 5, 6, 7, 8, 9, 10, 11, 12, 13, 14, 15, 16, 17, 18, 19, 24, 25, 26, 27, 28, 29, 30, 31, 32, 33, 34, 35, 36, 37, 38, 39, 40, 41, 42, 43, 44, 45, 46, 47, 48, 49, 50, 51, 52, 53, 54, 55, 56, 57, 58, 59, 60, 61, 62, 63, 64, 65, 66, 67, 68, 69, 70, 71, 72] rfl (by decide +kernel)
set_option maxRecDepth 20000 in
theorem gX12_joins_X12_copies : GoodIn wsX12_joins (wsV RX12 314 RX12 yX12_copies wsX12_copies) := goodIn_app (goodIn_of _ (by decide +kernel)) ggX12_joins_X12_copies
theorem dX12_joins_0 : decode cX12_joins 0 = .ok (.iload_n 2, 1) := kd_r kbX12_joins ki_11 rfl
theorem dX12_joins_1 : decode cX12_joins 1 = .ok (.iconst 1, 1) := kd_r kbX12_joins ki_16 rfl
theorem dX12_joins_2 : decode cX12_joins 2 = .ok (.iadd, 1) := kd_r kbX12_joins ki_30 rfl
theorem dX12_joins_3 : decode cX12_joins 3 = .ok (.aload_n 0, 1) := kd_r kbX12_joins ki_0 rfl
theorem dX12_joins_4 : decode cX12_joins 4 = .ok (.getfield 9, 3) := kd_r kbX12_joins ki_13 rfl
theorem dX12_joins_7 : decode cX12_joins 7 = .ok (.iload_n 1, 1) := kd_r kbX12_joins ki_8 rfl
theorem dX12_joins_8 : decode cX12_joins 8 = .ok (.iaload, 1) := kd_r kbX12_joins ki_14 rfl
theorem dX12_joins_9 : decode cX12_joins 9 = .ok (.if_icmp .ge 24, 3) := kd_r kbX12_joins ki_966 rfl
theorem dX12_joins_12 : decode cX12_joins 12 = .ok (.aload_n 0, 1) := kd_r kbX12_joins ki_0 rfl
theorem dX12_joins_13 : decode cX12_joins 13 = .ok (.iload_n 1, 1) := kd_r kbX12_joins ki_8 rfl
theorem dX12_joins_14 : decode cX12_joins 14 = .ok (.iload_n 2, 1) := kd_r kbX12_joins ki_11 rfl
theorem dX12_joins_15 : decode cX12_joins 15 = .ok (.invokevirtual 113, 3) := kd_r kbX12_joins ki_754 rfl
theorem dX12_joins_18 : decode cX12_joins 18 = .ok (.aload_n 0, 1) := kd_r kbX12_joins ki_0 rfl
theorem dX12_joins_19 : decode cX12_joins 19 = .ok (.iload_n 1, 1) := kd_r kbX12_joins ki_8 rfl
theorem dX12_joins_20 : decode cX12_joins 20 = .ok (.iload_n 2, 1) := kd_r kbX12_joins ki_11 rfl
theorem dX12_joins_21 : decode cX12_joins 21 = .ok (.iconst 1, 1) := kd_r kbX12_joins ki_16 rfl
theorem dX12_joins_22 : decode cX12_joins 22 = .ok (.iadd, 1) := kd_r kbX12_joins ki_30 rfl
theorem dX12_joins_23 : decode cX12_joins 23 = .ok (.invokevirtual 113, 3) := kd_r kbX12_joins ki_754 rfl
theorem dX12_joins_26 : decode cX12_joins 26 = .ok (.iadd, 1) := kd_r kbX12_joins ki_30 rfl
theorem dX12_joins_27 : decode cX12_joins 27 = .ok (.sipush 999, 3) := kd_r kbX12_joins ki_404 rfl
theorem dX12_joins_30 : decode cX12_joins 30 = .ok (.if_icmp .le 4, 3) := kd_r kbX12_joins ki_441 rfl
theorem dX12_joins_33 : decode cX12_joins 33 = .ok (.return_, 1) := kd_r kbX12_joins ki_5 rfl
theorem dX12_joins_34 : decode cX12_joins 34 = .ok (.aload_n 0, 1) := kd_r kbX12_joins ki_0 rfl
theorem dX12_joins_35 : decode cX12_joins 35 = .ok (.iload_n 1, 1) := kd_r kbX12_joins ki_8 rfl
theorem dX12_joins_36 : decode cX12_joins 36 = .ok (.iload_n 2, 1) := kd_r kbX12_joins ki_11 rfl
theorem dX12_joins_37 : decode cX12_joins 37 = .ok (.aload_n 0, 1) := kd_r kbX12_joins ki_0 rfl
theorem dX12_joins_38 : decode cX12_joins 38 = .ok (.iload_n 1, 1) := kd_r kbX12_joins ki_8 rfl
theorem dX12_joins_39 : decode cX12_joins 39 = .ok (.iload_n 2, 1) := kd_r kbX12_joins ki_11 rfl
theorem dX12_joins_40 : decode cX12_joins 40 = .ok (.invokevirtual 113, 3) := kd_r kbX12_joins ki_754 rfl
theorem dX12_joins_43 : decode cX12_joins 43 = .ok (.aload_n 0, 1) := kd_r kbX12_joins ki_0 rfl
theorem dX12_joins_44 : decode cX12_joins 44 = .ok (.iload_n 1, 1) := kd_r kbX12_joins ki_8 rfl
theorem dX12_joins_45 : decode cX12_joins 45 = .ok (.iload_n 2, 1) := kd_r kbX12_joins ki_11 rfl
theorem dX12_joins_46 : decode cX12_joins 46 = .ok (.iconst 1, 1) := kd_r kbX12_joins ki_16 rfl
theorem dX12_joins_47 : decode cX12_joins 47 = .ok (.iadd, 1) := kd_r kbX12_joins ki_30 rfl
theorem dX12_joins_48 : decode cX12_joins 48 = .ok (.invokevirtual 113, 3) := kd_r kbX12_joins ki_754 rfl
theorem dX12_joins_51 : decode cX12_joins 51 = .ok (.iadd, 1) := kd_r kbX12_joins ki_30 rfl
theorem dX12_joins_52 : decode cX12_joins 52 = .ok (.aload_n 0, 1) := kd_r kbX12_joins ki_0 rfl
theorem dX12_joins_53 : decode cX12_joins 53 = .ok (.iload_n 1, 1) := kd_r kbX12_joins ki_8 rfl
theorem dX12_joins_54 : decode cX12_joins 54 = .ok (.iload_n 2, 1) := kd_r kbX12_joins ki_11 rfl
theorem dX12_joins_55 : decode cX12_joins 55 = .ok (.invokevirtual 164, 3) := kd_r kbX12_joins ki_796 rfl
theorem dX12_joins_58 : decode cX12_joins 58 = .ok (.aload_n 0, 1) := kd_r kbX12_joins ki_0 rfl
theorem dX12_joins_59 : decode cX12_joins 59 = .ok (.iload_n 1, 1) := kd_r kbX12_joins ki_8 rfl
theorem dX12_joins_60 : decode cX12_joins 60 = .ok (.iload_n 2, 1) := kd_r kbX12_joins ki_11 rfl
theorem dX12_joins_61 : decode cX12_joins 61 = .ok (.invokevirtual 117, 3) := kd_r kbX12_joins ki_755 rfl
theorem dX12_joins_64 : decode cX12_joins 64 = .ok (.invokevirtual 134, 3) := kd_r kbX12_joins ki_767 rfl
theorem dX12_joins_67 : decode cX12_joins 67 = .ok (.iload_n 2, 1) := kd_r kbX12_joins ki_11 rfl
theorem dX12_joins_68 : decode cX12_joins 68 = .ok (.iconst 1, 1) := kd_r kbX12_joins ki_16 rfl
theorem dX12_joins_69 : decode cX12_joins 69 = .ok (.iadd, 1) := kd_r kbX12_joins ki_30 rfl
theorem dX12_joins_70 : decode cX12_joins 70 = .ok (.istore_n 3, 1) := kd_r kbX12_joins ki_108 rfl
theorem dX12_joins_71 : decode cX12_joins 71 = .ok (.iload_n 3, 1) := kd_r kbX12_joins ki_55 rfl
theorem dX12_joins_72 : decode cX12_joins 72 = .ok (.iconst 1, 1) := kd_r kbX12_joins ki_16 rfl
theorem dX12_joins_73 : decode cX12_joins 73 = .ok (.iadd, 1) := kd_r kbX12_joins ki_30 rfl
theorem dX12_joins_74 : decode cX12_joins 74 = .ok (.aload_n 0, 1) := kd_r kbX12_joins ki_0 rfl
theorem dX12_joins_75 : decode cX12_joins 75 = .ok (.getfield 9, 3) := kd_r kbX12_joins ki_13 rfl
theorem dX12_joins_78 : decode cX12_joins 78 = .ok (.iload_n 1, 1) := kd_r kbX12_joins ki_8 rfl
theorem dX12_joins_79 : decode cX12_joins 79 = .ok (.iaload, 1) := kd_r kbX12_joins ki_14 rfl
theorem dX12_joins_80 : decode cX12_joins 80 = .ok (.if_icmp .ge 18, 3) := kd_r kbX12_joins ki_297 rfl
theorem dX12_joins_83 : decode cX12_joins 83 = .ok (.aload_n 0, 1) := kd_r kbX12_joins ki_0 rfl
theorem dX12_joins_84 : decode cX12_joins 84 = .ok (.iload_n 1, 1) := kd_r kbX12_joins ki_8 rfl
theorem dX12_joins_85 : decode cX12_joins 85 = .ok (.iload_n 3, 1) := kd_r kbX12_joins ki_55 rfl
theorem dX12_joins_86 : decode cX12_joins 86 = .ok (.iconst 1, 1) := kd_r kbX12_joins ki_16 rfl
theorem dX12_joins_87 : decode cX12_joins 87 = .ok (.iadd, 1) := kd_r kbX12_joins ki_30 rfl
theorem dX12_joins_88 : decode cX12_joins 88 = .ok (.iload_n 3, 1) := kd_r kbX12_joins ki_55 rfl
theorem dX12_joins_89 : decode cX12_joins 89 = .ok (.invokevirtual 314, 3) := kd_r kbX12_joins ki_967 rfl
theorem dX12_joins_92 : decode cX12_joins 92 = .ok (.iinc 3 1, 3) := kd_r kbX12_joins ki_116 rfl
theorem dX12_joins_95 : decode cX12_joins 95 = .ok (.goto (-24), 3) := kd_r kbX12_joins ki_968 rfl
theorem dX12_joins_98 : decode cX12_joins 98 = .ok (.aload_n 0, 1) := kd_r kbX12_joins ki_0 rfl
theorem dX12_joins_99 : decode cX12_joins 99 = .ok (.getfield 9, 3) := kd_r kbX12_joins ki_13 rfl
theorem dX12_joins_102 : decode cX12_joins 102 = .ok (.iload_n 1, 1) := kd_r kbX12_joins ki_8 rfl
theorem dX12_joins_103 : decode cX12_joins 103 = .ok (.dup2, 1) := kd_r kbX12_joins ki_25 rfl
theorem dX12_joins_104 : decode cX12_joins 104 = .ok (.iaload, 1) := kd_r kbX12_joins ki_14 rfl
theorem dX12_joins_105 : decode cX12_joins 105 = .ok (.iconst 1, 1) := kd_r kbX12_joins ki_16 rfl
theorem dX12_joins_106 : decode cX12_joins 106 = .ok (.isub, 1) := kd_r kbX12_joins ki_50 rfl
theorem dX12_joins_107 : decode cX12_joins 107 = .ok (.iastore, 1) := kd_r kbX12_joins ki_28 rfl
theorem dX12_joins_108 : decode cX12_joins 108 = .ok (.return_, 1) := kd_r kbX12_joins ki_5 rfl
set_option maxRecDepth 20000 in
theorem ggX12_parts_X12_width : GoodIn wsX12_parts wsX12_width := goodIn_r _ [6, 7, 24, 25, 26, 27, 28, 29, 30, 31, 32, 33, 34, 35, 36, 37, 38, 39, 40, 41, 42, 43, 44, 45, 46, 47, 48, 49, 50, 51, 52, 53, 54, 55, 56, 57, 58, 59, 60, 61, 62, 63, 64, 65, 66, 67, 68, 69, 70, 71, 72] rfl (by decide +kernel)
set_option maxRecDepth 20000 in
theorem gX12_parts_X12_width : GoodIn wsX12_parts (wsV RX12 113 RX12 yX12_width wsX12_width) := goodIn_app (goodIn_of _ (by decide +kernel)) ggX12_parts_X12_width
set_option maxRecDepth 20000 in
theorem ggX12_parts_X12_copies : GoodIn wsX12_parts wsX12_copies := goodIn_r _ [11, 2, 3, 4, 5, 6, 7, 12, 13, 14, 15, 16, 17, 18, 19, 20, 21, 22, 23, 24, 25, 26, 27, 28, 29, 30, 31, 32, 33, 34, 35, 36, 37, 38, 39, 40, 41, 42, 43, 44, 45, 46, 47, 48, 49, 50, 51, 52, 53, 54, 55, 56, 57, 58, 59, 60, 61, 62, 63, 64, 65, 66, 67, 68, 69, 70, 71, 72] rfl (by decide +kernel)
set_option maxRecDepth 20000 in
theorem gX12_parts_X12_copies : GoodIn wsX12_parts (wsV RX12 314 RX12 yX12_copies wsX12_copies) := goodIn_app (goodIn_of _ (by decide +kernel)) ggX12_parts_X12_copies
set_option maxRecDepth 20000 in
theorem ggX12_parts_X12_depth : GoodIn wsX12_parts wsX12_depth := goodIn_r _ [15, 7, 24, 25, 26, 27, 28, 29, 30, 31, 32, 33, 34, 35, 36, 37, 38, 39, 40, 41, 42, 43, 44, 45, 46, 47, 48, 49, 50, 51, 52, 53, 54, 55, 56, 57, 58, 59, 60, 61, 62, 63, 64, 65, 66, 67, 68, 69, 70, 71, 72] rfl (by decide +kernel)
set_option maxRecDepth 20000 in
theorem gX12_parts_X12_depth : GoodIn wsX12_parts (wsV RX12 164 RX12 yX12_depth wsX12_depth) := goodIn_app (goodIn_of _ (by decide +kernel)) ggX12_parts_X12_depth
set_option maxRecDepth 20000 in
theorem ggX12_parts_X12_aside : GoodIn wsX12_parts wsX12_aside := goodIn_r _ [19, 7, 24, 25, 26, 27, 28, 29, 30, 31, 32, 33, 34, 35, 36, 37, 38, 39, 40, 41, 42, 43, 44, 45, 46, 47, 48, 49, 50, 51, 52, 53, 54, 55, 56, 57, 58, 59, 60, 61, 62, 63, 64, 65, 66, 67, 68, 69, 70, 71, 72] rfl (by decide +kernel)
set_option maxRecDepth 20000 in
theorem gX12_parts_X12_aside : GoodIn wsX12_parts (wsV RX12 117 RX12 yX12_aside wsX12_aside) := goodIn_app (goodIn_of _ (by decide +kernel)) ggX12_parts_X12_aside
set_option maxRecDepth 20000 in
theorem ggX12_parts_X12_sets : GoodIn wsX12_parts wsX12_sets := goodIn_r _ [23, 7, 24, 25, 26, 27, 28, 29, 30, 31, 32, 33, 34, 35, 36, 37, 38, 39, 40, 41, 42, 43, 44, 45, 46, 47, 48, 49, 50, 51, 52, 53, 54, 55, 56, 57, 58, 59, 60, 61, 62, 63, 64, 65, 66, 67, 68, 69, 70, 71, 72] rfl (by decide +kernel)
set_option maxRecDepth 20000 in
theorem gX12_parts_X12_sets : GoodIn wsX12_parts (wsV RX12 134 RX12 yX12_sets wsX12_sets) := goodIn_app (goodIn_of _ (by decide +kernel)) ggX12_parts_X12_sets
theorem dX12_parts_0 : decode cX12_parts 0 = .ok (.aload_n 0, 1) := kd_r kbX12_parts ki_0 rfl
theorem dX12_parts_1 : decode cX12_parts 1 = .ok (.iload_n 1, 1) := kd_r kbX12_parts ki_8 rfl
theorem dX12_parts_2 : decode cX12_parts 2 = .ok (.iload_n 2, 1) := kd_r kbX12_parts ki_11 rfl
theorem dX12_parts_3 : decode cX12_parts 3 = .ok (.invokevirtual 113, 3) := kd_r kbX12_parts ki_754 rfl
theorem dX12_parts_6 : decode cX12_parts 6 = .ok (.iconst 2, 1) := kd_r kbX12_parts ki_244 rfl
theorem dX12_parts_7 : decode cX12_parts 7 = .ok (.if_icmp .lt 14, 3) := kd_r kbX12_parts ki_341 rfl
theorem dX12_parts_10 : decode cX12_parts 10 = .ok (.aload_n 0, 1) := kd_r kbX12_parts ki_0 rfl
theorem dX12_parts_11 : decode cX12_parts 11 = .ok (.getfield 9, 3) := kd_r kbX12_parts ki_13 rfl
theorem dX12_parts_14 : decode cX12_parts 14 = .ok (.iload_n 1, 1) := kd_r kbX12_parts ki_8 rfl
theorem dX12_parts_15 : decode cX12_parts 15 = .ok (.iaload, 1) := kd_r kbX12_parts ki_14 rfl
theorem dX12_parts_16 : decode cX12_parts 16 = .ok (.bipush 40, 2) := kd_r kbX12_parts ki_44 rfl
theorem dX12_parts_18 : decode cX12_parts 18 = .ok (.if_icmp .ne 4, 3) := kd_r kbX12_parts ki_969 rfl
theorem dX12_parts_21 : decode cX12_parts 21 = .ok (.return_, 1) := kd_r kbX12_parts ki_5 rfl
theorem dX12_parts_22 : decode cX12_parts 22 = .ok (.aload_n 0, 1) := kd_r kbX12_parts ki_0 rfl
theorem dX12_parts_23 : decode cX12_parts 23 = .ok (.getfield 9, 3) := kd_r kbX12_parts ki_13 rfl
theorem dX12_parts_26 : decode cX12_parts 26 = .ok (.iload_n 1, 1) := kd_r kbX12_parts ki_8 rfl
theorem dX12_parts_27 : decode cX12_parts 27 = .ok (.iaload, 1) := kd_r kbX12_parts ki_14 rfl
theorem dX12_parts_28 : decode cX12_parts 28 = .ok (.istore_n 3, 1) := kd_r kbX12_parts ki_108 rfl
theorem dX12_parts_29 : decode cX12_parts 29 = .ok (.iload_n 3, 1) := kd_r kbX12_parts ki_55 rfl
theorem dX12_parts_30 : decode cX12_parts 30 = .ok (.iload_n 2, 1) := kd_r kbX12_parts ki_11 rfl
theorem dX12_parts_31 : decode cX12_parts 31 = .ok (.iconst 1, 1) := kd_r kbX12_parts ki_16 rfl
theorem dX12_parts_32 : decode cX12_parts 32 = .ok (.iadd, 1) := kd_r kbX12_parts ki_30 rfl
theorem dX12_parts_33 : decode cX12_parts 33 = .ok (.if_icmp .le 18, 3) := kd_r kbX12_parts ki_970 rfl
theorem dX12_parts_36 : decode cX12_parts 36 = .ok (.aload_n 0, 1) := kd_r kbX12_parts ki_0 rfl
theorem dX12_parts_37 : decode cX12_parts 37 = .ok (.iload_n 1, 1) := kd_r kbX12_parts ki_8 rfl
theorem dX12_parts_38 : decode cX12_parts 38 = .ok (.iload_n 3, 1) := kd_r kbX12_parts ki_55 rfl
theorem dX12_parts_39 : decode cX12_parts 39 = .ok (.iconst 1, 1) := kd_r kbX12_parts ki_16 rfl
theorem dX12_parts_40 : decode cX12_parts 40 = .ok (.isub, 1) := kd_r kbX12_parts ki_50 rfl
theorem dX12_parts_41 : decode cX12_parts 41 = .ok (.iload_n 3, 1) := kd_r kbX12_parts ki_55 rfl
theorem dX12_parts_42 : decode cX12_parts 42 = .ok (.invokevirtual 314, 3) := kd_r kbX12_parts ki_967 rfl
theorem dX12_parts_45 : decode cX12_parts 45 = .ok (.iinc 3 (-1), 3) := kd_r kbX12_parts ki_337 rfl
theorem dX12_parts_48 : decode cX12_parts 48 = .ok (.goto (-19), 3) := kd_r kbX12_parts ki_148 rfl
theorem dX12_parts_51 : decode cX12_parts 51 = .ok (.aload_n 0, 1) := kd_r kbX12_parts ki_0 rfl
theorem dX12_parts_52 : decode cX12_parts 52 = .ok (.iload_n 1, 1) := kd_r kbX12_parts ki_8 rfl
theorem dX12_parts_53 : decode cX12_parts 53 = .ok (.iload_n 2, 1) := kd_r kbX12_parts ki_11 rfl
theorem dX12_parts_54 : decode cX12_parts 54 = .ok (.invokevirtual 113, 3) := kd_r kbX12_parts ki_754 rfl
theorem dX12_parts_57 : decode cX12_parts 57 = .ok (.istore_n 3, 1) := kd_r kbX12_parts ki_108 rfl
theorem dX12_parts_58 : decode cX12_parts 58 = .ok (.aload_n 0, 1) := kd_r kbX12_parts ki_0 rfl
theorem dX12_parts_59 : decode cX12_parts 59 = .ok (.iload_n 1, 1) := kd_r kbX12_parts ki_8 rfl
theorem dX12_parts_60 : decode cX12_parts 60 = .ok (.iload_n 2, 1) := kd_r kbX12_parts ki_11 rfl
theorem dX12_parts_61 : decode cX12_parts 61 = .ok (.iload_n 3, 1) := kd_r kbX12_parts ki_55 rfl
theorem dX12_parts_62 : decode cX12_parts 62 = .ok (.iconst 2, 1) := kd_r kbX12_parts ki_244 rfl
theorem dX12_parts_63 : decode cX12_parts 63 = .ok (.idiv, 1) := kd_r kbX12_parts ki_225 rfl
theorem dX12_parts_64 : decode cX12_parts 64 = .ok (.aload_n 0, 1) := kd_r kbX12_parts ki_0 rfl
theorem dX12_parts_65 : decode cX12_parts 65 = .ok (.iload_n 1, 1) := kd_r kbX12_parts ki_8 rfl
theorem dX12_parts_66 : decode cX12_parts 66 = .ok (.iload_n 2, 1) := kd_r kbX12_parts ki_11 rfl
theorem dX12_parts_67 : decode cX12_parts 67 = .ok (.invokevirtual 164, 3) := kd_r kbX12_parts ki_796 rfl
theorem dX12_parts_70 : decode cX12_parts 70 = .ok (.aload_n 0, 1) := kd_r kbX12_parts ki_0 rfl
theorem dX12_parts_71 : decode cX12_parts 71 = .ok (.iload_n 1, 1) := kd_r kbX12_parts ki_8 rfl
theorem dX12_parts_72 : decode cX12_parts 72 = .ok (.iload_n 2, 1) := kd_r kbX12_parts ki_11 rfl
theorem dX12_parts_73 : decode cX12_parts 73 = .ok (.invokevirtual 117, 3) := kd_r kbX12_parts ki_755 rfl
theorem dX12_parts_76 : decode cX12_parts 76 = .ok (.invokevirtual 134, 3) := kd_r kbX12_parts ki_767 rfl
theorem dX12_parts_79 : decode cX12_parts 79 = .ok (.aload_n 0, 1) := kd_r kbX12_parts ki_0 rfl
theorem dX12_parts_80 : decode cX12_parts 80 = .ok (.iload_n 1, 1) := kd_r kbX12_parts ki_8 rfl
theorem dX12_parts_81 : decode cX12_parts 81 = .ok (.iload_n 2, 1) := kd_r kbX12_parts ki_11 rfl
theorem dX12_parts_82 : decode cX12_parts 82 = .ok (.iconst 1, 1) := kd_r kbX12_parts ki_16 rfl
theorem dX12_parts_83 : decode cX12_parts 83 = .ok (.iadd, 1) := kd_r kbX12_parts ki_30 rfl
theorem dX12_parts_84 : decode cX12_parts 84 = .ok (.iload_n 3, 1) := kd_r kbX12_parts ki_55 rfl
theorem dX12_parts_85 : decode cX12_parts 85 = .ok (.iload_n 3, 1) := kd_r kbX12_parts ki_55 rfl
theorem dX12_parts_86 : decode cX12_parts 86 = .ok (.iconst 2, 1) := kd_r kbX12_parts ki_244 rfl
theorem dX12_parts_87 : decode cX12_parts 87 = .ok (.idiv, 1) := kd_r kbX12_parts ki_225 rfl
theorem dX12_parts_88 : decode cX12_parts 88 = .ok (.isub, 1) := kd_r kbX12_parts ki_50 rfl
theorem dX12_parts_89 : decode cX12_parts 89 = .ok (.aload_n 0, 1) := kd_r kbX12_parts ki_0 rfl
theorem dX12_parts_90 : decode cX12_parts 90 = .ok (.iload_n 1, 1) := kd_r kbX12_parts ki_8 rfl
theorem dX12_parts_91 : decode cX12_parts 91 = .ok (.iload_n 2, 1) := kd_r kbX12_parts ki_11 rfl
theorem dX12_parts_92 : decode cX12_parts 92 = .ok (.invokevirtual 164, 3) := kd_r kbX12_parts ki_796 rfl
theorem dX12_parts_95 : decode cX12_parts 95 = .ok (.iconst 0, 1) := kd_r kbX12_parts ki_20 rfl
theorem dX12_parts_96 : decode cX12_parts 96 = .ok (.invokevirtual 134, 3) := kd_r kbX12_parts ki_767 rfl
theorem dX12_parts_99 : decode cX12_parts 99 = .ok (.aload_n 0, 1) := kd_r kbX12_parts ki_0 rfl
theorem dX12_parts_100 : decode cX12_parts 100 = .ok (.getfield 9, 3) := kd_r kbX12_parts ki_13 rfl
theorem dX12_parts_103 : decode cX12_parts 103 = .ok (.iload_n 1, 1) := kd_r kbX12_parts ki_8 rfl
theorem dX12_parts_104 : decode cX12_parts 104 = .ok (.dup2, 1) := kd_r kbX12_parts ki_25 rfl
theorem dX12_parts_105 : decode cX12_parts 105 = .ok (.iaload, 1) := kd_r kbX12_parts ki_14 rfl
theorem dX12_parts_106 : decode cX12_parts 106 = .ok (.iconst 1, 1) := kd_r kbX12_parts ki_16 rfl
theorem dX12_parts_107 : decode cX12_parts 107 = .ok (.iadd, 1) := kd_r kbX12_parts ki_30 rfl
theorem dX12_parts_108 : decode cX12_parts 108 = .ok (.iastore, 1) := kd_r kbX12_parts ki_28 rfl
theorem dX12_parts_109 : decode cX12_parts 109 = .ok (.return_, 1) := kd_r kbX12_parts ki_5 rfl
set_option maxRecDepth 20000 in
theorem ggX12_lays_X12_sets : GoodIn wsX12_lays wsX12_sets := goodIn_r _ [9, 10, 85, 86, 87, 88, 89, 90, 91, 92, 93, 94, 95, 96, 97, 98, 99, 100, 101, 102, 103, 104, 105, 106, 107, 108, 109, 110, 111, 112, 113, 114, 115, 116, 117, 118, 119, 120, 121, 122, 123, 124, 125, 126, 127, 128, 129, 130, 131, 132, 133] rfl (by decide +kernel)
set_option maxRecDepth 20000 in
theorem gX12_lays_X12_sets : GoodIn wsX12_lays (wsV RX12 134 RX12 yX12_sets wsX12_sets) := goodIn_app (goodIn_of _ (by decide +kernel)) ggX12_lays_X12_sets
set_option maxRecDepth 20000 in
theorem ggX12_lays_X12_width : GoodIn wsX12_lays wsX12_width := goodIn_r _ [14, 10, 85, 86, 87, 88, 89, 90, 91, 92, 93, 94, 95, 96, 97, 98, 99, 100, 101, 102, 103, 104, 105, 106, 107, 108, 109, 110, 111, 112, 113, 114, 115, 116, 117, 118, 119, 120, 121, 122, 123, 124, 125, 126, 127, 128, 129, 130, 131, 132, 133] rfl (by decide +kernel)
set_option maxRecDepth 20000 in
theorem gX12_lays_X12_width : GoodIn wsX12_lays (wsV RX12 113 RX12 yX12_width wsX12_width) := goodIn_app (goodIn_of _ (by decide +kernel)) ggX12_lays_X12_width
set_option maxRecDepth 20000 in
theorem ggX12_lays_X12_depth : GoodIn wsX12_lays wsX12_depth := goodIn_r _ [18, 10, 85, 86, 87, 88, 89, 90, 91, 92, 93, 94, 95, 96, 97, 98, 99, 100, 101, 102, 103, 104, 105, 106, 107, 108, 109, 110, 111, 112, 113, 114, 115, 116, 117, 118, 119, 120, 121, 122, 123, 124, 125, 126, 127, 128, 129, 130, 131, 132, 133] rfl (by decide +kernel)
set_option maxRecDepth 20000 in
theorem gX12_lays_X12_depth : GoodIn wsX12_lays (wsV RX12 164 RX12 yX12_depth wsX12_depth) := goodIn_app (goodIn_of _ (by decide +kernel)) ggX12_lays_X12_depth
set_option maxRecDepth 20000 in
theorem ggX12_lays_X12_workOut : GoodIn wsX12_lays wsX12_workOut := goodIn_r _ [22, 23, 24, 25, 26, 27, 28, 29, 30, 8, 31, 32, 33, 34, 35, 36, 37, 38, 39, 40, 41, 42, 43, 44, 45, 46, 47, 48, 49, 50, 51, 52, 53, 3, 54, 55, 56, 57, 58, 59, 60, 61, 62, 63, 64, 65, 66, 67, 68, 85, 86, 87, 88, 89, 90, 91, 92, 93, 94, 95, 96, 97, 98, 99, 100, 101, 102, 103, 104, 105, 106, 107, 108, 109, 110, 111, 112, 113, 114, 115, 116, 117, 118, 119, 120, 121, 122, 123, 124, 125, 126, 127, 128, 129, 130, 131, 132, 133] rfl (by decide +kernel)
set_option maxRecDepth 20000 in
theorem gX12_lays_X12_workOut : GoodIn wsX12_lays (wsV RX12 311 RX12 yX12_workOut wsX12_workOut) := goodIn_app (goodIn_of _ (by decide +kernel)) ggX12_lays_X12_workOut
set_option maxRecDepth 20000 in
theorem ggX12_lays_X12_joins : GoodIn wsX12_lays wsX12_joins := goodIn_r _ [72, 1, 11, 12, 13, 8, 14, 10, 15, 16, 17, 18, 73, 74, 75, 76, 5, 6, 7, 9, 77, 78, 79, 80, 85, 86, 87, 88, 89, 90, 91, 92, 93, 94, 95, 96, 97, 98, 99, 100, 101, 102, 103, 104, 105, 106, 107, 108, 109, 110, 111, 112, 113, 114, 115, 116, 117, 118, 119, 120, 121, 122, 123, 124, 125, 126, 127, 128, 129, 130, 131, 132, 133] rfl (by decide +kernel)
set_option maxRecDepth 20000 in
theorem gX12_lays_X12_joins : GoodIn wsX12_lays (wsV RX12 317 RX12 yX12_joins wsX12_joins) := goodIn_app (goodIn_of _ (by decide +kernel)) ggX12_lays_X12_joins
set_option maxRecDepth 20000 in
theorem ggX12_lays_X12_parts : GoodIn wsX12_lays wsX12_parts := goodIn_r _ [84, 1, 11, 12, 13, 8, 14, 10, 77, 78, 79, 80, 15, 16, 17, 18, 73, 74, 75, 76, 5, 6, 7, 9, 85, 86, 87, 88, 89, 90, 91, 92, 93, 94, 95, 96, 97, 98, 99, 100, 101, 102, 103, 104, 105, 106, 107, 108, 109, 110, 111, 112, 113, 114, 115, 116, 117, 118, 119, 120, 121, 122, 123, 124, 125, 126, 127, 128, 129, 130, 131, 132, 133] rfl (by decide +kernel)
set_option maxRecDepth 20000 in
theorem gX12_lays_X12_parts : GoodIn wsX12_lays (wsV RX12 320 RX12 yX12_parts wsX12_parts) := goodIn_app (goodIn_of _ (by decide +kernel)) ggX12_lays_X12_parts
set_option maxRecDepth 20000 in
theorem ggX12_lays_X12_aside : GoodIn wsX12_lays wsX12_aside := goodIn_r _ [76, 10, 85, 86, 87, 88, 89, 90, 91, 92, 93, 94, 95, 96, 97, 98, 99, 100, 101, 102, 103, 104, 105, 106, 107, 108, 109, 110, 111, 112, 113, 114, 115, 116, 117, 118, 119, 120, 121, 122, 123, 124, 125, 126, 127, 128, 129, 130, 131, 132, 133] rfl (by decide +kernel)
set_option maxRecDepth 20000 in
theorem gX12_lays_X12_aside : GoodIn wsX12_lays (wsV RX12 117 RX12 yX12_aside wsX12_aside) := goodIn_app (goodIn_of _ (by decide +kernel)) ggX12_lays_X12_aside
theorem dX12_lays_0 : decode cX12_lays 0 = .ok (.aload_n 0, 1) := kd_r kbX12_lays ki_0 rfl
theorem dX12_lays_1 : decode cX12_lays 1 = .ok (.getfield 9, 3) := kd_r kbX12_lays ki_13 rfl
theorem dX12_lays_4 : decode cX12_lays 4 = .ok (.iload_n 1, 1) := kd_r kbX12_lays ki_8 rfl
theorem dX12_lays_5 : decode cX12_lays 5 = .ok (.iload_n 2, 1) := kd_r kbX12_lays ki_11 rfl
theorem dX12_lays_6 : decode cX12_lays 6 = .ok (.sipush 1000, 3) := kd_r kbX12_lays ki_188 rfl
theorem dX12_lays_9 : decode cX12_lays 9 = .ok (.idiv, 1) := kd_r kbX12_lays ki_225 rfl
theorem dX12_lays_10 : decode cX12_lays 10 = .ok (.iastore, 1) := kd_r kbX12_lays ki_28 rfl
theorem dX12_lays_11 : decode cX12_lays 11 = .ok (.iload_n 2, 1) := kd_r kbX12_lays ki_11 rfl
theorem dX12_lays_12 : decode cX12_lays 12 = .ok (.sipush 1000, 3) := kd_r kbX12_lays ki_188 rfl
theorem dX12_lays_15 : decode cX12_lays 15 = .ok (.irem, 1) := kd_r kbX12_lays ki_227 rfl
theorem dX12_lays_16 : decode cX12_lays 16 = .ok (.istore 6, 2) := kd_r kbX12_lays ki_199 rfl
theorem dX12_lays_18 : decode cX12_lays 18 = .ok (.iconst 0, 1) := kd_r kbX12_lays ki_20 rfl
theorem dX12_lays_19 : decode cX12_lays 19 = .ok (.istore 7, 2) := kd_r kbX12_lays ki_152 rfl
theorem dX12_lays_21 : decode cX12_lays 21 = .ok (.iload 7, 2) := kd_r kbX12_lays ki_153 rfl
theorem dX12_lays_23 : decode cX12_lays 23 = .ok (.aload_n 0, 1) := kd_r kbX12_lays ki_0 rfl
theorem dX12_lays_24 : decode cX12_lays 24 = .ok (.getfield 9, 3) := kd_r kbX12_lays ki_13 rfl
theorem dX12_lays_27 : decode cX12_lays 27 = .ok (.iload_n 1, 1) := kd_r kbX12_lays ki_8 rfl
theorem dX12_lays_28 : decode cX12_lays 28 = .ok (.iaload, 1) := kd_r kbX12_lays ki_14 rfl
theorem dX12_lays_29 : decode cX12_lays 29 = .ok (.if_icmp .ge 21, 3) := kd_r kbX12_lays ki_226 rfl
theorem dX12_lays_32 : decode cX12_lays 32 = .ok (.aload_n 0, 1) := kd_r kbX12_lays ki_0 rfl
theorem dX12_lays_33 : decode cX12_lays 33 = .ok (.iload_n 1, 1) := kd_r kbX12_lays ki_8 rfl
theorem dX12_lays_34 : decode cX12_lays 34 = .ok (.iload 7, 2) := kd_r kbX12_lays ki_153 rfl
theorem dX12_lays_36 : decode cX12_lays 36 = .ok (.iload 6, 2) := kd_r kbX12_lays ki_200 rfl
theorem dX12_lays_38 : decode cX12_lays 38 = .ok (.bipush 100, 2) := kd_r kbX12_lays ki_228 rfl
theorem dX12_lays_40 : decode cX12_lays 40 = .ok (.iconst 0, 1) := kd_r kbX12_lays ki_20 rfl
theorem dX12_lays_41 : decode cX12_lays 41 = .ok (.invokevirtual 134, 3) := kd_r kbX12_lays ki_767 rfl
theorem dX12_lays_44 : decode cX12_lays 44 = .ok (.iinc 7 1, 3) := kd_r kbX12_lays ki_164 rfl
theorem dX12_lays_47 : decode cX12_lays 47 = .ok (.goto (-26), 3) := kd_r kbX12_lays ki_541 rfl
theorem dX12_lays_50 : decode cX12_lays 50 = .ok (.iload 5, 2) := kd_r kbX12_lays ki_134 rfl
theorem dX12_lays_52 : decode cX12_lays 52 = .ok (.istore 7, 2) := kd_r kbX12_lays ki_152 rfl
theorem dX12_lays_54 : decode cX12_lays 54 = .ok (.iconst 0, 1) := kd_r kbX12_lays ki_20 rfl
theorem dX12_lays_55 : decode cX12_lays 55 = .ok (.istore 8, 2) := kd_r kbX12_lays ki_155 rfl
theorem dX12_lays_57 : decode cX12_lays 57 = .ok (.iload 8, 2) := kd_r kbX12_lays ki_156 rfl
theorem dX12_lays_59 : decode cX12_lays 59 = .ok (.iload 4, 2) := kd_r kbX12_lays ki_57 rfl
theorem dX12_lays_61 : decode cX12_lays 61 = .ok (.if_icmp .ge 268, 3) := kd_r kbX12_lays ki_971 rfl
theorem dX12_lays_64 : decode cX12_lays 64 = .ok (.iload 7, 2) := kd_r kbX12_lays ki_153 rfl
theorem dX12_lays_66 : decode cX12_lays 66 = .ok (.ldc 190, 2) := kd_r kbX12_lays ki_821 rfl
theorem dX12_lays_68 : decode cX12_lays 68 = .ok (.imul, 1) := kd_r kbX12_lays ki_114 rfl
theorem dX12_lays_69 : decode cX12_lays 69 = .ok (.sipush 12345, 3) := kd_r kbX12_lays ki_712 rfl
theorem dX12_lays_72 : decode cX12_lays 72 = .ok (.iadd, 1) := kd_r kbX12_lays ki_30 rfl
theorem dX12_lays_73 : decode cX12_lays 73 = .ok (.istore 7, 2) := kd_r kbX12_lays ki_152 rfl
theorem dX12_lays_75 : decode cX12_lays 75 = .ok (.iload 7, 2) := kd_r kbX12_lays ki_153 rfl
theorem dX12_lays_77 : decode cX12_lays 77 = .ok (.bipush 8, 2) := kd_r kbX12_lays ki_74 rfl
theorem dX12_lays_79 : decode cX12_lays 79 = .ok (.iushr, 1) := kd_r kbX12_lays ki_15 rfl
theorem dX12_lays_80 : decode cX12_lays 80 = .ok (.aload_n 0, 1) := kd_r kbX12_lays ki_0 rfl
theorem dX12_lays_81 : decode cX12_lays 81 = .ok (.getfield 9, 3) := kd_r kbX12_lays ki_13 rfl
theorem dX12_lays_84 : decode cX12_lays 84 = .ok (.iload_n 1, 1) := kd_r kbX12_lays ki_8 rfl
theorem dX12_lays_85 : decode cX12_lays 85 = .ok (.iaload, 1) := kd_r kbX12_lays ki_14 rfl
theorem dX12_lays_86 : decode cX12_lays 86 = .ok (.irem, 1) := kd_r kbX12_lays ki_227 rfl
theorem dX12_lays_87 : decode cX12_lays 87 = .ok (.istore 9, 2) := kd_r kbX12_lays ki_369 rfl
theorem dX12_lays_89 : decode cX12_lays 89 = .ok (.iload 7, 2) := kd_r kbX12_lays ki_153 rfl
theorem dX12_lays_91 : decode cX12_lays 91 = .ok (.ldc 190, 2) := kd_r kbX12_lays ki_821 rfl
theorem dX12_lays_93 : decode cX12_lays 93 = .ok (.imul, 1) := kd_r kbX12_lays ki_114 rfl
theorem dX12_lays_94 : decode cX12_lays 94 = .ok (.sipush 12345, 3) := kd_r kbX12_lays ki_712 rfl
theorem dX12_lays_97 : decode cX12_lays 97 = .ok (.iadd, 1) := kd_r kbX12_lays ki_30 rfl
theorem dX12_lays_98 : decode cX12_lays 98 = .ok (.istore 7, 2) := kd_r kbX12_lays ki_152 rfl
theorem dX12_lays_100 : decode cX12_lays 100 = .ok (.aload_n 0, 1) := kd_r kbX12_lays ki_0 rfl
theorem dX12_lays_101 : decode cX12_lays 101 = .ok (.getfield 77, 3) := kd_r kbX12_lays ki_953 rfl
theorem dX12_lays_104 : decode cX12_lays 104 = .ok (.iconst 0, 1) := kd_r kbX12_lays ki_20 rfl
theorem dX12_lays_105 : decode cX12_lays 105 = .ok (.aload_n 0, 1) := kd_r kbX12_lays ki_0 rfl
theorem dX12_lays_106 : decode cX12_lays 106 = .ok (.iload_n 1, 1) := kd_r kbX12_lays ki_8 rfl
theorem dX12_lays_107 : decode cX12_lays 107 = .ok (.iload 9, 2) := kd_r kbX12_lays ki_370 rfl
theorem dX12_lays_109 : decode cX12_lays 109 = .ok (.invokevirtual 113, 3) := kd_r kbX12_lays ki_754 rfl
theorem dX12_lays_112 : decode cX12_lays 112 = .ok (.iastore, 1) := kd_r kbX12_lays ki_28 rfl
theorem dX12_lays_113 : decode cX12_lays 113 = .ok (.aload_n 0, 1) := kd_r kbX12_lays ki_0 rfl
theorem dX12_lays_114 : decode cX12_lays 114 = .ok (.getfield 77, 3) := kd_r kbX12_lays ki_953 rfl
theorem dX12_lays_117 : decode cX12_lays 117 = .ok (.iconst 1, 1) := kd_r kbX12_lays ki_16 rfl
theorem dX12_lays_118 : decode cX12_lays 118 = .ok (.iload 9, 2) := kd_r kbX12_lays ki_370 rfl
theorem dX12_lays_120 : decode cX12_lays 120 = .ok (.iconst 1, 1) := kd_r kbX12_lays ki_16 rfl
theorem dX12_lays_121 : decode cX12_lays 121 = .ok (.iadd, 1) := kd_r kbX12_lays ki_30 rfl
theorem dX12_lays_122 : decode cX12_lays 122 = .ok (.aload_n 0, 1) := kd_r kbX12_lays ki_0 rfl
theorem dX12_lays_123 : decode cX12_lays 123 = .ok (.getfield 9, 3) := kd_r kbX12_lays ki_13 rfl
theorem dX12_lays_126 : decode cX12_lays 126 = .ok (.iload_n 1, 1) := kd_r kbX12_lays ki_8 rfl
theorem dX12_lays_127 : decode cX12_lays 127 = .ok (.iaload, 1) := kd_r kbX12_lays ki_14 rfl
theorem dX12_lays_128 : decode cX12_lays 128 = .ok (.if_icmp .ge 15, 3) := kd_r kbX12_lays ki_210 rfl
theorem dX12_lays_131 : decode cX12_lays 131 = .ok (.aload_n 0, 1) := kd_r kbX12_lays ki_0 rfl
theorem dX12_lays_132 : decode cX12_lays 132 = .ok (.iload_n 1, 1) := kd_r kbX12_lays ki_8 rfl
theorem dX12_lays_133 : decode cX12_lays 133 = .ok (.iload 9, 2) := kd_r kbX12_lays ki_370 rfl
theorem dX12_lays_135 : decode cX12_lays 135 = .ok (.iconst 1, 1) := kd_r kbX12_lays ki_16 rfl
theorem dX12_lays_136 : decode cX12_lays 136 = .ok (.iadd, 1) := kd_r kbX12_lays ki_30 rfl
theorem dX12_lays_137 : decode cX12_lays 137 = .ok (.invokevirtual 113, 3) := kd_r kbX12_lays ki_754 rfl
theorem dX12_lays_140 : decode cX12_lays 140 = .ok (.goto 4, 3) := kd_r kbX12_lays ki_19 rfl
theorem dX12_lays_143 : decode cX12_lays 143 = .ok (.iconst 0, 1) := kd_r kbX12_lays ki_20 rfl
theorem dX12_lays_144 : decode cX12_lays 144 = .ok (.iastore, 1) := kd_r kbX12_lays ki_28 rfl
theorem dX12_lays_145 : decode cX12_lays 145 = .ok (.aload_n 0, 1) := kd_r kbX12_lays ki_0 rfl
theorem dX12_lays_146 : decode cX12_lays 146 = .ok (.getfield 77, 3) := kd_r kbX12_lays ki_953 rfl
theorem dX12_lays_149 : decode cX12_lays 149 = .ok (.iconst 2, 1) := kd_r kbX12_lays ki_244 rfl
theorem dX12_lays_150 : decode cX12_lays 150 = .ok (.aload_n 0, 1) := kd_r kbX12_lays ki_0 rfl
theorem dX12_lays_151 : decode cX12_lays 151 = .ok (.iload_n 1, 1) := kd_r kbX12_lays ki_8 rfl
theorem dX12_lays_152 : decode cX12_lays 152 = .ok (.iload 9, 2) := kd_r kbX12_lays ki_370 rfl
theorem dX12_lays_154 : decode cX12_lays 154 = .ok (.invokevirtual 164, 3) := kd_r kbX12_lays ki_796 rfl
theorem dX12_lays_157 : decode cX12_lays 157 = .ok (.iastore, 1) := kd_r kbX12_lays ki_28 rfl
theorem dX12_lays_158 : decode cX12_lays 158 = .ok (.aload_n 0, 1) := kd_r kbX12_lays ki_0 rfl
theorem dX12_lays_159 : decode cX12_lays 159 = .ok (.getfield 77, 3) := kd_r kbX12_lays ki_953 rfl
theorem dX12_lays_162 : decode cX12_lays 162 = .ok (.iconst 3, 1) := kd_r kbX12_lays ki_246 rfl
theorem dX12_lays_163 : decode cX12_lays 163 = .ok (.iload 8, 2) := kd_r kbX12_lays ki_156 rfl
theorem dX12_lays_165 : decode cX12_lays 165 = .ok (.iastore, 1) := kd_r kbX12_lays ki_28 rfl
theorem dX12_lays_166 : decode cX12_lays 166 = .ok (.aload_n 0, 1) := kd_r kbX12_lays ki_0 rfl
theorem dX12_lays_167 : decode cX12_lays 167 = .ok (.getfield 77, 3) := kd_r kbX12_lays ki_953 rfl
theorem dX12_lays_170 : decode cX12_lays 170 = .ok (.iconst 4, 1) := kd_r kbX12_lays ki_247 rfl
theorem dX12_lays_171 : decode cX12_lays 171 = .ok (.iload 7, 2) := kd_r kbX12_lays ki_153 rfl
theorem dX12_lays_173 : decode cX12_lays 173 = .ok (.bipush 8, 2) := kd_r kbX12_lays ki_74 rfl
theorem dX12_lays_175 : decode cX12_lays 175 = .ok (.iushr, 1) := kd_r kbX12_lays ki_15 rfl
theorem dX12_lays_176 : decode cX12_lays 176 = .ok (.bipush 100, 2) := kd_r kbX12_lays ki_228 rfl
theorem dX12_lays_178 : decode cX12_lays 178 = .ok (.irem, 1) := kd_r kbX12_lays ki_227 rfl
theorem dX12_lays_179 : decode cX12_lays 179 = .ok (.iastore, 1) := kd_r kbX12_lays ki_28 rfl
theorem dX12_lays_180 : decode cX12_lays 180 = .ok (.aload_n 0, 1) := kd_r kbX12_lays ki_0 rfl
theorem dX12_lays_181 : decode cX12_lays 181 = .ok (.getfield 77, 3) := kd_r kbX12_lays ki_953 rfl
theorem dX12_lays_184 : decode cX12_lays 184 = .ok (.iconst 5, 1) := kd_r kbX12_lays ki_79 rfl
theorem dX12_lays_185 : decode cX12_lays 185 = .ok (.aload_n 0, 1) := kd_r kbX12_lays ki_0 rfl
theorem dX12_lays_186 : decode cX12_lays 186 = .ok (.iload_n 1, 1) := kd_r kbX12_lays ki_8 rfl
theorem dX12_lays_187 : decode cX12_lays 187 = .ok (.iload 9, 2) := kd_r kbX12_lays ki_370 rfl
theorem dX12_lays_189 : decode cX12_lays 189 = .ok (.invokevirtual 113, 3) := kd_r kbX12_lays ki_754 rfl
theorem dX12_lays_192 : decode cX12_lays 192 = .ok (.iload 6, 2) := kd_r kbX12_lays ki_200 rfl
theorem dX12_lays_194 : decode cX12_lays 194 = .ok (.idiv, 1) := kd_r kbX12_lays ki_225 rfl
theorem dX12_lays_195 : decode cX12_lays 195 = .ok (.iastore, 1) := kd_r kbX12_lays ki_28 rfl
theorem dX12_lays_196 : decode cX12_lays 196 = .ok (.aload_n 0, 1) := kd_r kbX12_lays ki_0 rfl
theorem dX12_lays_197 : decode cX12_lays 197 = .ok (.getfield 77, 3) := kd_r kbX12_lays ki_953 rfl
theorem dX12_lays_200 : decode cX12_lays 200 = .ok (.bipush 6, 2) := kd_r kbX12_lays ki_2 rfl
theorem dX12_lays_202 : decode cX12_lays 202 = .ok (.iload 9, 2) := kd_r kbX12_lays ki_370 rfl
theorem dX12_lays_204 : decode cX12_lays 204 = .ok (.iastore, 1) := kd_r kbX12_lays ki_28 rfl
theorem dX12_lays_205 : decode cX12_lays 205 = .ok (.aload_n 0, 1) := kd_r kbX12_lays ki_0 rfl
theorem dX12_lays_206 : decode cX12_lays 206 = .ok (.getfield 77, 3) := kd_r kbX12_lays ki_953 rfl
theorem dX12_lays_209 : decode cX12_lays 209 = .ok (.bipush 7, 2) := kd_r kbX12_lays ki_249 rfl
theorem dX12_lays_211 : decode cX12_lays 211 = .ok (.aload_n 0, 1) := kd_r kbX12_lays ki_0 rfl
theorem dX12_lays_212 : decode cX12_lays 212 = .ok (.getfield 9, 3) := kd_r kbX12_lays ki_13 rfl
theorem dX12_lays_215 : decode cX12_lays 215 = .ok (.iload_n 1, 1) := kd_r kbX12_lays ki_8 rfl
theorem dX12_lays_216 : decode cX12_lays 216 = .ok (.iaload, 1) := kd_r kbX12_lays ki_14 rfl
theorem dX12_lays_217 : decode cX12_lays 217 = .ok (.iastore, 1) := kd_r kbX12_lays ki_28 rfl
theorem dX12_lays_218 : decode cX12_lays 218 = .ok (.aload_n 0, 1) := kd_r kbX12_lays ki_0 rfl
theorem dX12_lays_219 : decode cX12_lays 219 = .ok (.bipush 120, 2) := kd_r kbX12_lays ki_446 rfl
theorem dX12_lays_221 : decode cX12_lays 221 = .ok (.iload_n 3, 1) := kd_r kbX12_lays ki_55 rfl
theorem dX12_lays_222 : decode cX12_lays 222 = .ok (.imul, 1) := kd_r kbX12_lays ki_114 rfl
theorem dX12_lays_223 : decode cX12_lays 223 = .ok (.aload_n 0, 1) := kd_r kbX12_lays ki_0 rfl
theorem dX12_lays_224 : decode cX12_lays 224 = .ok (.getfield 74, 3) := kd_r kbX12_lays ki_964 rfl
theorem dX12_lays_227 : decode cX12_lays 227 = .ok (.iload_n 3, 1) := kd_r kbX12_lays ki_55 rfl
theorem dX12_lays_228 : decode cX12_lays 228 = .ok (.iaload, 1) := kd_r kbX12_lays ki_14 rfl
theorem dX12_lays_229 : decode cX12_lays 229 = .ok (.invokevirtual 311, 3) := kd_r kbX12_lays ki_672 rfl
theorem dX12_lays_232 : decode cX12_lays 232 = .ok (.istore 10, 2) := kd_r kbX12_lays ki_372 rfl
theorem dX12_lays_234 : decode cX12_lays 234 = .ok (.iload 10, 2) := kd_r kbX12_lays ki_373 rfl
theorem dX12_lays_236 : decode cX12_lays 236 = .ok (.iconst 1, 1) := kd_r kbX12_lays ki_16 rfl
theorem dX12_lays_237 : decode cX12_lays 237 = .ok (.if_icmp .ne 13, 3) := kd_r kbX12_lays ki_477 rfl
theorem dX12_lays_240 : decode cX12_lays 240 = .ok (.aload_n 0, 1) := kd_r kbX12_lays ki_0 rfl
theorem dX12_lays_241 : decode cX12_lays 241 = .ok (.iload_n 1, 1) := kd_r kbX12_lays ki_8 rfl
theorem dX12_lays_242 : decode cX12_lays 242 = .ok (.iload 9, 2) := kd_r kbX12_lays ki_370 rfl
theorem dX12_lays_244 : decode cX12_lays 244 = .ok (.invokevirtual 317, 3) := kd_r kbX12_lays ki_675 rfl
theorem dX12_lays_247 : decode cX12_lays 247 = .ok (.goto 76, 3) := kd_r kbX12_lays ki_972 rfl
theorem dX12_lays_250 : decode cX12_lays 250 = .ok (.iload 10, 2) := kd_r kbX12_lays ki_373 rfl
theorem dX12_lays_252 : decode cX12_lays 252 = .ok (.iconst 2, 1) := kd_r kbX12_lays ki_244 rfl
theorem dX12_lays_253 : decode cX12_lays 253 = .ok (.if_icmp .ne 13, 3) := kd_r kbX12_lays ki_477 rfl
theorem dX12_lays_256 : decode cX12_lays 256 = .ok (.aload_n 0, 1) := kd_r kbX12_lays ki_0 rfl
theorem dX12_lays_257 : decode cX12_lays 257 = .ok (.iload_n 1, 1) := kd_r kbX12_lays ki_8 rfl
theorem dX12_lays_258 : decode cX12_lays 258 = .ok (.iload 9, 2) := kd_r kbX12_lays ki_370 rfl
theorem dX12_lays_260 : decode cX12_lays 260 = .ok (.invokevirtual 320, 3) := kd_r kbX12_lays ki_677 rfl
theorem dX12_lays_263 : decode cX12_lays 263 = .ok (.goto 60, 3) := kd_r kbX12_lays ki_973 rfl
theorem dX12_lays_266 : decode cX12_lays 266 = .ok (.iload 10, 2) := kd_r kbX12_lays ki_373 rfl
theorem dX12_lays_268 : decode cX12_lays 268 = .ok (.iconst 3, 1) := kd_r kbX12_lays ki_246 rfl
theorem dX12_lays_269 : decode cX12_lays 269 = .ok (.if_icmp .ne 54, 3) := kd_r kbX12_lays ki_974 rfl
theorem dX12_lays_272 : decode cX12_lays 272 = .ok (.iload 9, 2) := kd_r kbX12_lays ki_370 rfl
theorem dX12_lays_274 : decode cX12_lays 274 = .ok (.ifCond .le 49, 3) := kd_r kbX12_lays ki_975 rfl
theorem dX12_lays_277 : decode cX12_lays 277 = .ok (.aload_n 0, 1) := kd_r kbX12_lays ki_0 rfl
theorem dX12_lays_278 : decode cX12_lays 278 = .ok (.iload_n 1, 1) := kd_r kbX12_lays ki_8 rfl
theorem dX12_lays_279 : decode cX12_lays 279 = .ok (.iload 9, 2) := kd_r kbX12_lays ki_370 rfl
theorem dX12_lays_281 : decode cX12_lays 281 = .ok (.invokevirtual 117, 3) := kd_r kbX12_lays ki_755 rfl
theorem dX12_lays_284 : decode cX12_lays 284 = .ok (.iconst 5, 1) := kd_r kbX12_lays ki_79 rfl
theorem dX12_lays_285 : decode cX12_lays 285 = .ok (.iadd, 1) := kd_r kbX12_lays ki_30 rfl
theorem dX12_lays_286 : decode cX12_lays 286 = .ok (.istore 11, 2) := kd_r kbX12_lays ki_818 rfl
theorem dX12_lays_288 : decode cX12_lays 288 = .ok (.aload_n 0, 1) := kd_r kbX12_lays ki_0 rfl
theorem dX12_lays_289 : decode cX12_lays 289 = .ok (.iload_n 1, 1) := kd_r kbX12_lays ki_8 rfl
theorem dX12_lays_290 : decode cX12_lays 290 = .ok (.iload 9, 2) := kd_r kbX12_lays ki_370 rfl
theorem dX12_lays_292 : decode cX12_lays 292 = .ok (.aload_n 0, 1) := kd_r kbX12_lays ki_0 rfl
theorem dX12_lays_293 : decode cX12_lays 293 = .ok (.iload_n 1, 1) := kd_r kbX12_lays ki_8 rfl
theorem dX12_lays_294 : decode cX12_lays 294 = .ok (.iload 9, 2) := kd_r kbX12_lays ki_370 rfl
theorem dX12_lays_296 : decode cX12_lays 296 = .ok (.invokevirtual 113, 3) := kd_r kbX12_lays ki_754 rfl
theorem dX12_lays_299 : decode cX12_lays 299 = .ok (.aload_n 0, 1) := kd_r kbX12_lays ki_0 rfl
theorem dX12_lays_300 : decode cX12_lays 300 = .ok (.iload_n 1, 1) := kd_r kbX12_lays ki_8 rfl
theorem dX12_lays_301 : decode cX12_lays 301 = .ok (.iload 9, 2) := kd_r kbX12_lays ki_370 rfl
theorem dX12_lays_303 : decode cX12_lays 303 = .ok (.invokevirtual 164, 3) := kd_r kbX12_lays ki_796 rfl
theorem dX12_lays_306 : decode cX12_lays 306 = .ok (.iload 11, 2) := kd_r kbX12_lays ki_819 rfl
theorem dX12_lays_308 : decode cX12_lays 308 = .ok (.bipush 99, 2) := kd_r kbX12_lays ki_411 rfl
theorem dX12_lays_310 : decode cX12_lays 310 = .ok (.if_icmp .le 8, 3) := kd_r kbX12_lays ki_976 rfl
theorem dX12_lays_313 : decode cX12_lays 313 = .ok (.bipush 99, 2) := kd_r kbX12_lays ki_411 rfl
theorem dX12_lays_315 : decode cX12_lays 315 = .ok (.goto 5, 3) := kd_r kbX12_lays ki_342 rfl
theorem dX12_lays_318 : decode cX12_lays 318 = .ok (.iload 11, 2) := kd_r kbX12_lays ki_819 rfl
theorem dX12_lays_320 : decode cX12_lays 320 = .ok (.invokevirtual 134, 3) := kd_r kbX12_lays ki_767 rfl
theorem dX12_lays_323 : decode cX12_lays 323 = .ok (.iinc 8 1, 3) := kd_r kbX12_lays ki_162 rfl
theorem dX12_lays_326 : decode cX12_lays 326 = .ok (.goto (-269), 3) := kd_r kbX12_lays ki_977 rfl
theorem dX12_lays_329 : decode cX12_lays 329 = .ok (.return_, 1) := kd_r kbX12_lays ki_5 rfl
set_option maxRecDepth 20000 in
theorem ggX12_isNw_X12_within : GoodIn wsX12_isNw wsX12_within := goodIn_r _ [6] rfl (by decide +kernel)
set_option maxRecDepth 20000 in
theorem gX12_isNw_X12_within : GoodIn wsX12_isNw (va_wsS RX12 109 yX12_within wsX12_within) := goodIn_app (goodIn_of _ (by decide +kernel)) ggX12_isNw_X12_within
theorem dX12_isNw_0 : decode cX12_isNw 0 = .ok (.iload_n 0, 1) := kd_r kbX12_isNw ki_40 rfl
theorem dX12_isNw_1 : decode cX12_isNw 1 = .ok (.ifCond .lt 33, 3) := kd_r kbX12_isNw ki_978 rfl
theorem dX12_isNw_4 : decode cX12_isNw 4 = .ok (.iload_n 0, 1) := kd_r kbX12_isNw ki_40 rfl
theorem dX12_isNw_5 : decode cX12_isNw 5 = .ok (.sipush 1000, 3) := kd_r kbX12_isNw ki_188 rfl
theorem dX12_isNw_8 : decode cX12_isNw 8 = .ok (.idiv, 1) := kd_r kbX12_isNw ki_225 rfl
theorem dX12_isNw_9 : decode cX12_isNw 9 = .ok (.i2l, 1) := kd_r kbX12_isNw ki_399 rfl
theorem dX12_isNw_10 : decode cX12_isNw 10 = .ok (.ldc2_w 147, 3) := kd_r kbX12_isNw ki_785 rfl
theorem dX12_isNw_13 : decode cX12_isNw 13 = .ok (.ldc2_w 239, 3) := kd_r kbX12_isNw ki_903 rfl
theorem dX12_isNw_16 : decode cX12_isNw 16 = .ok (.invokestatic 109, 3) := kd_r kbX12_isNw ki_751 rfl
theorem dX12_isNw_19 : decode cX12_isNw 19 = .ok (.ifCond .eq 15, 3) := kd_r kbX12_isNw ki_641 rfl
theorem dX12_isNw_22 : decode cX12_isNw 22 = .ok (.iload_n 0, 1) := kd_r kbX12_isNw ki_40 rfl
theorem dX12_isNw_23 : decode cX12_isNw 23 = .ok (.sipush 1000, 3) := kd_r kbX12_isNw ki_188 rfl
theorem dX12_isNw_26 : decode cX12_isNw 26 = .ok (.irem, 1) := kd_r kbX12_isNw ki_227 rfl
theorem dX12_isNw_27 : decode cX12_isNw 27 = .ok (.ifCond .le 7, 3) := kd_r kbX12_isNw ki_710 rfl
theorem dX12_isNw_30 : decode cX12_isNw 30 = .ok (.iconst 1, 1) := kd_r kbX12_isNw ki_16 rfl
theorem dX12_isNw_31 : decode cX12_isNw 31 = .ok (.goto 4, 3) := kd_r kbX12_isNw ki_19 rfl
theorem dX12_isNw_34 : decode cX12_isNw 34 = .ok (.iconst 0, 1) := kd_r kbX12_isNw ki_20 rfl
theorem dX12_isNw_35 : decode cX12_isNw 35 = .ok (.ireturn, 1) := kd_r kbX12_isNw ki_7 rfl
set_option maxRecDepth 20000 in
theorem ggX12_town_X12_isNw : GoodIn wsX12_town wsX12_isNw := goodIn_r _ [5, 6, 7, 8, 9, 4, 10] rfl (by decide +kernel)
set_option maxRecDepth 20000 in
theorem gX12_town_X12_isNw : GoodIn wsX12_town (va_wsS RX12 323 yX12_isNw wsX12_isNw) := goodIn_app (goodIn_of _ (by decide +kernel)) ggX12_town_X12_isNw
set_option maxRecDepth 20000 in
theorem ggX12_town_X12_isLaw : GoodIn wsX12_town wsX12_isLaw := goodIn_r _ [14, 15, 8, 9, 4, 10, 103, 104, 105, 106, 107, 108, 109, 110, 111, 112, 113, 114, 115, 116, 117, 118, 119, 120, 121, 122, 123, 124, 125, 126, 127, 128, 129, 130, 131, 132, 133, 134, 135, 136, 137, 138, 139, 140, 141, 142, 143, 144, 145, 146, 147, 148, 149, 150, 151] rfl (by decide +kernel)
set_option maxRecDepth 20000 in
theorem gX12_town_X12_isLaw : GoodIn wsX12_town (wsV RX12 326 RX12 yX12_isLaw wsX12_isLaw) := goodIn_app (goodIn_of _ (by decide +kernel)) ggX12_town_X12_isLaw
set_option maxRecDepth 20000 in
theorem ggX12_town_X12_lays : GoodIn wsX12_town wsX12_lays := goodIn_r _ [19, 20, 21, 22, 23, 24, 25, 26, 4, 27, 28, 29, 30, 31, 32, 33, 34, 35, 36, 37, 38, 39, 40, 41, 42, 43, 44, 45, 46, 47, 48, 49, 50, 51, 52, 53, 54, 55, 56, 57, 58, 59, 60, 61, 62, 63, 64, 65, 66, 67, 68, 69, 70, 71, 72, 73, 74, 75, 76, 77, 78, 79, 80, 81, 82, 83, 84, 85, 86, 87, 88, 89, 90, 91, 92, 93, 94, 95, 96, 97, 98, 99, 100, 101, 102, 103, 104, 105, 106, 107, 108, 109, 110, 111, 112, 113, 114, 115, 116, 117, 118, 119, 120, 121, 122, 123, 124, 125, 126, 127, 128, 129, 130, 131, 132, 133, 134, 135, 136, 137, 138, 139, 140, 141, 142, 143, 144, 145, 146, 147, 148, 149, 150, 151] rfl (by decide +kernel)
set_option maxRecDepth 20000 in
theorem gX12_town_X12_lays : GoodIn wsX12_town (wsV RX12 329 RX12 yX12_lays wsX12_lays) := goodIn_app (goodIn_of _ (by decide +kernel)) ggX12_town_X12_lays
theorem dX12_town_0 : decode cX12_town 0 = .ok (.iload_n 1, 1) := kd_r kbX12_town ki_8 rfl
theorem dX12_town_1 : decode cX12_town 1 = .ok (.invokestatic 323, 3) := kd_r kbX12_town ki_979 rfl
theorem dX12_town_4 : decode cX12_town 4 = .ok (.ifCond .eq 27, 3) := kd_r kbX12_town ki_10 rfl
theorem dX12_town_7 : decode cX12_town 7 = .ok (.iload_n 2, 1) := kd_r kbX12_town ki_11 rfl
theorem dX12_town_8 : decode cX12_town 8 = .ok (.ifCond .lt 23, 3) := kd_r kbX12_town ki_473 rfl
theorem dX12_town_11 : decode cX12_town 11 = .ok (.aload_n 0, 1) := kd_r kbX12_town ki_0 rfl
theorem dX12_town_12 : decode cX12_town 12 = .ok (.iload_n 2, 1) := kd_r kbX12_town ki_11 rfl
theorem dX12_town_13 : decode cX12_town 13 = .ok (.bipush 100, 2) := kd_r kbX12_town ki_228 rfl
theorem dX12_town_15 : decode cX12_town 15 = .ok (.idiv, 1) := kd_r kbX12_town ki_225 rfl
theorem dX12_town_16 : decode cX12_town 16 = .ok (.invokevirtual 326, 3) := kd_r kbX12_town ki_680 rfl
theorem dX12_town_19 : decode cX12_town 19 = .ok (.ifCond .eq 12, 3) := kd_r kbX12_town ki_122 rfl
theorem dX12_town_22 : decode cX12_town 22 = .ok (.iload_n 2, 1) := kd_r kbX12_town ki_11 rfl
theorem dX12_town_23 : decode cX12_town 23 = .ok (.bipush 100, 2) := kd_r kbX12_town ki_228 rfl
theorem dX12_town_25 : decode cX12_town 25 = .ok (.irem, 1) := kd_r kbX12_town ki_227 rfl
theorem dX12_town_26 : decode cX12_town 26 = .ok (.bipush 60, 2) := kd_r kbX12_town ki_384 rfl
theorem dX12_town_28 : decode cX12_town 28 = .ok (.if_icmp .le 5, 3) := kd_r kbX12_town ki_106 rfl
theorem dX12_town_31 : decode cX12_town 31 = .ok (.iconst (-1), 1) := kd_r kbX12_town ki_99 rfl
theorem dX12_town_32 : decode cX12_town 32 = .ok (.ireturn, 1) := kd_r kbX12_town ki_7 rfl
theorem dX12_town_33 : decode cX12_town 33 = .ok (.aload_n 0, 1) := kd_r kbX12_town ki_0 rfl
theorem dX12_town_34 : decode cX12_town 34 = .ok (.getfield 106, 3) := kd_r kbX12_town ki_750 rfl
theorem dX12_town_37 : decode cX12_town 37 = .ok (.bipush 6, 2) := kd_r kbX12_town ki_2 rfl
theorem dX12_town_39 : decode cX12_town 39 = .ok (.if_icmp .ne 6, 3) := kd_r kbX12_town ki_604 rfl
theorem dX12_town_42 : decode cX12_town 42 = .ok (.bipush (-3), 2) := kd_r kbX12_town ki_293 rfl
theorem dX12_town_44 : decode cX12_town 44 = .ok (.ireturn, 1) := kd_r kbX12_town ki_7 rfl
theorem dX12_town_45 : decode cX12_town 45 = .ok (.aload_n 0, 1) := kd_r kbX12_town ki_0 rfl
theorem dX12_town_46 : decode cX12_town 46 = .ok (.aload_n 0, 1) := kd_r kbX12_town ki_0 rfl
theorem dX12_town_47 : decode cX12_town 47 = .ok (.getfield 106, 3) := kd_r kbX12_town ki_750 rfl
theorem dX12_town_50 : decode cX12_town 50 = .ok (.iload_n 1, 1) := kd_r kbX12_town ki_8 rfl
theorem dX12_town_51 : decode cX12_town 51 = .ok (.iload_n 2, 1) := kd_r kbX12_town ki_11 rfl
theorem dX12_town_52 : decode cX12_town 52 = .ok (.bipush 100, 2) := kd_r kbX12_town ki_228 rfl
theorem dX12_town_54 : decode cX12_town 54 = .ok (.idiv, 1) := kd_r kbX12_town ki_225 rfl
theorem dX12_town_55 : decode cX12_town 55 = .ok (.iload_n 2, 1) := kd_r kbX12_town ki_11 rfl
theorem dX12_town_56 : decode cX12_town 56 = .ok (.bipush 100, 2) := kd_r kbX12_town ki_228 rfl
theorem dX12_town_58 : decode cX12_town 58 = .ok (.irem, 1) := kd_r kbX12_town ki_227 rfl
theorem dX12_town_59 : decode cX12_town 59 = .ok (.iload_n 3, 1) := kd_r kbX12_town ki_55 rfl
theorem dX12_town_60 : decode cX12_town 60 = .ok (.invokevirtual 329, 3) := kd_r kbX12_town ki_980 rfl
theorem dX12_town_63 : decode cX12_town 63 = .ok (.aload_n 0, 1) := kd_r kbX12_town ki_0 rfl
theorem dX12_town_64 : decode cX12_town 64 = .ok (.dup, 1) := kd_r kbX12_town ki_29 rfl
theorem dX12_town_65 : decode cX12_town 65 = .ok (.getfield 106, 3) := kd_r kbX12_town ki_750 rfl
theorem dX12_town_68 : decode cX12_town 68 = .ok (.iconst 1, 1) := kd_r kbX12_town ki_16 rfl
theorem dX12_town_69 : decode cX12_town 69 = .ok (.iadd, 1) := kd_r kbX12_town ki_30 rfl
theorem dX12_town_70 : decode cX12_town 70 = .ok (.putfield 106, 3) := kd_r kbX12_town ki_757 rfl
theorem dX12_town_73 : decode cX12_town 73 = .ok (.aload_n 0, 1) := kd_r kbX12_town ki_0 rfl
theorem dX12_town_74 : decode cX12_town 74 = .ok (.getfield 106, 3) := kd_r kbX12_town ki_750 rfl
theorem dX12_town_77 : decode cX12_town 77 = .ok (.iconst 1, 1) := kd_r kbX12_town ki_16 rfl
theorem dX12_town_78 : decode cX12_town 78 = .ok (.isub, 1) := kd_r kbX12_town ki_50 rfl
theorem dX12_town_79 : decode cX12_town 79 = .ok (.ireturn, 1) := kd_r kbX12_town ki_7 rfl
set_option maxRecDepth 20000 in
theorem ggX12_seedsOf_X12_lays : GoodIn wsX12_seedsOf wsX12_lays := goodIn_r _ [6, 1, 7, 8, 9, 10, 11, 12, 5, 13, 14, 15, 16, 17, 18, 19, 20, 21, 22, 23, 24, 25, 26, 27, 28, 29, 30, 31, 32, 33, 34, 35, 36, 37, 38, 39, 40, 41, 42, 43, 44, 45, 46, 47, 48, 49, 50, 51, 52, 53, 54, 55, 56, 57, 58, 59, 60, 61, 62, 63, 64, 65, 66, 67, 68, 69, 70, 71, 72, 73, 74, 75, 76, 77, 78, 79, 80, 81, 82, 83, 84, 85, 86, 87, 88, 93, 94, 95, 96, 97, 98, 99, 100, 101, 102, 103, 104, 105, 106, 107, 108, 109, 110, 111, 112, 113, 114, 115, 116, 117, 118, 119, 120, 121, 122, 123, 124, 125, 126, 127, 128, 129, 130, 131, 132, 133, 134, 135, 136, 137, 138, 139, 140, 141] rfl (by decide +kernel)
set_option maxRecDepth 20000 in
theorem gX12_seedsOf_X12_lays : GoodIn wsX12_seedsOf (wsV RX12 329 RX12 yX12_lays wsX12_lays) := goodIn_app (goodIn_of _ (by decide +kernel)) ggX12_seedsOf_X12_lays
set_option maxRecDepth 20000 in
theorem ggX12_seedsOf_X12_kinksOf : GoodIn wsX12_seedsOf wsX12_kinksOf := goodIn_r _ [92, 1, 77, 78, 79, 5, 80, 14, 93, 94, 95, 96, 97, 98, 99, 100, 101, 102, 103, 104, 105, 106, 107, 108, 109, 110, 111, 112, 113, 114, 115, 116, 117, 118, 119, 120, 121, 122, 123, 124, 125, 126, 127, 128, 129, 130, 131, 132, 133, 134, 135, 136, 137, 138, 139, 140, 141] rfl (by decide +kernel)
set_option maxRecDepth 20000 in
theorem gX12_seedsOf_X12_kinksOf : GoodIn wsX12_seedsOf (wsV RX12 156 RX12 yX12_kinksOf wsX12_kinksOf) := goodIn_app (goodIn_of _ (by decide +kernel)) ggX12_seedsOf_X12_kinksOf
theorem dX12_seedsOf_0 : decode cX12_seedsOf 0 = .ok (.iconst 0, 1) := kd_r kbX12_seedsOf ki_20 rfl
theorem dX12_seedsOf_1 : decode cX12_seedsOf 1 = .ok (.istore 5, 2) := kd_r kbX12_seedsOf ki_133 rfl
theorem dX12_seedsOf_3 : decode cX12_seedsOf 3 = .ok (.iconst 0, 1) := kd_r kbX12_seedsOf ki_20 rfl
theorem dX12_seedsOf_4 : decode cX12_seedsOf 4 = .ok (.istore 6, 2) := kd_r kbX12_seedsOf ki_199 rfl
theorem dX12_seedsOf_6 : decode cX12_seedsOf 6 = .ok (.iload 6, 2) := kd_r kbX12_seedsOf ki_200 rfl
theorem dX12_seedsOf_8 : decode cX12_seedsOf 8 = .ok (.bipush 20, 2) := kd_r kbX12_seedsOf ki_537 rfl
theorem dX12_seedsOf_10 : decode cX12_seedsOf 10 = .ok (.if_icmp .ge 61, 3) := kd_r kbX12_seedsOf ki_130 rfl
theorem dX12_seedsOf_13 : decode cX12_seedsOf 13 = .ok (.aload_n 0, 1) := kd_r kbX12_seedsOf ki_0 rfl
theorem dX12_seedsOf_14 : decode cX12_seedsOf 14 = .ok (.bipush 6, 2) := kd_r kbX12_seedsOf ki_2 rfl
theorem dX12_seedsOf_16 : decode cX12_seedsOf 16 = .ok (.iload_n 2, 1) := kd_r kbX12_seedsOf ki_11 rfl
theorem dX12_seedsOf_17 : decode cX12_seedsOf 17 = .ok (.iload 4, 2) := kd_r kbX12_seedsOf ki_57 rfl
theorem dX12_seedsOf_19 : decode cX12_seedsOf 19 = .ok (.iload_n 3, 1) := kd_r kbX12_seedsOf ki_55 rfl
theorem dX12_seedsOf_20 : decode cX12_seedsOf 20 = .ok (.iload 6, 2) := kd_r kbX12_seedsOf ki_200 rfl
theorem dX12_seedsOf_22 : decode cX12_seedsOf 22 = .ok (.invokevirtual 329, 3) := kd_r kbX12_seedsOf ki_980 rfl
theorem dX12_seedsOf_25 : decode cX12_seedsOf 25 = .ok (.iload 5, 2) := kd_r kbX12_seedsOf ki_134 rfl
theorem dX12_seedsOf_27 : decode cX12_seedsOf 27 = .ok (.aload_n 0, 1) := kd_r kbX12_seedsOf ki_0 rfl
theorem dX12_seedsOf_28 : decode cX12_seedsOf 28 = .ok (.getfield 9, 3) := kd_r kbX12_seedsOf ki_13 rfl
theorem dX12_seedsOf_31 : decode cX12_seedsOf 31 = .ok (.bipush 6, 2) := kd_r kbX12_seedsOf ki_2 rfl
theorem dX12_seedsOf_33 : decode cX12_seedsOf 33 = .ok (.iaload, 1) := kd_r kbX12_seedsOf ki_14 rfl
theorem dX12_seedsOf_34 : decode cX12_seedsOf 34 = .ok (.aload_n 0, 1) := kd_r kbX12_seedsOf ki_0 rfl
theorem dX12_seedsOf_35 : decode cX12_seedsOf 35 = .ok (.getfield 9, 3) := kd_r kbX12_seedsOf ki_13 rfl
theorem dX12_seedsOf_38 : decode cX12_seedsOf 38 = .ok (.iload_n 1, 1) := kd_r kbX12_seedsOf ki_8 rfl
theorem dX12_seedsOf_39 : decode cX12_seedsOf 39 = .ok (.iaload, 1) := kd_r kbX12_seedsOf ki_14 rfl
theorem dX12_seedsOf_40 : decode cX12_seedsOf 40 = .ok (.if_icmp .ne 21, 3) := kd_r kbX12_seedsOf ki_981 rfl
theorem dX12_seedsOf_43 : decode cX12_seedsOf 43 = .ok (.aload_n 0, 1) := kd_r kbX12_seedsOf ki_0 rfl
theorem dX12_seedsOf_44 : decode cX12_seedsOf 44 = .ok (.bipush 6, 2) := kd_r kbX12_seedsOf ki_2 rfl
theorem dX12_seedsOf_46 : decode cX12_seedsOf 46 = .ok (.invokevirtual 156, 3) := kd_r kbX12_seedsOf ki_791 rfl
theorem dX12_seedsOf_49 : decode cX12_seedsOf 49 = .ok (.aload_n 0, 1) := kd_r kbX12_seedsOf ki_0 rfl
theorem dX12_seedsOf_50 : decode cX12_seedsOf 50 = .ok (.iload_n 1, 1) := kd_r kbX12_seedsOf ki_8 rfl
theorem dX12_seedsOf_51 : decode cX12_seedsOf 51 = .ok (.invokevirtual 156, 3) := kd_r kbX12_seedsOf ki_791 rfl
theorem dX12_seedsOf_54 : decode cX12_seedsOf 54 = .ok (.if_icmp .ne 7, 3) := kd_r kbX12_seedsOf ki_280 rfl
theorem dX12_seedsOf_57 : decode cX12_seedsOf 57 = .ok (.iconst 1, 1) := kd_r kbX12_seedsOf ki_16 rfl
theorem dX12_seedsOf_58 : decode cX12_seedsOf 58 = .ok (.goto 4, 3) := kd_r kbX12_seedsOf ki_19 rfl
theorem dX12_seedsOf_61 : decode cX12_seedsOf 61 = .ok (.iconst 0, 1) := kd_r kbX12_seedsOf ki_20 rfl
theorem dX12_seedsOf_62 : decode cX12_seedsOf 62 = .ok (.iadd, 1) := kd_r kbX12_seedsOf ki_30 rfl
theorem dX12_seedsOf_63 : decode cX12_seedsOf 63 = .ok (.istore 5, 2) := kd_r kbX12_seedsOf ki_133 rfl
theorem dX12_seedsOf_65 : decode cX12_seedsOf 65 = .ok (.iinc 6 1, 3) := kd_r kbX12_seedsOf ki_208 rfl
theorem dX12_seedsOf_68 : decode cX12_seedsOf 68 = .ok (.goto (-62), 3) := kd_r kbX12_seedsOf ki_982 rfl
theorem dX12_seedsOf_71 : decode cX12_seedsOf 71 = .ok (.iload 5, 2) := kd_r kbX12_seedsOf ki_134 rfl
theorem dX12_seedsOf_73 : decode cX12_seedsOf 73 = .ok (.ireturn, 1) := kd_r kbX12_seedsOf ki_7 rfl
set_option maxRecDepth 20000 in
theorem ggX12_story_X12_isStreet : GoodIn wsX12_story wsX12_isStreet := goodIn_r _ [7, 8, 9, 10, 6, 11, 116, 117, 118, 119, 120, 121, 122, 123, 124, 125, 126, 127, 128, 129, 130, 131, 132, 133, 134, 135, 136, 137, 138, 139, 140, 141, 142, 143, 144, 145, 146, 147, 148, 149, 150, 151, 152, 153, 154, 155, 156, 157, 158, 159, 160, 161, 162, 163, 164] rfl (by decide +kernel)
set_option maxRecDepth 20000 in
theorem gX12_story_X12_isStreet : GoodIn wsX12_story (wsV RX12 126 RX12 yX12_isStreet wsX12_isStreet) := goodIn_app (goodIn_of _ (by decide +kernel)) ggX12_story_X12_isStreet
set_option maxRecDepth 20000 in
theorem ggX12_story_X12_isNw : GoodIn wsX12_story wsX12_isNw := goodIn_r _ [14, 15, 16, 9, 10, 6, 11] rfl (by decide +kernel)
set_option maxRecDepth 20000 in
theorem gX12_story_X12_isNw : GoodIn wsX12_story (va_wsS RX12 323 yX12_isNw wsX12_isNw) := goodIn_app (goodIn_of _ (by decide +kernel)) ggX12_story_X12_isNw
set_option maxRecDepth 20000 in
theorem ggX12_story_X12_within : GoodIn wsX12_story wsX12_within := goodIn_r _ [11] rfl (by decide +kernel)
set_option maxRecDepth 20000 in
theorem gX12_story_X12_within : GoodIn wsX12_story (va_wsS RX12 109 yX12_within wsX12_within) := goodIn_app (goodIn_of _ (by decide +kernel)) ggX12_story_X12_within
set_option maxRecDepth 20000 in
theorem ggX12_story_X12_isLaw : GoodIn wsX12_story wsX12_isLaw := goodIn_r _ [20, 2, 9, 10, 6, 11, 116, 117, 118, 119, 120, 121, 122, 123, 124, 125, 126, 127, 128, 129, 130, 131, 132, 133, 134, 135, 136, 137, 138, 139, 140, 141, 142, 143, 144, 145, 146, 147, 148, 149, 150, 151, 152, 153, 154, 155, 156, 157, 158, 159, 160, 161, 162, 163, 164] rfl (by decide +kernel)
set_option maxRecDepth 20000 in
theorem gX12_story_X12_isLaw : GoodIn wsX12_story (wsV RX12 326 RX12 yX12_isLaw wsX12_isLaw) := goodIn_app (goodIn_of _ (by decide +kernel)) ggX12_story_X12_isLaw
set_option maxRecDepth 20000 in
theorem ggX12_story_X12_seedsOf : GoodIn wsX12_story wsX12_seedsOf := goodIn_r _ [24, 25, 26, 27, 28, 6, 29, 30, 31, 32, 33, 34, 35, 36, 37, 38, 39, 40, 41, 42, 43, 44, 45, 46, 47, 48, 49, 50, 51, 52, 53, 54, 55, 56, 57, 58, 59, 60, 61, 62, 63, 64, 65, 66, 67, 68, 69, 70, 71, 72, 73, 74, 75, 76, 77, 78, 79, 80, 81, 82, 83, 84, 85, 86, 87, 88, 89, 90, 91, 92, 93, 94, 95, 96, 97, 98, 99, 100, 101, 102, 103, 104, 105, 106, 107, 108, 109, 110, 111, 112, 113, 114, 115, 116, 117, 118, 119, 120, 121, 122, 123, 124, 125, 126, 127, 128, 129, 130, 131, 132, 133, 134, 135, 136, 137, 138, 139, 140, 141, 142, 143, 144, 145, 146, 147, 148, 149, 150, 151, 152, 153, 154, 155, 156, 157, 158, 159, 160, 161, 162, 163, 164] rfl (by decide +kernel)
set_option maxRecDepth 20000 in
theorem gX12_story_X12_seedsOf : GoodIn wsX12_story (wsV RX12 334 RX12 yX12_seedsOf wsX12_seedsOf) := goodIn_app (goodIn_of _ (by decide +kernel)) ggX12_story_X12_seedsOf
theorem dX12_story_0 : decode cX12_story 0 = .ok (.aload_n 0, 1) := kd_r kbX12_story ki_0 rfl
theorem dX12_story_1 : decode cX12_story 1 = .ok (.iload_n 1, 1) := kd_r kbX12_story ki_8 rfl
theorem dX12_story_2 : decode cX12_story 2 = .ok (.invokevirtual 126, 3) := kd_r kbX12_story ki_764 rfl
theorem dX12_story_5 : decode cX12_story 5 = .ok (.ifCond .eq 37, 3) := kd_r kbX12_story ki_983 rfl
theorem dX12_story_8 : decode cX12_story 8 = .ok (.iload_n 2, 1) := kd_r kbX12_story ki_11 rfl
theorem dX12_story_9 : decode cX12_story 9 = .ok (.invokestatic 323, 3) := kd_r kbX12_story ki_979 rfl
theorem dX12_story_12 : decode cX12_story 12 = .ok (.ifCond .eq 30, 3) := kd_r kbX12_story ki_302 rfl
theorem dX12_story_15 : decode cX12_story 15 = .ok (.iload_n 3, 1) := kd_r kbX12_story ki_55 rfl
theorem dX12_story_16 : decode cX12_story 16 = .ok (.i2l, 1) := kd_r kbX12_story ki_399 rfl
theorem dX12_story_17 : decode cX12_story 17 = .ok (.lconst 0, 1) := kd_r kbX12_story ki_172 rfl
theorem dX12_story_18 : decode cX12_story 18 = .ok (.ldc2_w 332, 3) := kd_r kbX12_story ki_984 rfl
theorem dX12_story_21 : decode cX12_story 21 = .ok (.invokestatic 109, 3) := kd_r kbX12_story ki_751 rfl
theorem dX12_story_24 : decode cX12_story 24 = .ok (.ifCond .eq 18, 3) := kd_r kbX12_story ki_252 rfl
theorem dX12_story_27 : decode cX12_story 27 = .ok (.iload 4, 2) := kd_r kbX12_story ki_57 rfl
theorem dX12_story_29 : decode cX12_story 29 = .ok (.iconst (-1), 1) := kd_r kbX12_story ki_99 rfl
theorem dX12_story_30 : decode cX12_story 30 = .ok (.if_icmp .eq 14, 3) := kd_r kbX12_story ki_620 rfl
theorem dX12_story_33 : decode cX12_story 33 = .ok (.aload_n 0, 1) := kd_r kbX12_story ki_0 rfl
theorem dX12_story_34 : decode cX12_story 34 = .ok (.iload 4, 2) := kd_r kbX12_story ki_57 rfl
theorem dX12_story_36 : decode cX12_story 36 = .ok (.invokevirtual 326, 3) := kd_r kbX12_story ki_680 rfl
theorem dX12_story_39 : decode cX12_story 39 = .ok (.ifCond .ne 5, 3) := kd_r kbX12_story ki_36 rfl
theorem dX12_story_42 : decode cX12_story 42 = .ok (.iconst (-1), 1) := kd_r kbX12_story ki_99 rfl
theorem dX12_story_43 : decode cX12_story 43 = .ok (.ireturn, 1) := kd_r kbX12_story ki_7 rfl
theorem dX12_story_44 : decode cX12_story 44 = .ok (.aload_n 0, 1) := kd_r kbX12_story ki_0 rfl
theorem dX12_story_45 : decode cX12_story 45 = .ok (.getfield 308, 3) := kd_r kbX12_story ki_963 rfl
theorem dX12_story_48 : decode cX12_story 48 = .ok (.ifCond .ne 6, 3) := kd_r kbX12_story ki_388 rfl
theorem dX12_story_51 : decode cX12_story 51 = .ok (.bipush (-5), 2) := kd_r kbX12_story ki_635 rfl
theorem dX12_story_53 : decode cX12_story 53 = .ok (.ireturn, 1) := kd_r kbX12_story ki_7 rfl
theorem dX12_story_54 : decode cX12_story 54 = .ok (.iload 4, 2) := kd_r kbX12_story ki_57 rfl
theorem dX12_story_56 : decode cX12_story 56 = .ok (.iconst (-1), 1) := kd_r kbX12_story ki_99 rfl
theorem dX12_story_57 : decode cX12_story 57 = .ok (.if_icmp .eq 13, 3) := kd_r kbX12_story ki_90 rfl
theorem dX12_story_60 : decode cX12_story 60 = .ok (.aload_n 0, 1) := kd_r kbX12_story ki_0 rfl
theorem dX12_story_61 : decode cX12_story 61 = .ok (.iload_n 1, 1) := kd_r kbX12_story ki_8 rfl
theorem dX12_story_62 : decode cX12_story 62 = .ok (.iload_n 2, 1) := kd_r kbX12_story ki_11 rfl
theorem dX12_story_63 : decode cX12_story 63 = .ok (.iload_n 3, 1) := kd_r kbX12_story ki_55 rfl
theorem dX12_story_64 : decode cX12_story 64 = .ok (.iload 4, 2) := kd_r kbX12_story ki_57 rfl
theorem dX12_story_66 : decode cX12_story 66 = .ok (.invokevirtual 334, 3) := kd_r kbX12_story ki_985 rfl
theorem dX12_story_69 : decode cX12_story 69 = .ok (.ireturn, 1) := kd_r kbX12_story ki_7 rfl
theorem dX12_story_70 : decode cX12_story 70 = .ok (.iconst 0, 1) := kd_r kbX12_story ki_20 rfl
theorem dX12_story_71 : decode cX12_story 71 = .ok (.istore 5, 2) := kd_r kbX12_story ki_133 rfl
theorem dX12_story_73 : decode cX12_story 73 = .ok (.iconst (-1), 1) := kd_r kbX12_story ki_99 rfl
theorem dX12_story_74 : decode cX12_story 74 = .ok (.istore 6, 2) := kd_r kbX12_story ki_199 rfl
theorem dX12_story_76 : decode cX12_story 76 = .ok (.iconst 0, 1) := kd_r kbX12_story ki_20 rfl
theorem dX12_story_77 : decode cX12_story 77 = .ok (.istore 7, 2) := kd_r kbX12_story ki_152 rfl
theorem dX12_story_79 : decode cX12_story 79 = .ok (.iload 7, 2) := kd_r kbX12_story ki_153 rfl
theorem dX12_story_81 : decode cX12_story 81 = .ok (.aload_n 0, 1) := kd_r kbX12_story ki_0 rfl
theorem dX12_story_82 : decode cX12_story 82 = .ok (.getfield 308, 3) := kd_r kbX12_story ki_963 rfl
theorem dX12_story_85 : decode cX12_story 85 = .ok (.if_icmp .ge 35, 3) := kd_r kbX12_story ki_448 rfl
theorem dX12_story_88 : decode cX12_story 88 = .ok (.aload_n 0, 1) := kd_r kbX12_story ki_0 rfl
theorem dX12_story_89 : decode cX12_story 89 = .ok (.iload_n 1, 1) := kd_r kbX12_story ki_8 rfl
theorem dX12_story_90 : decode cX12_story 90 = .ok (.iload_n 2, 1) := kd_r kbX12_story ki_11 rfl
theorem dX12_story_91 : decode cX12_story 91 = .ok (.iload_n 3, 1) := kd_r kbX12_story ki_55 rfl
theorem dX12_story_92 : decode cX12_story 92 = .ok (.iload 7, 2) := kd_r kbX12_story ki_153 rfl
theorem dX12_story_94 : decode cX12_story 94 = .ok (.invokevirtual 334, 3) := kd_r kbX12_story ki_985 rfl
theorem dX12_story_97 : decode cX12_story 97 = .ok (.istore 8, 2) := kd_r kbX12_story ki_155 rfl
theorem dX12_story_99 : decode cX12_story 99 = .ok (.iload 8, 2) := kd_r kbX12_story ki_156 rfl
theorem dX12_story_101 : decode cX12_story 101 = .ok (.iload 6, 2) := kd_r kbX12_story ki_200 rfl
theorem dX12_story_103 : decode cX12_story 103 = .ok (.if_icmp .le 11, 3) := kd_r kbX12_story ki_715 rfl
theorem dX12_story_106 : decode cX12_story 106 = .ok (.iload 7, 2) := kd_r kbX12_story ki_153 rfl
theorem dX12_story_108 : decode cX12_story 108 = .ok (.istore 5, 2) := kd_r kbX12_story ki_133 rfl
theorem dX12_story_110 : decode cX12_story 110 = .ok (.iload 8, 2) := kd_r kbX12_story ki_156 rfl
theorem dX12_story_112 : decode cX12_story 112 = .ok (.istore 6, 2) := kd_r kbX12_story ki_199 rfl
theorem dX12_story_114 : decode cX12_story 114 = .ok (.iinc 7 1, 3) := kd_r kbX12_story ki_164 rfl
theorem dX12_story_117 : decode cX12_story 117 = .ok (.goto (-38), 3) := kd_r kbX12_story ki_100 rfl
theorem dX12_story_120 : decode cX12_story 120 = .ok (.iload 5, 2) := kd_r kbX12_story ki_134 rfl
theorem dX12_story_122 : decode cX12_story 122 = .ok (.ireturn, 1) := kd_r kbX12_story ki_7 rfl
set_option maxRecDepth 20000 in
theorem ggX12_dig_X12_areTwo : GoodIn wsX12_dig wsX12_areTwo := goodIn_r _ [6, 7, 8, 9, 5, 10, 11, 12, 13, 14, 24, 25, 26, 27, 28, 29, 30, 31, 32, 33, 34, 35, 36, 37, 38, 39, 40, 41, 42, 43, 44, 45, 46, 47, 48, 49, 50, 51, 52, 53, 54, 55, 56, 57, 58, 59, 60, 61, 62, 63, 64, 65, 66, 67, 68, 69, 70, 71, 72] rfl (by decide +kernel)
set_option maxRecDepth 20000 in
theorem gX12_dig_X12_areTwo : GoodIn wsX12_dig (wsV RX12 218 RX12 yX12_areTwo wsX12_areTwo) := goodIn_app (goodIn_of _ (by decide +kernel)) ggX12_dig_X12_areTwo
set_option maxRecDepth 20000 in
theorem ggX12_dig_X12_atOf : GoodIn wsX12_dig wsX12_atOf := goodIn_r _ [18, 19, 20, 21, 5, 22, 23, 24, 25, 26, 27, 28, 29, 30, 31, 32, 33, 34, 35, 36, 37, 38, 39, 40, 41, 42, 43, 44, 45, 46, 47, 48, 49, 50, 51, 52, 53, 54, 55, 56, 57, 58, 59, 60, 61, 62, 63, 64, 65, 66, 67, 68, 69, 70, 71, 72] rfl (by decide +kernel)
set_option maxRecDepth 20000 in
theorem gX12_dig_X12_atOf : GoodIn wsX12_dig (wsV RX12 153 RX12 yX12_atOf wsX12_atOf) := goodIn_app (goodIn_of _ (by decide +kernel)) ggX12_dig_X12_atOf
theorem dX12_dig_0 : decode cX12_dig 0 = .ok (.aload_n 0, 1) := kd_r kbX12_dig ki_0 rfl
theorem dX12_dig_1 : decode cX12_dig 1 = .ok (.iload_n 1, 1) := kd_r kbX12_dig ki_8 rfl
theorem dX12_dig_2 : decode cX12_dig 2 = .ok (.invokevirtual 218, 3) := kd_r kbX12_dig ki_870 rfl
theorem dX12_dig_5 : decode cX12_dig 5 = .ok (.ifCond .ne 5, 3) := kd_r kbX12_dig ki_36 rfl
theorem dX12_dig_8 : decode cX12_dig 8 = .ok (.iconst (-1), 1) := kd_r kbX12_dig ki_99 rfl
theorem dX12_dig_9 : decode cX12_dig 9 = .ok (.ireturn, 1) := kd_r kbX12_dig ki_7 rfl
theorem dX12_dig_10 : decode cX12_dig 10 = .ok (.iload_n 1, 1) := kd_r kbX12_dig ki_8 rfl
theorem dX12_dig_11 : decode cX12_dig 11 = .ok (.bipush 10, 2) := kd_r kbX12_dig ki_71 rfl
theorem dX12_dig_13 : decode cX12_dig 13 = .ok (.idiv, 1) := kd_r kbX12_dig ki_225 rfl
theorem dX12_dig_14 : decode cX12_dig 14 = .ok (.istore_n 2, 1) := kd_r kbX12_dig ki_32 rfl
theorem dX12_dig_15 : decode cX12_dig 15 = .ok (.iload_n 1, 1) := kd_r kbX12_dig ki_8 rfl
theorem dX12_dig_16 : decode cX12_dig 16 = .ok (.bipush 10, 2) := kd_r kbX12_dig ki_71 rfl
theorem dX12_dig_18 : decode cX12_dig 18 = .ok (.irem, 1) := kd_r kbX12_dig ki_227 rfl
theorem dX12_dig_19 : decode cX12_dig 19 = .ok (.istore_n 3, 1) := kd_r kbX12_dig ki_108 rfl
theorem dX12_dig_20 : decode cX12_dig 20 = .ok (.iconst 1, 1) := kd_r kbX12_dig ki_16 rfl
theorem dX12_dig_21 : decode cX12_dig 21 = .ok (.istore 4, 2) := kd_r kbX12_dig ki_129 rfl
theorem dX12_dig_23 : decode cX12_dig 23 = .ok (.iload 4, 2) := kd_r kbX12_dig ki_57 rfl
theorem dX12_dig_25 : decode cX12_dig 25 = .ok (.aload_n 0, 1) := kd_r kbX12_dig ki_0 rfl
theorem dX12_dig_26 : decode cX12_dig 26 = .ok (.getfield 9, 3) := kd_r kbX12_dig ki_13 rfl
theorem dX12_dig_29 : decode cX12_dig 29 = .ok (.iload_n 2, 1) := kd_r kbX12_dig ki_11 rfl
theorem dX12_dig_30 : decode cX12_dig 30 = .ok (.iaload, 1) := kd_r kbX12_dig ki_14 rfl
theorem dX12_dig_31 : decode cX12_dig 31 = .ok (.if_icmp .ge 74, 3) := kd_r kbX12_dig ki_231 rfl
theorem dX12_dig_34 : decode cX12_dig 34 = .ok (.iconst 0, 1) := kd_r kbX12_dig ki_20 rfl
theorem dX12_dig_35 : decode cX12_dig 35 = .ok (.istore 5, 2) := kd_r kbX12_dig ki_133 rfl
theorem dX12_dig_37 : decode cX12_dig 37 = .ok (.iconst 1, 1) := kd_r kbX12_dig ki_16 rfl
theorem dX12_dig_38 : decode cX12_dig 38 = .ok (.istore 6, 2) := kd_r kbX12_dig ki_199 rfl
theorem dX12_dig_40 : decode cX12_dig 40 = .ok (.iload 6, 2) := kd_r kbX12_dig ki_200 rfl
theorem dX12_dig_42 : decode cX12_dig 42 = .ok (.aload_n 0, 1) := kd_r kbX12_dig ki_0 rfl
theorem dX12_dig_43 : decode cX12_dig 43 = .ok (.getfield 9, 3) := kd_r kbX12_dig ki_13 rfl
theorem dX12_dig_46 : decode cX12_dig 46 = .ok (.iload_n 3, 1) := kd_r kbX12_dig ki_55 rfl
theorem dX12_dig_47 : decode cX12_dig 47 = .ok (.iaload, 1) := kd_r kbX12_dig ki_14 rfl
theorem dX12_dig_48 : decode cX12_dig 48 = .ok (.if_icmp .gt 38, 3) := kd_r kbX12_dig ki_986 rfl
theorem dX12_dig_51 : decode cX12_dig 51 = .ok (.iload 5, 2) := kd_r kbX12_dig ki_134 rfl
theorem dX12_dig_53 : decode cX12_dig 53 = .ok (.ifCond .ne 20, 3) := kd_r kbX12_dig ki_987 rfl
theorem dX12_dig_56 : decode cX12_dig 56 = .ok (.aload_n 0, 1) := kd_r kbX12_dig ki_0 rfl
theorem dX12_dig_57 : decode cX12_dig 57 = .ok (.iload_n 3, 1) := kd_r kbX12_dig ki_55 rfl
theorem dX12_dig_58 : decode cX12_dig 58 = .ok (.iload 6, 2) := kd_r kbX12_dig ki_200 rfl
theorem dX12_dig_60 : decode cX12_dig 60 = .ok (.invokevirtual 153, 3) := kd_r kbX12_dig ki_790 rfl
theorem dX12_dig_63 : decode cX12_dig 63 = .ok (.aload_n 0, 1) := kd_r kbX12_dig ki_0 rfl
theorem dX12_dig_64 : decode cX12_dig 64 = .ok (.iload_n 2, 1) := kd_r kbX12_dig ki_11 rfl
theorem dX12_dig_65 : decode cX12_dig 65 = .ok (.iload 4, 2) := kd_r kbX12_dig ki_57 rfl
theorem dX12_dig_67 : decode cX12_dig 67 = .ok (.invokevirtual 153, 3) := kd_r kbX12_dig ki_790 rfl
theorem dX12_dig_70 : decode cX12_dig 70 = .ok (.if_icmp .ne 7, 3) := kd_r kbX12_dig ki_280 rfl
theorem dX12_dig_73 : decode cX12_dig 73 = .ok (.iconst 1, 1) := kd_r kbX12_dig ki_16 rfl
theorem dX12_dig_74 : decode cX12_dig 74 = .ok (.goto 4, 3) := kd_r kbX12_dig ki_19 rfl
theorem dX12_dig_77 : decode cX12_dig 77 = .ok (.iconst 0, 1) := kd_r kbX12_dig ki_20 rfl
theorem dX12_dig_78 : decode cX12_dig 78 = .ok (.istore 5, 2) := kd_r kbX12_dig ki_133 rfl
theorem dX12_dig_80 : decode cX12_dig 80 = .ok (.iinc 6 1, 3) := kd_r kbX12_dig ki_208 rfl
theorem dX12_dig_83 : decode cX12_dig 83 = .ok (.goto (-43), 3) := kd_r kbX12_dig ki_450 rfl
theorem dX12_dig_86 : decode cX12_dig 86 = .ok (.iload 5, 2) := kd_r kbX12_dig ki_134 rfl
theorem dX12_dig_88 : decode cX12_dig 88 = .ok (.ifCond .ne 11, 3) := kd_r kbX12_dig ki_608 rfl
theorem dX12_dig_91 : decode cX12_dig 91 = .ok (.aload_n 0, 1) := kd_r kbX12_dig ki_0 rfl
theorem dX12_dig_92 : decode cX12_dig 92 = .ok (.iload_n 2, 1) := kd_r kbX12_dig ki_11 rfl
theorem dX12_dig_93 : decode cX12_dig 93 = .ok (.iload 4, 2) := kd_r kbX12_dig ki_57 rfl
theorem dX12_dig_95 : decode cX12_dig 95 = .ok (.invokevirtual 153, 3) := kd_r kbX12_dig ki_790 rfl
theorem dX12_dig_98 : decode cX12_dig 98 = .ok (.ireturn, 1) := kd_r kbX12_dig ki_7 rfl
theorem dX12_dig_99 : decode cX12_dig 99 = .ok (.iinc 4 1, 3) := kd_r kbX12_dig ki_144 rfl
theorem dX12_dig_102 : decode cX12_dig 102 = .ok (.goto (-79), 3) := kd_r kbX12_dig ki_209 rfl
theorem dX12_dig_105 : decode cX12_dig 105 = .ok (.bipush (-2), 2) := kd_r kbX12_dig ki_39 rfl
theorem dX12_dig_107 : decode cX12_dig 107 = .ok (.ireturn, 1) := kd_r kbX12_dig ki_7 rfl
set_option maxRecDepth 20000 in
theorem ggX12_isBody_X12_within : GoodIn wsX12_isBody wsX12_within := goodIn_r _ [5] rfl (by decide +kernel)
set_option maxRecDepth 20000 in
theorem gX12_isBody_X12_within : GoodIn wsX12_isBody (va_wsS RX12 109 yX12_within wsX12_within) := goodIn_app (goodIn_of _ (by decide +kernel)) ggX12_isBody_X12_within
theorem dX12_isBody_0 : decode cX12_isBody 0 = .ok (.iload_n 1, 1) := kd_r kbX12_isBody ki_8 rfl
theorem dX12_isBody_1 : decode cX12_isBody 1 = .ok (.i2l, 1) := kd_r kbX12_isBody ki_399 rfl
theorem dX12_isBody_2 : decode cX12_isBody 2 = .ok (.lconst 0, 1) := kd_r kbX12_isBody ki_172 rfl
theorem dX12_isBody_3 : decode cX12_isBody 3 = .ok (.aload_n 0, 1) := kd_r kbX12_isBody ki_0 rfl
theorem dX12_isBody_4 : decode cX12_isBody 4 = .ok (.getfield 337, 3) := kd_r kbX12_isBody ki_988 rfl
theorem dX12_isBody_7 : decode cX12_isBody 7 = .ok (.iconst 1, 1) := kd_r kbX12_isBody ki_16 rfl
theorem dX12_isBody_8 : decode cX12_isBody 8 = .ok (.isub, 1) := kd_r kbX12_isBody ki_50 rfl
theorem dX12_isBody_9 : decode cX12_isBody 9 = .ok (.i2l, 1) := kd_r kbX12_isBody ki_399 rfl
theorem dX12_isBody_10 : decode cX12_isBody 10 = .ok (.invokestatic 109, 3) := kd_r kbX12_isBody ki_751 rfl
theorem dX12_isBody_13 : decode cX12_isBody 13 = .ok (.ireturn, 1) := kd_r kbX12_isBody ki_7 rfl
theorem dX12_kindOf_0 : decode cX12_kindOf 0 = .ok (.aload_n 0, 1) := kd_r kbX12_kindOf ki_0 rfl
theorem dX12_kindOf_1 : decode cX12_kindOf 1 = .ok (.getfield 80, 3) := kd_r kbX12_kindOf ki_989 rfl
theorem dX12_kindOf_4 : decode cX12_kindOf 4 = .ok (.iload_n 1, 1) := kd_r kbX12_kindOf ki_8 rfl
theorem dX12_kindOf_5 : decode cX12_kindOf 5 = .ok (.iaload, 1) := kd_r kbX12_kindOf ki_14 rfl
theorem dX12_kindOf_6 : decode cX12_kindOf 6 = .ok (.ireturn, 1) := kd_r kbX12_kindOf ki_7 rfl
set_option maxRecDepth 20000 in
theorem ggX12_body_X12_within : GoodIn wsX12_body wsX12_within := goodIn_r _ [7] rfl (by decide +kernel)
set_option maxRecDepth 20000 in
theorem gX12_body_X12_within : GoodIn wsX12_body (va_wsS RX12 109 yX12_within wsX12_within) := goodIn_app (goodIn_of _ (by decide +kernel)) ggX12_body_X12_within
theorem dX12_body_0 : decode cX12_body 0 = .ok (.iload_n 1, 1) := kd_r kbX12_body ki_8 rfl
theorem dX12_body_1 : decode cX12_body 1 = .ok (.i2l, 1) := kd_r kbX12_body ki_399 rfl
theorem dX12_body_2 : decode cX12_body 2 = .ok (.lconst 0, 1) := kd_r kbX12_body ki_172 rfl
theorem dX12_body_3 : decode cX12_body 3 = .ok (.ldc2_w 227, 3) := kd_r kbX12_body ki_890 rfl
theorem dX12_body_6 : decode cX12_body 6 = .ok (.invokestatic 109, 3) := kd_r kbX12_body ki_751 rfl
theorem dX12_body_9 : decode cX12_body 9 = .ok (.ifCond .ne 5, 3) := kd_r kbX12_body ki_36 rfl
theorem dX12_body_12 : decode cX12_body 12 = .ok (.iconst (-1), 1) := kd_r kbX12_body ki_99 rfl
theorem dX12_body_13 : decode cX12_body 13 = .ok (.ireturn, 1) := kd_r kbX12_body ki_7 rfl
theorem dX12_body_14 : decode cX12_body 14 = .ok (.aload_n 0, 1) := kd_r kbX12_body ki_0 rfl
theorem dX12_body_15 : decode cX12_body 15 = .ok (.getfield 337, 3) := kd_r kbX12_body ki_988 rfl
theorem dX12_body_18 : decode cX12_body 18 = .ok (.bipush 50, 2) := kd_r kbX12_body ki_285 rfl
theorem dX12_body_20 : decode cX12_body 20 = .ok (.if_icmp .ne 6, 3) := kd_r kbX12_body ki_604 rfl
theorem dX12_body_23 : decode cX12_body 23 = .ok (.bipush (-3), 2) := kd_r kbX12_body ki_293 rfl
theorem dX12_body_25 : decode cX12_body 25 = .ok (.ireturn, 1) := kd_r kbX12_body ki_7 rfl
theorem dX12_body_26 : decode cX12_body 26 = .ok (.aload_n 0, 1) := kd_r kbX12_body ki_0 rfl
theorem dX12_body_27 : decode cX12_body 27 = .ok (.getfield 80, 3) := kd_r kbX12_body ki_989 rfl
theorem dX12_body_30 : decode cX12_body 30 = .ok (.aload_n 0, 1) := kd_r kbX12_body ki_0 rfl
theorem dX12_body_31 : decode cX12_body 31 = .ok (.getfield 337, 3) := kd_r kbX12_body ki_988 rfl
theorem dX12_body_34 : decode cX12_body 34 = .ok (.iload_n 1, 1) := kd_r kbX12_body ki_8 rfl
theorem dX12_body_35 : decode cX12_body 35 = .ok (.iastore, 1) := kd_r kbX12_body ki_28 rfl
theorem dX12_body_36 : decode cX12_body 36 = .ok (.aload_n 0, 1) := kd_r kbX12_body ki_0 rfl
theorem dX12_body_37 : decode cX12_body 37 = .ok (.dup, 1) := kd_r kbX12_body ki_29 rfl
theorem dX12_body_38 : decode cX12_body 38 = .ok (.getfield 337, 3) := kd_r kbX12_body ki_988 rfl
theorem dX12_body_41 : decode cX12_body 41 = .ok (.iconst 1, 1) := kd_r kbX12_body ki_16 rfl
theorem dX12_body_42 : decode cX12_body 42 = .ok (.iadd, 1) := kd_r kbX12_body ki_30 rfl
theorem dX12_body_43 : decode cX12_body 43 = .ok (.putfield 337, 3) := kd_r kbX12_body ki_990 rfl
theorem dX12_body_46 : decode cX12_body 46 = .ok (.aload_n 0, 1) := kd_r kbX12_body ki_0 rfl
theorem dX12_body_47 : decode cX12_body 47 = .ok (.getfield 337, 3) := kd_r kbX12_body ki_988 rfl
theorem dX12_body_50 : decode cX12_body 50 = .ok (.iconst 1, 1) := kd_r kbX12_body ki_16 rfl
theorem dX12_body_51 : decode cX12_body 51 = .ok (.isub, 1) := kd_r kbX12_body ki_50 rfl
theorem dX12_body_52 : decode cX12_body 52 = .ok (.ireturn, 1) := kd_r kbX12_body ki_7 rfl
theorem dX12_above_0 : decode cX12_above 0 = .ok (.iload_n 0, 1) := kd_r kbX12_above ki_40 rfl
theorem dX12_above_1 : decode cX12_above 1 = .ok (.iconst 4, 1) := kd_r kbX12_above ki_247 rfl
theorem dX12_above_2 : decode cX12_above 2 = .ok (.if_icmp .ne 7, 3) := kd_r kbX12_above ki_280 rfl
theorem dX12_above_5 : decode cX12_above 5 = .ok (.iconst 3, 1) := kd_r kbX12_above ki_246 rfl
theorem dX12_above_6 : decode cX12_above 6 = .ok (.goto 19, 3) := kd_r kbX12_above ki_238 rfl
theorem dX12_above_9 : decode cX12_above 9 = .ok (.iload_n 0, 1) := kd_r kbX12_above ki_40 rfl
theorem dX12_above_10 : decode cX12_above 10 = .ok (.iconst 5, 1) := kd_r kbX12_above ki_79 rfl
theorem dX12_above_11 : decode cX12_above 11 = .ok (.if_icmp .eq 9, 3) := kd_r kbX12_above ki_348 rfl
theorem dX12_above_14 : decode cX12_above 14 = .ok (.iload_n 0, 1) := kd_r kbX12_above ki_40 rfl
theorem dX12_above_15 : decode cX12_above 15 = .ok (.bipush 7, 2) := kd_r kbX12_above ki_249 rfl
theorem dX12_above_17 : decode cX12_above 17 = .ok (.if_icmp .ne 7, 3) := kd_r kbX12_above ki_280 rfl
theorem dX12_above_20 : decode cX12_above 20 = .ok (.iconst 1, 1) := kd_r kbX12_above ki_16 rfl
theorem dX12_above_21 : decode cX12_above 21 = .ok (.goto 4, 3) := kd_r kbX12_above ki_19 rfl
theorem dX12_above_24 : decode cX12_above 24 = .ok (.iconst 0, 1) := kd_r kbX12_above ki_20 rfl
theorem dX12_above_25 : decode cX12_above 25 = .ok (.ireturn, 1) := kd_r kbX12_above ki_7 rfl
theorem dX12_begins_0 : decode cX12_begins 0 = .ok (.aload_n 0, 1) := kd_r kbX12_begins ki_0 rfl
theorem dX12_begins_1 : decode cX12_begins 1 = .ok (.getfield 340, 3) := kd_r kbX12_begins ki_991 rfl
theorem dX12_begins_4 : decode cX12_begins 4 = .ok (.bipush 24, 2) := kd_r kbX12_begins ki_286 rfl
theorem dX12_begins_6 : decode cX12_begins 6 = .ok (.if_icmp .ge 13, 3) := kd_r kbX12_begins ki_66 rfl
theorem dX12_begins_9 : decode cX12_begins 9 = .ok (.aload_n 0, 1) := kd_r kbX12_begins ki_0 rfl
theorem dX12_begins_10 : decode cX12_begins 10 = .ok (.getfield 83, 3) := kd_r kbX12_begins ki_992 rfl
theorem dX12_begins_13 : decode cX12_begins 13 = .ok (.aload_n 0, 1) := kd_r kbX12_begins ki_0 rfl
theorem dX12_begins_14 : decode cX12_begins 14 = .ok (.getfield 340, 3) := kd_r kbX12_begins ki_991 rfl
theorem dX12_begins_17 : decode cX12_begins 17 = .ok (.iload_n 1, 1) := kd_r kbX12_begins ki_8 rfl
theorem dX12_begins_18 : decode cX12_begins 18 = .ok (.iastore, 1) := kd_r kbX12_begins ki_28 rfl
theorem dX12_begins_19 : decode cX12_begins 19 = .ok (.aload_n 0, 1) := kd_r kbX12_begins ki_0 rfl
theorem dX12_begins_20 : decode cX12_begins 20 = .ok (.dup, 1) := kd_r kbX12_begins ki_29 rfl
theorem dX12_begins_21 : decode cX12_begins 21 = .ok (.getfield 340, 3) := kd_r kbX12_begins ki_991 rfl
theorem dX12_begins_24 : decode cX12_begins 24 = .ok (.iconst 1, 1) := kd_r kbX12_begins ki_16 rfl
theorem dX12_begins_25 : decode cX12_begins 25 = .ok (.iadd, 1) := kd_r kbX12_begins ki_30 rfl
theorem dX12_begins_26 : decode cX12_begins 26 = .ok (.putfield 340, 3) := kd_r kbX12_begins ki_993 rfl
theorem dX12_begins_29 : decode cX12_begins 29 = .ok (.return_, 1) := kd_r kbX12_begins ki_5 rfl
set_option maxRecDepth 20000 in
theorem ggX12_runsAs_X12_begins : GoodIn wsX12_runsAs wsX12_begins := goodIn_r _ [6, 7, 8, 12, 13, 14, 15, 16, 17, 18, 19, 20, 21, 22, 23, 24, 25, 26, 27, 28, 29, 30, 31, 32, 33, 34, 35, 36, 37, 38, 39, 40, 41, 42, 43, 44, 45, 46, 47, 48, 49, 50, 51, 52, 53, 54, 55, 56, 57, 58, 59, 60] rfl (by decide +kernel)
set_option maxRecDepth 20000 in
theorem gX12_runsAs_X12_begins : GoodIn wsX12_runsAs (wsV RX12 343 RX12 yX12_begins wsX12_begins) := goodIn_app (goodIn_of _ (by decide +kernel)) ggX12_runsAs_X12_begins
set_option maxRecDepth 20000 in
theorem ggX12_runsAs_X12_runsAs : GoodIn wsX12_runsAs wsX12_runsAs := goodIn_r _ [0, 1, 2, 3, 4, 5, 6, 7, 8, 9, 10, 11, 12, 13, 14, 15, 16, 17, 18, 19, 20, 21, 22, 23, 24, 25, 26, 27, 28, 29, 30, 31, 32, 33, 34, 35, 36, 37, 38, 39, 40, 41, 42, 43, 44, 45, 46, 47, 48, 49, 50, 51, 52, 53, 54, 55, 56, 57, 58, 59, 60] rfl (by decide +kernel)
set_option maxRecDepth 20000 in
theorem gX12_runsAs_X12_runsAs : GoodIn wsX12_runsAs (wsV RX12 347 RX12 yX12_runsAs wsX12_runsAs) := goodIn_app (goodIn_of _ (by decide +kernel)) ggX12_runsAs_X12_runsAs
theorem dX12_runsAs_0 : decode cX12_runsAs 0 = .ok (.iload_n 1, 1) := kd_r kbX12_runsAs ki_8 rfl
theorem dX12_runsAs_1 : decode cX12_runsAs 1 = .ok (.bipush 7, 2) := kd_r kbX12_runsAs ki_249 rfl
theorem dX12_runsAs_3 : decode cX12_runsAs 3 = .ok (.if_icmp .ne 18, 3) := kd_r kbX12_runsAs ki_994 rfl
theorem dX12_runsAs_6 : decode cX12_runsAs 6 = .ok (.aload_n 0, 1) := kd_r kbX12_runsAs ki_0 rfl
theorem dX12_runsAs_7 : decode cX12_runsAs 7 = .ok (.bipush 80, 2) := kd_r kbX12_runsAs ki_995 rfl
theorem dX12_runsAs_9 : decode cX12_runsAs 9 = .ok (.invokevirtual 343, 3) := kd_r kbX12_runsAs ki_996 rfl
theorem dX12_runsAs_12 : decode cX12_runsAs 12 = .ok (.aload_n 0, 1) := kd_r kbX12_runsAs ki_0 rfl
theorem dX12_runsAs_13 : decode cX12_runsAs 13 = .ok (.iconst 1, 1) := kd_r kbX12_runsAs ki_16 rfl
theorem dX12_runsAs_14 : decode cX12_runsAs 14 = .ok (.iload_n 2, 1) := kd_r kbX12_runsAs ki_11 rfl
theorem dX12_runsAs_15 : decode cX12_runsAs 15 = .ok (.invokevirtual 347, 3) := kd_r kbX12_runsAs ki_997 rfl
theorem dX12_runsAs_18 : decode cX12_runsAs 18 = .ok (.iconst 2, 1) := kd_r kbX12_runsAs ki_244 rfl
theorem dX12_runsAs_19 : decode cX12_runsAs 19 = .ok (.imul, 1) := kd_r kbX12_runsAs ki_114 rfl
theorem dX12_runsAs_20 : decode cX12_runsAs 20 = .ok (.ireturn, 1) := kd_r kbX12_runsAs ki_7 rfl
theorem dX12_runsAs_21 : decode cX12_runsAs 21 = .ok (.iload_n 1, 1) := kd_r kbX12_runsAs ki_8 rfl
theorem dX12_runsAs_22 : decode cX12_runsAs 22 = .ok (.iconst 1, 1) := kd_r kbX12_runsAs ki_16 rfl
theorem dX12_runsAs_23 : decode cX12_runsAs 23 = .ok (.if_icmp .eq 8, 3) := kd_r kbX12_runsAs ki_458 rfl
theorem dX12_runsAs_26 : decode cX12_runsAs 26 = .ok (.iload_n 1, 1) := kd_r kbX12_runsAs ki_8 rfl
theorem dX12_runsAs_27 : decode cX12_runsAs 27 = .ok (.iconst 5, 1) := kd_r kbX12_runsAs ki_79 rfl
theorem dX12_runsAs_28 : decode cX12_runsAs 28 = .ok (.if_icmp .ne 18, 3) := kd_r kbX12_runsAs ki_994 rfl
theorem dX12_runsAs_31 : decode cX12_runsAs 31 = .ok (.aload_n 0, 1) := kd_r kbX12_runsAs ki_0 rfl
theorem dX12_runsAs_32 : decode cX12_runsAs 32 = .ok (.bipush 20, 2) := kd_r kbX12_runsAs ki_537 rfl
theorem dX12_runsAs_34 : decode cX12_runsAs 34 = .ok (.invokevirtual 343, 3) := kd_r kbX12_runsAs ki_996 rfl
theorem dX12_runsAs_37 : decode cX12_runsAs 37 = .ok (.aload_n 0, 1) := kd_r kbX12_runsAs ki_0 rfl
theorem dX12_runsAs_38 : decode cX12_runsAs 38 = .ok (.iconst 0, 1) := kd_r kbX12_runsAs ki_20 rfl
theorem dX12_runsAs_39 : decode cX12_runsAs 39 = .ok (.iload_n 2, 1) := kd_r kbX12_runsAs ki_11 rfl
theorem dX12_runsAs_40 : decode cX12_runsAs 40 = .ok (.invokevirtual 347, 3) := kd_r kbX12_runsAs ki_997 rfl
theorem dX12_runsAs_43 : decode cX12_runsAs 43 = .ok (.iconst 3, 1) := kd_r kbX12_runsAs ki_246 rfl
theorem dX12_runsAs_44 : decode cX12_runsAs 44 = .ok (.iadd, 1) := kd_r kbX12_runsAs ki_30 rfl
theorem dX12_runsAs_45 : decode cX12_runsAs 45 = .ok (.ireturn, 1) := kd_r kbX12_runsAs ki_7 rfl
theorem dX12_runsAs_46 : decode cX12_runsAs 46 = .ok (.iload_n 1, 1) := kd_r kbX12_runsAs ki_8 rfl
theorem dX12_runsAs_47 : decode cX12_runsAs 47 = .ok (.bipush 6, 2) := kd_r kbX12_runsAs ki_2 rfl
theorem dX12_runsAs_49 : decode cX12_runsAs 49 = .ok (.if_icmp .ne 18, 3) := kd_r kbX12_runsAs ki_994 rfl
theorem dX12_runsAs_52 : decode cX12_runsAs 52 = .ok (.aload_n 0, 1) := kd_r kbX12_runsAs ki_0 rfl
theorem dX12_runsAs_53 : decode cX12_runsAs 53 = .ok (.bipush 70, 2) := kd_r kbX12_runsAs ki_998 rfl
theorem dX12_runsAs_55 : decode cX12_runsAs 55 = .ok (.invokevirtual 343, 3) := kd_r kbX12_runsAs ki_996 rfl
theorem dX12_runsAs_58 : decode cX12_runsAs 58 = .ok (.aload_n 0, 1) := kd_r kbX12_runsAs ki_0 rfl
theorem dX12_runsAs_59 : decode cX12_runsAs 59 = .ok (.iconst 0, 1) := kd_r kbX12_runsAs ki_20 rfl
theorem dX12_runsAs_60 : decode cX12_runsAs 60 = .ok (.iload_n 2, 1) := kd_r kbX12_runsAs ki_11 rfl
theorem dX12_runsAs_61 : decode cX12_runsAs 61 = .ok (.iconst 1, 1) := kd_r kbX12_runsAs ki_16 rfl
theorem dX12_runsAs_62 : decode cX12_runsAs 62 = .ok (.iadd, 1) := kd_r kbX12_runsAs ki_30 rfl
theorem dX12_runsAs_63 : decode cX12_runsAs 63 = .ok (.invokevirtual 347, 3) := kd_r kbX12_runsAs ki_997 rfl
theorem dX12_runsAs_66 : decode cX12_runsAs 66 = .ok (.ireturn, 1) := kd_r kbX12_runsAs ki_7 rfl
theorem dX12_runsAs_67 : decode cX12_runsAs 67 = .ok (.aload_n 0, 1) := kd_r kbX12_runsAs ki_0 rfl
theorem dX12_runsAs_68 : decode cX12_runsAs 68 = .ok (.iconst 1, 1) := kd_r kbX12_runsAs ki_16 rfl
theorem dX12_runsAs_69 : decode cX12_runsAs 69 = .ok (.invokevirtual 343, 3) := kd_r kbX12_runsAs ki_996 rfl
theorem dX12_runsAs_72 : decode cX12_runsAs 72 = .ok (.iload_n 2, 1) := kd_r kbX12_runsAs ki_11 rfl
theorem dX12_runsAs_73 : decode cX12_runsAs 73 = .ok (.aload_n 0, 1) := kd_r kbX12_runsAs ki_0 rfl
theorem dX12_runsAs_74 : decode cX12_runsAs 74 = .ok (.getfield 350, 3) := kd_r kbX12_runsAs ki_999 rfl
theorem dX12_runsAs_77 : decode cX12_runsAs 77 = .ok (.iadd, 1) := kd_r kbX12_runsAs ki_30 rfl
theorem dX12_runsAs_78 : decode cX12_runsAs 78 = .ok (.ireturn, 1) := kd_r kbX12_runsAs ki_7 rfl
set_option maxRecDepth 20000 in
theorem ggX12_breaksAs_X12_begins : GoodIn wsX12_breaksAs wsX12_begins := goodIn_r _ [6, 7, 8, 21, 22, 23, 24, 25, 26, 27, 28, 29, 30, 31, 32, 33, 34, 35, 36, 37, 38, 39, 40, 41, 42, 43, 44, 45, 46, 47, 48, 49, 50, 51, 52, 53, 54, 55, 56, 57, 58, 59, 60, 61, 62, 63, 64, 65, 66, 67, 68, 69] rfl (by decide +kernel)
set_option maxRecDepth 20000 in
theorem gX12_breaksAs_X12_begins : GoodIn wsX12_breaksAs (wsV RX12 343 RX12 yX12_begins wsX12_begins) := goodIn_app (goodIn_of _ (by decide +kernel)) ggX12_breaksAs_X12_begins
set_option maxRecDepth 20000 in
theorem ggX12_breaksAs_X12_breaksAs : GoodIn wsX12_breaksAs wsX12_breaksAs := goodIn_r _ [0, 1, 2, 3, 4, 5, 6, 7, 8, 9, 10, 11, 12, 13, 14, 15, 16, 17, 18, 19, 20, 21, 22, 23, 24, 25, 26, 27, 28, 29, 30, 31, 32, 33, 34, 35, 36, 37, 38, 39, 40, 41, 42, 43, 44, 45, 46, 47, 48, 49, 50, 51, 52, 53, 54, 55, 56, 57, 58, 59, 60, 61, 62, 63, 64, 65, 66, 67, 68, 69] rfl (by decide +kernel)
set_option maxRecDepth 20000 in
theorem gX12_breaksAs_X12_breaksAs : GoodIn wsX12_breaksAs (wsV RX12 353 RX12 yX12_breaksAs wsX12_breaksAs) := goodIn_app (goodIn_of _ (by decide +kernel)) ggX12_breaksAs_X12_breaksAs
set_option maxRecDepth 20000 in
theorem ggX12_breaksAs_X12_leadsAs : GoodIn wsX12_breaksAs wsX12_leadsAs := goodIn_r _ [15, 1, 16, 2, 3, 4, 5, 6, 7, 8, 12, 13, 14, 17, 18, 19, 20, 21, 22, 23, 24, 25, 26, 27, 28, 29, 30, 31, 32, 33, 34, 35, 36, 37, 38, 39, 40, 41, 42, 43, 44, 45, 46, 47, 48, 49, 50, 51, 52, 53, 54, 55, 56, 57, 58, 59, 60, 61, 62, 63, 64, 65, 66, 67, 68, 69] rfl (by decide +kernel)
set_option maxRecDepth 20000 in
theorem gX12_breaksAs_X12_leadsAs : GoodIn wsX12_breaksAs (wsV RX12 359 RX12 yX12_leadsAs wsX12_leadsAs) := goodIn_app (goodIn_of _ (by decide +kernel)) ggX12_breaksAs_X12_leadsAs
set_option maxRecDepth 20000 in
theorem ggX12_breaksAs_X12_runsAs : GoodIn wsX12_breaksAs wsX12_runsAs := goodIn_r _ [20, 16, 2, 3, 4, 5, 6, 7, 8, 17, 18, 19, 21, 22, 23, 24, 25, 26, 27, 28, 29, 30, 31, 32, 33, 34, 35, 36, 37, 38, 39, 40, 41, 42, 43, 44, 45, 46, 47, 48, 49, 50, 51, 52, 53, 54, 55, 56, 57, 58, 59, 60, 61, 62, 63, 64, 65, 66, 67, 68, 69] rfl (by decide +kernel)
set_option maxRecDepth 20000 in
theorem gX12_breaksAs_X12_runsAs : GoodIn wsX12_breaksAs (wsV RX12 347 RX12 yX12_runsAs wsX12_runsAs) := goodIn_app (goodIn_of _ (by decide +kernel)) ggX12_breaksAs_X12_runsAs
theorem dX12_breaksAs_0 : decode cX12_breaksAs 0 = .ok (.iload_n 1, 1) := kd_r kbX12_breaksAs ki_8 rfl
theorem dX12_breaksAs_1 : decode cX12_breaksAs 1 = .ok (.iconst 2, 1) := kd_r kbX12_breaksAs ki_244 rfl
theorem dX12_breaksAs_2 : decode cX12_breaksAs 2 = .ok (.if_icmp .ne 17, 3) := kd_r kbX12_breaksAs ki_647 rfl
theorem dX12_breaksAs_5 : decode cX12_breaksAs 5 = .ok (.aload_n 0, 1) := kd_r kbX12_breaksAs ki_0 rfl
theorem dX12_breaksAs_6 : decode cX12_breaksAs 6 = .ok (.bipush 30, 2) := kd_r kbX12_breaksAs ki_1000 rfl
theorem dX12_breaksAs_8 : decode cX12_breaksAs 8 = .ok (.invokevirtual 343, 3) := kd_r kbX12_breaksAs ki_996 rfl
theorem dX12_breaksAs_11 : decode cX12_breaksAs 11 = .ok (.aload_n 0, 1) := kd_r kbX12_breaksAs ki_0 rfl
theorem dX12_breaksAs_12 : decode cX12_breaksAs 12 = .ok (.iconst 0, 1) := kd_r kbX12_breaksAs ki_20 rfl
theorem dX12_breaksAs_13 : decode cX12_breaksAs 13 = .ok (.iload_n 2, 1) := kd_r kbX12_breaksAs ki_11 rfl
theorem dX12_breaksAs_14 : decode cX12_breaksAs 14 = .ok (.invokevirtual 353, 3) := kd_r kbX12_breaksAs ki_1001 rfl
theorem dX12_breaksAs_17 : decode cX12_breaksAs 17 = .ok (.ineg, 1) := kd_r kbX12_breaksAs ki_276 rfl
theorem dX12_breaksAs_18 : decode cX12_breaksAs 18 = .ok (.ireturn, 1) := kd_r kbX12_breaksAs ki_7 rfl
theorem dX12_breaksAs_19 : decode cX12_breaksAs 19 = .ok (.iload_n 1, 1) := kd_r kbX12_breaksAs ki_8 rfl
theorem dX12_breaksAs_20 : decode cX12_breaksAs 20 = .ok (.iconst 5, 1) := kd_r kbX12_breaksAs ki_79 rfl
theorem dX12_breaksAs_21 : decode cX12_breaksAs 21 = .ok (.if_icmp .ne 28, 3) := kd_r kbX12_breaksAs ki_340 rfl
theorem dX12_breaksAs_24 : decode cX12_breaksAs 24 = .ok (.aload_n 0, 1) := kd_r kbX12_breaksAs ki_0 rfl
theorem dX12_breaksAs_25 : decode cX12_breaksAs 25 = .ok (.bipush 60, 2) := kd_r kbX12_breaksAs ki_384 rfl
theorem dX12_breaksAs_27 : decode cX12_breaksAs 27 = .ok (.invokevirtual 343, 3) := kd_r kbX12_breaksAs ki_996 rfl
theorem dX12_breaksAs_30 : decode cX12_breaksAs 30 = .ok (.aload_n 0, 1) := kd_r kbX12_breaksAs ki_0 rfl
theorem dX12_breaksAs_31 : decode cX12_breaksAs 31 = .ok (.iconst 1, 1) := kd_r kbX12_breaksAs ki_16 rfl
theorem dX12_breaksAs_32 : decode cX12_breaksAs 32 = .ok (.iload_n 2, 1) := kd_r kbX12_breaksAs ki_11 rfl
theorem dX12_breaksAs_33 : decode cX12_breaksAs 33 = .ok (.invokevirtual 353, 3) := kd_r kbX12_breaksAs ki_1001 rfl
theorem dX12_breaksAs_36 : decode cX12_breaksAs 36 = .ok (.istore_n 3, 1) := kd_r kbX12_breaksAs ki_108 rfl
theorem dX12_breaksAs_37 : decode cX12_breaksAs 37 = .ok (.iload_n 3, 1) := kd_r kbX12_breaksAs ki_55 rfl
theorem dX12_breaksAs_38 : decode cX12_breaksAs 38 = .ok (.aload_n 0, 1) := kd_r kbX12_breaksAs ki_0 rfl
theorem dX12_breaksAs_39 : decode cX12_breaksAs 39 = .ok (.aload_n 0, 1) := kd_r kbX12_breaksAs ki_0 rfl
theorem dX12_breaksAs_40 : decode cX12_breaksAs 40 = .ok (.getfield 356, 3) := kd_r kbX12_breaksAs ki_1002 rfl
theorem dX12_breaksAs_43 : decode cX12_breaksAs 43 = .ok (.iconst 2, 1) := kd_r kbX12_breaksAs ki_244 rfl
theorem dX12_breaksAs_44 : decode cX12_breaksAs 44 = .ok (.invokevirtual 359, 3) := kd_r kbX12_breaksAs ki_695 rfl
theorem dX12_breaksAs_47 : decode cX12_breaksAs 47 = .ok (.iadd, 1) := kd_r kbX12_breaksAs ki_30 rfl
theorem dX12_breaksAs_48 : decode cX12_breaksAs 48 = .ok (.ireturn, 1) := kd_r kbX12_breaksAs ki_7 rfl
theorem dX12_breaksAs_49 : decode cX12_breaksAs 49 = .ok (.aload_n 0, 1) := kd_r kbX12_breaksAs ki_0 rfl
theorem dX12_breaksAs_50 : decode cX12_breaksAs 50 = .ok (.bipush 10, 2) := kd_r kbX12_breaksAs ki_71 rfl
theorem dX12_breaksAs_52 : decode cX12_breaksAs 52 = .ok (.invokevirtual 343, 3) := kd_r kbX12_breaksAs ki_996 rfl
theorem dX12_breaksAs_55 : decode cX12_breaksAs 55 = .ok (.aload_n 0, 1) := kd_r kbX12_breaksAs ki_0 rfl
theorem dX12_breaksAs_56 : decode cX12_breaksAs 56 = .ok (.aload_n 0, 1) := kd_r kbX12_breaksAs ki_0 rfl
theorem dX12_breaksAs_57 : decode cX12_breaksAs 57 = .ok (.getfield 356, 3) := kd_r kbX12_breaksAs ki_1002 rfl
theorem dX12_breaksAs_60 : decode cX12_breaksAs 60 = .ok (.iload_n 2, 1) := kd_r kbX12_breaksAs ki_11 rfl
theorem dX12_breaksAs_61 : decode cX12_breaksAs 61 = .ok (.invokevirtual 347, 3) := kd_r kbX12_breaksAs ki_997 rfl
theorem dX12_breaksAs_64 : decode cX12_breaksAs 64 = .ok (.iconst 2, 1) := kd_r kbX12_breaksAs ki_244 rfl
theorem dX12_breaksAs_65 : decode cX12_breaksAs 65 = .ok (.imul, 1) := kd_r kbX12_breaksAs ki_114 rfl
theorem dX12_breaksAs_66 : decode cX12_breaksAs 66 = .ok (.ireturn, 1) := kd_r kbX12_breaksAs ki_7 rfl
set_option maxRecDepth 20000 in
theorem ggX12_leadsAs_X12_begins : GoodIn wsX12_leadsAs wsX12_begins := goodIn_r _ [7, 8, 9, 17, 18, 19, 20, 21, 22, 23, 24, 25, 26, 27, 28, 29, 30, 31, 32, 33, 34, 35, 36, 37, 38, 39, 40, 41, 42, 43, 44, 45, 46, 47, 48, 49, 50, 51, 52, 53, 54, 55, 56, 57, 58, 59, 60, 61, 62, 63, 64, 65] rfl (by decide +kernel)
set_option maxRecDepth 20000 in
theorem gX12_leadsAs_X12_begins : GoodIn wsX12_leadsAs (wsV RX12 343 RX12 yX12_begins wsX12_begins) := goodIn_app (goodIn_of _ (by decide +kernel)) ggX12_leadsAs_X12_begins
set_option maxRecDepth 20000 in
theorem ggX12_leadsAs_X12_leadsAs : GoodIn wsX12_leadsAs wsX12_leadsAs := goodIn_r _ [0, 1, 2, 3, 4, 5, 6, 7, 8, 9, 10, 11, 12, 13, 14, 15, 16, 17, 18, 19, 20, 21, 22, 23, 24, 25, 26, 27, 28, 29, 30, 31, 32, 33, 34, 35, 36, 37, 38, 39, 40, 41, 42, 43, 44, 45, 46, 47, 48, 49, 50, 51, 52, 53, 54, 55, 56, 57, 58, 59, 60, 61, 62, 63, 64, 65] rfl (by decide +kernel)
set_option maxRecDepth 20000 in
theorem gX12_leadsAs_X12_leadsAs : GoodIn wsX12_leadsAs (wsV RX12 359 RX12 yX12_leadsAs wsX12_leadsAs) := goodIn_app (goodIn_of _ (by decide +kernel)) ggX12_leadsAs_X12_leadsAs
set_option maxRecDepth 20000 in
theorem ggX12_leadsAs_X12_runsAs : GoodIn wsX12_leadsAs wsX12_runsAs := goodIn_r _ [16, 2, 3, 4, 5, 6, 7, 8, 9, 13, 14, 15, 17, 18, 19, 20, 21, 22, 23, 24, 25, 26, 27, 28, 29, 30, 31, 32, 33, 34, 35, 36, 37, 38, 39, 40, 41, 42, 43, 44, 45, 46, 47, 48, 49, 50, 51, 52, 53, 54, 55, 56, 57, 58, 59, 60, 61, 62, 63, 64, 65] rfl (by decide +kernel)
set_option maxRecDepth 20000 in
theorem gX12_leadsAs_X12_runsAs : GoodIn wsX12_leadsAs (wsV RX12 347 RX12 yX12_runsAs wsX12_runsAs) := goodIn_app (goodIn_of _ (by decide +kernel)) ggX12_leadsAs_X12_runsAs
theorem dX12_leadsAs_0 : decode cX12_leadsAs 0 = .ok (.iload_n 1, 1) := kd_r kbX12_leadsAs ki_8 rfl
theorem dX12_leadsAs_1 : decode cX12_leadsAs 1 = .ok (.iconst 4, 1) := kd_r kbX12_leadsAs ki_247 rfl
theorem dX12_leadsAs_2 : decode cX12_leadsAs 2 = .ok (.if_icmp .ne 28, 3) := kd_r kbX12_leadsAs ki_340 rfl
theorem dX12_leadsAs_5 : decode cX12_leadsAs 5 = .ok (.aload_n 0, 1) := kd_r kbX12_leadsAs ki_0 rfl
theorem dX12_leadsAs_6 : decode cX12_leadsAs 6 = .ok (.bipush 50, 2) := kd_r kbX12_leadsAs ki_285 rfl
theorem dX12_leadsAs_8 : decode cX12_leadsAs 8 = .ok (.invokevirtual 343, 3) := kd_r kbX12_leadsAs ki_996 rfl
theorem dX12_leadsAs_11 : decode cX12_leadsAs 11 = .ok (.aload_n 0, 1) := kd_r kbX12_leadsAs ki_0 rfl
theorem dX12_leadsAs_12 : decode cX12_leadsAs 12 = .ok (.iconst 3, 1) := kd_r kbX12_leadsAs ki_246 rfl
theorem dX12_leadsAs_13 : decode cX12_leadsAs 13 = .ok (.iload_n 2, 1) := kd_r kbX12_leadsAs ki_11 rfl
theorem dX12_leadsAs_14 : decode cX12_leadsAs 14 = .ok (.invokevirtual 359, 3) := kd_r kbX12_leadsAs ki_695 rfl
theorem dX12_leadsAs_17 : decode cX12_leadsAs 17 = .ok (.istore_n 3, 1) := kd_r kbX12_leadsAs ki_108 rfl
theorem dX12_leadsAs_18 : decode cX12_leadsAs 18 = .ok (.iload_n 3, 1) := kd_r kbX12_leadsAs ki_55 rfl
theorem dX12_leadsAs_19 : decode cX12_leadsAs 19 = .ok (.aload_n 0, 1) := kd_r kbX12_leadsAs ki_0 rfl
theorem dX12_leadsAs_20 : decode cX12_leadsAs 20 = .ok (.aload_n 0, 1) := kd_r kbX12_leadsAs ki_0 rfl
theorem dX12_leadsAs_21 : decode cX12_leadsAs 21 = .ok (.getfield 356, 3) := kd_r kbX12_leadsAs ki_1002 rfl
theorem dX12_leadsAs_24 : decode cX12_leadsAs 24 = .ok (.iconst 2, 1) := kd_r kbX12_leadsAs ki_244 rfl
theorem dX12_leadsAs_25 : decode cX12_leadsAs 25 = .ok (.invokevirtual 347, 3) := kd_r kbX12_leadsAs ki_997 rfl
theorem dX12_leadsAs_28 : decode cX12_leadsAs 28 = .ok (.isub, 1) := kd_r kbX12_leadsAs ki_50 rfl
theorem dX12_leadsAs_29 : decode cX12_leadsAs 29 = .ok (.ireturn, 1) := kd_r kbX12_leadsAs ki_7 rfl
theorem dX12_leadsAs_30 : decode cX12_leadsAs 30 = .ok (.iload_n 1, 1) := kd_r kbX12_leadsAs ki_8 rfl
theorem dX12_leadsAs_31 : decode cX12_leadsAs 31 = .ok (.iconst 3, 1) := kd_r kbX12_leadsAs ki_246 rfl
theorem dX12_leadsAs_32 : decode cX12_leadsAs 32 = .ok (.if_icmp .ne 18, 3) := kd_r kbX12_leadsAs ki_994 rfl
theorem dX12_leadsAs_35 : decode cX12_leadsAs 35 = .ok (.aload_n 0, 1) := kd_r kbX12_leadsAs ki_0 rfl
theorem dX12_leadsAs_36 : decode cX12_leadsAs 36 = .ok (.bipush 40, 2) := kd_r kbX12_leadsAs ki_44 rfl
theorem dX12_leadsAs_38 : decode cX12_leadsAs 38 = .ok (.invokevirtual 343, 3) := kd_r kbX12_leadsAs ki_996 rfl
theorem dX12_leadsAs_41 : decode cX12_leadsAs 41 = .ok (.aload_n 0, 1) := kd_r kbX12_leadsAs ki_0 rfl
theorem dX12_leadsAs_42 : decode cX12_leadsAs 42 = .ok (.iconst 0, 1) := kd_r kbX12_leadsAs ki_20 rfl
theorem dX12_leadsAs_43 : decode cX12_leadsAs 43 = .ok (.iload_n 2, 1) := kd_r kbX12_leadsAs ki_11 rfl
theorem dX12_leadsAs_44 : decode cX12_leadsAs 44 = .ok (.invokevirtual 359, 3) := kd_r kbX12_leadsAs ki_695 rfl
theorem dX12_leadsAs_47 : decode cX12_leadsAs 47 = .ok (.iconst 3, 1) := kd_r kbX12_leadsAs ki_246 rfl
theorem dX12_leadsAs_48 : decode cX12_leadsAs 48 = .ok (.imul, 1) := kd_r kbX12_leadsAs ki_114 rfl
theorem dX12_leadsAs_49 : decode cX12_leadsAs 49 = .ok (.ireturn, 1) := kd_r kbX12_leadsAs ki_7 rfl
theorem dX12_leadsAs_50 : decode cX12_leadsAs 50 = .ok (.iload_n 1, 1) := kd_r kbX12_leadsAs ki_8 rfl
theorem dX12_leadsAs_51 : decode cX12_leadsAs 51 = .ok (.bipush 7, 2) := kd_r kbX12_leadsAs ki_249 rfl
theorem dX12_leadsAs_53 : decode cX12_leadsAs 53 = .ok (.if_icmp .ne 18, 3) := kd_r kbX12_leadsAs ki_994 rfl
theorem dX12_leadsAs_56 : decode cX12_leadsAs 56 = .ok (.aload_n 0, 1) := kd_r kbX12_leadsAs ki_0 rfl
theorem dX12_leadsAs_57 : decode cX12_leadsAs 57 = .ok (.bipush 81, 2) := kd_r kbX12_leadsAs ki_1003 rfl
theorem dX12_leadsAs_59 : decode cX12_leadsAs 59 = .ok (.invokevirtual 343, 3) := kd_r kbX12_leadsAs ki_996 rfl
theorem dX12_leadsAs_62 : decode cX12_leadsAs 62 = .ok (.aload_n 0, 1) := kd_r kbX12_leadsAs ki_0 rfl
theorem dX12_leadsAs_63 : decode cX12_leadsAs 63 = .ok (.iconst 1, 1) := kd_r kbX12_leadsAs ki_16 rfl
theorem dX12_leadsAs_64 : decode cX12_leadsAs 64 = .ok (.iload_n 2, 1) := kd_r kbX12_leadsAs ki_11 rfl
theorem dX12_leadsAs_65 : decode cX12_leadsAs 65 = .ok (.invokevirtual 359, 3) := kd_r kbX12_leadsAs ki_695 rfl
theorem dX12_leadsAs_68 : decode cX12_leadsAs 68 = .ok (.iconst 1, 1) := kd_r kbX12_leadsAs ki_16 rfl
theorem dX12_leadsAs_69 : decode cX12_leadsAs 69 = .ok (.isub, 1) := kd_r kbX12_leadsAs ki_50 rfl
theorem dX12_leadsAs_70 : decode cX12_leadsAs 70 = .ok (.ireturn, 1) := kd_r kbX12_leadsAs ki_7 rfl
theorem dX12_leadsAs_71 : decode cX12_leadsAs 71 = .ok (.aload_n 0, 1) := kd_r kbX12_leadsAs ki_0 rfl
theorem dX12_leadsAs_72 : decode cX12_leadsAs 72 = .ok (.bipush 11, 2) := kd_r kbX12_leadsAs ki_1004 rfl
theorem dX12_leadsAs_74 : decode cX12_leadsAs 74 = .ok (.invokevirtual 343, 3) := kd_r kbX12_leadsAs ki_996 rfl
theorem dX12_leadsAs_77 : decode cX12_leadsAs 77 = .ok (.iload_n 2, 1) := kd_r kbX12_leadsAs ki_11 rfl
theorem dX12_leadsAs_78 : decode cX12_leadsAs 78 = .ok (.aload_n 0, 1) := kd_r kbX12_leadsAs ki_0 rfl
theorem dX12_leadsAs_79 : decode cX12_leadsAs 79 = .ok (.getfield 350, 3) := kd_r kbX12_leadsAs ki_999 rfl
theorem dX12_leadsAs_82 : decode cX12_leadsAs 82 = .ok (.ixor, 1) := kd_r kbX12_leadsAs ki_313 rfl
theorem dX12_leadsAs_83 : decode cX12_leadsAs 83 = .ok (.ireturn, 1) := kd_r kbX12_leadsAs ki_7 rfl
set_option maxRecDepth 20000 in
theorem ggX12_tellsAs_X12_begins : GoodIn wsX12_tellsAs wsX12_begins := goodIn_r _ [6, 7, 8, 25, 26, 27, 28, 29, 30, 31, 32, 33, 34, 35, 36, 37, 38, 39, 40, 41, 42, 43, 44, 45, 46, 47, 48, 49, 50, 51, 52, 53, 54, 55, 56, 57, 58, 59, 60, 61, 62, 63, 64, 65, 66, 67, 68, 69, 70, 71, 72, 73] rfl (by decide +kernel)
set_option maxRecDepth 20000 in
theorem gX12_tellsAs_X12_begins : GoodIn wsX12_tellsAs (wsV RX12 343 RX12 yX12_begins wsX12_begins) := goodIn_app (goodIn_of _ (by decide +kernel)) ggX12_tellsAs_X12_begins
set_option maxRecDepth 20000 in
theorem ggX12_tellsAs_X12_tellsAs : GoodIn wsX12_tellsAs wsX12_tellsAs := goodIn_r _ [0, 1, 2, 3, 4, 5, 6, 7, 8, 9, 10, 11, 12, 13, 14, 15, 16, 17, 18, 19, 20, 21, 22, 23, 24, 25, 26, 27, 28, 29, 30, 31, 32, 33, 34, 35, 36, 37, 38, 39, 40, 41, 42, 43, 44, 45, 46, 47, 48, 49, 50, 51, 52, 53, 54, 55, 56, 57, 58, 59, 60, 61, 62, 63, 64, 65, 66, 67, 68, 69, 70, 71, 72, 73] rfl (by decide +kernel)
set_option maxRecDepth 20000 in
theorem gX12_tellsAs_X12_tellsAs : GoodIn wsX12_tellsAs (wsV RX12 362 RX12 yX12_tellsAs wsX12_tellsAs) := goodIn_app (goodIn_of _ (by decide +kernel)) ggX12_tellsAs_X12_tellsAs
set_option maxRecDepth 20000 in
theorem ggX12_tellsAs_X12_breaksAs : GoodIn wsX12_tellsAs wsX12_breaksAs := goodIn_r _ [15, 1, 2, 3, 4, 5, 6, 7, 8, 12, 13, 14, 16, 17, 18, 19, 20, 21, 22, 23, 24, 25, 26, 27, 28, 29, 30, 31, 32, 33, 34, 35, 36, 37, 38, 39, 40, 41, 42, 43, 44, 45, 46, 47, 48, 49, 50, 51, 52, 53, 54, 55, 56, 57, 58, 59, 60, 61, 62, 63, 64, 65, 66, 67, 68, 69, 70, 71, 72, 73] rfl (by decide +kernel)
set_option maxRecDepth 20000 in
theorem gX12_tellsAs_X12_breaksAs : GoodIn wsX12_tellsAs (wsV RX12 353 RX12 yX12_breaksAs wsX12_breaksAs) := goodIn_app (goodIn_of _ (by decide +kernel)) ggX12_tellsAs_X12_breaksAs
set_option maxRecDepth 20000 in
theorem ggX12_tellsAs_X12_leadsAs : GoodIn wsX12_tellsAs wsX12_leadsAs := goodIn_r _ [19, 1, 20, 2, 3, 4, 5, 6, 7, 8, 16, 17, 18, 21, 22, 23, 24, 25, 26, 27, 28, 29, 30, 31, 32, 33, 34, 35, 36, 37, 38, 39, 40, 41, 42, 43, 44, 45, 46, 47, 48, 49, 50, 51, 52, 53, 54, 55, 56, 57, 58, 59, 60, 61, 62, 63, 64, 65, 66, 67, 68, 69, 70, 71, 72, 73] rfl (by decide +kernel)
set_option maxRecDepth 20000 in
theorem gX12_tellsAs_X12_leadsAs : GoodIn wsX12_tellsAs (wsV RX12 359 RX12 yX12_leadsAs wsX12_leadsAs) := goodIn_app (goodIn_of _ (by decide +kernel)) ggX12_tellsAs_X12_leadsAs
theorem dX12_tellsAs_0 : decode cX12_tellsAs 0 = .ok (.iload_n 1, 1) := kd_r kbX12_tellsAs ki_8 rfl
theorem dX12_tellsAs_1 : decode cX12_tellsAs 1 = .ok (.iconst 4, 1) := kd_r kbX12_tellsAs ki_247 rfl
theorem dX12_tellsAs_2 : decode cX12_tellsAs 2 = .ok (.if_icmp .ne 18, 3) := kd_r kbX12_tellsAs ki_994 rfl
theorem dX12_tellsAs_5 : decode cX12_tellsAs 5 = .ok (.aload_n 0, 1) := kd_r kbX12_tellsAs ki_0 rfl
theorem dX12_tellsAs_6 : decode cX12_tellsAs 6 = .ok (.bipush 51, 2) := kd_r kbX12_tellsAs ki_772 rfl
theorem dX12_tellsAs_8 : decode cX12_tellsAs 8 = .ok (.invokevirtual 343, 3) := kd_r kbX12_tellsAs ki_996 rfl
theorem dX12_tellsAs_11 : decode cX12_tellsAs 11 = .ok (.aload_n 0, 1) := kd_r kbX12_tellsAs ki_0 rfl
theorem dX12_tellsAs_12 : decode cX12_tellsAs 12 = .ok (.iconst 3, 1) := kd_r kbX12_tellsAs ki_246 rfl
theorem dX12_tellsAs_13 : decode cX12_tellsAs 13 = .ok (.iload_n 2, 1) := kd_r kbX12_tellsAs ki_11 rfl
theorem dX12_tellsAs_14 : decode cX12_tellsAs 14 = .ok (.invokevirtual 362, 3) := kd_r kbX12_tellsAs ki_696 rfl
theorem dX12_tellsAs_17 : decode cX12_tellsAs 17 = .ok (.iconst 5, 1) := kd_r kbX12_tellsAs ki_79 rfl
theorem dX12_tellsAs_18 : decode cX12_tellsAs 18 = .ok (.ixor, 1) := kd_r kbX12_tellsAs ki_313 rfl
theorem dX12_tellsAs_19 : decode cX12_tellsAs 19 = .ok (.ireturn, 1) := kd_r kbX12_tellsAs ki_7 rfl
theorem dX12_tellsAs_20 : decode cX12_tellsAs 20 = .ok (.aload_n 0, 1) := kd_r kbX12_tellsAs ki_0 rfl
theorem dX12_tellsAs_21 : decode cX12_tellsAs 21 = .ok (.iconst 2, 1) := kd_r kbX12_tellsAs ki_244 rfl
theorem dX12_tellsAs_22 : decode cX12_tellsAs 22 = .ok (.invokevirtual 343, 3) := kd_r kbX12_tellsAs ki_996 rfl
theorem dX12_tellsAs_25 : decode cX12_tellsAs 25 = .ok (.aload_n 0, 1) := kd_r kbX12_tellsAs ki_0 rfl
theorem dX12_tellsAs_26 : decode cX12_tellsAs 26 = .ok (.aload_n 0, 1) := kd_r kbX12_tellsAs ki_0 rfl
theorem dX12_tellsAs_27 : decode cX12_tellsAs 27 = .ok (.getfield 356, 3) := kd_r kbX12_tellsAs ki_1002 rfl
theorem dX12_tellsAs_30 : decode cX12_tellsAs 30 = .ok (.iload_n 2, 1) := kd_r kbX12_tellsAs ki_11 rfl
theorem dX12_tellsAs_31 : decode cX12_tellsAs 31 = .ok (.invokevirtual 353, 3) := kd_r kbX12_tellsAs ki_1001 rfl
theorem dX12_tellsAs_34 : decode cX12_tellsAs 34 = .ok (.istore_n 3, 1) := kd_r kbX12_tellsAs ki_108 rfl
theorem dX12_tellsAs_35 : decode cX12_tellsAs 35 = .ok (.iload_n 3, 1) := kd_r kbX12_tellsAs ki_55 rfl
theorem dX12_tellsAs_36 : decode cX12_tellsAs 36 = .ok (.aload_n 0, 1) := kd_r kbX12_tellsAs ki_0 rfl
theorem dX12_tellsAs_37 : decode cX12_tellsAs 37 = .ok (.aload_n 0, 1) := kd_r kbX12_tellsAs ki_0 rfl
theorem dX12_tellsAs_38 : decode cX12_tellsAs 38 = .ok (.getfield 356, 3) := kd_r kbX12_tellsAs ki_1002 rfl
theorem dX12_tellsAs_41 : decode cX12_tellsAs 41 = .ok (.iconst 1, 1) := kd_r kbX12_tellsAs ki_16 rfl
theorem dX12_tellsAs_42 : decode cX12_tellsAs 42 = .ok (.invokevirtual 359, 3) := kd_r kbX12_tellsAs ki_695 rfl
theorem dX12_tellsAs_45 : decode cX12_tellsAs 45 = .ok (.isub, 1) := kd_r kbX12_tellsAs ki_50 rfl
theorem dX12_tellsAs_46 : decode cX12_tellsAs 46 = .ok (.ireturn, 1) := kd_r kbX12_tellsAs ki_7 rfl
set_option maxRecDepth 20000 in
theorem ggX12_act_X12_isBody : GoodIn wsX12_act wsX12_isBody := goodIn_r _ [9, 10, 11, 12, 8, 13, 35, 36, 37, 38, 39, 40, 41, 42, 43, 44, 45, 46, 47, 48, 49, 50, 51, 52, 53, 54, 55, 56, 57, 58, 59, 60, 61, 62, 63, 64, 65, 66, 67, 68, 69, 70, 71, 72, 73, 74, 75, 76, 77, 78, 79, 80, 81, 82, 83] rfl (by decide +kernel)
set_option maxRecDepth 20000 in
theorem gX12_act_X12_isBody : GoodIn wsX12_act (wsV RX12 365 RX12 yX12_isBody wsX12_isBody) := goodIn_app (goodIn_of _ (by decide +kernel)) ggX12_act_X12_isBody
set_option maxRecDepth 20000 in
theorem ggX12_act_X12_runsAs : GoodIn wsX12_act wsX12_runsAs := goodIn_r _ [17, 4, 18, 19, 20, 8, 21, 1, 22, 14, 15, 16, 35, 36, 37, 38, 39, 40, 41, 42, 43, 44, 45, 46, 47, 48, 49, 50, 51, 52, 53, 54, 55, 56, 57, 58, 59, 60, 61, 62, 63, 64, 65, 66, 67, 68, 69, 70, 71, 72, 73, 74, 75, 76, 77, 78, 79, 80, 81, 82, 83] rfl (by decide +kernel)
set_option maxRecDepth 20000 in
theorem gX12_act_X12_runsAs : GoodIn wsX12_act (wsV RX12 347 RX12 yX12_runsAs wsX12_runsAs) := goodIn_app (goodIn_of _ (by decide +kernel)) ggX12_act_X12_runsAs
set_option maxRecDepth 20000 in
theorem ggX12_act_X12_breaksAs : GoodIn wsX12_act wsX12_breaksAs := goodIn_r _ [26, 3, 18, 19, 20, 8, 21, 1, 22, 23, 24, 25, 27, 28, 29, 30, 4, 14, 15, 16, 17, 35, 36, 37, 38, 39, 40, 41, 42, 43, 44, 45, 46, 47, 48, 49, 50, 51, 52, 53, 54, 55, 56, 57, 58, 59, 60, 61, 62, 63, 64, 65, 66, 67, 68, 69, 70, 71, 72, 73, 74, 75, 76, 77, 78, 79, 80, 81, 82, 83] rfl (by decide +kernel)
set_option maxRecDepth 20000 in
theorem gX12_act_X12_breaksAs : GoodIn wsX12_act (wsV RX12 353 RX12 yX12_breaksAs wsX12_breaksAs) := goodIn_app (goodIn_of _ (by decide +kernel)) ggX12_act_X12_breaksAs
set_option maxRecDepth 20000 in
theorem ggX12_act_X12_leadsAs : GoodIn wsX12_act wsX12_leadsAs := goodIn_r _ [30, 3, 4, 18, 19, 20, 8, 21, 1, 22, 27, 28, 29, 14, 15, 16, 17, 35, 36, 37, 38, 39, 40, 41, 42, 43, 44, 45, 46, 47, 48, 49, 50, 51, 52, 53, 54, 55, 56, 57, 58, 59, 60, 61, 62, 63, 64, 65, 66, 67, 68, 69, 70, 71, 72, 73, 74, 75, 76, 77, 78, 79, 80, 81, 82, 83] rfl (by decide +kernel)
set_option maxRecDepth 20000 in
theorem gX12_act_X12_leadsAs : GoodIn wsX12_act (wsV RX12 359 RX12 yX12_leadsAs wsX12_leadsAs) := goodIn_app (goodIn_of _ (by decide +kernel)) ggX12_act_X12_leadsAs
set_option maxRecDepth 20000 in
theorem ggX12_act_X12_tellsAs : GoodIn wsX12_act wsX12_tellsAs := goodIn_r _ [34, 3, 18, 19, 20, 8, 21, 1, 22, 31, 32, 33, 23, 24, 25, 26, 27, 28, 29, 30, 4, 14, 15, 16, 17, 35, 36, 37, 38, 39, 40, 41, 42, 43, 44, 45, 46, 47, 48, 49, 50, 51, 52, 53, 54, 55, 56, 57, 58, 59, 60, 61, 62, 63, 64, 65, 66, 67, 68, 69, 70, 71, 72, 73, 74, 75, 76, 77, 78, 79, 80, 81, 82, 83] rfl (by decide +kernel)
set_option maxRecDepth 20000 in
theorem gX12_act_X12_tellsAs : GoodIn wsX12_act (wsV RX12 362 RX12 yX12_tellsAs wsX12_tellsAs) := goodIn_app (goodIn_of _ (by decide +kernel)) ggX12_act_X12_tellsAs
theorem dX12_act_0 : decode cX12_act 0 = .ok (.aload_n 0, 1) := kd_r kbX12_act ki_0 rfl
theorem dX12_act_1 : decode cX12_act 1 = .ok (.iconst 0, 1) := kd_r kbX12_act ki_20 rfl
theorem dX12_act_2 : decode cX12_act 2 = .ok (.putfield 340, 3) := kd_r kbX12_act ki_993 rfl
theorem dX12_act_5 : decode cX12_act 5 = .ok (.aload_n 0, 1) := kd_r kbX12_act ki_0 rfl
theorem dX12_act_6 : decode cX12_act 6 = .ok (.iload_n 1, 1) := kd_r kbX12_act ki_8 rfl
theorem dX12_act_7 : decode cX12_act 7 = .ok (.invokevirtual 365, 3) := kd_r kbX12_act ki_1005 rfl
theorem dX12_act_10 : decode cX12_act 10 = .ok (.ifCond .ne 5, 3) := kd_r kbX12_act ki_36 rfl
theorem dX12_act_13 : decode cX12_act 13 = .ok (.iconst 0, 1) := kd_r kbX12_act ki_20 rfl
theorem dX12_act_14 : decode cX12_act 14 = .ok (.ireturn, 1) := kd_r kbX12_act ki_7 rfl
theorem dX12_act_15 : decode cX12_act 15 = .ok (.aload_n 0, 1) := kd_r kbX12_act ki_0 rfl
theorem dX12_act_16 : decode cX12_act 16 = .ok (.aload_n 0, 1) := kd_r kbX12_act ki_0 rfl
theorem dX12_act_17 : decode cX12_act 17 = .ok (.getfield 80, 3) := kd_r kbX12_act ki_989 rfl
theorem dX12_act_20 : decode cX12_act 20 = .ok (.iload_n 1, 1) := kd_r kbX12_act ki_8 rfl
theorem dX12_act_21 : decode cX12_act 21 = .ok (.iaload, 1) := kd_r kbX12_act ki_14 rfl
theorem dX12_act_22 : decode cX12_act 22 = .ok (.putfield 356, 3) := kd_r kbX12_act ki_1006 rfl
theorem dX12_act_25 : decode cX12_act 25 = .ok (.aload_n 0, 1) := kd_r kbX12_act ki_0 rfl
theorem dX12_act_26 : decode cX12_act 26 = .ok (.iload_n 1, 1) := kd_r kbX12_act ki_8 rfl
theorem dX12_act_27 : decode cX12_act 27 = .ok (.putfield 350, 3) := kd_r kbX12_act ki_1007 rfl
theorem dX12_act_30 : decode cX12_act 30 = .ok (.iload_n 2, 1) := kd_r kbX12_act ki_11 rfl
theorem dX12_act_31 : decode cX12_act 31 = .ok (.tableswitch 69 0 3 #[29, 39, 49, 59], 29) := by decide +kernel
theorem dX12_act_60 : decode cX12_act 60 = .ok (.aload_n 0, 1) := kd_r kbX12_act ki_0 rfl
theorem dX12_act_61 : decode cX12_act 61 = .ok (.aload_n 0, 1) := kd_r kbX12_act ki_0 rfl
theorem dX12_act_62 : decode cX12_act 62 = .ok (.getfield 356, 3) := kd_r kbX12_act ki_1002 rfl
theorem dX12_act_65 : decode cX12_act 65 = .ok (.iload_n 3, 1) := kd_r kbX12_act ki_55 rfl
theorem dX12_act_66 : decode cX12_act 66 = .ok (.invokevirtual 347, 3) := kd_r kbX12_act ki_997 rfl
theorem dX12_act_69 : decode cX12_act 69 = .ok (.ireturn, 1) := kd_r kbX12_act ki_7 rfl
theorem dX12_act_70 : decode cX12_act 70 = .ok (.aload_n 0, 1) := kd_r kbX12_act ki_0 rfl
theorem dX12_act_71 : decode cX12_act 71 = .ok (.aload_n 0, 1) := kd_r kbX12_act ki_0 rfl
theorem dX12_act_72 : decode cX12_act 72 = .ok (.getfield 356, 3) := kd_r kbX12_act ki_1002 rfl
theorem dX12_act_75 : decode cX12_act 75 = .ok (.iload_n 3, 1) := kd_r kbX12_act ki_55 rfl
theorem dX12_act_76 : decode cX12_act 76 = .ok (.invokevirtual 353, 3) := kd_r kbX12_act ki_1001 rfl
theorem dX12_act_79 : decode cX12_act 79 = .ok (.ireturn, 1) := kd_r kbX12_act ki_7 rfl
theorem dX12_act_80 : decode cX12_act 80 = .ok (.aload_n 0, 1) := kd_r kbX12_act ki_0 rfl
theorem dX12_act_81 : decode cX12_act 81 = .ok (.aload_n 0, 1) := kd_r kbX12_act ki_0 rfl
theorem dX12_act_82 : decode cX12_act 82 = .ok (.getfield 356, 3) := kd_r kbX12_act ki_1002 rfl
theorem dX12_act_85 : decode cX12_act 85 = .ok (.iload_n 3, 1) := kd_r kbX12_act ki_55 rfl
theorem dX12_act_86 : decode cX12_act 86 = .ok (.invokevirtual 359, 3) := kd_r kbX12_act ki_695 rfl
theorem dX12_act_89 : decode cX12_act 89 = .ok (.ireturn, 1) := kd_r kbX12_act ki_7 rfl
theorem dX12_act_90 : decode cX12_act 90 = .ok (.aload_n 0, 1) := kd_r kbX12_act ki_0 rfl
theorem dX12_act_91 : decode cX12_act 91 = .ok (.aload_n 0, 1) := kd_r kbX12_act ki_0 rfl
theorem dX12_act_92 : decode cX12_act 92 = .ok (.getfield 356, 3) := kd_r kbX12_act ki_1002 rfl
theorem dX12_act_95 : decode cX12_act 95 = .ok (.iload_n 3, 1) := kd_r kbX12_act ki_55 rfl
theorem dX12_act_96 : decode cX12_act 96 = .ok (.invokevirtual 362, 3) := kd_r kbX12_act ki_696 rfl
theorem dX12_act_99 : decode cX12_act 99 = .ok (.ireturn, 1) := kd_r kbX12_act ki_7 rfl
theorem dX12_act_100 : decode cX12_act 100 = .ok (.iconst 0, 1) := kd_r kbX12_act ki_20 rfl
theorem dX12_act_101 : decode cX12_act 101 = .ok (.ireturn, 1) := kd_r kbX12_act ki_7 rfl
theorem dX12_trace_0 : decode cX12_trace 0 = .ok (.iload_n 1, 1) := kd_r kbX12_trace ki_8 rfl
theorem dX12_trace_1 : decode cX12_trace 1 = .ok (.ifCond .lt 26, 3) := kd_r kbX12_trace ki_296 rfl
theorem dX12_trace_4 : decode cX12_trace 4 = .ok (.iload_n 1, 1) := kd_r kbX12_trace ki_8 rfl
theorem dX12_trace_5 : decode cX12_trace 5 = .ok (.aload_n 0, 1) := kd_r kbX12_trace ki_0 rfl
theorem dX12_trace_6 : decode cX12_trace 6 = .ok (.getfield 340, 3) := kd_r kbX12_trace ki_991 rfl
theorem dX12_trace_9 : decode cX12_trace 9 = .ok (.if_icmp .ge 18, 3) := kd_r kbX12_trace ki_297 rfl
theorem dX12_trace_12 : decode cX12_trace 12 = .ok (.iload_n 1, 1) := kd_r kbX12_trace ki_8 rfl
theorem dX12_trace_13 : decode cX12_trace 13 = .ok (.bipush 24, 2) := kd_r kbX12_trace ki_286 rfl
theorem dX12_trace_15 : decode cX12_trace 15 = .ok (.if_icmp .ge 12, 3) := kd_r kbX12_trace ki_298 rfl
theorem dX12_trace_18 : decode cX12_trace 18 = .ok (.aload_n 0, 1) := kd_r kbX12_trace ki_0 rfl
theorem dX12_trace_19 : decode cX12_trace 19 = .ok (.getfield 83, 3) := kd_r kbX12_trace ki_992 rfl
theorem dX12_trace_22 : decode cX12_trace 22 = .ok (.iload_n 1, 1) := kd_r kbX12_trace ki_8 rfl
theorem dX12_trace_23 : decode cX12_trace 23 = .ok (.iaload, 1) := kd_r kbX12_trace ki_14 rfl
theorem dX12_trace_24 : decode cX12_trace 24 = .ok (.goto 4, 3) := kd_r kbX12_trace ki_19 rfl
theorem dX12_trace_27 : decode cX12_trace 27 = .ok (.iconst (-1), 1) := kd_r kbX12_trace ki_99 rfl
theorem dX12_trace_28 : decode cX12_trace 28 = .ok (.ireturn, 1) := kd_r kbX12_trace ki_7 rfl
set_option maxRecDepth 20000 in
theorem ggX12_isShelf_X12_within : GoodIn wsX12_isShelf wsX12_within := goodIn_r _ [5] rfl (by decide +kernel)
set_option maxRecDepth 20000 in
theorem gX12_isShelf_X12_within : GoodIn wsX12_isShelf (va_wsS RX12 109 yX12_within wsX12_within) := goodIn_app (goodIn_of _ (by decide +kernel)) ggX12_isShelf_X12_within
theorem dX12_isShelf_0 : decode cX12_isShelf 0 = .ok (.iload_n 0, 1) := kd_r kbX12_isShelf ki_40 rfl
theorem dX12_isShelf_1 : decode cX12_isShelf 1 = .ok (.i2l, 1) := kd_r kbX12_isShelf ki_399 rfl
theorem dX12_isShelf_2 : decode cX12_isShelf 2 = .ok (.lconst 0, 1) := kd_r kbX12_isShelf ki_172 rfl
theorem dX12_isShelf_3 : decode cX12_isShelf 3 = .ok (.ldc2_w 368, 3) := kd_r kbX12_isShelf ki_1008 rfl
theorem dX12_isShelf_6 : decode cX12_isShelf 6 = .ok (.invokestatic 109, 3) := kd_r kbX12_isShelf ki_751 rfl
theorem dX12_isShelf_9 : decode cX12_isShelf 9 = .ok (.ireturn, 1) := kd_r kbX12_isShelf ki_7 rfl
set_option maxRecDepth 20000 in
theorem ggX12_keep_X12_isShelf : GoodIn wsX12_keep wsX12_isShelf := goodIn_r _ [6, 7, 8, 9, 5, 10] rfl (by decide +kernel)
set_option maxRecDepth 20000 in
theorem gX12_keep_X12_isShelf : GoodIn wsX12_keep (va_wsS RX12 138 yX12_isShelf wsX12_isShelf) := goodIn_app (goodIn_of _ (by decide +kernel)) ggX12_keep_X12_isShelf
set_option maxRecDepth 20000 in
theorem ggX12_keep_X12_isBody : GoodIn wsX12_keep wsX12_isBody := goodIn_r _ [14, 15, 8, 9, 5, 10, 16, 17, 18, 19, 20, 21, 22, 23, 24, 25, 26, 27, 28, 29, 30, 31, 32, 33, 34, 35, 36, 37, 38, 39, 40, 41, 42, 43, 44, 45, 46, 47, 48, 49, 50, 51, 52, 53, 54, 55, 56, 57, 58, 59, 60, 61, 62, 63, 64] rfl (by decide +kernel)
set_option maxRecDepth 20000 in
theorem gX12_keep_X12_isBody : GoodIn wsX12_keep (wsV RX12 365 RX12 yX12_isBody wsX12_isBody) := goodIn_app (goodIn_of _ (by decide +kernel)) ggX12_keep_X12_isBody
theorem dX12_keep_0 : decode cX12_keep 0 = .ok (.iload_n 1, 1) := kd_r kbX12_keep ki_8 rfl
theorem dX12_keep_1 : decode cX12_keep 1 = .ok (.invokestatic 138, 3) := kd_r kbX12_keep ki_769 rfl
theorem dX12_keep_4 : decode cX12_keep 4 = .ok (.ifCond .eq 16, 3) := kd_r kbX12_keep ki_35 rfl
theorem dX12_keep_7 : decode cX12_keep 7 = .ok (.iload_n 2, 1) := kd_r kbX12_keep ki_11 rfl
theorem dX12_keep_8 : decode cX12_keep 8 = .ok (.iconst (-1), 1) := kd_r kbX12_keep ki_99 rfl
theorem dX12_keep_9 : decode cX12_keep 9 = .ok (.if_icmp .eq 13, 3) := kd_r kbX12_keep ki_90 rfl
theorem dX12_keep_12 : decode cX12_keep 12 = .ok (.aload_n 0, 1) := kd_r kbX12_keep ki_0 rfl
theorem dX12_keep_13 : decode cX12_keep 13 = .ok (.iload_n 2, 1) := kd_r kbX12_keep ki_11 rfl
theorem dX12_keep_14 : decode cX12_keep 14 = .ok (.invokevirtual 365, 3) := kd_r kbX12_keep ki_1005 rfl
theorem dX12_keep_17 : decode cX12_keep 17 = .ok (.ifCond .ne 5, 3) := kd_r kbX12_keep ki_36 rfl
theorem dX12_keep_20 : decode cX12_keep 20 = .ok (.iconst (-1), 1) := kd_r kbX12_keep ki_99 rfl
theorem dX12_keep_21 : decode cX12_keep 21 = .ok (.ireturn, 1) := kd_r kbX12_keep ki_7 rfl
theorem dX12_keep_22 : decode cX12_keep 22 = .ok (.aload_n 0, 1) := kd_r kbX12_keep ki_0 rfl
theorem dX12_keep_23 : decode cX12_keep 23 = .ok (.getfield 86, 3) := kd_r kbX12_keep ki_743 rfl
theorem dX12_keep_26 : decode cX12_keep 26 = .ok (.iload_n 1, 1) := kd_r kbX12_keep ki_8 rfl
theorem dX12_keep_27 : decode cX12_keep 27 = .ok (.iload_n 2, 1) := kd_r kbX12_keep ki_11 rfl
theorem dX12_keep_28 : decode cX12_keep 28 = .ok (.iastore, 1) := kd_r kbX12_keep ki_28 rfl
theorem dX12_keep_29 : decode cX12_keep 29 = .ok (.aload_n 0, 1) := kd_r kbX12_keep ki_0 rfl
theorem dX12_keep_30 : decode cX12_keep 30 = .ok (.getfield 89, 3) := kd_r kbX12_keep ki_778 rfl
theorem dX12_keep_33 : decode cX12_keep 33 = .ok (.iload_n 1, 1) := kd_r kbX12_keep ki_8 rfl
theorem dX12_keep_34 : decode cX12_keep 34 = .ok (.iconst 0, 1) := kd_r kbX12_keep ki_20 rfl
theorem dX12_keep_35 : decode cX12_keep 35 = .ok (.iastore, 1) := kd_r kbX12_keep ki_28 rfl
theorem dX12_keep_36 : decode cX12_keep 36 = .ok (.iconst 1, 1) := kd_r kbX12_keep ki_16 rfl
theorem dX12_keep_37 : decode cX12_keep 37 = .ok (.ireturn, 1) := kd_r kbX12_keep ki_7 rfl
set_option maxRecDepth 20000 in
theorem ggX12_row_X12_isShelf : GoodIn wsX12_row wsX12_isShelf := goodIn_r _ [8, 9, 10, 11, 7, 12] rfl (by decide +kernel)
set_option maxRecDepth 20000 in
theorem gX12_row_X12_isShelf : GoodIn wsX12_row (va_wsS RX12 138 yX12_isShelf wsX12_isShelf) := goodIn_app (goodIn_of _ (by decide +kernel)) ggX12_row_X12_isShelf
set_option maxRecDepth 20000 in
theorem ggX12_row_X12_within : GoodIn wsX12_row wsX12_within := goodIn_r _ [12] rfl (by decide +kernel)
set_option maxRecDepth 20000 in
theorem gX12_row_X12_within : GoodIn wsX12_row (va_wsS RX12 109 yX12_within wsX12_within) := goodIn_app (goodIn_of _ (by decide +kernel)) ggX12_row_X12_within
theorem dX12_row_0 : decode cX12_row 0 = .ok (.iload_n 1, 1) := kd_r kbX12_row ki_8 rfl
theorem dX12_row_1 : decode cX12_row 1 = .ok (.invokestatic 138, 3) := kd_r kbX12_row ki_769 rfl
theorem dX12_row_4 : decode cX12_row 4 = .ok (.ifCond .eq 21, 3) := kd_r kbX12_row ki_422 rfl
theorem dX12_row_7 : decode cX12_row 7 = .ok (.iload_n 2, 1) := kd_r kbX12_row ki_11 rfl
theorem dX12_row_8 : decode cX12_row 8 = .ok (.i2l, 1) := kd_r kbX12_row ki_399 rfl
theorem dX12_row_9 : decode cX12_row 9 = .ok (.lconst 0, 1) := kd_r kbX12_row ki_172 rfl
theorem dX12_row_10 : decode cX12_row 10 = .ok (.ldc2_w 183, 3) := kd_r kbX12_row ki_814 rfl
theorem dX12_row_13 : decode cX12_row 13 = .ok (.invokestatic 109, 3) := kd_r kbX12_row ki_751 rfl
theorem dX12_row_16 : decode cX12_row 16 = .ok (.ifCond .eq 9, 3) := kd_r kbX12_row ki_472 rfl
theorem dX12_row_19 : decode cX12_row 19 = .ok (.iload_n 3, 1) := kd_r kbX12_row ki_55 rfl
theorem dX12_row_20 : decode cX12_row 20 = .ok (.bipush 60, 2) := kd_r kbX12_row ki_384 rfl
theorem dX12_row_22 : decode cX12_row 22 = .ok (.if_icmp .le 5, 3) := kd_r kbX12_row ki_106 rfl
theorem dX12_row_25 : decode cX12_row 25 = .ok (.iconst (-1), 1) := kd_r kbX12_row ki_99 rfl
theorem dX12_row_26 : decode cX12_row 26 = .ok (.ireturn, 1) := kd_r kbX12_row ki_7 rfl
theorem dX12_row_27 : decode cX12_row 27 = .ok (.iload_n 3, 1) := kd_r kbX12_row ki_55 rfl
theorem dX12_row_28 : decode cX12_row 28 = .ok (.ifCond .ge 6, 3) := kd_r kbX12_row ki_555 rfl
theorem dX12_row_31 : decode cX12_row 31 = .ok (.bipush (-14), 2) := kd_r kbX12_row ki_684 rfl
theorem dX12_row_33 : decode cX12_row 33 = .ok (.ireturn, 1) := kd_r kbX12_row ki_7 rfl
theorem dX12_row_34 : decode cX12_row 34 = .ok (.aload_n 0, 1) := kd_r kbX12_row ki_0 rfl
theorem dX12_row_35 : decode cX12_row 35 = .ok (.getfield 86, 3) := kd_r kbX12_row ki_743 rfl
theorem dX12_row_38 : decode cX12_row 38 = .ok (.iload_n 1, 1) := kd_r kbX12_row ki_8 rfl
theorem dX12_row_39 : decode cX12_row 39 = .ok (.bipush 50, 2) := kd_r kbX12_row ki_285 rfl
theorem dX12_row_41 : decode cX12_row 41 = .ok (.iload_n 2, 1) := kd_r kbX12_row ki_11 rfl
theorem dX12_row_42 : decode cX12_row 42 = .ok (.iadd, 1) := kd_r kbX12_row ki_30 rfl
theorem dX12_row_43 : decode cX12_row 43 = .ok (.iastore, 1) := kd_r kbX12_row ki_28 rfl
theorem dX12_row_44 : decode cX12_row 44 = .ok (.aload_n 0, 1) := kd_r kbX12_row ki_0 rfl
theorem dX12_row_45 : decode cX12_row 45 = .ok (.getfield 89, 3) := kd_r kbX12_row ki_778 rfl
theorem dX12_row_48 : decode cX12_row 48 = .ok (.iload_n 1, 1) := kd_r kbX12_row ki_8 rfl
theorem dX12_row_49 : decode cX12_row 49 = .ok (.iload_n 3, 1) := kd_r kbX12_row ki_55 rfl
theorem dX12_row_50 : decode cX12_row 50 = .ok (.iastore, 1) := kd_r kbX12_row ki_28 rfl
theorem dX12_row_51 : decode cX12_row 51 = .ok (.bipush 60, 2) := kd_r kbX12_row ki_384 rfl
theorem dX12_row_53 : decode cX12_row 53 = .ok (.iload_n 1, 1) := kd_r kbX12_row ki_8 rfl
theorem dX12_row_54 : decode cX12_row 54 = .ok (.imul, 1) := kd_r kbX12_row ki_114 rfl
theorem dX12_row_55 : decode cX12_row 55 = .ok (.istore 4, 2) := kd_r kbX12_row ki_129 rfl
theorem dX12_row_57 : decode cX12_row 57 = .ok (.iload 4, 2) := kd_r kbX12_row ki_57 rfl
theorem dX12_row_59 : decode cX12_row 59 = .ok (.bipush 60, 2) := kd_r kbX12_row ki_384 rfl
theorem dX12_row_61 : decode cX12_row 61 = .ok (.iload_n 1, 1) := kd_r kbX12_row ki_8 rfl
theorem dX12_row_62 : decode cX12_row 62 = .ok (.imul, 1) := kd_r kbX12_row ki_114 rfl
theorem dX12_row_63 : decode cX12_row 63 = .ok (.bipush 60, 2) := kd_r kbX12_row ki_384 rfl
theorem dX12_row_65 : decode cX12_row 65 = .ok (.iadd, 1) := kd_r kbX12_row ki_30 rfl
theorem dX12_row_66 : decode cX12_row 66 = .ok (.if_icmp .ge 17, 3) := kd_r kbX12_row ki_424 rfl
theorem dX12_row_69 : decode cX12_row 69 = .ok (.aload_n 0, 1) := kd_r kbX12_row ki_0 rfl
theorem dX12_row_70 : decode cX12_row 70 = .ok (.getfield 92, 3) := kd_r kbX12_row ki_780 rfl
theorem dX12_row_73 : decode cX12_row 73 = .ok (.iload 4, 2) := kd_r kbX12_row ki_57 rfl
theorem dX12_row_75 : decode cX12_row 75 = .ok (.lconst 0, 1) := kd_r kbX12_row ki_172 rfl
theorem dX12_row_76 : decode cX12_row 76 = .ok (.lastore, 1) := kd_r kbX12_row ki_142 rfl
theorem dX12_row_77 : decode cX12_row 77 = .ok (.iinc 4 1, 3) := kd_r kbX12_row ki_144 rfl
theorem dX12_row_80 : decode cX12_row 80 = .ok (.goto (-23), 3) := kd_r kbX12_row ki_421 rfl
theorem dX12_row_83 : decode cX12_row 83 = .ok (.iconst 1, 1) := kd_r kbX12_row ki_16 rfl
theorem dX12_row_84 : decode cX12_row 84 = .ok (.ireturn, 1) := kd_r kbX12_row ki_7 rfl
set_option maxRecDepth 20000 in
theorem ggX12_refusal_X12_isShelf : GoodIn wsX12_refusal wsX12_isShelf := goodIn_r _ [6, 7, 8, 9, 5, 10] rfl (by decide +kernel)
set_option maxRecDepth 20000 in
theorem gX12_refusal_X12_isShelf : GoodIn wsX12_refusal (va_wsS RX12 138 yX12_isShelf wsX12_isShelf) := goodIn_app (goodIn_of _ (by decide +kernel)) ggX12_refusal_X12_isShelf
theorem dX12_refusal_0 : decode cX12_refusal 0 = .ok (.iload_n 1, 1) := kd_r kbX12_refusal ki_8 rfl
theorem dX12_refusal_1 : decode cX12_refusal 1 = .ok (.invokestatic 138, 3) := kd_r kbX12_refusal ki_769 rfl
theorem dX12_refusal_4 : decode cX12_refusal 4 = .ok (.ifCond .ne 5, 3) := kd_r kbX12_refusal ki_36 rfl
theorem dX12_refusal_7 : decode cX12_refusal 7 = .ok (.iconst (-1), 1) := kd_r kbX12_refusal ki_99 rfl
theorem dX12_refusal_8 : decode cX12_refusal 8 = .ok (.ireturn, 1) := kd_r kbX12_refusal ki_7 rfl
theorem dX12_refusal_9 : decode cX12_refusal 9 = .ok (.aload_n 0, 1) := kd_r kbX12_refusal ki_0 rfl
theorem dX12_refusal_10 : decode cX12_refusal 10 = .ok (.getfield 86, 3) := kd_r kbX12_refusal ki_743 rfl
theorem dX12_refusal_13 : decode cX12_refusal 13 = .ok (.iload_n 1, 1) := kd_r kbX12_refusal ki_8 rfl
theorem dX12_refusal_14 : decode cX12_refusal 14 = .ok (.iaload, 1) := kd_r kbX12_refusal ki_14 rfl
theorem dX12_refusal_15 : decode cX12_refusal 15 = .ok (.ifCond .ge 6, 3) := kd_r kbX12_refusal ki_555 rfl
theorem dX12_refusal_18 : decode cX12_refusal 18 = .ok (.bipush (-11), 2) := kd_r kbX12_refusal ki_387 rfl
theorem dX12_refusal_20 : decode cX12_refusal 20 = .ok (.ireturn, 1) := kd_r kbX12_refusal ki_7 rfl
theorem dX12_refusal_21 : decode cX12_refusal 21 = .ok (.aload_n 0, 1) := kd_r kbX12_refusal ki_0 rfl
theorem dX12_refusal_22 : decode cX12_refusal 22 = .ok (.getfield 86, 3) := kd_r kbX12_refusal ki_743 rfl
theorem dX12_refusal_25 : decode cX12_refusal 25 = .ok (.iload_n 1, 1) := kd_r kbX12_refusal ki_8 rfl
theorem dX12_refusal_26 : decode cX12_refusal 26 = .ok (.iaload, 1) := kd_r kbX12_refusal ki_14 rfl
theorem dX12_refusal_27 : decode cX12_refusal 27 = .ok (.bipush 50, 2) := kd_r kbX12_refusal ki_285 rfl
theorem dX12_refusal_29 : decode cX12_refusal 29 = .ok (.if_icmp .ge 6, 3) := kd_r kbX12_refusal ki_589 rfl
theorem dX12_refusal_32 : decode cX12_refusal 32 = .ok (.bipush (-12), 2) := kd_r kbX12_refusal ki_389 rfl
theorem dX12_refusal_34 : decode cX12_refusal 34 = .ok (.ireturn, 1) := kd_r kbX12_refusal ki_7 rfl
theorem dX12_refusal_35 : decode cX12_refusal 35 = .ok (.iload_n 2, 1) := kd_r kbX12_refusal ki_11 rfl
theorem dX12_refusal_36 : decode cX12_refusal 36 = .ok (.ifCond .lt 17, 3) := kd_r kbX12_refusal ki_771 rfl
theorem dX12_refusal_39 : decode cX12_refusal 39 = .ok (.iload_n 2, 1) := kd_r kbX12_refusal ki_11 rfl
theorem dX12_refusal_40 : decode cX12_refusal 40 = .ok (.aload_n 0, 1) := kd_r kbX12_refusal ki_0 rfl
theorem dX12_refusal_41 : decode cX12_refusal 41 = .ok (.getfield 89, 3) := kd_r kbX12_refusal ki_778 rfl
theorem dX12_refusal_44 : decode cX12_refusal 44 = .ok (.iload_n 1, 1) := kd_r kbX12_refusal ki_8 rfl
theorem dX12_refusal_45 : decode cX12_refusal 45 = .ok (.iaload, 1) := kd_r kbX12_refusal ki_14 rfl
theorem dX12_refusal_46 : decode cX12_refusal 46 = .ok (.if_icmp .ge 7, 3) := kd_r kbX12_refusal ki_42 rfl
theorem dX12_refusal_49 : decode cX12_refusal 49 = .ok (.iconst 0, 1) := kd_r kbX12_refusal ki_20 rfl
theorem dX12_refusal_50 : decode cX12_refusal 50 = .ok (.goto 5, 3) := kd_r kbX12_refusal ki_342 rfl
theorem dX12_refusal_53 : decode cX12_refusal 53 = .ok (.bipush (-13), 2) := kd_r kbX12_refusal ki_390 rfl
theorem dX12_refusal_55 : decode cX12_refusal 55 = .ok (.ireturn, 1) := kd_r kbX12_refusal ki_7 rfl
theorem dX12_asSort_0 : decode cX12_asSort 0 = .ok (.iload_n 0, 1) := kd_r kbX12_asSort ki_40 rfl
theorem dX12_asSort_1 : decode cX12_asSort 1 = .ok (.ifCond .ne 10, 3) := kd_r kbX12_asSort ki_414 rfl
theorem dX12_asSort_4 : decode cX12_asSort 4 = .ok (.lload_n 1, 1) := kd_r kbX12_asSort ki_396 rfl
theorem dX12_asSort_5 : decode cX12_asSort 5 = .ok (.l2i, 1) := kd_r kbX12_asSort ki_397 rfl
theorem dX12_asSort_6 : decode cX12_asSort 6 = .ok (.i2b, 1) := kd_r kbX12_asSort ki_398 rfl
theorem dX12_asSort_7 : decode cX12_asSort 7 = .ok (.i2l, 1) := kd_r kbX12_asSort ki_399 rfl
theorem dX12_asSort_8 : decode cX12_asSort 8 = .ok (.goto 46, 3) := kd_r kbX12_asSort ki_1009 rfl
theorem dX12_asSort_11 : decode cX12_asSort 11 = .ok (.iload_n 0, 1) := kd_r kbX12_asSort ki_40 rfl
theorem dX12_asSort_12 : decode cX12_asSort 12 = .ok (.iconst 1, 1) := kd_r kbX12_asSort ki_16 rfl
theorem dX12_asSort_13 : decode cX12_asSort 13 = .ok (.if_icmp .ne 10, 3) := kd_r kbX12_asSort ki_415 rfl
theorem dX12_asSort_16 : decode cX12_asSort 16 = .ok (.lload_n 1, 1) := kd_r kbX12_asSort ki_396 rfl
theorem dX12_asSort_17 : decode cX12_asSort 17 = .ok (.l2i, 1) := kd_r kbX12_asSort ki_397 rfl
theorem dX12_asSort_18 : decode cX12_asSort 18 = .ok (.i2s, 1) := kd_r kbX12_asSort ki_400 rfl
theorem dX12_asSort_19 : decode cX12_asSort 19 = .ok (.i2l, 1) := kd_r kbX12_asSort ki_399 rfl
theorem dX12_asSort_20 : decode cX12_asSort 20 = .ok (.goto 34, 3) := kd_r kbX12_asSort ki_1010 rfl
theorem dX12_asSort_23 : decode cX12_asSort 23 = .ok (.iload_n 0, 1) := kd_r kbX12_asSort ki_40 rfl
theorem dX12_asSort_24 : decode cX12_asSort 24 = .ok (.iconst 2, 1) := kd_r kbX12_asSort ki_244 rfl
theorem dX12_asSort_25 : decode cX12_asSort 25 = .ok (.if_icmp .ne 9, 3) := kd_r kbX12_asSort ki_881 rfl
theorem dX12_asSort_28 : decode cX12_asSort 28 = .ok (.lload_n 1, 1) := kd_r kbX12_asSort ki_396 rfl
theorem dX12_asSort_29 : decode cX12_asSort 29 = .ok (.l2i, 1) := kd_r kbX12_asSort ki_397 rfl
theorem dX12_asSort_30 : decode cX12_asSort 30 = .ok (.i2l, 1) := kd_r kbX12_asSort ki_399 rfl
theorem dX12_asSort_31 : decode cX12_asSort 31 = .ok (.goto 23, 3) := kd_r kbX12_asSort ki_557 rfl
theorem dX12_asSort_34 : decode cX12_asSort 34 = .ok (.iload_n 0, 1) := kd_r kbX12_asSort ki_40 rfl
theorem dX12_asSort_35 : decode cX12_asSort 35 = .ok (.iconst 4, 1) := kd_r kbX12_asSort ki_247 rfl
theorem dX12_asSort_36 : decode cX12_asSort 36 = .ok (.if_icmp .ne 17, 3) := kd_r kbX12_asSort ki_647 rfl
theorem dX12_asSort_39 : decode cX12_asSort 39 = .ok (.lload_n 1, 1) := kd_r kbX12_asSort ki_396 rfl
theorem dX12_asSort_40 : decode cX12_asSort 40 = .ok (.lconst 0, 1) := kd_r kbX12_asSort ki_172 rfl
theorem dX12_asSort_41 : decode cX12_asSort 41 = .ok (.lcmp, 1) := kd_r kbX12_asSort ki_173 rfl
theorem dX12_asSort_42 : decode cX12_asSort 42 = .ok (.ifCond .eq 7, 3) := kd_r kbX12_asSort ki_18 rfl
theorem dX12_asSort_45 : decode cX12_asSort 45 = .ok (.lconst 1, 1) := kd_r kbX12_asSort ki_124 rfl
theorem dX12_asSort_46 : decode cX12_asSort 46 = .ok (.goto 8, 3) := kd_r kbX12_asSort ki_261 rfl
theorem dX12_asSort_49 : decode cX12_asSort 49 = .ok (.lconst 0, 1) := kd_r kbX12_asSort ki_172 rfl
theorem dX12_asSort_50 : decode cX12_asSort 50 = .ok (.goto 4, 3) := kd_r kbX12_asSort ki_19 rfl
theorem dX12_asSort_53 : decode cX12_asSort 53 = .ok (.lload_n 1, 1) := kd_r kbX12_asSort ki_396 rfl
theorem dX12_asSort_54 : decode cX12_asSort 54 = .ok (.lreturn, 1) := kd_r kbX12_asSort ki_393 rfl
set_option maxRecDepth 20000 in
theorem ggX12_put_X12_refusal : GoodIn wsX12_put wsX12_refusal := goodIn_r _ [7, 2, 8, 9, 10, 6, 11, 12, 13, 14, 15, 19, 20, 21, 22, 23, 24, 25, 26, 27, 28, 29, 30, 31, 32, 33, 34, 35, 36, 37, 38, 39, 40, 41, 42, 43, 44, 45, 46, 47, 48, 49, 50, 51, 52, 53, 54, 55, 56, 57, 58, 59, 60, 61, 62, 63, 64, 65, 66, 67] rfl (by decide +kernel)
set_option maxRecDepth 20000 in
theorem gX12_put_X12_refusal : GoodIn wsX12_put (wsV RX12 370 RX12 yX12_refusal wsX12_refusal) := goodIn_app (goodIn_of _ (by decide +kernel)) ggX12_put_X12_refusal
set_option maxRecDepth 20000 in
theorem ggX12_put_X12_asSort : GoodIn wsX12_put wsX12_asSort := goodIn_r _ [18] rfl (by decide +kernel)
set_option maxRecDepth 20000 in
theorem gX12_put_X12_asSort : GoodIn wsX12_put (va_wsS RX12 373 yX12_asSort wsX12_asSort) := goodIn_app (goodIn_of _ (by decide +kernel)) ggX12_put_X12_asSort
theorem dX12_put_0 : decode cX12_put 0 = .ok (.aload_n 0, 1) := kd_r kbX12_put ki_0 rfl
theorem dX12_put_1 : decode cX12_put 1 = .ok (.iload_n 1, 1) := kd_r kbX12_put ki_8 rfl
theorem dX12_put_2 : decode cX12_put 2 = .ok (.iload_n 2, 1) := kd_r kbX12_put ki_11 rfl
theorem dX12_put_3 : decode cX12_put 3 = .ok (.invokevirtual 370, 3) := kd_r kbX12_put ki_1011 rfl
theorem dX12_put_6 : decode cX12_put 6 = .ok (.istore 5, 2) := kd_r kbX12_put ki_133 rfl
theorem dX12_put_8 : decode cX12_put 8 = .ok (.iload 5, 2) := kd_r kbX12_put ki_134 rfl
theorem dX12_put_10 : decode cX12_put 10 = .ok (.ifCond .ne 27, 3) := kd_r kbX12_put ki_183 rfl
theorem dX12_put_13 : decode cX12_put 13 = .ok (.aload_n 0, 1) := kd_r kbX12_put ki_0 rfl
theorem dX12_put_14 : decode cX12_put 14 = .ok (.getfield 92, 3) := kd_r kbX12_put ki_780 rfl
theorem dX12_put_17 : decode cX12_put 17 = .ok (.bipush 60, 2) := kd_r kbX12_put ki_384 rfl
theorem dX12_put_19 : decode cX12_put 19 = .ok (.iload_n 1, 1) := kd_r kbX12_put ki_8 rfl
theorem dX12_put_20 : decode cX12_put 20 = .ok (.imul, 1) := kd_r kbX12_put ki_114 rfl
theorem dX12_put_21 : decode cX12_put 21 = .ok (.iload_n 2, 1) := kd_r kbX12_put ki_11 rfl
theorem dX12_put_22 : decode cX12_put 22 = .ok (.iadd, 1) := kd_r kbX12_put ki_30 rfl
theorem dX12_put_23 : decode cX12_put 23 = .ok (.aload_n 0, 1) := kd_r kbX12_put ki_0 rfl
theorem dX12_put_24 : decode cX12_put 24 = .ok (.getfield 86, 3) := kd_r kbX12_put ki_743 rfl
theorem dX12_put_27 : decode cX12_put 27 = .ok (.iload_n 1, 1) := kd_r kbX12_put ki_8 rfl
theorem dX12_put_28 : decode cX12_put 28 = .ok (.iaload, 1) := kd_r kbX12_put ki_14 rfl
theorem dX12_put_29 : decode cX12_put 29 = .ok (.bipush 50, 2) := kd_r kbX12_put ki_285 rfl
theorem dX12_put_31 : decode cX12_put 31 = .ok (.isub, 1) := kd_r kbX12_put ki_50 rfl
theorem dX12_put_32 : decode cX12_put 32 = .ok (.lload_n 3, 1) := kd_r kbX12_put ki_687 rfl
theorem dX12_put_33 : decode cX12_put 33 = .ok (.invokestatic 373, 3) := kd_r kbX12_put ki_1012 rfl
theorem dX12_put_36 : decode cX12_put 36 = .ok (.lastore, 1) := kd_r kbX12_put ki_142 rfl
theorem dX12_put_37 : decode cX12_put 37 = .ok (.iload 5, 2) := kd_r kbX12_put ki_134 rfl
theorem dX12_put_39 : decode cX12_put 39 = .ok (.ifCond .ne 7, 3) := kd_r kbX12_put ki_260 rfl
theorem dX12_put_42 : decode cX12_put 42 = .ok (.iconst 1, 1) := kd_r kbX12_put ki_16 rfl
theorem dX12_put_43 : decode cX12_put 43 = .ok (.goto 5, 3) := kd_r kbX12_put ki_342 rfl
theorem dX12_put_46 : decode cX12_put 46 = .ok (.iload 5, 2) := kd_r kbX12_put ki_134 rfl
theorem dX12_put_48 : decode cX12_put 48 = .ok (.ireturn, 1) := kd_r kbX12_put ki_7 rfl
set_option maxRecDepth 20000 in
theorem ggX12_element_X12_refusal : GoodIn wsX12_element wsX12_refusal := goodIn_r _ [7, 8, 9, 10, 11, 6, 12, 13, 14, 15, 16, 17, 18, 19, 20, 21, 22, 23, 24, 25, 26, 27, 28, 29, 30, 31, 32, 33, 34, 35, 36, 37, 38, 39, 40, 41, 42, 43, 44, 45, 46, 47, 48, 49, 50, 51, 52, 53, 54, 55, 56, 57, 58, 59, 60, 61, 62, 63, 64, 65] rfl (by decide +kernel)
set_option maxRecDepth 20000 in
theorem gX12_element_X12_refusal : GoodIn wsX12_element (wsV RX12 370 RX12 yX12_refusal wsX12_refusal) := goodIn_app (goodIn_of _ (by decide +kernel)) ggX12_element_X12_refusal
theorem dX12_element_0 : decode cX12_element 0 = .ok (.aload_n 0, 1) := kd_r kbX12_element ki_0 rfl
theorem dX12_element_1 : decode cX12_element 1 = .ok (.iload_n 1, 1) := kd_r kbX12_element ki_8 rfl
theorem dX12_element_2 : decode cX12_element 2 = .ok (.iload_n 2, 1) := kd_r kbX12_element ki_11 rfl
theorem dX12_element_3 : decode cX12_element 3 = .ok (.invokevirtual 370, 3) := kd_r kbX12_element ki_1011 rfl
theorem dX12_element_6 : decode cX12_element 6 = .ok (.ifCond .eq 9, 3) := kd_r kbX12_element ki_472 rfl
theorem dX12_element_9 : decode cX12_element 9 = .ok (.ldc2_w 379, 3) := kd_r kbX12_element ki_1013 rfl
theorem dX12_element_12 : decode cX12_element 12 = .ok (.goto 14, 3) := kd_r kbX12_element ki_625 rfl
theorem dX12_element_15 : decode cX12_element 15 = .ok (.aload_n 0, 1) := kd_r kbX12_element ki_0 rfl
theorem dX12_element_16 : decode cX12_element 16 = .ok (.getfield 92, 3) := kd_r kbX12_element ki_780 rfl
theorem dX12_element_19 : decode cX12_element 19 = .ok (.bipush 60, 2) := kd_r kbX12_element ki_384 rfl
theorem dX12_element_21 : decode cX12_element 21 = .ok (.iload_n 1, 1) := kd_r kbX12_element ki_8 rfl
theorem dX12_element_22 : decode cX12_element 22 = .ok (.imul, 1) := kd_r kbX12_element ki_114 rfl
theorem dX12_element_23 : decode cX12_element 23 = .ok (.iload_n 2, 1) := kd_r kbX12_element ki_11 rfl
theorem dX12_element_24 : decode cX12_element 24 = .ok (.iadd, 1) := kd_r kbX12_element ki_30 rfl
theorem dX12_element_25 : decode cX12_element 25 = .ok (.laload, 1) := kd_r kbX12_element ki_149 rfl
theorem dX12_element_26 : decode cX12_element 26 = .ok (.lreturn, 1) := kd_r kbX12_element ki_393 rfl
set_option maxRecDepth 20000 in
theorem ggX12_shift_X12_isShelf : GoodIn wsX12_shift wsX12_isShelf := goodIn_r _ [8, 9, 10, 11, 7, 12] rfl (by decide +kernel)
set_option maxRecDepth 20000 in
theorem gX12_shift_X12_isShelf : GoodIn wsX12_shift (va_wsS RX12 138 yX12_isShelf wsX12_isShelf) := goodIn_app (goodIn_of _ (by decide +kernel)) ggX12_shift_X12_isShelf
theorem dX12_shift_0 : decode cX12_shift 0 = .ok (.iload_n 1, 1) := kd_r kbX12_shift ki_8 rfl
theorem dX12_shift_1 : decode cX12_shift 1 = .ok (.invokestatic 138, 3) := kd_r kbX12_shift ki_769 rfl
theorem dX12_shift_4 : decode cX12_shift 4 = .ok (.ifCond .eq 10, 3) := kd_r kbX12_shift ki_306 rfl
theorem dX12_shift_7 : decode cX12_shift 7 = .ok (.iload_n 3, 1) := kd_r kbX12_shift ki_55 rfl
theorem dX12_shift_8 : decode cX12_shift 8 = .ok (.invokestatic 138, 3) := kd_r kbX12_shift ki_769 rfl
theorem dX12_shift_11 : decode cX12_shift 11 = .ok (.ifCond .ne 5, 3) := kd_r kbX12_shift ki_36 rfl
theorem dX12_shift_14 : decode cX12_shift 14 = .ok (.iconst (-1), 1) := kd_r kbX12_shift ki_99 rfl
theorem dX12_shift_15 : decode cX12_shift 15 = .ok (.ireturn, 1) := kd_r kbX12_shift ki_7 rfl
theorem dX12_shift_16 : decode cX12_shift 16 = .ok (.aload_n 0, 1) := kd_r kbX12_shift ki_0 rfl
theorem dX12_shift_17 : decode cX12_shift 17 = .ok (.getfield 86, 3) := kd_r kbX12_shift ki_743 rfl
theorem dX12_shift_20 : decode cX12_shift 20 = .ok (.iload_n 1, 1) := kd_r kbX12_shift ki_8 rfl
theorem dX12_shift_21 : decode cX12_shift 21 = .ok (.iaload, 1) := kd_r kbX12_shift ki_14 rfl
theorem dX12_shift_22 : decode cX12_shift 22 = .ok (.ifCond .lt 12, 3) := kd_r kbX12_shift ki_123 rfl
theorem dX12_shift_25 : decode cX12_shift 25 = .ok (.aload_n 0, 1) := kd_r kbX12_shift ki_0 rfl
theorem dX12_shift_26 : decode cX12_shift 26 = .ok (.getfield 86, 3) := kd_r kbX12_shift ki_743 rfl
theorem dX12_shift_29 : decode cX12_shift 29 = .ok (.iload_n 3, 1) := kd_r kbX12_shift ki_55 rfl
theorem dX12_shift_30 : decode cX12_shift 30 = .ok (.iaload, 1) := kd_r kbX12_shift ki_14 rfl
theorem dX12_shift_31 : decode cX12_shift 31 = .ok (.ifCond .ge 6, 3) := kd_r kbX12_shift ki_555 rfl
theorem dX12_shift_34 : decode cX12_shift 34 = .ok (.bipush (-11), 2) := kd_r kbX12_shift ki_387 rfl
theorem dX12_shift_36 : decode cX12_shift 36 = .ok (.ireturn, 1) := kd_r kbX12_shift ki_7 rfl
theorem dX12_shift_37 : decode cX12_shift 37 = .ok (.aload_n 0, 1) := kd_r kbX12_shift ki_0 rfl
theorem dX12_shift_38 : decode cX12_shift 38 = .ok (.getfield 86, 3) := kd_r kbX12_shift ki_743 rfl
theorem dX12_shift_41 : decode cX12_shift 41 = .ok (.iload_n 1, 1) := kd_r kbX12_shift ki_8 rfl
theorem dX12_shift_42 : decode cX12_shift 42 = .ok (.iaload, 1) := kd_r kbX12_shift ki_14 rfl
theorem dX12_shift_43 : decode cX12_shift 43 = .ok (.bipush 50, 2) := kd_r kbX12_shift ki_285 rfl
theorem dX12_shift_45 : decode cX12_shift 45 = .ok (.if_icmp .lt 18, 3) := kd_r kbX12_shift ki_630 rfl
theorem dX12_shift_48 : decode cX12_shift 48 = .ok (.aload_n 0, 1) := kd_r kbX12_shift ki_0 rfl
theorem dX12_shift_49 : decode cX12_shift 49 = .ok (.getfield 86, 3) := kd_r kbX12_shift ki_743 rfl
theorem dX12_shift_52 : decode cX12_shift 52 = .ok (.iload_n 1, 1) := kd_r kbX12_shift ki_8 rfl
theorem dX12_shift_53 : decode cX12_shift 53 = .ok (.iaload, 1) := kd_r kbX12_shift ki_14 rfl
theorem dX12_shift_54 : decode cX12_shift 54 = .ok (.aload_n 0, 1) := kd_r kbX12_shift ki_0 rfl
theorem dX12_shift_55 : decode cX12_shift 55 = .ok (.getfield 86, 3) := kd_r kbX12_shift ki_743 rfl
theorem dX12_shift_58 : decode cX12_shift 58 = .ok (.iload_n 3, 1) := kd_r kbX12_shift ki_55 rfl
theorem dX12_shift_59 : decode cX12_shift 59 = .ok (.iaload, 1) := kd_r kbX12_shift ki_14 rfl
theorem dX12_shift_60 : decode cX12_shift 60 = .ok (.if_icmp .eq 6, 3) := kd_r kbX12_shift ki_773 rfl
theorem dX12_shift_63 : decode cX12_shift 63 = .ok (.bipush (-12), 2) := kd_r kbX12_shift ki_389 rfl
theorem dX12_shift_65 : decode cX12_shift 65 = .ok (.ireturn, 1) := kd_r kbX12_shift ki_7 rfl
theorem dX12_shift_66 : decode cX12_shift 66 = .ok (.iload 5, 2) := kd_r kbX12_shift ki_134 rfl
theorem dX12_shift_68 : decode cX12_shift 68 = .ok (.ifCond .lt 39, 3) := kd_r kbX12_shift ki_1014 rfl
theorem dX12_shift_71 : decode cX12_shift 71 = .ok (.iload_n 2, 1) := kd_r kbX12_shift ki_11 rfl
theorem dX12_shift_72 : decode cX12_shift 72 = .ok (.ifCond .lt 35, 3) := kd_r kbX12_shift ki_618 rfl
theorem dX12_shift_75 : decode cX12_shift 75 = .ok (.iload 4, 2) := kd_r kbX12_shift ki_57 rfl
theorem dX12_shift_77 : decode cX12_shift 77 = .ok (.ifCond .lt 30, 3) := kd_r kbX12_shift ki_784 rfl
theorem dX12_shift_80 : decode cX12_shift 80 = .ok (.iload_n 2, 1) := kd_r kbX12_shift ki_11 rfl
theorem dX12_shift_81 : decode cX12_shift 81 = .ok (.aload_n 0, 1) := kd_r kbX12_shift ki_0 rfl
theorem dX12_shift_82 : decode cX12_shift 82 = .ok (.getfield 89, 3) := kd_r kbX12_shift ki_778 rfl
theorem dX12_shift_85 : decode cX12_shift 85 = .ok (.iload_n 1, 1) := kd_r kbX12_shift ki_8 rfl
theorem dX12_shift_86 : decode cX12_shift 86 = .ok (.iaload, 1) := kd_r kbX12_shift ki_14 rfl
theorem dX12_shift_87 : decode cX12_shift 87 = .ok (.iload 5, 2) := kd_r kbX12_shift ki_134 rfl
theorem dX12_shift_89 : decode cX12_shift 89 = .ok (.isub, 1) := kd_r kbX12_shift ki_50 rfl
theorem dX12_shift_90 : decode cX12_shift 90 = .ok (.if_icmp .gt 17, 3) := kd_r kbX12_shift ki_392 rfl
theorem dX12_shift_93 : decode cX12_shift 93 = .ok (.iload 4, 2) := kd_r kbX12_shift ki_57 rfl
theorem dX12_shift_95 : decode cX12_shift 95 = .ok (.aload_n 0, 1) := kd_r kbX12_shift ki_0 rfl
theorem dX12_shift_96 : decode cX12_shift 96 = .ok (.getfield 89, 3) := kd_r kbX12_shift ki_778 rfl
theorem dX12_shift_99 : decode cX12_shift 99 = .ok (.iload_n 3, 1) := kd_r kbX12_shift ki_55 rfl
theorem dX12_shift_100 : decode cX12_shift 100 = .ok (.iaload, 1) := kd_r kbX12_shift ki_14 rfl
theorem dX12_shift_101 : decode cX12_shift 101 = .ok (.iload 5, 2) := kd_r kbX12_shift ki_134 rfl
theorem dX12_shift_103 : decode cX12_shift 103 = .ok (.isub, 1) := kd_r kbX12_shift ki_50 rfl
theorem dX12_shift_104 : decode cX12_shift 104 = .ok (.if_icmp .le 6, 3) := kd_r kbX12_shift ki_425 rfl
theorem dX12_shift_107 : decode cX12_shift 107 = .ok (.bipush (-13), 2) := kd_r kbX12_shift ki_390 rfl
theorem dX12_shift_109 : decode cX12_shift 109 = .ok (.ireturn, 1) := kd_r kbX12_shift ki_7 rfl
theorem dX12_shift_110 : decode cX12_shift 110 = .ok (.iconst 0, 1) := kd_r kbX12_shift ki_20 rfl
theorem dX12_shift_111 : decode cX12_shift 111 = .ok (.istore 6, 2) := kd_r kbX12_shift ki_199 rfl
theorem dX12_shift_113 : decode cX12_shift 113 = .ok (.iload 6, 2) := kd_r kbX12_shift ki_200 rfl
theorem dX12_shift_115 : decode cX12_shift 115 = .ok (.iload 5, 2) := kd_r kbX12_shift ki_134 rfl
theorem dX12_shift_117 : decode cX12_shift 117 = .ok (.if_icmp .ge 30, 3) := kd_r kbX12_shift ki_34 rfl
theorem dX12_shift_120 : decode cX12_shift 120 = .ok (.aload_n 0, 1) := kd_r kbX12_shift ki_0 rfl
theorem dX12_shift_121 : decode cX12_shift 121 = .ok (.getfield 96, 3) := kd_r kbX12_shift ki_1015 rfl
theorem dX12_shift_124 : decode cX12_shift 124 = .ok (.iload 6, 2) := kd_r kbX12_shift ki_200 rfl
theorem dX12_shift_126 : decode cX12_shift 126 = .ok (.aload_n 0, 1) := kd_r kbX12_shift ki_0 rfl
theorem dX12_shift_127 : decode cX12_shift 127 = .ok (.getfield 92, 3) := kd_r kbX12_shift ki_780 rfl
theorem dX12_shift_130 : decode cX12_shift 130 = .ok (.bipush 60, 2) := kd_r kbX12_shift ki_384 rfl
theorem dX12_shift_132 : decode cX12_shift 132 = .ok (.iload_n 1, 1) := kd_r kbX12_shift ki_8 rfl
theorem dX12_shift_133 : decode cX12_shift 133 = .ok (.imul, 1) := kd_r kbX12_shift ki_114 rfl
theorem dX12_shift_134 : decode cX12_shift 134 = .ok (.iload_n 2, 1) := kd_r kbX12_shift ki_11 rfl
theorem dX12_shift_135 : decode cX12_shift 135 = .ok (.iadd, 1) := kd_r kbX12_shift ki_30 rfl
theorem dX12_shift_136 : decode cX12_shift 136 = .ok (.iload 6, 2) := kd_r kbX12_shift ki_200 rfl
theorem dX12_shift_138 : decode cX12_shift 138 = .ok (.iadd, 1) := kd_r kbX12_shift ki_30 rfl
theorem dX12_shift_139 : decode cX12_shift 139 = .ok (.laload, 1) := kd_r kbX12_shift ki_149 rfl
theorem dX12_shift_140 : decode cX12_shift 140 = .ok (.lastore, 1) := kd_r kbX12_shift ki_142 rfl
theorem dX12_shift_141 : decode cX12_shift 141 = .ok (.iinc 6 1, 3) := kd_r kbX12_shift ki_208 rfl
theorem dX12_shift_144 : decode cX12_shift 144 = .ok (.goto (-31), 3) := kd_r kbX12_shift ki_915 rfl
theorem dX12_shift_147 : decode cX12_shift 147 = .ok (.iconst 0, 1) := kd_r kbX12_shift ki_20 rfl
theorem dX12_shift_148 : decode cX12_shift 148 = .ok (.istore 6, 2) := kd_r kbX12_shift ki_199 rfl
theorem dX12_shift_150 : decode cX12_shift 150 = .ok (.iload 6, 2) := kd_r kbX12_shift ki_200 rfl
theorem dX12_shift_152 : decode cX12_shift 152 = .ok (.iload 5, 2) := kd_r kbX12_shift ki_134 rfl
theorem dX12_shift_154 : decode cX12_shift 154 = .ok (.if_icmp .ge 31, 3) := kd_r kbX12_shift ki_89 rfl
theorem dX12_shift_157 : decode cX12_shift 157 = .ok (.aload_n 0, 1) := kd_r kbX12_shift ki_0 rfl
theorem dX12_shift_158 : decode cX12_shift 158 = .ok (.getfield 92, 3) := kd_r kbX12_shift ki_780 rfl
theorem dX12_shift_161 : decode cX12_shift 161 = .ok (.bipush 60, 2) := kd_r kbX12_shift ki_384 rfl
theorem dX12_shift_163 : decode cX12_shift 163 = .ok (.iload_n 3, 1) := kd_r kbX12_shift ki_55 rfl
theorem dX12_shift_164 : decode cX12_shift 164 = .ok (.imul, 1) := kd_r kbX12_shift ki_114 rfl
theorem dX12_shift_165 : decode cX12_shift 165 = .ok (.iload 4, 2) := kd_r kbX12_shift ki_57 rfl
theorem dX12_shift_167 : decode cX12_shift 167 = .ok (.iadd, 1) := kd_r kbX12_shift ki_30 rfl
theorem dX12_shift_168 : decode cX12_shift 168 = .ok (.iload 6, 2) := kd_r kbX12_shift ki_200 rfl
theorem dX12_shift_170 : decode cX12_shift 170 = .ok (.iadd, 1) := kd_r kbX12_shift ki_30 rfl
theorem dX12_shift_171 : decode cX12_shift 171 = .ok (.aload_n 0, 1) := kd_r kbX12_shift ki_0 rfl
theorem dX12_shift_172 : decode cX12_shift 172 = .ok (.getfield 96, 3) := kd_r kbX12_shift ki_1015 rfl
theorem dX12_shift_175 : decode cX12_shift 175 = .ok (.iload 6, 2) := kd_r kbX12_shift ki_200 rfl
theorem dX12_shift_177 : decode cX12_shift 177 = .ok (.laload, 1) := kd_r kbX12_shift ki_149 rfl
theorem dX12_shift_178 : decode cX12_shift 178 = .ok (.lastore, 1) := kd_r kbX12_shift ki_142 rfl
theorem dX12_shift_179 : decode cX12_shift 179 = .ok (.iinc 6 1, 3) := kd_r kbX12_shift ki_208 rfl
theorem dX12_shift_182 : decode cX12_shift 182 = .ok (.goto (-32), 3) := kd_r kbX12_shift ki_367 rfl
theorem dX12_shift_185 : decode cX12_shift 185 = .ok (.iload 5, 2) := kd_r kbX12_shift ki_134 rfl
theorem dX12_shift_187 : decode cX12_shift 187 = .ok (.ireturn, 1) := kd_r kbX12_shift ki_7 rfl
set_option maxRecDepth 20000 in
theorem ggX12_taken_X12_isShelf : GoodIn wsX12_taken wsX12_isShelf := goodIn_r _ [6, 7, 8, 9, 5, 10] rfl (by decide +kernel)
set_option maxRecDepth 20000 in
theorem gX12_taken_X12_isShelf : GoodIn wsX12_taken (va_wsS RX12 138 yX12_isShelf wsX12_isShelf) := goodIn_app (goodIn_of _ (by decide +kernel)) ggX12_taken_X12_isShelf
set_option maxRecDepth 20000 in
theorem ggX12_taken_X12_within : GoodIn wsX12_taken wsX12_within := goodIn_r _ [10] rfl (by decide +kernel)
set_option maxRecDepth 20000 in
theorem gX12_taken_X12_within : GoodIn wsX12_taken (va_wsS RX12 109 yX12_within wsX12_within) := goodIn_app (goodIn_of _ (by decide +kernel)) ggX12_taken_X12_within
set_option maxRecDepth 20000 in
theorem ggX12_taken_X12_kindOf : GoodIn wsX12_taken wsX12_kindOf := goodIn_r _ [14, 15, 19, 20, 21, 22, 23, 24, 25, 26, 27, 28, 29, 30, 31, 32, 33, 34, 35, 36, 37, 38, 39, 40, 41, 42, 43, 44, 45, 46, 47, 48, 49, 50, 51, 52, 53, 54, 55, 56, 57, 58, 59, 60, 61, 62, 63, 64, 65, 66, 67] rfl (by decide +kernel)
set_option maxRecDepth 20000 in
theorem gX12_taken_X12_kindOf : GoodIn wsX12_taken (wsV RX12 381 RX12 yX12_kindOf wsX12_kindOf) := goodIn_app (goodIn_of _ (by decide +kernel)) ggX12_taken_X12_kindOf
set_option maxRecDepth 20000 in
theorem ggX12_taken_X12_above : GoodIn wsX12_taken wsX12_above := goodIn_r _ [18] rfl (by decide +kernel)
set_option maxRecDepth 20000 in
theorem gX12_taken_X12_above : GoodIn wsX12_taken (va_wsS RX12 384 yX12_above wsX12_above) := goodIn_app (goodIn_of _ (by decide +kernel)) ggX12_taken_X12_above
theorem dX12_taken_0 : decode cX12_taken 0 = .ok (.iload_n 1, 1) := kd_r kbX12_taken ki_8 rfl
theorem dX12_taken_1 : decode cX12_taken 1 = .ok (.invokestatic 138, 3) := kd_r kbX12_taken ki_769 rfl
theorem dX12_taken_4 : decode cX12_taken 4 = .ok (.ifCond .eq 15, 3) := kd_r kbX12_taken ki_641 rfl
theorem dX12_taken_7 : decode cX12_taken 7 = .ok (.iload_n 2, 1) := kd_r kbX12_taken ki_11 rfl
theorem dX12_taken_8 : decode cX12_taken 8 = .ok (.i2l, 1) := kd_r kbX12_taken ki_399 rfl
theorem dX12_taken_9 : decode cX12_taken 9 = .ok (.lconst 0, 1) := kd_r kbX12_taken ki_172 rfl
theorem dX12_taken_10 : decode cX12_taken 10 = .ok (.ldc2_w 227, 3) := kd_r kbX12_taken ki_890 rfl
theorem dX12_taken_13 : decode cX12_taken 13 = .ok (.invokestatic 109, 3) := kd_r kbX12_taken ki_751 rfl
theorem dX12_taken_16 : decode cX12_taken 16 = .ok (.ifCond .ne 5, 3) := kd_r kbX12_taken ki_36 rfl
theorem dX12_taken_19 : decode cX12_taken 19 = .ok (.iconst (-1), 1) := kd_r kbX12_taken ki_99 rfl
theorem dX12_taken_20 : decode cX12_taken 20 = .ok (.ireturn, 1) := kd_r kbX12_taken ki_7 rfl
theorem dX12_taken_21 : decode cX12_taken 21 = .ok (.aload_n 0, 1) := kd_r kbX12_taken ki_0 rfl
theorem dX12_taken_22 : decode cX12_taken 22 = .ok (.getfield 86, 3) := kd_r kbX12_taken ki_743 rfl
theorem dX12_taken_25 : decode cX12_taken 25 = .ok (.iload_n 1, 1) := kd_r kbX12_taken ki_8 rfl
theorem dX12_taken_26 : decode cX12_taken 26 = .ok (.iaload, 1) := kd_r kbX12_taken ki_14 rfl
theorem dX12_taken_27 : decode cX12_taken 27 = .ok (.ifCond .ge 6, 3) := kd_r kbX12_taken ki_555 rfl
theorem dX12_taken_30 : decode cX12_taken 30 = .ok (.bipush (-11), 2) := kd_r kbX12_taken ki_387 rfl
theorem dX12_taken_32 : decode cX12_taken 32 = .ok (.ireturn, 1) := kd_r kbX12_taken ki_7 rfl
theorem dX12_taken_33 : decode cX12_taken 33 = .ok (.aload_n 0, 1) := kd_r kbX12_taken ki_0 rfl
theorem dX12_taken_34 : decode cX12_taken 34 = .ok (.getfield 86, 3) := kd_r kbX12_taken ki_743 rfl
theorem dX12_taken_37 : decode cX12_taken 37 = .ok (.iload_n 1, 1) := kd_r kbX12_taken ki_8 rfl
theorem dX12_taken_38 : decode cX12_taken 38 = .ok (.iaload, 1) := kd_r kbX12_taken ki_14 rfl
theorem dX12_taken_39 : decode cX12_taken 39 = .ok (.bipush 50, 2) := kd_r kbX12_taken ki_285 rfl
theorem dX12_taken_41 : decode cX12_taken 41 = .ok (.if_icmp .lt 6, 3) := kd_r kbX12_taken ki_644 rfl
theorem dX12_taken_44 : decode cX12_taken 44 = .ok (.bipush (-12), 2) := kd_r kbX12_taken ki_389 rfl
theorem dX12_taken_46 : decode cX12_taken 46 = .ok (.ireturn, 1) := kd_r kbX12_taken ki_7 rfl
theorem dX12_taken_47 : decode cX12_taken 47 = .ok (.aload_n 0, 1) := kd_r kbX12_taken ki_0 rfl
theorem dX12_taken_48 : decode cX12_taken 48 = .ok (.aload_n 0, 1) := kd_r kbX12_taken ki_0 rfl
theorem dX12_taken_49 : decode cX12_taken 49 = .ok (.getfield 86, 3) := kd_r kbX12_taken ki_743 rfl
theorem dX12_taken_52 : decode cX12_taken 52 = .ok (.iload_n 1, 1) := kd_r kbX12_taken ki_8 rfl
theorem dX12_taken_53 : decode cX12_taken 53 = .ok (.iaload, 1) := kd_r kbX12_taken ki_14 rfl
theorem dX12_taken_54 : decode cX12_taken 54 = .ok (.invokevirtual 381, 3) := kd_r kbX12_taken ki_705 rfl
theorem dX12_taken_57 : decode cX12_taken 57 = .ok (.istore_n 3, 1) := kd_r kbX12_taken ki_108 rfl
theorem dX12_taken_58 : decode cX12_taken 58 = .ok (.iload_n 3, 1) := kd_r kbX12_taken ki_55 rfl
theorem dX12_taken_59 : decode cX12_taken 59 = .ok (.iload_n 2, 1) := kd_r kbX12_taken ki_11 rfl
theorem dX12_taken_60 : decode cX12_taken 60 = .ok (.if_icmp .eq 15, 3) := kd_r kbX12_taken ki_464 rfl
theorem dX12_taken_63 : decode cX12_taken 63 = .ok (.iload_n 3, 1) := kd_r kbX12_taken ki_55 rfl
theorem dX12_taken_64 : decode cX12_taken 64 = .ok (.ifCond .le 11, 3) := kd_r kbX12_taken ki_1016 rfl
theorem dX12_taken_67 : decode cX12_taken 67 = .ok (.iload_n 3, 1) := kd_r kbX12_taken ki_55 rfl
theorem dX12_taken_68 : decode cX12_taken 68 = .ok (.invokestatic 384, 3) := kd_r kbX12_taken ki_1017 rfl
theorem dX12_taken_71 : decode cX12_taken 71 = .ok (.istore_n 3, 1) := kd_r kbX12_taken ki_108 rfl
theorem dX12_taken_72 : decode cX12_taken 72 = .ok (.goto (-14), 3) := kd_r kbX12_taken ki_1018 rfl
theorem dX12_taken_75 : decode cX12_taken 75 = .ok (.iload_n 3, 1) := kd_r kbX12_taken ki_55 rfl
theorem dX12_taken_76 : decode cX12_taken 76 = .ok (.iload_n 2, 1) := kd_r kbX12_taken ki_11 rfl
theorem dX12_taken_77 : decode cX12_taken 77 = .ok (.if_icmp .ne 16, 3) := kd_r kbX12_taken ki_1019 rfl
theorem dX12_taken_80 : decode cX12_taken 80 = .ok (.aload_n 0, 1) := kd_r kbX12_taken ki_0 rfl
theorem dX12_taken_81 : decode cX12_taken 81 = .ok (.aload_n 0, 1) := kd_r kbX12_taken ki_0 rfl
theorem dX12_taken_82 : decode cX12_taken 82 = .ok (.getfield 86, 3) := kd_r kbX12_taken ki_743 rfl
theorem dX12_taken_85 : decode cX12_taken 85 = .ok (.iload_n 1, 1) := kd_r kbX12_taken ki_8 rfl
theorem dX12_taken_86 : decode cX12_taken 86 = .ok (.iaload, 1) := kd_r kbX12_taken ki_14 rfl
theorem dX12_taken_87 : decode cX12_taken 87 = .ok (.invokevirtual 381, 3) := kd_r kbX12_taken ki_705 rfl
theorem dX12_taken_90 : decode cX12_taken 90 = .ok (.goto 5, 3) := kd_r kbX12_taken ki_342 rfl
theorem dX12_taken_93 : decode cX12_taken 93 = .ok (.bipush (-12), 2) := kd_r kbX12_taken ki_389 rfl
theorem dX12_taken_95 : decode cX12_taken 95 = .ok (.ireturn, 1) := kd_r kbX12_taken ki_7 rfl
theorem dX12_count_0 : decode cX12_count 0 = .ok (.iload_n 1, 1) := kd_r kbX12_count ki_8 rfl
theorem dX12_count_1 : decode cX12_count 1 = .ok (.tableswitch 87 0 7 #[47, 52, 57, 62, 67, 72, 77, 82], 47) := by decide +kernel
theorem dX12_count_48 : decode cX12_count 48 = .ok (.aload_n 0, 1) := kd_r kbX12_count ki_0 rfl
theorem dX12_count_49 : decode cX12_count 49 = .ok (.getfield 106, 3) := kd_r kbX12_count ki_750 rfl
theorem dX12_count_52 : decode cX12_count 52 = .ok (.ireturn, 1) := kd_r kbX12_count ki_7 rfl
theorem dX12_count_53 : decode cX12_count 53 = .ok (.aload_n 0, 1) := kd_r kbX12_count ki_0 rfl
theorem dX12_count_54 : decode cX12_count 54 = .ok (.getfield 229, 3) := kd_r kbX12_count ki_891 rfl
theorem dX12_count_57 : decode cX12_count 57 = .ok (.ireturn, 1) := kd_r kbX12_count ki_7 rfl
theorem dX12_count_58 : decode cX12_count 58 = .ok (.aload_n 0, 1) := kd_r kbX12_count ki_0 rfl
theorem dX12_count_59 : decode cX12_count 59 = .ok (.getfield 308, 3) := kd_r kbX12_count ki_963 rfl
theorem dX12_count_62 : decode cX12_count 62 = .ok (.ireturn, 1) := kd_r kbX12_count ki_7 rfl
theorem dX12_count_63 : decode cX12_count 63 = .ok (.aload_n 0, 1) := kd_r kbX12_count ki_0 rfl
theorem dX12_count_64 : decode cX12_count 64 = .ok (.getfield 259, 3) := kd_r kbX12_count ki_643 rfl
theorem dX12_count_67 : decode cX12_count 67 = .ok (.ireturn, 1) := kd_r kbX12_count ki_7 rfl
theorem dX12_count_68 : decode cX12_count 68 = .ok (.aload_n 0, 1) := kd_r kbX12_count ki_0 rfl
theorem dX12_count_69 : decode cX12_count 69 = .ok (.getfield 221, 3) := kd_r kbX12_count ki_874 rfl
theorem dX12_count_72 : decode cX12_count 72 = .ok (.ireturn, 1) := kd_r kbX12_count ki_7 rfl
theorem dX12_count_73 : decode cX12_count 73 = .ok (.aload_n 0, 1) := kd_r kbX12_count ki_0 rfl
theorem dX12_count_74 : decode cX12_count 74 = .ok (.getfield 99, 3) := kd_r kbX12_count ki_744 rfl
theorem dX12_count_77 : decode cX12_count 77 = .ok (.ireturn, 1) := kd_r kbX12_count ki_7 rfl
theorem dX12_count_78 : decode cX12_count 78 = .ok (.aload_n 0, 1) := kd_r kbX12_count ki_0 rfl
theorem dX12_count_79 : decode cX12_count 79 = .ok (.getfield 337, 3) := kd_r kbX12_count ki_988 rfl
theorem dX12_count_82 : decode cX12_count 82 = .ok (.ireturn, 1) := kd_r kbX12_count ki_7 rfl
theorem dX12_count_83 : decode cX12_count 83 = .ok (.aload_n 0, 1) := kd_r kbX12_count ki_0 rfl
theorem dX12_count_84 : decode cX12_count 84 = .ok (.getfield 340, 3) := kd_r kbX12_count ki_991 rfl
theorem dX12_count_87 : decode cX12_count 87 = .ok (.ireturn, 1) := kd_r kbX12_count ki_7 rfl
theorem dX12_count_88 : decode cX12_count 88 = .ok (.iconst (-1), 1) := kd_r kbX12_count ki_99 rfl
theorem dX12_count_89 : decode cX12_count 89 = .ok (.ireturn, 1) := kd_r kbX12_count ki_7 rfl
theorem dJ6_numberOfTrailingZeros_0f7a4_0 : decode cJ6_numberOfTrailingZeros_0f7a4 0 = .ok (.iload_n 0, 1) := kd_r kbJ6_numberOfTrailingZeros_0f7a4 ki_40 rfl
theorem dJ6_numberOfTrailingZeros_0f7a4_1 : decode cJ6_numberOfTrailingZeros_0f7a4 1 = .ok (.iconst (-1), 1) := kd_r kbJ6_numberOfTrailingZeros_0f7a4 ki_99 rfl
