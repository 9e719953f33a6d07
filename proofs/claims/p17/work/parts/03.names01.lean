theorem dX4_join_127 : decode cX4_join 127 = .ok (.iload_n 2, 1) := kd_r kbX4_join ki_11 rfl
theorem dX4_join_128 : decode cX4_join 128 = .ok (.if_icmp .ge 7, 3) := kd_r kbX4_join ki_42 rfl
theorem dX4_join_131 : decode cX4_join 131 = .ok (.iconst 1, 1) := kd_r kbX4_join ki_16 rfl
theorem dX4_join_132 : decode cX4_join 132 = .ok (.goto 4, 3) := kd_r kbX4_join ki_19 rfl
theorem dX4_join_135 : decode cX4_join 135 = .ok (.iconst 0, 1) := kd_r kbX4_join ki_20 rfl
theorem dX4_join_136 : decode cX4_join 136 = .ok (.invokestatic 88, 3) := kd_r kbX4_join ki_272 rfl
theorem dX4_join_139 : decode cX4_join 139 = .ok (.ireturn, 1) := kd_r kbX4_join ki_7 rfl
theorem dX4_join_140 : decode cX4_join 140 = .ok (.iload_n 1, 1) := kd_r kbX4_join ki_8 rfl
theorem dX4_join_141 : decode cX4_join 141 = .ok (.iload_n 2, 1) := kd_r kbX4_join ki_11 rfl
theorem dX4_join_142 : decode cX4_join 142 = .ok (.if_icmp .ne 7, 3) := kd_r kbX4_join ki_280 rfl
theorem dX4_join_145 : decode cX4_join 145 = .ok (.iconst 1, 1) := kd_r kbX4_join ki_16 rfl
theorem dX4_join_146 : decode cX4_join 146 = .ok (.goto 4, 3) := kd_r kbX4_join ki_19 rfl
theorem dX4_join_149 : decode cX4_join 149 = .ok (.iconst 0, 1) := kd_r kbX4_join ki_20 rfl
theorem dX4_join_150 : decode cX4_join 150 = .ok (.invokestatic 88, 3) := kd_r kbX4_join ki_272 rfl
theorem dX4_join_153 : decode cX4_join 153 = .ok (.ireturn, 1) := kd_r kbX4_join ki_7 rfl
theorem dX4_join_154 : decode cX4_join 154 = .ok (.iload_n 1, 1) := kd_r kbX4_join ki_8 rfl
theorem dX4_join_155 : decode cX4_join 155 = .ok (.iload_n 2, 1) := kd_r kbX4_join ki_11 rfl
theorem dX4_join_156 : decode cX4_join 156 = .ok (.if_icmp .le 7, 3) := kd_r kbX4_join ki_281 rfl
theorem dX4_join_159 : decode cX4_join 159 = .ok (.iconst 1, 1) := kd_r kbX4_join ki_16 rfl
theorem dX4_join_160 : decode cX4_join 160 = .ok (.goto 4, 3) := kd_r kbX4_join ki_19 rfl
theorem dX4_join_163 : decode cX4_join 163 = .ok (.iconst 0, 1) := kd_r kbX4_join ki_20 rfl
theorem dX4_join_164 : decode cX4_join 164 = .ok (.invokestatic 88, 3) := kd_r kbX4_join ki_272 rfl
theorem dX4_join_167 : decode cX4_join 167 = .ok (.ireturn, 1) := kd_r kbX4_join ki_7 rfl
theorem dX4_join_168 : decode cX4_join 168 = .ok (.iload_n 1, 1) := kd_r kbX4_join ki_8 rfl
theorem dX4_join_169 : decode cX4_join 169 = .ok (.iload_n 2, 1) := kd_r kbX4_join ki_11 rfl
theorem dX4_join_170 : decode cX4_join 170 = .ok (.iadd, 1) := kd_r kbX4_join ki_30 rfl
theorem dX4_join_171 : decode cX4_join 171 = .ok (.ireturn, 1) := kd_r kbX4_join ki_7 rfl
theorem dX4_join_172 : decode cX4_join 172 = .ok (.iload_n 1, 1) := kd_r kbX4_join ki_8 rfl
theorem dX4_join_173 : decode cX4_join 173 = .ok (.iload_n 2, 1) := kd_r kbX4_join ki_11 rfl
theorem dX4_join_174 : decode cX4_join 174 = .ok (.isub, 1) := kd_r kbX4_join ki_50 rfl
theorem dX4_join_175 : decode cX4_join 175 = .ok (.ireturn, 1) := kd_r kbX4_join ki_7 rfl
theorem dX4_join_176 : decode cX4_join 176 = .ok (.iload_n 1, 1) := kd_r kbX4_join ki_8 rfl
theorem dX4_join_177 : decode cX4_join 177 = .ok (.iload_n 2, 1) := kd_r kbX4_join ki_11 rfl
theorem dX4_join_178 : decode cX4_join 178 = .ok (.imul, 1) := kd_r kbX4_join ki_114 rfl
theorem dX4_join_179 : decode cX4_join 179 = .ok (.ireturn, 1) := kd_r kbX4_join ki_7 rfl
theorem dX4_join_180 : decode cX4_join 180 = .ok (.iload_n 1, 1) := kd_r kbX4_join ki_8 rfl
theorem dX4_join_181 : decode cX4_join 181 = .ok (.iload_n 2, 1) := kd_r kbX4_join ki_11 rfl
theorem dX4_join_182 : decode cX4_join 182 = .ok (.invokestatic 73, 3) := kd_r kbX4_join ki_248 rfl
theorem dX4_join_185 : decode cX4_join 185 = .ok (.ireturn, 1) := kd_r kbX4_join ki_7 rfl
theorem dX4_join_186 : decode cX4_join 186 = .ok (.iload_n 2, 1) := kd_r kbX4_join ki_11 rfl
theorem dX4_join_187 : decode cX4_join 187 = .ok (.ifCond .ne 7, 3) := kd_r kbX4_join ki_260 rfl
theorem dX4_join_190 : decode cX4_join 190 = .ok (.iconst 0, 1) := kd_r kbX4_join ki_20 rfl
theorem dX4_join_191 : decode cX4_join 191 = .ok (.goto 6, 3) := kd_r kbX4_join ki_282 rfl
theorem dX4_join_194 : decode cX4_join 194 = .ok (.iload_n 1, 1) := kd_r kbX4_join ki_8 rfl
theorem dX4_join_195 : decode cX4_join 195 = .ok (.iload_n 2, 1) := kd_r kbX4_join ki_11 rfl
theorem dX4_join_196 : decode cX4_join 196 = .ok (.irem, 1) := kd_r kbX4_join ki_227 rfl
theorem dX4_join_197 : decode cX4_join 197 = .ok (.ireturn, 1) := kd_r kbX4_join ki_7 rfl
theorem dX4_join_198 : decode cX4_join 198 = .ok (.iconst 0, 1) := kd_r kbX4_join ki_20 rfl
theorem dX4_join_199 : decode cX4_join 199 = .ok (.ireturn, 1) := kd_r kbX4_join ki_7 rfl
theorem dX4_quotient_0 : decode cX4_quotient 0 = .ok (.iload_n 1, 1) := kd_r kbX4_quotient ki_8 rfl
theorem dX4_quotient_1 : decode cX4_quotient 1 = .ok (.ifCond .ne 7, 3) := kd_r kbX4_quotient ki_260 rfl
theorem dX4_quotient_4 : decode cX4_quotient 4 = .ok (.iconst 0, 1) := kd_r kbX4_quotient ki_20 rfl
theorem dX4_quotient_5 : decode cX4_quotient 5 = .ok (.goto 6, 3) := kd_r kbX4_quotient ki_282 rfl
theorem dX4_quotient_8 : decode cX4_quotient 8 = .ok (.iload_n 0, 1) := kd_r kbX4_quotient ki_40 rfl
theorem dX4_quotient_9 : decode cX4_quotient 9 = .ok (.iload_n 1, 1) := kd_r kbX4_quotient ki_8 rfl
theorem dX4_quotient_10 : decode cX4_quotient 10 = .ok (.idiv, 1) := kd_r kbX4_quotient ki_225 rfl
theorem dX4_quotient_11 : decode cX4_quotient 11 = .ok (.ireturn, 1) := kd_r kbX4_quotient ki_7 rfl
theorem dX4_truth_0 : decode cX4_truth 0 = .ok (.iload_n 0, 1) := kd_r kbX4_truth ki_40 rfl
theorem dX4_truth_1 : decode cX4_truth 1 = .ok (.ifCond .eq 7, 3) := kd_r kbX4_truth ki_18 rfl
theorem dX4_truth_4 : decode cX4_truth 4 = .ok (.iconst 1, 1) := kd_r kbX4_truth ki_16 rfl
theorem dX4_truth_5 : decode cX4_truth 5 = .ok (.goto 4, 3) := kd_r kbX4_truth ki_19 rfl
theorem dX4_truth_8 : decode cX4_truth 8 = .ok (.iconst 0, 1) := kd_r kbX4_truth ki_20 rfl
theorem dX4_truth_9 : decode cX4_truth 9 = .ok (.ireturn, 1) := kd_r kbX4_truth ki_7 rfl
theorem dX4_push_0 : decode cX4_push 0 = .ok (.aload_n 0, 1) := kd_r kbX4_push ki_0 rfl
theorem dX4_push_1 : decode cX4_push 1 = .ok (.getfield 76, 3) := kd_r kbX4_push ki_283 rfl
theorem dX4_push_4 : decode cX4_push 4 = .ok (.bipush 64, 2) := kd_r kbX4_push ki_219 rfl
theorem dX4_push_6 : decode cX4_push 6 = .ok (.if_icmp .ge 20, 3) := kd_r kbX4_push ki_220 rfl
theorem dX4_push_9 : decode cX4_push 9 = .ok (.aload_n 0, 1) := kd_r kbX4_push ki_0 rfl
theorem dX4_push_10 : decode cX4_push 10 = .ok (.getfield 22, 3) := kd_r kbX4_push ki_48 rfl
theorem dX4_push_13 : decode cX4_push 13 = .ok (.aload_n 0, 1) := kd_r kbX4_push ki_0 rfl
theorem dX4_push_14 : decode cX4_push 14 = .ok (.dup, 1) := kd_r kbX4_push ki_29 rfl
theorem dX4_push_15 : decode cX4_push 15 = .ok (.getfield 76, 3) := kd_r kbX4_push ki_283 rfl
theorem dX4_push_18 : decode cX4_push 18 = .ok (.dup_x1, 1) := kd_r kbX4_push ki_98 rfl
theorem dX4_push_19 : decode cX4_push 19 = .ok (.iconst 1, 1) := kd_r kbX4_push ki_16 rfl
theorem dX4_push_20 : decode cX4_push 20 = .ok (.iadd, 1) := kd_r kbX4_push ki_30 rfl
theorem dX4_push_21 : decode cX4_push 21 = .ok (.putfield 76, 3) := kd_r kbX4_push ki_250 rfl
theorem dX4_push_24 : decode cX4_push 24 = .ok (.iload_n 1, 1) := kd_r kbX4_push ki_8 rfl
theorem dX4_push_25 : decode cX4_push 25 = .ok (.iastore, 1) := kd_r kbX4_push ki_28 rfl
theorem dX4_push_26 : decode cX4_push 26 = .ok (.return_, 1) := kd_r kbX4_push ki_5 rfl
theorem dX4_pop_0 : decode cX4_pop 0 = .ok (.aload_n 0, 1) := kd_r kbX4_pop ki_0 rfl
theorem dX4_pop_1 : decode cX4_pop 1 = .ok (.getfield 76, 3) := kd_r kbX4_pop ki_283 rfl
theorem dX4_pop_4 : decode cX4_pop 4 = .ok (.ifCond .le 22, 3) := kd_r kbX4_pop ki_284 rfl
theorem dX4_pop_7 : decode cX4_pop 7 = .ok (.aload_n 0, 1) := kd_r kbX4_pop ki_0 rfl
theorem dX4_pop_8 : decode cX4_pop 8 = .ok (.getfield 22, 3) := kd_r kbX4_pop ki_48 rfl
theorem dX4_pop_11 : decode cX4_pop 11 = .ok (.aload_n 0, 1) := kd_r kbX4_pop ki_0 rfl
theorem dX4_pop_12 : decode cX4_pop 12 = .ok (.dup, 1) := kd_r kbX4_pop ki_29 rfl
theorem dX4_pop_13 : decode cX4_pop 13 = .ok (.getfield 76, 3) := kd_r kbX4_pop ki_283 rfl
theorem dX4_pop_16 : decode cX4_pop 16 = .ok (.iconst 1, 1) := kd_r kbX4_pop ki_16 rfl
theorem dX4_pop_17 : decode cX4_pop 17 = .ok (.isub, 1) := kd_r kbX4_pop ki_50 rfl
theorem dX4_pop_18 : decode cX4_pop 18 = .ok (.dup_x1, 1) := kd_r kbX4_pop ki_98 rfl
theorem dX4_pop_19 : decode cX4_pop 19 = .ok (.putfield 76, 3) := kd_r kbX4_pop ki_250 rfl
theorem dX4_pop_22 : decode cX4_pop 22 = .ok (.iaload, 1) := kd_r kbX4_pop ki_14 rfl
theorem dX4_pop_23 : decode cX4_pop 23 = .ok (.goto 4, 3) := kd_r kbX4_pop ki_19 rfl
theorem dX4_pop_26 : decode cX4_pop 26 = .ok (.iconst 0, 1) := kd_r kbX4_pop ki_20 rfl
theorem dX4_pop_27 : decode cX4_pop 27 = .ok (.ireturn, 1) := kd_r kbX4_pop ki_7 rfl
theorem dX5_init_0 : decode cX5_init 0 = .ok (.aload_n 0, 1) := kd_r kbX5_init ki_0 rfl
theorem dX5_init_1 : decode cX5_init 1 = .ok (.invokespecial 3, 3) := kd_r kbX5_init ki_1 rfl
theorem dX5_init_4 : decode cX5_init 4 = .ok (.aload_n 0, 1) := kd_r kbX5_init ki_0 rfl
theorem dX5_init_5 : decode cX5_init 5 = .ok (.bipush 50, 2) := kd_r kbX5_init ki_285 rfl
theorem dX5_init_7 : decode cX5_init 7 = .ok (.newarray .int, 2) := kd_r kbX5_init ki_3 rfl
theorem dX5_init_9 : decode cX5_init 9 = .ok (.putfield 11, 3) := kd_r kbX5_init ki_72 rfl
theorem dX5_init_12 : decode cX5_init 12 = .ok (.aload_n 0, 1) := kd_r kbX5_init ki_0 rfl
theorem dX5_init_13 : decode cX5_init 13 = .ok (.bipush 24, 2) := kd_r kbX5_init ki_286 rfl
theorem dX5_init_15 : decode cX5_init 15 = .ok (.newarray .int, 2) := kd_r kbX5_init ki_3 rfl
theorem dX5_init_17 : decode cX5_init 17 = .ok (.putfield 15, 3) := kd_r kbX5_init ki_31 rfl
theorem dX5_init_20 : decode cX5_init 20 = .ok (.return_, 1) := kd_r kbX5_init ki_5 rfl
theorem dX5_isKind_0 : decode cX5_isKind 0 = .ok (.iload_n 0, 1) := kd_r kbX5_isKind ki_40 rfl
theorem dX5_isKind_1 : decode cX5_isKind 1 = .ok (.ifCond .lt 13, 3) := kd_r kbX5_isKind ki_41 rfl
theorem dX5_isKind_4 : decode cX5_isKind 4 = .ok (.iload_n 0, 1) := kd_r kbX5_isKind ki_40 rfl
theorem dX5_isKind_5 : decode cX5_isKind 5 = .ok (.bipush 8, 2) := kd_r kbX5_isKind ki_74 rfl
theorem dX5_isKind_7 : decode cX5_isKind 7 = .ok (.if_icmp .ge 7, 3) := kd_r kbX5_isKind ki_42 rfl
theorem dX5_isKind_10 : decode cX5_isKind 10 = .ok (.iconst 1, 1) := kd_r kbX5_isKind ki_16 rfl
theorem dX5_isKind_11 : decode cX5_isKind 11 = .ok (.goto 4, 3) := kd_r kbX5_isKind ki_19 rfl
theorem dX5_isKind_14 : decode cX5_isKind 14 = .ok (.iconst 0, 1) := kd_r kbX5_isKind ki_20 rfl
theorem dX5_isKind_15 : decode cX5_isKind 15 = .ok (.ireturn, 1) := kd_r kbX5_isKind ki_7 rfl
set_option maxRecDepth 20000 in
theorem ggX5_isUnder_X5_isKind : GoodIn wsX5_isUnder wsX5_isKind := goodIn_r _ [5] rfl (by decide +kernel)
set_option maxRecDepth 20000 in
theorem gX5_isUnder_X5_isKind : GoodIn wsX5_isUnder (va_wsS RX5 18 yX5_isKind wsX5_isKind) := goodIn_app (goodIn_of _ (by decide +kernel)) ggX5_isUnder_X5_isKind
theorem dX5_isUnder_0 : decode cX5_isUnder 0 = .ok (.iload_n 0, 1) := kd_r kbX5_isUnder ki_40 rfl
theorem dX5_isUnder_1 : decode cX5_isUnder 1 = .ok (.istore_n 2, 1) := kd_r kbX5_isUnder ki_32 rfl
theorem dX5_isUnder_2 : decode cX5_isUnder 2 = .ok (.iconst 0, 1) := kd_r kbX5_isUnder ki_20 rfl
theorem dX5_isUnder_3 : decode cX5_isUnder 3 = .ok (.istore_n 3, 1) := kd_r kbX5_isUnder ki_108 rfl
theorem dX5_isUnder_4 : decode cX5_isUnder 4 = .ok (.iload_n 3, 1) := kd_r kbX5_isUnder ki_55 rfl
theorem dX5_isUnder_5 : decode cX5_isUnder 5 = .ok (.bipush 8, 2) := kd_r kbX5_isUnder ki_74 rfl
theorem dX5_isUnder_7 : decode cX5_isUnder 7 = .ok (.if_icmp .ge 29, 3) := kd_r kbX5_isUnder ki_136 rfl
theorem dX5_isUnder_10 : decode cX5_isUnder 10 = .ok (.iload_n 2, 1) := kd_r kbX5_isUnder ki_11 rfl
theorem dX5_isUnder_11 : decode cX5_isUnder 11 = .ok (.invokestatic 18, 3) := kd_r kbX5_isUnder ki_287 rfl
theorem dX5_isUnder_14 : decode cX5_isUnder 14 = .ok (.ifCond .eq 22, 3) := kd_r kbX5_isUnder ki_288 rfl
theorem dX5_isUnder_17 : decode cX5_isUnder 17 = .ok (.iload_n 2, 1) := kd_r kbX5_isUnder ki_11 rfl
theorem dX5_isUnder_18 : decode cX5_isUnder 18 = .ok (.iload_n 1, 1) := kd_r kbX5_isUnder ki_8 rfl
theorem dX5_isUnder_19 : decode cX5_isUnder 19 = .ok (.if_icmp .ne 5, 3) := kd_r kbX5_isUnder ki_91 rfl
theorem dX5_isUnder_22 : decode cX5_isUnder 22 = .ok (.iconst 1, 1) := kd_r kbX5_isUnder ki_16 rfl
theorem dX5_isUnder_23 : decode cX5_isUnder 23 = .ok (.ireturn, 1) := kd_r kbX5_isUnder ki_7 rfl
theorem dX5_isUnder_24 : decode cX5_isUnder 24 = .ok (.getstatic 22, 3) := kd_r kbX5_isUnder ki_289 rfl
theorem dX5_isUnder_27 : decode cX5_isUnder 27 = .ok (.iload_n 2, 1) := kd_r kbX5_isUnder ki_11 rfl
theorem dX5_isUnder_28 : decode cX5_isUnder 28 = .ok (.iaload, 1) := kd_r kbX5_isUnder ki_14 rfl
theorem dX5_isUnder_29 : decode cX5_isUnder 29 = .ok (.istore_n 2, 1) := kd_r kbX5_isUnder ki_32 rfl
theorem dX5_isUnder_30 : decode cX5_isUnder 30 = .ok (.iinc 3 1, 3) := kd_r kbX5_isUnder ki_116 rfl
theorem dX5_isUnder_33 : decode cX5_isUnder 33 = .ok (.goto (-29), 3) := kd_r kbX5_isUnder ki_290 rfl
theorem dX5_isUnder_36 : decode cX5_isUnder 36 = .ok (.iconst 0, 1) := kd_r kbX5_isUnder ki_20 rfl
theorem dX5_isUnder_37 : decode cX5_isUnder 37 = .ok (.ireturn, 1) := kd_r kbX5_isUnder ki_7 rfl
theorem dX5_size_0 : decode cX5_size 0 = .ok (.aload_n 0, 1) := kd_r kbX5_size ki_0 rfl
theorem dX5_size_1 : decode cX5_size 1 = .ok (.getfield 25, 3) := kd_r kbX5_size ki_224 rfl
theorem dX5_size_4 : decode cX5_size 4 = .ok (.ireturn, 1) := kd_r kbX5_size ki_7 rfl
theorem dX5_isFull_0 : decode cX5_isFull 0 = .ok (.aload_n 0, 1) := kd_r kbX5_isFull ki_0 rfl
theorem dX5_isFull_1 : decode cX5_isFull 1 = .ok (.getfield 25, 3) := kd_r kbX5_isFull ki_224 rfl
theorem dX5_isFull_4 : decode cX5_isFull 4 = .ok (.bipush 50, 2) := kd_r kbX5_isFull ki_285 rfl
theorem dX5_isFull_6 : decode cX5_isFull 6 = .ok (.if_icmp .lt 7, 3) := kd_r kbX5_isFull ki_51 rfl
theorem dX5_isFull_9 : decode cX5_isFull 9 = .ok (.iconst 1, 1) := kd_r kbX5_isFull ki_16 rfl
theorem dX5_isFull_10 : decode cX5_isFull 10 = .ok (.goto 4, 3) := kd_r kbX5_isFull ki_19 rfl
theorem dX5_isFull_13 : decode cX5_isFull 13 = .ok (.iconst 0, 1) := kd_r kbX5_isFull ki_20 rfl
theorem dX5_isFull_14 : decode cX5_isFull 14 = .ok (.ireturn, 1) := kd_r kbX5_isFull ki_7 rfl
theorem dX5_has_0 : decode cX5_has 0 = .ok (.iload_n 1, 1) := kd_r kbX5_has ki_8 rfl
theorem dX5_has_1 : decode cX5_has 1 = .ok (.ifCond .lt 15, 3) := kd_r kbX5_has ki_291 rfl
theorem dX5_has_4 : decode cX5_has 4 = .ok (.iload_n 1, 1) := kd_r kbX5_has ki_8 rfl
theorem dX5_has_5 : decode cX5_has 5 = .ok (.aload_n 0, 1) := kd_r kbX5_has ki_0 rfl
theorem dX5_has_6 : decode cX5_has 6 = .ok (.getfield 25, 3) := kd_r kbX5_has ki_224 rfl
theorem dX5_has_9 : decode cX5_has 9 = .ok (.if_icmp .ge 7, 3) := kd_r kbX5_has ki_42 rfl
theorem dX5_has_12 : decode cX5_has 12 = .ok (.iconst 1, 1) := kd_r kbX5_has ki_16 rfl
theorem dX5_has_13 : decode cX5_has 13 = .ok (.goto 4, 3) := kd_r kbX5_has ki_19 rfl
theorem dX5_has_16 : decode cX5_has 16 = .ok (.iconst 0, 1) := kd_r kbX5_has ki_20 rfl
theorem dX5_has_17 : decode cX5_has 17 = .ok (.ireturn, 1) := kd_r kbX5_has ki_7 rfl
set_option maxRecDepth 20000 in
theorem ggX5_append_X5_isFull : GoodIn wsX5_append wsX5_isFull := goodIn_r _ [7, 2, 8, 9, 10, 11] rfl (by decide +kernel)
set_option maxRecDepth 20000 in
theorem gX5_append_X5_isFull : GoodIn wsX5_append (wsV RX5 29 RX5 yX5_isFull wsX5_isFull) := goodIn_app (goodIn_of _ (by decide +kernel)) ggX5_append_X5_isFull
theorem dX5_append_0 : decode cX5_append 0 = .ok (.aload_n 0, 1) := kd_r kbX5_append ki_0 rfl
theorem dX5_append_1 : decode cX5_append 1 = .ok (.invokevirtual 29, 3) := kd_r kbX5_append ki_52 rfl
theorem dX5_append_4 : decode cX5_append 4 = .ok (.ifCond .eq 6, 3) := kd_r kbX5_append ki_292 rfl
theorem dX5_append_7 : decode cX5_append 7 = .ok (.bipush (-3), 2) := kd_r kbX5_append ki_293 rfl
theorem dX5_append_9 : decode cX5_append 9 = .ok (.ireturn, 1) := kd_r kbX5_append ki_7 rfl
theorem dX5_append_10 : decode cX5_append 10 = .ok (.aload_n 0, 1) := kd_r kbX5_append ki_0 rfl
theorem dX5_append_11 : decode cX5_append 11 = .ok (.getfield 11, 3) := kd_r kbX5_append ki_86 rfl
theorem dX5_append_14 : decode cX5_append 14 = .ok (.aload_n 0, 1) := kd_r kbX5_append ki_0 rfl
theorem dX5_append_15 : decode cX5_append 15 = .ok (.getfield 25, 3) := kd_r kbX5_append ki_224 rfl
theorem dX5_append_18 : decode cX5_append 18 = .ok (.iload_n 1, 1) := kd_r kbX5_append ki_8 rfl
theorem dX5_append_19 : decode cX5_append 19 = .ok (.iastore, 1) := kd_r kbX5_append ki_28 rfl
theorem dX5_append_20 : decode cX5_append 20 = .ok (.aload_n 0, 1) := kd_r kbX5_append ki_0 rfl
theorem dX5_append_21 : decode cX5_append 21 = .ok (.dup, 1) := kd_r kbX5_append ki_29 rfl
theorem dX5_append_22 : decode cX5_append 22 = .ok (.getfield 25, 3) := kd_r kbX5_append ki_224 rfl
theorem dX5_append_25 : decode cX5_append 25 = .ok (.dup_x1, 1) := kd_r kbX5_append ki_98 rfl
theorem dX5_append_26 : decode cX5_append 26 = .ok (.iconst 1, 1) := kd_r kbX5_append ki_16 rfl
theorem dX5_append_27 : decode cX5_append 27 = .ok (.iadd, 1) := kd_r kbX5_append ki_30 rfl
theorem dX5_append_28 : decode cX5_append 28 = .ok (.putfield 25, 3) := kd_r kbX5_append ki_223 rfl
theorem dX5_append_31 : decode cX5_append 31 = .ok (.ireturn, 1) := kd_r kbX5_append ki_7 rfl
set_option maxRecDepth 20000 in
theorem ggX5_kindOf_X5_has : GoodIn wsX5_kindOf wsX5_has := goodIn_r _ [6, 7, 8, 9, 10, 11] rfl (by decide +kernel)
set_option maxRecDepth 20000 in
theorem gX5_kindOf_X5_has : GoodIn wsX5_kindOf (wsV RX5 33 RX5 yX5_has wsX5_has) := goodIn_app (goodIn_of _ (by decide +kernel)) ggX5_kindOf_X5_has
theorem dX5_kindOf_0 : decode cX5_kindOf 0 = .ok (.aload_n 0, 1) := kd_r kbX5_kindOf ki_0 rfl
theorem dX5_kindOf_1 : decode cX5_kindOf 1 = .ok (.iload_n 1, 1) := kd_r kbX5_kindOf ki_8 rfl
theorem dX5_kindOf_2 : decode cX5_kindOf 2 = .ok (.invokevirtual 33, 3) := kd_r kbX5_kindOf ki_294 rfl
theorem dX5_kindOf_5 : decode cX5_kindOf 5 = .ok (.ifCond .eq 12, 3) := kd_r kbX5_kindOf ki_122 rfl
theorem dX5_kindOf_8 : decode cX5_kindOf 8 = .ok (.aload_n 0, 1) := kd_r kbX5_kindOf ki_0 rfl
theorem dX5_kindOf_9 : decode cX5_kindOf 9 = .ok (.getfield 11, 3) := kd_r kbX5_kindOf ki_86 rfl
theorem dX5_kindOf_12 : decode cX5_kindOf 12 = .ok (.iload_n 1, 1) := kd_r kbX5_kindOf ki_8 rfl
theorem dX5_kindOf_13 : decode cX5_kindOf 13 = .ok (.iaload, 1) := kd_r kbX5_kindOf ki_14 rfl
theorem dX5_kindOf_14 : decode cX5_kindOf 14 = .ok (.goto 4, 3) := kd_r kbX5_kindOf ki_19 rfl
theorem dX5_kindOf_17 : decode cX5_kindOf 17 = .ok (.iconst (-1), 1) := kd_r kbX5_kindOf ki_99 rfl
theorem dX5_kindOf_18 : decode cX5_kindOf 18 = .ok (.ireturn, 1) := kd_r kbX5_kindOf ki_7 rfl
theorem dX5_bodiesThatRan_0 : decode cX5_bodiesThatRan 0 = .ok (.aload_n 0, 1) := kd_r kbX5_bodiesThatRan ki_0 rfl
theorem dX5_bodiesThatRan_1 : decode cX5_bodiesThatRan 1 = .ok (.getfield 36, 3) := kd_r kbX5_bodiesThatRan ki_295 rfl
theorem dX5_bodiesThatRan_4 : decode cX5_bodiesThatRan 4 = .ok (.ireturn, 1) := kd_r kbX5_bodiesThatRan ki_7 rfl
theorem dX5_traced_0 : decode cX5_traced 0 = .ok (.iload_n 1, 1) := kd_r kbX5_traced ki_8 rfl
theorem dX5_traced_1 : decode cX5_traced 1 = .ok (.ifCond .lt 26, 3) := kd_r kbX5_traced ki_296 rfl
theorem dX5_traced_4 : decode cX5_traced 4 = .ok (.iload_n 1, 1) := kd_r kbX5_traced ki_8 rfl
theorem dX5_traced_5 : decode cX5_traced 5 = .ok (.aload_n 0, 1) := kd_r kbX5_traced ki_0 rfl
theorem dX5_traced_6 : decode cX5_traced 6 = .ok (.getfield 36, 3) := kd_r kbX5_traced ki_295 rfl
theorem dX5_traced_9 : decode cX5_traced 9 = .ok (.if_icmp .ge 18, 3) := kd_r kbX5_traced ki_297 rfl
theorem dX5_traced_12 : decode cX5_traced 12 = .ok (.iload_n 1, 1) := kd_r kbX5_traced ki_8 rfl
theorem dX5_traced_13 : decode cX5_traced 13 = .ok (.bipush 24, 2) := kd_r kbX5_traced ki_286 rfl
theorem dX5_traced_15 : decode cX5_traced 15 = .ok (.if_icmp .ge 12, 3) := kd_r kbX5_traced ki_298 rfl
theorem dX5_traced_18 : decode cX5_traced 18 = .ok (.aload_n 0, 1) := kd_r kbX5_traced ki_0 rfl
theorem dX5_traced_19 : decode cX5_traced 19 = .ok (.getfield 15, 3) := kd_r kbX5_traced ki_6 rfl
theorem dX5_traced_22 : decode cX5_traced 22 = .ok (.iload_n 1, 1) := kd_r kbX5_traced ki_8 rfl
theorem dX5_traced_23 : decode cX5_traced 23 = .ok (.iaload, 1) := kd_r kbX5_traced ki_14 rfl
theorem dX5_traced_24 : decode cX5_traced 24 = .ok (.goto 4, 3) := kd_r kbX5_traced ki_19 rfl
theorem dX5_traced_27 : decode cX5_traced 27 = .ok (.iconst (-1), 1) := kd_r kbX5_traced ki_99 rfl
theorem dX5_traced_28 : decode cX5_traced 28 = .ok (.ireturn, 1) := kd_r kbX5_traced ki_7 rfl
set_option maxRecDepth 20000 in
theorem ggX5_perform_X5_has : GoodIn wsX5_perform wsX5_has := goodIn_r _ [7, 8, 31, 32, 33, 34] rfl (by decide +kernel)
set_option maxRecDepth 20000 in
theorem gX5_perform_X5_has : GoodIn wsX5_perform (wsV RX5 33 RX5 yX5_has wsX5_has) := goodIn_app (goodIn_of _ (by decide +kernel)) ggX5_perform_X5_has
set_option maxRecDepth 20000 in
theorem ggX5_perform_X5_call : GoodIn wsX5_perform wsX5_call := goodIn_r _ [12, 13, 14, 1, 15, 16, 17, 6, 18, 19, 20, 21, 22, 23, 24, 25, 26, 27, 28, 29, 2, 3, 4, 5, 7, 8, 9, 10, 11, 30, 31, 32, 33, 34] rfl (by decide +kernel)
set_option maxRecDepth 20000 in
theorem gX5_perform_X5_call : GoodIn wsX5_perform (wsV RX5 39 RX5 yX5_call wsX5_call) := goodIn_app (goodIn_of _ (by decide +kernel)) ggX5_perform_X5_call
theorem dX5_perform_0 : decode cX5_perform 0 = .ok (.aload_n 0, 1) := kd_r kbX5_perform ki_0 rfl
theorem dX5_perform_1 : decode cX5_perform 1 = .ok (.iconst 0, 1) := kd_r kbX5_perform ki_20 rfl
theorem dX5_perform_2 : decode cX5_perform 2 = .ok (.putfield 36, 3) := kd_r kbX5_perform ki_299 rfl
theorem dX5_perform_5 : decode cX5_perform 5 = .ok (.aload_n 0, 1) := kd_r kbX5_perform ki_0 rfl
theorem dX5_perform_6 : decode cX5_perform 6 = .ok (.iload_n 1, 1) := kd_r kbX5_perform ki_8 rfl
theorem dX5_perform_7 : decode cX5_perform 7 = .ok (.invokevirtual 33, 3) := kd_r kbX5_perform ki_294 rfl
theorem dX5_perform_10 : decode cX5_perform 10 = .ok (.ifCond .eq 12, 3) := kd_r kbX5_perform ki_122 rfl
theorem dX5_perform_13 : decode cX5_perform 13 = .ok (.iload_n 2, 1) := kd_r kbX5_perform ki_11 rfl
theorem dX5_perform_14 : decode cX5_perform 14 = .ok (.ifCond .lt 8, 3) := kd_r kbX5_perform ki_300 rfl
theorem dX5_perform_17 : decode cX5_perform 17 = .ok (.iload_n 2, 1) := kd_r kbX5_perform ki_11 rfl
theorem dX5_perform_18 : decode cX5_perform 18 = .ok (.iconst 4, 1) := kd_r kbX5_perform ki_247 rfl
theorem dX5_perform_19 : decode cX5_perform 19 = .ok (.if_icmp .lt 5, 3) := kd_r kbX5_perform ki_193 rfl
theorem dX5_perform_22 : decode cX5_perform 22 = .ok (.iconst 0, 1) := kd_r kbX5_perform ki_20 rfl
theorem dX5_perform_23 : decode cX5_perform 23 = .ok (.ireturn, 1) := kd_r kbX5_perform ki_7 rfl
theorem dX5_perform_24 : decode cX5_perform 24 = .ok (.aload_n 0, 1) := kd_r kbX5_perform ki_0 rfl
theorem dX5_perform_25 : decode cX5_perform 25 = .ok (.iload_n 1, 1) := kd_r kbX5_perform ki_8 rfl
theorem dX5_perform_26 : decode cX5_perform 26 = .ok (.aload_n 0, 1) := kd_r kbX5_perform ki_0 rfl
theorem dX5_perform_27 : decode cX5_perform 27 = .ok (.getfield 11, 3) := kd_r kbX5_perform ki_86 rfl
theorem dX5_perform_30 : decode cX5_perform 30 = .ok (.iload_n 1, 1) := kd_r kbX5_perform ki_8 rfl
theorem dX5_perform_31 : decode cX5_perform 31 = .ok (.iaload, 1) := kd_r kbX5_perform ki_14 rfl
theorem dX5_perform_32 : decode cX5_perform 32 = .ok (.iload_n 2, 1) := kd_r kbX5_perform ki_11 rfl
theorem dX5_perform_33 : decode cX5_perform 33 = .ok (.iload_n 3, 1) := kd_r kbX5_perform ki_55 rfl
theorem dX5_perform_34 : decode cX5_perform 34 = .ok (.iconst 0, 1) := kd_r kbX5_perform ki_20 rfl
theorem dX5_perform_35 : decode cX5_perform 35 = .ok (.invokevirtual 39, 3) := kd_r kbX5_perform ki_301 rfl
theorem dX5_perform_38 : decode cX5_perform 38 = .ok (.ireturn, 1) := kd_r kbX5_perform ki_7 rfl
set_option maxRecDepth 20000 in
theorem ggX5_call_X5_isKind : GoodIn wsX5_call wsX5_isKind := goodIn_r _ [8] rfl (by decide +kernel)
set_option maxRecDepth 20000 in
theorem gX5_call_X5_isKind : GoodIn wsX5_call (va_wsS RX5 18 yX5_isKind wsX5_isKind) := goodIn_app (goodIn_of _ (by decide +kernel)) ggX5_call_X5_isKind
set_option maxRecDepth 20000 in
theorem ggX5_call_X5_runLine : GoodIn wsX5_call wsX5_runLine := goodIn_r _ [15, 16, 17, 18, 7, 19, 20, 21, 22, 23, 24, 25, 26, 27, 28, 0, 1, 2, 3, 4, 5, 6, 8, 9, 10, 11, 12, 13, 14, 29, 30, 31, 32, 33] rfl (by decide +kernel)
set_option maxRecDepth 20000 in
theorem gX5_call_X5_runLine : GoodIn wsX5_call (wsV RX5 46 RX5 yX5_runLine wsX5_runLine) := goodIn_app (goodIn_of _ (by decide +kernel)) ggX5_call_X5_runLine
set_option maxRecDepth 20000 in
theorem ggX5_call_X5_runUnder : GoodIn wsX5_call wsX5_runUnder := goodIn_r _ [29, 2, 16, 17, 18, 7, 19, 20, 21, 22, 23, 24, 25, 5, 6, 8, 26, 27, 28, 0, 1, 3, 4, 9, 10, 11, 12, 13, 14, 15, 30, 31, 32, 33] rfl (by decide +kernel)
set_option maxRecDepth 20000 in
theorem gX5_call_X5_runUnder : GoodIn wsX5_call (wsV RX5 50 RX5 yX5_runUnder wsX5_runUnder) := goodIn_app (goodIn_of _ (by decide +kernel)) ggX5_call_X5_runUnder
theorem dX5_call_0 : decode cX5_call 0 = .ok (.iload_n 2, 1) := kd_r kbX5_call ki_11 rfl
theorem dX5_call_1 : decode cX5_call 1 = .ok (.istore 6, 2) := kd_r kbX5_call ki_199 rfl
theorem dX5_call_3 : decode cX5_call 3 = .ok (.iconst 0, 1) := kd_r kbX5_call ki_20 rfl
theorem dX5_call_4 : decode cX5_call 4 = .ok (.istore 7, 2) := kd_r kbX5_call ki_152 rfl
theorem dX5_call_6 : decode cX5_call 6 = .ok (.iload 7, 2) := kd_r kbX5_call ki_153 rfl
theorem dX5_call_8 : decode cX5_call 8 = .ok (.bipush 8, 2) := kd_r kbX5_call ki_74 rfl
theorem dX5_call_10 : decode cX5_call 10 = .ok (.if_icmp .ge 38, 3) := kd_r kbX5_call ki_93 rfl
theorem dX5_call_13 : decode cX5_call 13 = .ok (.iload 6, 2) := kd_r kbX5_call ki_200 rfl
theorem dX5_call_15 : decode cX5_call 15 = .ok (.invokestatic 18, 3) := kd_r kbX5_call ki_287 rfl
theorem dX5_call_18 : decode cX5_call 18 = .ok (.ifCond .eq 30, 3) := kd_r kbX5_call ki_302 rfl
theorem dX5_call_21 : decode cX5_call 21 = .ok (.getstatic 43, 3) := kd_r kbX5_call ki_303 rfl
theorem dX5_call_24 : decode cX5_call 24 = .ok (.iload 6, 2) := kd_r kbX5_call ki_200 rfl
theorem dX5_call_26 : decode cX5_call 26 = .ok (.iconst 4, 1) := kd_r kbX5_call ki_247 rfl
theorem dX5_call_27 : decode cX5_call 27 = .ok (.imul, 1) := kd_r kbX5_call ki_114 rfl
theorem dX5_call_28 : decode cX5_call 28 = .ok (.iload_n 3, 1) := kd_r kbX5_call ki_55 rfl
theorem dX5_call_29 : decode cX5_call 29 = .ok (.iadd, 1) := kd_r kbX5_call ki_30 rfl
theorem dX5_call_30 : decode cX5_call 30 = .ok (.iaload, 1) := kd_r kbX5_call ki_14 rfl
theorem dX5_call_31 : decode cX5_call 31 = .ok (.ifCond .ne 17, 3) := kd_r kbX5_call ki_304 rfl
theorem dX5_call_34 : decode cX5_call 34 = .ok (.getstatic 22, 3) := kd_r kbX5_call ki_289 rfl
theorem dX5_call_37 : decode cX5_call 37 = .ok (.iload 6, 2) := kd_r kbX5_call ki_200 rfl
theorem dX5_call_39 : decode cX5_call 39 = .ok (.iaload, 1) := kd_r kbX5_call ki_14 rfl
theorem dX5_call_40 : decode cX5_call 40 = .ok (.istore 6, 2) := kd_r kbX5_call ki_199 rfl
theorem dX5_call_42 : decode cX5_call 42 = .ok (.iinc 7 1, 3) := kd_r kbX5_call ki_164 rfl
theorem dX5_call_45 : decode cX5_call 45 = .ok (.goto (-39), 3) := kd_r kbX5_call ki_305 rfl
theorem dX5_call_48 : decode cX5_call 48 = .ok (.iload 6, 2) := kd_r kbX5_call ki_200 rfl
theorem dX5_call_50 : decode cX5_call 50 = .ok (.invokestatic 18, 3) := kd_r kbX5_call ki_287 rfl
theorem dX5_call_53 : decode cX5_call 53 = .ok (.ifCond .eq 10, 3) := kd_r kbX5_call ki_306 rfl
theorem dX5_call_56 : decode cX5_call 56 = .ok (.iload 5, 2) := kd_r kbX5_call ki_134 rfl
theorem dX5_call_58 : decode cX5_call 58 = .ok (.bipush 40, 2) := kd_r kbX5_call ki_44 rfl
theorem dX5_call_60 : decode cX5_call 60 = .ok (.if_icmp .le 5, 3) := kd_r kbX5_call ki_106 rfl
theorem dX5_call_63 : decode cX5_call 63 = .ok (.iconst 0, 1) := kd_r kbX5_call ki_20 rfl
theorem dX5_call_64 : decode cX5_call 64 = .ok (.ireturn, 1) := kd_r kbX5_call ki_7 rfl
theorem dX5_call_65 : decode cX5_call 65 = .ok (.getstatic 43, 3) := kd_r kbX5_call ki_303 rfl
theorem dX5_call_68 : decode cX5_call 68 = .ok (.iload 6, 2) := kd_r kbX5_call ki_200 rfl
theorem dX5_call_70 : decode cX5_call 70 = .ok (.iconst 4, 1) := kd_r kbX5_call ki_247 rfl
theorem dX5_call_71 : decode cX5_call 71 = .ok (.imul, 1) := kd_r kbX5_call ki_114 rfl
theorem dX5_call_72 : decode cX5_call 72 = .ok (.iload_n 3, 1) := kd_r kbX5_call ki_55 rfl
theorem dX5_call_73 : decode cX5_call 73 = .ok (.iadd, 1) := kd_r kbX5_call ki_30 rfl
theorem dX5_call_74 : decode cX5_call 74 = .ok (.iaload, 1) := kd_r kbX5_call ki_14 rfl
theorem dX5_call_75 : decode cX5_call 75 = .ok (.istore 7, 2) := kd_r kbX5_call ki_152 rfl
theorem dX5_call_77 : decode cX5_call 77 = .ok (.aload_n 0, 1) := kd_r kbX5_call ki_0 rfl
theorem dX5_call_78 : decode cX5_call 78 = .ok (.getfield 36, 3) := kd_r kbX5_call ki_295 rfl
theorem dX5_call_81 : decode cX5_call 81 = .ok (.bipush 24, 2) := kd_r kbX5_call ki_286 rfl
theorem dX5_call_83 : decode cX5_call 83 = .ok (.if_icmp .ge 14, 3) := kd_r kbX5_call ki_307 rfl
theorem dX5_call_86 : decode cX5_call 86 = .ok (.aload_n 0, 1) := kd_r kbX5_call ki_0 rfl
theorem dX5_call_87 : decode cX5_call 87 = .ok (.getfield 15, 3) := kd_r kbX5_call ki_6 rfl
theorem dX5_call_90 : decode cX5_call 90 = .ok (.aload_n 0, 1) := kd_r kbX5_call ki_0 rfl
theorem dX5_call_91 : decode cX5_call 91 = .ok (.getfield 36, 3) := kd_r kbX5_call ki_295 rfl
theorem dX5_call_94 : decode cX5_call 94 = .ok (.iload 7, 2) := kd_r kbX5_call ki_153 rfl
theorem dX5_call_96 : decode cX5_call 96 = .ok (.iastore, 1) := kd_r kbX5_call ki_28 rfl
theorem dX5_call_97 : decode cX5_call 97 = .ok (.aload_n 0, 1) := kd_r kbX5_call ki_0 rfl
theorem dX5_call_98 : decode cX5_call 98 = .ok (.dup, 1) := kd_r kbX5_call ki_29 rfl
theorem dX5_call_99 : decode cX5_call 99 = .ok (.getfield 36, 3) := kd_r kbX5_call ki_295 rfl
theorem dX5_call_102 : decode cX5_call 102 = .ok (.iconst 1, 1) := kd_r kbX5_call ki_16 rfl
theorem dX5_call_103 : decode cX5_call 103 = .ok (.iadd, 1) := kd_r kbX5_call ki_30 rfl
theorem dX5_call_104 : decode cX5_call 104 = .ok (.putfield 36, 3) := kd_r kbX5_call ki_299 rfl
theorem dX5_call_107 : decode cX5_call 107 = .ok (.iload 6, 2) := kd_r kbX5_call ki_200 rfl
theorem dX5_call_109 : decode cX5_call 109 = .ok (.ifCond .ne 19, 3) := kd_r kbX5_call ki_308 rfl
theorem dX5_call_112 : decode cX5_call 112 = .ok (.aload_n 0, 1) := kd_r kbX5_call ki_0 rfl
theorem dX5_call_113 : decode cX5_call 113 = .ok (.iload_n 1, 1) := kd_r kbX5_call ki_8 rfl
theorem dX5_call_114 : decode cX5_call 114 = .ok (.iload 7, 2) := kd_r kbX5_call ki_153 rfl
theorem dX5_call_116 : decode cX5_call 116 = .ok (.iload 4, 2) := kd_r kbX5_call ki_57 rfl
theorem dX5_call_118 : decode cX5_call 118 = .ok (.iload 5, 2) := kd_r kbX5_call ki_134 rfl
theorem dX5_call_120 : decode cX5_call 120 = .ok (.iconst 1, 1) := kd_r kbX5_call ki_16 rfl
theorem dX5_call_121 : decode cX5_call 121 = .ok (.iadd, 1) := kd_r kbX5_call ki_30 rfl
theorem dX5_call_122 : decode cX5_call 122 = .ok (.invokevirtual 46, 3) := kd_r kbX5_call ki_309 rfl
theorem dX5_call_125 : decode cX5_call 125 = .ok (.goto 18, 3) := kd_r kbX5_call ki_310 rfl
theorem dX5_call_128 : decode cX5_call 128 = .ok (.aload_n 0, 1) := kd_r kbX5_call ki_0 rfl
theorem dX5_call_129 : decode cX5_call 129 = .ok (.iload_n 1, 1) := kd_r kbX5_call ki_8 rfl
theorem dX5_call_130 : decode cX5_call 130 = .ok (.iload 6, 2) := kd_r kbX5_call ki_200 rfl
theorem dX5_call_132 : decode cX5_call 132 = .ok (.iload 7, 2) := kd_r kbX5_call ki_153 rfl
theorem dX5_call_134 : decode cX5_call 134 = .ok (.iload 4, 2) := kd_r kbX5_call ki_57 rfl
theorem dX5_call_136 : decode cX5_call 136 = .ok (.iload 5, 2) := kd_r kbX5_call ki_134 rfl
theorem dX5_call_138 : decode cX5_call 138 = .ok (.iconst 1, 1) := kd_r kbX5_call ki_16 rfl
theorem dX5_call_139 : decode cX5_call 139 = .ok (.iadd, 1) := kd_r kbX5_call ki_30 rfl
theorem dX5_call_140 : decode cX5_call 140 = .ok (.invokevirtual 50, 3) := kd_r kbX5_call ki_311 rfl
theorem dX5_call_143 : decode cX5_call 143 = .ok (.ireturn, 1) := kd_r kbX5_call ki_7 rfl
set_option maxRecDepth 20000 in
theorem ggX5_runLine_X5_kindOf : GoodIn wsX5_runLine wsX5_kindOf := goodIn_r _ [5, 6, 7, 8, 9, 4, 10, 11, 30, 31, 32, 33] rfl (by decide +kernel)
set_option maxRecDepth 20000 in
theorem gX5_runLine_X5_kindOf : GoodIn wsX5_runLine (wsV RX5 53 RX5 yX5_kindOf wsX5_kindOf) := goodIn_app (goodIn_of _ (by decide +kernel)) ggX5_runLine_X5_kindOf
set_option maxRecDepth 20000 in
theorem ggX5_runLine_X5_call : GoodIn wsX5_runLine wsX5_call := goodIn_r _ [15, 16, 17, 18, 19, 20, 21, 4, 22, 23, 24, 25, 26, 27, 28, 0, 1, 2, 3, 5, 6, 7, 8, 9, 10, 11, 12, 13, 14, 29, 30, 31, 32, 33] rfl (by decide +kernel)
set_option maxRecDepth 20000 in
theorem gX5_runLine_X5_call : GoodIn wsX5_runLine (wsV RX5 39 RX5 yX5_call wsX5_call) := goodIn_app (goodIn_of _ (by decide +kernel)) ggX5_runLine_X5_call
theorem dX5_runLine_0 : decode cX5_runLine 0 = .ok (.aload_n 0, 1) := kd_r kbX5_runLine ki_0 rfl
theorem dX5_runLine_1 : decode cX5_runLine 1 = .ok (.iload_n 1, 1) := kd_r kbX5_runLine ki_8 rfl
theorem dX5_runLine_2 : decode cX5_runLine 2 = .ok (.invokevirtual 53, 3) := kd_r kbX5_runLine ki_312 rfl
theorem dX5_runLine_5 : decode cX5_runLine 5 = .ok (.istore 5, 2) := kd_r kbX5_runLine ki_133 rfl
theorem dX5_runLine_7 : decode cX5_runLine 7 = .ok (.iload_n 2, 1) := kd_r kbX5_runLine ki_11 rfl
theorem dX5_runLine_8 : decode cX5_runLine 8 = .ok (.lookupswitch 78 #[(1, 36), (2, 40), (10, 64)], 36) := by decide +kernel
theorem dX5_runLine_44 : decode cX5_runLine 44 = .ok (.iload_n 3, 1) := kd_r kbX5_runLine ki_55 rfl
theorem dX5_runLine_45 : decode cX5_runLine 45 = .ok (.iload_n 1, 1) := kd_r kbX5_runLine ki_8 rfl
theorem dX5_runLine_46 : decode cX5_runLine 46 = .ok (.iadd, 1) := kd_r kbX5_runLine ki_30 rfl
theorem dX5_runLine_47 : decode cX5_runLine 47 = .ok (.ireturn, 1) := kd_r kbX5_runLine ki_7 rfl
theorem dX5_runLine_48 : decode cX5_runLine 48 = .ok (.aload_n 0, 1) := kd_r kbX5_runLine ki_0 rfl
theorem dX5_runLine_49 : decode cX5_runLine 49 = .ok (.iload_n 1, 1) := kd_r kbX5_runLine ki_8 rfl
theorem dX5_runLine_50 : decode cX5_runLine 50 = .ok (.iload 5, 2) := kd_r kbX5_runLine ki_134 rfl
theorem dX5_runLine_52 : decode cX5_runLine 52 = .ok (.iconst 1, 1) := kd_r kbX5_runLine ki_16 rfl
theorem dX5_runLine_53 : decode cX5_runLine 53 = .ok (.iload_n 3, 1) := kd_r kbX5_runLine ki_55 rfl
theorem dX5_runLine_54 : decode cX5_runLine 54 = .ok (.iload 4, 2) := kd_r kbX5_runLine ki_57 rfl
theorem dX5_runLine_56 : decode cX5_runLine 56 = .ok (.invokevirtual 39, 3) := kd_r kbX5_runLine ki_301 rfl
theorem dX5_runLine_59 : decode cX5_runLine 59 = .ok (.aload_n 0, 1) := kd_r kbX5_runLine ki_0 rfl
theorem dX5_runLine_60 : decode cX5_runLine 60 = .ok (.iload_n 1, 1) := kd_r kbX5_runLine ki_8 rfl
theorem dX5_runLine_61 : decode cX5_runLine 61 = .ok (.iload 5, 2) := kd_r kbX5_runLine ki_134 rfl
theorem dX5_runLine_63 : decode cX5_runLine 63 = .ok (.iconst 2, 1) := kd_r kbX5_runLine ki_244 rfl
theorem dX5_runLine_64 : decode cX5_runLine 64 = .ok (.iconst 1, 1) := kd_r kbX5_runLine ki_16 rfl
theorem dX5_runLine_65 : decode cX5_runLine 65 = .ok (.iload 4, 2) := kd_r kbX5_runLine ki_57 rfl
theorem dX5_runLine_67 : decode cX5_runLine 67 = .ok (.invokevirtual 39, 3) := kd_r kbX5_runLine ki_301 rfl
theorem dX5_runLine_70 : decode cX5_runLine 70 = .ok (.isub, 1) := kd_r kbX5_runLine ki_50 rfl
theorem dX5_runLine_71 : decode cX5_runLine 71 = .ok (.ireturn, 1) := kd_r kbX5_runLine ki_7 rfl
theorem dX5_runLine_72 : decode cX5_runLine 72 = .ok (.aload_n 0, 1) := kd_r kbX5_runLine ki_0 rfl
theorem dX5_runLine_73 : decode cX5_runLine 73 = .ok (.iload_n 1, 1) := kd_r kbX5_runLine ki_8 rfl
theorem dX5_runLine_74 : decode cX5_runLine 74 = .ok (.iload 5, 2) := kd_r kbX5_runLine ki_134 rfl
theorem dX5_runLine_76 : decode cX5_runLine 76 = .ok (.iconst 0, 1) := kd_r kbX5_runLine ki_20 rfl
theorem dX5_runLine_77 : decode cX5_runLine 77 = .ok (.iload_n 3, 1) := kd_r kbX5_runLine ki_55 rfl
theorem dX5_runLine_78 : decode cX5_runLine 78 = .ok (.iload 4, 2) := kd_r kbX5_runLine ki_57 rfl
theorem dX5_runLine_80 : decode cX5_runLine 80 = .ok (.invokevirtual 39, 3) := kd_r kbX5_runLine ki_301 rfl
theorem dX5_runLine_83 : decode cX5_runLine 83 = .ok (.iconst 2, 1) := kd_r kbX5_runLine ki_244 rfl
theorem dX5_runLine_84 : decode cX5_runLine 84 = .ok (.imul, 1) := kd_r kbX5_runLine ki_114 rfl
theorem dX5_runLine_85 : decode cX5_runLine 85 = .ok (.ireturn, 1) := kd_r kbX5_runLine ki_7 rfl
theorem dX5_runLine_86 : decode cX5_runLine 86 = .ok (.iload_n 3, 1) := kd_r kbX5_runLine ki_55 rfl
theorem dX5_runLine_87 : decode cX5_runLine 87 = .ok (.iload_n 1, 1) := kd_r kbX5_runLine ki_8 rfl
theorem dX5_runLine_88 : decode cX5_runLine 88 = .ok (.ixor, 1) := kd_r kbX5_runLine ki_313 rfl
theorem dX5_runLine_89 : decode cX5_runLine 89 = .ok (.ireturn, 1) := kd_r kbX5_runLine ki_7 rfl
set_option maxRecDepth 20000 in
theorem ggX5_runUnder_X5_kindOf : GoodIn wsX5_runUnder wsX5_kindOf := goodIn_r _ [6, 7, 8, 9, 10, 5, 11, 12, 30, 31, 32, 33] rfl (by decide +kernel)
set_option maxRecDepth 20000 in
theorem gX5_runUnder_X5_kindOf : GoodIn wsX5_runUnder (wsV RX5 53 RX5 yX5_kindOf wsX5_kindOf) := goodIn_app (goodIn_of _ (by decide +kernel)) ggX5_runUnder_X5_kindOf
set_option maxRecDepth 20000 in
theorem ggX5_runUnder_X5_isKind : GoodIn wsX5_runUnder wsX5_isKind := goodIn_r _ [15] rfl (by decide +kernel)
set_option maxRecDepth 20000 in
theorem gX5_runUnder_X5_isKind : GoodIn wsX5_runUnder (va_wsS RX5 18 yX5_isKind wsX5_isKind) := goodIn_app (goodIn_of _ (by decide +kernel)) ggX5_runUnder_X5_isKind
set_option maxRecDepth 20000 in
theorem ggX5_runUnder_X5_call : GoodIn wsX5_runUnder wsX5_call := goodIn_r _ [19, 20, 1, 21, 22, 13, 14, 5, 15, 23, 24, 25, 26, 27, 28, 29, 2, 3, 4, 6, 7, 8, 9, 10, 11, 12, 16, 17, 18, 0, 30, 31, 32, 33] rfl (by decide +kernel)
set_option maxRecDepth 20000 in
theorem gX5_runUnder_X5_call : GoodIn wsX5_runUnder (wsV RX5 39 RX5 yX5_call wsX5_call) := goodIn_app (goodIn_of _ (by decide +kernel)) ggX5_runUnder_X5_call
theorem dX5_runUnder_0 : decode cX5_runUnder 0 = .ok (.aload_n 0, 1) := kd_r kbX5_runUnder ki_0 rfl
theorem dX5_runUnder_1 : decode cX5_runUnder 1 = .ok (.iload_n 1, 1) := kd_r kbX5_runUnder ki_8 rfl
theorem dX5_runUnder_2 : decode cX5_runUnder 2 = .ok (.invokevirtual 53, 3) := kd_r kbX5_runUnder ki_312 rfl
theorem dX5_runUnder_5 : decode cX5_runUnder 5 = .ok (.istore 6, 2) := kd_r kbX5_runUnder ki_199 rfl
theorem dX5_runUnder_7 : decode cX5_runUnder 7 = .ok (.iload_n 2, 1) := kd_r kbX5_runUnder ki_11 rfl
theorem dX5_runUnder_8 : decode cX5_runUnder 8 = .ok (.invokestatic 18, 3) := kd_r kbX5_runUnder ki_287 rfl
theorem dX5_runUnder_11 : decode cX5_runUnder 11 = .ok (.ifCond .eq 11, 3) := kd_r kbX5_runUnder ki_279 rfl
theorem dX5_runUnder_14 : decode cX5_runUnder 14 = .ok (.getstatic 22, 3) := kd_r kbX5_runUnder ki_289 rfl
theorem dX5_runUnder_17 : decode cX5_runUnder 17 = .ok (.iload_n 2, 1) := kd_r kbX5_runUnder ki_11 rfl
theorem dX5_runUnder_18 : decode cX5_runUnder 18 = .ok (.iaload, 1) := kd_r kbX5_runUnder ki_14 rfl
theorem dX5_runUnder_19 : decode cX5_runUnder 19 = .ok (.goto 4, 3) := kd_r kbX5_runUnder ki_19 rfl
theorem dX5_runUnder_23 : decode cX5_runUnder 23 = .ok (.istore 7, 2) := kd_r kbX5_runUnder ki_152 rfl
theorem dX5_runUnder_25 : decode cX5_runUnder 25 = .ok (.iload_n 3, 1) := kd_r kbX5_runUnder ki_55 rfl
theorem dX5_runUnder_26 : decode cX5_runUnder 26 = .ok (.lookupswitch 213 #[(20, 74), (30, 89), (40, 103), (50, 118), (51, 143), (60, 158), (70, 183), (80, 198)], 74) := by decide +kernel
theorem dX5_runUnder_100 : decode cX5_runUnder 100 = .ok (.aload_n 0, 1) := kd_r kbX5_runUnder ki_0 rfl
theorem dX5_runUnder_101 : decode cX5_runUnder 101 = .ok (.iload_n 1, 1) := kd_r kbX5_runUnder ki_8 rfl
theorem dX5_runUnder_102 : decode cX5_runUnder 102 = .ok (.iload 7, 2) := kd_r kbX5_runUnder ki_153 rfl
theorem dX5_runUnder_104 : decode cX5_runUnder 104 = .ok (.iconst 0, 1) := kd_r kbX5_runUnder ki_20 rfl
theorem dX5_runUnder_105 : decode cX5_runUnder 105 = .ok (.iload 4, 2) := kd_r kbX5_runUnder ki_57 rfl
theorem dX5_runUnder_107 : decode cX5_runUnder 107 = .ok (.iload 5, 2) := kd_r kbX5_runUnder ki_134 rfl
theorem dX5_runUnder_109 : decode cX5_runUnder 109 = .ok (.invokevirtual 39, 3) := kd_r kbX5_runUnder ki_301 rfl
theorem dX5_runUnder_112 : decode cX5_runUnder 112 = .ok (.iconst 3, 1) := kd_r kbX5_runUnder ki_246 rfl
theorem dX5_runUnder_113 : decode cX5_runUnder 113 = .ok (.iadd, 1) := kd_r kbX5_runUnder ki_30 rfl
theorem dX5_runUnder_114 : decode cX5_runUnder 114 = .ok (.ireturn, 1) := kd_r kbX5_runUnder ki_7 rfl
theorem dX5_runUnder_115 : decode cX5_runUnder 115 = .ok (.aload_n 0, 1) := kd_r kbX5_runUnder ki_0 rfl
theorem dX5_runUnder_116 : decode cX5_runUnder 116 = .ok (.iload_n 1, 1) := kd_r kbX5_runUnder ki_8 rfl
theorem dX5_runUnder_117 : decode cX5_runUnder 117 = .ok (.iload 7, 2) := kd_r kbX5_runUnder ki_153 rfl
theorem dX5_runUnder_119 : decode cX5_runUnder 119 = .ok (.iconst 1, 1) := kd_r kbX5_runUnder ki_16 rfl
theorem dX5_runUnder_120 : decode cX5_runUnder 120 = .ok (.iload 4, 2) := kd_r kbX5_runUnder ki_57 rfl
theorem dX5_runUnder_122 : decode cX5_runUnder 122 = .ok (.iload 5, 2) := kd_r kbX5_runUnder ki_134 rfl
theorem dX5_runUnder_124 : decode cX5_runUnder 124 = .ok (.invokevirtual 39, 3) := kd_r kbX5_runUnder ki_301 rfl
theorem dX5_runUnder_127 : decode cX5_runUnder 127 = .ok (.ineg, 1) := kd_r kbX5_runUnder ki_276 rfl
theorem dX5_runUnder_128 : decode cX5_runUnder 128 = .ok (.ireturn, 1) := kd_r kbX5_runUnder ki_7 rfl
theorem dX5_runUnder_129 : decode cX5_runUnder 129 = .ok (.aload_n 0, 1) := kd_r kbX5_runUnder ki_0 rfl
theorem dX5_runUnder_130 : decode cX5_runUnder 130 = .ok (.iload_n 1, 1) := kd_r kbX5_runUnder ki_8 rfl
theorem dX5_runUnder_131 : decode cX5_runUnder 131 = .ok (.iload 7, 2) := kd_r kbX5_runUnder ki_153 rfl
theorem dX5_runUnder_133 : decode cX5_runUnder 133 = .ok (.iconst 2, 1) := kd_r kbX5_runUnder ki_244 rfl
theorem dX5_runUnder_134 : decode cX5_runUnder 134 = .ok (.iload 4, 2) := kd_r kbX5_runUnder ki_57 rfl
theorem dX5_runUnder_136 : decode cX5_runUnder 136 = .ok (.iload 5, 2) := kd_r kbX5_runUnder ki_134 rfl
theorem dX5_runUnder_138 : decode cX5_runUnder 138 = .ok (.invokevirtual 39, 3) := kd_r kbX5_runUnder ki_301 rfl
theorem dX5_runUnder_141 : decode cX5_runUnder 141 = .ok (.iconst 3, 1) := kd_r kbX5_runUnder ki_246 rfl
theorem dX5_runUnder_142 : decode cX5_runUnder 142 = .ok (.imul, 1) := kd_r kbX5_runUnder ki_114 rfl
theorem dX5_runUnder_143 : decode cX5_runUnder 143 = .ok (.ireturn, 1) := kd_r kbX5_runUnder ki_7 rfl
theorem dX5_runUnder_144 : decode cX5_runUnder 144 = .ok (.aload_n 0, 1) := kd_r kbX5_runUnder ki_0 rfl
theorem dX5_runUnder_145 : decode cX5_runUnder 145 = .ok (.iload_n 1, 1) := kd_r kbX5_runUnder ki_8 rfl
theorem dX5_runUnder_146 : decode cX5_runUnder 146 = .ok (.iload 7, 2) := kd_r kbX5_runUnder ki_153 rfl
theorem dX5_runUnder_148 : decode cX5_runUnder 148 = .ok (.iconst 2, 1) := kd_r kbX5_runUnder ki_244 rfl
theorem dX5_runUnder_149 : decode cX5_runUnder 149 = .ok (.iload 4, 2) := kd_r kbX5_runUnder ki_57 rfl
theorem dX5_runUnder_151 : decode cX5_runUnder 151 = .ok (.iload 5, 2) := kd_r kbX5_runUnder ki_134 rfl
theorem dX5_runUnder_153 : decode cX5_runUnder 153 = .ok (.invokevirtual 39, 3) := kd_r kbX5_runUnder ki_301 rfl
theorem dX5_runUnder_156 : decode cX5_runUnder 156 = .ok (.aload_n 0, 1) := kd_r kbX5_runUnder ki_0 rfl
theorem dX5_runUnder_157 : decode cX5_runUnder 157 = .ok (.iload_n 1, 1) := kd_r kbX5_runUnder ki_8 rfl
theorem dX5_runUnder_158 : decode cX5_runUnder 158 = .ok (.iload 6, 2) := kd_r kbX5_runUnder ki_200 rfl
theorem dX5_runUnder_160 : decode cX5_runUnder 160 = .ok (.iconst 0, 1) := kd_r kbX5_runUnder ki_20 rfl
theorem dX5_runUnder_161 : decode cX5_runUnder 161 = .ok (.iconst 2, 1) := kd_r kbX5_runUnder ki_244 rfl
theorem dX5_runUnder_162 : decode cX5_runUnder 162 = .ok (.iload 5, 2) := kd_r kbX5_runUnder ki_134 rfl
theorem dX5_runUnder_164 : decode cX5_runUnder 164 = .ok (.invokevirtual 39, 3) := kd_r kbX5_runUnder ki_301 rfl
theorem dX5_runUnder_167 : decode cX5_runUnder 167 = .ok (.isub, 1) := kd_r kbX5_runUnder ki_50 rfl
theorem dX5_runUnder_168 : decode cX5_runUnder 168 = .ok (.ireturn, 1) := kd_r kbX5_runUnder ki_7 rfl
theorem dX5_runUnder_169 : decode cX5_runUnder 169 = .ok (.aload_n 0, 1) := kd_r kbX5_runUnder ki_0 rfl
theorem dX5_runUnder_170 : decode cX5_runUnder 170 = .ok (.iload_n 1, 1) := kd_r kbX5_runUnder ki_8 rfl
theorem dX5_runUnder_171 : decode cX5_runUnder 171 = .ok (.iload 7, 2) := kd_r kbX5_runUnder ki_153 rfl
theorem dX5_runUnder_173 : decode cX5_runUnder 173 = .ok (.iconst 3, 1) := kd_r kbX5_runUnder ki_246 rfl
theorem dX5_runUnder_174 : decode cX5_runUnder 174 = .ok (.iload 4, 2) := kd_r kbX5_runUnder ki_57 rfl
theorem dX5_runUnder_176 : decode cX5_runUnder 176 = .ok (.iload 5, 2) := kd_r kbX5_runUnder ki_134 rfl
theorem dX5_runUnder_178 : decode cX5_runUnder 178 = .ok (.invokevirtual 39, 3) := kd_r kbX5_runUnder ki_301 rfl
theorem dX5_runUnder_181 : decode cX5_runUnder 181 = .ok (.iconst 5, 1) := kd_r kbX5_runUnder ki_79 rfl
theorem dX5_runUnder_182 : decode cX5_runUnder 182 = .ok (.ixor, 1) := kd_r kbX5_runUnder ki_313 rfl
theorem dX5_runUnder_183 : decode cX5_runUnder 183 = .ok (.ireturn, 1) := kd_r kbX5_runUnder ki_7 rfl
theorem dX5_runUnder_184 : decode cX5_runUnder 184 = .ok (.aload_n 0, 1) := kd_r kbX5_runUnder ki_0 rfl
theorem dX5_runUnder_185 : decode cX5_runUnder 185 = .ok (.iload_n 1, 1) := kd_r kbX5_runUnder ki_8 rfl
theorem dX5_runUnder_186 : decode cX5_runUnder 186 = .ok (.iload 7, 2) := kd_r kbX5_runUnder ki_153 rfl
theorem dX5_runUnder_188 : decode cX5_runUnder 188 = .ok (.iconst 1, 1) := kd_r kbX5_runUnder ki_16 rfl
theorem dX5_runUnder_189 : decode cX5_runUnder 189 = .ok (.iload 4, 2) := kd_r kbX5_runUnder ki_57 rfl
theorem dX5_runUnder_191 : decode cX5_runUnder 191 = .ok (.iload 5, 2) := kd_r kbX5_runUnder ki_134 rfl
theorem dX5_runUnder_193 : decode cX5_runUnder 193 = .ok (.invokevirtual 39, 3) := kd_r kbX5_runUnder ki_301 rfl
theorem dX5_runUnder_196 : decode cX5_runUnder 196 = .ok (.aload_n 0, 1) := kd_r kbX5_runUnder ki_0 rfl
theorem dX5_runUnder_197 : decode cX5_runUnder 197 = .ok (.iload_n 1, 1) := kd_r kbX5_runUnder ki_8 rfl
theorem dX5_runUnder_198 : decode cX5_runUnder 198 = .ok (.iload 6, 2) := kd_r kbX5_runUnder ki_200 rfl
theorem dX5_runUnder_200 : decode cX5_runUnder 200 = .ok (.iconst 2, 1) := kd_r kbX5_runUnder ki_244 rfl
theorem dX5_runUnder_201 : decode cX5_runUnder 201 = .ok (.iconst 2, 1) := kd_r kbX5_runUnder ki_244 rfl
theorem dX5_runUnder_202 : decode cX5_runUnder 202 = .ok (.iload 5, 2) := kd_r kbX5_runUnder ki_134 rfl
theorem dX5_runUnder_204 : decode cX5_runUnder 204 = .ok (.invokevirtual 39, 3) := kd_r kbX5_runUnder ki_301 rfl
theorem dX5_runUnder_207 : decode cX5_runUnder 207 = .ok (.iadd, 1) := kd_r kbX5_runUnder ki_30 rfl
theorem dX5_runUnder_208 : decode cX5_runUnder 208 = .ok (.ireturn, 1) := kd_r kbX5_runUnder ki_7 rfl
theorem dX5_runUnder_209 : decode cX5_runUnder 209 = .ok (.aload_n 0, 1) := kd_r kbX5_runUnder ki_0 rfl
theorem dX5_runUnder_210 : decode cX5_runUnder 210 = .ok (.iload_n 1, 1) := kd_r kbX5_runUnder ki_8 rfl
theorem dX5_runUnder_211 : decode cX5_runUnder 211 = .ok (.iload 7, 2) := kd_r kbX5_runUnder ki_153 rfl
theorem dX5_runUnder_213 : decode cX5_runUnder 213 = .ok (.iconst 0, 1) := kd_r kbX5_runUnder ki_20 rfl
theorem dX5_runUnder_214 : decode cX5_runUnder 214 = .ok (.iload 4, 2) := kd_r kbX5_runUnder ki_57 rfl
theorem dX5_runUnder_216 : decode cX5_runUnder 216 = .ok (.iconst 1, 1) := kd_r kbX5_runUnder ki_16 rfl
theorem dX5_runUnder_217 : decode cX5_runUnder 217 = .ok (.iadd, 1) := kd_r kbX5_runUnder ki_30 rfl
theorem dX5_runUnder_218 : decode cX5_runUnder 218 = .ok (.iload 5, 2) := kd_r kbX5_runUnder ki_134 rfl
theorem dX5_runUnder_220 : decode cX5_runUnder 220 = .ok (.invokevirtual 39, 3) := kd_r kbX5_runUnder ki_301 rfl
theorem dX5_runUnder_223 : decode cX5_runUnder 223 = .ok (.ireturn, 1) := kd_r kbX5_runUnder ki_7 rfl
theorem dX5_runUnder_224 : decode cX5_runUnder 224 = .ok (.aload_n 0, 1) := kd_r kbX5_runUnder ki_0 rfl
theorem dX5_runUnder_225 : decode cX5_runUnder 225 = .ok (.iload_n 1, 1) := kd_r kbX5_runUnder ki_8 rfl
theorem dX5_runUnder_226 : decode cX5_runUnder 226 = .ok (.iload 7, 2) := kd_r kbX5_runUnder ki_153 rfl
theorem dX5_runUnder_228 : decode cX5_runUnder 228 = .ok (.iconst 0, 1) := kd_r kbX5_runUnder ki_20 rfl
theorem dX5_runUnder_229 : decode cX5_runUnder 229 = .ok (.iload 4, 2) := kd_r kbX5_runUnder ki_57 rfl
theorem dX5_runUnder_231 : decode cX5_runUnder 231 = .ok (.iload 5, 2) := kd_r kbX5_runUnder ki_134 rfl
theorem dX5_runUnder_233 : decode cX5_runUnder 233 = .ok (.invokevirtual 39, 3) := kd_r kbX5_runUnder ki_301 rfl
theorem dX5_runUnder_236 : decode cX5_runUnder 236 = .ok (.iconst 2, 1) := kd_r kbX5_runUnder ki_244 rfl
theorem dX5_runUnder_237 : decode cX5_runUnder 237 = .ok (.imul, 1) := kd_r kbX5_runUnder ki_114 rfl
theorem dX5_runUnder_238 : decode cX5_runUnder 238 = .ok (.ireturn, 1) := kd_r kbX5_runUnder ki_7 rfl
theorem dX5_runUnder_239 : decode cX5_runUnder 239 = .ok (.aload_n 0, 1) := kd_r kbX5_runUnder ki_0 rfl
theorem dX5_runUnder_240 : decode cX5_runUnder 240 = .ok (.iload_n 1, 1) := kd_r kbX5_runUnder ki_8 rfl
theorem dX5_runUnder_241 : decode cX5_runUnder 241 = .ok (.iload 7, 2) := kd_r kbX5_runUnder ki_153 rfl
theorem dX5_runUnder_243 : decode cX5_runUnder 243 = .ok (.iconst 2, 1) := kd_r kbX5_runUnder ki_244 rfl
theorem dX5_runUnder_244 : decode cX5_runUnder 244 = .ok (.iload 4, 2) := kd_r kbX5_runUnder ki_57 rfl
theorem dX5_runUnder_246 : decode cX5_runUnder 246 = .ok (.iload 5, 2) := kd_r kbX5_runUnder ki_134 rfl
theorem dX5_runUnder_248 : decode cX5_runUnder 248 = .ok (.invokevirtual 39, 3) := kd_r kbX5_runUnder ki_301 rfl
theorem dX5_runUnder_251 : decode cX5_runUnder 251 = .ok (.iconst 1, 1) := kd_r kbX5_runUnder ki_16 rfl
theorem dX5_runUnder_252 : decode cX5_runUnder 252 = .ok (.isub, 1) := kd_r kbX5_runUnder ki_50 rfl
theorem dX5_runUnder_253 : decode cX5_runUnder 253 = .ok (.ireturn, 1) := kd_r kbX5_runUnder ki_7 rfl
theorem dX6_init_0 : decode cX6_init 0 = .ok (.aload_n 0, 1) := kd_r kbX6_init ki_0 rfl
theorem dX6_init_1 : decode cX6_init 1 = .ok (.invokespecial 3, 3) := kd_r kbX6_init ki_1 rfl
theorem dX6_init_4 : decode cX6_init 4 = .ok (.aload_n 0, 1) := kd_r kbX6_init ki_0 rfl
theorem dX6_init_5 : decode cX6_init 5 = .ok (.bipush 40, 2) := kd_r kbX6_init ki_44 rfl
theorem dX6_init_7 : decode cX6_init 7 = .ok (.bipush 41, 2) := kd_r kbX6_init ki_187 rfl
theorem dX6_init_9 : decode cX6_init 9 = .ok (.multianewarray 9 2, 4) := by decide +kernel
theorem dX6_init_13 : decode cX6_init 13 = .ok (.putfield 11, 3) := kd_r kbX6_init ki_72 rfl
theorem dX6_init_16 : decode cX6_init 16 = .ok (.aload_n 0, 1) := kd_r kbX6_init ki_0 rfl
theorem dX6_init_17 : decode cX6_init 17 = .ok (.bipush 6, 2) := kd_r kbX6_init ki_2 rfl
theorem dX6_init_19 : decode cX6_init 19 = .ok (.bipush 41, 2) := kd_r kbX6_init ki_187 rfl
theorem dX6_init_21 : decode cX6_init 21 = .ok (.multianewarray 9 2, 4) := by decide +kernel
theorem dX6_init_25 : decode cX6_init 25 = .ok (.putfield 16, 3) := kd_r kbX6_init ki_46 rfl
theorem dX6_init_28 : decode cX6_init 28 = .ok (.aload_n 0, 1) := kd_r kbX6_init ki_0 rfl
theorem dX6_init_29 : decode cX6_init 29 = .ok (.bipush 40, 2) := kd_r kbX6_init ki_44 rfl
theorem dX6_init_31 : decode cX6_init 31 = .ok (.newarray .int, 2) := kd_r kbX6_init ki_3 rfl
theorem dX6_init_33 : decode cX6_init 33 = .ok (.putfield 19, 3) := kd_r kbX6_init ki_47 rfl
theorem dX6_init_36 : decode cX6_init 36 = .ok (.aload_n 0, 1) := kd_r kbX6_init ki_0 rfl
theorem dX6_init_37 : decode cX6_init 37 = .ok (.iconst 5, 1) := kd_r kbX6_init ki_79 rfl
theorem dX6_init_38 : decode cX6_init 38 = .ok (.newarray .int, 2) := kd_r kbX6_init ki_3 rfl
theorem dX6_init_40 : decode cX6_init 40 = .ok (.putfield 23, 3) := kd_r kbX6_init ki_314 rfl
theorem dX6_init_43 : decode cX6_init 43 = .ok (.return_, 1) := kd_r kbX6_init ki_5 rfl
set_option maxRecDepth 20000 in
theorem ggX6_divide_X9_size : GoodIn wsX6_divide wsX9_size := goodIn_r _ [7, 8, 56, 57, 58, 59] rfl (by decide +kernel)
set_option maxRecDepth 20000 in
theorem gX6_divide_X9_size : GoodIn wsX6_divide (wsV RX6 26 RX9 yX9_size wsX9_size) := goodIn_app (goodIn_of _ (by decide +kernel)) ggX6_divide_X9_size
set_option maxRecDepth 20000 in
theorem ggX6_divide_X9_aside : GoodIn wsX6_divide wsX9_aside := goodIn_r _ [12, 13, 14, 15, 16, 6, 17, 8, 56, 57, 58, 59] rfl (by decide +kernel)
set_option maxRecDepth 20000 in
theorem gX6_divide_X9_aside : GoodIn wsX6_divide (wsV RX6 32 RX9 yX9_aside wsX9_aside) := goodIn_app (goodIn_of _ (by decide +kernel)) ggX6_divide_X9_aside
set_option maxRecDepth 20000 in
theorem ggX6_divide_X6_workOutSpreads : GoodIn wsX6_divide wsX6_workOutSpreads := goodIn_r _ [22, 23, 24, 25, 26, 27, 28, 3, 4, 5, 6, 7, 8, 29, 30, 31, 32, 33, 14, 15, 16, 17, 34, 35, 36, 21, 37, 38, 39, 40, 51, 52, 53, 54, 55, 56, 57, 58, 59] rfl (by decide +kernel)
set_option maxRecDepth 20000 in
theorem gX6_divide_X6_workOutSpreads : GoodIn wsX6_divide (wsV RX6 36 RX6 yX6_workOutSpreads wsX6_workOutSpreads) := goodIn_app (goodIn_of _ (by decide +kernel)) ggX6_divide_X6_workOutSpreads
set_option maxRecDepth 20000 in
theorem ggX6_divide_X6_workOutSums : GoodIn wsX6_divide wsX6_workOutSums := goodIn_r _ [44, 45, 28, 2, 38, 39, 26, 40, 51, 52, 53, 54, 55] rfl (by decide +kernel)
set_option maxRecDepth 20000 in
theorem gX6_divide_X6_workOutSums : GoodIn wsX6_divide (wsV RX6 44 RX6 yX6_workOutSums wsX6_workOutSums) := goodIn_app (goodIn_of _ (by decide +kernel)) ggX6_divide_X6_workOutSums
set_option maxRecDepth 20000 in
theorem ggX6_divide_X6_findBreaks : GoodIn wsX6_divide wsX6_findBreaks := goodIn_r _ [49, 50, 1, 28, 2, 51, 52, 53, 54, 55] rfl (by decide +kernel)
set_option maxRecDepth 20000 in
theorem gX6_divide_X6_findBreaks : GoodIn wsX6_divide (wsV RX6 48 RX6 yX6_findBreaks wsX6_findBreaks) := goodIn_app (goodIn_of _ (by decide +kernel)) ggX6_divide_X6_findBreaks
theorem dX6_divide_0 : decode cX6_divide 0 = .ok (.iconst 0, 1) := kd_r kbX6_divide ki_20 rfl
theorem dX6_divide_1 : decode cX6_divide 1 = .ok (.istore_n 3, 1) := kd_r kbX6_divide ki_108 rfl
theorem dX6_divide_2 : decode cX6_divide 2 = .ok (.iload_n 3, 1) := kd_r kbX6_divide ki_55 rfl
theorem dX6_divide_3 : decode cX6_divide 3 = .ok (.aload_n 1, 1) := kd_r kbX6_divide ki_69 rfl
theorem dX6_divide_4 : decode cX6_divide 4 = .ok (.invokevirtual 26, 3) := kd_r kbX6_divide ki_315 rfl
theorem dX6_divide_7 : decode cX6_divide 7 = .ok (.if_icmp .ge 34, 3) := kd_r kbX6_divide ki_316 rfl
theorem dX6_divide_10 : decode cX6_divide 10 = .ok (.iload_n 3, 1) := kd_r kbX6_divide ki_55 rfl
theorem dX6_divide_11 : decode cX6_divide 11 = .ok (.bipush 40, 2) := kd_r kbX6_divide ki_44 rfl
theorem dX6_divide_13 : decode cX6_divide 13 = .ok (.if_icmp .ge 28, 3) := kd_r kbX6_divide ki_317 rfl
theorem dX6_divide_16 : decode cX6_divide 16 = .ok (.aload_n 0, 1) := kd_r kbX6_divide ki_0 rfl
theorem dX6_divide_17 : decode cX6_divide 17 = .ok (.aload_n 1, 1) := kd_r kbX6_divide ki_69 rfl
theorem dX6_divide_18 : decode cX6_divide 18 = .ok (.iload_n 3, 1) := kd_r kbX6_divide ki_55 rfl
theorem dX6_divide_19 : decode cX6_divide 19 = .ok (.aload_n 1, 1) := kd_r kbX6_divide ki_69 rfl
theorem dX6_divide_20 : decode cX6_divide 20 = .ok (.iload_n 3, 1) := kd_r kbX6_divide ki_55 rfl
theorem dX6_divide_21 : decode cX6_divide 21 = .ok (.invokevirtual 32, 3) := kd_r kbX6_divide ki_67 rfl
theorem dX6_divide_24 : decode cX6_divide 24 = .ok (.ifCond .ne 7, 3) := kd_r kbX6_divide ki_260 rfl
theorem dX6_divide_27 : decode cX6_divide 27 = .ok (.iload_n 2, 1) := kd_r kbX6_divide ki_11 rfl
theorem dX6_divide_28 : decode cX6_divide 28 = .ok (.goto 4, 3) := kd_r kbX6_divide ki_19 rfl
theorem dX6_divide_31 : decode cX6_divide 31 = .ok (.iconst 0, 1) := kd_r kbX6_divide ki_20 rfl
theorem dX6_divide_32 : decode cX6_divide 32 = .ok (.invokevirtual 36, 3) := kd_r kbX6_divide ki_203 rfl
theorem dX6_divide_35 : decode cX6_divide 35 = .ok (.iinc 3 1, 3) := kd_r kbX6_divide ki_116 rfl
theorem dX6_divide_38 : decode cX6_divide 38 = .ok (.goto (-36), 3) := kd_r kbX6_divide ki_318 rfl
theorem dX6_divide_41 : decode cX6_divide 41 = .ok (.aload_n 0, 1) := kd_r kbX6_divide ki_0 rfl
theorem dX6_divide_42 : decode cX6_divide 42 = .ok (.iconst 1, 1) := kd_r kbX6_divide ki_16 rfl
theorem dX6_divide_43 : decode cX6_divide 43 = .ok (.putfield 40, 3) := kd_r kbX6_divide ki_319 rfl
theorem dX6_divide_46 : decode cX6_divide 46 = .ok (.iconst 1, 1) := kd_r kbX6_divide ki_16 rfl
theorem dX6_divide_47 : decode cX6_divide 47 = .ok (.istore_n 3, 1) := kd_r kbX6_divide ki_108 rfl
theorem dX6_divide_48 : decode cX6_divide 48 = .ok (.iload_n 3, 1) := kd_r kbX6_divide ki_55 rfl
theorem dX6_divide_49 : decode cX6_divide 49 = .ok (.iconst 5, 1) := kd_r kbX6_divide ki_79 rfl
theorem dX6_divide_50 : decode cX6_divide 50 = .ok (.if_icmp .gt 45, 3) := kd_r kbX6_divide ki_320 rfl
theorem dX6_divide_53 : decode cX6_divide 53 = .ok (.aload_n 0, 1) := kd_r kbX6_divide ki_0 rfl
theorem dX6_divide_54 : decode cX6_divide 54 = .ok (.aload_n 1, 1) := kd_r kbX6_divide ki_69 rfl
theorem dX6_divide_55 : decode cX6_divide 55 = .ok (.invokevirtual 26, 3) := kd_r kbX6_divide ki_315 rfl
theorem dX6_divide_58 : decode cX6_divide 58 = .ok (.iload_n 3, 1) := kd_r kbX6_divide ki_55 rfl
theorem dX6_divide_59 : decode cX6_divide 59 = .ok (.invokevirtual 44, 3) := kd_r kbX6_divide ki_321 rfl
theorem dX6_divide_62 : decode cX6_divide 62 = .ok (.aload_n 0, 1) := kd_r kbX6_divide ki_0 rfl
theorem dX6_divide_63 : decode cX6_divide 63 = .ok (.getfield 16, 3) := kd_r kbX6_divide ki_54 rfl
theorem dX6_divide_66 : decode cX6_divide 66 = .ok (.iload_n 3, 1) := kd_r kbX6_divide ki_55 rfl
theorem dX6_divide_67 : decode cX6_divide 67 = .ok (.aaload, 1) := kd_r kbX6_divide ki_137 rfl
theorem dX6_divide_68 : decode cX6_divide 68 = .ok (.iconst 0, 1) := kd_r kbX6_divide ki_20 rfl
theorem dX6_divide_69 : decode cX6_divide 69 = .ok (.iaload, 1) := kd_r kbX6_divide ki_14 rfl
theorem dX6_divide_70 : decode cX6_divide 70 = .ok (.aload_n 0, 1) := kd_r kbX6_divide ki_0 rfl
theorem dX6_divide_71 : decode cX6_divide 71 = .ok (.getfield 16, 3) := kd_r kbX6_divide ki_54 rfl
theorem dX6_divide_74 : decode cX6_divide 74 = .ok (.aload_n 0, 1) := kd_r kbX6_divide ki_0 rfl
theorem dX6_divide_75 : decode cX6_divide 75 = .ok (.getfield 40, 3) := kd_r kbX6_divide ki_322 rfl
theorem dX6_divide_78 : decode cX6_divide 78 = .ok (.aaload, 1) := kd_r kbX6_divide ki_137 rfl
theorem dX6_divide_79 : decode cX6_divide 79 = .ok (.iconst 0, 1) := kd_r kbX6_divide ki_20 rfl
theorem dX6_divide_80 : decode cX6_divide 80 = .ok (.iaload, 1) := kd_r kbX6_divide ki_14 rfl
theorem dX6_divide_81 : decode cX6_divide 81 = .ok (.if_icmp .ge 8, 3) := kd_r kbX6_divide ki_323 rfl
theorem dX6_divide_84 : decode cX6_divide 84 = .ok (.aload_n 0, 1) := kd_r kbX6_divide ki_0 rfl
theorem dX6_divide_85 : decode cX6_divide 85 = .ok (.iload_n 3, 1) := kd_r kbX6_divide ki_55 rfl
theorem dX6_divide_86 : decode cX6_divide 86 = .ok (.putfield 40, 3) := kd_r kbX6_divide ki_319 rfl
theorem dX6_divide_89 : decode cX6_divide 89 = .ok (.iinc 3 1, 3) := kd_r kbX6_divide ki_116 rfl
theorem dX6_divide_92 : decode cX6_divide 92 = .ok (.goto (-44), 3) := kd_r kbX6_divide ki_324 rfl
theorem dX6_divide_95 : decode cX6_divide 95 = .ok (.aload_n 0, 1) := kd_r kbX6_divide ki_0 rfl
theorem dX6_divide_96 : decode cX6_divide 96 = .ok (.aload_n 1, 1) := kd_r kbX6_divide ki_69 rfl
theorem dX6_divide_97 : decode cX6_divide 97 = .ok (.invokevirtual 26, 3) := kd_r kbX6_divide ki_315 rfl
theorem dX6_divide_100 : decode cX6_divide 100 = .ok (.invokevirtual 48, 3) := kd_r kbX6_divide ki_325 rfl
theorem dX6_divide_103 : decode cX6_divide 103 = .ok (.return_, 1) := kd_r kbX6_divide ki_5 rfl
theorem dX6_sum_0 : decode cX6_sum 0 = .ok (.aload_n 0, 1) := kd_r kbX6_sum ki_0 rfl
theorem dX6_sum_1 : decode cX6_sum 1 = .ok (.getfield 16, 3) := kd_r kbX6_sum ki_54 rfl
theorem dX6_sum_4 : decode cX6_sum 4 = .ok (.aload_n 0, 1) := kd_r kbX6_sum ki_0 rfl
theorem dX6_sum_5 : decode cX6_sum 5 = .ok (.getfield 40, 3) := kd_r kbX6_sum ki_322 rfl
theorem dX6_sum_8 : decode cX6_sum 8 = .ok (.aaload, 1) := kd_r kbX6_sum ki_137 rfl
theorem dX6_sum_9 : decode cX6_sum 9 = .ok (.iconst 0, 1) := kd_r kbX6_sum ki_20 rfl
theorem dX6_sum_10 : decode cX6_sum 10 = .ok (.iaload, 1) := kd_r kbX6_sum ki_14 rfl
theorem dX6_sum_11 : decode cX6_sum 11 = .ok (.ireturn, 1) := kd_r kbX6_sum ki_7 rfl
theorem dX6_howMany_0 : decode cX6_howMany 0 = .ok (.aload_n 0, 1) := kd_r kbX6_howMany ki_0 rfl
theorem dX6_howMany_1 : decode cX6_howMany 1 = .ok (.getfield 40, 3) := kd_r kbX6_howMany ki_322 rfl
theorem dX6_howMany_4 : decode cX6_howMany 4 = .ok (.ireturn, 1) := kd_r kbX6_howMany ki_7 rfl
theorem dX6_begin_0 : decode cX6_begin 0 = .ok (.iload_n 1, 1) := kd_r kbX6_begin ki_8 rfl
theorem dX6_begin_1 : decode cX6_begin 1 = .ok (.ifCond .lt 21, 3) := kd_r kbX6_begin ki_326 rfl
theorem dX6_begin_4 : decode cX6_begin 4 = .ok (.iload_n 1, 1) := kd_r kbX6_begin ki_8 rfl
theorem dX6_begin_5 : decode cX6_begin 5 = .ok (.aload_n 0, 1) := kd_r kbX6_begin ki_0 rfl
theorem dX6_begin_6 : decode cX6_begin 6 = .ok (.getfield 23, 3) := kd_r kbX6_begin ki_327 rfl
theorem dX6_begin_9 : decode cX6_begin 9 = .ok (.arraylength, 1) := kd_r kbX6_begin ki_33 rfl
theorem dX6_begin_10 : decode cX6_begin 10 = .ok (.if_icmp .ge 12, 3) := kd_r kbX6_begin ki_298 rfl
theorem dX6_begin_13 : decode cX6_begin 13 = .ok (.aload_n 0, 1) := kd_r kbX6_begin ki_0 rfl
theorem dX6_begin_14 : decode cX6_begin 14 = .ok (.getfield 23, 3) := kd_r kbX6_begin ki_327 rfl
theorem dX6_begin_17 : decode cX6_begin 17 = .ok (.iload_n 1, 1) := kd_r kbX6_begin ki_8 rfl
theorem dX6_begin_18 : decode cX6_begin 18 = .ok (.iaload, 1) := kd_r kbX6_begin ki_14 rfl
theorem dX6_begin_19 : decode cX6_begin 19 = .ok (.goto 4, 3) := kd_r kbX6_begin ki_19 rfl
theorem dX6_begin_22 : decode cX6_begin 22 = .ok (.iconst (-1), 1) := kd_r kbX6_begin ki_99 rfl
theorem dX6_begin_23 : decode cX6_begin 23 = .ok (.ireturn, 1) := kd_r kbX6_begin ki_7 rfl
set_option maxRecDepth 20000 in
theorem ggX6_workOutSpreads_X9_size : GoodIn wsX6_workOutSpreads wsX9_size := goodIn_r _ [11, 12, 35, 36, 37, 38] rfl (by decide +kernel)
set_option maxRecDepth 20000 in
theorem gX6_workOutSpreads_X9_size : GoodIn wsX6_workOutSpreads (wsV RX6 26 RX9 yX9_size wsX9_size) := goodIn_app (goodIn_of _ (by decide +kernel)) ggX6_workOutSpreads_X9_size
set_option maxRecDepth 20000 in
theorem ggX6_workOutSpreads_X9_width : GoodIn wsX6_workOutSpreads wsX9_width := goodIn_r _ [16, 17, 18, 19, 20, 10, 21, 12, 35, 36, 37, 38] rfl (by decide +kernel)
set_option maxRecDepth 20000 in
theorem gX6_workOutSpreads_X9_width : GoodIn wsX6_workOutSpreads (wsV RX6 52 RX9 yX9_width wsX9_width) := goodIn_app (goodIn_of _ (by decide +kernel)) ggX6_workOutSpreads_X9_width
set_option maxRecDepth 20000 in
theorem ggX6_workOutSpreads_X6_sortIn : GoodIn wsX6_workOutSpreads wsX6_sortIn := goodIn_r _ [26, 1, 27, 28, 4, 29, 30, 31, 32, 33, 34] rfl (by decide +kernel)
set_option maxRecDepth 20000 in
theorem gX6_workOutSpreads_X6_sortIn : GoodIn wsX6_workOutSpreads (wsV RX6 55 RX6 yX6_sortIn wsX6_sortIn) := goodIn_app (goodIn_of _ (by decide +kernel)) ggX6_workOutSpreads_X6_sortIn
theorem dX6_workOutSpreads_0 : decode cX6_workOutSpreads 0 = .ok (.iload_n 2, 1) := kd_r kbX6_workOutSpreads ki_11 rfl
theorem dX6_workOutSpreads_1 : decode cX6_workOutSpreads 1 = .ok (.iconst 1, 1) := kd_r kbX6_workOutSpreads ki_16 rfl
theorem dX6_workOutSpreads_2 : decode cX6_workOutSpreads 2 = .ok (.iadd, 1) := kd_r kbX6_workOutSpreads ki_30 rfl
theorem dX6_workOutSpreads_3 : decode cX6_workOutSpreads 3 = .ok (.istore 4, 2) := kd_r kbX6_workOutSpreads ki_129 rfl
theorem dX6_workOutSpreads_5 : decode cX6_workOutSpreads 5 = .ok (.iload 4, 2) := kd_r kbX6_workOutSpreads ki_57 rfl
theorem dX6_workOutSpreads_7 : decode cX6_workOutSpreads 7 = .ok (.aload_n 1, 1) := kd_r kbX6_workOutSpreads ki_69 rfl
theorem dX6_workOutSpreads_8 : decode cX6_workOutSpreads 8 = .ok (.invokevirtual 26, 3) := kd_r kbX6_workOutSpreads ki_315 rfl
theorem dX6_workOutSpreads_11 : decode cX6_workOutSpreads 11 = .ok (.if_icmp .gt 92, 3) := kd_r kbX6_workOutSpreads ki_328 rfl
theorem dX6_workOutSpreads_14 : decode cX6_workOutSpreads 14 = .ok (.iload 4, 2) := kd_r kbX6_workOutSpreads ki_57 rfl
theorem dX6_workOutSpreads_16 : decode cX6_workOutSpreads 16 = .ok (.iload_n 2, 1) := kd_r kbX6_workOutSpreads ki_11 rfl
theorem dX6_workOutSpreads_17 : decode cX6_workOutSpreads 17 = .ok (.isub, 1) := kd_r kbX6_workOutSpreads ki_50 rfl
theorem dX6_workOutSpreads_18 : decode cX6_workOutSpreads 18 = .ok (.istore 5, 2) := kd_r kbX6_workOutSpreads ki_133 rfl
theorem dX6_workOutSpreads_20 : decode cX6_workOutSpreads 20 = .ok (.aload_n 0, 1) := kd_r kbX6_workOutSpreads ki_0 rfl
theorem dX6_workOutSpreads_21 : decode cX6_workOutSpreads 21 = .ok (.aload_n 1, 1) := kd_r kbX6_workOutSpreads ki_69 rfl
theorem dX6_workOutSpreads_22 : decode cX6_workOutSpreads 22 = .ok (.iload 4, 2) := kd_r kbX6_workOutSpreads ki_57 rfl
theorem dX6_workOutSpreads_24 : decode cX6_workOutSpreads 24 = .ok (.iconst 1, 1) := kd_r kbX6_workOutSpreads ki_16 rfl
theorem dX6_workOutSpreads_25 : decode cX6_workOutSpreads 25 = .ok (.isub, 1) := kd_r kbX6_workOutSpreads ki_50 rfl
theorem dX6_workOutSpreads_26 : decode cX6_workOutSpreads 26 = .ok (.invokevirtual 52, 3) := kd_r kbX6_workOutSpreads ki_95 rfl
theorem dX6_workOutSpreads_29 : decode cX6_workOutSpreads 29 = .ok (.iload 5, 2) := kd_r kbX6_workOutSpreads ki_134 rfl
theorem dX6_workOutSpreads_31 : decode cX6_workOutSpreads 31 = .ok (.iconst 1, 1) := kd_r kbX6_workOutSpreads ki_16 rfl
theorem dX6_workOutSpreads_32 : decode cX6_workOutSpreads 32 = .ok (.isub, 1) := kd_r kbX6_workOutSpreads ki_50 rfl
theorem dX6_workOutSpreads_33 : decode cX6_workOutSpreads 33 = .ok (.invokevirtual 55, 3) := kd_r kbX6_workOutSpreads ki_329 rfl
theorem dX6_workOutSpreads_36 : decode cX6_workOutSpreads 36 = .ok (.aload_n 0, 1) := kd_r kbX6_workOutSpreads ki_0 rfl
theorem dX6_workOutSpreads_37 : decode cX6_workOutSpreads 37 = .ok (.getfield 19, 3) := kd_r kbX6_workOutSpreads ki_56 rfl
theorem dX6_workOutSpreads_40 : decode cX6_workOutSpreads 40 = .ok (.iload 5, 2) := kd_r kbX6_workOutSpreads ki_134 rfl
theorem dX6_workOutSpreads_42 : decode cX6_workOutSpreads 42 = .ok (.iconst 1, 1) := kd_r kbX6_workOutSpreads ki_16 rfl
theorem dX6_workOutSpreads_43 : decode cX6_workOutSpreads 43 = .ok (.isub, 1) := kd_r kbX6_workOutSpreads ki_50 rfl
theorem dX6_workOutSpreads_44 : decode cX6_workOutSpreads 44 = .ok (.iconst 2, 1) := kd_r kbX6_workOutSpreads ki_244 rfl
theorem dX6_workOutSpreads_45 : decode cX6_workOutSpreads 45 = .ok (.idiv, 1) := kd_r kbX6_workOutSpreads ki_225 rfl
theorem dX6_workOutSpreads_46 : decode cX6_workOutSpreads 46 = .ok (.iaload, 1) := kd_r kbX6_workOutSpreads ki_14 rfl
theorem dX6_workOutSpreads_47 : decode cX6_workOutSpreads 47 = .ok (.istore 6, 2) := kd_r kbX6_workOutSpreads ki_199 rfl
theorem dX6_workOutSpreads_49 : decode cX6_workOutSpreads 49 = .ok (.iload_n 3, 1) := kd_r kbX6_workOutSpreads ki_55 rfl
theorem dX6_workOutSpreads_50 : decode cX6_workOutSpreads 50 = .ok (.istore 7, 2) := kd_r kbX6_workOutSpreads ki_152 rfl
theorem dX6_workOutSpreads_52 : decode cX6_workOutSpreads 52 = .ok (.iconst 0, 1) := kd_r kbX6_workOutSpreads ki_20 rfl
theorem dX6_workOutSpreads_53 : decode cX6_workOutSpreads 53 = .ok (.istore 8, 2) := kd_r kbX6_workOutSpreads ki_155 rfl
theorem dX6_workOutSpreads_55 : decode cX6_workOutSpreads 55 = .ok (.iload 8, 2) := kd_r kbX6_workOutSpreads ki_156 rfl
theorem dX6_workOutSpreads_57 : decode cX6_workOutSpreads 57 = .ok (.iload 5, 2) := kd_r kbX6_workOutSpreads ki_134 rfl
theorem dX6_workOutSpreads_59 : decode cX6_workOutSpreads 59 = .ok (.if_icmp .ge 27, 3) := kd_r kbX6_workOutSpreads ki_330 rfl
theorem dX6_workOutSpreads_62 : decode cX6_workOutSpreads 62 = .ok (.iload 7, 2) := kd_r kbX6_workOutSpreads ki_153 rfl
theorem dX6_workOutSpreads_64 : decode cX6_workOutSpreads 64 = .ok (.aload_n 0, 1) := kd_r kbX6_workOutSpreads ki_0 rfl
theorem dX6_workOutSpreads_65 : decode cX6_workOutSpreads 65 = .ok (.getfield 19, 3) := kd_r kbX6_workOutSpreads ki_56 rfl
theorem dX6_workOutSpreads_68 : decode cX6_workOutSpreads 68 = .ok (.iload 8, 2) := kd_r kbX6_workOutSpreads ki_156 rfl
theorem dX6_workOutSpreads_70 : decode cX6_workOutSpreads 70 = .ok (.iaload, 1) := kd_r kbX6_workOutSpreads ki_14 rfl
theorem dX6_workOutSpreads_71 : decode cX6_workOutSpreads 71 = .ok (.iload 6, 2) := kd_r kbX6_workOutSpreads ki_200 rfl
theorem dX6_workOutSpreads_73 : decode cX6_workOutSpreads 73 = .ok (.isub, 1) := kd_r kbX6_workOutSpreads ki_50 rfl
theorem dX6_workOutSpreads_74 : decode cX6_workOutSpreads 74 = .ok (.invokestatic 58, 3) := kd_r kbX6_workOutSpreads ki_331 rfl
theorem dX6_workOutSpreads_77 : decode cX6_workOutSpreads 77 = .ok (.iadd, 1) := kd_r kbX6_workOutSpreads ki_30 rfl
theorem dX6_workOutSpreads_78 : decode cX6_workOutSpreads 78 = .ok (.istore 7, 2) := kd_r kbX6_workOutSpreads ki_152 rfl
theorem dX6_workOutSpreads_80 : decode cX6_workOutSpreads 80 = .ok (.iinc 8 1, 3) := kd_r kbX6_workOutSpreads ki_162 rfl
theorem dX6_workOutSpreads_83 : decode cX6_workOutSpreads 83 = .ok (.goto (-28), 3) := kd_r kbX6_workOutSpreads ki_332 rfl
theorem dX6_workOutSpreads_86 : decode cX6_workOutSpreads 86 = .ok (.aload_n 0, 1) := kd_r kbX6_workOutSpreads ki_0 rfl
theorem dX6_workOutSpreads_87 : decode cX6_workOutSpreads 87 = .ok (.getfield 11, 3) := kd_r kbX6_workOutSpreads ki_86 rfl
theorem dX6_workOutSpreads_90 : decode cX6_workOutSpreads 90 = .ok (.iload_n 2, 1) := kd_r kbX6_workOutSpreads ki_11 rfl
theorem dX6_workOutSpreads_91 : decode cX6_workOutSpreads 91 = .ok (.aaload, 1) := kd_r kbX6_workOutSpreads ki_137 rfl
theorem dX6_workOutSpreads_92 : decode cX6_workOutSpreads 92 = .ok (.iload 4, 2) := kd_r kbX6_workOutSpreads ki_57 rfl
theorem dX6_workOutSpreads_94 : decode cX6_workOutSpreads 94 = .ok (.iload 7, 2) := kd_r kbX6_workOutSpreads ki_153 rfl
theorem dX6_workOutSpreads_96 : decode cX6_workOutSpreads 96 = .ok (.iastore, 1) := kd_r kbX6_workOutSpreads ki_28 rfl
theorem dX6_workOutSpreads_97 : decode cX6_workOutSpreads 97 = .ok (.iinc 4 1, 3) := kd_r kbX6_workOutSpreads ki_144 rfl
theorem dX6_workOutSpreads_100 : decode cX6_workOutSpreads 100 = .ok (.goto (-95), 3) := kd_r kbX6_workOutSpreads ki_333 rfl
theorem dX6_workOutSpreads_103 : decode cX6_workOutSpreads 103 = .ok (.return_, 1) := kd_r kbX6_workOutSpreads ki_5 rfl
theorem dX6_sortIn_0 : decode cX6_sortIn 0 = .ok (.iload_n 2, 1) := kd_r kbX6_sortIn ki_11 rfl
theorem dX6_sortIn_1 : decode cX6_sortIn 1 = .ok (.aload_n 0, 1) := kd_r kbX6_sortIn ki_0 rfl
theorem dX6_sortIn_2 : decode cX6_sortIn 2 = .ok (.getfield 19, 3) := kd_r kbX6_sortIn ki_56 rfl
theorem dX6_sortIn_5 : decode cX6_sortIn 5 = .ok (.arraylength, 1) := kd_r kbX6_sortIn ki_33 rfl
theorem dX6_sortIn_6 : decode cX6_sortIn 6 = .ok (.iconst 1, 1) := kd_r kbX6_sortIn ki_16 rfl
theorem dX6_sortIn_7 : decode cX6_sortIn 7 = .ok (.isub, 1) := kd_r kbX6_sortIn ki_50 rfl
theorem dX6_sortIn_8 : decode cX6_sortIn 8 = .ok (.invokestatic 63, 3) := kd_r kbX6_sortIn ki_334 rfl
theorem dX6_sortIn_11 : decode cX6_sortIn 11 = .ok (.istore_n 3, 1) := kd_r kbX6_sortIn ki_108 rfl
theorem dX6_sortIn_12 : decode cX6_sortIn 12 = .ok (.iload_n 3, 1) := kd_r kbX6_sortIn ki_55 rfl
theorem dX6_sortIn_13 : decode cX6_sortIn 13 = .ok (.ifCond .le 35, 3) := kd_r kbX6_sortIn ki_335 rfl
theorem dX6_sortIn_16 : decode cX6_sortIn 16 = .ok (.aload_n 0, 1) := kd_r kbX6_sortIn ki_0 rfl
theorem dX6_sortIn_17 : decode cX6_sortIn 17 = .ok (.getfield 19, 3) := kd_r kbX6_sortIn ki_56 rfl
theorem dX6_sortIn_20 : decode cX6_sortIn 20 = .ok (.iload_n 3, 1) := kd_r kbX6_sortIn ki_55 rfl
theorem dX6_sortIn_21 : decode cX6_sortIn 21 = .ok (.iconst 1, 1) := kd_r kbX6_sortIn ki_16 rfl
theorem dX6_sortIn_22 : decode cX6_sortIn 22 = .ok (.isub, 1) := kd_r kbX6_sortIn ki_50 rfl
theorem dX6_sortIn_23 : decode cX6_sortIn 23 = .ok (.iaload, 1) := kd_r kbX6_sortIn ki_14 rfl
theorem dX6_sortIn_24 : decode cX6_sortIn 24 = .ok (.iload_n 1, 1) := kd_r kbX6_sortIn ki_8 rfl
theorem dX6_sortIn_25 : decode cX6_sortIn 25 = .ok (.if_icmp .le 23, 3) := kd_r kbX6_sortIn ki_336 rfl
theorem dX6_sortIn_28 : decode cX6_sortIn 28 = .ok (.aload_n 0, 1) := kd_r kbX6_sortIn ki_0 rfl
theorem dX6_sortIn_29 : decode cX6_sortIn 29 = .ok (.getfield 19, 3) := kd_r kbX6_sortIn ki_56 rfl
theorem dX6_sortIn_32 : decode cX6_sortIn 32 = .ok (.iload_n 3, 1) := kd_r kbX6_sortIn ki_55 rfl
theorem dX6_sortIn_33 : decode cX6_sortIn 33 = .ok (.aload_n 0, 1) := kd_r kbX6_sortIn ki_0 rfl
theorem dX6_sortIn_34 : decode cX6_sortIn 34 = .ok (.getfield 19, 3) := kd_r kbX6_sortIn ki_56 rfl
theorem dX6_sortIn_37 : decode cX6_sortIn 37 = .ok (.iload_n 3, 1) := kd_r kbX6_sortIn ki_55 rfl
theorem dX6_sortIn_38 : decode cX6_sortIn 38 = .ok (.iconst 1, 1) := kd_r kbX6_sortIn ki_16 rfl
theorem dX6_sortIn_39 : decode cX6_sortIn 39 = .ok (.isub, 1) := kd_r kbX6_sortIn ki_50 rfl
theorem dX6_sortIn_40 : decode cX6_sortIn 40 = .ok (.iaload, 1) := kd_r kbX6_sortIn ki_14 rfl
theorem dX6_sortIn_41 : decode cX6_sortIn 41 = .ok (.iastore, 1) := kd_r kbX6_sortIn ki_28 rfl
theorem dX6_sortIn_42 : decode cX6_sortIn 42 = .ok (.iinc 3 (-1), 3) := kd_r kbX6_sortIn ki_337 rfl
theorem dX6_sortIn_45 : decode cX6_sortIn 45 = .ok (.goto (-33), 3) := kd_r kbX6_sortIn ki_38 rfl
theorem dX6_sortIn_48 : decode cX6_sortIn 48 = .ok (.aload_n 0, 1) := kd_r kbX6_sortIn ki_0 rfl
theorem dX6_sortIn_49 : decode cX6_sortIn 49 = .ok (.getfield 19, 3) := kd_r kbX6_sortIn ki_56 rfl
theorem dX6_sortIn_52 : decode cX6_sortIn 52 = .ok (.iload_n 3, 1) := kd_r kbX6_sortIn ki_55 rfl
theorem dX6_sortIn_53 : decode cX6_sortIn 53 = .ok (.iload_n 1, 1) := kd_r kbX6_sortIn ki_8 rfl
theorem dX6_sortIn_54 : decode cX6_sortIn 54 = .ok (.iastore, 1) := kd_r kbX6_sortIn ki_28 rfl
theorem dX6_sortIn_55 : decode cX6_sortIn 55 = .ok (.return_, 1) := kd_r kbX6_sortIn ki_5 rfl
theorem dX6_workOutSums_0 : decode cX6_workOutSums 0 = .ok (.iconst 0, 1) := kd_r kbX6_workOutSums ki_20 rfl
theorem dX6_workOutSums_1 : decode cX6_workOutSums 1 = .ok (.istore_n 3, 1) := kd_r kbX6_workOutSums ki_108 rfl
theorem dX6_workOutSums_2 : decode cX6_workOutSums 2 = .ok (.iload_n 3, 1) := kd_r kbX6_workOutSums ki_55 rfl
theorem dX6_workOutSums_3 : decode cX6_workOutSums 3 = .ok (.iload_n 1, 1) := kd_r kbX6_workOutSums ki_8 rfl
theorem dX6_workOutSums_4 : decode cX6_workOutSums 4 = .ok (.if_icmp .gt 100, 3) := kd_r kbX6_workOutSums ki_338 rfl
theorem dX6_workOutSums_7 : decode cX6_workOutSums 7 = .ok (.ldc 67, 2) := kd_r kbX6_workOutSums ki_339 rfl
theorem dX6_workOutSums_9 : decode cX6_workOutSums 9 = .ok (.istore 4, 2) := kd_r kbX6_workOutSums ki_129 rfl
theorem dX6_workOutSums_11 : decode cX6_workOutSums 11 = .ok (.iload_n 2, 1) := kd_r kbX6_workOutSums ki_11 rfl
theorem dX6_workOutSums_12 : decode cX6_workOutSums 12 = .ok (.iconst 1, 1) := kd_r kbX6_workOutSums ki_16 rfl
theorem dX6_workOutSums_13 : decode cX6_workOutSums 13 = .ok (.if_icmp .ne 28, 3) := kd_r kbX6_workOutSums ki_340 rfl
theorem dX6_workOutSums_16 : decode cX6_workOutSums 16 = .ok (.iload_n 1, 1) := kd_r kbX6_workOutSums ki_8 rfl
theorem dX6_workOutSums_17 : decode cX6_workOutSums 17 = .ok (.iload_n 3, 1) := kd_r kbX6_workOutSums ki_55 rfl
theorem dX6_workOutSums_18 : decode cX6_workOutSums 18 = .ok (.isub, 1) := kd_r kbX6_workOutSums ki_50 rfl
theorem dX6_workOutSums_19 : decode cX6_workOutSums 19 = .ok (.iconst 2, 1) := kd_r kbX6_workOutSums ki_244 rfl
theorem dX6_workOutSums_20 : decode cX6_workOutSums 20 = .ok (.if_icmp .lt 14, 3) := kd_r kbX6_workOutSums ki_341 rfl
theorem dX6_workOutSums_23 : decode cX6_workOutSums 23 = .ok (.aload_n 0, 1) := kd_r kbX6_workOutSums ki_0 rfl
theorem dX6_workOutSums_24 : decode cX6_workOutSums 24 = .ok (.getfield 11, 3) := kd_r kbX6_workOutSums ki_86 rfl
theorem dX6_workOutSums_27 : decode cX6_workOutSums 27 = .ok (.iload_n 3, 1) := kd_r kbX6_workOutSums ki_55 rfl
theorem dX6_workOutSums_28 : decode cX6_workOutSums 28 = .ok (.aaload, 1) := kd_r kbX6_workOutSums ki_137 rfl
theorem dX6_workOutSums_29 : decode cX6_workOutSums 29 = .ok (.iload_n 1, 1) := kd_r kbX6_workOutSums ki_8 rfl
theorem dX6_workOutSums_30 : decode cX6_workOutSums 30 = .ok (.iaload, 1) := kd_r kbX6_workOutSums ki_14 rfl
theorem dX6_workOutSums_31 : decode cX6_workOutSums 31 = .ok (.goto 5, 3) := kd_r kbX6_workOutSums ki_342 rfl
theorem dX6_workOutSums_34 : decode cX6_workOutSums 34 = .ok (.ldc 67, 2) := kd_r kbX6_workOutSums ki_339 rfl
theorem dX6_workOutSums_36 : decode cX6_workOutSums 36 = .ok (.istore 4, 2) := kd_r kbX6_workOutSums ki_129 rfl
theorem dX6_workOutSums_38 : decode cX6_workOutSums 38 = .ok (.goto 50, 3) := kd_r kbX6_workOutSums ki_343 rfl
theorem dX6_workOutSums_41 : decode cX6_workOutSums 41 = .ok (.iload_n 3, 1) := kd_r kbX6_workOutSums ki_55 rfl
theorem dX6_workOutSums_42 : decode cX6_workOutSums 42 = .ok (.iconst 2, 1) := kd_r kbX6_workOutSums ki_244 rfl
theorem dX6_workOutSums_43 : decode cX6_workOutSums 43 = .ok (.iadd, 1) := kd_r kbX6_workOutSums ki_30 rfl
theorem dX6_workOutSums_44 : decode cX6_workOutSums 44 = .ok (.istore 5, 2) := kd_r kbX6_workOutSums ki_133 rfl
theorem dX6_workOutSums_46 : decode cX6_workOutSums 46 = .ok (.iload 5, 2) := kd_r kbX6_workOutSums ki_134 rfl
theorem dX6_workOutSums_48 : decode cX6_workOutSums 48 = .ok (.iload_n 1, 1) := kd_r kbX6_workOutSums ki_8 rfl
theorem dX6_workOutSums_49 : decode cX6_workOutSums 49 = .ok (.iconst 2, 1) := kd_r kbX6_workOutSums ki_244 rfl
theorem dX6_workOutSums_50 : decode cX6_workOutSums 50 = .ok (.isub, 1) := kd_r kbX6_workOutSums ki_50 rfl
theorem dX6_workOutSums_51 : decode cX6_workOutSums 51 = .ok (.if_icmp .gt 37, 3) := kd_r kbX6_workOutSums ki_344 rfl
theorem dX6_workOutSums_54 : decode cX6_workOutSums 54 = .ok (.iload 4, 2) := kd_r kbX6_workOutSums ki_57 rfl
theorem dX6_workOutSums_56 : decode cX6_workOutSums 56 = .ok (.aload_n 0, 1) := kd_r kbX6_workOutSums ki_0 rfl
theorem dX6_workOutSums_57 : decode cX6_workOutSums 57 = .ok (.getfield 11, 3) := kd_r kbX6_workOutSums ki_86 rfl
theorem dX6_workOutSums_60 : decode cX6_workOutSums 60 = .ok (.iload_n 3, 1) := kd_r kbX6_workOutSums ki_55 rfl
theorem dX6_workOutSums_61 : decode cX6_workOutSums 61 = .ok (.aaload, 1) := kd_r kbX6_workOutSums ki_137 rfl
theorem dX6_workOutSums_62 : decode cX6_workOutSums 62 = .ok (.iload 5, 2) := kd_r kbX6_workOutSums ki_134 rfl
theorem dX6_workOutSums_64 : decode cX6_workOutSums 64 = .ok (.iaload, 1) := kd_r kbX6_workOutSums ki_14 rfl
theorem dX6_workOutSums_65 : decode cX6_workOutSums 65 = .ok (.aload_n 0, 1) := kd_r kbX6_workOutSums ki_0 rfl
theorem dX6_workOutSums_66 : decode cX6_workOutSums 66 = .ok (.getfield 16, 3) := kd_r kbX6_workOutSums ki_54 rfl
theorem dX6_workOutSums_69 : decode cX6_workOutSums 69 = .ok (.iload_n 2, 1) := kd_r kbX6_workOutSums ki_11 rfl
theorem dX6_workOutSums_70 : decode cX6_workOutSums 70 = .ok (.iconst 1, 1) := kd_r kbX6_workOutSums ki_16 rfl
theorem dX6_workOutSums_71 : decode cX6_workOutSums 71 = .ok (.isub, 1) := kd_r kbX6_workOutSums ki_50 rfl
theorem dX6_workOutSums_72 : decode cX6_workOutSums 72 = .ok (.aaload, 1) := kd_r kbX6_workOutSums ki_137 rfl
theorem dX6_workOutSums_73 : decode cX6_workOutSums 73 = .ok (.iload 5, 2) := kd_r kbX6_workOutSums ki_134 rfl
theorem dX6_workOutSums_75 : decode cX6_workOutSums 75 = .ok (.iaload, 1) := kd_r kbX6_workOutSums ki_14 rfl
theorem dX6_workOutSums_76 : decode cX6_workOutSums 76 = .ok (.iadd, 1) := kd_r kbX6_workOutSums ki_30 rfl
theorem dX6_workOutSums_77 : decode cX6_workOutSums 77 = .ok (.invokestatic 63, 3) := kd_r kbX6_workOutSums ki_334 rfl
theorem dX6_workOutSums_80 : decode cX6_workOutSums 80 = .ok (.istore 4, 2) := kd_r kbX6_workOutSums ki_129 rfl
theorem dX6_workOutSums_82 : decode cX6_workOutSums 82 = .ok (.iinc 5 1, 3) := kd_r kbX6_workOutSums ki_143 rfl
theorem dX6_workOutSums_85 : decode cX6_workOutSums 85 = .ok (.goto (-39), 3) := kd_r kbX6_workOutSums ki_305 rfl
theorem dX6_workOutSums_88 : decode cX6_workOutSums 88 = .ok (.aload_n 0, 1) := kd_r kbX6_workOutSums ki_0 rfl
theorem dX6_workOutSums_89 : decode cX6_workOutSums 89 = .ok (.getfield 16, 3) := kd_r kbX6_workOutSums ki_54 rfl
theorem dX6_workOutSums_92 : decode cX6_workOutSums 92 = .ok (.iload_n 2, 1) := kd_r kbX6_workOutSums ki_11 rfl
theorem dX6_workOutSums_93 : decode cX6_workOutSums 93 = .ok (.aaload, 1) := kd_r kbX6_workOutSums ki_137 rfl
theorem dX6_workOutSums_94 : decode cX6_workOutSums 94 = .ok (.iload_n 3, 1) := kd_r kbX6_workOutSums ki_55 rfl
theorem dX6_workOutSums_95 : decode cX6_workOutSums 95 = .ok (.iload 4, 2) := kd_r kbX6_workOutSums ki_57 rfl
theorem dX6_workOutSums_97 : decode cX6_workOutSums 97 = .ok (.iastore, 1) := kd_r kbX6_workOutSums ki_28 rfl
theorem dX6_workOutSums_98 : decode cX6_workOutSums 98 = .ok (.iinc 3 1, 3) := kd_r kbX6_workOutSums ki_116 rfl
theorem dX6_workOutSums_101 : decode cX6_workOutSums 101 = .ok (.goto (-99), 3) := kd_r kbX6_workOutSums ki_345 rfl
theorem dX6_workOutSums_104 : decode cX6_workOutSums 104 = .ok (.return_, 1) := kd_r kbX6_workOutSums ki_5 rfl
theorem dX6_findBreaks_0 : decode cX6_findBreaks 0 = .ok (.aload_n 0, 1) := kd_r kbX6_findBreaks ki_0 rfl
theorem dX6_findBreaks_1 : decode cX6_findBreaks 1 = .ok (.getfield 23, 3) := kd_r kbX6_findBreaks ki_327 rfl
theorem dX6_findBreaks_4 : decode cX6_findBreaks 4 = .ok (.iconst 0, 1) := kd_r kbX6_findBreaks ki_20 rfl
theorem dX6_findBreaks_5 : decode cX6_findBreaks 5 = .ok (.iconst 0, 1) := kd_r kbX6_findBreaks ki_20 rfl
theorem dX6_findBreaks_6 : decode cX6_findBreaks 6 = .ok (.iastore, 1) := kd_r kbX6_findBreaks ki_28 rfl
theorem dX6_findBreaks_7 : decode cX6_findBreaks 7 = .ok (.iconst 1, 1) := kd_r kbX6_findBreaks ki_16 rfl
theorem dX6_findBreaks_8 : decode cX6_findBreaks 8 = .ok (.istore_n 2, 1) := kd_r kbX6_findBreaks ki_32 rfl
theorem dX6_findBreaks_9 : decode cX6_findBreaks 9 = .ok (.iload_n 2, 1) := kd_r kbX6_findBreaks ki_11 rfl
theorem dX6_findBreaks_10 : decode cX6_findBreaks 10 = .ok (.aload_n 0, 1) := kd_r kbX6_findBreaks ki_0 rfl
theorem dX6_findBreaks_11 : decode cX6_findBreaks 11 = .ok (.getfield 40, 3) := kd_r kbX6_findBreaks ki_322 rfl
theorem dX6_findBreaks_14 : decode cX6_findBreaks 14 = .ok (.if_icmp .ge 87, 3) := kd_r kbX6_findBreaks ki_346 rfl
theorem dX6_findBreaks_17 : decode cX6_findBreaks 17 = .ok (.aload_n 0, 1) := kd_r kbX6_findBreaks ki_0 rfl
theorem dX6_findBreaks_18 : decode cX6_findBreaks 18 = .ok (.getfield 23, 3) := kd_r kbX6_findBreaks ki_327 rfl
theorem dX6_findBreaks_21 : decode cX6_findBreaks 21 = .ok (.iload_n 2, 1) := kd_r kbX6_findBreaks ki_11 rfl
theorem dX6_findBreaks_22 : decode cX6_findBreaks 22 = .ok (.iconst 1, 1) := kd_r kbX6_findBreaks ki_16 rfl
theorem dX6_findBreaks_23 : decode cX6_findBreaks 23 = .ok (.isub, 1) := kd_r kbX6_findBreaks ki_50 rfl
theorem dX6_findBreaks_24 : decode cX6_findBreaks 24 = .ok (.iaload, 1) := kd_r kbX6_findBreaks ki_14 rfl
theorem dX6_findBreaks_25 : decode cX6_findBreaks 25 = .ok (.istore_n 3, 1) := kd_r kbX6_findBreaks ki_108 rfl
theorem dX6_findBreaks_26 : decode cX6_findBreaks 26 = .ok (.aload_n 0, 1) := kd_r kbX6_findBreaks ki_0 rfl
theorem dX6_findBreaks_27 : decode cX6_findBreaks 27 = .ok (.getfield 40, 3) := kd_r kbX6_findBreaks ki_322 rfl
theorem dX6_findBreaks_30 : decode cX6_findBreaks 30 = .ok (.iload_n 2, 1) := kd_r kbX6_findBreaks ki_11 rfl
theorem dX6_findBreaks_31 : decode cX6_findBreaks 31 = .ok (.isub, 1) := kd_r kbX6_findBreaks ki_50 rfl
theorem dX6_findBreaks_32 : decode cX6_findBreaks 32 = .ok (.istore 4, 2) := kd_r kbX6_findBreaks ki_129 rfl
theorem dX6_findBreaks_34 : decode cX6_findBreaks 34 = .ok (.iload_n 3, 1) := kd_r kbX6_findBreaks ki_55 rfl
theorem dX6_findBreaks_35 : decode cX6_findBreaks 35 = .ok (.iconst 2, 1) := kd_r kbX6_findBreaks ki_244 rfl
theorem dX6_findBreaks_36 : decode cX6_findBreaks 36 = .ok (.iadd, 1) := kd_r kbX6_findBreaks ki_30 rfl
theorem dX6_findBreaks_37 : decode cX6_findBreaks 37 = .ok (.istore 5, 2) := kd_r kbX6_findBreaks ki_133 rfl
theorem dX6_findBreaks_39 : decode cX6_findBreaks 39 = .ok (.iload 5, 2) := kd_r kbX6_findBreaks ki_134 rfl
theorem dX6_findBreaks_41 : decode cX6_findBreaks 41 = .ok (.iload_n 1, 1) := kd_r kbX6_findBreaks ki_8 rfl
theorem dX6_findBreaks_42 : decode cX6_findBreaks 42 = .ok (.iconst 2, 1) := kd_r kbX6_findBreaks ki_244 rfl
theorem dX6_findBreaks_43 : decode cX6_findBreaks 43 = .ok (.isub, 1) := kd_r kbX6_findBreaks ki_50 rfl
theorem dX6_findBreaks_44 : decode cX6_findBreaks 44 = .ok (.if_icmp .ge 43, 3) := kd_r kbX6_findBreaks ki_347 rfl
theorem dX6_findBreaks_47 : decode cX6_findBreaks 47 = .ok (.aload_n 0, 1) := kd_r kbX6_findBreaks ki_0 rfl
theorem dX6_findBreaks_48 : decode cX6_findBreaks 48 = .ok (.getfield 11, 3) := kd_r kbX6_findBreaks ki_86 rfl
theorem dX6_findBreaks_51 : decode cX6_findBreaks 51 = .ok (.iload_n 3, 1) := kd_r kbX6_findBreaks ki_55 rfl
theorem dX6_findBreaks_52 : decode cX6_findBreaks 52 = .ok (.aaload, 1) := kd_r kbX6_findBreaks ki_137 rfl
theorem dX6_findBreaks_53 : decode cX6_findBreaks 53 = .ok (.iload 5, 2) := kd_r kbX6_findBreaks ki_134 rfl
theorem dX6_findBreaks_55 : decode cX6_findBreaks 55 = .ok (.iaload, 1) := kd_r kbX6_findBreaks ki_14 rfl
theorem dX6_findBreaks_56 : decode cX6_findBreaks 56 = .ok (.aload_n 0, 1) := kd_r kbX6_findBreaks ki_0 rfl
theorem dX6_findBreaks_57 : decode cX6_findBreaks 57 = .ok (.getfield 16, 3) := kd_r kbX6_findBreaks ki_54 rfl
theorem dX6_findBreaks_60 : decode cX6_findBreaks 60 = .ok (.iload 4, 2) := kd_r kbX6_findBreaks ki_57 rfl
theorem dX6_findBreaks_62 : decode cX6_findBreaks 62 = .ok (.aaload, 1) := kd_r kbX6_findBreaks ki_137 rfl
theorem dX6_findBreaks_63 : decode cX6_findBreaks 63 = .ok (.iload 5, 2) := kd_r kbX6_findBreaks ki_134 rfl
theorem dX6_findBreaks_65 : decode cX6_findBreaks 65 = .ok (.iaload, 1) := kd_r kbX6_findBreaks ki_14 rfl
theorem dX6_findBreaks_66 : decode cX6_findBreaks 66 = .ok (.iadd, 1) := kd_r kbX6_findBreaks ki_30 rfl
theorem dX6_findBreaks_67 : decode cX6_findBreaks 67 = .ok (.aload_n 0, 1) := kd_r kbX6_findBreaks ki_0 rfl
theorem dX6_findBreaks_68 : decode cX6_findBreaks 68 = .ok (.getfield 16, 3) := kd_r kbX6_findBreaks ki_54 rfl
theorem dX6_findBreaks_71 : decode cX6_findBreaks 71 = .ok (.iload 4, 2) := kd_r kbX6_findBreaks ki_57 rfl
theorem dX6_findBreaks_73 : decode cX6_findBreaks 73 = .ok (.iconst 1, 1) := kd_r kbX6_findBreaks ki_16 rfl
theorem dX6_findBreaks_74 : decode cX6_findBreaks 74 = .ok (.iadd, 1) := kd_r kbX6_findBreaks ki_30 rfl
theorem dX6_findBreaks_75 : decode cX6_findBreaks 75 = .ok (.aaload, 1) := kd_r kbX6_findBreaks ki_137 rfl
theorem dX6_findBreaks_76 : decode cX6_findBreaks 76 = .ok (.iload_n 3, 1) := kd_r kbX6_findBreaks ki_55 rfl
theorem dX6_findBreaks_77 : decode cX6_findBreaks 77 = .ok (.iaload, 1) := kd_r kbX6_findBreaks ki_14 rfl
theorem dX6_findBreaks_78 : decode cX6_findBreaks 78 = .ok (.if_icmp .eq 9, 3) := kd_r kbX6_findBreaks ki_348 rfl
theorem dX6_findBreaks_81 : decode cX6_findBreaks 81 = .ok (.iinc 5 1, 3) := kd_r kbX6_findBreaks ki_143 rfl
theorem dX6_findBreaks_84 : decode cX6_findBreaks 84 = .ok (.goto (-45), 3) := kd_r kbX6_findBreaks ki_349 rfl
theorem dX6_findBreaks_87 : decode cX6_findBreaks 87 = .ok (.aload_n 0, 1) := kd_r kbX6_findBreaks ki_0 rfl
theorem dX6_findBreaks_88 : decode cX6_findBreaks 88 = .ok (.getfield 23, 3) := kd_r kbX6_findBreaks ki_327 rfl
theorem dX6_findBreaks_91 : decode cX6_findBreaks 91 = .ok (.iload_n 2, 1) := kd_r kbX6_findBreaks ki_11 rfl
theorem dX6_findBreaks_92 : decode cX6_findBreaks 92 = .ok (.iload 5, 2) := kd_r kbX6_findBreaks ki_134 rfl
theorem dX6_findBreaks_94 : decode cX6_findBreaks 94 = .ok (.iastore, 1) := kd_r kbX6_findBreaks ki_28 rfl
theorem dX6_findBreaks_95 : decode cX6_findBreaks 95 = .ok (.iinc 2 1, 3) := kd_r kbX6_findBreaks ki_37 rfl
theorem dX6_findBreaks_98 : decode cX6_findBreaks 98 = .ok (.goto (-89), 3) := kd_r kbX6_findBreaks ki_350 rfl
theorem dX6_findBreaks_101 : decode cX6_findBreaks 101 = .ok (.return_, 1) := kd_r kbX6_findBreaks ki_5 rfl
theorem dX7_init_0 : decode cX7_init 0 = .ok (.aload_n 0, 1) := kd_r kbX7_init ki_0 rfl
theorem dX7_init_1 : decode cX7_init 1 = .ok (.invokespecial 3, 3) := kd_r kbX7_init ki_1 rfl
theorem dX7_init_4 : decode cX7_init 4 = .ok (.aload_n 0, 1) := kd_r kbX7_init ki_0 rfl
theorem dX7_init_5 : decode cX7_init 5 = .ok (.bipush 40, 2) := kd_r kbX7_init ki_44 rfl
theorem dX7_init_7 : decode cX7_init 7 = .ok (.newarray .int, 2) := kd_r kbX7_init ki_3 rfl
theorem dX7_init_9 : decode cX7_init 9 = .ok (.putfield 9, 3) := kd_r kbX7_init ki_4 rfl
theorem dX7_init_12 : decode cX7_init 12 = .ok (.return_, 1) := kd_r kbX7_init ki_5 rfl
theorem dX7_isRod_0 : decode cX7_isRod 0 = .ok (.iload_n 0, 1) := kd_r kbX7_isRod ki_40 rfl
theorem dX7_isRod_1 : decode cX7_isRod 1 = .ok (.bipush 40, 2) := kd_r kbX7_isRod ki_44 rfl
theorem dX7_isRod_3 : decode cX7_isRod 3 = .ok (.if_icmp .lt 14, 3) := kd_r kbX7_isRod ki_341 rfl
theorem dX7_isRod_6 : decode cX7_isRod 6 = .ok (.iload_n 0, 1) := kd_r kbX7_isRod ki_40 rfl
theorem dX7_isRod_7 : decode cX7_isRod 7 = .ok (.sipush 330, 3) := kd_r kbX7_isRod ki_351 rfl
theorem dX7_isRod_10 : decode cX7_isRod 10 = .ok (.if_icmp .gt 7, 3) := kd_r kbX7_isRod ki_191 rfl
theorem dX7_isRod_13 : decode cX7_isRod 13 = .ok (.iconst 1, 1) := kd_r kbX7_isRod ki_16 rfl
theorem dX7_isRod_14 : decode cX7_isRod 14 = .ok (.goto 4, 3) := kd_r kbX7_isRod ki_19 rfl
theorem dX7_isRod_17 : decode cX7_isRod 17 = .ok (.iconst 0, 1) := kd_r kbX7_isRod ki_20 rfl
theorem dX7_isRod_18 : decode cX7_isRod 18 = .ok (.ireturn, 1) := kd_r kbX7_isRod ki_7 rfl
theorem dX7_isParts_0 : decode cX7_isParts 0 = .ok (.iload_n 0, 1) := kd_r kbX7_isParts ki_40 rfl
theorem dX7_isParts_1 : decode cX7_isParts 1 = .ok (.iconst 1, 1) := kd_r kbX7_isParts ki_16 rfl
theorem dX7_isParts_2 : decode cX7_isParts 2 = .ok (.if_icmp .lt 12, 3) := kd_r kbX7_isParts ki_352 rfl
theorem dX7_isParts_5 : decode cX7_isParts 5 = .ok (.iload_n 0, 1) := kd_r kbX7_isParts ki_40 rfl
theorem dX7_isParts_6 : decode cX7_isParts 6 = .ok (.iconst 4, 1) := kd_r kbX7_isParts ki_247 rfl
theorem dX7_isParts_7 : decode cX7_isParts 7 = .ok (.if_icmp .gt 7, 3) := kd_r kbX7_isParts ki_191 rfl
theorem dX7_isParts_10 : decode cX7_isParts 10 = .ok (.iconst 1, 1) := kd_r kbX7_isParts ki_16 rfl
theorem dX7_isParts_11 : decode cX7_isParts 11 = .ok (.goto 4, 3) := kd_r kbX7_isParts ki_19 rfl
theorem dX7_isParts_14 : decode cX7_isParts 14 = .ok (.iconst 0, 1) := kd_r kbX7_isParts ki_20 rfl
theorem dX7_isParts_15 : decode cX7_isParts 15 = .ok (.ireturn, 1) := kd_r kbX7_isParts ki_7 rfl
set_option maxRecDepth 20000 in
theorem ggX7_lookAt_X9_width : GoodIn wsX7_lookAt wsX9_width := goodIn_r _ [7, 8, 9, 10, 11, 6, 12, 13, 16, 17, 18, 19] rfl (by decide +kernel)
set_option maxRecDepth 20000 in
theorem gX7_lookAt_X9_width : GoodIn wsX7_lookAt (wsV RX7 19 RX9 yX9_width wsX9_width) := goodIn_app (goodIn_of _ (by decide +kernel)) ggX7_lookAt_X9_width
theorem dX7_lookAt_0 : decode cX7_lookAt 0 = .ok (.aload_n 0, 1) := kd_r kbX7_lookAt ki_0 rfl
theorem dX7_lookAt_1 : decode cX7_lookAt 1 = .ok (.iconst 0, 1) := kd_r kbX7_lookAt ki_20 rfl
theorem dX7_lookAt_2 : decode cX7_lookAt 2 = .ok (.putfield 15, 3) := kd_r kbX7_lookAt ki_31 rfl
theorem dX7_lookAt_5 : decode cX7_lookAt 5 = .ok (.iload_n 2, 1) := kd_r kbX7_lookAt ki_11 rfl
theorem dX7_lookAt_6 : decode cX7_lookAt 6 = .ok (.bipush 100, 2) := kd_r kbX7_lookAt ki_228 rfl
theorem dX7_lookAt_8 : decode cX7_lookAt 8 = .ok (.idiv, 1) := kd_r kbX7_lookAt ki_225 rfl
theorem dX7_lookAt_9 : decode cX7_lookAt 9 = .ok (.istore_n 3, 1) := kd_r kbX7_lookAt ki_108 rfl
theorem dX7_lookAt_10 : decode cX7_lookAt 10 = .ok (.iload_n 3, 1) := kd_r kbX7_lookAt ki_55 rfl
theorem dX7_lookAt_11 : decode cX7_lookAt 11 = .ok (.iload_n 2, 1) := kd_r kbX7_lookAt ki_11 rfl
theorem dX7_lookAt_12 : decode cX7_lookAt 12 = .ok (.bipush 100, 2) := kd_r kbX7_lookAt ki_228 rfl
theorem dX7_lookAt_14 : decode cX7_lookAt 14 = .ok (.irem, 1) := kd_r kbX7_lookAt ki_227 rfl
theorem dX7_lookAt_15 : decode cX7_lookAt 15 = .ok (.if_icmp .gt 39, 3) := kd_r kbX7_lookAt ki_353 rfl
theorem dX7_lookAt_18 : decode cX7_lookAt 18 = .ok (.aload_n 0, 1) := kd_r kbX7_lookAt ki_0 rfl
theorem dX7_lookAt_19 : decode cX7_lookAt 19 = .ok (.getfield 15, 3) := kd_r kbX7_lookAt ki_6 rfl
theorem dX7_lookAt_22 : decode cX7_lookAt 22 = .ok (.bipush 40, 2) := kd_r kbX7_lookAt ki_44 rfl
theorem dX7_lookAt_24 : decode cX7_lookAt 24 = .ok (.if_icmp .ge 30, 3) := kd_r kbX7_lookAt ki_34 rfl
theorem dX7_lookAt_27 : decode cX7_lookAt 27 = .ok (.aload_n 0, 1) := kd_r kbX7_lookAt ki_0 rfl
theorem dX7_lookAt_28 : decode cX7_lookAt 28 = .ok (.getfield 9, 3) := kd_r kbX7_lookAt ki_13 rfl
theorem dX7_lookAt_31 : decode cX7_lookAt 31 = .ok (.aload_n 0, 1) := kd_r kbX7_lookAt ki_0 rfl
theorem dX7_lookAt_32 : decode cX7_lookAt 32 = .ok (.dup, 1) := kd_r kbX7_lookAt ki_29 rfl
theorem dX7_lookAt_33 : decode cX7_lookAt 33 = .ok (.getfield 15, 3) := kd_r kbX7_lookAt ki_6 rfl
theorem dX7_lookAt_36 : decode cX7_lookAt 36 = .ok (.dup_x1, 1) := kd_r kbX7_lookAt ki_98 rfl
theorem dX7_lookAt_37 : decode cX7_lookAt 37 = .ok (.iconst 1, 1) := kd_r kbX7_lookAt ki_16 rfl
theorem dX7_lookAt_38 : decode cX7_lookAt 38 = .ok (.iadd, 1) := kd_r kbX7_lookAt ki_30 rfl
theorem dX7_lookAt_39 : decode cX7_lookAt 39 = .ok (.putfield 15, 3) := kd_r kbX7_lookAt ki_31 rfl
theorem dX7_lookAt_42 : decode cX7_lookAt 42 = .ok (.aload_n 1, 1) := kd_r kbX7_lookAt ki_69 rfl
theorem dX7_lookAt_43 : decode cX7_lookAt 43 = .ok (.iload_n 3, 1) := kd_r kbX7_lookAt ki_55 rfl
theorem dX7_lookAt_44 : decode cX7_lookAt 44 = .ok (.invokevirtual 19, 3) := kd_r kbX7_lookAt ki_354 rfl
theorem dX7_lookAt_47 : decode cX7_lookAt 47 = .ok (.iastore, 1) := kd_r kbX7_lookAt ki_28 rfl
theorem dX7_lookAt_48 : decode cX7_lookAt 48 = .ok (.iinc 3 1, 3) := kd_r kbX7_lookAt ki_116 rfl
theorem dX7_lookAt_51 : decode cX7_lookAt 51 = .ok (.goto (-41), 3) := kd_r kbX7_lookAt ki_355 rfl
theorem dX7_lookAt_54 : decode cX7_lookAt 54 = .ok (.return_, 1) := kd_r kbX7_lookAt ki_5 rfl
set_option maxRecDepth 20000 in
theorem ggX7_misfitBy_X7_err : GoodIn wsX7_misfitBy wsX7_err := goodIn_r _ [6, 7, 8, 9, 10] rfl (by decide +kernel)
set_option maxRecDepth 20000 in
theorem gX7_misfitBy_X7_err : GoodIn wsX7_misfitBy (va_wsS RX7 25 yX7_err wsX7_err) := goodIn_app (goodIn_of _ (by decide +kernel)) ggX7_misfitBy_X7_err
theorem dX7_misfitBy_0 : decode cX7_misfitBy 0 = .ok (.iload_n 1, 1) := kd_r kbX7_misfitBy ki_8 rfl
theorem dX7_misfitBy_1 : decode cX7_misfitBy 1 = .ok (.ifCond .le 10, 3) := kd_r kbX7_misfitBy ki_356 rfl
theorem dX7_misfitBy_4 : decode cX7_misfitBy 4 = .ok (.aload_n 0, 1) := kd_r kbX7_misfitBy ki_0 rfl
theorem dX7_misfitBy_5 : decode cX7_misfitBy 5 = .ok (.getfield 15, 3) := kd_r kbX7_misfitBy ki_6 rfl
theorem dX7_misfitBy_8 : decode cX7_misfitBy 8 = .ok (.ifCond .gt 5, 3) := kd_r kbX7_misfitBy ki_357 rfl
theorem dX7_misfitBy_11 : decode cX7_misfitBy 11 = .ok (.iconst (-1), 1) := kd_r kbX7_misfitBy ki_99 rfl
theorem dX7_misfitBy_12 : decode cX7_misfitBy 12 = .ok (.ireturn, 1) := kd_r kbX7_misfitBy ki_7 rfl
theorem dX7_misfitBy_13 : decode cX7_misfitBy 13 = .ok (.iconst 0, 1) := kd_r kbX7_misfitBy ki_20 rfl
theorem dX7_misfitBy_14 : decode cX7_misfitBy 14 = .ok (.istore_n 3, 1) := kd_r kbX7_misfitBy ki_108 rfl
theorem dX7_misfitBy_15 : decode cX7_misfitBy 15 = .ok (.iconst 0, 1) := kd_r kbX7_misfitBy ki_20 rfl
theorem dX7_misfitBy_16 : decode cX7_misfitBy 16 = .ok (.istore 4, 2) := kd_r kbX7_misfitBy ki_129 rfl
theorem dX7_misfitBy_18 : decode cX7_misfitBy 18 = .ok (.iload 4, 2) := kd_r kbX7_misfitBy ki_57 rfl
theorem dX7_misfitBy_20 : decode cX7_misfitBy 20 = .ok (.aload_n 0, 1) := kd_r kbX7_misfitBy ki_0 rfl
theorem dX7_misfitBy_21 : decode cX7_misfitBy 21 = .ok (.getfield 15, 3) := kd_r kbX7_misfitBy ki_6 rfl
theorem dX7_misfitBy_24 : decode cX7_misfitBy 24 = .ok (.if_icmp .ge 25, 3) := kd_r kbX7_misfitBy ki_358 rfl
theorem dX7_misfitBy_27 : decode cX7_misfitBy 27 = .ok (.iload_n 3, 1) := kd_r kbX7_misfitBy ki_55 rfl
theorem dX7_misfitBy_28 : decode cX7_misfitBy 28 = .ok (.iload_n 2, 1) := kd_r kbX7_misfitBy ki_11 rfl
theorem dX7_misfitBy_29 : decode cX7_misfitBy 29 = .ok (.aload_n 0, 1) := kd_r kbX7_misfitBy ki_0 rfl
theorem dX7_misfitBy_30 : decode cX7_misfitBy 30 = .ok (.getfield 9, 3) := kd_r kbX7_misfitBy ki_13 rfl
theorem dX7_misfitBy_33 : decode cX7_misfitBy 33 = .ok (.iload 4, 2) := kd_r kbX7_misfitBy ki_57 rfl
theorem dX7_misfitBy_35 : decode cX7_misfitBy 35 = .ok (.iaload, 1) := kd_r kbX7_misfitBy ki_14 rfl
theorem dX7_misfitBy_36 : decode cX7_misfitBy 36 = .ok (.imul, 1) := kd_r kbX7_misfitBy ki_114 rfl
theorem dX7_misfitBy_37 : decode cX7_misfitBy 37 = .ok (.iload_n 1, 1) := kd_r kbX7_misfitBy ki_8 rfl
theorem dX7_misfitBy_38 : decode cX7_misfitBy 38 = .ok (.invokestatic 25, 3) := kd_r kbX7_misfitBy ki_359 rfl
theorem dX7_misfitBy_41 : decode cX7_misfitBy 41 = .ok (.iadd, 1) := kd_r kbX7_misfitBy ki_30 rfl
theorem dX7_misfitBy_42 : decode cX7_misfitBy 42 = .ok (.istore_n 3, 1) := kd_r kbX7_misfitBy ki_108 rfl
theorem dX7_misfitBy_43 : decode cX7_misfitBy 43 = .ok (.iinc 4 1, 3) := kd_r kbX7_misfitBy ki_144 rfl
theorem dX7_misfitBy_46 : decode cX7_misfitBy 46 = .ok (.goto (-28), 3) := kd_r kbX7_misfitBy ki_332 rfl
theorem dX7_misfitBy_49 : decode cX7_misfitBy 49 = .ok (.iload_n 3, 1) := kd_r kbX7_misfitBy ki_55 rfl
theorem dX7_misfitBy_50 : decode cX7_misfitBy 50 = .ok (.sipush 1000, 3) := kd_r kbX7_misfitBy ki_188 rfl
theorem dX7_misfitBy_53 : decode cX7_misfitBy 53 = .ok (.imul, 1) := kd_r kbX7_misfitBy ki_114 rfl
theorem dX7_misfitBy_54 : decode cX7_misfitBy 54 = .ok (.iload_n 1, 1) := kd_r kbX7_misfitBy ki_8 rfl
theorem dX7_misfitBy_55 : decode cX7_misfitBy 55 = .ok (.aload_n 0, 1) := kd_r kbX7_misfitBy ki_0 rfl
theorem dX7_misfitBy_56 : decode cX7_misfitBy 56 = .ok (.getfield 15, 3) := kd_r kbX7_misfitBy ki_6 rfl
theorem dX7_misfitBy_59 : decode cX7_misfitBy 59 = .ok (.imul, 1) := kd_r kbX7_misfitBy ki_114 rfl
theorem dX7_misfitBy_60 : decode cX7_misfitBy 60 = .ok (.idiv, 1) := kd_r kbX7_misfitBy ki_225 rfl
theorem dX7_misfitBy_61 : decode cX7_misfitBy 61 = .ok (.ireturn, 1) := kd_r kbX7_misfitBy ki_7 rfl
theorem dX7_err_0 : decode cX7_err 0 = .ok (.iload_n 1, 1) := kd_r kbX7_err ki_8 rfl
theorem dX7_err_1 : decode cX7_err 1 = .ok (.ifCond .gt 5, 3) := kd_r kbX7_err ki_357 rfl
theorem dX7_err_4 : decode cX7_err 4 = .ok (.iconst 0, 1) := kd_r kbX7_err ki_20 rfl
theorem dX7_err_5 : decode cX7_err 5 = .ok (.ireturn, 1) := kd_r kbX7_err ki_7 rfl
theorem dX7_err_6 : decode cX7_err 6 = .ok (.iload_n 0, 1) := kd_r kbX7_err ki_40 rfl
theorem dX7_err_7 : decode cX7_err 7 = .ok (.iload_n 1, 1) := kd_r kbX7_err ki_8 rfl
theorem dX7_err_8 : decode cX7_err 8 = .ok (.irem, 1) := kd_r kbX7_err ki_227 rfl
theorem dX7_err_9 : decode cX7_err 9 = .ok (.istore_n 2, 1) := kd_r kbX7_err ki_32 rfl
theorem dX7_err_10 : decode cX7_err 10 = .ok (.iload_n 0, 1) := kd_r kbX7_err ki_40 rfl
theorem dX7_err_11 : decode cX7_err 11 = .ok (.iload_n 1, 1) := kd_r kbX7_err ki_8 rfl
theorem dX7_err_12 : decode cX7_err 12 = .ok (.if_icmp .ge 9, 3) := kd_r kbX7_err ki_360 rfl
theorem dX7_err_15 : decode cX7_err 15 = .ok (.iload_n 1, 1) := kd_r kbX7_err ki_8 rfl
theorem dX7_err_16 : decode cX7_err 16 = .ok (.iload_n 0, 1) := kd_r kbX7_err ki_40 rfl
theorem dX7_err_17 : decode cX7_err 17 = .ok (.isub, 1) := kd_r kbX7_err ki_50 rfl
theorem dX7_err_18 : decode cX7_err 18 = .ok (.goto 10, 3) := kd_r kbX7_err ki_361 rfl
theorem dX7_err_21 : decode cX7_err 21 = .ok (.iload_n 2, 1) := kd_r kbX7_err ki_11 rfl
theorem dX7_err_22 : decode cX7_err 22 = .ok (.iload_n 1, 1) := kd_r kbX7_err ki_8 rfl
theorem dX7_err_23 : decode cX7_err 23 = .ok (.iload_n 2, 1) := kd_r kbX7_err ki_11 rfl
theorem dX7_err_24 : decode cX7_err 24 = .ok (.isub, 1) := kd_r kbX7_err ki_50 rfl
theorem dX7_err_25 : decode cX7_err 25 = .ok (.invokestatic 29, 3) := kd_r kbX7_err ki_362 rfl
theorem dX7_err_28 : decode cX7_err 28 = .ok (.ireturn, 1) := kd_r kbX7_err ki_7 rfl
set_option maxRecDepth 20000 in
theorem ggX7_bestRod_X7_misfitBy : GoodIn wsX7_bestRod wsX7_misfitBy := goodIn_r _ [6, 7, 8, 9, 10, 5, 11, 12, 13, 14, 15, 16, 17] rfl (by decide +kernel)
set_option maxRecDepth 20000 in
theorem gX7_bestRod_X7_misfitBy : GoodIn wsX7_bestRod (wsV RX7 35 RX7 yX7_misfitBy wsX7_misfitBy) := goodIn_app (goodIn_of _ (by decide +kernel)) ggX7_bestRod_X7_misfitBy
theorem dX7_bestRod_0 : decode cX7_bestRod 0 = .ok (.bipush 40, 2) := kd_r kbX7_bestRod ki_44 rfl
theorem dX7_bestRod_2 : decode cX7_bestRod 2 = .ok (.istore_n 2, 1) := kd_r kbX7_bestRod ki_32 rfl
theorem dX7_bestRod_3 : decode cX7_bestRod 3 = .ok (.ldc 34, 2) := kd_r kbX7_bestRod ki_363 rfl
theorem dX7_bestRod_5 : decode cX7_bestRod 5 = .ok (.istore_n 3, 1) := kd_r kbX7_bestRod ki_108 rfl
theorem dX7_bestRod_6 : decode cX7_bestRod 6 = .ok (.bipush 40, 2) := kd_r kbX7_bestRod ki_44 rfl
theorem dX7_bestRod_8 : decode cX7_bestRod 8 = .ok (.istore 4, 2) := kd_r kbX7_bestRod ki_129 rfl
theorem dX7_bestRod_10 : decode cX7_bestRod 10 = .ok (.iload 4, 2) := kd_r kbX7_bestRod ki_57 rfl
theorem dX7_bestRod_12 : decode cX7_bestRod 12 = .ok (.sipush 330, 3) := kd_r kbX7_bestRod ki_351 rfl
theorem dX7_bestRod_15 : decode cX7_bestRod 15 = .ok (.if_icmp .gt 30, 3) := kd_r kbX7_bestRod ki_364 rfl
theorem dX7_bestRod_18 : decode cX7_bestRod 18 = .ok (.aload_n 0, 1) := kd_r kbX7_bestRod ki_0 rfl
theorem dX7_bestRod_19 : decode cX7_bestRod 19 = .ok (.iload 4, 2) := kd_r kbX7_bestRod ki_57 rfl
theorem dX7_bestRod_21 : decode cX7_bestRod 21 = .ok (.iload_n 1, 1) := kd_r kbX7_bestRod ki_8 rfl
theorem dX7_bestRod_22 : decode cX7_bestRod 22 = .ok (.invokevirtual 35, 3) := kd_r kbX7_bestRod ki_365 rfl
theorem dX7_bestRod_25 : decode cX7_bestRod 25 = .ok (.istore 5, 2) := kd_r kbX7_bestRod ki_133 rfl
theorem dX7_bestRod_27 : decode cX7_bestRod 27 = .ok (.iload 5, 2) := kd_r kbX7_bestRod ki_134 rfl
theorem dX7_bestRod_29 : decode cX7_bestRod 29 = .ok (.iload_n 3, 1) := kd_r kbX7_bestRod ki_55 rfl
theorem dX7_bestRod_30 : decode cX7_bestRod 30 = .ok (.if_icmp .gt 9, 3) := kd_r kbX7_bestRod ki_366 rfl
theorem dX7_bestRod_33 : decode cX7_bestRod 33 = .ok (.iload 5, 2) := kd_r kbX7_bestRod ki_134 rfl
theorem dX7_bestRod_35 : decode cX7_bestRod 35 = .ok (.istore_n 3, 1) := kd_r kbX7_bestRod ki_108 rfl
theorem dX7_bestRod_36 : decode cX7_bestRod 36 = .ok (.iload 4, 2) := kd_r kbX7_bestRod ki_57 rfl
theorem dX7_bestRod_38 : decode cX7_bestRod 38 = .ok (.istore_n 2, 1) := kd_r kbX7_bestRod ki_32 rfl
theorem dX7_bestRod_39 : decode cX7_bestRod 39 = .ok (.iinc 4 1, 3) := kd_r kbX7_bestRod ki_144 rfl
theorem dX7_bestRod_42 : decode cX7_bestRod 42 = .ok (.goto (-32), 3) := kd_r kbX7_bestRod ki_367 rfl
theorem dX7_bestRod_45 : decode cX7_bestRod 45 = .ok (.iload_n 2, 1) := kd_r kbX7_bestRod ki_11 rfl
theorem dX7_bestRod_46 : decode cX7_bestRod 46 = .ok (.ireturn, 1) := kd_r kbX7_bestRod ki_7 rfl
set_option maxRecDepth 20000 in
theorem ggX7_byChance_X7_lookAt : GoodIn wsX7_byChance wsX7_lookAt := goodIn_r _ [7, 1, 2, 8, 9, 10, 11, 12, 13, 14, 15, 16, 17, 18, 42, 43, 44, 45, 46, 47] rfl (by decide +kernel)
set_option maxRecDepth 20000 in
theorem gX7_byChance_X7_lookAt : GoodIn wsX7_byChance (wsV RX7 38 RX7 yX7_lookAt wsX7_lookAt) := goodIn_app (goodIn_of _ (by decide +kernel)) ggX7_byChance_X7_lookAt
set_option maxRecDepth 20000 in
theorem ggX7_byChance_X7_bestRod : GoodIn wsX7_byChance wsX7_bestRod := goodIn_r _ [22, 23, 24, 25, 26, 6, 27, 1, 2, 28, 29, 30, 31, 32, 33, 34, 42, 43] rfl (by decide +kernel)
set_option maxRecDepth 20000 in
theorem gX7_byChance_X7_bestRod : GoodIn wsX7_byChance (wsV RX7 42 RX7 yX7_bestRod wsX7_bestRod) := goodIn_app (goodIn_of _ (by decide +kernel)) ggX7_byChance_X7_bestRod
set_option maxRecDepth 20000 in
theorem ggX7_byChance_X7_misfitBy : GoodIn wsX7_byChance wsX7_misfitBy := goodIn_r _ [27, 1, 2, 28, 29, 6, 30, 31, 32, 33, 34, 42, 43] rfl (by decide +kernel)
set_option maxRecDepth 20000 in
theorem gX7_byChance_X7_misfitBy : GoodIn wsX7_byChance (wsV RX7 35 RX7 yX7_misfitBy wsX7_misfitBy) := goodIn_app (goodIn_of _ (by decide +kernel)) ggX7_byChance_X7_misfitBy
set_option maxRecDepth 20000 in
theorem ggX7_byChance_X11_drawAfter : GoodIn wsX7_byChance wsX11_drawAfter := goodIn_r _ [37, 38] rfl (by decide +kernel)
set_option maxRecDepth 20000 in
theorem gX7_byChance_X11_drawAfter_n45 : GoodIn wsX7_byChance (wsX11_drawAfter) := ggX7_byChance_X11_drawAfter
set_option maxRecDepth 20000 in
theorem ggX7_byChance_X9_width : GoodIn wsX7_byChance wsX9_width := goodIn_r _ [12, 13, 14, 15, 16, 11, 17, 18, 44, 45, 46, 47] rfl (by decide +kernel)
set_option maxRecDepth 20000 in
theorem gX7_byChance_X9_width : GoodIn wsX7_byChance (wsV RX7 19 RX9 yX9_width wsX9_width) := goodIn_app (goodIn_of _ (by decide +kernel)) ggX7_byChance_X9_width
set_option maxRecDepth 20000 in
theorem ggX7_byChance_X7_drawnWidth : GoodIn wsX7_byChance wsX7_drawnWidth := goodIn_r _ [41] rfl (by decide +kernel)
set_option maxRecDepth 20000 in
theorem gX7_byChance_X7_drawnWidth : GoodIn wsX7_byChance (va_wsS RX7 48 yX7_drawnWidth wsX7_drawnWidth) := goodIn_app (goodIn_of _ (by decide +kernel)) ggX7_byChance_X7_drawnWidth
theorem dX7_byChance_0 : decode cX7_byChance 0 = .ok (.aload_n 0, 1) := kd_r kbX7_byChance ki_0 rfl
theorem dX7_byChance_1 : decode cX7_byChance 1 = .ok (.aload_n 1, 1) := kd_r kbX7_byChance ki_69 rfl
theorem dX7_byChance_2 : decode cX7_byChance 2 = .ok (.iload_n 2, 1) := kd_r kbX7_byChance ki_11 rfl
theorem dX7_byChance_3 : decode cX7_byChance 3 = .ok (.invokevirtual 38, 3) := kd_r kbX7_byChance ki_232 rfl
theorem dX7_byChance_6 : decode cX7_byChance 6 = .ok (.aload_n 0, 1) := kd_r kbX7_byChance ki_0 rfl
theorem dX7_byChance_7 : decode cX7_byChance 7 = .ok (.aload_n 0, 1) := kd_r kbX7_byChance ki_0 rfl
theorem dX7_byChance_8 : decode cX7_byChance 8 = .ok (.iload_n 3, 1) := kd_r kbX7_byChance ki_55 rfl
theorem dX7_byChance_9 : decode cX7_byChance 9 = .ok (.invokevirtual 42, 3) := kd_r kbX7_byChance ki_368 rfl
theorem dX7_byChance_12 : decode cX7_byChance 12 = .ok (.iload_n 3, 1) := kd_r kbX7_byChance ki_55 rfl
theorem dX7_byChance_13 : decode cX7_byChance 13 = .ok (.invokevirtual 35, 3) := kd_r kbX7_byChance ki_365 rfl
theorem dX7_byChance_16 : decode cX7_byChance 16 = .ok (.istore 6, 2) := kd_r kbX7_byChance ki_199 rfl
theorem dX7_byChance_18 : decode cX7_byChance 18 = .ok (.iload 5, 2) := kd_r kbX7_byChance ki_134 rfl
theorem dX7_byChance_20 : decode cX7_byChance 20 = .ok (.istore 7, 2) := kd_r kbX7_byChance ki_152 rfl
theorem dX7_byChance_22 : decode cX7_byChance 22 = .ok (.iconst 0, 1) := kd_r kbX7_byChance ki_20 rfl
theorem dX7_byChance_23 : decode cX7_byChance 23 = .ok (.istore 8, 2) := kd_r kbX7_byChance ki_155 rfl
theorem dX7_byChance_25 : decode cX7_byChance 25 = .ok (.iconst 0, 1) := kd_r kbX7_byChance ki_20 rfl
theorem dX7_byChance_26 : decode cX7_byChance 26 = .ok (.istore 9, 2) := kd_r kbX7_byChance ki_369 rfl
theorem dX7_byChance_28 : decode cX7_byChance 28 = .ok (.iload 9, 2) := kd_r kbX7_byChance ki_370 rfl
theorem dX7_byChance_30 : decode cX7_byChance 30 = .ok (.iload 4, 2) := kd_r kbX7_byChance ki_57 rfl
theorem dX7_byChance_32 : decode cX7_byChance 32 = .ok (.if_icmp .ge 75, 3) := kd_r kbX7_byChance ki_371 rfl
theorem dX7_byChance_35 : decode cX7_byChance 35 = .ok (.iconst 0, 1) := kd_r kbX7_byChance ki_20 rfl
theorem dX7_byChance_36 : decode cX7_byChance 36 = .ok (.istore 10, 2) := kd_r kbX7_byChance ki_372 rfl
theorem dX7_byChance_38 : decode cX7_byChance 38 = .ok (.iload 10, 2) := kd_r kbX7_byChance ki_373 rfl
theorem dX7_byChance_40 : decode cX7_byChance 40 = .ok (.aload_n 0, 1) := kd_r kbX7_byChance ki_0 rfl
theorem dX7_byChance_41 : decode cX7_byChance 41 = .ok (.getfield 15, 3) := kd_r kbX7_byChance ki_6 rfl
theorem dX7_byChance_44 : decode cX7_byChance 44 = .ok (.if_icmp .ge 39, 3) := kd_r kbX7_byChance ki_374 rfl
theorem dX7_byChance_47 : decode cX7_byChance 47 = .ok (.iload 7, 2) := kd_r kbX7_byChance ki_153 rfl
theorem dX7_byChance_49 : decode cX7_byChance 49 = .ok (.invokestatic 45, 3) := kd_r kbX7_byChance ki_375 rfl
theorem dX7_byChance_52 : decode cX7_byChance 52 = .ok (.istore 7, 2) := kd_r kbX7_byChance ki_152 rfl
theorem dX7_byChance_54 : decode cX7_byChance 54 = .ok (.aload_n 0, 1) := kd_r kbX7_byChance ki_0 rfl
theorem dX7_byChance_55 : decode cX7_byChance 55 = .ok (.getfield 9, 3) := kd_r kbX7_byChance ki_13 rfl
theorem dX7_byChance_58 : decode cX7_byChance 58 = .ok (.iload 10, 2) := kd_r kbX7_byChance ki_373 rfl
theorem dX7_byChance_60 : decode cX7_byChance 60 = .ok (.aload_n 1, 1) := kd_r kbX7_byChance ki_69 rfl
theorem dX7_byChance_61 : decode cX7_byChance 61 = .ok (.iload_n 2, 1) := kd_r kbX7_byChance ki_11 rfl
theorem dX7_byChance_62 : decode cX7_byChance 62 = .ok (.bipush 100, 2) := kd_r kbX7_byChance ki_228 rfl
theorem dX7_byChance_64 : decode cX7_byChance 64 = .ok (.idiv, 1) := kd_r kbX7_byChance ki_225 rfl
theorem dX7_byChance_65 : decode cX7_byChance 65 = .ok (.iload 10, 2) := kd_r kbX7_byChance ki_373 rfl
theorem dX7_byChance_67 : decode cX7_byChance 67 = .ok (.iadd, 1) := kd_r kbX7_byChance ki_30 rfl
theorem dX7_byChance_68 : decode cX7_byChance 68 = .ok (.invokevirtual 19, 3) := kd_r kbX7_byChance ki_354 rfl
theorem dX7_byChance_71 : decode cX7_byChance 71 = .ok (.iload 7, 2) := kd_r kbX7_byChance ki_153 rfl
theorem dX7_byChance_73 : decode cX7_byChance 73 = .ok (.invokestatic 48, 3) := kd_r kbX7_byChance ki_376 rfl
theorem dX7_byChance_76 : decode cX7_byChance 76 = .ok (.iastore, 1) := kd_r kbX7_byChance ki_28 rfl
theorem dX7_byChance_77 : decode cX7_byChance 77 = .ok (.iinc 10 1, 3) := kd_r kbX7_byChance ki_377 rfl
theorem dX7_byChance_80 : decode cX7_byChance 80 = .ok (.goto (-42), 3) := kd_r kbX7_byChance ki_378 rfl
theorem dX7_byChance_83 : decode cX7_byChance 83 = .ok (.aload_n 0, 1) := kd_r kbX7_byChance ki_0 rfl
theorem dX7_byChance_84 : decode cX7_byChance 84 = .ok (.aload_n 0, 1) := kd_r kbX7_byChance ki_0 rfl
theorem dX7_byChance_85 : decode cX7_byChance 85 = .ok (.iload_n 3, 1) := kd_r kbX7_byChance ki_55 rfl
theorem dX7_byChance_86 : decode cX7_byChance 86 = .ok (.invokevirtual 42, 3) := kd_r kbX7_byChance ki_368 rfl
theorem dX7_byChance_89 : decode cX7_byChance 89 = .ok (.iload_n 3, 1) := kd_r kbX7_byChance ki_55 rfl
theorem dX7_byChance_90 : decode cX7_byChance 90 = .ok (.invokevirtual 35, 3) := kd_r kbX7_byChance ki_365 rfl
theorem dX7_byChance_93 : decode cX7_byChance 93 = .ok (.iload 6, 2) := kd_r kbX7_byChance ki_200 rfl
theorem dX7_byChance_95 : decode cX7_byChance 95 = .ok (.if_icmp .gt 6, 3) := kd_r kbX7_byChance ki_379 rfl
theorem dX7_byChance_98 : decode cX7_byChance 98 = .ok (.iinc 8 1, 3) := kd_r kbX7_byChance ki_162 rfl
theorem dX7_byChance_101 : decode cX7_byChance 101 = .ok (.iinc 9 1, 3) := kd_r kbX7_byChance ki_380 rfl
theorem dX7_byChance_104 : decode cX7_byChance 104 = .ok (.goto (-76), 3) := kd_r kbX7_byChance ki_381 rfl
theorem dX7_byChance_107 : decode cX7_byChance 107 = .ok (.iload 8, 2) := kd_r kbX7_byChance ki_156 rfl
theorem dX7_byChance_109 : decode cX7_byChance 109 = .ok (.ireturn, 1) := kd_r kbX7_byChance ki_7 rfl
theorem dX7_drawnWidth_0 : decode cX7_drawnWidth 0 = .ok (.iload_n 0, 1) := kd_r kbX7_drawnWidth ki_40 rfl
theorem dX7_drawnWidth_1 : decode cX7_drawnWidth 1 = .ok (.ifCond .ge 7, 3) := kd_r kbX7_drawnWidth ki_382 rfl
theorem dX7_drawnWidth_4 : decode cX7_drawnWidth 4 = .ok (.iconst 0, 1) := kd_r kbX7_drawnWidth ki_20 rfl
theorem dX7_drawnWidth_5 : decode cX7_drawnWidth 5 = .ok (.goto 15, 3) := kd_r kbX7_drawnWidth ki_383 rfl
theorem dX7_drawnWidth_8 : decode cX7_drawnWidth 8 = .ok (.iload_n 0, 1) := kd_r kbX7_drawnWidth ki_40 rfl
theorem dX7_drawnWidth_9 : decode cX7_drawnWidth 9 = .ok (.iconst 2, 1) := kd_r kbX7_drawnWidth ki_244 rfl
theorem dX7_drawnWidth_10 : decode cX7_drawnWidth 10 = .ok (.idiv, 1) := kd_r kbX7_drawnWidth ki_225 rfl
theorem dX7_drawnWidth_11 : decode cX7_drawnWidth 11 = .ok (.iload_n 1, 1) := kd_r kbX7_drawnWidth ki_8 rfl
theorem dX7_drawnWidth_12 : decode cX7_drawnWidth 12 = .ok (.bipush 8, 2) := kd_r kbX7_drawnWidth ki_74 rfl
theorem dX7_drawnWidth_14 : decode cX7_drawnWidth 14 = .ok (.iushr, 1) := kd_r kbX7_drawnWidth ki_15 rfl
theorem dX7_drawnWidth_15 : decode cX7_drawnWidth 15 = .ok (.iload_n 0, 1) := kd_r kbX7_drawnWidth ki_40 rfl
theorem dX7_drawnWidth_16 : decode cX7_drawnWidth 16 = .ok (.iconst 1, 1) := kd_r kbX7_drawnWidth ki_16 rfl
theorem dX7_drawnWidth_17 : decode cX7_drawnWidth 17 = .ok (.iadd, 1) := kd_r kbX7_drawnWidth ki_30 rfl
theorem dX7_drawnWidth_18 : decode cX7_drawnWidth 18 = .ok (.irem, 1) := kd_r kbX7_drawnWidth ki_227 rfl
theorem dX7_drawnWidth_19 : decode cX7_drawnWidth 19 = .ok (.iadd, 1) := kd_r kbX7_drawnWidth ki_30 rfl
theorem dX7_drawnWidth_20 : decode cX7_drawnWidth 20 = .ok (.ireturn, 1) := kd_r kbX7_drawnWidth ki_7 rfl
theorem dX8_init_0 : decode cX8_init 0 = .ok (.aload_n 0, 1) := kd_r kbX8_init ki_0 rfl
theorem dX8_init_1 : decode cX8_init 1 = .ok (.invokespecial 3, 3) := kd_r kbX8_init ki_1 rfl
theorem dX8_init_4 : decode cX8_init 4 = .ok (.aload_n 0, 1) := kd_r kbX8_init ki_0 rfl
theorem dX8_init_5 : decode cX8_init 5 = .ok (.bipush 60, 2) := kd_r kbX8_init ki_384 rfl
theorem dX8_init_7 : decode cX8_init 7 = .ok (.newarray .long, 2) := kd_r kbX8_init ki_385 rfl
theorem dX8_init_9 : decode cX8_init 9 = .ok (.putfield 11, 3) := kd_r kbX8_init ki_72 rfl
theorem dX8_init_12 : decode cX8_init 12 = .ok (.aload_n 0, 1) := kd_r kbX8_init ki_0 rfl
theorem dX8_init_13 : decode cX8_init 13 = .ok (.iconst (-1), 1) := kd_r kbX8_init ki_99 rfl
theorem dX8_init_14 : decode cX8_init 14 = .ok (.putfield 15, 3) := kd_r kbX8_init ki_31 rfl
theorem dX8_init_17 : decode cX8_init 17 = .ok (.return_, 1) := kd_r kbX8_init ki_5 rfl
theorem dX8_isSort_0 : decode cX8_isSort 0 = .ok (.iload_n 0, 1) := kd_r kbX8_isSort ki_40 rfl
theorem dX8_isSort_1 : decode cX8_isSort 1 = .ok (.ifCond .lt 12, 3) := kd_r kbX8_isSort ki_123 rfl
theorem dX8_isSort_4 : decode cX8_isSort 4 = .ok (.iload_n 0, 1) := kd_r kbX8_isSort ki_40 rfl
theorem dX8_isSort_5 : decode cX8_isSort 5 = .ok (.iconst 4, 1) := kd_r kbX8_isSort ki_247 rfl
theorem dX8_isSort_6 : decode cX8_isSort 6 = .ok (.if_icmp .gt 7, 3) := kd_r kbX8_isSort ki_191 rfl
theorem dX8_isSort_9 : decode cX8_isSort 9 = .ok (.iconst 1, 1) := kd_r kbX8_isSort ki_16 rfl
theorem dX8_isSort_10 : decode cX8_isSort 10 = .ok (.goto 4, 3) := kd_r kbX8_isSort ki_19 rfl
theorem dX8_isSort_13 : decode cX8_isSort 13 = .ok (.iconst 0, 1) := kd_r kbX8_isSort ki_20 rfl
theorem dX8_isSort_14 : decode cX8_isSort 14 = .ok (.ireturn, 1) := kd_r kbX8_isSort ki_7 rfl
theorem dX8_isEmpty_0 : decode cX8_isEmpty 0 = .ok (.aload_n 0, 1) := kd_r kbX8_isEmpty ki_0 rfl
theorem dX8_isEmpty_1 : decode cX8_isEmpty 1 = .ok (.getfield 15, 3) := kd_r kbX8_isEmpty ki_6 rfl
theorem dX8_isEmpty_4 : decode cX8_isEmpty 4 = .ok (.iconst (-1), 1) := kd_r kbX8_isEmpty ki_99 rfl
theorem dX8_isEmpty_5 : decode cX8_isEmpty 5 = .ok (.if_icmp .ne 7, 3) := kd_r kbX8_isEmpty ki_280 rfl
theorem dX8_isEmpty_8 : decode cX8_isEmpty 8 = .ok (.iconst 1, 1) := kd_r kbX8_isEmpty ki_16 rfl
theorem dX8_isEmpty_9 : decode cX8_isEmpty 9 = .ok (.goto 4, 3) := kd_r kbX8_isEmpty ki_19 rfl
theorem dX8_isEmpty_12 : decode cX8_isEmpty 12 = .ok (.iconst 0, 1) := kd_r kbX8_isEmpty ki_20 rfl
theorem dX8_isEmpty_13 : decode cX8_isEmpty 13 = .ok (.ireturn, 1) := kd_r kbX8_isEmpty ki_7 rfl
theorem dX8_holdsLine_0 : decode cX8_holdsLine 0 = .ok (.aload_n 0, 1) := kd_r kbX8_holdsLine ki_0 rfl
theorem dX8_holdsLine_1 : decode cX8_holdsLine 1 = .ok (.getfield 15, 3) := kd_r kbX8_holdsLine ki_6 rfl
theorem dX8_holdsLine_4 : decode cX8_holdsLine 4 = .ok (.bipush (-2), 2) := kd_r kbX8_holdsLine ki_39 rfl
theorem dX8_holdsLine_6 : decode cX8_holdsLine 6 = .ok (.if_icmp .ne 7, 3) := kd_r kbX8_holdsLine ki_280 rfl
theorem dX8_holdsLine_9 : decode cX8_holdsLine 9 = .ok (.iconst 1, 1) := kd_r kbX8_holdsLine ki_16 rfl
theorem dX8_holdsLine_10 : decode cX8_holdsLine 10 = .ok (.goto 4, 3) := kd_r kbX8_holdsLine ki_19 rfl
theorem dX8_holdsLine_13 : decode cX8_holdsLine 13 = .ok (.iconst 0, 1) := kd_r kbX8_holdsLine ki_20 rfl
theorem dX8_holdsLine_14 : decode cX8_holdsLine 14 = .ok (.ireturn, 1) := kd_r kbX8_holdsLine ki_7 rfl
theorem dX8_holdsShorts_0 : decode cX8_holdsShorts 0 = .ok (.aload_n 0, 1) := kd_r kbX8_holdsShorts ki_0 rfl
theorem dX8_holdsShorts_1 : decode cX8_holdsShorts 1 = .ok (.getfield 15, 3) := kd_r kbX8_holdsShorts ki_6 rfl
theorem dX8_holdsShorts_4 : decode cX8_holdsShorts 4 = .ok (.iconst 1, 1) := kd_r kbX8_holdsShorts ki_16 rfl
theorem dX8_holdsShorts_5 : decode cX8_holdsShorts 5 = .ok (.if_icmp .ne 7, 3) := kd_r kbX8_holdsShorts ki_280 rfl
theorem dX8_holdsShorts_8 : decode cX8_holdsShorts 8 = .ok (.iconst 1, 1) := kd_r kbX8_holdsShorts ki_16 rfl
theorem dX8_holdsShorts_9 : decode cX8_holdsShorts 9 = .ok (.goto 4, 3) := kd_r kbX8_holdsShorts ki_19 rfl
theorem dX8_holdsShorts_12 : decode cX8_holdsShorts 12 = .ok (.iconst 0, 1) := kd_r kbX8_holdsShorts ki_20 rfl
theorem dX8_holdsShorts_13 : decode cX8_holdsShorts 13 = .ok (.ireturn, 1) := kd_r kbX8_holdsShorts ki_7 rfl
set_option maxRecDepth 20000 in
theorem ggX8_holdsRowLike_X8_isSort : GoodIn wsX8_holdsRowLike wsX8_isSort := goodIn_r _ [5] rfl (by decide +kernel)
set_option maxRecDepth 20000 in
theorem gX8_holdsRowLike_X8_isSort : GoodIn wsX8_holdsRowLike (va_wsS RX8 19 yX8_isSort wsX8_isSort) := goodIn_app (goodIn_of _ (by decide +kernel)) ggX8_holdsRowLike_X8_isSort
theorem dX8_holdsRowLike_0 : decode cX8_holdsRowLike 0 = .ok (.aload_n 0, 1) := kd_r kbX8_holdsRowLike ki_0 rfl
theorem dX8_holdsRowLike_1 : decode cX8_holdsRowLike 1 = .ok (.getfield 15, 3) := kd_r kbX8_holdsRowLike ki_6 rfl
theorem dX8_holdsRowLike_4 : decode cX8_holdsRowLike 4 = .ok (.invokestatic 19, 3) := kd_r kbX8_holdsRowLike ki_9 rfl
theorem dX8_holdsRowLike_7 : decode cX8_holdsRowLike 7 = .ok (.ifCond .eq 18, 3) := kd_r kbX8_holdsRowLike ki_252 rfl
theorem dX8_holdsRowLike_10 : decode cX8_holdsRowLike 10 = .ok (.aload_n 0, 1) := kd_r kbX8_holdsRowLike ki_0 rfl
theorem dX8_holdsRowLike_11 : decode cX8_holdsRowLike 11 = .ok (.getfield 15, 3) := kd_r kbX8_holdsRowLike ki_6 rfl
theorem dX8_holdsRowLike_14 : decode cX8_holdsRowLike 14 = .ok (.aload_n 1, 1) := kd_r kbX8_holdsRowLike ki_69 rfl
theorem dX8_holdsRowLike_15 : decode cX8_holdsRowLike 15 = .ok (.getfield 15, 3) := kd_r kbX8_holdsRowLike ki_6 rfl
theorem dX8_holdsRowLike_18 : decode cX8_holdsRowLike 18 = .ok (.if_icmp .ne 7, 3) := kd_r kbX8_holdsRowLike ki_280 rfl
theorem dX8_holdsRowLike_21 : decode cX8_holdsRowLike 21 = .ok (.iconst 1, 1) := kd_r kbX8_holdsRowLike ki_16 rfl
theorem dX8_holdsRowLike_22 : decode cX8_holdsRowLike 22 = .ok (.goto 4, 3) := kd_r kbX8_holdsRowLike ki_19 rfl
theorem dX8_holdsRowLike_25 : decode cX8_holdsRowLike 25 = .ok (.iconst 0, 1) := kd_r kbX8_holdsRowLike ki_20 rfl
theorem dX8_holdsRowLike_26 : decode cX8_holdsRowLike 26 = .ok (.ireturn, 1) := kd_r kbX8_holdsRowLike ki_7 rfl
theorem dX8_line_0 : decode cX8_line 0 = .ok (.aload_n 0, 1) := kd_r kbX8_line ki_0 rfl
theorem dX8_line_1 : decode cX8_line 1 = .ok (.getfield 23, 3) := kd_r kbX8_line ki_327 rfl
theorem dX8_line_4 : decode cX8_line 4 = .ok (.ireturn, 1) := kd_r kbX8_line ki_7 rfl
theorem dX8_holdNothing_0 : decode cX8_holdNothing 0 = .ok (.aload_n 0, 1) := kd_r kbX8_holdNothing ki_0 rfl
theorem dX8_holdNothing_1 : decode cX8_holdNothing 1 = .ok (.iconst (-1), 1) := kd_r kbX8_holdNothing ki_99 rfl
theorem dX8_holdNothing_2 : decode cX8_holdNothing 2 = .ok (.putfield 15, 3) := kd_r kbX8_holdNothing ki_31 rfl
theorem dX8_holdNothing_5 : decode cX8_holdNothing 5 = .ok (.return_, 1) := kd_r kbX8_holdNothing ki_5 rfl
theorem dX8_holdLine_0 : decode cX8_holdLine 0 = .ok (.aload_n 0, 1) := kd_r kbX8_holdLine ki_0 rfl
theorem dX8_holdLine_1 : decode cX8_holdLine 1 = .ok (.bipush (-2), 2) := kd_r kbX8_holdLine ki_39 rfl
theorem dX8_holdLine_3 : decode cX8_holdLine 3 = .ok (.putfield 15, 3) := kd_r kbX8_holdLine ki_31 rfl
theorem dX8_holdLine_6 : decode cX8_holdLine 6 = .ok (.aload_n 0, 1) := kd_r kbX8_holdLine ki_0 rfl
theorem dX8_holdLine_7 : decode cX8_holdLine 7 = .ok (.iload_n 1, 1) := kd_r kbX8_holdLine ki_8 rfl
theorem dX8_holdLine_8 : decode cX8_holdLine 8 = .ok (.putfield 23, 3) := kd_r kbX8_holdLine ki_314 rfl
theorem dX8_holdLine_11 : decode cX8_holdLine 11 = .ok (.return_, 1) := kd_r kbX8_holdLine ki_5 rfl
theorem dX8_holdRow_0 : decode cX8_holdRow 0 = .ok (.aload_n 0, 1) := kd_r kbX8_holdRow ki_0 rfl
theorem dX8_holdRow_1 : decode cX8_holdRow 1 = .ok (.iload_n 1, 1) := kd_r kbX8_holdRow ki_8 rfl
theorem dX8_holdRow_2 : decode cX8_holdRow 2 = .ok (.putfield 15, 3) := kd_r kbX8_holdRow ki_31 rfl
theorem dX8_holdRow_5 : decode cX8_holdRow 5 = .ok (.aload_n 0, 1) := kd_r kbX8_holdRow ki_0 rfl
theorem dX8_holdRow_6 : decode cX8_holdRow 6 = .ok (.iload_n 2, 1) := kd_r kbX8_holdRow ki_11 rfl
theorem dX8_holdRow_7 : decode cX8_holdRow 7 = .ok (.putfield 26, 3) := kd_r kbX8_holdRow ki_59 rfl
theorem dX8_holdRow_10 : decode cX8_holdRow 10 = .ok (.iconst 0, 1) := kd_r kbX8_holdRow ki_20 rfl
theorem dX8_holdRow_11 : decode cX8_holdRow 11 = .ok (.istore_n 3, 1) := kd_r kbX8_holdRow ki_108 rfl
theorem dX8_holdRow_12 : decode cX8_holdRow 12 = .ok (.iload_n 3, 1) := kd_r kbX8_holdRow ki_55 rfl
theorem dX8_holdRow_13 : decode cX8_holdRow 13 = .ok (.bipush 60, 2) := kd_r kbX8_holdRow ki_384 rfl
theorem dX8_holdRow_15 : decode cX8_holdRow 15 = .ok (.if_icmp .ge 16, 3) := kd_r kbX8_holdRow ki_268 rfl
theorem dX8_holdRow_18 : decode cX8_holdRow 18 = .ok (.aload_n 0, 1) := kd_r kbX8_holdRow ki_0 rfl
theorem dX8_holdRow_19 : decode cX8_holdRow 19 = .ok (.getfield 11, 3) := kd_r kbX8_holdRow ki_86 rfl
theorem dX8_holdRow_22 : decode cX8_holdRow 22 = .ok (.iload_n 3, 1) := kd_r kbX8_holdRow ki_55 rfl
theorem dX8_holdRow_23 : decode cX8_holdRow 23 = .ok (.lconst 0, 1) := kd_r kbX8_holdRow ki_172 rfl
theorem dX8_holdRow_24 : decode cX8_holdRow 24 = .ok (.lastore, 1) := kd_r kbX8_holdRow ki_142 rfl
theorem dX8_holdRow_25 : decode cX8_holdRow 25 = .ok (.iinc 3 1, 3) := kd_r kbX8_holdRow ki_116 rfl
theorem dX8_holdRow_28 : decode cX8_holdRow 28 = .ok (.goto (-16), 3) := kd_r kbX8_holdRow ki_386 rfl
theorem dX8_holdRow_31 : decode cX8_holdRow 31 = .ok (.return_, 1) := kd_r kbX8_holdRow ki_5 rfl
set_option maxRecDepth 20000 in
theorem ggX8_refusal_X8_isEmpty : GoodIn wsX8_refusal wsX8_isEmpty := goodIn_r _ [6, 1, 15, 16, 17, 18] rfl (by decide +kernel)
set_option maxRecDepth 20000 in
theorem gX8_refusal_X8_isEmpty : GoodIn wsX8_refusal (wsV RX8 29 RX8 yX8_isEmpty wsX8_isEmpty) := goodIn_app (goodIn_of _ (by decide +kernel)) ggX8_refusal_X8_isEmpty
set_option maxRecDepth 20000 in
theorem ggX8_refusal_X8_isSort : GoodIn wsX8_refusal wsX8_isSort := goodIn_r _ [9] rfl (by decide +kernel)
set_option maxRecDepth 20000 in
theorem gX8_refusal_X8_isSort : GoodIn wsX8_refusal (va_wsS RX8 19 yX8_isSort wsX8_isSort) := goodIn_app (goodIn_of _ (by decide +kernel)) ggX8_refusal_X8_isSort
set_option maxRecDepth 20000 in
theorem ggX8_refusal_X8_spans : GoodIn wsX8_refusal wsX8_spans := goodIn_r _ [13, 14, 15, 16, 17, 18] rfl (by decide +kernel)
set_option maxRecDepth 20000 in
theorem gX8_refusal_X8_spans : GoodIn wsX8_refusal (wsV RX8 33 RX8 yX8_spans wsX8_spans) := goodIn_app (goodIn_of _ (by decide +kernel)) ggX8_refusal_X8_spans
theorem dX8_refusal_0 : decode cX8_refusal 0 = .ok (.aload_n 0, 1) := kd_r kbX8_refusal ki_0 rfl
theorem dX8_refusal_1 : decode cX8_refusal 1 = .ok (.invokevirtual 29, 3) := kd_r kbX8_refusal ki_52 rfl
theorem dX8_refusal_4 : decode cX8_refusal 4 = .ok (.ifCond .eq 6, 3) := kd_r kbX8_refusal ki_292 rfl
theorem dX8_refusal_7 : decode cX8_refusal 7 = .ok (.bipush (-11), 2) := kd_r kbX8_refusal ki_387 rfl
theorem dX8_refusal_9 : decode cX8_refusal 9 = .ok (.ireturn, 1) := kd_r kbX8_refusal ki_7 rfl
theorem dX8_refusal_10 : decode cX8_refusal 10 = .ok (.aload_n 0, 1) := kd_r kbX8_refusal ki_0 rfl
theorem dX8_refusal_11 : decode cX8_refusal 11 = .ok (.getfield 15, 3) := kd_r kbX8_refusal ki_6 rfl
theorem dX8_refusal_14 : decode cX8_refusal 14 = .ok (.invokestatic 19, 3) := kd_r kbX8_refusal ki_9 rfl
theorem dX8_refusal_17 : decode cX8_refusal 17 = .ok (.ifCond .ne 6, 3) := kd_r kbX8_refusal ki_388 rfl
theorem dX8_refusal_20 : decode cX8_refusal 20 = .ok (.bipush (-12), 2) := kd_r kbX8_refusal ki_389 rfl
theorem dX8_refusal_22 : decode cX8_refusal 22 = .ok (.ireturn, 1) := kd_r kbX8_refusal ki_7 rfl
theorem dX8_refusal_23 : decode cX8_refusal 23 = .ok (.aload_n 0, 1) := kd_r kbX8_refusal ki_0 rfl
theorem dX8_refusal_24 : decode cX8_refusal 24 = .ok (.iload_n 1, 1) := kd_r kbX8_refusal ki_8 rfl
theorem dX8_refusal_25 : decode cX8_refusal 25 = .ok (.iconst 1, 1) := kd_r kbX8_refusal ki_16 rfl
theorem dX8_refusal_26 : decode cX8_refusal 26 = .ok (.invokevirtual 33, 3) := kd_r kbX8_refusal ki_294 rfl
theorem dX8_refusal_29 : decode cX8_refusal 29 = .ok (.ifCond .eq 7, 3) := kd_r kbX8_refusal ki_18 rfl
theorem dX8_refusal_32 : decode cX8_refusal 32 = .ok (.iconst 0, 1) := kd_r kbX8_refusal ki_20 rfl
theorem dX8_refusal_33 : decode cX8_refusal 33 = .ok (.goto 5, 3) := kd_r kbX8_refusal ki_342 rfl
theorem dX8_refusal_36 : decode cX8_refusal 36 = .ok (.bipush (-13), 2) := kd_r kbX8_refusal ki_390 rfl
theorem dX8_refusal_38 : decode cX8_refusal 38 = .ok (.ireturn, 1) := kd_r kbX8_refusal ki_7 rfl
theorem dX8_spans_0 : decode cX8_spans 0 = .ok (.iload_n 1, 1) := kd_r kbX8_spans ki_8 rfl
theorem dX8_spans_1 : decode cX8_spans 1 = .ok (.ifCond .lt 29, 3) := kd_r kbX8_spans ki_391 rfl
theorem dX8_spans_4 : decode cX8_spans 4 = .ok (.iload_n 2, 1) := kd_r kbX8_spans ki_11 rfl
theorem dX8_spans_5 : decode cX8_spans 5 = .ok (.ifCond .lt 25, 3) := kd_r kbX8_spans ki_267 rfl
theorem dX8_spans_8 : decode cX8_spans 8 = .ok (.iload_n 1, 1) := kd_r kbX8_spans ki_8 rfl
theorem dX8_spans_9 : decode cX8_spans 9 = .ok (.aload_n 0, 1) := kd_r kbX8_spans ki_0 rfl
theorem dX8_spans_10 : decode cX8_spans 10 = .ok (.getfield 26, 3) := kd_r kbX8_spans ki_49 rfl
theorem dX8_spans_13 : decode cX8_spans 13 = .ok (.if_icmp .gt 17, 3) := kd_r kbX8_spans ki_392 rfl
theorem dX8_spans_16 : decode cX8_spans 16 = .ok (.iload_n 2, 1) := kd_r kbX8_spans ki_11 rfl
theorem dX8_spans_17 : decode cX8_spans 17 = .ok (.aload_n 0, 1) := kd_r kbX8_spans ki_0 rfl
theorem dX8_spans_18 : decode cX8_spans 18 = .ok (.getfield 26, 3) := kd_r kbX8_spans ki_49 rfl
theorem dX8_spans_21 : decode cX8_spans 21 = .ok (.iload_n 1, 1) := kd_r kbX8_spans ki_8 rfl
theorem dX8_spans_22 : decode cX8_spans 22 = .ok (.isub, 1) := kd_r kbX8_spans ki_50 rfl
theorem dX8_spans_23 : decode cX8_spans 23 = .ok (.if_icmp .gt 7, 3) := kd_r kbX8_spans ki_191 rfl
theorem dX8_spans_26 : decode cX8_spans 26 = .ok (.iconst 1, 1) := kd_r kbX8_spans ki_16 rfl
theorem dX8_spans_27 : decode cX8_spans 27 = .ok (.goto 4, 3) := kd_r kbX8_spans ki_19 rfl
theorem dX8_spans_30 : decode cX8_spans 30 = .ok (.iconst 0, 1) := kd_r kbX8_spans ki_20 rfl
theorem dX8_spans_31 : decode cX8_spans 31 = .ok (.ireturn, 1) := kd_r kbX8_spans ki_7 rfl
set_option maxRecDepth 20000 in
theorem ggX8_read_X8_spans : GoodIn wsX8_read wsX8_spans := goodIn_r _ [6, 7, 8, 9, 10, 11] rfl (by decide +kernel)
set_option maxRecDepth 20000 in
theorem gX8_read_X8_spans : GoodIn wsX8_read (wsV RX8 33 RX8 yX8_spans wsX8_spans) := goodIn_app (goodIn_of _ (by decide +kernel)) ggX8_read_X8_spans
theorem dX8_read_0 : decode cX8_read 0 = .ok (.aload_n 0, 1) := kd_r kbX8_read ki_0 rfl
theorem dX8_read_1 : decode cX8_read 1 = .ok (.iload_n 1, 1) := kd_r kbX8_read ki_8 rfl
theorem dX8_read_2 : decode cX8_read 2 = .ok (.iconst 1, 1) := kd_r kbX8_read ki_16 rfl
theorem dX8_read_3 : decode cX8_read 3 = .ok (.invokevirtual 33, 3) := kd_r kbX8_read ki_294 rfl
theorem dX8_read_6 : decode cX8_read 6 = .ok (.ifCond .eq 12, 3) := kd_r kbX8_read ki_122 rfl
theorem dX8_read_9 : decode cX8_read 9 = .ok (.aload_n 0, 1) := kd_r kbX8_read ki_0 rfl
theorem dX8_read_10 : decode cX8_read 10 = .ok (.getfield 11, 3) := kd_r kbX8_read ki_86 rfl
theorem dX8_read_13 : decode cX8_read 13 = .ok (.iload_n 1, 1) := kd_r kbX8_read ki_8 rfl
theorem dX8_read_14 : decode cX8_read 14 = .ok (.laload, 1) := kd_r kbX8_read ki_149 rfl
theorem dX8_read_15 : decode cX8_read 15 = .ok (.goto 4, 3) := kd_r kbX8_read ki_19 rfl
theorem dX8_read_18 : decode cX8_read 18 = .ok (.lconst 0, 1) := kd_r kbX8_read ki_172 rfl
theorem dX8_read_19 : decode cX8_read 19 = .ok (.lreturn, 1) := kd_r kbX8_read ki_393 rfl
set_option maxRecDepth 20000 in
theorem ggX8_write_X8_spans : GoodIn wsX8_write wsX8_spans := goodIn_r _ [6, 7, 13, 14, 15, 16] rfl (by decide +kernel)
set_option maxRecDepth 20000 in
theorem gX8_write_X8_spans : GoodIn wsX8_write (wsV RX8 33 RX8 yX8_spans wsX8_spans) := goodIn_app (goodIn_of _ (by decide +kernel)) ggX8_write_X8_spans
set_option maxRecDepth 20000 in
theorem ggX8_write_X8_cut : GoodIn wsX8_write wsX8_cut := goodIn_r _ [11, 12, 13, 14, 15, 16] rfl (by decide +kernel)
set_option maxRecDepth 20000 in
theorem gX8_write_X8_cut : GoodIn wsX8_write (wsV RX8 37 RX8 yX8_cut wsX8_cut) := goodIn_app (goodIn_of _ (by decide +kernel)) ggX8_write_X8_cut
theorem dX8_write_0 : decode cX8_write 0 = .ok (.aload_n 0, 1) := kd_r kbX8_write ki_0 rfl
theorem dX8_write_1 : decode cX8_write 1 = .ok (.iload_n 1, 1) := kd_r kbX8_write ki_8 rfl
theorem dX8_write_2 : decode cX8_write 2 = .ok (.iconst 1, 1) := kd_r kbX8_write ki_16 rfl
theorem dX8_write_3 : decode cX8_write 3 = .ok (.invokevirtual 33, 3) := kd_r kbX8_write ki_294 rfl
theorem dX8_write_6 : decode cX8_write 6 = .ok (.ifCond .eq 14, 3) := kd_r kbX8_write ki_394 rfl
theorem dX8_write_9 : decode cX8_write 9 = .ok (.aload_n 0, 1) := kd_r kbX8_write ki_0 rfl
theorem dX8_write_10 : decode cX8_write 10 = .ok (.getfield 11, 3) := kd_r kbX8_write ki_86 rfl
theorem dX8_write_13 : decode cX8_write 13 = .ok (.iload_n 1, 1) := kd_r kbX8_write ki_8 rfl
theorem dX8_write_14 : decode cX8_write 14 = .ok (.aload_n 0, 1) := kd_r kbX8_write ki_0 rfl
theorem dX8_write_15 : decode cX8_write 15 = .ok (.lload_n 2, 1) := kd_r kbX8_write ki_138 rfl
theorem dX8_write_16 : decode cX8_write 16 = .ok (.invokevirtual 37, 3) := kd_r kbX8_write ki_395 rfl
theorem dX8_write_19 : decode cX8_write 19 = .ok (.lastore, 1) := kd_r kbX8_write ki_142 rfl
theorem dX8_write_20 : decode cX8_write 20 = .ok (.return_, 1) := kd_r kbX8_write ki_5 rfl
theorem dX8_cut_0 : decode cX8_cut 0 = .ok (.aload_n 0, 1) := kd_r kbX8_cut ki_0 rfl
theorem dX8_cut_1 : decode cX8_cut 1 = .ok (.getfield 15, 3) := kd_r kbX8_cut ki_6 rfl
theorem dX8_cut_4 : decode cX8_cut 4 = .ok (.tableswitch 62 0 4 #[36, 41, 46, 62, 50], 36) := by decide +kernel
theorem dX8_cut_40 : decode cX8_cut 40 = .ok (.lload_n 1, 1) := kd_r kbX8_cut ki_396 rfl
theorem dX8_cut_41 : decode cX8_cut 41 = .ok (.l2i, 1) := kd_r kbX8_cut ki_397 rfl
theorem dX8_cut_42 : decode cX8_cut 42 = .ok (.i2b, 1) := kd_r kbX8_cut ki_398 rfl
theorem dX8_cut_43 : decode cX8_cut 43 = .ok (.i2l, 1) := kd_r kbX8_cut ki_399 rfl
theorem dX8_cut_44 : decode cX8_cut 44 = .ok (.lreturn, 1) := kd_r kbX8_cut ki_393 rfl
theorem dX8_cut_45 : decode cX8_cut 45 = .ok (.lload_n 1, 1) := kd_r kbX8_cut ki_396 rfl
theorem dX8_cut_46 : decode cX8_cut 46 = .ok (.l2i, 1) := kd_r kbX8_cut ki_397 rfl
theorem dX8_cut_47 : decode cX8_cut 47 = .ok (.i2s, 1) := kd_r kbX8_cut ki_400 rfl
theorem dX8_cut_48 : decode cX8_cut 48 = .ok (.i2l, 1) := kd_r kbX8_cut ki_399 rfl
theorem dX8_cut_49 : decode cX8_cut 49 = .ok (.lreturn, 1) := kd_r kbX8_cut ki_393 rfl
theorem dX8_cut_50 : decode cX8_cut 50 = .ok (.lload_n 1, 1) := kd_r kbX8_cut ki_396 rfl
theorem dX8_cut_51 : decode cX8_cut 51 = .ok (.l2i, 1) := kd_r kbX8_cut ki_397 rfl
theorem dX8_cut_52 : decode cX8_cut 52 = .ok (.i2l, 1) := kd_r kbX8_cut ki_399 rfl
theorem dX8_cut_53 : decode cX8_cut 53 = .ok (.lreturn, 1) := kd_r kbX8_cut ki_393 rfl
theorem dX8_cut_54 : decode cX8_cut 54 = .ok (.lload_n 1, 1) := kd_r kbX8_cut ki_396 rfl
theorem dX8_cut_55 : decode cX8_cut 55 = .ok (.lconst 0, 1) := kd_r kbX8_cut ki_172 rfl
theorem dX8_cut_56 : decode cX8_cut 56 = .ok (.lcmp, 1) := kd_r kbX8_cut ki_173 rfl
theorem dX8_cut_57 : decode cX8_cut 57 = .ok (.ifCond .eq 7, 3) := kd_r kbX8_cut ki_18 rfl
theorem dX8_cut_60 : decode cX8_cut 60 = .ok (.lconst 1, 1) := kd_r kbX8_cut ki_124 rfl
theorem dX8_cut_61 : decode cX8_cut 61 = .ok (.goto 4, 3) := kd_r kbX8_cut ki_19 rfl
theorem dX8_cut_64 : decode cX8_cut 64 = .ok (.lconst 0, 1) := kd_r kbX8_cut ki_172 rfl
theorem dX8_cut_65 : decode cX8_cut 65 = .ok (.lreturn, 1) := kd_r kbX8_cut ki_393 rfl
theorem dX8_cut_66 : decode cX8_cut 66 = .ok (.lload_n 1, 1) := kd_r kbX8_cut ki_396 rfl
theorem dX8_cut_67 : decode cX8_cut 67 = .ok (.lreturn, 1) := kd_r kbX8_cut ki_393 rfl
set_option maxRecDepth 20000 in
theorem ggX8_copyTo_X8_spans : GoodIn wsX8_copyTo wsX8_spans := goodIn_r _ [10, 11, 12, 13, 14, 15] rfl (by decide +kernel)
set_option maxRecDepth 20000 in
theorem gX8_copyTo_X8_spans : GoodIn wsX8_copyTo (wsV RX8 33 RX8 yX8_spans wsX8_spans) := goodIn_app (goodIn_of _ (by decide +kernel)) ggX8_copyTo_X8_spans
theorem dX8_copyTo_0 : decode cX8_copyTo 0 = .ok (.aload_n 0, 1) := kd_r kbX8_copyTo ki_0 rfl
theorem dX8_copyTo_1 : decode cX8_copyTo 1 = .ok (.iload_n 2, 1) := kd_r kbX8_copyTo ki_11 rfl
theorem dX8_copyTo_2 : decode cX8_copyTo 2 = .ok (.iload 4, 2) := kd_r kbX8_copyTo ki_57 rfl
theorem dX8_copyTo_4 : decode cX8_copyTo 4 = .ok (.invokevirtual 33, 3) := kd_r kbX8_copyTo ki_294 rfl
theorem dX8_copyTo_7 : decode cX8_copyTo 7 = .ok (.ifCond .eq 28, 3) := kd_r kbX8_copyTo ki_401 rfl
theorem dX8_copyTo_10 : decode cX8_copyTo 10 = .ok (.aload_n 1, 1) := kd_r kbX8_copyTo ki_69 rfl
theorem dX8_copyTo_11 : decode cX8_copyTo 11 = .ok (.iload_n 3, 1) := kd_r kbX8_copyTo ki_55 rfl
theorem dX8_copyTo_12 : decode cX8_copyTo 12 = .ok (.iload 4, 2) := kd_r kbX8_copyTo ki_57 rfl
theorem dX8_copyTo_14 : decode cX8_copyTo 14 = .ok (.invokevirtual 33, 3) := kd_r kbX8_copyTo ki_294 rfl
theorem dX8_copyTo_17 : decode cX8_copyTo 17 = .ok (.ifCond .eq 18, 3) := kd_r kbX8_copyTo ki_252 rfl
theorem dX8_copyTo_20 : decode cX8_copyTo 20 = .ok (.aload_n 0, 1) := kd_r kbX8_copyTo ki_0 rfl
theorem dX8_copyTo_21 : decode cX8_copyTo 21 = .ok (.getfield 11, 3) := kd_r kbX8_copyTo ki_86 rfl
theorem dX8_copyTo_24 : decode cX8_copyTo 24 = .ok (.iload_n 2, 1) := kd_r kbX8_copyTo ki_11 rfl
theorem dX8_copyTo_25 : decode cX8_copyTo 25 = .ok (.aload_n 1, 1) := kd_r kbX8_copyTo ki_69 rfl
theorem dX8_copyTo_26 : decode cX8_copyTo 26 = .ok (.getfield 11, 3) := kd_r kbX8_copyTo ki_86 rfl
theorem dX8_copyTo_29 : decode cX8_copyTo 29 = .ok (.iload_n 3, 1) := kd_r kbX8_copyTo ki_55 rfl
theorem dX8_copyTo_30 : decode cX8_copyTo 30 = .ok (.iload 4, 2) := kd_r kbX8_copyTo ki_57 rfl
theorem dX8_copyTo_32 : decode cX8_copyTo 32 = .ok (.invokestatic 41, 3) := kd_r kbX8_copyTo ki_234 rfl
theorem dX8_copyTo_35 : decode cX8_copyTo 35 = .ok (.return_, 1) := kd_r kbX8_copyTo ki_5 rfl
theorem dX9_init_0 : decode cX9_init 0 = .ok (.aload_n 0, 1) := kd_r kbX9_init ki_0 rfl
theorem dX9_init_1 : decode cX9_init 1 = .ok (.invokespecial 3, 3) := kd_r kbX9_init ki_1 rfl
theorem dX9_init_4 : decode cX9_init 4 = .ok (.aload_n 0, 1) := kd_r kbX9_init ki_0 rfl
theorem dX9_init_5 : decode cX9_init 5 = .ok (.bipush 40, 2) := kd_r kbX9_init ki_44 rfl
theorem dX9_init_7 : decode cX9_init 7 = .ok (.newarray .int, 2) := kd_r kbX9_init ki_3 rfl
theorem dX9_init_9 : decode cX9_init 9 = .ok (.putfield 9, 3) := kd_r kbX9_init ki_4 rfl
theorem dX9_init_12 : decode cX9_init 12 = .ok (.aload_n 0, 1) := kd_r kbX9_init ki_0 rfl
theorem dX9_init_13 : decode cX9_init 13 = .ok (.bipush 40, 2) := kd_r kbX9_init ki_44 rfl
theorem dX9_init_15 : decode cX9_init 15 = .ok (.newarray .int, 2) := kd_r kbX9_init ki_3 rfl
theorem dX9_init_17 : decode cX9_init 17 = .ok (.putfield 15, 3) := kd_r kbX9_init ki_31 rfl
theorem dX9_init_20 : decode cX9_init 20 = .ok (.aload_n 0, 1) := kd_r kbX9_init ki_0 rfl
theorem dX9_init_21 : decode cX9_init 21 = .ok (.bipush 40, 2) := kd_r kbX9_init ki_44 rfl
theorem dX9_init_23 : decode cX9_init 23 = .ok (.newarray .int, 2) := kd_r kbX9_init ki_3 rfl
theorem dX9_init_25 : decode cX9_init 25 = .ok (.putfield 18, 3) := kd_r kbX9_init ki_73 rfl
theorem dX9_init_28 : decode cX9_init 28 = .ok (.return_, 1) := kd_r kbX9_init ki_5 rfl
theorem dX9_size_0 : decode cX9_size 0 = .ok (.aload_n 0, 1) := kd_r kbX9_size ki_0 rfl
theorem dX9_size_1 : decode cX9_size 1 = .ok (.getfield 21, 3) := kd_r kbX9_size ki_94 rfl
theorem dX9_size_4 : decode cX9_size 4 = .ok (.ireturn, 1) := kd_r kbX9_size ki_7 rfl
theorem dX9_isFull_0 : decode cX9_isFull 0 = .ok (.aload_n 0, 1) := kd_r kbX9_isFull ki_0 rfl
theorem dX9_isFull_1 : decode cX9_isFull 1 = .ok (.getfield 21, 3) := kd_r kbX9_isFull ki_94 rfl
theorem dX9_isFull_4 : decode cX9_isFull 4 = .ok (.bipush 40, 2) := kd_r kbX9_isFull ki_44 rfl
theorem dX9_isFull_6 : decode cX9_isFull 6 = .ok (.if_icmp .lt 7, 3) := kd_r kbX9_isFull ki_51 rfl
theorem dX9_isFull_9 : decode cX9_isFull 9 = .ok (.iconst 1, 1) := kd_r kbX9_isFull ki_16 rfl
theorem dX9_isFull_10 : decode cX9_isFull 10 = .ok (.goto 4, 3) := kd_r kbX9_isFull ki_19 rfl
theorem dX9_isFull_13 : decode cX9_isFull 13 = .ok (.iconst 0, 1) := kd_r kbX9_isFull ki_20 rfl
theorem dX9_isFull_14 : decode cX9_isFull 14 = .ok (.ireturn, 1) := kd_r kbX9_isFull ki_7 rfl
theorem dX9_clear_0 : decode cX9_clear 0 = .ok (.aload_n 0, 1) := kd_r kbX9_clear ki_0 rfl
theorem dX9_clear_1 : decode cX9_clear 1 = .ok (.iconst 0, 1) := kd_r kbX9_clear ki_20 rfl
theorem dX9_clear_2 : decode cX9_clear 2 = .ok (.putfield 21, 3) := kd_r kbX9_clear ki_75 rfl
theorem dX9_clear_5 : decode cX9_clear 5 = .ok (.return_, 1) := kd_r kbX9_clear ki_5 rfl
theorem dX9_has_0 : decode cX9_has 0 = .ok (.iload_n 1, 1) := kd_r kbX9_has ki_8 rfl
theorem dX9_has_1 : decode cX9_has 1 = .ok (.ifCond .lt 15, 3) := kd_r kbX9_has ki_291 rfl
theorem dX9_has_4 : decode cX9_has 4 = .ok (.iload_n 1, 1) := kd_r kbX9_has ki_8 rfl
theorem dX9_has_5 : decode cX9_has 5 = .ok (.aload_n 0, 1) := kd_r kbX9_has ki_0 rfl
theorem dX9_has_6 : decode cX9_has 6 = .ok (.getfield 21, 3) := kd_r kbX9_has ki_94 rfl
theorem dX9_has_9 : decode cX9_has 9 = .ok (.if_icmp .ge 7, 3) := kd_r kbX9_has ki_42 rfl
theorem dX9_has_12 : decode cX9_has 12 = .ok (.iconst 1, 1) := kd_r kbX9_has ki_16 rfl
theorem dX9_has_13 : decode cX9_has 13 = .ok (.goto 4, 3) := kd_r kbX9_has ki_19 rfl
theorem dX9_has_16 : decode cX9_has 16 = .ok (.iconst 0, 1) := kd_r kbX9_has ki_20 rfl
theorem dX9_has_17 : decode cX9_has 17 = .ok (.ireturn, 1) := kd_r kbX9_has ki_7 rfl
set_option maxRecDepth 20000 in
theorem ggX9_hasRow_X9_has : GoodIn wsX9_hasRow wsX9_has := goodIn_r _ [5, 6, 7, 8, 9, 10] rfl (by decide +kernel)
set_option maxRecDepth 20000 in
theorem gX9_hasRow_X9_has : GoodIn wsX9_hasRow (wsV RX9 25 RX9 yX9_has wsX9_has) := goodIn_app (goodIn_of _ (by decide +kernel)) ggX9_hasRow_X9_has
theorem dX9_hasRow_0 : decode cX9_hasRow 0 = .ok (.iload_n 1, 1) := kd_r kbX9_hasRow ki_8 rfl
theorem dX9_hasRow_1 : decode cX9_hasRow 1 = .ok (.ifCond .lt 29, 3) := kd_r kbX9_hasRow ki_391 rfl
theorem dX9_hasRow_4 : decode cX9_hasRow 4 = .ok (.iload_n 1, 1) := kd_r kbX9_hasRow ki_8 rfl
theorem dX9_hasRow_5 : decode cX9_hasRow 5 = .ok (.bipush 100, 2) := kd_r kbX9_hasRow ki_228 rfl
theorem dX9_hasRow_7 : decode cX9_hasRow 7 = .ok (.idiv, 1) := kd_r kbX9_hasRow ki_225 rfl
theorem dX9_hasRow_8 : decode cX9_hasRow 8 = .ok (.iload_n 1, 1) := kd_r kbX9_hasRow ki_8 rfl
theorem dX9_hasRow_9 : decode cX9_hasRow 9 = .ok (.bipush 100, 2) := kd_r kbX9_hasRow ki_228 rfl
theorem dX9_hasRow_11 : decode cX9_hasRow 11 = .ok (.irem, 1) := kd_r kbX9_hasRow ki_227 rfl
theorem dX9_hasRow_12 : decode cX9_hasRow 12 = .ok (.if_icmp .gt 18, 3) := kd_r kbX9_hasRow ki_402 rfl
theorem dX9_hasRow_15 : decode cX9_hasRow 15 = .ok (.aload_n 0, 1) := kd_r kbX9_hasRow ki_0 rfl
theorem dX9_hasRow_16 : decode cX9_hasRow 16 = .ok (.iload_n 1, 1) := kd_r kbX9_hasRow ki_8 rfl
theorem dX9_hasRow_17 : decode cX9_hasRow 17 = .ok (.bipush 100, 2) := kd_r kbX9_hasRow ki_228 rfl
theorem dX9_hasRow_19 : decode cX9_hasRow 19 = .ok (.irem, 1) := kd_r kbX9_hasRow ki_227 rfl
theorem dX9_hasRow_20 : decode cX9_hasRow 20 = .ok (.invokevirtual 25, 3) := kd_r kbX9_hasRow ki_192 rfl
theorem dX9_hasRow_23 : decode cX9_hasRow 23 = .ok (.ifCond .eq 7, 3) := kd_r kbX9_hasRow ki_18 rfl
theorem dX9_hasRow_26 : decode cX9_hasRow 26 = .ok (.iconst 1, 1) := kd_r kbX9_hasRow ki_16 rfl
theorem dX9_hasRow_27 : decode cX9_hasRow 27 = .ok (.goto 4, 3) := kd_r kbX9_hasRow ki_19 rfl
theorem dX9_hasRow_30 : decode cX9_hasRow 30 = .ok (.iconst 0, 1) := kd_r kbX9_hasRow ki_20 rfl
theorem dX9_hasRow_31 : decode cX9_hasRow 31 = .ok (.ireturn, 1) := kd_r kbX9_hasRow ki_7 rfl
theorem dX9_allows_0 : decode cX9_allows 0 = .ok (.iload_n 1, 1) := kd_r kbX9_allows ki_8 rfl
theorem dX9_allows_1 : decode cX9_allows 1 = .ok (.ifCond .ne 21, 3) := kd_r kbX9_allows ki_403 rfl
theorem dX9_allows_4 : decode cX9_allows 4 = .ok (.iload_n 3, 1) := kd_r kbX9_allows ki_55 rfl
theorem dX9_allows_5 : decode cX9_allows 5 = .ok (.iconst 1, 1) := kd_r kbX9_allows ki_16 rfl
theorem dX9_allows_6 : decode cX9_allows 6 = .ok (.if_icmp .lt 14, 3) := kd_r kbX9_allows ki_341 rfl
theorem dX9_allows_9 : decode cX9_allows 9 = .ok (.iload_n 3, 1) := kd_r kbX9_allows ki_55 rfl
theorem dX9_allows_10 : decode cX9_allows 10 = .ok (.sipush 999, 3) := kd_r kbX9_allows ki_404 rfl
theorem dX9_allows_13 : decode cX9_allows 13 = .ok (.if_icmp .gt 7, 3) := kd_r kbX9_allows ki_191 rfl
theorem dX9_allows_16 : decode cX9_allows 16 = .ok (.iconst 1, 1) := kd_r kbX9_allows ki_16 rfl
theorem dX9_allows_17 : decode cX9_allows 17 = .ok (.goto 4, 3) := kd_r kbX9_allows ki_19 rfl
theorem dX9_allows_20 : decode cX9_allows 20 = .ok (.iconst 0, 1) := kd_r kbX9_allows ki_20 rfl
theorem dX9_allows_21 : decode cX9_allows 21 = .ok (.ireturn, 1) := kd_r kbX9_allows ki_7 rfl
theorem dX9_allows_22 : decode cX9_allows 22 = .ok (.iload_n 1, 1) := kd_r kbX9_allows ki_8 rfl
theorem dX9_allows_23 : decode cX9_allows 23 = .ok (.iconst 1, 1) := kd_r kbX9_allows ki_16 rfl
theorem dX9_allows_24 : decode cX9_allows 24 = .ok (.if_icmp .ne 20, 3) := kd_r kbX9_allows ki_405 rfl
theorem dX9_allows_27 : decode cX9_allows 27 = .ok (.iload_n 3, 1) := kd_r kbX9_allows ki_55 rfl
theorem dX9_allows_28 : decode cX9_allows 28 = .ok (.ifCond .lt 14, 3) := kd_r kbX9_allows ki_406 rfl
theorem dX9_allows_31 : decode cX9_allows 31 = .ok (.iload_n 3, 1) := kd_r kbX9_allows ki_55 rfl
theorem dX9_allows_32 : decode cX9_allows 32 = .ok (.sipush 999, 3) := kd_r kbX9_allows ki_404 rfl
theorem dX9_allows_35 : decode cX9_allows 35 = .ok (.if_icmp .gt 7, 3) := kd_r kbX9_allows ki_191 rfl
theorem dX9_allows_38 : decode cX9_allows 38 = .ok (.iconst 1, 1) := kd_r kbX9_allows ki_16 rfl
theorem dX9_allows_39 : decode cX9_allows 39 = .ok (.goto 4, 3) := kd_r kbX9_allows ki_19 rfl
theorem dX9_allows_42 : decode cX9_allows 42 = .ok (.iconst 0, 1) := kd_r kbX9_allows ki_20 rfl
theorem dX9_allows_43 : decode cX9_allows 43 = .ok (.ireturn, 1) := kd_r kbX9_allows ki_7 rfl
theorem dX9_allows_44 : decode cX9_allows 44 = .ok (.iload_n 2, 1) := kd_r kbX9_allows ki_11 rfl
theorem dX9_allows_45 : decode cX9_allows 45 = .ok (.ifCond .ne 15, 3) := kd_r kbX9_allows ki_407 rfl
theorem dX9_allows_48 : decode cX9_allows 48 = .ok (.iload_n 3, 1) := kd_r kbX9_allows ki_55 rfl
theorem dX9_allows_49 : decode cX9_allows 49 = .ok (.ifCond .ne 7, 3) := kd_r kbX9_allows ki_260 rfl
theorem dX9_allows_52 : decode cX9_allows 52 = .ok (.iconst 1, 1) := kd_r kbX9_allows ki_16 rfl
theorem dX9_allows_53 : decode cX9_allows 53 = .ok (.goto 24, 3) := kd_r kbX9_allows ki_408 rfl
theorem dX9_allows_56 : decode cX9_allows 56 = .ok (.iconst 0, 1) := kd_r kbX9_allows ki_20 rfl
theorem dX9_allows_57 : decode cX9_allows 57 = .ok (.goto 20, 3) := kd_r kbX9_allows ki_409 rfl
theorem dX9_allows_60 : decode cX9_allows 60 = .ok (.iload_n 3, 1) := kd_r kbX9_allows ki_55 rfl
theorem dX9_allows_61 : decode cX9_allows 61 = .ok (.bipush (-99), 2) := kd_r kbX9_allows ki_410 rfl
theorem dX9_allows_63 : decode cX9_allows 63 = .ok (.if_icmp .lt 13, 3) := kd_r kbX9_allows ki_189 rfl
theorem dX9_allows_66 : decode cX9_allows 66 = .ok (.iload_n 3, 1) := kd_r kbX9_allows ki_55 rfl
theorem dX9_allows_67 : decode cX9_allows 67 = .ok (.bipush 99, 2) := kd_r kbX9_allows ki_411 rfl
theorem dX9_allows_69 : decode cX9_allows 69 = .ok (.if_icmp .gt 7, 3) := kd_r kbX9_allows ki_191 rfl
theorem dX9_allows_72 : decode cX9_allows 72 = .ok (.iconst 1, 1) := kd_r kbX9_allows ki_16 rfl
theorem dX9_allows_73 : decode cX9_allows 73 = .ok (.goto 4, 3) := kd_r kbX9_allows ki_19 rfl
theorem dX9_allows_76 : decode cX9_allows 76 = .ok (.iconst 0, 1) := kd_r kbX9_allows ki_20 rfl
theorem dX9_allows_77 : decode cX9_allows 77 = .ok (.ireturn, 1) := kd_r kbX9_allows ki_7 rfl
set_option maxRecDepth 20000 in
theorem ggX9_wouldTake_X9_allows : GoodIn wsX9_wouldTake wsX9_allows := goodIn_r _ [6] rfl (by decide +kernel)
set_option maxRecDepth 20000 in
theorem gX9_wouldTake_X9_allows : GoodIn wsX9_wouldTake (wsV RX9 29 RX9 yX9_allows wsX9_allows) := goodIn_app (goodIn_of _ (by decide +kernel)) ggX9_wouldTake_X9_allows
theorem dX9_wouldTake_0 : decode cX9_wouldTake 0 = .ok (.aload_n 0, 1) := kd_r kbX9_wouldTake ki_0 rfl
theorem dX9_wouldTake_1 : decode cX9_wouldTake 1 = .ok (.iconst 0, 1) := kd_r kbX9_wouldTake ki_20 rfl
theorem dX9_wouldTake_2 : decode cX9_wouldTake 2 = .ok (.aload_n 0, 1) := kd_r kbX9_wouldTake ki_0 rfl
theorem dX9_wouldTake_3 : decode cX9_wouldTake 3 = .ok (.getfield 21, 3) := kd_r kbX9_wouldTake ki_94 rfl
theorem dX9_wouldTake_6 : decode cX9_wouldTake 6 = .ok (.iload_n 1, 1) := kd_r kbX9_wouldTake ki_8 rfl
theorem dX9_wouldTake_7 : decode cX9_wouldTake 7 = .ok (.invokevirtual 29, 3) := kd_r kbX9_wouldTake ki_52 rfl
theorem dX9_wouldTake_10 : decode cX9_wouldTake 10 = .ok (.ifCond .eq 33, 3) := kd_r kbX9_wouldTake ki_412 rfl
theorem dX9_wouldTake_13 : decode cX9_wouldTake 13 = .ok (.aload_n 0, 1) := kd_r kbX9_wouldTake ki_0 rfl
theorem dX9_wouldTake_14 : decode cX9_wouldTake 14 = .ok (.iconst 1, 1) := kd_r kbX9_wouldTake ki_16 rfl
theorem dX9_wouldTake_15 : decode cX9_wouldTake 15 = .ok (.aload_n 0, 1) := kd_r kbX9_wouldTake ki_0 rfl
theorem dX9_wouldTake_16 : decode cX9_wouldTake 16 = .ok (.getfield 21, 3) := kd_r kbX9_wouldTake ki_94 rfl
theorem dX9_wouldTake_19 : decode cX9_wouldTake 19 = .ok (.iload_n 2, 1) := kd_r kbX9_wouldTake ki_11 rfl
theorem dX9_wouldTake_20 : decode cX9_wouldTake 20 = .ok (.invokevirtual 29, 3) := kd_r kbX9_wouldTake ki_52 rfl
theorem dX9_wouldTake_23 : decode cX9_wouldTake 23 = .ok (.ifCond .eq 20, 3) := kd_r kbX9_wouldTake ki_12 rfl
theorem dX9_wouldTake_26 : decode cX9_wouldTake 26 = .ok (.aload_n 0, 1) := kd_r kbX9_wouldTake ki_0 rfl
theorem dX9_wouldTake_27 : decode cX9_wouldTake 27 = .ok (.iconst 2, 1) := kd_r kbX9_wouldTake ki_244 rfl
theorem dX9_wouldTake_28 : decode cX9_wouldTake 28 = .ok (.aload_n 0, 1) := kd_r kbX9_wouldTake ki_0 rfl
theorem dX9_wouldTake_29 : decode cX9_wouldTake 29 = .ok (.getfield 21, 3) := kd_r kbX9_wouldTake ki_94 rfl
theorem dX9_wouldTake_32 : decode cX9_wouldTake 32 = .ok (.iload_n 3, 1) := kd_r kbX9_wouldTake ki_55 rfl
theorem dX9_wouldTake_33 : decode cX9_wouldTake 33 = .ok (.invokevirtual 29, 3) := kd_r kbX9_wouldTake ki_52 rfl
theorem dX9_wouldTake_36 : decode cX9_wouldTake 36 = .ok (.ifCond .eq 7, 3) := kd_r kbX9_wouldTake ki_18 rfl
theorem dX9_wouldTake_39 : decode cX9_wouldTake 39 = .ok (.iconst 1, 1) := kd_r kbX9_wouldTake ki_16 rfl
theorem dX9_wouldTake_40 : decode cX9_wouldTake 40 = .ok (.goto 4, 3) := kd_r kbX9_wouldTake ki_19 rfl
theorem dX9_wouldTake_43 : decode cX9_wouldTake 43 = .ok (.iconst 0, 1) := kd_r kbX9_wouldTake ki_20 rfl
theorem dX9_wouldTake_44 : decode cX9_wouldTake 44 = .ok (.ireturn, 1) := kd_r kbX9_wouldTake ki_7 rfl
set_option maxRecDepth 20000 in
theorem ggX9_append_X9_insert : GoodIn wsX9_append wsX9_insert := goodIn_r _ [6, 1, 7, 8, 9, 10, 11, 12, 5, 13, 14, 15, 16, 17] rfl (by decide +kernel)
set_option maxRecDepth 20000 in
theorem gX9_append_X9_insert : GoodIn wsX9_append (wsV RX9 33 RX9 yX9_insert wsX9_insert) := goodIn_app (goodIn_of _ (by decide +kernel)) ggX9_append_X9_insert
theorem dX9_append_0 : decode cX9_append 0 = .ok (.aload_n 0, 1) := kd_r kbX9_append ki_0 rfl
theorem dX9_append_1 : decode cX9_append 1 = .ok (.aload_n 0, 1) := kd_r kbX9_append ki_0 rfl
theorem dX9_append_2 : decode cX9_append 2 = .ok (.getfield 21, 3) := kd_r kbX9_append ki_94 rfl
theorem dX9_append_5 : decode cX9_append 5 = .ok (.iload_n 1, 1) := kd_r kbX9_append ki_8 rfl
theorem dX9_append_6 : decode cX9_append 6 = .ok (.iload_n 2, 1) := kd_r kbX9_append ki_11 rfl
theorem dX9_append_7 : decode cX9_append 7 = .ok (.iload_n 3, 1) := kd_r kbX9_append ki_55 rfl
theorem dX9_append_8 : decode cX9_append 8 = .ok (.invokevirtual 33, 3) := kd_r kbX9_append ki_294 rfl
theorem dX9_append_11 : decode cX9_append 11 = .ok (.return_, 1) := kd_r kbX9_append ki_5 rfl
set_option maxRecDepth 20000 in
theorem ggX9_fact_X9_has : GoodIn wsX9_fact wsX9_has := goodIn_r _ [5, 6, 14, 15, 16, 17] rfl (by decide +kernel)
set_option maxRecDepth 20000 in
theorem gX9_fact_X9_has : GoodIn wsX9_fact (wsV RX9 25 RX9 yX9_has wsX9_has) := goodIn_app (goodIn_of _ (by decide +kernel)) ggX9_fact_X9_has
set_option maxRecDepth 20000 in
theorem ggX9_fact_X9_facts : GoodIn wsX9_fact wsX9_facts := goodIn_r _ [10, 11, 12, 13, 14, 15, 16, 17] rfl (by decide +kernel)
set_option maxRecDepth 20000 in
theorem gX9_fact_X9_facts : GoodIn wsX9_fact (wsV RX9 37 RX9 yX9_facts wsX9_facts) := goodIn_app (goodIn_of _ (by decide +kernel)) ggX9_fact_X9_facts
theorem dX9_fact_0 : decode cX9_fact 0 = .ok (.aload_n 0, 1) := kd_r kbX9_fact ki_0 rfl
theorem dX9_fact_1 : decode cX9_fact 1 = .ok (.iload_n 2, 1) := kd_r kbX9_fact ki_11 rfl
theorem dX9_fact_2 : decode cX9_fact 2 = .ok (.invokevirtual 25, 3) := kd_r kbX9_fact ki_192 rfl
theorem dX9_fact_5 : decode cX9_fact 5 = .ok (.ifCond .eq 13, 3) := kd_r kbX9_fact ki_413 rfl
theorem dX9_fact_8 : decode cX9_fact 8 = .ok (.aload_n 0, 1) := kd_r kbX9_fact ki_0 rfl
theorem dX9_fact_9 : decode cX9_fact 9 = .ok (.iload_n 1, 1) := kd_r kbX9_fact ki_8 rfl
theorem dX9_fact_10 : decode cX9_fact 10 = .ok (.invokevirtual 37, 3) := kd_r kbX9_fact ki_395 rfl
theorem dX9_fact_13 : decode cX9_fact 13 = .ok (.iload_n 2, 1) := kd_r kbX9_fact ki_11 rfl
theorem dX9_fact_14 : decode cX9_fact 14 = .ok (.iaload, 1) := kd_r kbX9_fact ki_14 rfl
theorem dX9_fact_15 : decode cX9_fact 15 = .ok (.goto 4, 3) := kd_r kbX9_fact ki_19 rfl
theorem dX9_fact_18 : decode cX9_fact 18 = .ok (.iconst 0, 1) := kd_r kbX9_fact ki_20 rfl
theorem dX9_fact_19 : decode cX9_fact 19 = .ok (.ireturn, 1) := kd_r kbX9_fact ki_7 rfl
set_option maxRecDepth 20000 in
theorem ggX9_tell_X9_has : GoodIn wsX9_tell wsX9_has := goodIn_r _ [5, 6, 14, 15, 16, 17] rfl (by decide +kernel)
set_option maxRecDepth 20000 in
theorem gX9_tell_X9_has : GoodIn wsX9_tell (wsV RX9 25 RX9 yX9_has wsX9_has) := goodIn_app (goodIn_of _ (by decide +kernel)) ggX9_tell_X9_has
set_option maxRecDepth 20000 in
theorem ggX9_tell_X9_facts : GoodIn wsX9_tell wsX9_facts := goodIn_r _ [10, 11, 12, 13, 14, 15, 16, 17] rfl (by decide +kernel)
set_option maxRecDepth 20000 in
theorem gX9_tell_X9_facts : GoodIn wsX9_tell (wsV RX9 37 RX9 yX9_facts wsX9_facts) := goodIn_app (goodIn_of _ (by decide +kernel)) ggX9_tell_X9_facts
theorem dX9_tell_0 : decode cX9_tell 0 = .ok (.aload_n 0, 1) := kd_r kbX9_tell ki_0 rfl
theorem dX9_tell_1 : decode cX9_tell 1 = .ok (.iload_n 2, 1) := kd_r kbX9_tell ki_11 rfl
theorem dX9_tell_2 : decode cX9_tell 2 = .ok (.invokevirtual 25, 3) := kd_r kbX9_tell ki_192 rfl
theorem dX9_tell_5 : decode cX9_tell 5 = .ok (.ifCond .eq 11, 3) := kd_r kbX9_tell ki_279 rfl
theorem dX9_tell_8 : decode cX9_tell 8 = .ok (.aload_n 0, 1) := kd_r kbX9_tell ki_0 rfl
theorem dX9_tell_9 : decode cX9_tell 9 = .ok (.iload_n 1, 1) := kd_r kbX9_tell ki_8 rfl
theorem dX9_tell_10 : decode cX9_tell 10 = .ok (.invokevirtual 37, 3) := kd_r kbX9_tell ki_395 rfl
theorem dX9_tell_13 : decode cX9_tell 13 = .ok (.iload_n 2, 1) := kd_r kbX9_tell ki_11 rfl
theorem dX9_tell_14 : decode cX9_tell 14 = .ok (.iload_n 3, 1) := kd_r kbX9_tell ki_55 rfl
theorem dX9_tell_15 : decode cX9_tell 15 = .ok (.iastore, 1) := kd_r kbX9_tell ki_28 rfl
theorem dX9_tell_16 : decode cX9_tell 16 = .ok (.return_, 1) := kd_r kbX9_tell ki_5 rfl
set_option maxRecDepth 20000 in
theorem ggX9_width_X9_has : GoodIn wsX9_width wsX9_has := goodIn_r _ [6, 7, 8, 9, 10, 11] rfl (by decide +kernel)
set_option maxRecDepth 20000 in
theorem gX9_width_X9_has : GoodIn wsX9_width (wsV RX9 25 RX9 yX9_has wsX9_has) := goodIn_app (goodIn_of _ (by decide +kernel)) ggX9_width_X9_has
theorem dX9_width_0 : decode cX9_width 0 = .ok (.aload_n 0, 1) := kd_r kbX9_width ki_0 rfl
theorem dX9_width_1 : decode cX9_width 1 = .ok (.iload_n 1, 1) := kd_r kbX9_width ki_8 rfl
theorem dX9_width_2 : decode cX9_width 2 = .ok (.invokevirtual 25, 3) := kd_r kbX9_width ki_192 rfl
theorem dX9_width_5 : decode cX9_width 5 = .ok (.ifCond .eq 12, 3) := kd_r kbX9_width ki_122 rfl
theorem dX9_width_8 : decode cX9_width 8 = .ok (.aload_n 0, 1) := kd_r kbX9_width ki_0 rfl
theorem dX9_width_9 : decode cX9_width 9 = .ok (.getfield 9, 3) := kd_r kbX9_width ki_13 rfl
theorem dX9_width_12 : decode cX9_width 12 = .ok (.iload_n 1, 1) := kd_r kbX9_width ki_8 rfl
theorem dX9_width_13 : decode cX9_width 13 = .ok (.iaload, 1) := kd_r kbX9_width ki_14 rfl
theorem dX9_width_14 : decode cX9_width 14 = .ok (.goto 4, 3) := kd_r kbX9_width ki_19 rfl
theorem dX9_width_17 : decode cX9_width 17 = .ok (.iconst 0, 1) := kd_r kbX9_width ki_20 rfl
theorem dX9_width_18 : decode cX9_width 18 = .ok (.ireturn, 1) := kd_r kbX9_width ki_7 rfl
set_option maxRecDepth 20000 in
theorem ggX9_aside_X9_has : GoodIn wsX9_aside wsX9_has := goodIn_r _ [6, 7, 8, 9, 10, 11] rfl (by decide +kernel)
set_option maxRecDepth 20000 in
theorem gX9_aside_X9_has : GoodIn wsX9_aside (wsV RX9 25 RX9 yX9_has wsX9_has) := goodIn_app (goodIn_of _ (by decide +kernel)) ggX9_aside_X9_has
theorem dX9_aside_0 : decode cX9_aside 0 = .ok (.aload_n 0, 1) := kd_r kbX9_aside ki_0 rfl
theorem dX9_aside_1 : decode cX9_aside 1 = .ok (.iload_n 1, 1) := kd_r kbX9_aside ki_8 rfl
theorem dX9_aside_2 : decode cX9_aside 2 = .ok (.invokevirtual 25, 3) := kd_r kbX9_aside ki_192 rfl
theorem dX9_aside_5 : decode cX9_aside 5 = .ok (.ifCond .eq 12, 3) := kd_r kbX9_aside ki_122 rfl
theorem dX9_aside_8 : decode cX9_aside 8 = .ok (.aload_n 0, 1) := kd_r kbX9_aside ki_0 rfl
theorem dX9_aside_9 : decode cX9_aside 9 = .ok (.getfield 18, 3) := kd_r kbX9_aside ki_87 rfl
theorem dX9_aside_12 : decode cX9_aside 12 = .ok (.iload_n 1, 1) := kd_r kbX9_aside ki_8 rfl
theorem dX9_aside_13 : decode cX9_aside 13 = .ok (.iaload, 1) := kd_r kbX9_aside ki_14 rfl
theorem dX9_aside_14 : decode cX9_aside 14 = .ok (.goto 4, 3) := kd_r kbX9_aside ki_19 rfl
theorem dX9_aside_17 : decode cX9_aside 17 = .ok (.iconst 0, 1) := kd_r kbX9_aside ki_20 rfl
theorem dX9_aside_18 : decode cX9_aside 18 = .ok (.ireturn, 1) := kd_r kbX9_aside ki_7 rfl
theorem dX9_facts_0 : decode cX9_facts 0 = .ok (.iload_n 1, 1) := kd_r kbX9_facts ki_8 rfl
theorem dX9_facts_1 : decode cX9_facts 1 = .ok (.ifCond .ne 10, 3) := kd_r kbX9_facts ki_414 rfl
theorem dX9_facts_4 : decode cX9_facts 4 = .ok (.aload_n 0, 1) := kd_r kbX9_facts ki_0 rfl
theorem dX9_facts_5 : decode cX9_facts 5 = .ok (.getfield 9, 3) := kd_r kbX9_facts ki_13 rfl
theorem dX9_facts_8 : decode cX9_facts 8 = .ok (.goto 19, 3) := kd_r kbX9_facts ki_238 rfl
theorem dX9_facts_11 : decode cX9_facts 11 = .ok (.iload_n 1, 1) := kd_r kbX9_facts ki_8 rfl
theorem dX9_facts_12 : decode cX9_facts 12 = .ok (.iconst 1, 1) := kd_r kbX9_facts ki_16 rfl
theorem dX9_facts_13 : decode cX9_facts 13 = .ok (.if_icmp .ne 10, 3) := kd_r kbX9_facts ki_415 rfl
theorem dX9_facts_16 : decode cX9_facts 16 = .ok (.aload_n 0, 1) := kd_r kbX9_facts ki_0 rfl
theorem dX9_facts_17 : decode cX9_facts 17 = .ok (.getfield 15, 3) := kd_r kbX9_facts ki_6 rfl
theorem dX9_facts_20 : decode cX9_facts 20 = .ok (.goto 7, 3) := kd_r kbX9_facts ki_416 rfl
theorem dX9_facts_23 : decode cX9_facts 23 = .ok (.aload_n 0, 1) := kd_r kbX9_facts ki_0 rfl
theorem dX9_facts_24 : decode cX9_facts 24 = .ok (.getfield 18, 3) := kd_r kbX9_facts ki_87 rfl
theorem dX9_facts_27 : decode cX9_facts 27 = .ok (.areturn, 1) := kd_r kbX9_facts ki_417 rfl
theorem dX9_begin_0 : decode cX9_begin 0 = .ok (.iconst 0, 1) := kd_r kbX9_begin ki_20 rfl
theorem dX9_begin_1 : decode cX9_begin 1 = .ok (.istore_n 2, 1) := kd_r kbX9_begin ki_32 rfl
theorem dX9_begin_2 : decode cX9_begin 2 = .ok (.iconst 0, 1) := kd_r kbX9_begin ki_20 rfl
theorem dX9_begin_3 : decode cX9_begin 3 = .ok (.istore_n 3, 1) := kd_r kbX9_begin ki_108 rfl
theorem dX9_begin_4 : decode cX9_begin 4 = .ok (.iload_n 3, 1) := kd_r kbX9_begin ki_55 rfl
